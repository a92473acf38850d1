theorem dX4_lengthenWord_19 : decode cX4_lengthenWord 19 = .ok (.aload_n 0, 1) := by decide +kernel
theorem dX4_lengthenWord_20 : decode cX4_lengthenWord 20 = .ok (.getfield 19, 3) := by decide +kernel
theorem dX4_lengthenWord_23 : decode cX4_lengthenWord 23 = .ok (.aload_n 0, 1) := by decide +kernel
theorem dX4_lengthenWord_24 : decode cX4_lengthenWord 24 = .ok (.getfield 52, 3) := by decide +kernel
theorem dX4_lengthenWord_27 : decode cX4_lengthenWord 27 = .ok (.iconst 1, 1) := by decide +kernel
theorem dX4_lengthenWord_28 : decode cX4_lengthenWord 28 = .ok (.isub, 1) := by decide +kernel
theorem dX4_lengthenWord_29 : decode cX4_lengthenWord 29 = .ok (.dup2, 1) := by decide +kernel
theorem dX4_lengthenWord_30 : decode cX4_lengthenWord 30 = .ok (.iaload, 1) := by decide +kernel
theorem dX4_lengthenWord_31 : decode cX4_lengthenWord 31 = .ok (.iconst 1, 1) := by decide +kernel
theorem dX4_lengthenWord_32 : decode cX4_lengthenWord 32 = .ok (.iadd, 1) := by decide +kernel
theorem dX4_lengthenWord_33 : decode cX4_lengthenWord 33 = .ok (.iastore, 1) := by decide +kernel
theorem dX4_lengthenWord_34 : decode cX4_lengthenWord 34 = .ok (.return_, 1) := by decide +kernel
theorem dX4_lengthOf_0 : decode cX4_lengthOf 0 = .ok (.iload_n 1, 1) := by decide +kernel
theorem dX4_lengthOf_1 : decode cX4_lengthOf 1 = .ok (.ifCond .lt 29, 3) := by decide +kernel
theorem dX4_lengthOf_4 : decode cX4_lengthOf 4 = .ok (.iload_n 1, 1) := by decide +kernel
theorem dX4_lengthOf_5 : decode cX4_lengthOf 5 = .ok (.aload_n 0, 1) := by decide +kernel
theorem dX4_lengthOf_6 : decode cX4_lengthOf 6 = .ok (.getfield 52, 3) := by decide +kernel
theorem dX4_lengthOf_9 : decode cX4_lengthOf 9 = .ok (.if_icmp .ge 21, 3) := by decide +kernel
theorem dX4_lengthOf_12 : decode cX4_lengthOf 12 = .ok (.iload_n 1, 1) := by decide +kernel
theorem dX4_lengthOf_13 : decode cX4_lengthOf 13 = .ok (.aload_n 0, 1) := by decide +kernel
theorem dX4_lengthOf_14 : decode cX4_lengthOf 14 = .ok (.getfield 19, 3) := by decide +kernel
theorem dX4_lengthOf_17 : decode cX4_lengthOf 17 = .ok (.arraylength, 1) := by decide +kernel
theorem dX4_lengthOf_18 : decode cX4_lengthOf 18 = .ok (.if_icmp .ge 12, 3) := by decide +kernel
theorem dX4_lengthOf_21 : decode cX4_lengthOf 21 = .ok (.aload_n 0, 1) := by decide +kernel
theorem dX4_lengthOf_22 : decode cX4_lengthOf 22 = .ok (.getfield 19, 3) := by decide +kernel
theorem dX4_lengthOf_25 : decode cX4_lengthOf 25 = .ok (.iload_n 1, 1) := by decide +kernel
theorem dX4_lengthOf_26 : decode cX4_lengthOf 26 = .ok (.iaload, 1) := by decide +kernel
theorem dX4_lengthOf_27 : decode cX4_lengthOf 27 = .ok (.goto 4, 3) := by decide +kernel
theorem dX4_lengthOf_30 : decode cX4_lengthOf 30 = .ok (.iconst 0, 1) := by decide +kernel
theorem dX4_lengthOf_31 : decode cX4_lengthOf 31 = .ok (.ireturn, 1) := by decide +kernel
theorem dX4_letterOf_0 : decode cX4_letterOf 0 = .ok (.iload_n 1, 1) := by decide +kernel
theorem dX4_letterOf_1 : decode cX4_letterOf 1 = .ok (.ifCond .lt 17, 3) := by decide +kernel
theorem dX4_letterOf_4 : decode cX4_letterOf 4 = .ok (.iload_n 1, 1) := by decide +kernel
theorem dX4_letterOf_5 : decode cX4_letterOf 5 = .ok (.aload_n 0, 1) := by decide +kernel
theorem dX4_letterOf_6 : decode cX4_letterOf 6 = .ok (.getfield 52, 3) := by decide +kernel
theorem dX4_letterOf_9 : decode cX4_letterOf 9 = .ok (.if_icmp .ge 9, 3) := by decide +kernel
theorem dX4_letterOf_12 : decode cX4_letterOf 12 = .ok (.iload_n 1, 1) := by decide +kernel
theorem dX4_letterOf_13 : decode cX4_letterOf 13 = .ok (.bipush 100, 2) := by decide +kernel
theorem dX4_letterOf_15 : decode cX4_letterOf 15 = .ok (.if_icmp .lt 6, 3) := by decide +kernel
theorem dX4_letterOf_18 : decode cX4_letterOf 18 = .ok (.bipush 32, 2) := by decide +kernel
theorem dX4_letterOf_20 : decode cX4_letterOf 20 = .ok (.ireturn, 1) := by decide +kernel
theorem dX4_letterOf_21 : decode cX4_letterOf 21 = .ok (.iload_n 2, 1) := by decide +kernel
theorem dX4_letterOf_22 : decode cX4_letterOf 22 = .ok (.ifCond .lt 13, 3) := by decide +kernel
theorem dX4_letterOf_25 : decode cX4_letterOf 25 = .ok (.iload_n 2, 1) := by decide +kernel
theorem dX4_letterOf_26 : decode cX4_letterOf 26 = .ok (.aload_n 0, 1) := by decide +kernel
theorem dX4_letterOf_27 : decode cX4_letterOf 27 = .ok (.getfield 19, 3) := by decide +kernel
theorem dX4_letterOf_30 : decode cX4_letterOf 30 = .ok (.iload_n 1, 1) := by decide +kernel
theorem dX4_letterOf_31 : decode cX4_letterOf 31 = .ok (.iaload, 1) := by decide +kernel
theorem dX4_letterOf_32 : decode cX4_letterOf 32 = .ok (.if_icmp .lt 6, 3) := by decide +kernel
theorem dX4_letterOf_35 : decode cX4_letterOf 35 = .ok (.bipush 32, 2) := by decide +kernel
theorem dX4_letterOf_37 : decode cX4_letterOf 37 = .ok (.ireturn, 1) := by decide +kernel
theorem dX4_letterOf_38 : decode cX4_letterOf 38 = .ok (.aload_n 0, 1) := by decide +kernel
theorem dX4_letterOf_39 : decode cX4_letterOf 39 = .ok (.getfield 15, 3) := by decide +kernel
theorem dX4_letterOf_42 : decode cX4_letterOf 42 = .ok (.iload_n 1, 1) := by decide +kernel
theorem dX4_letterOf_43 : decode cX4_letterOf 43 = .ok (.iaload, 1) := by decide +kernel
theorem dX4_letterOf_44 : decode cX4_letterOf 44 = .ok (.iload_n 2, 1) := by decide +kernel
theorem dX4_letterOf_45 : decode cX4_letterOf 45 = .ok (.iadd, 1) := by decide +kernel
theorem dX4_letterOf_46 : decode cX4_letterOf 46 = .ok (.istore_n 3, 1) := by decide +kernel
theorem dX4_letterOf_47 : decode cX4_letterOf 47 = .ok (.iload_n 3, 1) := by decide +kernel
theorem dX4_letterOf_48 : decode cX4_letterOf 48 = .ok (.ifCond .lt 21, 3) := by decide +kernel
theorem dX4_letterOf_51 : decode cX4_letterOf 51 = .ok (.iload_n 3, 1) := by decide +kernel
theorem dX4_letterOf_52 : decode cX4_letterOf 52 = .ok (.aload_n 0, 1) := by decide +kernel
theorem dX4_letterOf_53 : decode cX4_letterOf 53 = .ok (.getfield 9, 3) := by decide +kernel
theorem dX4_letterOf_56 : decode cX4_letterOf 56 = .ok (.arraylength, 1) := by decide +kernel
theorem dX4_letterOf_57 : decode cX4_letterOf 57 = .ok (.if_icmp .ge 12, 3) := by decide +kernel
theorem dX4_letterOf_60 : decode cX4_letterOf 60 = .ok (.aload_n 0, 1) := by decide +kernel
theorem dX4_letterOf_61 : decode cX4_letterOf 61 = .ok (.getfield 9, 3) := by decide +kernel
theorem dX4_letterOf_64 : decode cX4_letterOf 64 = .ok (.iload_n 3, 1) := by decide +kernel
theorem dX4_letterOf_65 : decode cX4_letterOf 65 = .ok (.baload, 1) := by decide +kernel
theorem dX4_letterOf_66 : decode cX4_letterOf 66 = .ok (.goto 5, 3) := by decide +kernel
theorem dX4_letterOf_69 : decode cX4_letterOf 69 = .ok (.bipush 32, 2) := by decide +kernel
theorem dX4_letterOf_71 : decode cX4_letterOf 71 = .ok (.ireturn, 1) := by decide +kernel
theorem dX4_countSign_0 : decode cX4_countSign 0 = .ok (.iconst 0, 1) := by decide +kernel
theorem dX4_countSign_1 : decode cX4_countSign 1 = .ok (.istore_n 2, 1) := by decide +kernel
theorem dX4_countSign_2 : decode cX4_countSign 2 = .ok (.iconst 0, 1) := by decide +kernel
theorem dX4_countSign_3 : decode cX4_countSign 3 = .ok (.istore_n 3, 1) := by decide +kernel
theorem dX4_countSign_4 : decode cX4_countSign 4 = .ok (.iload_n 3, 1) := by decide +kernel
theorem dX4_countSign_5 : decode cX4_countSign 5 = .ok (.aload_n 0, 1) := by decide +kernel
theorem dX4_countSign_6 : decode cX4_countSign 6 = .ok (.getfield 34, 3) := by decide +kernel
theorem dX4_countSign_9 : decode cX4_countSign 9 = .ok (.if_icmp .ge 31, 3) := by decide +kernel
theorem dX4_countSign_12 : decode cX4_countSign 12 = .ok (.iload_n 3, 1) := by decide +kernel
theorem dX4_countSign_13 : decode cX4_countSign 13 = .ok (.aload_n 0, 1) := by decide +kernel
theorem dX4_countSign_14 : decode cX4_countSign 14 = .ok (.getfield 9, 3) := by decide +kernel
theorem dX4_countSign_17 : decode cX4_countSign 17 = .ok (.arraylength, 1) := by decide +kernel
theorem dX4_countSign_18 : decode cX4_countSign 18 = .ok (.if_icmp .ge 22, 3) := by decide +kernel
theorem dX4_countSign_21 : decode cX4_countSign 21 = .ok (.aload_n 0, 1) := by decide +kernel
theorem dX4_countSign_22 : decode cX4_countSign 22 = .ok (.getfield 9, 3) := by decide +kernel
theorem dX4_countSign_25 : decode cX4_countSign 25 = .ok (.iload_n 3, 1) := by decide +kernel
theorem dX4_countSign_26 : decode cX4_countSign 26 = .ok (.baload, 1) := by decide +kernel
theorem dX4_countSign_27 : decode cX4_countSign 27 = .ok (.iload_n 1, 1) := by decide +kernel
theorem dX4_countSign_28 : decode cX4_countSign 28 = .ok (.if_icmp .ne 6, 3) := by decide +kernel
theorem dX4_countSign_31 : decode cX4_countSign 31 = .ok (.iinc 2 1, 3) := by decide +kernel
theorem dX4_countSign_34 : decode cX4_countSign 34 = .ok (.iinc 3 1, 3) := by decide +kernel
theorem dX4_countSign_37 : decode cX4_countSign 37 = .ok (.goto (-33), 3) := by decide +kernel
theorem dX4_countSign_40 : decode cX4_countSign 40 = .ok (.iload_n 2, 1) := by decide +kernel
theorem dX4_countSign_41 : decode cX4_countSign 41 = .ok (.ireturn, 1) := by decide +kernel
theorem dX5_init_0 : decode cX5_init 0 = .ok (.aload_n 0, 1) := by decide +kernel
theorem dX5_init_1 : decode cX5_init 1 = .ok (.invokespecial 3, 3) := by decide +kernel
theorem dX5_init_4 : decode cX5_init 4 = .ok (.aload_n 0, 1) := by decide +kernel
theorem dX5_init_5 : decode cX5_init 5 = .ok (.sipush 200, 3) := by decide +kernel
theorem dX5_init_8 : decode cX5_init 8 = .ok (.newarray .byte, 2) := by decide +kernel
theorem dX5_init_10 : decode cX5_init 10 = .ok (.putfield 9, 3) := by decide +kernel
theorem dX5_init_13 : decode cX5_init 13 = .ok (.aload_n 0, 1) := by decide +kernel
theorem dX5_init_14 : decode cX5_init 14 = .ok (.iconst (-1), 1) := by decide +kernel
theorem dX5_init_15 : decode cX5_init 15 = .ok (.putfield 15, 3) := by decide +kernel
theorem dX5_init_18 : decode cX5_init 18 = .ok (.return_, 1) := by decide +kernel
theorem dX5_isMissing_0 : decode cX5_isMissing 0 = .ok (.aload_n 0, 1) := by decide +kernel
theorem dX5_isMissing_1 : decode cX5_isMissing 1 = .ok (.getfield 15, 3) := by decide +kernel
theorem dX5_isMissing_4 : decode cX5_isMissing 4 = .ok (.ifCond .ge 7, 3) := by decide +kernel
theorem dX5_isMissing_7 : decode cX5_isMissing 7 = .ok (.iconst 1, 1) := by decide +kernel
theorem dX5_isMissing_8 : decode cX5_isMissing 8 = .ok (.goto 4, 3) := by decide +kernel
theorem dX5_isMissing_11 : decode cX5_isMissing 11 = .ok (.iconst 0, 1) := by decide +kernel
theorem dX5_isMissing_12 : decode cX5_isMissing 12 = .ok (.ireturn, 1) := by decide +kernel
theorem dX5_makeBlank_0 : decode cX5_makeBlank 0 = .ok (.iconst 0, 1) := by decide +kernel
theorem dX5_makeBlank_1 : decode cX5_makeBlank 1 = .ok (.istore_n 2, 1) := by decide +kernel
theorem dX5_makeBlank_2 : decode cX5_makeBlank 2 = .ok (.iload_n 2, 1) := by decide +kernel
theorem dX5_makeBlank_3 : decode cX5_makeBlank 3 = .ok (.iload_n 1, 1) := by decide +kernel
theorem dX5_makeBlank_4 : decode cX5_makeBlank 4 = .ok (.if_icmp .ge 26, 3) := by decide +kernel
theorem dX5_makeBlank_7 : decode cX5_makeBlank 7 = .ok (.iload_n 2, 1) := by decide +kernel
theorem dX5_makeBlank_8 : decode cX5_makeBlank 8 = .ok (.aload_n 0, 1) := by decide +kernel
theorem dX5_makeBlank_9 : decode cX5_makeBlank 9 = .ok (.getfield 9, 3) := by decide +kernel
theorem dX5_makeBlank_12 : decode cX5_makeBlank 12 = .ok (.arraylength, 1) := by decide +kernel
theorem dX5_makeBlank_13 : decode cX5_makeBlank 13 = .ok (.if_icmp .ge 17, 3) := by decide +kernel
theorem dX5_makeBlank_16 : decode cX5_makeBlank 16 = .ok (.aload_n 0, 1) := by decide +kernel
theorem dX5_makeBlank_17 : decode cX5_makeBlank 17 = .ok (.getfield 9, 3) := by decide +kernel
theorem dX5_makeBlank_20 : decode cX5_makeBlank 20 = .ok (.iload_n 2, 1) := by decide +kernel
theorem dX5_makeBlank_21 : decode cX5_makeBlank 21 = .ok (.bipush 32, 2) := by decide +kernel
theorem dX5_makeBlank_23 : decode cX5_makeBlank 23 = .ok (.bastore, 1) := by decide +kernel
theorem dX5_makeBlank_24 : decode cX5_makeBlank 24 = .ok (.iinc 2 1, 3) := by decide +kernel
theorem dX5_makeBlank_27 : decode cX5_makeBlank 27 = .ok (.goto (-25), 3) := by decide +kernel
theorem dX5_makeBlank_30 : decode cX5_makeBlank 30 = .ok (.aload_n 0, 1) := by decide +kernel
theorem dX5_makeBlank_31 : decode cX5_makeBlank 31 = .ok (.iload_n 1, 1) := by decide +kernel
theorem dX5_makeBlank_32 : decode cX5_makeBlank 32 = .ok (.putfield 15, 3) := by decide +kernel
theorem dX5_makeBlank_35 : decode cX5_makeBlank 35 = .ok (.return_, 1) := by decide +kernel
theorem dX5_remove_0 : decode cX5_remove 0 = .ok (.aload_n 0, 1) := by decide +kernel
theorem dX5_remove_1 : decode cX5_remove 1 = .ok (.iconst (-1), 1) := by decide +kernel
theorem dX5_remove_2 : decode cX5_remove 2 = .ok (.putfield 15, 3) := by decide +kernel
theorem dX5_remove_5 : decode cX5_remove 5 = .ok (.return_, 1) := by decide +kernel
theorem dX5_holds_0 : decode cX5_holds 0 = .ok (.iload_n 1, 1) := by decide +kernel
theorem dX5_holds_1 : decode cX5_holds 1 = .ok (.ifCond .lt 25, 3) := by decide +kernel
theorem dX5_holds_4 : decode cX5_holds 4 = .ok (.iload_n 2, 1) := by decide +kernel
theorem dX5_holds_5 : decode cX5_holds 5 = .ok (.ifCond .lt 21, 3) := by decide +kernel
theorem dX5_holds_8 : decode cX5_holds 8 = .ok (.iload_n 1, 1) := by decide +kernel
theorem dX5_holds_9 : decode cX5_holds 9 = .ok (.i2l, 1) := by decide +kernel
theorem dX5_holds_10 : decode cX5_holds 10 = .ok (.iload_n 2, 1) := by decide +kernel
theorem dX5_holds_11 : decode cX5_holds 11 = .ok (.i2l, 1) := by decide +kernel
theorem dX5_holds_12 : decode cX5_holds 12 = .ok (.ladd, 1) := by decide +kernel
theorem dX5_holds_13 : decode cX5_holds 13 = .ok (.aload_n 0, 1) := by decide +kernel
theorem dX5_holds_14 : decode cX5_holds 14 = .ok (.getfield 15, 3) := by decide +kernel
theorem dX5_holds_17 : decode cX5_holds 17 = .ok (.i2l, 1) := by decide +kernel
theorem dX5_holds_18 : decode cX5_holds 18 = .ok (.lcmp, 1) := by decide +kernel
theorem dX5_holds_19 : decode cX5_holds 19 = .ok (.ifCond .gt 7, 3) := by decide +kernel
theorem dX5_holds_22 : decode cX5_holds 22 = .ok (.iconst 1, 1) := by decide +kernel
theorem dX5_holds_23 : decode cX5_holds 23 = .ok (.goto 4, 3) := by decide +kernel
theorem dX5_holds_26 : decode cX5_holds 26 = .ok (.iconst 0, 1) := by decide +kernel
theorem dX5_holds_27 : decode cX5_holds 27 = .ok (.ireturn, 1) := by decide +kernel
theorem dX5_signAt_0 : decode cX5_signAt 0 = .ok (.iload_n 1, 1) := by decide +kernel
theorem dX5_signAt_1 : decode cX5_signAt 1 = .ok (.ifCond .lt 29, 3) := by decide +kernel
theorem dX5_signAt_4 : decode cX5_signAt 4 = .ok (.iload_n 1, 1) := by decide +kernel
theorem dX5_signAt_5 : decode cX5_signAt 5 = .ok (.aload_n 0, 1) := by decide +kernel
theorem dX5_signAt_6 : decode cX5_signAt 6 = .ok (.getfield 15, 3) := by decide +kernel
theorem dX5_signAt_9 : decode cX5_signAt 9 = .ok (.if_icmp .ge 21, 3) := by decide +kernel
theorem dX5_signAt_12 : decode cX5_signAt 12 = .ok (.iload_n 1, 1) := by decide +kernel
theorem dX5_signAt_13 : decode cX5_signAt 13 = .ok (.aload_n 0, 1) := by decide +kernel
theorem dX5_signAt_14 : decode cX5_signAt 14 = .ok (.getfield 9, 3) := by decide +kernel
theorem dX5_signAt_17 : decode cX5_signAt 17 = .ok (.arraylength, 1) := by decide +kernel
theorem dX5_signAt_18 : decode cX5_signAt 18 = .ok (.if_icmp .ge 12, 3) := by decide +kernel
theorem dX5_signAt_21 : decode cX5_signAt 21 = .ok (.aload_n 0, 1) := by decide +kernel
theorem dX5_signAt_22 : decode cX5_signAt 22 = .ok (.getfield 9, 3) := by decide +kernel
theorem dX5_signAt_25 : decode cX5_signAt 25 = .ok (.iload_n 1, 1) := by decide +kernel
theorem dX5_signAt_26 : decode cX5_signAt 26 = .ok (.baload, 1) := by decide +kernel
theorem dX5_signAt_27 : decode cX5_signAt 27 = .ok (.goto 5, 3) := by decide +kernel
theorem dX5_signAt_30 : decode cX5_signAt 30 = .ok (.bipush 32, 2) := by decide +kernel
theorem dX5_signAt_32 : decode cX5_signAt 32 = .ok (.ireturn, 1) := by decide +kernel
theorem dX5_put_0 : decode cX5_put 0 = .ok (.iload_n 1, 1) := by decide +kernel
theorem dX5_put_1 : decode cX5_put 1 = .ok (.ifCond .lt 28, 3) := by decide +kernel
theorem dX5_put_4 : decode cX5_put 4 = .ok (.iload_n 1, 1) := by decide +kernel
theorem dX5_put_5 : decode cX5_put 5 = .ok (.aload_n 0, 1) := by decide +kernel
theorem dX5_put_6 : decode cX5_put 6 = .ok (.getfield 15, 3) := by decide +kernel
theorem dX5_put_9 : decode cX5_put 9 = .ok (.if_icmp .ge 20, 3) := by decide +kernel
theorem dX5_put_12 : decode cX5_put 12 = .ok (.iload_n 1, 1) := by decide +kernel
theorem dX5_put_13 : decode cX5_put 13 = .ok (.aload_n 0, 1) := by decide +kernel
theorem dX5_put_14 : decode cX5_put 14 = .ok (.getfield 9, 3) := by decide +kernel
theorem dX5_put_17 : decode cX5_put 17 = .ok (.arraylength, 1) := by decide +kernel
theorem dX5_put_18 : decode cX5_put 18 = .ok (.if_icmp .ge 11, 3) := by decide +kernel
theorem dX5_put_21 : decode cX5_put 21 = .ok (.aload_n 0, 1) := by decide +kernel
theorem dX5_put_22 : decode cX5_put 22 = .ok (.getfield 9, 3) := by decide +kernel
theorem dX5_put_25 : decode cX5_put 25 = .ok (.iload_n 1, 1) := by decide +kernel
theorem dX5_put_26 : decode cX5_put 26 = .ok (.iload_n 2, 1) := by decide +kernel
theorem dX5_put_27 : decode cX5_put 27 = .ok (.i2b, 1) := by decide +kernel
theorem dX5_put_28 : decode cX5_put 28 = .ok (.bastore, 1) := by decide +kernel
theorem dX5_put_29 : decode cX5_put 29 = .ok (.return_, 1) := by decide +kernel
theorem dX5_bring_0 : decode cX5_bring 0 = .ok (.aload_n 1, 1) := by decide +kernel
theorem dX5_bring_1 : decode cX5_bring 1 = .ok (.iload_n 2, 1) := by decide +kernel
theorem dX5_bring_2 : decode cX5_bring 2 = .ok (.iload 4, 2) := by decide +kernel
theorem dX5_bring_4 : decode cX5_bring 4 = .ok (.invokevirtual 19, 3) := by decide +kernel
theorem dX5_bring_7 : decode cX5_bring 7 = .ok (.ifCond .eq 28, 3) := by decide +kernel
theorem dX5_bring_10 : decode cX5_bring 10 = .ok (.aload_n 0, 1) := by decide +kernel
theorem dX5_bring_11 : decode cX5_bring 11 = .ok (.iload_n 3, 1) := by decide +kernel
theorem dX5_bring_12 : decode cX5_bring 12 = .ok (.iload 4, 2) := by decide +kernel
theorem dX5_bring_14 : decode cX5_bring 14 = .ok (.invokevirtual 19, 3) := by decide +kernel
theorem dX5_bring_17 : decode cX5_bring 17 = .ok (.ifCond .eq 18, 3) := by decide +kernel
theorem dX5_bring_20 : decode cX5_bring 20 = .ok (.aload_n 1, 1) := by decide +kernel
theorem dX5_bring_21 : decode cX5_bring 21 = .ok (.getfield 9, 3) := by decide +kernel
theorem dX5_bring_24 : decode cX5_bring 24 = .ok (.iload_n 2, 1) := by decide +kernel
theorem dX5_bring_25 : decode cX5_bring 25 = .ok (.aload_n 0, 1) := by decide +kernel
theorem dX5_bring_26 : decode cX5_bring 26 = .ok (.getfield 9, 3) := by decide +kernel
theorem dX5_bring_29 : decode cX5_bring 29 = .ok (.iload_n 3, 1) := by decide +kernel
theorem dX5_bring_30 : decode cX5_bring 30 = .ok (.iload 4, 2) := by decide +kernel
theorem dX5_bring_32 : decode cX5_bring 32 = .ok (.invokestatic 23, 3) := by decide +kernel
theorem dX5_bring_35 : decode cX5_bring 35 = .ok (.return_, 1) := by decide +kernel
theorem dX5_digestAfter_0 : decode cX5_digestAfter 0 = .ok (.ldc2_w 29, 3) := by decide +kernel
theorem dX5_digestAfter_3 : decode cX5_digestAfter 3 = .ok (.lload_n 1, 1) := by decide +kernel
theorem dX5_digestAfter_4 : decode cX5_digestAfter 4 = .ok (.lmul, 1) := by decide +kernel
theorem dX5_digestAfter_5 : decode cX5_digestAfter 5 = .ok (.aload_n 0, 1) := by decide +kernel
theorem dX5_digestAfter_6 : decode cX5_digestAfter 6 = .ok (.getfield 15, 3) := by decide +kernel
theorem dX5_digestAfter_9 : decode cX5_digestAfter 9 = .ok (.i2l, 1) := by decide +kernel
theorem dX5_digestAfter_10 : decode cX5_digestAfter 10 = .ok (.ladd, 1) := by decide +kernel
theorem dX5_digestAfter_11 : decode cX5_digestAfter 11 = .ok (.lstore_n 3, 1) := by decide +kernel
theorem dX5_digestAfter_12 : decode cX5_digestAfter 12 = .ok (.iconst 0, 1) := by decide +kernel
theorem dX5_digestAfter_13 : decode cX5_digestAfter 13 = .ok (.istore 5, 2) := by decide +kernel
theorem dX5_digestAfter_15 : decode cX5_digestAfter 15 = .ok (.iload 5, 2) := by decide +kernel
theorem dX5_digestAfter_17 : decode cX5_digestAfter 17 = .ok (.aload_n 0, 1) := by decide +kernel
theorem dX5_digestAfter_18 : decode cX5_digestAfter 18 = .ok (.getfield 15, 3) := by decide +kernel
theorem dX5_digestAfter_21 : decode cX5_digestAfter 21 = .ok (.if_icmp .ge 34, 3) := by decide +kernel
theorem dX5_digestAfter_24 : decode cX5_digestAfter 24 = .ok (.iload 5, 2) := by decide +kernel
theorem dX5_digestAfter_26 : decode cX5_digestAfter 26 = .ok (.aload_n 0, 1) := by decide +kernel
theorem dX5_digestAfter_27 : decode cX5_digestAfter 27 = .ok (.getfield 9, 3) := by decide +kernel
theorem dX5_digestAfter_30 : decode cX5_digestAfter 30 = .ok (.arraylength, 1) := by decide +kernel
theorem dX5_digestAfter_31 : decode cX5_digestAfter 31 = .ok (.if_icmp .ge 24, 3) := by decide +kernel
theorem dX5_digestAfter_34 : decode cX5_digestAfter 34 = .ok (.ldc2_w 29, 3) := by decide +kernel
theorem dX5_digestAfter_37 : decode cX5_digestAfter 37 = .ok (.lload_n 3, 1) := by decide +kernel
theorem dX5_digestAfter_38 : decode cX5_digestAfter 38 = .ok (.lmul, 1) := by decide +kernel
theorem dX5_digestAfter_39 : decode cX5_digestAfter 39 = .ok (.aload_n 0, 1) := by decide +kernel
theorem dX5_digestAfter_40 : decode cX5_digestAfter 40 = .ok (.getfield 9, 3) := by decide +kernel
theorem dX5_digestAfter_43 : decode cX5_digestAfter 43 = .ok (.iload 5, 2) := by decide +kernel
theorem dX5_digestAfter_45 : decode cX5_digestAfter 45 = .ok (.baload, 1) := by decide +kernel
theorem dX5_digestAfter_46 : decode cX5_digestAfter 46 = .ok (.i2l, 1) := by decide +kernel
theorem dX5_digestAfter_47 : decode cX5_digestAfter 47 = .ok (.ladd, 1) := by decide +kernel
theorem dX5_digestAfter_48 : decode cX5_digestAfter 48 = .ok (.lstore_n 3, 1) := by decide +kernel
theorem dX5_digestAfter_49 : decode cX5_digestAfter 49 = .ok (.iinc 5 1, 3) := by decide +kernel
theorem dX5_digestAfter_52 : decode cX5_digestAfter 52 = .ok (.goto (-37), 3) := by decide +kernel
theorem dX5_digestAfter_55 : decode cX5_digestAfter 55 = .ok (.lload_n 3, 1) := by decide +kernel
theorem dX5_digestAfter_56 : decode cX5_digestAfter 56 = .ok (.lreturn, 1) := by decide +kernel
theorem dX6_init_0 : decode cX6_init 0 = .ok (.aload_n 0, 1) := by decide +kernel
theorem dX6_init_1 : decode cX6_init 1 = .ok (.invokespecial 3, 3) := by decide +kernel
theorem dX6_init_4 : decode cX6_init 4 = .ok (.aload_n 0, 1) := by decide +kernel
theorem dX6_init_5 : decode cX6_init 5 = .ok (.bipush 14, 2) := by decide +kernel
theorem dX6_init_7 : decode cX6_init 7 = .ok (.newarray .int, 2) := by decide +kernel
theorem dX6_init_9 : decode cX6_init 9 = .ok (.putfield 9, 3) := by decide +kernel
theorem dX6_init_12 : decode cX6_init 12 = .ok (.aload_n 0, 1) := by decide +kernel
theorem dX6_init_13 : decode cX6_init 13 = .ok (.bipush 14, 2) := by decide +kernel
theorem dX6_init_15 : decode cX6_init 15 = .ok (.newarray .int, 2) := by decide +kernel
theorem dX6_init_17 : decode cX6_init 17 = .ok (.putfield 15, 3) := by decide +kernel
theorem dX6_init_20 : decode cX6_init 20 = .ok (.aload_n 0, 1) := by decide +kernel
theorem dX6_init_21 : decode cX6_init 21 = .ok (.bipush 14, 2) := by decide +kernel
theorem dX6_init_23 : decode cX6_init 23 = .ok (.newarray .int, 2) := by decide +kernel
theorem dX6_init_25 : decode cX6_init 25 = .ok (.putfield 18, 3) := by decide +kernel
theorem dX6_init_28 : decode cX6_init 28 = .ok (.aload_n 0, 1) := by decide +kernel
theorem dX6_init_29 : decode cX6_init 29 = .ok (.bipush 15, 2) := by decide +kernel
theorem dX6_init_31 : decode cX6_init 31 = .ok (.newarray .int, 2) := by decide +kernel
theorem dX6_init_33 : decode cX6_init 33 = .ok (.putfield 21, 3) := by decide +kernel
theorem dX6_init_36 : decode cX6_init 36 = .ok (.aload_n 0, 1) := by decide +kernel
theorem dX6_init_37 : decode cX6_init 37 = .ok (.bipush 15, 2) := by decide +kernel
theorem dX6_init_39 : decode cX6_init 39 = .ok (.newarray .int, 2) := by decide +kernel
theorem dX6_init_41 : decode cX6_init 41 = .ok (.putfield 24, 3) := by decide +kernel
theorem dX6_init_44 : decode cX6_init 44 = .ok (.return_, 1) := by decide +kernel
theorem dX6_clear_0 : decode cX6_clear 0 = .ok (.aload_n 0, 1) := by decide +kernel
theorem dX6_clear_1 : decode cX6_clear 1 = .ok (.iconst 0, 1) := by decide +kernel
theorem dX6_clear_2 : decode cX6_clear 2 = .ok (.putfield 27, 3) := by decide +kernel
theorem dX6_clear_5 : decode cX6_clear 5 = .ok (.aload_n 0, 1) := by decide +kernel
theorem dX6_clear_6 : decode cX6_clear 6 = .ok (.iconst 0, 1) := by decide +kernel
theorem dX6_clear_7 : decode cX6_clear 7 = .ok (.putfield 31, 3) := by decide +kernel
theorem dX6_clear_10 : decode cX6_clear 10 = .ok (.aload_n 0, 1) := by decide +kernel
theorem dX6_clear_11 : decode cX6_clear 11 = .ok (.iconst 0, 1) := by decide +kernel
theorem dX6_clear_12 : decode cX6_clear 12 = .ok (.putfield 34, 3) := by decide +kernel
theorem dX6_clear_15 : decode cX6_clear 15 = .ok (.return_, 1) := by decide +kernel
theorem dX6_add_0 : decode cX6_add 0 = .ok (.aload_n 0, 1) := by decide +kernel
theorem dX6_add_1 : decode cX6_add 1 = .ok (.getfield 27, 3) := by decide +kernel
theorem dX6_add_4 : decode cX6_add 4 = .ok (.bipush 14, 2) := by decide +kernel
theorem dX6_add_6 : decode cX6_add 6 = .ok (.if_icmp .lt 4, 3) := by decide +kernel
theorem dX6_add_9 : decode cX6_add 9 = .ok (.return_, 1) := by decide +kernel
theorem dX6_add_10 : decode cX6_add 10 = .ok (.aload_n 0, 1) := by decide +kernel
theorem dX6_add_11 : decode cX6_add 11 = .ok (.getfield 9, 3) := by decide +kernel
theorem dX6_add_14 : decode cX6_add 14 = .ok (.aload_n 0, 1) := by decide +kernel
theorem dX6_add_15 : decode cX6_add 15 = .ok (.getfield 27, 3) := by decide +kernel
theorem dX6_add_18 : decode cX6_add 18 = .ok (.iload_n 1, 1) := by decide +kernel
theorem dX6_add_19 : decode cX6_add 19 = .ok (.iastore, 1) := by decide +kernel
theorem dX6_add_20 : decode cX6_add 20 = .ok (.aload_n 0, 1) := by decide +kernel
theorem dX6_add_21 : decode cX6_add 21 = .ok (.getfield 15, 3) := by decide +kernel
theorem dX6_add_24 : decode cX6_add 24 = .ok (.aload_n 0, 1) := by decide +kernel
theorem dX6_add_25 : decode cX6_add 25 = .ok (.getfield 27, 3) := by decide +kernel
theorem dX6_add_28 : decode cX6_add 28 = .ok (.iload_n 2, 1) := by decide +kernel
theorem dX6_add_29 : decode cX6_add 29 = .ok (.iastore, 1) := by decide +kernel
theorem dX6_add_30 : decode cX6_add 30 = .ok (.aload_n 0, 1) := by decide +kernel
theorem dX6_add_31 : decode cX6_add 31 = .ok (.dup, 1) := by decide +kernel
theorem dX6_add_32 : decode cX6_add 32 = .ok (.getfield 31, 3) := by decide +kernel
theorem dX6_add_35 : decode cX6_add 35 = .ok (.iload_n 1, 1) := by decide +kernel
theorem dX6_add_36 : decode cX6_add 36 = .ok (.iadd, 1) := by decide +kernel
theorem dX6_add_37 : decode cX6_add 37 = .ok (.putfield 31, 3) := by decide +kernel
theorem dX6_add_40 : decode cX6_add 40 = .ok (.aload_n 0, 1) := by decide +kernel
theorem dX6_add_41 : decode cX6_add 41 = .ok (.dup, 1) := by decide +kernel
theorem dX6_add_42 : decode cX6_add 42 = .ok (.getfield 34, 3) := by decide +kernel
theorem dX6_add_45 : decode cX6_add 45 = .ok (.iload_n 2, 1) := by decide +kernel
theorem dX6_add_46 : decode cX6_add 46 = .ok (.iadd, 1) := by decide +kernel
theorem dX6_add_47 : decode cX6_add 47 = .ok (.putfield 34, 3) := by decide +kernel
theorem dX6_add_50 : decode cX6_add 50 = .ok (.aload_n 0, 1) := by decide +kernel
theorem dX6_add_51 : decode cX6_add 51 = .ok (.dup, 1) := by decide +kernel
theorem dX6_add_52 : decode cX6_add 52 = .ok (.getfield 27, 3) := by decide +kernel
theorem dX6_add_55 : decode cX6_add 55 = .ok (.iconst 1, 1) := by decide +kernel
theorem dX6_add_56 : decode cX6_add 56 = .ok (.iadd, 1) := by decide +kernel
theorem dX6_add_57 : decode cX6_add 57 = .ok (.putfield 27, 3) := by decide +kernel
theorem dX6_add_60 : decode cX6_add 60 = .ok (.return_, 1) := by decide +kernel
theorem dX6_countAsFar_0 : decode cX6_countAsFar 0 = .ok (.aload_n 0, 1) := by decide +kernel
theorem dX6_countAsFar_1 : decode cX6_countAsFar 1 = .ok (.iconst 0, 1) := by decide +kernel
theorem dX6_countAsFar_2 : decode cX6_countAsFar 2 = .ok (.iload_n 1, 1) := by decide +kernel
theorem dX6_countAsFar_3 : decode cX6_countAsFar 3 = .ok (.aload_n 0, 1) := by decide +kernel
theorem dX6_countAsFar_4 : decode cX6_countAsFar 4 = .ok (.getfield 27, 3) := by decide +kernel
theorem dX6_countAsFar_7 : decode cX6_countAsFar 7 = .ok (.invokestatic 37, 3) := by decide +kernel
theorem dX6_countAsFar_10 : decode cX6_countAsFar 10 = .ok (.invokestatic 43, 3) := by decide +kernel
theorem dX6_countAsFar_13 : decode cX6_countAsFar 13 = .ok (.putfield 46, 3) := by decide +kernel
theorem dX6_countAsFar_16 : decode cX6_countAsFar 16 = .ok (.aload_n 0, 1) := by decide +kernel
theorem dX6_countAsFar_17 : decode cX6_countAsFar 17 = .ok (.iconst 0, 1) := by decide +kernel
theorem dX6_countAsFar_18 : decode cX6_countAsFar 18 = .ok (.putfield 49, 3) := by decide +kernel
theorem dX6_countAsFar_21 : decode cX6_countAsFar 21 = .ok (.iconst 0, 1) := by decide +kernel
theorem dX6_countAsFar_22 : decode cX6_countAsFar 22 = .ok (.istore_n 2, 1) := by decide +kernel
theorem dX6_countAsFar_23 : decode cX6_countAsFar 23 = .ok (.aload_n 0, 1) := by decide +kernel
theorem dX6_countAsFar_24 : decode cX6_countAsFar 24 = .ok (.iconst 0, 1) := by decide +kernel
theorem dX6_countAsFar_25 : decode cX6_countAsFar 25 = .ok (.iconst 0, 1) := by decide +kernel
theorem dX6_countAsFar_26 : decode cX6_countAsFar 26 = .ok (.invokevirtual 52, 3) := by decide +kernel
theorem dX6_countAsFar_29 : decode cX6_countAsFar 29 = .ok (.aload_n 0, 1) := by decide +kernel
theorem dX6_countAsFar_30 : decode cX6_countAsFar 30 = .ok (.invokevirtual 56, 3) := by decide +kernel
theorem dX6_countAsFar_33 : decode cX6_countAsFar 33 = .ok (.istore_n 3, 1) := by decide +kernel
theorem dX6_countAsFar_34 : decode cX6_countAsFar 34 = .ok (.iconst 1, 1) := by decide +kernel
theorem dX6_countAsFar_35 : decode cX6_countAsFar 35 = .ok (.istore 4, 2) := by decide +kernel
theorem dX6_countAsFar_37 : decode cX6_countAsFar 37 = .ok (.iload 4, 2) := by decide +kernel
theorem dX6_countAsFar_39 : decode cX6_countAsFar 39 = .ok (.ifCond .eq 43, 3) := by decide +kernel
theorem dX6_countAsFar_42 : decode cX6_countAsFar 42 = .ok (.aload_n 0, 1) := by decide +kernel
theorem dX6_countAsFar_43 : decode cX6_countAsFar 43 = .ok (.getfield 49, 3) := by decide +kernel
theorem dX6_countAsFar_46 : decode cX6_countAsFar 46 = .ok (.sipush 3432, 3) := by decide +kernel
theorem dX6_countAsFar_49 : decode cX6_countAsFar 49 = .ok (.if_icmp .ge 33, 3) := by decide +kernel
theorem dX6_countAsFar_52 : decode cX6_countAsFar 52 = .ok (.aload_n 0, 1) := by decide +kernel
theorem dX6_countAsFar_53 : decode cX6_countAsFar 53 = .ok (.dup, 1) := by decide +kernel
theorem dX6_countAsFar_54 : decode cX6_countAsFar 54 = .ok (.getfield 49, 3) := by decide +kernel
theorem dX6_countAsFar_57 : decode cX6_countAsFar 57 = .ok (.iconst 1, 1) := by decide +kernel
theorem dX6_countAsFar_58 : decode cX6_countAsFar 58 = .ok (.iadd, 1) := by decide +kernel
theorem dX6_countAsFar_59 : decode cX6_countAsFar 59 = .ok (.putfield 49, 3) := by decide +kernel
theorem dX6_countAsFar_62 : decode cX6_countAsFar 62 = .ok (.aload_n 0, 1) := by decide +kernel
theorem dX6_countAsFar_63 : decode cX6_countAsFar 63 = .ok (.invokevirtual 56, 3) := by decide +kernel
theorem dX6_countAsFar_66 : decode cX6_countAsFar 66 = .ok (.iload_n 3, 1) := by decide +kernel
theorem dX6_countAsFar_67 : decode cX6_countAsFar 67 = .ok (.if_icmp .lt 6, 3) := by decide +kernel
theorem dX6_countAsFar_70 : decode cX6_countAsFar 70 = .ok (.iinc 2 1, 3) := by decide +kernel
theorem dX6_countAsFar_73 : decode cX6_countAsFar 73 = .ok (.aload_n 0, 1) := by decide +kernel
theorem dX6_countAsFar_74 : decode cX6_countAsFar 74 = .ok (.invokevirtual 60, 3) := by decide +kernel
theorem dX6_countAsFar_77 : decode cX6_countAsFar 77 = .ok (.istore 4, 2) := by decide +kernel
theorem dX6_countAsFar_79 : decode cX6_countAsFar 79 = .ok (.goto (-42), 3) := by decide +kernel
theorem dX6_countAsFar_82 : decode cX6_countAsFar 82 = .ok (.iload_n 2, 1) := by decide +kernel
theorem dX6_countAsFar_83 : decode cX6_countAsFar 83 = .ok (.ireturn, 1) := by decide +kernel
theorem dX6_takeNext_0 : decode cX6_takeNext 0 = .ok (.aload_n 0, 1) := by decide +kernel
theorem dX6_takeNext_1 : decode cX6_takeNext 1 = .ok (.getfield 46, 3) := by decide +kernel
theorem dX6_takeNext_4 : decode cX6_takeNext 4 = .ok (.iconst 1, 1) := by decide +kernel
theorem dX6_takeNext_5 : decode cX6_takeNext 5 = .ok (.isub, 1) := by decide +kernel
theorem dX6_takeNext_6 : decode cX6_takeNext 6 = .ok (.istore_n 1, 1) := by decide +kernel
theorem dX6_takeNext_7 : decode cX6_takeNext 7 = .ok (.iload_n 1, 1) := by decide +kernel
theorem dX6_takeNext_8 : decode cX6_takeNext 8 = .ok (.ifCond .lt 44, 3) := by decide +kernel
theorem dX6_takeNext_11 : decode cX6_takeNext 11 = .ok (.aload_n 0, 1) := by decide +kernel
theorem dX6_takeNext_12 : decode cX6_takeNext 12 = .ok (.getfield 18, 3) := by decide +kernel
theorem dX6_takeNext_15 : decode cX6_takeNext 15 = .ok (.iload_n 1, 1) := by decide +kernel
theorem dX6_takeNext_16 : decode cX6_takeNext 16 = .ok (.iaload, 1) := by decide +kernel
theorem dX6_takeNext_17 : decode cX6_takeNext 17 = .ok (.aload_n 0, 1) := by decide +kernel
theorem dX6_takeNext_18 : decode cX6_takeNext 18 = .ok (.getfield 27, 3) := by decide +kernel
theorem dX6_takeNext_21 : decode cX6_takeNext 21 = .ok (.aload_n 0, 1) := by decide +kernel
theorem dX6_takeNext_22 : decode cX6_takeNext 22 = .ok (.getfield 46, 3) := by decide +kernel
theorem dX6_takeNext_25 : decode cX6_takeNext 25 = .ok (.isub, 1) := by decide +kernel
theorem dX6_takeNext_26 : decode cX6_takeNext 26 = .ok (.iload_n 1, 1) := by decide +kernel
theorem dX6_takeNext_27 : decode cX6_takeNext 27 = .ok (.iadd, 1) := by decide +kernel
theorem dX6_takeNext_28 : decode cX6_takeNext 28 = .ok (.if_icmp .ge 18, 3) := by decide +kernel
theorem dX6_takeNext_31 : decode cX6_takeNext 31 = .ok (.aload_n 0, 1) := by decide +kernel
theorem dX6_takeNext_32 : decode cX6_takeNext 32 = .ok (.iload_n 1, 1) := by decide +kernel
theorem dX6_takeNext_33 : decode cX6_takeNext 33 = .ok (.aload_n 0, 1) := by decide +kernel
theorem dX6_takeNext_34 : decode cX6_takeNext 34 = .ok (.getfield 18, 3) := by decide +kernel
theorem dX6_takeNext_37 : decode cX6_takeNext 37 = .ok (.iload_n 1, 1) := by decide +kernel
theorem dX6_takeNext_38 : decode cX6_takeNext 38 = .ok (.iaload, 1) := by decide +kernel
theorem dX6_takeNext_39 : decode cX6_takeNext 39 = .ok (.iconst 1, 1) := by decide +kernel
theorem dX6_takeNext_40 : decode cX6_takeNext 40 = .ok (.iadd, 1) := by decide +kernel
theorem dX6_takeNext_41 : decode cX6_takeNext 41 = .ok (.invokevirtual 52, 3) := by decide +kernel
theorem dX6_takeNext_44 : decode cX6_takeNext 44 = .ok (.iconst 1, 1) := by decide +kernel
theorem dX6_takeNext_45 : decode cX6_takeNext 45 = .ok (.ireturn, 1) := by decide +kernel
theorem dX6_takeNext_46 : decode cX6_takeNext 46 = .ok (.iinc 1 (-1), 3) := by decide +kernel
theorem dX6_takeNext_49 : decode cX6_takeNext 49 = .ok (.goto (-42), 3) := by decide +kernel
theorem dX6_takeNext_52 : decode cX6_takeNext 52 = .ok (.iconst 0, 1) := by decide +kernel
theorem dX6_takeNext_53 : decode cX6_takeNext 53 = .ok (.ireturn, 1) := by decide +kernel
theorem dX6_takeOn_0 : decode cX6_takeOn 0 = .ok (.iload_n 2, 1) := by decide +kernel
theorem dX6_takeOn_1 : decode cX6_takeOn 1 = .ok (.istore_n 3, 1) := by decide +kernel
theorem dX6_takeOn_2 : decode cX6_takeOn 2 = .ok (.iload_n 1, 1) := by decide +kernel
theorem dX6_takeOn_3 : decode cX6_takeOn 3 = .ok (.istore 4, 2) := by decide +kernel
theorem dX6_takeOn_5 : decode cX6_takeOn 5 = .ok (.iload 4, 2) := by decide +kernel
theorem dX6_takeOn_7 : decode cX6_takeOn 7 = .ok (.aload_n 0, 1) := by decide +kernel
theorem dX6_takeOn_8 : decode cX6_takeOn 8 = .ok (.getfield 46, 3) := by decide +kernel
theorem dX6_takeOn_11 : decode cX6_takeOn 11 = .ok (.if_icmp .ge 81, 3) := by decide +kernel
theorem dX6_takeOn_14 : decode cX6_takeOn 14 = .ok (.iload 4, 2) := by decide +kernel
theorem dX6_takeOn_16 : decode cX6_takeOn 16 = .ok (.bipush 14, 2) := by decide +kernel
theorem dX6_takeOn_18 : decode cX6_takeOn 18 = .ok (.if_icmp .ge 74, 3) := by decide +kernel
theorem dX6_takeOn_21 : decode cX6_takeOn 21 = .ok (.iload_n 3, 1) := by decide +kernel
theorem dX6_takeOn_22 : decode cX6_takeOn 22 = .ok (.aload_n 0, 1) := by decide +kernel
theorem dX6_takeOn_23 : decode cX6_takeOn 23 = .ok (.getfield 27, 3) := by decide +kernel
theorem dX6_takeOn_26 : decode cX6_takeOn 26 = .ok (.if_icmp .ge 66, 3) := by decide +kernel
theorem dX6_takeOn_29 : decode cX6_takeOn 29 = .ok (.aload_n 0, 1) := by decide +kernel
theorem dX6_takeOn_30 : decode cX6_takeOn 30 = .ok (.getfield 18, 3) := by decide +kernel
theorem dX6_takeOn_33 : decode cX6_takeOn 33 = .ok (.iload 4, 2) := by decide +kernel
theorem dX6_takeOn_35 : decode cX6_takeOn 35 = .ok (.iload_n 3, 1) := by decide +kernel
theorem dX6_takeOn_36 : decode cX6_takeOn 36 = .ok (.iastore, 1) := by decide +kernel
theorem dX6_takeOn_37 : decode cX6_takeOn 37 = .ok (.aload_n 0, 1) := by decide +kernel
theorem dX6_takeOn_38 : decode cX6_takeOn 38 = .ok (.getfield 21, 3) := by decide +kernel
theorem dX6_takeOn_41 : decode cX6_takeOn 41 = .ok (.iload 4, 2) := by decide +kernel
theorem dX6_takeOn_43 : decode cX6_takeOn 43 = .ok (.iconst 1, 1) := by decide +kernel
theorem dX6_takeOn_44 : decode cX6_takeOn 44 = .ok (.iadd, 1) := by decide +kernel
theorem dX6_takeOn_45 : decode cX6_takeOn 45 = .ok (.aload_n 0, 1) := by decide +kernel
theorem dX6_takeOn_46 : decode cX6_takeOn 46 = .ok (.getfield 21, 3) := by decide +kernel
theorem dX6_takeOn_49 : decode cX6_takeOn 49 = .ok (.iload 4, 2) := by decide +kernel
theorem dX6_takeOn_51 : decode cX6_takeOn 51 = .ok (.iaload, 1) := by decide +kernel
theorem dX6_takeOn_52 : decode cX6_takeOn 52 = .ok (.aload_n 0, 1) := by decide +kernel
theorem dX6_takeOn_53 : decode cX6_takeOn 53 = .ok (.getfield 9, 3) := by decide +kernel
theorem dX6_takeOn_56 : decode cX6_takeOn 56 = .ok (.iload_n 3, 1) := by decide +kernel
theorem dX6_takeOn_57 : decode cX6_takeOn 57 = .ok (.iaload, 1) := by decide +kernel
theorem dX6_takeOn_58 : decode cX6_takeOn 58 = .ok (.iadd, 1) := by decide +kernel
theorem dX6_takeOn_59 : decode cX6_takeOn 59 = .ok (.iastore, 1) := by decide +kernel
theorem dX6_takeOn_60 : decode cX6_takeOn 60 = .ok (.aload_n 0, 1) := by decide +kernel
theorem dX6_takeOn_61 : decode cX6_takeOn 61 = .ok (.getfield 24, 3) := by decide +kernel
theorem dX6_takeOn_64 : decode cX6_takeOn 64 = .ok (.iload 4, 2) := by decide +kernel
theorem dX6_takeOn_66 : decode cX6_takeOn 66 = .ok (.iconst 1, 1) := by decide +kernel
theorem dX6_takeOn_67 : decode cX6_takeOn 67 = .ok (.iadd, 1) := by decide +kernel
theorem dX6_takeOn_68 : decode cX6_takeOn 68 = .ok (.aload_n 0, 1) := by decide +kernel
theorem dX6_takeOn_69 : decode cX6_takeOn 69 = .ok (.getfield 24, 3) := by decide +kernel
theorem dX6_takeOn_72 : decode cX6_takeOn 72 = .ok (.iload 4, 2) := by decide +kernel
theorem dX6_takeOn_74 : decode cX6_takeOn 74 = .ok (.iaload, 1) := by decide +kernel
theorem dX6_takeOn_75 : decode cX6_takeOn 75 = .ok (.aload_n 0, 1) := by decide +kernel
theorem dX6_takeOn_76 : decode cX6_takeOn 76 = .ok (.getfield 15, 3) := by decide +kernel
theorem dX6_takeOn_79 : decode cX6_takeOn 79 = .ok (.iload_n 3, 1) := by decide +kernel
theorem dX6_takeOn_80 : decode cX6_takeOn 80 = .ok (.iaload, 1) := by decide +kernel
theorem dX6_takeOn_81 : decode cX6_takeOn 81 = .ok (.iadd, 1) := by decide +kernel
theorem dX6_takeOn_82 : decode cX6_takeOn 82 = .ok (.iastore, 1) := by decide +kernel
theorem dX6_takeOn_83 : decode cX6_takeOn 83 = .ok (.iinc 3 1, 3) := by decide +kernel
theorem dX6_takeOn_86 : decode cX6_takeOn 86 = .ok (.iinc 4 1, 3) := by decide +kernel
theorem dX6_takeOn_89 : decode cX6_takeOn 89 = .ok (.goto (-84), 3) := by decide +kernel
theorem dX6_takeOn_92 : decode cX6_takeOn 92 = .ok (.return_, 1) := by decide +kernel
theorem dX6_difference_0 : decode cX6_difference 0 = .ok (.aload_n 0, 1) := by decide +kernel
theorem dX6_difference_1 : decode cX6_difference 1 = .ok (.getfield 21, 3) := by decide +kernel
theorem dX6_difference_4 : decode cX6_difference 4 = .ok (.aload_n 0, 1) := by decide +kernel
theorem dX6_difference_5 : decode cX6_difference 5 = .ok (.getfield 46, 3) := by decide +kernel
theorem dX6_difference_8 : decode cX6_difference 8 = .ok (.iaload, 1) := by decide +kernel
theorem dX6_difference_9 : decode cX6_difference 9 = .ok (.istore_n 1, 1) := by decide +kernel
theorem dX6_difference_10 : decode cX6_difference 10 = .ok (.aload_n 0, 1) := by decide +kernel
theorem dX6_difference_11 : decode cX6_difference 11 = .ok (.getfield 24, 3) := by decide +kernel
theorem dX6_difference_14 : decode cX6_difference 14 = .ok (.aload_n 0, 1) := by decide +kernel
theorem dX6_difference_15 : decode cX6_difference 15 = .ok (.getfield 46, 3) := by decide +kernel
theorem dX6_difference_18 : decode cX6_difference 18 = .ok (.iaload, 1) := by decide +kernel
theorem dX6_difference_19 : decode cX6_difference 19 = .ok (.istore_n 2, 1) := by decide +kernel
theorem dX6_difference_20 : decode cX6_difference 20 = .ok (.iload_n 1, 1) := by decide +kernel
theorem dX6_difference_21 : decode cX6_difference 21 = .ok (.iload_n 2, 1) := by decide +kernel
theorem dX6_difference_22 : decode cX6_difference 22 = .ok (.invokestatic 64, 3) := by decide +kernel
theorem dX6_difference_25 : decode cX6_difference 25 = .ok (.aload_n 0, 1) := by decide +kernel
theorem dX6_difference_26 : decode cX6_difference 26 = .ok (.getfield 31, 3) := by decide +kernel
theorem dX6_difference_29 : decode cX6_difference 29 = .ok (.iload_n 1, 1) := by decide +kernel
theorem dX6_difference_30 : decode cX6_difference 30 = .ok (.isub, 1) := by decide +kernel
theorem dX6_difference_31 : decode cX6_difference 31 = .ok (.aload_n 0, 1) := by decide +kernel
theorem dX6_difference_32 : decode cX6_difference 32 = .ok (.getfield 34, 3) := by decide +kernel
theorem dX6_difference_35 : decode cX6_difference 35 = .ok (.iload_n 2, 1) := by decide +kernel
theorem dX6_difference_36 : decode cX6_difference 36 = .ok (.isub, 1) := by decide +kernel
theorem dX6_difference_37 : decode cX6_difference 37 = .ok (.invokestatic 64, 3) := by decide +kernel
theorem dX6_difference_40 : decode cX6_difference 40 = .ok (.isub, 1) := by decide +kernel
theorem dX6_difference_41 : decode cX6_difference 41 = .ok (.invokestatic 67, 3) := by decide +kernel
theorem dX6_difference_44 : decode cX6_difference 44 = .ok (.ireturn, 1) := by decide +kernel
theorem dX7_init_0 : decode cX7_init 0 = .ok (.aload_n 0, 1) := by decide +kernel
theorem dX7_init_1 : decode cX7_init 1 = .ok (.invokespecial 3, 3) := by decide +kernel
theorem dX7_init_4 : decode cX7_init 4 = .ok (.aload_n 0, 1) := by decide +kernel
theorem dX7_init_5 : decode cX7_init 5 = .ok (.bipush 12, 2) := by decide +kernel
theorem dX7_init_7 : decode cX7_init 7 = .ok (.newarray .int, 2) := by decide +kernel
theorem dX7_init_9 : decode cX7_init 9 = .ok (.putfield 9, 3) := by decide +kernel
theorem dX7_init_12 : decode cX7_init 12 = .ok (.return_, 1) := by decide +kernel
theorem dX7_clear_0 : decode cX7_clear 0 = .ok (.iconst 0, 1) := by decide +kernel
theorem dX7_clear_1 : decode cX7_clear 1 = .ok (.istore_n 1, 1) := by decide +kernel
theorem dX7_clear_2 : decode cX7_clear 2 = .ok (.iload_n 1, 1) := by decide +kernel
theorem dX7_clear_3 : decode cX7_clear 3 = .ok (.aload_n 0, 1) := by decide +kernel
theorem dX7_clear_4 : decode cX7_clear 4 = .ok (.getfield 9, 3) := by decide +kernel
theorem dX7_clear_7 : decode cX7_clear 7 = .ok (.arraylength, 1) := by decide +kernel
theorem dX7_clear_8 : decode cX7_clear 8 = .ok (.if_icmp .ge 16, 3) := by decide +kernel
theorem dX7_clear_11 : decode cX7_clear 11 = .ok (.aload_n 0, 1) := by decide +kernel
theorem dX7_clear_12 : decode cX7_clear 12 = .ok (.getfield 9, 3) := by decide +kernel
theorem dX7_clear_15 : decode cX7_clear 15 = .ok (.iload_n 1, 1) := by decide +kernel
theorem dX7_clear_16 : decode cX7_clear 16 = .ok (.iconst 0, 1) := by decide +kernel
theorem dX7_clear_17 : decode cX7_clear 17 = .ok (.iastore, 1) := by decide +kernel
theorem dX7_clear_18 : decode cX7_clear 18 = .ok (.iinc 1 1, 3) := by decide +kernel
theorem dX7_clear_21 : decode cX7_clear 21 = .ok (.goto (-19), 3) := by decide +kernel
theorem dX7_clear_24 : decode cX7_clear 24 = .ok (.aload_n 0, 1) := by decide +kernel
theorem dX7_clear_25 : decode cX7_clear 25 = .ok (.iconst 0, 1) := by decide +kernel
theorem dX7_clear_26 : decode cX7_clear 26 = .ok (.putfield 15, 3) := by decide +kernel
theorem dX7_clear_29 : decode cX7_clear 29 = .ok (.aload_n 0, 1) := by decide +kernel
theorem dX7_clear_30 : decode cX7_clear 30 = .ok (.iconst 0, 1) := by decide +kernel
theorem dX7_clear_31 : decode cX7_clear 31 = .ok (.putfield 19, 3) := by decide +kernel
theorem dX7_clear_34 : decode cX7_clear 34 = .ok (.return_, 1) := by decide +kernel
theorem dX7_add_0 : decode cX7_add 0 = .ok (.iconst 0, 1) := by decide +kernel
theorem dX7_add_1 : decode cX7_add 1 = .ok (.istore_n 2, 1) := by decide +kernel
theorem dX7_add_2 : decode cX7_add 2 = .ok (.iload_n 2, 1) := by decide +kernel
theorem dX7_add_3 : decode cX7_add 3 = .ok (.aload_n 0, 1) := by decide +kernel
theorem dX7_add_4 : decode cX7_add 4 = .ok (.getfield 9, 3) := by decide +kernel
theorem dX7_add_7 : decode cX7_add 7 = .ok (.arraylength, 1) := by decide +kernel
theorem dX7_add_8 : decode cX7_add 8 = .ok (.if_icmp .ge 24, 3) := by decide +kernel
theorem dX7_add_11 : decode cX7_add 11 = .ok (.aload_n 0, 1) := by decide +kernel
theorem dX7_add_12 : decode cX7_add 12 = .ok (.getfield 9, 3) := by decide +kernel
theorem dX7_add_15 : decode cX7_add 15 = .ok (.iload_n 2, 1) := by decide +kernel
theorem dX7_add_16 : decode cX7_add 16 = .ok (.dup2, 1) := by decide +kernel
theorem dX7_add_17 : decode cX7_add 17 = .ok (.iaload, 1) := by decide +kernel
theorem dX7_add_18 : decode cX7_add 18 = .ok (.aload_n 1, 1) := by decide +kernel
theorem dX7_add_19 : decode cX7_add 19 = .ok (.getfield 9, 3) := by decide +kernel
theorem dX7_add_22 : decode cX7_add 22 = .ok (.iload_n 2, 1) := by decide +kernel
theorem dX7_add_23 : decode cX7_add 23 = .ok (.iaload, 1) := by decide +kernel
theorem dX7_add_24 : decode cX7_add 24 = .ok (.iadd, 1) := by decide +kernel
theorem dX7_add_25 : decode cX7_add 25 = .ok (.iastore, 1) := by decide +kernel
theorem dX7_add_26 : decode cX7_add 26 = .ok (.iinc 2 1, 3) := by decide +kernel
theorem dX7_add_29 : decode cX7_add 29 = .ok (.goto (-27), 3) := by decide +kernel
theorem dX7_add_32 : decode cX7_add 32 = .ok (.aload_n 0, 1) := by decide +kernel
theorem dX7_add_33 : decode cX7_add 33 = .ok (.dup, 1) := by decide +kernel
theorem dX7_add_34 : decode cX7_add 34 = .ok (.getfield 15, 3) := by decide +kernel
theorem dX7_add_37 : decode cX7_add 37 = .ok (.aload_n 1, 1) := by decide +kernel
theorem dX7_add_38 : decode cX7_add 38 = .ok (.getfield 15, 3) := by decide +kernel
theorem dX7_add_41 : decode cX7_add 41 = .ok (.iadd, 1) := by decide +kernel
theorem dX7_add_42 : decode cX7_add 42 = .ok (.putfield 15, 3) := by decide +kernel
theorem dX7_add_45 : decode cX7_add 45 = .ok (.aload_n 0, 1) := by decide +kernel
theorem dX7_add_46 : decode cX7_add 46 = .ok (.dup, 1) := by decide +kernel
theorem dX7_add_47 : decode cX7_add 47 = .ok (.getfield 19, 3) := by decide +kernel
theorem dX7_add_50 : decode cX7_add 50 = .ok (.aload_n 1, 1) := by decide +kernel
theorem dX7_add_51 : decode cX7_add 51 = .ok (.getfield 19, 3) := by decide +kernel
theorem dX7_add_54 : decode cX7_add 54 = .ok (.iadd, 1) := by decide +kernel
theorem dX7_add_55 : decode cX7_add 55 = .ok (.putfield 19, 3) := by decide +kernel
theorem dX7_add_58 : decode cX7_add 58 = .ok (.return_, 1) := by decide +kernel
theorem dX7_countOf_0 : decode cX7_countOf 0 = .ok (.iload_n 1, 1) := by decide +kernel
theorem dX7_countOf_1 : decode cX7_countOf 1 = .ok (.ifCond .lt 21, 3) := by decide +kernel
theorem dX7_countOf_4 : decode cX7_countOf 4 = .ok (.iload_n 1, 1) := by decide +kernel
theorem dX7_countOf_5 : decode cX7_countOf 5 = .ok (.aload_n 0, 1) := by decide +kernel
theorem dX7_countOf_6 : decode cX7_countOf 6 = .ok (.getfield 9, 3) := by decide +kernel
theorem dX7_countOf_9 : decode cX7_countOf 9 = .ok (.arraylength, 1) := by decide +kernel
theorem dX7_countOf_10 : decode cX7_countOf 10 = .ok (.if_icmp .ge 12, 3) := by decide +kernel
theorem dX7_countOf_13 : decode cX7_countOf 13 = .ok (.aload_n 0, 1) := by decide +kernel
theorem dX7_countOf_14 : decode cX7_countOf 14 = .ok (.getfield 9, 3) := by decide +kernel
theorem dX7_countOf_17 : decode cX7_countOf 17 = .ok (.iload_n 1, 1) := by decide +kernel
theorem dX7_countOf_18 : decode cX7_countOf 18 = .ok (.iaload, 1) := by decide +kernel
theorem dX7_countOf_19 : decode cX7_countOf 19 = .ok (.goto 4, 3) := by decide +kernel
theorem dX7_countOf_22 : decode cX7_countOf 22 = .ok (.iconst 0, 1) := by decide +kernel
theorem dX7_countOf_23 : decode cX7_countOf 23 = .ok (.ireturn, 1) := by decide +kernel
theorem dX7_setCount_0 : decode cX7_setCount 0 = .ok (.iload_n 1, 1) := by decide +kernel
theorem dX7_setCount_1 : decode cX7_setCount 1 = .ok (.ifCond .lt 19, 3) := by decide +kernel
theorem dX7_setCount_4 : decode cX7_setCount 4 = .ok (.iload_n 1, 1) := by decide +kernel
theorem dX7_setCount_5 : decode cX7_setCount 5 = .ok (.aload_n 0, 1) := by decide +kernel
theorem dX7_setCount_6 : decode cX7_setCount 6 = .ok (.getfield 9, 3) := by decide +kernel
theorem dX7_setCount_9 : decode cX7_setCount 9 = .ok (.arraylength, 1) := by decide +kernel
theorem dX7_setCount_10 : decode cX7_setCount 10 = .ok (.if_icmp .ge 10, 3) := by decide +kernel
theorem dX7_setCount_13 : decode cX7_setCount 13 = .ok (.aload_n 0, 1) := by decide +kernel
theorem dX7_setCount_14 : decode cX7_setCount 14 = .ok (.getfield 9, 3) := by decide +kernel
theorem dX7_setCount_17 : decode cX7_setCount 17 = .ok (.iload_n 1, 1) := by decide +kernel
theorem dX7_setCount_18 : decode cX7_setCount 18 = .ok (.iload_n 2, 1) := by decide +kernel
theorem dX7_setCount_19 : decode cX7_setCount 19 = .ok (.iastore, 1) := by decide +kernel
theorem dX7_setCount_20 : decode cX7_setCount 20 = .ok (.return_, 1) := by decide +kernel
theorem dX8_init_0 : decode cX8_init 0 = .ok (.aload_n 0, 1) := by decide +kernel
theorem dX8_init_1 : decode cX8_init 1 = .ok (.invokespecial 3, 3) := by decide +kernel
theorem dX8_init_4 : decode cX8_init 4 = .ok (.aload_n 0, 1) := by decide +kernel
theorem dX8_init_5 : decode cX8_init 5 = .ok (.new 9, 3) := by decide +kernel
theorem dX8_init_8 : decode cX8_init 8 = .ok (.dup, 1) := by decide +kernel
theorem dX8_init_9 : decode cX8_init 9 = .ok (.invokespecial 11, 3) := by decide +kernel
theorem dX8_init_12 : decode cX8_init 12 = .ok (.putfield 12, 3) := by decide +kernel
theorem dX8_init_15 : decode cX8_init 15 = .ok (.aload_n 0, 1) := by decide +kernel
theorem dX8_init_16 : decode cX8_init 16 = .ok (.new 18, 3) := by decide +kernel
theorem dX8_init_19 : decode cX8_init 19 = .ok (.dup, 1) := by decide +kernel
theorem dX8_init_20 : decode cX8_init 20 = .ok (.invokespecial 20, 3) := by decide +kernel
theorem dX8_init_23 : decode cX8_init 23 = .ok (.putfield 21, 3) := by decide +kernel
theorem dX8_init_26 : decode cX8_init 26 = .ok (.aload_n 0, 1) := by decide +kernel
theorem dX8_init_27 : decode cX8_init 27 = .ok (.iload_n 1, 1) := by decide +kernel
theorem dX8_init_28 : decode cX8_init 28 = .ok (.putfield 25, 3) := by decide +kernel
theorem dX8_init_31 : decode cX8_init 31 = .ok (.aload_n 0, 1) := by decide +kernel
theorem dX8_init_32 : decode cX8_init 32 = .ok (.iload_n 2, 1) := by decide +kernel
theorem dX8_init_33 : decode cX8_init 33 = .ok (.putfield 29, 3) := by decide +kernel
theorem dX8_init_36 : decode cX8_init 36 = .ok (.aload_n 0, 1) := by decide +kernel
theorem dX8_init_37 : decode cX8_init 37 = .ok (.iload_n 3, 1) := by decide +kernel
theorem dX8_init_38 : decode cX8_init 38 = .ok (.putfield 32, 3) := by decide +kernel
theorem dX8_init_41 : decode cX8_init 41 = .ok (.return_, 1) := by decide +kernel
theorem dX8_isKnown_0 : decode cX8_isKnown 0 = .ok (.aload_n 0, 1) := by decide +kernel
theorem dX8_isKnown_1 : decode cX8_isKnown 1 = .ok (.getfield 25, 3) := by decide +kernel
theorem dX8_isKnown_4 : decode cX8_isKnown 4 = .ok (.iconst 1, 1) := by decide +kernel
theorem dX8_isKnown_5 : decode cX8_isKnown 5 = .ok (.if_icmp .eq 11, 3) := by decide +kernel
theorem dX8_isKnown_8 : decode cX8_isKnown 8 = .ok (.aload_n 0, 1) := by decide +kernel
theorem dX8_isKnown_9 : decode cX8_isKnown 9 = .ok (.getfield 25, 3) := by decide +kernel
theorem dX8_isKnown_12 : decode cX8_isKnown 12 = .ok (.iconst 2, 1) := by decide +kernel
theorem dX8_isKnown_13 : decode cX8_isKnown 13 = .ok (.if_icmp .ne 7, 3) := by decide +kernel
theorem dX8_isKnown_16 : decode cX8_isKnown 16 = .ok (.iconst 1, 1) := by decide +kernel
theorem dX8_isKnown_17 : decode cX8_isKnown 17 = .ok (.goto 4, 3) := by decide +kernel
theorem dX8_isKnown_20 : decode cX8_isKnown 20 = .ok (.iconst 0, 1) := by decide +kernel
theorem dX8_isKnown_21 : decode cX8_isKnown 21 = .ok (.ireturn, 1) := by decide +kernel
theorem dX8_isInHand_0 : decode cX8_isInHand 0 = .ok (.aload_n 0, 1) := by decide +kernel
theorem dX8_isInHand_1 : decode cX8_isInHand 1 = .ok (.invokevirtual 35, 3) := by decide +kernel
theorem dX8_isInHand_4 : decode cX8_isInHand 4 = .ok (.ifCond .eq 14, 3) := by decide +kernel
theorem dX8_isInHand_7 : decode cX8_isInHand 7 = .ok (.aload_n 0, 1) := by decide +kernel
theorem dX8_isInHand_8 : decode cX8_isInHand 8 = .ok (.getfield 39, 3) := by decide +kernel
theorem dX8_isInHand_11 : decode cX8_isInHand 11 = .ok (.ifCond .ne 7, 3) := by decide +kernel
theorem dX8_isInHand_14 : decode cX8_isInHand 14 = .ok (.iconst 1, 1) := by decide +kernel
theorem dX8_isInHand_15 : decode cX8_isInHand 15 = .ok (.goto 4, 3) := by decide +kernel
theorem dX8_isInHand_18 : decode cX8_isInHand 18 = .ok (.iconst 0, 1) := by decide +kernel
theorem dX8_isInHand_19 : decode cX8_isInHand 19 = .ok (.ireturn, 1) := by decide +kernel
theorem dX8_isBy_0 : decode cX8_isBy 0 = .ok (.aload_n 0, 1) := by decide +kernel
theorem dX8_isBy_1 : decode cX8_isBy 1 = .ok (.invokevirtual 43, 3) := by decide +kernel
theorem dX8_isBy_4 : decode cX8_isBy 4 = .ok (.ifCond .eq 15, 3) := by decide +kernel
theorem dX8_isBy_7 : decode cX8_isBy 7 = .ok (.aload_n 0, 1) := by decide +kernel
theorem dX8_isBy_8 : decode cX8_isBy 8 = .ok (.getfield 29, 3) := by decide +kernel
theorem dX8_isBy_11 : decode cX8_isBy 11 = .ok (.iload_n 1, 1) := by decide +kernel
theorem dX8_isBy_12 : decode cX8_isBy 12 = .ok (.if_icmp .ne 7, 3) := by decide +kernel
theorem dX8_isBy_15 : decode cX8_isBy 15 = .ok (.iconst 1, 1) := by decide +kernel
theorem dX8_isBy_16 : decode cX8_isBy 16 = .ok (.goto 4, 3) := by decide +kernel
theorem dX8_isBy_19 : decode cX8_isBy 19 = .ok (.iconst 0, 1) := by decide +kernel
theorem dX8_isBy_20 : decode cX8_isBy 20 = .ok (.ireturn, 1) := by decide +kernel
theorem dX8_tell_0 : decode cX8_tell 0 = .ok (.iload_n 1, 1) := by decide +kernel
theorem dX8_tell_1 : decode cX8_tell 1 = .ok (.tableswitch 57 0 3 #[31, 36, 41, 49], 31) := by decide +kernel
theorem dX8_tell_32 : decode cX8_tell 32 = .ok (.aload_n 0, 1) := by decide +kernel
theorem dX8_tell_33 : decode cX8_tell 33 = .ok (.getfield 25, 3) := by decide +kernel
theorem dX8_tell_36 : decode cX8_tell 36 = .ok (.ireturn, 1) := by decide +kernel
theorem dX8_tell_37 : decode cX8_tell 37 = .ok (.aload_n 0, 1) := by decide +kernel
theorem dX8_tell_38 : decode cX8_tell 38 = .ok (.getfield 29, 3) := by decide +kernel
theorem dX8_tell_41 : decode cX8_tell 41 = .ok (.ireturn, 1) := by decide +kernel
theorem dX8_tell_42 : decode cX8_tell 42 = .ok (.aload_n 0, 1) := by decide +kernel
theorem dX8_tell_43 : decode cX8_tell 43 = .ok (.getfield 12, 3) := by decide +kernel
theorem dX8_tell_46 : decode cX8_tell 46 = .ok (.getfield 46, 3) := by decide +kernel
theorem dX8_tell_49 : decode cX8_tell 49 = .ok (.ireturn, 1) := by decide +kernel
theorem dX8_tell_50 : decode cX8_tell 50 = .ok (.aload_n 0, 1) := by decide +kernel
theorem dX8_tell_51 : decode cX8_tell 51 = .ok (.getfield 12, 3) := by decide +kernel
theorem dX8_tell_54 : decode cX8_tell 54 = .ok (.getfield 49, 3) := by decide +kernel
theorem dX8_tell_57 : decode cX8_tell 57 = .ok (.ireturn, 1) := by decide +kernel
theorem dX8_tell_58 : decode cX8_tell 58 = .ok (.aload_n 0, 1) := by decide +kernel
theorem dX8_tell_59 : decode cX8_tell 59 = .ok (.getfield 12, 3) := by decide +kernel
theorem dX8_tell_62 : decode cX8_tell 62 = .ok (.getfield 52, 3) := by decide +kernel
theorem dX8_tell_65 : decode cX8_tell 65 = .ok (.ireturn, 1) := by decide +kernel
theorem dX9_init_0 : decode cX9_init 0 = .ok (.aload_n 0, 1) := by decide +kernel
theorem dX9_init_1 : decode cX9_init 1 = .ok (.invokespecial 3, 3) := by decide +kernel
theorem dX9_init_4 : decode cX9_init 4 = .ok (.aload_n 0, 1) := by decide +kernel
theorem dX9_init_5 : decode cX9_init 5 = .ok (.bipush 14, 2) := by decide +kernel
theorem dX9_init_7 : decode cX9_init 7 = .ok (.anewarray 9, 3) := by decide +kernel
theorem dX9_init_10 : decode cX9_init 10 = .ok (.putfield 11, 3) := by decide +kernel
theorem dX9_init_13 : decode cX9_init 13 = .ok (.aload_n 0, 1) := by decide +kernel
theorem dX9_init_14 : decode cX9_init 14 = .ok (.bipush 14, 2) := by decide +kernel
theorem dX9_init_16 : decode cX9_init 16 = .ok (.bipush 12, 2) := by decide +kernel
theorem dX9_init_18 : decode cX9_init 18 = .ok (.multianewarray 17 2, 4) := by decide +kernel
theorem dX9_init_22 : decode cX9_init 22 = .ok (.putfield 19, 3) := by decide +kernel
theorem dX9_init_25 : decode cX9_init 25 = .ok (.aload_n 0, 1) := by decide +kernel
theorem dX9_init_26 : decode cX9_init 26 = .ok (.bipush 14, 2) := by decide +kernel
theorem dX9_init_28 : decode cX9_init 28 = .ok (.newarray .boolean, 2) := by decide +kernel
theorem dX9_init_30 : decode cX9_init 30 = .ok (.putfield 22, 3) := by decide +kernel
theorem dX9_init_33 : decode cX9_init 33 = .ok (.aload_n 0, 1) := by decide +kernel
theorem dX9_init_34 : decode cX9_init 34 = .ok (.bipush 14, 2) := by decide +kernel
theorem dX9_init_36 : decode cX9_init 36 = .ok (.newarray .int, 2) := by decide +kernel
theorem dX9_init_38 : decode cX9_init 38 = .ok (.putfield 26, 3) := by decide +kernel
theorem dX9_init_41 : decode cX9_init 41 = .ok (.aload_n 0, 1) := by decide +kernel
theorem dX9_init_42 : decode cX9_init 42 = .ok (.bipush 14, 2) := by decide +kernel
theorem dX9_init_44 : decode cX9_init 44 = .ok (.newarray .int, 2) := by decide +kernel
theorem dX9_init_46 : decode cX9_init 46 = .ok (.putfield 30, 3) := by decide +kernel
theorem dX9_init_49 : decode cX9_init 49 = .ok (.aload_n 0, 1) := by decide +kernel
theorem dX9_init_50 : decode cX9_init 50 = .ok (.bipush 14, 2) := by decide +kernel
theorem dX9_init_52 : decode cX9_init 52 = .ok (.newarray .int, 2) := by decide +kernel
theorem dX9_init_54 : decode cX9_init 54 = .ok (.putfield 33, 3) := by decide +kernel
theorem dX9_init_57 : decode cX9_init 57 = .ok (.iconst 0, 1) := by decide +kernel
theorem dX9_init_58 : decode cX9_init 58 = .ok (.istore_n 1, 1) := by decide +kernel
theorem dX9_init_59 : decode cX9_init 59 = .ok (.iload_n 1, 1) := by decide +kernel
theorem dX9_init_60 : decode cX9_init 60 = .ok (.aload_n 0, 1) := by decide +kernel
theorem dX9_init_61 : decode cX9_init 61 = .ok (.getfield 11, 3) := by decide +kernel
theorem dX9_init_64 : decode cX9_init 64 = .ok (.arraylength, 1) := by decide +kernel
theorem dX9_init_65 : decode cX9_init 65 = .ok (.if_icmp .ge 22, 3) := by decide +kernel
theorem dX9_init_68 : decode cX9_init 68 = .ok (.aload_n 0, 1) := by decide +kernel
theorem dX9_init_69 : decode cX9_init 69 = .ok (.getfield 11, 3) := by decide +kernel
theorem dX9_init_72 : decode cX9_init 72 = .ok (.iload_n 1, 1) := by decide +kernel
theorem dX9_init_73 : decode cX9_init 73 = .ok (.new 9, 3) := by decide +kernel
theorem dX9_init_76 : decode cX9_init 76 = .ok (.dup, 1) := by decide +kernel
theorem dX9_init_77 : decode cX9_init 77 = .ok (.invokespecial 36, 3) := by decide +kernel
theorem dX9_init_80 : decode cX9_init 80 = .ok (.aastore, 1) := by decide +kernel
theorem dX9_init_81 : decode cX9_init 81 = .ok (.iinc 1 1, 3) := by decide +kernel
theorem dX9_init_84 : decode cX9_init 84 = .ok (.goto (-25), 3) := by decide +kernel
theorem dX9_init_87 : decode cX9_init 87 = .ok (.return_, 1) := by decide +kernel
theorem dX9_grow_0 : decode cX9_grow 0 = .ok (.iconst 0, 1) := by decide +kernel
theorem dX9_grow_1 : decode cX9_grow 1 = .ok (.istore_n 3, 1) := by decide +kernel
theorem dX9_grow_2 : decode cX9_grow 2 = .ok (.iload_n 3, 1) := by decide +kernel
theorem dX9_grow_3 : decode cX9_grow 3 = .ok (.bipush 14, 2) := by decide +kernel
theorem dX9_grow_5 : decode cX9_grow 5 = .ok (.if_icmp .ge 24, 3) := by decide +kernel
theorem dX9_grow_8 : decode cX9_grow 8 = .ok (.iload_n 3, 1) := by decide +kernel
theorem dX9_grow_9 : decode cX9_grow 9 = .ok (.aload_n 1, 1) := by decide +kernel
theorem dX9_grow_10 : decode cX9_grow 10 = .ok (.arraylength, 1) := by decide +kernel
theorem dX9_grow_11 : decode cX9_grow 11 = .ok (.if_icmp .ge 18, 3) := by decide +kernel
theorem dX9_grow_14 : decode cX9_grow 14 = .ok (.aload_n 0, 1) := by decide +kernel
theorem dX9_grow_15 : decode cX9_grow 15 = .ok (.iload_n 3, 1) := by decide +kernel
theorem dX9_grow_16 : decode cX9_grow 16 = .ok (.aload_n 1, 1) := by decide +kernel
theorem dX9_grow_17 : decode cX9_grow 17 = .ok (.iload_n 3, 1) := by decide +kernel
theorem dX9_grow_18 : decode cX9_grow 18 = .ok (.aaload, 1) := by decide +kernel
theorem dX9_grow_19 : decode cX9_grow 19 = .ok (.aload_n 2, 1) := by decide +kernel
theorem dX9_grow_20 : decode cX9_grow 20 = .ok (.invokevirtual 37, 3) := by decide +kernel
theorem dX9_grow_23 : decode cX9_grow 23 = .ok (.iinc 3 1, 3) := by decide +kernel
theorem dX9_grow_26 : decode cX9_grow 26 = .ok (.goto (-24), 3) := by decide +kernel
theorem dX9_grow_29 : decode cX9_grow 29 = .ok (.aload_n 0, 1) := by decide +kernel
theorem dX9_grow_30 : decode cX9_grow 30 = .ok (.iconst 0, 1) := by decide +kernel
theorem dX9_grow_31 : decode cX9_grow 31 = .ok (.putfield 41, 3) := by decide +kernel
theorem dX9_grow_34 : decode cX9_grow 34 = .ok (.iconst 1, 1) := by decide +kernel
theorem dX9_grow_35 : decode cX9_grow 35 = .ok (.istore_n 3, 1) := by decide +kernel
theorem dX9_grow_36 : decode cX9_grow 36 = .ok (.iload_n 3, 1) := by decide +kernel
theorem dX9_grow_37 : decode cX9_grow 37 = .ok (.bipush 14, 2) := by decide +kernel
theorem dX9_grow_39 : decode cX9_grow 39 = .ok (.if_icmp .ge 22, 3) := by decide +kernel
theorem dX9_grow_42 : decode cX9_grow 42 = .ok (.aload_n 0, 1) := by decide +kernel
theorem dX9_grow_43 : decode cX9_grow 43 = .ok (.aload_n 2, 1) := by decide +kernel
theorem dX9_grow_44 : decode cX9_grow 44 = .ok (.invokevirtual 45, 3) := by decide +kernel
theorem dX9_grow_47 : decode cX9_grow 47 = .ok (.ifCond .eq 8, 3) := by decide +kernel
theorem dX9_grow_50 : decode cX9_grow 50 = .ok (.aload_n 0, 1) := by decide +kernel
theorem dX9_grow_51 : decode cX9_grow 51 = .ok (.aload_n 2, 1) := by decide +kernel
theorem dX9_grow_52 : decode cX9_grow 52 = .ok (.invokevirtual 49, 3) := by decide +kernel
theorem dX9_grow_55 : decode cX9_grow 55 = .ok (.iinc 3 1, 3) := by decide +kernel
theorem dX9_grow_58 : decode cX9_grow 58 = .ok (.goto (-22), 3) := by decide +kernel
theorem dX9_grow_61 : decode cX9_grow 61 = .ok (.aload_n 0, 1) := by decide +kernel
theorem dX9_grow_62 : decode cX9_grow 62 = .ok (.getfield 41, 3) := by decide +kernel
theorem dX9_grow_65 : decode cX9_grow 65 = .ok (.ireturn, 1) := by decide +kernel
theorem dX9_begin_0 : decode cX9_begin 0 = .ok (.aload_n 0, 1) := by decide +kernel
theorem dX9_begin_1 : decode cX9_begin 1 = .ok (.getfield 22, 3) := by decide +kernel
theorem dX9_begin_4 : decode cX9_begin 4 = .ok (.iload_n 1, 1) := by decide +kernel
theorem dX9_begin_5 : decode cX9_begin 5 = .ok (.aload_n 2, 1) := by decide +kernel
theorem dX9_begin_6 : decode cX9_begin 6 = .ok (.ifnull 14, 3) := by decide +kernel
theorem dX9_begin_9 : decode cX9_begin 9 = .ok (.aload_n 2, 1) := by decide +kernel
theorem dX9_begin_10 : decode cX9_begin 10 = .ok (.getfield 53, 3) := by decide +kernel
theorem dX9_begin_13 : decode cX9_begin 13 = .ok (.ifCond .ne 7, 3) := by decide +kernel
theorem dX9_begin_16 : decode cX9_begin 16 = .ok (.iconst 1, 1) := by decide +kernel
theorem dX9_begin_17 : decode cX9_begin 17 = .ok (.goto 4, 3) := by decide +kernel
theorem dX9_begin_20 : decode cX9_begin 20 = .ok (.iconst 0, 1) := by decide +kernel
theorem dX9_begin_21 : decode cX9_begin 21 = .ok (.bastore, 1) := by decide +kernel
theorem dX9_begin_22 : decode cX9_begin 22 = .ok (.aload_n 0, 1) := by decide +kernel
theorem dX9_begin_23 : decode cX9_begin 23 = .ok (.getfield 11, 3) := by decide +kernel
theorem dX9_begin_26 : decode cX9_begin 26 = .ok (.iload_n 1, 1) := by decide +kernel
theorem dX9_begin_27 : decode cX9_begin 27 = .ok (.aaload, 1) := by decide +kernel
theorem dX9_begin_28 : decode cX9_begin 28 = .ok (.invokevirtual 59, 3) := by decide +kernel
theorem dX9_begin_31 : decode cX9_begin 31 = .ok (.aload_n 2, 1) := by decide +kernel
theorem dX9_begin_32 : decode cX9_begin 32 = .ok (.ifnull 25, 3) := by decide +kernel
theorem dX9_begin_35 : decode cX9_begin 35 = .ok (.aload_n 0, 1) := by decide +kernel
theorem dX9_begin_36 : decode cX9_begin 36 = .ok (.getfield 22, 3) := by decide +kernel
theorem dX9_begin_39 : decode cX9_begin 39 = .ok (.iload_n 1, 1) := by decide +kernel
theorem dX9_begin_40 : decode cX9_begin 40 = .ok (.baload, 1) := by decide +kernel
theorem dX9_begin_41 : decode cX9_begin 41 = .ok (.ifCond .eq 16, 3) := by decide +kernel
theorem dX9_begin_44 : decode cX9_begin 44 = .ok (.aload_n 0, 1) := by decide +kernel
theorem dX9_begin_45 : decode cX9_begin 45 = .ok (.getfield 11, 3) := by decide +kernel
theorem dX9_begin_48 : decode cX9_begin 48 = .ok (.iload_n 1, 1) := by decide +kernel
theorem dX9_begin_49 : decode cX9_begin 49 = .ok (.aaload, 1) := by decide +kernel
theorem dX9_begin_50 : decode cX9_begin 50 = .ok (.aload_n 2, 1) := by decide +kernel
theorem dX9_begin_51 : decode cX9_begin 51 = .ok (.getfield 62, 3) := by decide +kernel
theorem dX9_begin_54 : decode cX9_begin 54 = .ok (.invokevirtual 66, 3) := by decide +kernel
theorem dX9_begin_57 : decode cX9_begin 57 = .ok (.aload_n 3, 1) := by decide +kernel
theorem dX9_begin_58 : decode cX9_begin 58 = .ok (.aload_n 0, 1) := by decide +kernel
theorem dX9_begin_59 : decode cX9_begin 59 = .ok (.getfield 11, 3) := by decide +kernel
theorem dX9_begin_62 : decode cX9_begin 62 = .ok (.iload_n 1, 1) := by decide +kernel
theorem dX9_begin_63 : decode cX9_begin 63 = .ok (.aaload, 1) := by decide +kernel
theorem dX9_begin_64 : decode cX9_begin 64 = .ok (.aload_n 0, 1) := by decide +kernel
theorem dX9_begin_65 : decode cX9_begin 65 = .ok (.getfield 19, 3) := by decide +kernel
theorem dX9_begin_68 : decode cX9_begin 68 = .ok (.iload_n 1, 1) := by decide +kernel
theorem dX9_begin_69 : decode cX9_begin 69 = .ok (.aaload, 1) := by decide +kernel
theorem dX9_begin_70 : decode cX9_begin 70 = .ok (.invokevirtual 70, 3) := by decide +kernel
theorem dX9_begin_73 : decode cX9_begin 73 = .ok (.return_, 1) := by decide +kernel
theorem dX9_findNearestPair_0 : decode cX9_findNearestPair 0 = .ok (.iconst 0, 1) := by decide +kernel
theorem dX9_findNearestPair_1 : decode cX9_findNearestPair 1 = .ok (.istore_n 2, 1) := by decide +kernel
theorem dX9_findNearestPair_2 : decode cX9_findNearestPair 2 = .ok (.iconst 0, 1) := by decide +kernel
theorem dX9_findNearestPair_3 : decode cX9_findNearestPair 3 = .ok (.istore_n 3, 1) := by decide +kernel
theorem dX9_findNearestPair_4 : decode cX9_findNearestPair 4 = .ok (.iload_n 3, 1) := by decide +kernel
theorem dX9_findNearestPair_5 : decode cX9_findNearestPair 5 = .ok (.bipush 14, 2) := by decide +kernel
theorem dX9_findNearestPair_7 : decode cX9_findNearestPair 7 = .ok (.if_icmp .ge 124, 3) := by decide +kernel
theorem dX9_findNearestPair_10 : decode cX9_findNearestPair 10 = .ok (.iload_n 3, 1) := by decide +kernel
theorem dX9_findNearestPair_11 : decode cX9_findNearestPair 11 = .ok (.iconst 1, 1) := by decide +kernel
theorem dX9_findNearestPair_12 : decode cX9_findNearestPair 12 = .ok (.iadd, 1) := by decide +kernel
theorem dX9_findNearestPair_13 : decode cX9_findNearestPair 13 = .ok (.istore 4, 2) := by decide +kernel
theorem dX9_findNearestPair_15 : decode cX9_findNearestPair 15 = .ok (.iload 4, 2) := by decide +kernel
theorem dX9_findNearestPair_17 : decode cX9_findNearestPair 17 = .ok (.bipush 14, 2) := by decide +kernel
theorem dX9_findNearestPair_19 : decode cX9_findNearestPair 19 = .ok (.if_icmp .ge 106, 3) := by decide +kernel
theorem dX9_findNearestPair_22 : decode cX9_findNearestPair 22 = .ok (.aload_n 0, 1) := by decide +kernel
theorem dX9_findNearestPair_23 : decode cX9_findNearestPair 23 = .ok (.getfield 22, 3) := by decide +kernel
theorem dX9_findNearestPair_26 : decode cX9_findNearestPair 26 = .ok (.iload_n 3, 1) := by decide +kernel
theorem dX9_findNearestPair_27 : decode cX9_findNearestPair 27 = .ok (.baload, 1) := by decide +kernel
theorem dX9_findNearestPair_28 : decode cX9_findNearestPair 28 = .ok (.ifCond .eq 97, 3) := by decide +kernel
theorem dX9_findNearestPair_31 : decode cX9_findNearestPair 31 = .ok (.aload_n 0, 1) := by decide +kernel
theorem dX9_findNearestPair_32 : decode cX9_findNearestPair 32 = .ok (.getfield 22, 3) := by decide +kernel
theorem dX9_findNearestPair_35 : decode cX9_findNearestPair 35 = .ok (.iload 4, 2) := by decide +kernel
theorem dX9_findNearestPair_37 : decode cX9_findNearestPair 37 = .ok (.baload, 1) := by decide +kernel
theorem dX9_findNearestPair_38 : decode cX9_findNearestPair 38 = .ok (.ifCond .ne 6, 3) := by decide +kernel
theorem dX9_findNearestPair_41 : decode cX9_findNearestPair 41 = .ok (.goto 78, 3) := by decide +kernel
theorem dX9_findNearestPair_44 : decode cX9_findNearestPair 44 = .ok (.aload_n 1, 1) := by decide +kernel
theorem dX9_findNearestPair_45 : decode cX9_findNearestPair 45 = .ok (.aload_n 0, 1) := by decide +kernel
theorem dX9_findNearestPair_46 : decode cX9_findNearestPair 46 = .ok (.getfield 19, 3) := by decide +kernel
theorem dX9_findNearestPair_49 : decode cX9_findNearestPair 49 = .ok (.iload_n 3, 1) := by decide +kernel
theorem dX9_findNearestPair_50 : decode cX9_findNearestPair 50 = .ok (.aaload, 1) := by decide +kernel
theorem dX9_findNearestPair_51 : decode cX9_findNearestPair 51 = .ok (.aload_n 0, 1) := by decide +kernel
theorem dX9_findNearestPair_52 : decode cX9_findNearestPair 52 = .ok (.getfield 19, 3) := by decide +kernel
theorem dX9_findNearestPair_55 : decode cX9_findNearestPair 55 = .ok (.iload 4, 2) := by decide +kernel
theorem dX9_findNearestPair_57 : decode cX9_findNearestPair 57 = .ok (.aaload, 1) := by decide +kernel
theorem dX9_findNearestPair_58 : decode cX9_findNearestPair 58 = .ok (.iconst (-1), 1) := by decide +kernel
theorem dX9_findNearestPair_59 : decode cX9_findNearestPair 59 = .ok (.invokevirtual 76, 3) := by decide +kernel
theorem dX9_findNearestPair_62 : decode cX9_findNearestPair 62 = .ok (.istore 5, 2) := by decide +kernel
theorem dX9_findNearestPair_64 : decode cX9_findNearestPair 64 = .ok (.iload_n 2, 1) := by decide +kernel
theorem dX9_findNearestPair_65 : decode cX9_findNearestPair 65 = .ok (.ifCond .eq 20, 3) := by decide +kernel
theorem dX9_findNearestPair_68 : decode cX9_findNearestPair 68 = .ok (.iload 5, 2) := by decide +kernel
theorem dX9_findNearestPair_70 : decode cX9_findNearestPair 70 = .ok (.aload_n 0, 1) := by decide +kernel
theorem dX9_findNearestPair_71 : decode cX9_findNearestPair 71 = .ok (.getfield 33, 3) := by decide +kernel
theorem dX9_findNearestPair_74 : decode cX9_findNearestPair 74 = .ok (.aload_n 0, 1) := by decide +kernel
theorem dX9_findNearestPair_75 : decode cX9_findNearestPair 75 = .ok (.getfield 41, 3) := by decide +kernel
theorem dX9_findNearestPair_78 : decode cX9_findNearestPair 78 = .ok (.iaload, 1) := by decide +kernel
theorem dX9_findNearestPair_79 : decode cX9_findNearestPair 79 = .ok (.if_icmp .lt 6, 3) := by decide +kernel
theorem dX9_findNearestPair_82 : decode cX9_findNearestPair 82 = .ok (.goto 37, 3) := by decide +kernel
theorem dX9_findNearestPair_85 : decode cX9_findNearestPair 85 = .ok (.iconst 1, 1) := by decide +kernel
theorem dX9_findNearestPair_86 : decode cX9_findNearestPair 86 = .ok (.istore_n 2, 1) := by decide +kernel
theorem dX9_findNearestPair_87 : decode cX9_findNearestPair 87 = .ok (.aload_n 0, 1) := by decide +kernel
theorem dX9_findNearestPair_88 : decode cX9_findNearestPair 88 = .ok (.getfield 26, 3) := by decide +kernel
theorem dX9_findNearestPair_91 : decode cX9_findNearestPair 91 = .ok (.aload_n 0, 1) := by decide +kernel
theorem dX9_findNearestPair_92 : decode cX9_findNearestPair 92 = .ok (.getfield 41, 3) := by decide +kernel
theorem dX9_findNearestPair_95 : decode cX9_findNearestPair 95 = .ok (.iload_n 3, 1) := by decide +kernel
theorem dX9_findNearestPair_96 : decode cX9_findNearestPair 96 = .ok (.iastore, 1) := by decide +kernel
theorem dX9_findNearestPair_97 : decode cX9_findNearestPair 97 = .ok (.aload_n 0, 1) := by decide +kernel
theorem dX9_findNearestPair_98 : decode cX9_findNearestPair 98 = .ok (.getfield 30, 3) := by decide +kernel
theorem dX9_findNearestPair_101 : decode cX9_findNearestPair 101 = .ok (.aload_n 0, 1) := by decide +kernel
theorem dX9_findNearestPair_102 : decode cX9_findNearestPair 102 = .ok (.getfield 41, 3) := by decide +kernel
theorem dX9_findNearestPair_105 : decode cX9_findNearestPair 105 = .ok (.iload 4, 2) := by decide +kernel
theorem dX9_findNearestPair_107 : decode cX9_findNearestPair 107 = .ok (.iastore, 1) := by decide +kernel
theorem dX9_findNearestPair_108 : decode cX9_findNearestPair 108 = .ok (.aload_n 0, 1) := by decide +kernel
theorem dX9_findNearestPair_109 : decode cX9_findNearestPair 109 = .ok (.getfield 33, 3) := by decide +kernel
theorem dX9_findNearestPair_112 : decode cX9_findNearestPair 112 = .ok (.aload_n 0, 1) := by decide +kernel
theorem dX9_findNearestPair_113 : decode cX9_findNearestPair 113 = .ok (.getfield 41, 3) := by decide +kernel
theorem dX9_findNearestPair_116 : decode cX9_findNearestPair 116 = .ok (.iload 5, 2) := by decide +kernel
theorem dX9_findNearestPair_118 : decode cX9_findNearestPair 118 = .ok (.iastore, 1) := by decide +kernel
theorem dX9_findNearestPair_119 : decode cX9_findNearestPair 119 = .ok (.iinc 4 1, 3) := by decide +kernel
theorem dX9_findNearestPair_122 : decode cX9_findNearestPair 122 = .ok (.goto (-107), 3) := by decide +kernel
theorem dX9_findNearestPair_125 : decode cX9_findNearestPair 125 = .ok (.iinc 3 1, 3) := by decide +kernel
theorem dX9_findNearestPair_128 : decode cX9_findNearestPair 128 = .ok (.goto (-124), 3) := by decide +kernel
theorem dX9_findNearestPair_131 : decode cX9_findNearestPair 131 = .ok (.iload_n 2, 1) := by decide +kernel
theorem dX9_findNearestPair_132 : decode cX9_findNearestPair 132 = .ok (.ireturn, 1) := by decide +kernel
theorem dX9_joinPair_0 : decode cX9_joinPair 0 = .ok (.aload_n 0, 1) := by decide +kernel
theorem dX9_joinPair_1 : decode cX9_joinPair 1 = .ok (.getfield 26, 3) := by decide +kernel
theorem dX9_joinPair_4 : decode cX9_joinPair 4 = .ok (.aload_n 0, 1) := by decide +kernel
theorem dX9_joinPair_5 : decode cX9_joinPair 5 = .ok (.getfield 41, 3) := by decide +kernel
theorem dX9_joinPair_8 : decode cX9_joinPair 8 = .ok (.iaload, 1) := by decide +kernel
theorem dX9_joinPair_9 : decode cX9_joinPair 9 = .ok (.istore_n 2, 1) := by decide +kernel
theorem dX9_joinPair_10 : decode cX9_joinPair 10 = .ok (.aload_n 0, 1) := by decide +kernel
theorem dX9_joinPair_11 : decode cX9_joinPair 11 = .ok (.getfield 30, 3) := by decide +kernel
theorem dX9_joinPair_14 : decode cX9_joinPair 14 = .ok (.aload_n 0, 1) := by decide +kernel
theorem dX9_joinPair_15 : decode cX9_joinPair 15 = .ok (.getfield 41, 3) := by decide +kernel
theorem dX9_joinPair_18 : decode cX9_joinPair 18 = .ok (.iaload, 1) := by decide +kernel
theorem dX9_joinPair_19 : decode cX9_joinPair 19 = .ok (.istore_n 3, 1) := by decide +kernel
theorem dX9_joinPair_20 : decode cX9_joinPair 20 = .ok (.aload_n 0, 1) := by decide +kernel
theorem dX9_joinPair_21 : decode cX9_joinPair 21 = .ok (.getfield 11, 3) := by decide +kernel
theorem dX9_joinPair_24 : decode cX9_joinPair 24 = .ok (.iload_n 2, 1) := by decide +kernel
theorem dX9_joinPair_25 : decode cX9_joinPair 25 = .ok (.aaload, 1) := by decide +kernel
theorem dX9_joinPair_26 : decode cX9_joinPair 26 = .ok (.aload_n 0, 1) := by decide +kernel
theorem dX9_joinPair_27 : decode cX9_joinPair 27 = .ok (.getfield 11, 3) := by decide +kernel
theorem dX9_joinPair_30 : decode cX9_joinPair 30 = .ok (.iload_n 3, 1) := by decide +kernel
theorem dX9_joinPair_31 : decode cX9_joinPair 31 = .ok (.aaload, 1) := by decide +kernel
theorem dX9_joinPair_32 : decode cX9_joinPair 32 = .ok (.invokevirtual 66, 3) := by decide +kernel
theorem dX9_joinPair_35 : decode cX9_joinPair 35 = .ok (.aload_n 1, 1) := by decide +kernel
theorem dX9_joinPair_36 : decode cX9_joinPair 36 = .ok (.aload_n 0, 1) := by decide +kernel
theorem dX9_joinPair_37 : decode cX9_joinPair 37 = .ok (.getfield 11, 3) := by decide +kernel
theorem dX9_joinPair_40 : decode cX9_joinPair 40 = .ok (.iload_n 2, 1) := by decide +kernel
theorem dX9_joinPair_41 : decode cX9_joinPair 41 = .ok (.aaload, 1) := by decide +kernel
theorem dX9_joinPair_42 : decode cX9_joinPair 42 = .ok (.aload_n 0, 1) := by decide +kernel
theorem dX9_joinPair_43 : decode cX9_joinPair 43 = .ok (.getfield 19, 3) := by decide +kernel
theorem dX9_joinPair_46 : decode cX9_joinPair 46 = .ok (.iload_n 2, 1) := by decide +kernel
theorem dX9_joinPair_47 : decode cX9_joinPair 47 = .ok (.aaload, 1) := by decide +kernel
theorem dX9_joinPair_48 : decode cX9_joinPair 48 = .ok (.invokevirtual 70, 3) := by decide +kernel
theorem dX9_joinPair_51 : decode cX9_joinPair 51 = .ok (.aload_n 0, 1) := by decide +kernel
theorem dX9_joinPair_52 : decode cX9_joinPair 52 = .ok (.getfield 22, 3) := by decide +kernel
theorem dX9_joinPair_55 : decode cX9_joinPair 55 = .ok (.iload_n 3, 1) := by decide +kernel
theorem dX9_joinPair_56 : decode cX9_joinPair 56 = .ok (.iconst 0, 1) := by decide +kernel
theorem dX9_joinPair_57 : decode cX9_joinPair 57 = .ok (.bastore, 1) := by decide +kernel
theorem dX9_joinPair_58 : decode cX9_joinPair 58 = .ok (.aload_n 0, 1) := by decide +kernel
theorem dX9_joinPair_59 : decode cX9_joinPair 59 = .ok (.dup, 1) := by decide +kernel
theorem dX9_joinPair_60 : decode cX9_joinPair 60 = .ok (.getfield 41, 3) := by decide +kernel
theorem dX9_joinPair_63 : decode cX9_joinPair 63 = .ok (.iconst 1, 1) := by decide +kernel
theorem dX9_joinPair_64 : decode cX9_joinPair 64 = .ok (.iadd, 1) := by decide +kernel
theorem dX9_joinPair_65 : decode cX9_joinPair 65 = .ok (.putfield 41, 3) := by decide +kernel
theorem dX9_joinPair_68 : decode cX9_joinPair 68 = .ok (.return_, 1) := by decide +kernel
theorem dX9_tell_0 : decode cX9_tell 0 = .ok (.iload_n 1, 1) := by decide +kernel
theorem dX9_tell_1 : decode cX9_tell 1 = .ok (.ifCond .lt 17, 3) := by decide +kernel
theorem dX9_tell_4 : decode cX9_tell 4 = .ok (.iload_n 1, 1) := by decide +kernel
theorem dX9_tell_5 : decode cX9_tell 5 = .ok (.aload_n 0, 1) := by decide +kernel
theorem dX9_tell_6 : decode cX9_tell 6 = .ok (.getfield 41, 3) := by decide +kernel
theorem dX9_tell_9 : decode cX9_tell 9 = .ok (.if_icmp .ge 9, 3) := by decide +kernel
theorem dX9_tell_12 : decode cX9_tell 12 = .ok (.iload_n 1, 1) := by decide +kernel
theorem dX9_tell_13 : decode cX9_tell 13 = .ok (.bipush 14, 2) := by decide +kernel
theorem dX9_tell_15 : decode cX9_tell 15 = .ok (.if_icmp .lt 6, 3) := by decide +kernel
theorem dX9_tell_18 : decode cX9_tell 18 = .ok (.bipush (-9), 2) := by decide +kernel
theorem dX9_tell_20 : decode cX9_tell 20 = .ok (.ireturn, 1) := by decide +kernel
theorem dX9_tell_21 : decode cX9_tell 21 = .ok (.iload_n 2, 1) := by decide +kernel
theorem dX9_tell_22 : decode cX9_tell 22 = .ok (.lookupswitch 40 #[(0, 26), (1, 33)], 26) := by decide +kernel
theorem dX9_tell_48 : decode cX9_tell 48 = .ok (.aload_n 0, 1) := by decide +kernel
theorem dX9_tell_49 : decode cX9_tell 49 = .ok (.getfield 26, 3) := by decide +kernel
theorem dX9_tell_52 : decode cX9_tell 52 = .ok (.iload_n 1, 1) := by decide +kernel
theorem dX9_tell_53 : decode cX9_tell 53 = .ok (.iaload, 1) := by decide +kernel
theorem dX9_tell_54 : decode cX9_tell 54 = .ok (.ireturn, 1) := by decide +kernel
theorem dX9_tell_55 : decode cX9_tell 55 = .ok (.aload_n 0, 1) := by decide +kernel
theorem dX9_tell_56 : decode cX9_tell 56 = .ok (.getfield 30, 3) := by decide +kernel
theorem dX9_tell_59 : decode cX9_tell 59 = .ok (.iload_n 1, 1) := by decide +kernel
theorem dX9_tell_60 : decode cX9_tell 60 = .ok (.iaload, 1) := by decide +kernel
theorem dX9_tell_61 : decode cX9_tell 61 = .ok (.ireturn, 1) := by decide +kernel
theorem dX9_tell_62 : decode cX9_tell 62 = .ok (.aload_n 0, 1) := by decide +kernel
theorem dX9_tell_63 : decode cX9_tell 63 = .ok (.getfield 33, 3) := by decide +kernel
theorem dX9_tell_66 : decode cX9_tell 66 = .ok (.iload_n 1, 1) := by decide +kernel
theorem dX9_tell_67 : decode cX9_tell 67 = .ok (.iaload, 1) := by decide +kernel
theorem dX9_tell_68 : decode cX9_tell 68 = .ok (.ireturn, 1) := by decide +kernel
theorem dX10_init_0 : decode cX10_init 0 = .ok (.aload_n 0, 1) := by decide +kernel
theorem dX10_init_1 : decode cX10_init 1 = .ok (.invokespecial 3, 3) := by decide +kernel
theorem dX10_init_4 : decode cX10_init 4 = .ok (.aload_n 0, 1) := by decide +kernel
theorem dX10_init_5 : decode cX10_init 5 = .ok (.iconst 4, 1) := by decide +kernel
theorem dX10_init_6 : decode cX10_init 6 = .ok (.anewarray 9, 3) := by decide +kernel
theorem dX10_init_9 : decode cX10_init 9 = .ok (.putfield 11, 3) := by decide +kernel
theorem dX10_init_12 : decode cX10_init 12 = .ok (.aload_n 0, 1) := by decide +kernel
theorem dX10_init_13 : decode cX10_init 13 = .ok (.bipush 14, 2) := by decide +kernel
theorem dX10_init_15 : decode cX10_init 15 = .ok (.anewarray 15, 3) := by decide +kernel
theorem dX10_init_18 : decode cX10_init 18 = .ok (.putfield 17, 3) := by decide +kernel
theorem dX10_init_21 : decode cX10_init 21 = .ok (.aload_n 0, 1) := by decide +kernel
theorem dX10_init_22 : decode cX10_init 22 = .ok (.new 21, 3) := by decide +kernel
theorem dX10_init_25 : decode cX10_init 25 = .ok (.dup, 1) := by decide +kernel
theorem dX10_init_26 : decode cX10_init 26 = .ok (.invokespecial 23, 3) := by decide +kernel
theorem dX10_init_29 : decode cX10_init 29 = .ok (.putfield 24, 3) := by decide +kernel
theorem dX10_init_32 : decode cX10_init 32 = .ok (.aload_n 0, 1) := by decide +kernel
theorem dX10_init_33 : decode cX10_init 33 = .ok (.new 28, 3) := by decide +kernel
theorem dX10_init_36 : decode cX10_init 36 = .ok (.dup, 1) := by decide +kernel
theorem dX10_init_37 : decode cX10_init 37 = .ok (.invokespecial 30, 3) := by decide +kernel
theorem dX10_init_40 : decode cX10_init 40 = .ok (.putfield 31, 3) := by decide +kernel
theorem dX10_init_43 : decode cX10_init 43 = .ok (.aload_n 0, 1) := by decide +kernel
theorem dX10_init_44 : decode cX10_init 44 = .ok (.new 35, 3) := by decide +kernel
theorem dX10_init_47 : decode cX10_init 47 = .ok (.dup, 1) := by decide +kernel
theorem dX10_init_48 : decode cX10_init 48 = .ok (.invokespecial 37, 3) := by decide +kernel
theorem dX10_init_51 : decode cX10_init 51 = .ok (.putfield 38, 3) := by decide +kernel
theorem dX10_init_54 : decode cX10_init 54 = .ok (.aload_n 0, 1) := by decide +kernel
theorem dX10_init_55 : decode cX10_init 55 = .ok (.new 42, 3) := by decide +kernel
theorem dX10_init_58 : decode cX10_init 58 = .ok (.dup, 1) := by decide +kernel
theorem dX10_init_59 : decode cX10_init 59 = .ok (.invokespecial 44, 3) := by decide +kernel
theorem dX10_init_62 : decode cX10_init 62 = .ok (.putfield 45, 3) := by decide +kernel
theorem dX10_init_65 : decode cX10_init 65 = .ok (.aload_n 0, 1) := by decide +kernel
theorem dX10_init_66 : decode cX10_init 66 = .ok (.new 49, 3) := by decide +kernel
theorem dX10_init_69 : decode cX10_init 69 = .ok (.dup, 1) := by decide +kernel
theorem dX10_init_70 : decode cX10_init 70 = .ok (.invokespecial 51, 3) := by decide +kernel
theorem dX10_init_73 : decode cX10_init 73 = .ok (.putfield 52, 3) := by decide +kernel
theorem dX10_init_76 : decode cX10_init 76 = .ok (.aload_n 0, 1) := by decide +kernel
theorem dX10_init_77 : decode cX10_init 77 = .ok (.new 56, 3) := by decide +kernel
theorem dX10_init_80 : decode cX10_init 80 = .ok (.dup, 1) := by decide +kernel
theorem dX10_init_81 : decode cX10_init 81 = .ok (.invokespecial 58, 3) := by decide +kernel
theorem dX10_init_84 : decode cX10_init 84 = .ok (.putfield 59, 3) := by decide +kernel
theorem dX10_init_87 : decode cX10_init 87 = .ok (.aload_n 0, 1) := by decide +kernel
theorem dX10_init_88 : decode cX10_init 88 = .ok (.bipush 12, 2) := by decide +kernel
theorem dX10_init_90 : decode cX10_init 90 = .ok (.newarray .int, 2) := by decide +kernel
theorem dX10_init_92 : decode cX10_init 92 = .ok (.putfield 63, 3) := by decide +kernel
theorem dX10_init_95 : decode cX10_init 95 = .ok (.aload_n 0, 1) := by decide +kernel
theorem dX10_init_96 : decode cX10_init 96 = .ok (.bipush 12, 2) := by decide +kernel
theorem dX10_init_98 : decode cX10_init 98 = .ok (.newarray .int, 2) := by decide +kernel
theorem dX10_init_100 : decode cX10_init 100 = .ok (.putfield 67, 3) := by decide +kernel
theorem dX10_init_103 : decode cX10_init 103 = .ok (.aload_n 0, 1) := by decide +kernel
theorem dX10_init_104 : decode cX10_init 104 = .ok (.bipush 6, 2) := by decide +kernel
theorem dX10_init_106 : decode cX10_init 106 = .ok (.newarray .int, 2) := by decide +kernel
theorem dX10_init_108 : decode cX10_init 108 = .ok (.putfield 70, 3) := by decide +kernel
theorem dX10_init_111 : decode cX10_init 111 = .ok (.iconst 0, 1) := by decide +kernel
theorem dX10_init_112 : decode cX10_init 112 = .ok (.istore_n 1, 1) := by decide +kernel
theorem dX10_init_113 : decode cX10_init 113 = .ok (.iload_n 1, 1) := by decide +kernel
theorem dX10_init_114 : decode cX10_init 114 = .ok (.aload_n 0, 1) := by decide +kernel
theorem dX10_init_115 : decode cX10_init 115 = .ok (.getfield 11, 3) := by decide +kernel
theorem dX10_init_118 : decode cX10_init 118 = .ok (.arraylength, 1) := by decide +kernel
theorem dX10_init_119 : decode cX10_init 119 = .ok (.if_icmp .ge 22, 3) := by decide +kernel
theorem dX10_init_122 : decode cX10_init 122 = .ok (.aload_n 0, 1) := by decide +kernel
theorem dX10_init_123 : decode cX10_init 123 = .ok (.getfield 11, 3) := by decide +kernel
theorem dX10_init_126 : decode cX10_init 126 = .ok (.iload_n 1, 1) := by decide +kernel
theorem dX10_init_127 : decode cX10_init 127 = .ok (.new 9, 3) := by decide +kernel
theorem dX10_init_130 : decode cX10_init 130 = .ok (.dup, 1) := by decide +kernel
theorem dX10_init_131 : decode cX10_init 131 = .ok (.invokespecial 73, 3) := by decide +kernel
theorem dX10_init_134 : decode cX10_init 134 = .ok (.aastore, 1) := by decide +kernel
theorem dX10_init_135 : decode cX10_init 135 = .ok (.iinc 1 1, 3) := by decide +kernel
theorem dX10_init_138 : decode cX10_init 138 = .ok (.goto (-25), 3) := by decide +kernel
theorem dX10_init_141 : decode cX10_init 141 = .ok (.return_, 1) := by decide +kernel
theorem dX10_sheet_0 : decode cX10_sheet 0 = .ok (.aload_n 0, 1) := by decide +kernel
theorem dX10_sheet_1 : decode cX10_sheet 1 = .ok (.iload_n 1, 1) := by decide +kernel
theorem dX10_sheet_2 : decode cX10_sheet 2 = .ok (.invokevirtual 74, 3) := by decide +kernel
theorem dX10_sheet_5 : decode cX10_sheet 5 = .ok (.astore_n 3, 1) := by decide +kernel
theorem dX10_sheet_6 : decode cX10_sheet 6 = .ok (.aload_n 3, 1) := by decide +kernel
theorem dX10_sheet_7 : decode cX10_sheet 7 = .ok (.ifnull 10, 3) := by decide +kernel
theorem dX10_sheet_10 : decode cX10_sheet 10 = .ok (.iload_n 2, 1) := by decide +kernel
theorem dX10_sheet_11 : decode cX10_sheet 11 = .ok (.sipush 200, 3) := by decide +kernel
theorem dX10_sheet_14 : decode cX10_sheet 14 = .ok (.if_icmp .le 5, 3) := by decide +kernel
theorem dX10_sheet_17 : decode cX10_sheet 17 = .ok (.iconst (-1), 1) := by decide +kernel
theorem dX10_sheet_18 : decode cX10_sheet 18 = .ok (.ireturn, 1) := by decide +kernel
theorem dX10_sheet_19 : decode cX10_sheet 19 = .ok (.iload_n 2, 1) := by decide +kernel
theorem dX10_sheet_20 : decode cX10_sheet 20 = .ok (.ifCond .ge 9, 3) := by decide +kernel
theorem dX10_sheet_23 : decode cX10_sheet 23 = .ok (.aload_n 0, 1) := by decide +kernel
theorem dX10_sheet_24 : decode cX10_sheet 24 = .ok (.iconst 5, 1) := by decide +kernel
theorem dX10_sheet_25 : decode cX10_sheet 25 = .ok (.invokevirtual 78, 3) := by decide +kernel
theorem dX10_sheet_28 : decode cX10_sheet 28 = .ok (.ireturn, 1) := by decide +kernel
theorem dX10_sheet_29 : decode cX10_sheet 29 = .ok (.aload_n 3, 1) := by decide +kernel
theorem dX10_sheet_30 : decode cX10_sheet 30 = .ok (.iload_n 2, 1) := by decide +kernel
theorem dX10_sheet_31 : decode cX10_sheet 31 = .ok (.invokevirtual 82, 3) := by decide +kernel
theorem dX10_sheet_34 : decode cX10_sheet 34 = .ok (.iload_n 2, 1) := by decide +kernel
theorem dX10_sheet_35 : decode cX10_sheet 35 = .ok (.ireturn, 1) := by decide +kernel
theorem dX10_lay_0 : decode cX10_lay 0 = .ok (.aload_n 0, 1) := by decide +kernel
theorem dX10_lay_1 : decode cX10_lay 1 = .ok (.iload_n 1, 1) := by decide +kernel
theorem dX10_lay_2 : decode cX10_lay 2 = .ok (.invokevirtual 74, 3) := by decide +kernel
theorem dX10_lay_5 : decode cX10_lay 5 = .ok (.astore 4, 2) := by decide +kernel
theorem dX10_lay_7 : decode cX10_lay 7 = .ok (.aload 4, 2) := by decide +kernel
theorem dX10_lay_9 : decode cX10_lay 9 = .ok (.ifnonnull 5, 3) := by decide +kernel
theorem dX10_lay_12 : decode cX10_lay 12 = .ok (.iconst (-1), 1) := by decide +kernel
theorem dX10_lay_13 : decode cX10_lay 13 = .ok (.ireturn, 1) := by decide +kernel
theorem dX10_lay_14 : decode cX10_lay 14 = .ok (.aload 4, 2) := by decide +kernel
theorem dX10_lay_16 : decode cX10_lay 16 = .ok (.invokevirtual 86, 3) := by decide +kernel
theorem dX10_lay_19 : decode cX10_lay 19 = .ok (.ifCond .eq 9, 3) := by decide +kernel
theorem dX10_lay_22 : decode cX10_lay 22 = .ok (.aload_n 0, 1) := by decide +kernel
theorem dX10_lay_23 : decode cX10_lay 23 = .ok (.iconst 1, 1) := by decide +kernel
theorem dX10_lay_24 : decode cX10_lay 24 = .ok (.invokevirtual 78, 3) := by decide +kernel
theorem dX10_lay_27 : decode cX10_lay 27 = .ok (.ireturn, 1) := by decide +kernel
theorem dX10_lay_28 : decode cX10_lay 28 = .ok (.aload 4, 2) := by decide +kernel
theorem dX10_lay_30 : decode cX10_lay 30 = .ok (.iload_n 2, 1) := by decide +kernel
theorem dX10_lay_31 : decode cX10_lay 31 = .ok (.iconst 1, 1) := by decide +kernel
theorem dX10_lay_32 : decode cX10_lay 32 = .ok (.invokevirtual 90, 3) := by decide +kernel
theorem dX10_lay_35 : decode cX10_lay 35 = .ok (.ifCond .ne 9, 3) := by decide +kernel
theorem dX10_lay_38 : decode cX10_lay 38 = .ok (.aload_n 0, 1) := by decide +kernel
theorem dX10_lay_39 : decode cX10_lay 39 = .ok (.iconst 2, 1) := by decide +kernel
theorem dX10_lay_40 : decode cX10_lay 40 = .ok (.invokevirtual 78, 3) := by decide +kernel
theorem dX10_lay_43 : decode cX10_lay 43 = .ok (.ireturn, 1) := by decide +kernel
theorem dX10_lay_44 : decode cX10_lay 44 = .ok (.aload 4, 2) := by decide +kernel
theorem dX10_lay_46 : decode cX10_lay 46 = .ok (.iload_n 2, 1) := by decide +kernel
theorem dX10_lay_47 : decode cX10_lay 47 = .ok (.invokevirtual 94, 3) := by decide +kernel
theorem dX10_lay_50 : decode cX10_lay 50 = .ok (.istore 5, 2) := by decide +kernel
theorem dX10_lay_52 : decode cX10_lay 52 = .ok (.aload 4, 2) := by decide +kernel
theorem dX10_lay_54 : decode cX10_lay 54 = .ok (.iload_n 2, 1) := by decide +kernel
theorem dX10_lay_55 : decode cX10_lay 55 = .ok (.iload_n 3, 1) := by decide +kernel
theorem dX10_lay_56 : decode cX10_lay 56 = .ok (.invokevirtual 97, 3) := by decide +kernel
theorem dX10_lay_59 : decode cX10_lay 59 = .ok (.iload 5, 2) := by decide +kernel
theorem dX10_lay_61 : decode cX10_lay 61 = .ok (.sipush 1000, 3) := by decide +kernel
theorem dX10_lay_64 : decode cX10_lay 64 = .ok (.iadd, 1) := by decide +kernel
theorem dX10_lay_65 : decode cX10_lay 65 = .ok (.ireturn, 1) := by decide +kernel
theorem dX10_tear_0 : decode cX10_tear 0 = .ok (.aload_n 0, 1) := by decide +kernel
theorem dX10_tear_1 : decode cX10_tear 1 = .ok (.iload_n 1, 1) := by decide +kernel
theorem dX10_tear_2 : decode cX10_tear 2 = .ok (.invokevirtual 74, 3) := by decide +kernel
theorem dX10_tear_5 : decode cX10_tear 5 = .ok (.astore_n 2, 1) := by decide +kernel
theorem dX10_tear_6 : decode cX10_tear 6 = .ok (.aload_n 2, 1) := by decide +kernel
theorem dX10_tear_7 : decode cX10_tear 7 = .ok (.ifnonnull 5, 3) := by decide +kernel
theorem dX10_tear_10 : decode cX10_tear 10 = .ok (.iconst (-1), 1) := by decide +kernel
theorem dX10_tear_11 : decode cX10_tear 11 = .ok (.ireturn, 1) := by decide +kernel
theorem dX10_tear_12 : decode cX10_tear 12 = .ok (.aload_n 2, 1) := by decide +kernel
theorem dX10_tear_13 : decode cX10_tear 13 = .ok (.invokevirtual 86, 3) := by decide +kernel
theorem dX10_tear_16 : decode cX10_tear 16 = .ok (.ifCond .eq 9, 3) := by decide +kernel
theorem dX10_tear_19 : decode cX10_tear 19 = .ok (.aload_n 0, 1) := by decide +kernel
theorem dX10_tear_20 : decode cX10_tear 20 = .ok (.iconst 1, 1) := by decide +kernel
theorem dX10_tear_21 : decode cX10_tear 21 = .ok (.invokevirtual 78, 3) := by decide +kernel
theorem dX10_tear_24 : decode cX10_tear 24 = .ok (.ireturn, 1) := by decide +kernel
theorem dX10_tear_25 : decode cX10_tear 25 = .ok (.aload_n 2, 1) := by decide +kernel
theorem dX10_tear_26 : decode cX10_tear 26 = .ok (.invokevirtual 101, 3) := by decide +kernel
theorem dX10_tear_29 : decode cX10_tear 29 = .ok (.iconst 1, 1) := by decide +kernel
theorem dX10_tear_30 : decode cX10_tear 30 = .ok (.ireturn, 1) := by decide +kernel
theorem dX10_copy_0 : decode cX10_copy 0 = .ok (.aload_n 0, 1) := by decide +kernel
theorem dX10_copy_1 : decode cX10_copy 1 = .ok (.iload_n 1, 1) := by decide +kernel
theorem dX10_copy_2 : decode cX10_copy 2 = .ok (.invokevirtual 74, 3) := by decide +kernel
theorem dX10_copy_5 : decode cX10_copy 5 = .ok (.astore 6, 2) := by decide +kernel
theorem dX10_copy_7 : decode cX10_copy 7 = .ok (.aload_n 0, 1) := by decide +kernel
theorem dX10_copy_8 : decode cX10_copy 8 = .ok (.iload_n 3, 1) := by decide +kernel
theorem dX10_copy_9 : decode cX10_copy 9 = .ok (.invokevirtual 74, 3) := by decide +kernel
theorem dX10_copy_12 : decode cX10_copy 12 = .ok (.astore 7, 2) := by decide +kernel
theorem dX10_copy_14 : decode cX10_copy 14 = .ok (.aload 6, 2) := by decide +kernel
theorem dX10_copy_16 : decode cX10_copy 16 = .ok (.ifnull 8, 3) := by decide +kernel
theorem dX10_copy_19 : decode cX10_copy 19 = .ok (.aload 7, 2) := by decide +kernel
theorem dX10_copy_21 : decode cX10_copy 21 = .ok (.ifnonnull 5, 3) := by decide +kernel
theorem dX10_copy_24 : decode cX10_copy 24 = .ok (.iconst (-1), 1) := by decide +kernel
theorem dX10_copy_25 : decode cX10_copy 25 = .ok (.ireturn, 1) := by decide +kernel
theorem dX10_copy_26 : decode cX10_copy 26 = .ok (.iload 5, 2) := by decide +kernel
theorem dX10_copy_28 : decode cX10_copy 28 = .ok (.ifCond .ge 9, 3) := by decide +kernel
theorem dX10_copy_31 : decode cX10_copy 31 = .ok (.aload_n 0, 1) := by decide +kernel
theorem dX10_copy_32 : decode cX10_copy 32 = .ok (.iconst 5, 1) := by decide +kernel
theorem dX10_copy_33 : decode cX10_copy 33 = .ok (.invokevirtual 78, 3) := by decide +kernel
theorem dX10_copy_36 : decode cX10_copy 36 = .ok (.ireturn, 1) := by decide +kernel
theorem dX10_copy_37 : decode cX10_copy 37 = .ok (.aload 6, 2) := by decide +kernel
theorem dX10_copy_39 : decode cX10_copy 39 = .ok (.invokevirtual 86, 3) := by decide +kernel
theorem dX10_copy_42 : decode cX10_copy 42 = .ok (.ifCond .ne 11, 3) := by decide +kernel
theorem dX10_copy_45 : decode cX10_copy 45 = .ok (.aload 7, 2) := by decide +kernel
theorem dX10_copy_47 : decode cX10_copy 47 = .ok (.invokevirtual 86, 3) := by decide +kernel
theorem dX10_copy_50 : decode cX10_copy 50 = .ok (.ifCond .eq 9, 3) := by decide +kernel
theorem dX10_copy_53 : decode cX10_copy 53 = .ok (.aload_n 0, 1) := by decide +kernel
theorem dX10_copy_54 : decode cX10_copy 54 = .ok (.iconst 1, 1) := by decide +kernel
theorem dX10_copy_55 : decode cX10_copy 55 = .ok (.invokevirtual 78, 3) := by decide +kernel
theorem dX10_copy_58 : decode cX10_copy 58 = .ok (.ireturn, 1) := by decide +kernel
theorem dX10_copy_59 : decode cX10_copy 59 = .ok (.aload 6, 2) := by decide +kernel
theorem dX10_copy_61 : decode cX10_copy 61 = .ok (.iload_n 2, 1) := by decide +kernel
theorem dX10_copy_62 : decode cX10_copy 62 = .ok (.iload 5, 2) := by decide +kernel
theorem dX10_copy_64 : decode cX10_copy 64 = .ok (.invokevirtual 90, 3) := by decide +kernel
theorem dX10_copy_67 : decode cX10_copy 67 = .ok (.ifCond .eq 15, 3) := by decide +kernel
theorem dX10_copy_70 : decode cX10_copy 70 = .ok (.aload 7, 2) := by decide +kernel
theorem dX10_copy_72 : decode cX10_copy 72 = .ok (.iload 4, 2) := by decide +kernel
theorem dX10_copy_74 : decode cX10_copy 74 = .ok (.iload 5, 2) := by decide +kernel
theorem dX10_copy_76 : decode cX10_copy 76 = .ok (.invokevirtual 90, 3) := by decide +kernel
theorem dX10_copy_79 : decode cX10_copy 79 = .ok (.ifCond .ne 9, 3) := by decide +kernel
theorem dX10_copy_82 : decode cX10_copy 82 = .ok (.aload_n 0, 1) := by decide +kernel
theorem dX10_copy_83 : decode cX10_copy 83 = .ok (.iconst 2, 1) := by decide +kernel
theorem dX10_copy_84 : decode cX10_copy 84 = .ok (.invokevirtual 78, 3) := by decide +kernel
theorem dX10_copy_87 : decode cX10_copy 87 = .ok (.ireturn, 1) := by decide +kernel
theorem dX10_copy_88 : decode cX10_copy 88 = .ok (.aload 7, 2) := by decide +kernel
theorem dX10_copy_90 : decode cX10_copy 90 = .ok (.aload 6, 2) := by decide +kernel
theorem dX10_copy_92 : decode cX10_copy 92 = .ok (.iload_n 2, 1) := by decide +kernel
theorem dX10_copy_93 : decode cX10_copy 93 = .ok (.iload 4, 2) := by decide +kernel
