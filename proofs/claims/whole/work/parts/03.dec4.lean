theorem dX10_readHandsFor_16 : decode cX10_readHandsFor 16 = .ok (.aload_n 0, 1) := by decide +kernel
theorem dX10_readHandsFor_17 : decode cX10_readHandsFor 17 = .ok (.getfield 24, 3) := by decide +kernel
theorem dX10_readHandsFor_20 : decode cX10_readHandsFor 20 = .ok (.aload_n 2, 1) := by decide +kernel
theorem dX10_readHandsFor_21 : decode cX10_readHandsFor 21 = .ok (.getfield 180, 3) := by decide +kernel
theorem dX10_readHandsFor_24 : decode cX10_readHandsFor 24 = .ok (.aload_n 0, 1) := by decide +kernel
theorem dX10_readHandsFor_25 : decode cX10_readHandsFor 25 = .ok (.getfield 63, 3) := by decide +kernel
theorem dX10_readHandsFor_28 : decode cX10_readHandsFor 28 = .ok (.invokevirtual 208, 3) := by decide +kernel
theorem dX10_readHandsFor_31 : decode cX10_readHandsFor 31 = .ok (.return_, 1) := by decide +kernel
theorem dX10_nearestWriter_0 : decode cX10_nearestWriter 0 = .ok (.aload_n 0, 1) := by decide +kernel
theorem dX10_nearestWriter_1 : decode cX10_nearestWriter 1 = .ok (.iload_n 1, 1) := by decide +kernel
theorem dX10_nearestWriter_2 : decode cX10_nearestWriter 2 = .ok (.aload_n 2, 1) := by decide +kernel
theorem dX10_nearestWriter_3 : decode cX10_nearestWriter 3 = .ok (.invokevirtual 216, 3) := by decide +kernel
theorem dX10_nearestWriter_6 : decode cX10_nearestWriter 6 = .ok (.aload_n 0, 1) := by decide +kernel
theorem dX10_nearestWriter_7 : decode cX10_nearestWriter 7 = .ok (.getfield 31, 3) := by decide +kernel
theorem dX10_nearestWriter_10 : decode cX10_nearestWriter 10 = .ok (.aload_n 0, 1) := by decide +kernel
theorem dX10_nearestWriter_11 : decode cX10_nearestWriter 11 = .ok (.getfield 63, 3) := by decide +kernel
theorem dX10_nearestWriter_14 : decode cX10_nearestWriter 14 = .ok (.aload_n 0, 1) := by decide +kernel
theorem dX10_nearestWriter_15 : decode cX10_nearestWriter 15 = .ok (.getfield 24, 3) := by decide +kernel
theorem dX10_nearestWriter_18 : decode cX10_nearestWriter 18 = .ok (.iconst (-1), 1) := by decide +kernel
theorem dX10_nearestWriter_19 : decode cX10_nearestWriter 19 = .ok (.invokevirtual 252, 3) := by decide +kernel
theorem dX10_nearestWriter_22 : decode cX10_nearestWriter 22 = .ok (.ireturn, 1) := by decide +kernel
theorem dX10_addToShuffles_0 : decode cX10_addToShuffles 0 = .ok (.iconst 0, 1) := by decide +kernel
theorem dX10_addToShuffles_1 : decode cX10_addToShuffles 1 = .ok (.istore_n 3, 1) := by decide +kernel
theorem dX10_addToShuffles_2 : decode cX10_addToShuffles 2 = .ok (.iconst 0, 1) := by decide +kernel
theorem dX10_addToShuffles_3 : decode cX10_addToShuffles 3 = .ok (.istore 4, 2) := by decide +kernel
theorem dX10_addToShuffles_5 : decode cX10_addToShuffles 5 = .ok (.iload 4, 2) := by decide +kernel
theorem dX10_addToShuffles_7 : decode cX10_addToShuffles 7 = .ok (.aload_n 0, 1) := by decide +kernel
theorem dX10_addToShuffles_8 : decode cX10_addToShuffles 8 = .ok (.getfield 17, 3) := by decide +kernel
theorem dX10_addToShuffles_11 : decode cX10_addToShuffles 11 = .ok (.arraylength, 1) := by decide +kernel
theorem dX10_addToShuffles_12 : decode cX10_addToShuffles 12 = .ok (.if_icmp .ge 67, 3) := by decide +kernel
theorem dX10_addToShuffles_15 : decode cX10_addToShuffles 15 = .ok (.aload_n 0, 1) := by decide +kernel
theorem dX10_addToShuffles_16 : decode cX10_addToShuffles 16 = .ok (.getfield 17, 3) := by decide +kernel
theorem dX10_addToShuffles_19 : decode cX10_addToShuffles 19 = .ok (.iload 4, 2) := by decide +kernel
theorem dX10_addToShuffles_21 : decode cX10_addToShuffles 21 = .ok (.aaload, 1) := by decide +kernel
theorem dX10_addToShuffles_22 : decode cX10_addToShuffles 22 = .ok (.astore 5, 2) := by decide +kernel
theorem dX10_addToShuffles_24 : decode cX10_addToShuffles 24 = .ok (.aload 5, 2) := by decide +kernel
theorem dX10_addToShuffles_26 : decode cX10_addToShuffles 26 = .ok (.ifnull 47, 3) := by decide +kernel
theorem dX10_addToShuffles_29 : decode cX10_addToShuffles 29 = .ok (.aload 5, 2) := by decide +kernel
theorem dX10_addToShuffles_31 : decode cX10_addToShuffles 31 = .ok (.iload_n 2, 1) := by decide +kernel
theorem dX10_addToShuffles_32 : decode cX10_addToShuffles 32 = .ok (.invokevirtual 238, 3) := by decide +kernel
theorem dX10_addToShuffles_35 : decode cX10_addToShuffles 35 = .ok (.ifCond .ne 6, 3) := by decide +kernel
theorem dX10_addToShuffles_38 : decode cX10_addToShuffles 38 = .ok (.goto 35, 3) := by decide +kernel
theorem dX10_addToShuffles_41 : decode cX10_addToShuffles 41 = .ok (.aload_n 0, 1) := by decide +kernel
theorem dX10_addToShuffles_42 : decode cX10_addToShuffles 42 = .ok (.getfield 52, 3) := by decide +kernel
theorem dX10_addToShuffles_45 : decode cX10_addToShuffles 45 = .ok (.aload 5, 2) := by decide +kernel
theorem dX10_addToShuffles_47 : decode cX10_addToShuffles 47 = .ok (.getfield 180, 3) := by decide +kernel
theorem dX10_addToShuffles_50 : decode cX10_addToShuffles 50 = .ok (.iload_n 1, 1) := by decide +kernel
theorem dX10_addToShuffles_51 : decode cX10_addToShuffles 51 = .ok (.invokevirtual 184, 3) := by decide +kernel
theorem dX10_addToShuffles_54 : decode cX10_addToShuffles 54 = .ok (.aload_n 0, 1) := by decide +kernel
theorem dX10_addToShuffles_55 : decode cX10_addToShuffles 55 = .ok (.getfield 24, 3) := by decide +kernel
theorem dX10_addToShuffles_58 : decode cX10_addToShuffles 58 = .ok (.aload 5, 2) := by decide +kernel
theorem dX10_addToShuffles_60 : decode cX10_addToShuffles 60 = .ok (.getfield 180, 3) := by decide +kernel
theorem dX10_addToShuffles_63 : decode cX10_addToShuffles 63 = .ok (.iload_n 1, 1) := by decide +kernel
theorem dX10_addToShuffles_64 : decode cX10_addToShuffles 64 = .ok (.invokevirtual 319, 3) := by decide +kernel
theorem dX10_addToShuffles_67 : decode cX10_addToShuffles 67 = .ok (.invokevirtual 322, 3) := by decide +kernel
theorem dX10_addToShuffles_70 : decode cX10_addToShuffles 70 = .ok (.iinc 3 1, 3) := by decide +kernel
theorem dX10_addToShuffles_73 : decode cX10_addToShuffles 73 = .ok (.iinc 4 1, 3) := by decide +kernel
theorem dX10_addToShuffles_76 : decode cX10_addToShuffles 76 = .ok (.goto (-71), 3) := by decide +kernel
theorem dX10_addToShuffles_79 : decode cX10_addToShuffles 79 = .ok (.iload_n 3, 1) := by decide +kernel
theorem dX10_addToShuffles_80 : decode cX10_addToShuffles 80 = .ok (.ireturn, 1) := by decide +kernel
theorem dX10_outcome_0 : decode cX10_outcome 0 = .ok (.iload_n 0, 1) := by decide +kernel
theorem dX10_outcome_1 : decode cX10_outcome 1 = .ok (.bipush (-9), 2) := by decide +kernel
theorem dX10_outcome_3 : decode cX10_outcome 3 = .ok (.if_icmp .ne 5, 3) := by decide +kernel
theorem dX10_outcome_6 : decode cX10_outcome 6 = .ok (.iconst 2, 1) := by decide +kernel
theorem dX10_outcome_7 : decode cX10_outcome 7 = .ok (.ireturn, 1) := by decide +kernel
theorem dX10_outcome_8 : decode cX10_outcome 8 = .ok (.iload_n 0, 1) := by decide +kernel
theorem dX10_outcome_9 : decode cX10_outcome 9 = .ok (.iload_n 1, 1) := by decide +kernel
theorem dX10_outcome_10 : decode cX10_outcome 10 = .ok (.if_icmp .ne 7, 3) := by decide +kernel
theorem dX10_outcome_13 : decode cX10_outcome 13 = .ok (.iconst 0, 1) := by decide +kernel
theorem dX10_outcome_14 : decode cX10_outcome 14 = .ok (.goto 4, 3) := by decide +kernel
theorem dX10_outcome_17 : decode cX10_outcome 17 = .ok (.iconst 1, 1) := by decide +kernel
theorem dX10_outcome_18 : decode cX10_outcome 18 = .ok (.ireturn, 1) := by decide +kernel
theorem dX10_isWriter_0 : decode cX10_isWriter 0 = .ok (.iload_n 0, 1) := by decide +kernel
theorem dX10_isWriter_1 : decode cX10_isWriter 1 = .ok (.ifCond .lt 13, 3) := by decide +kernel
theorem dX10_isWriter_4 : decode cX10_isWriter 4 = .ok (.iload_n 0, 1) := by decide +kernel
theorem dX10_isWriter_5 : decode cX10_isWriter 5 = .ok (.bipush 6, 2) := by decide +kernel
theorem dX10_isWriter_7 : decode cX10_isWriter 7 = .ok (.if_icmp .ge 7, 3) := by decide +kernel
theorem dX10_isWriter_10 : decode cX10_isWriter 10 = .ok (.iconst 1, 1) := by decide +kernel
theorem dX10_isWriter_11 : decode cX10_isWriter 11 = .ok (.goto 4, 3) := by decide +kernel
theorem dX10_isWriter_14 : decode cX10_isWriter 14 = .ok (.iconst 0, 1) := by decide +kernel
theorem dX10_isWriter_15 : decode cX10_isWriter 15 = .ok (.ireturn, 1) := by decide +kernel
theorem dX10_isFeatureValue_0 : decode cX10_isFeatureValue 0 = .ok (.iload_n 0, 1) := by decide +kernel
theorem dX10_isFeatureValue_1 : decode cX10_isFeatureValue 1 = .ok (.tableswitch 73 0 3 #[31, 36, 53, 58], 31) := by decide +kernel
theorem dX10_isFeatureValue_32 : decode cX10_isFeatureValue 32 = .ok (.iload_n 1, 1) := by decide +kernel
theorem dX10_isFeatureValue_33 : decode cX10_isFeatureValue 33 = .ok (.invokestatic 325, 3) := by decide +kernel
theorem dX10_isFeatureValue_36 : decode cX10_isFeatureValue 36 = .ok (.ireturn, 1) := by decide +kernel
theorem dX10_isFeatureValue_37 : decode cX10_isFeatureValue 37 = .ok (.iload_n 1, 1) := by decide +kernel
theorem dX10_isFeatureValue_38 : decode cX10_isFeatureValue 38 = .ok (.iconst 1, 1) := by decide +kernel
theorem dX10_isFeatureValue_39 : decode cX10_isFeatureValue 39 = .ok (.if_icmp .lt 13, 3) := by decide +kernel
theorem dX10_isFeatureValue_42 : decode cX10_isFeatureValue 42 = .ok (.iload_n 1, 1) := by decide +kernel
theorem dX10_isFeatureValue_43 : decode cX10_isFeatureValue 43 = .ok (.bipush 12, 2) := by decide +kernel
theorem dX10_isFeatureValue_45 : decode cX10_isFeatureValue 45 = .ok (.if_icmp .gt 7, 3) := by decide +kernel
theorem dX10_isFeatureValue_48 : decode cX10_isFeatureValue 48 = .ok (.iconst 1, 1) := by decide +kernel
theorem dX10_isFeatureValue_49 : decode cX10_isFeatureValue 49 = .ok (.goto 4, 3) := by decide +kernel
theorem dX10_isFeatureValue_52 : decode cX10_isFeatureValue 52 = .ok (.iconst 0, 1) := by decide +kernel
theorem dX10_isFeatureValue_53 : decode cX10_isFeatureValue 53 = .ok (.ireturn, 1) := by decide +kernel
theorem dX10_isFeatureValue_54 : decode cX10_isFeatureValue 54 = .ok (.iload_n 1, 1) := by decide +kernel
theorem dX10_isFeatureValue_55 : decode cX10_isFeatureValue 55 = .ok (.invokestatic 328, 3) := by decide +kernel
theorem dX10_isFeatureValue_58 : decode cX10_isFeatureValue 58 = .ok (.ireturn, 1) := by decide +kernel
theorem dX10_isFeatureValue_59 : decode cX10_isFeatureValue 59 = .ok (.iload_n 1, 1) := by decide +kernel
theorem dX10_isFeatureValue_60 : decode cX10_isFeatureValue 60 = .ok (.ifCond .lt 12, 3) := by decide +kernel
theorem dX10_isFeatureValue_63 : decode cX10_isFeatureValue 63 = .ok (.iload_n 1, 1) := by decide +kernel
theorem dX10_isFeatureValue_64 : decode cX10_isFeatureValue 64 = .ok (.iconst 4, 1) := by decide +kernel
theorem dX10_isFeatureValue_65 : decode cX10_isFeatureValue 65 = .ok (.if_icmp .ge 7, 3) := by decide +kernel
theorem dX10_isFeatureValue_68 : decode cX10_isFeatureValue 68 = .ok (.iconst 1, 1) := by decide +kernel
theorem dX10_isFeatureValue_69 : decode cX10_isFeatureValue 69 = .ok (.goto 4, 3) := by decide +kernel
theorem dX10_isFeatureValue_72 : decode cX10_isFeatureValue 72 = .ok (.iconst 0, 1) := by decide +kernel
theorem dX10_isFeatureValue_73 : decode cX10_isFeatureValue 73 = .ok (.ireturn, 1) := by decide +kernel
theorem dX10_isFeatureValue_74 : decode cX10_isFeatureValue 74 = .ok (.iconst 0, 1) := by decide +kernel
theorem dX10_isFeatureValue_75 : decode cX10_isFeatureValue 75 = .ok (.ireturn, 1) := by decide +kernel
theorem dX10_isLetter_0 : decode cX10_isLetter 0 = .ok (.iload_n 0, 1) := by decide +kernel
theorem dX10_isLetter_1 : decode cX10_isLetter 1 = .ok (.bipush 97, 2) := by decide +kernel
theorem dX10_isLetter_3 : decode cX10_isLetter 3 = .ok (.if_icmp .lt 9, 3) := by decide +kernel
theorem dX10_isLetter_6 : decode cX10_isLetter 6 = .ok (.iload_n 0, 1) := by decide +kernel
theorem dX10_isLetter_7 : decode cX10_isLetter 7 = .ok (.bipush 122, 2) := by decide +kernel
theorem dX10_isLetter_9 : decode cX10_isLetter 9 = .ok (.if_icmp .le 15, 3) := by decide +kernel
theorem dX10_isLetter_12 : decode cX10_isLetter 12 = .ok (.iload_n 0, 1) := by decide +kernel
theorem dX10_isLetter_13 : decode cX10_isLetter 13 = .ok (.bipush 65, 2) := by decide +kernel
theorem dX10_isLetter_15 : decode cX10_isLetter 15 = .ok (.if_icmp .lt 13, 3) := by decide +kernel
theorem dX10_isLetter_18 : decode cX10_isLetter 18 = .ok (.iload_n 0, 1) := by decide +kernel
theorem dX10_isLetter_19 : decode cX10_isLetter 19 = .ok (.bipush 90, 2) := by decide +kernel
theorem dX10_isLetter_21 : decode cX10_isLetter 21 = .ok (.if_icmp .gt 7, 3) := by decide +kernel
theorem dX10_isLetter_24 : decode cX10_isLetter 24 = .ok (.iconst 1, 1) := by decide +kernel
theorem dX10_isLetter_25 : decode cX10_isLetter 25 = .ok (.goto 4, 3) := by decide +kernel
theorem dX10_isLetter_28 : decode cX10_isLetter 28 = .ok (.iconst 0, 1) := by decide +kernel
theorem dX10_isLetter_29 : decode cX10_isLetter 29 = .ok (.ireturn, 1) := by decide +kernel
theorem dX10_isLetterOrMark_0 : decode cX10_isLetterOrMark 0 = .ok (.iload_n 0, 1) := by decide +kernel
theorem dX10_isLetterOrMark_1 : decode cX10_isLetterOrMark 1 = .ok (.bipush 33, 2) := by decide +kernel
theorem dX10_isLetterOrMark_3 : decode cX10_isLetterOrMark 3 = .ok (.if_icmp .lt 25, 3) := by decide +kernel
theorem dX10_isLetterOrMark_6 : decode cX10_isLetterOrMark 6 = .ok (.iload_n 0, 1) := by decide +kernel
theorem dX10_isLetterOrMark_7 : decode cX10_isLetterOrMark 7 = .ok (.bipush 126, 2) := by decide +kernel
theorem dX10_isLetterOrMark_9 : decode cX10_isLetterOrMark 9 = .ok (.if_icmp .gt 19, 3) := by decide +kernel
theorem dX10_isLetterOrMark_12 : decode cX10_isLetterOrMark 12 = .ok (.iload_n 0, 1) := by decide +kernel
theorem dX10_isLetterOrMark_13 : decode cX10_isLetterOrMark 13 = .ok (.bipush 91, 2) := by decide +kernel
theorem dX10_isLetterOrMark_15 : decode cX10_isLetterOrMark 15 = .ok (.if_icmp .eq 13, 3) := by decide +kernel
theorem dX10_isLetterOrMark_18 : decode cX10_isLetterOrMark 18 = .ok (.iload_n 0, 1) := by decide +kernel
theorem dX10_isLetterOrMark_19 : decode cX10_isLetterOrMark 19 = .ok (.bipush 93, 2) := by decide +kernel
theorem dX10_isLetterOrMark_21 : decode cX10_isLetterOrMark 21 = .ok (.if_icmp .eq 7, 3) := by decide +kernel
theorem dX10_isLetterOrMark_24 : decode cX10_isLetterOrMark 24 = .ok (.iconst 1, 1) := by decide +kernel
theorem dX10_isLetterOrMark_25 : decode cX10_isLetterOrMark 25 = .ok (.goto 4, 3) := by decide +kernel
theorem dX10_isLetterOrMark_28 : decode cX10_isLetterOrMark 28 = .ok (.iconst 0, 1) := by decide +kernel
theorem dX10_isLetterOrMark_29 : decode cX10_isLetterOrMark 29 = .ok (.ireturn, 1) := by decide +kernel
theorem dX10_smallSign_0 : decode cX10_smallSign 0 = .ok (.iload_n 0, 1) := by decide +kernel
theorem dX10_smallSign_1 : decode cX10_smallSign 1 = .ok (.bipush 65, 2) := by decide +kernel
theorem dX10_smallSign_3 : decode cX10_smallSign 3 = .ok (.if_icmp .lt 19, 3) := by decide +kernel
theorem dX10_smallSign_6 : decode cX10_smallSign 6 = .ok (.iload_n 0, 1) := by decide +kernel
theorem dX10_smallSign_7 : decode cX10_smallSign 7 = .ok (.bipush 90, 2) := by decide +kernel
theorem dX10_smallSign_9 : decode cX10_smallSign 9 = .ok (.if_icmp .gt 13, 3) := by decide +kernel
theorem dX10_smallSign_12 : decode cX10_smallSign 12 = .ok (.iload_n 0, 1) := by decide +kernel
theorem dX10_smallSign_13 : decode cX10_smallSign 13 = .ok (.bipush 65, 2) := by decide +kernel
theorem dX10_smallSign_15 : decode cX10_smallSign 15 = .ok (.isub, 1) := by decide +kernel
theorem dX10_smallSign_16 : decode cX10_smallSign 16 = .ok (.bipush 97, 2) := by decide +kernel
theorem dX10_smallSign_18 : decode cX10_smallSign 18 = .ok (.iadd, 1) := by decide +kernel
theorem dX10_smallSign_19 : decode cX10_smallSign 19 = .ok (.goto 4, 3) := by decide +kernel
theorem dX10_smallSign_22 : decode cX10_smallSign 22 = .ok (.iload_n 0, 1) := by decide +kernel
theorem dX10_smallSign_23 : decode cX10_smallSign 23 = .ok (.ireturn, 1) := by decide +kernel
theorem dX10_thousandths_0 : decode cX10_thousandths 0 = .ok (.iload_n 1, 1) := by decide +kernel
theorem dX10_thousandths_1 : decode cX10_thousandths 1 = .ok (.ifCond .gt 7, 3) := by decide +kernel
theorem dX10_thousandths_4 : decode cX10_thousandths 4 = .ok (.iconst 0, 1) := by decide +kernel
theorem dX10_thousandths_5 : decode cX10_thousandths 5 = .ok (.goto 10, 3) := by decide +kernel
theorem dX10_thousandths_8 : decode cX10_thousandths 8 = .ok (.sipush 1000, 3) := by decide +kernel
theorem dX10_thousandths_11 : decode cX10_thousandths 11 = .ok (.iload_n 0, 1) := by decide +kernel
theorem dX10_thousandths_12 : decode cX10_thousandths 12 = .ok (.imul, 1) := by decide +kernel
theorem dX10_thousandths_13 : decode cX10_thousandths 13 = .ok (.iload_n 1, 1) := by decide +kernel
theorem dX10_thousandths_14 : decode cX10_thousandths 14 = .ok (.idiv, 1) := by decide +kernel
theorem dX10_thousandths_15 : decode cX10_thousandths 15 = .ok (.ireturn, 1) := by decide +kernel
theorem dX11_init_0 : decode cX11_init 0 = .ok (.aload_n 0, 1) := by decide +kernel
theorem dX11_init_1 : decode cX11_init 1 = .ok (.invokespecial 1, 3) := by decide +kernel
theorem dX11_init_4 : decode cX11_init 4 = .ok (.aload_n 0, 1) := by decide +kernel
theorem dX11_init_5 : decode cX11_init 5 = .ok (.bipush 6, 2) := by decide +kernel
theorem dX11_init_7 : decode cX11_init 7 = .ok (.newarray .int, 2) := by decide +kernel
theorem dX11_init_9 : decode cX11_init 9 = .ok (.putfield 7, 3) := by decide +kernel
theorem dX11_init_12 : decode cX11_init 12 = .ok (.aload_n 0, 1) := by decide +kernel
theorem dX11_init_13 : decode cX11_init 13 = .ok (.iconst 4, 1) := by decide +kernel
theorem dX11_init_14 : decode cX11_init 14 = .ok (.newarray .int, 2) := by decide +kernel
theorem dX11_init_16 : decode cX11_init 16 = .ok (.putfield 13, 3) := by decide +kernel
theorem dX11_init_19 : decode cX11_init 19 = .ok (.aload_n 0, 1) := by decide +kernel
theorem dX11_init_20 : decode cX11_init 20 = .ok (.sipush 800, 3) := by decide +kernel
theorem dX11_init_23 : decode cX11_init 23 = .ok (.newarray .int, 2) := by decide +kernel
theorem dX11_init_25 : decode cX11_init 25 = .ok (.putfield 16, 3) := by decide +kernel
theorem dX11_init_28 : decode cX11_init 28 = .ok (.aload_n 0, 1) := by decide +kernel
theorem dX11_init_29 : decode cX11_init 29 = .ok (.sipush 200, 3) := by decide +kernel
theorem dX11_init_32 : decode cX11_init 32 = .ok (.newarray .int, 2) := by decide +kernel
theorem dX11_init_34 : decode cX11_init 34 = .ok (.putfield 19, 3) := by decide +kernel
theorem dX11_init_37 : decode cX11_init 37 = .ok (.aload_n 0, 1) := by decide +kernel
theorem dX11_init_38 : decode cX11_init 38 = .ok (.bipush 15, 2) := by decide +kernel
theorem dX11_init_40 : decode cX11_init 40 = .ok (.newarray .int, 2) := by decide +kernel
theorem dX11_init_42 : decode cX11_init 42 = .ok (.putfield 22, 3) := by decide +kernel
theorem dX11_init_45 : decode cX11_init 45 = .ok (.aload_n 0, 1) := by decide +kernel
theorem dX11_init_46 : decode cX11_init 46 = .ok (.bipush 15, 2) := by decide +kernel
theorem dX11_init_48 : decode cX11_init 48 = .ok (.newarray .int, 2) := by decide +kernel
theorem dX11_init_50 : decode cX11_init 50 = .ok (.putfield 25, 3) := by decide +kernel
theorem dX11_init_53 : decode cX11_init 53 = .ok (.aload_n 0, 1) := by decide +kernel
theorem dX11_init_54 : decode cX11_init 54 = .ok (.bipush 15, 2) := by decide +kernel
theorem dX11_init_56 : decode cX11_init 56 = .ok (.newarray .int, 2) := by decide +kernel
theorem dX11_init_58 : decode cX11_init 58 = .ok (.putfield 28, 3) := by decide +kernel
theorem dX11_init_61 : decode cX11_init 61 = .ok (.aload_n 0, 1) := by decide +kernel
theorem dX11_init_62 : decode cX11_init 62 = .ok (.bipush 15, 2) := by decide +kernel
theorem dX11_init_64 : decode cX11_init 64 = .ok (.newarray .boolean, 2) := by decide +kernel
theorem dX11_init_66 : decode cX11_init 66 = .ok (.putfield 31, 3) := by decide +kernel
theorem dX11_init_69 : decode cX11_init 69 = .ok (.aload_n 0, 1) := by decide +kernel
theorem dX11_init_70 : decode cX11_init 70 = .ok (.bipush 15, 2) := by decide +kernel
theorem dX11_init_72 : decode cX11_init 72 = .ok (.newarray .int, 2) := by decide +kernel
theorem dX11_init_74 : decode cX11_init 74 = .ok (.putfield 35, 3) := by decide +kernel
theorem dX11_init_77 : decode cX11_init 77 = .ok (.aload_n 0, 1) := by decide +kernel
theorem dX11_init_78 : decode cX11_init 78 = .ok (.sipush 3000, 3) := by decide +kernel
theorem dX11_init_81 : decode cX11_init 81 = .ok (.newarray .int, 2) := by decide +kernel
theorem dX11_init_83 : decode cX11_init 83 = .ok (.putfield 38, 3) := by decide +kernel
theorem dX11_init_86 : decode cX11_init 86 = .ok (.aload_n 0, 1) := by decide +kernel
theorem dX11_init_87 : decode cX11_init 87 = .ok (.bipush 15, 2) := by decide +kernel
theorem dX11_init_89 : decode cX11_init 89 = .ok (.newarray .int, 2) := by decide +kernel
theorem dX11_init_91 : decode cX11_init 91 = .ok (.putfield 41, 3) := by decide +kernel
theorem dX11_init_94 : decode cX11_init 94 = .ok (.aload_n 0, 1) := by decide +kernel
theorem dX11_init_95 : decode cX11_init 95 = .ok (.bipush 15, 2) := by decide +kernel
theorem dX11_init_97 : decode cX11_init 97 = .ok (.newarray .int, 2) := by decide +kernel
theorem dX11_init_99 : decode cX11_init 99 = .ok (.putfield 44, 3) := by decide +kernel
theorem dX11_init_102 : decode cX11_init 102 = .ok (.aload_n 0, 1) := by decide +kernel
theorem dX11_init_103 : decode cX11_init 103 = .ok (.bipush 15, 2) := by decide +kernel
theorem dX11_init_105 : decode cX11_init 105 = .ok (.newarray .int, 2) := by decide +kernel
theorem dX11_init_107 : decode cX11_init 107 = .ok (.putfield 47, 3) := by decide +kernel
theorem dX11_init_110 : decode cX11_init 110 = .ok (.aload_n 0, 1) := by decide +kernel
theorem dX11_init_111 : decode cX11_init 111 = .ok (.sipush 1500, 3) := by decide +kernel
theorem dX11_init_114 : decode cX11_init 114 = .ok (.newarray .int, 2) := by decide +kernel
theorem dX11_init_116 : decode cX11_init 116 = .ok (.putfield 50, 3) := by decide +kernel
theorem dX11_init_119 : decode cX11_init 119 = .ok (.aload_n 0, 1) := by decide +kernel
theorem dX11_init_120 : decode cX11_init 120 = .ok (.sipush 1500, 3) := by decide +kernel
theorem dX11_init_123 : decode cX11_init 123 = .ok (.newarray .int, 2) := by decide +kernel
theorem dX11_init_125 : decode cX11_init 125 = .ok (.putfield 53, 3) := by decide +kernel
theorem dX11_init_128 : decode cX11_init 128 = .ok (.aload_n 0, 1) := by decide +kernel
theorem dX11_init_129 : decode cX11_init 129 = .ok (.bipush 12, 2) := by decide +kernel
theorem dX11_init_131 : decode cX11_init 131 = .ok (.newarray .int, 2) := by decide +kernel
theorem dX11_init_133 : decode cX11_init 133 = .ok (.putfield 56, 3) := by decide +kernel
theorem dX11_init_136 : decode cX11_init 136 = .ok (.aload_n 0, 1) := by decide +kernel
theorem dX11_init_137 : decode cX11_init 137 = .ok (.bipush 12, 2) := by decide +kernel
theorem dX11_init_139 : decode cX11_init 139 = .ok (.newarray .int, 2) := by decide +kernel
theorem dX11_init_141 : decode cX11_init 141 = .ok (.putfield 59, 3) := by decide +kernel
theorem dX11_init_144 : decode cX11_init 144 = .ok (.aload_n 0, 1) := by decide +kernel
theorem dX11_init_145 : decode cX11_init 145 = .ok (.bipush 12, 2) := by decide +kernel
theorem dX11_init_147 : decode cX11_init 147 = .ok (.newarray .int, 2) := by decide +kernel
theorem dX11_init_149 : decode cX11_init 149 = .ok (.putfield 62, 3) := by decide +kernel
theorem dX11_init_152 : decode cX11_init 152 = .ok (.aload_n 0, 1) := by decide +kernel
theorem dX11_init_153 : decode cX11_init 153 = .ok (.sipush 144, 3) := by decide +kernel
theorem dX11_init_156 : decode cX11_init 156 = .ok (.newarray .int, 2) := by decide +kernel
theorem dX11_init_158 : decode cX11_init 158 = .ok (.putfield 65, 3) := by decide +kernel
theorem dX11_init_161 : decode cX11_init 161 = .ok (.aload_n 0, 1) := by decide +kernel
theorem dX11_init_162 : decode cX11_init 162 = .ok (.sipush 168, 3) := by decide +kernel
theorem dX11_init_165 : decode cX11_init 165 = .ok (.newarray .int, 2) := by decide +kernel
theorem dX11_init_167 : decode cX11_init 167 = .ok (.putfield 68, 3) := by decide +kernel
theorem dX11_init_170 : decode cX11_init 170 = .ok (.aload_n 0, 1) := by decide +kernel
theorem dX11_init_171 : decode cX11_init 171 = .ok (.bipush 100, 2) := by decide +kernel
theorem dX11_init_173 : decode cX11_init 173 = .ok (.newarray .int, 2) := by decide +kernel
theorem dX11_init_175 : decode cX11_init 175 = .ok (.putfield 71, 3) := by decide +kernel
theorem dX11_init_178 : decode cX11_init 178 = .ok (.aload_n 0, 1) := by decide +kernel
theorem dX11_init_179 : decode cX11_init 179 = .ok (.bipush 101, 2) := by decide +kernel
theorem dX11_init_181 : decode cX11_init 181 = .ok (.newarray .long, 2) := by decide +kernel
theorem dX11_init_183 : decode cX11_init 183 = .ok (.putfield 74, 3) := by decide +kernel
theorem dX11_init_186 : decode cX11_init 186 = .ok (.aload_n 0, 1) := by decide +kernel
theorem dX11_init_187 : decode cX11_init 187 = .ok (.bipush 101, 2) := by decide +kernel
theorem dX11_init_189 : decode cX11_init 189 = .ok (.newarray .long, 2) := by decide +kernel
theorem dX11_init_191 : decode cX11_init 191 = .ok (.putfield 78, 3) := by decide +kernel
theorem dX11_init_194 : decode cX11_init 194 = .ok (.aload_n 0, 1) := by decide +kernel
theorem dX11_init_195 : decode cX11_init 195 = .ok (.bipush 39, 2) := by decide +kernel
theorem dX11_init_197 : decode cX11_init 197 = .ok (.newarray .int, 2) := by decide +kernel
theorem dX11_init_199 : decode cX11_init 199 = .ok (.putfield 81, 3) := by decide +kernel
theorem dX11_init_202 : decode cX11_init 202 = .ok (.aload_n 0, 1) := by decide +kernel
theorem dX11_init_203 : decode cX11_init 203 = .ok (.bipush 14, 2) := by decide +kernel
theorem dX11_init_205 : decode cX11_init 205 = .ok (.newarray .int, 2) := by decide +kernel
theorem dX11_init_207 : decode cX11_init 207 = .ok (.putfield 84, 3) := by decide +kernel
theorem dX11_init_210 : decode cX11_init 210 = .ok (.iconst 0, 1) := by decide +kernel
theorem dX11_init_211 : decode cX11_init 211 = .ok (.istore_n 1, 1) := by decide +kernel
theorem dX11_init_212 : decode cX11_init 212 = .ok (.iload_n 1, 1) := by decide +kernel
theorem dX11_init_213 : decode cX11_init 213 = .ok (.iconst 4, 1) := by decide +kernel
theorem dX11_init_214 : decode cX11_init 214 = .ok (.if_icmp .ge 17, 3) := by decide +kernel
theorem dX11_init_217 : decode cX11_init 217 = .ok (.aload_n 0, 1) := by decide +kernel
theorem dX11_init_218 : decode cX11_init 218 = .ok (.getfield 13, 3) := by decide +kernel
theorem dX11_init_221 : decode cX11_init 221 = .ok (.iload_n 1, 1) := by decide +kernel
theorem dX11_init_222 : decode cX11_init 222 = .ok (.bipush (-9), 2) := by decide +kernel
theorem dX11_init_224 : decode cX11_init 224 = .ok (.iastore, 1) := by decide +kernel
theorem dX11_init_225 : decode cX11_init 225 = .ok (.iinc 1 1, 3) := by decide +kernel
theorem dX11_init_228 : decode cX11_init 228 = .ok (.goto (-16), 3) := by decide +kernel
theorem dX11_init_231 : decode cX11_init 231 = .ok (.return_, 1) := by decide +kernel
theorem dX11_in_0 : decode cX11_in 0 = .ok (.iload_n 0, 1) := by decide +kernel
theorem dX11_in_1 : decode cX11_in 1 = .ok (.iload_n 1, 1) := by decide +kernel
theorem dX11_in_2 : decode cX11_in 2 = .ok (.if_icmp .lt 12, 3) := by decide +kernel
theorem dX11_in_5 : decode cX11_in 5 = .ok (.iload_n 0, 1) := by decide +kernel
theorem dX11_in_6 : decode cX11_in 6 = .ok (.iload_n 2, 1) := by decide +kernel
theorem dX11_in_7 : decode cX11_in 7 = .ok (.if_icmp .gt 7, 3) := by decide +kernel
theorem dX11_in_10 : decode cX11_in 10 = .ok (.iconst 1, 1) := by decide +kernel
theorem dX11_in_11 : decode cX11_in 11 = .ok (.goto 4, 3) := by decide +kernel
theorem dX11_in_14 : decode cX11_in 14 = .ok (.iconst 0, 1) := by decide +kernel
theorem dX11_in_15 : decode cX11_in 15 = .ok (.ireturn, 1) := by decide +kernel
theorem dX11_meets_0 : decode cX11_meets 0 = .ok (.aload_n 0, 1) := by decide +kernel
theorem dX11_meets_1 : decode cX11_meets 1 = .ok (.iload_n 1, 1) := by decide +kernel
theorem dX11_meets_2 : decode cX11_meets 2 = .ok (.putfield 87, 3) := by decide +kernel
theorem dX11_meets_5 : decode cX11_meets 5 = .ok (.aload_n 0, 1) := by decide +kernel
theorem dX11_meets_6 : decode cX11_meets 6 = .ok (.getfield 7, 3) := by decide +kernel
theorem dX11_meets_9 : decode cX11_meets 9 = .ok (.iload_n 1, 1) := by decide +kernel
theorem dX11_meets_10 : decode cX11_meets 10 = .ok (.dup2, 1) := by decide +kernel
theorem dX11_meets_11 : decode cX11_meets 11 = .ok (.iaload, 1) := by decide +kernel
theorem dX11_meets_12 : decode cX11_meets 12 = .ok (.iconst 1, 1) := by decide +kernel
theorem dX11_meets_13 : decode cX11_meets 13 = .ok (.iadd, 1) := by decide +kernel
theorem dX11_meets_14 : decode cX11_meets 14 = .ok (.iastore, 1) := by decide +kernel
theorem dX11_meets_15 : decode cX11_meets 15 = .ok (.bipush (-3), 2) := by decide +kernel
theorem dX11_meets_17 : decode cX11_meets 17 = .ok (.ireturn, 1) := by decide +kernel
theorem dX11_has_0 : decode cX11_has 0 = .ok (.iload_n 0, 1) := by decide +kernel
theorem dX11_has_1 : decode cX11_has 1 = .ok (.iload_n 1, 1) := by decide +kernel
theorem dX11_has_2 : decode cX11_has 2 = .ok (.ishr, 1) := by decide +kernel
theorem dX11_has_3 : decode cX11_has 3 = .ok (.iconst 1, 1) := by decide +kernel
theorem dX11_has_4 : decode cX11_has 4 = .ok (.iand, 1) := by decide +kernel
theorem dX11_has_5 : decode cX11_has 5 = .ok (.iconst 1, 1) := by decide +kernel
theorem dX11_has_6 : decode cX11_has 6 = .ok (.if_icmp .ne 7, 3) := by decide +kernel
theorem dX11_has_9 : decode cX11_has 9 = .ok (.iconst 1, 1) := by decide +kernel
theorem dX11_has_10 : decode cX11_has 10 = .ok (.goto 4, 3) := by decide +kernel
theorem dX11_has_13 : decode cX11_has 13 = .ok (.iconst 0, 1) := by decide +kernel
theorem dX11_has_14 : decode cX11_has 14 = .ok (.ireturn, 1) := by decide +kernel
theorem dX11_isSheet_0 : decode cX11_isSheet 0 = .ok (.iload_n 0, 1) := by decide +kernel
theorem dX11_isSheet_1 : decode cX11_isSheet 1 = .ok (.iconst 0, 1) := by decide +kernel
theorem dX11_isSheet_2 : decode cX11_isSheet 2 = .ok (.iconst 3, 1) := by decide +kernel
theorem dX11_isSheet_3 : decode cX11_isSheet 3 = .ok (.invokestatic 91, 3) := by decide +kernel
theorem dX11_isSheet_6 : decode cX11_isSheet 6 = .ok (.ireturn, 1) := by decide +kernel
theorem dX11_looked_0 : decode cX11_looked 0 = .ok (.iload_n 1, 1) := by decide +kernel
theorem dX11_looked_1 : decode cX11_looked 1 = .ok (.invokestatic 95, 3) := by decide +kernel
theorem dX11_looked_4 : decode cX11_looked 4 = .ok (.ifCond .ne 7, 3) := by decide +kernel
theorem dX11_looked_7 : decode cX11_looked 7 = .ok (.iconst (-1), 1) := by decide +kernel
theorem dX11_looked_8 : decode cX11_looked 8 = .ok (.goto 21, 3) := by decide +kernel
theorem dX11_looked_11 : decode cX11_looked 11 = .ok (.aload_n 0, 1) := by decide +kernel
theorem dX11_looked_12 : decode cX11_looked 12 = .ok (.getfield 13, 3) := by decide +kernel
theorem dX11_looked_15 : decode cX11_looked 15 = .ok (.iload_n 1, 1) := by decide +kernel
theorem dX11_looked_16 : decode cX11_looked 16 = .ok (.iaload, 1) := by decide +kernel
theorem dX11_looked_17 : decode cX11_looked 17 = .ok (.ifCond .ge 11, 3) := by decide +kernel
theorem dX11_looked_20 : decode cX11_looked 20 = .ok (.aload_n 0, 1) := by decide +kernel
theorem dX11_looked_21 : decode cX11_looked 21 = .ok (.iconst 1, 1) := by decide +kernel
theorem dX11_looked_22 : decode cX11_looked 22 = .ok (.invokevirtual 99, 3) := by decide +kernel
theorem dX11_looked_25 : decode cX11_looked 25 = .ok (.goto 4, 3) := by decide +kernel
theorem dX11_looked_28 : decode cX11_looked 28 = .ok (.iconst 0, 1) := by decide +kernel
theorem dX11_looked_29 : decode cX11_looked 29 = .ok (.ireturn, 1) := by decide +kernel
theorem dX11_sheet_0 : decode cX11_sheet 0 = .ok (.iload_n 1, 1) := by decide +kernel
theorem dX11_sheet_1 : decode cX11_sheet 1 = .ok (.invokestatic 95, 3) := by decide +kernel
theorem dX11_sheet_4 : decode cX11_sheet 4 = .ok (.ifCond .eq 10, 3) := by decide +kernel
theorem dX11_sheet_7 : decode cX11_sheet 7 = .ok (.iload_n 2, 1) := by decide +kernel
theorem dX11_sheet_8 : decode cX11_sheet 8 = .ok (.sipush 200, 3) := by decide +kernel
theorem dX11_sheet_11 : decode cX11_sheet 11 = .ok (.if_icmp .le 5, 3) := by decide +kernel
theorem dX11_sheet_14 : decode cX11_sheet 14 = .ok (.iconst (-1), 1) := by decide +kernel
theorem dX11_sheet_15 : decode cX11_sheet 15 = .ok (.ireturn, 1) := by decide +kernel
theorem dX11_sheet_16 : decode cX11_sheet 16 = .ok (.iload_n 2, 1) := by decide +kernel
theorem dX11_sheet_17 : decode cX11_sheet 17 = .ok (.ifCond .ge 9, 3) := by decide +kernel
theorem dX11_sheet_20 : decode cX11_sheet 20 = .ok (.aload_n 0, 1) := by decide +kernel
theorem dX11_sheet_21 : decode cX11_sheet 21 = .ok (.iconst 5, 1) := by decide +kernel
theorem dX11_sheet_22 : decode cX11_sheet 22 = .ok (.invokevirtual 99, 3) := by decide +kernel
theorem dX11_sheet_25 : decode cX11_sheet 25 = .ok (.ireturn, 1) := by decide +kernel
theorem dX11_sheet_26 : decode cX11_sheet 26 = .ok (.aload_n 0, 1) := by decide +kernel
theorem dX11_sheet_27 : decode cX11_sheet 27 = .ok (.getfield 13, 3) := by decide +kernel
theorem dX11_sheet_30 : decode cX11_sheet 30 = .ok (.iload_n 1, 1) := by decide +kernel
theorem dX11_sheet_31 : decode cX11_sheet 31 = .ok (.iload_n 2, 1) := by decide +kernel
theorem dX11_sheet_32 : decode cX11_sheet 32 = .ok (.iastore, 1) := by decide +kernel
theorem dX11_sheet_33 : decode cX11_sheet 33 = .ok (.iconst 0, 1) := by decide +kernel
theorem dX11_sheet_34 : decode cX11_sheet 34 = .ok (.istore_n 3, 1) := by decide +kernel
theorem dX11_sheet_35 : decode cX11_sheet 35 = .ok (.iload_n 3, 1) := by decide +kernel
theorem dX11_sheet_36 : decode cX11_sheet 36 = .ok (.sipush 200, 3) := by decide +kernel
theorem dX11_sheet_39 : decode cX11_sheet 39 = .ok (.if_icmp .ge 23, 3) := by decide +kernel
theorem dX11_sheet_42 : decode cX11_sheet 42 = .ok (.aload_n 0, 1) := by decide +kernel
theorem dX11_sheet_43 : decode cX11_sheet 43 = .ok (.getfield 16, 3) := by decide +kernel
theorem dX11_sheet_46 : decode cX11_sheet 46 = .ok (.sipush 200, 3) := by decide +kernel
theorem dX11_sheet_49 : decode cX11_sheet 49 = .ok (.iload_n 1, 1) := by decide +kernel
theorem dX11_sheet_50 : decode cX11_sheet 50 = .ok (.imul, 1) := by decide +kernel
theorem dX11_sheet_51 : decode cX11_sheet 51 = .ok (.iload_n 3, 1) := by decide +kernel
theorem dX11_sheet_52 : decode cX11_sheet 52 = .ok (.iadd, 1) := by decide +kernel
theorem dX11_sheet_53 : decode cX11_sheet 53 = .ok (.bipush 32, 2) := by decide +kernel
theorem dX11_sheet_55 : decode cX11_sheet 55 = .ok (.iastore, 1) := by decide +kernel
theorem dX11_sheet_56 : decode cX11_sheet 56 = .ok (.iinc 3 1, 3) := by decide +kernel
theorem dX11_sheet_59 : decode cX11_sheet 59 = .ok (.goto (-24), 3) := by decide +kernel
theorem dX11_sheet_62 : decode cX11_sheet 62 = .ok (.iload_n 2, 1) := by decide +kernel
theorem dX11_sheet_63 : decode cX11_sheet 63 = .ok (.ireturn, 1) := by decide +kernel
theorem dX11_lay_0 : decode cX11_lay 0 = .ok (.aload_n 0, 1) := by decide +kernel
theorem dX11_lay_1 : decode cX11_lay 1 = .ok (.iload_n 1, 1) := by decide +kernel
theorem dX11_lay_2 : decode cX11_lay 2 = .ok (.invokevirtual 103, 3) := by decide +kernel
theorem dX11_lay_5 : decode cX11_lay 5 = .ok (.istore 4, 2) := by decide +kernel
theorem dX11_lay_7 : decode cX11_lay 7 = .ok (.iload 4, 2) := by decide +kernel
theorem dX11_lay_9 : decode cX11_lay 9 = .ok (.ifCond .ge 6, 3) := by decide +kernel
theorem dX11_lay_12 : decode cX11_lay 12 = .ok (.iload 4, 2) := by decide +kernel
theorem dX11_lay_14 : decode cX11_lay 14 = .ok (.ireturn, 1) := by decide +kernel
theorem dX11_lay_15 : decode cX11_lay 15 = .ok (.iload_n 2, 1) := by decide +kernel
theorem dX11_lay_16 : decode cX11_lay 16 = .ok (.iconst 0, 1) := by decide +kernel
theorem dX11_lay_17 : decode cX11_lay 17 = .ok (.aload_n 0, 1) := by decide +kernel
theorem dX11_lay_18 : decode cX11_lay 18 = .ok (.getfield 13, 3) := by decide +kernel
theorem dX11_lay_21 : decode cX11_lay 21 = .ok (.iload_n 1, 1) := by decide +kernel
theorem dX11_lay_22 : decode cX11_lay 22 = .ok (.iaload, 1) := by decide +kernel
theorem dX11_lay_23 : decode cX11_lay 23 = .ok (.iconst 1, 1) := by decide +kernel
theorem dX11_lay_24 : decode cX11_lay 24 = .ok (.isub, 1) := by decide +kernel
theorem dX11_lay_25 : decode cX11_lay 25 = .ok (.invokestatic 91, 3) := by decide +kernel
theorem dX11_lay_28 : decode cX11_lay 28 = .ok (.ifCond .ne 9, 3) := by decide +kernel
theorem dX11_lay_31 : decode cX11_lay 31 = .ok (.aload_n 0, 1) := by decide +kernel
theorem dX11_lay_32 : decode cX11_lay 32 = .ok (.iconst 2, 1) := by decide +kernel
theorem dX11_lay_33 : decode cX11_lay 33 = .ok (.invokevirtual 99, 3) := by decide +kernel
theorem dX11_lay_36 : decode cX11_lay 36 = .ok (.ireturn, 1) := by decide +kernel
theorem dX11_lay_37 : decode cX11_lay 37 = .ok (.aload_n 0, 1) := by decide +kernel
theorem dX11_lay_38 : decode cX11_lay 38 = .ok (.getfield 16, 3) := by decide +kernel
theorem dX11_lay_41 : decode cX11_lay 41 = .ok (.sipush 200, 3) := by decide +kernel
theorem dX11_lay_44 : decode cX11_lay 44 = .ok (.iload_n 1, 1) := by decide +kernel
theorem dX11_lay_45 : decode cX11_lay 45 = .ok (.imul, 1) := by decide +kernel
theorem dX11_lay_46 : decode cX11_lay 46 = .ok (.iload_n 2, 1) := by decide +kernel
theorem dX11_lay_47 : decode cX11_lay 47 = .ok (.iadd, 1) := by decide +kernel
theorem dX11_lay_48 : decode cX11_lay 48 = .ok (.iaload, 1) := by decide +kernel
theorem dX11_lay_49 : decode cX11_lay 49 = .ok (.istore 5, 2) := by decide +kernel
theorem dX11_lay_51 : decode cX11_lay 51 = .ok (.aload_n 0, 1) := by decide +kernel
theorem dX11_lay_52 : decode cX11_lay 52 = .ok (.getfield 16, 3) := by decide +kernel
theorem dX11_lay_55 : decode cX11_lay 55 = .ok (.sipush 200, 3) := by decide +kernel
theorem dX11_lay_58 : decode cX11_lay 58 = .ok (.iload_n 1, 1) := by decide +kernel
theorem dX11_lay_59 : decode cX11_lay 59 = .ok (.imul, 1) := by decide +kernel
theorem dX11_lay_60 : decode cX11_lay 60 = .ok (.iload_n 2, 1) := by decide +kernel
theorem dX11_lay_61 : decode cX11_lay 61 = .ok (.iadd, 1) := by decide +kernel
theorem dX11_lay_62 : decode cX11_lay 62 = .ok (.iload_n 3, 1) := by decide +kernel
theorem dX11_lay_63 : decode cX11_lay 63 = .ok (.i2b, 1) := by decide +kernel
theorem dX11_lay_64 : decode cX11_lay 64 = .ok (.iastore, 1) := by decide +kernel
theorem dX11_lay_65 : decode cX11_lay 65 = .ok (.iload 5, 2) := by decide +kernel
theorem dX11_lay_67 : decode cX11_lay 67 = .ok (.sipush 1000, 3) := by decide +kernel
theorem dX11_lay_70 : decode cX11_lay 70 = .ok (.iadd, 1) := by decide +kernel
theorem dX11_lay_71 : decode cX11_lay 71 = .ok (.ireturn, 1) := by decide +kernel
theorem dX11_tear_0 : decode cX11_tear 0 = .ok (.aload_n 0, 1) := by decide +kernel
theorem dX11_tear_1 : decode cX11_tear 1 = .ok (.iload_n 1, 1) := by decide +kernel
theorem dX11_tear_2 : decode cX11_tear 2 = .ok (.invokevirtual 103, 3) := by decide +kernel
theorem dX11_tear_5 : decode cX11_tear 5 = .ok (.istore_n 2, 1) := by decide +kernel
theorem dX11_tear_6 : decode cX11_tear 6 = .ok (.iload_n 2, 1) := by decide +kernel
theorem dX11_tear_7 : decode cX11_tear 7 = .ok (.ifCond .ge 5, 3) := by decide +kernel
theorem dX11_tear_10 : decode cX11_tear 10 = .ok (.iload_n 2, 1) := by decide +kernel
theorem dX11_tear_11 : decode cX11_tear 11 = .ok (.ireturn, 1) := by decide +kernel
theorem dX11_tear_12 : decode cX11_tear 12 = .ok (.aload_n 0, 1) := by decide +kernel
theorem dX11_tear_13 : decode cX11_tear 13 = .ok (.getfield 13, 3) := by decide +kernel
theorem dX11_tear_16 : decode cX11_tear 16 = .ok (.iload_n 1, 1) := by decide +kernel
theorem dX11_tear_17 : decode cX11_tear 17 = .ok (.bipush (-9), 2) := by decide +kernel
theorem dX11_tear_19 : decode cX11_tear 19 = .ok (.iastore, 1) := by decide +kernel
theorem dX11_tear_20 : decode cX11_tear 20 = .ok (.iconst 1, 1) := by decide +kernel
theorem dX11_tear_21 : decode cX11_tear 21 = .ok (.ireturn, 1) := by decide +kernel
theorem dX11_copy_0 : decode cX11_copy 0 = .ok (.iload_n 1, 1) := by decide +kernel
theorem dX11_copy_1 : decode cX11_copy 1 = .ok (.invokestatic 95, 3) := by decide +kernel
theorem dX11_copy_4 : decode cX11_copy 4 = .ok (.ifCond .eq 10, 3) := by decide +kernel
theorem dX11_copy_7 : decode cX11_copy 7 = .ok (.iload_n 3, 1) := by decide +kernel
theorem dX11_copy_8 : decode cX11_copy 8 = .ok (.invokestatic 95, 3) := by decide +kernel
theorem dX11_copy_11 : decode cX11_copy 11 = .ok (.ifCond .ne 5, 3) := by decide +kernel
theorem dX11_copy_14 : decode cX11_copy 14 = .ok (.iconst (-1), 1) := by decide +kernel
theorem dX11_copy_15 : decode cX11_copy 15 = .ok (.ireturn, 1) := by decide +kernel
theorem dX11_copy_16 : decode cX11_copy 16 = .ok (.iload 5, 2) := by decide +kernel
theorem dX11_copy_18 : decode cX11_copy 18 = .ok (.ifCond .ge 9, 3) := by decide +kernel
theorem dX11_copy_21 : decode cX11_copy 21 = .ok (.aload_n 0, 1) := by decide +kernel
theorem dX11_copy_22 : decode cX11_copy 22 = .ok (.iconst 5, 1) := by decide +kernel
theorem dX11_copy_23 : decode cX11_copy 23 = .ok (.invokevirtual 99, 3) := by decide +kernel
theorem dX11_copy_26 : decode cX11_copy 26 = .ok (.ireturn, 1) := by decide +kernel
theorem dX11_copy_27 : decode cX11_copy 27 = .ok (.aload_n 0, 1) := by decide +kernel
theorem dX11_copy_28 : decode cX11_copy 28 = .ok (.getfield 13, 3) := by decide +kernel
theorem dX11_copy_31 : decode cX11_copy 31 = .ok (.iload_n 1, 1) := by decide +kernel
theorem dX11_copy_32 : decode cX11_copy 32 = .ok (.iaload, 1) := by decide +kernel
theorem dX11_copy_33 : decode cX11_copy 33 = .ok (.ifCond .lt 12, 3) := by decide +kernel
theorem dX11_copy_36 : decode cX11_copy 36 = .ok (.aload_n 0, 1) := by decide +kernel
theorem dX11_copy_37 : decode cX11_copy 37 = .ok (.getfield 13, 3) := by decide +kernel
theorem dX11_copy_40 : decode cX11_copy 40 = .ok (.iload_n 3, 1) := by decide +kernel
theorem dX11_copy_41 : decode cX11_copy 41 = .ok (.iaload, 1) := by decide +kernel
theorem dX11_copy_42 : decode cX11_copy 42 = .ok (.ifCond .ge 9, 3) := by decide +kernel
theorem dX11_copy_45 : decode cX11_copy 45 = .ok (.aload_n 0, 1) := by decide +kernel
theorem dX11_copy_46 : decode cX11_copy 46 = .ok (.iconst 1, 1) := by decide +kernel
theorem dX11_copy_47 : decode cX11_copy 47 = .ok (.invokevirtual 99, 3) := by decide +kernel
theorem dX11_copy_50 : decode cX11_copy 50 = .ok (.ireturn, 1) := by decide +kernel
theorem dX11_copy_51 : decode cX11_copy 51 = .ok (.iload_n 2, 1) := by decide +kernel
theorem dX11_copy_52 : decode cX11_copy 52 = .ok (.ifCond .lt 43, 3) := by decide +kernel
theorem dX11_copy_55 : decode cX11_copy 55 = .ok (.iload 4, 2) := by decide +kernel
theorem dX11_copy_57 : decode cX11_copy 57 = .ok (.ifCond .lt 38, 3) := by decide +kernel
theorem dX11_copy_60 : decode cX11_copy 60 = .ok (.iload_n 2, 1) := by decide +kernel
theorem dX11_copy_61 : decode cX11_copy 61 = .ok (.i2l, 1) := by decide +kernel
theorem dX11_copy_62 : decode cX11_copy 62 = .ok (.iload 5, 2) := by decide +kernel
theorem dX11_copy_64 : decode cX11_copy 64 = .ok (.i2l, 1) := by decide +kernel
theorem dX11_copy_65 : decode cX11_copy 65 = .ok (.ladd, 1) := by decide +kernel
theorem dX11_copy_66 : decode cX11_copy 66 = .ok (.aload_n 0, 1) := by decide +kernel
theorem dX11_copy_67 : decode cX11_copy 67 = .ok (.getfield 13, 3) := by decide +kernel
theorem dX11_copy_70 : decode cX11_copy 70 = .ok (.iload_n 1, 1) := by decide +kernel
theorem dX11_copy_71 : decode cX11_copy 71 = .ok (.iaload, 1) := by decide +kernel
theorem dX11_copy_72 : decode cX11_copy 72 = .ok (.i2l, 1) := by decide +kernel
theorem dX11_copy_73 : decode cX11_copy 73 = .ok (.lcmp, 1) := by decide +kernel
theorem dX11_copy_74 : decode cX11_copy 74 = .ok (.ifCond .gt 21, 3) := by decide +kernel
theorem dX11_copy_77 : decode cX11_copy 77 = .ok (.iload 4, 2) := by decide +kernel
theorem dX11_copy_79 : decode cX11_copy 79 = .ok (.i2l, 1) := by decide +kernel
theorem dX11_copy_80 : decode cX11_copy 80 = .ok (.iload 5, 2) := by decide +kernel
theorem dX11_copy_82 : decode cX11_copy 82 = .ok (.i2l, 1) := by decide +kernel
theorem dX11_copy_83 : decode cX11_copy 83 = .ok (.ladd, 1) := by decide +kernel
theorem dX11_copy_84 : decode cX11_copy 84 = .ok (.aload_n 0, 1) := by decide +kernel
theorem dX11_copy_85 : decode cX11_copy 85 = .ok (.getfield 13, 3) := by decide +kernel
theorem dX11_copy_88 : decode cX11_copy 88 = .ok (.iload_n 3, 1) := by decide +kernel
theorem dX11_copy_89 : decode cX11_copy 89 = .ok (.iaload, 1) := by decide +kernel
theorem dX11_copy_90 : decode cX11_copy 90 = .ok (.i2l, 1) := by decide +kernel
theorem dX11_copy_91 : decode cX11_copy 91 = .ok (.lcmp, 1) := by decide +kernel
theorem dX11_copy_92 : decode cX11_copy 92 = .ok (.ifCond .le 9, 3) := by decide +kernel
theorem dX11_copy_95 : decode cX11_copy 95 = .ok (.aload_n 0, 1) := by decide +kernel
theorem dX11_copy_96 : decode cX11_copy 96 = .ok (.iconst 2, 1) := by decide +kernel
theorem dX11_copy_97 : decode cX11_copy 97 = .ok (.invokevirtual 99, 3) := by decide +kernel
theorem dX11_copy_100 : decode cX11_copy 100 = .ok (.ireturn, 1) := by decide +kernel
theorem dX11_copy_101 : decode cX11_copy 101 = .ok (.iconst 0, 1) := by decide +kernel
theorem dX11_copy_102 : decode cX11_copy 102 = .ok (.istore 6, 2) := by decide +kernel
theorem dX11_copy_104 : decode cX11_copy 104 = .ok (.iload 6, 2) := by decide +kernel
theorem dX11_copy_106 : decode cX11_copy 106 = .ok (.iload 5, 2) := by decide +kernel
theorem dX11_copy_108 : decode cX11_copy 108 = .ok (.if_icmp .ge 31, 3) := by decide +kernel
theorem dX11_copy_111 : decode cX11_copy 111 = .ok (.aload_n 0, 1) := by decide +kernel
theorem dX11_copy_112 : decode cX11_copy 112 = .ok (.getfield 19, 3) := by decide +kernel
theorem dX11_copy_115 : decode cX11_copy 115 = .ok (.iload 6, 2) := by decide +kernel
theorem dX11_copy_117 : decode cX11_copy 117 = .ok (.aload_n 0, 1) := by decide +kernel
theorem dX11_copy_118 : decode cX11_copy 118 = .ok (.getfield 16, 3) := by decide +kernel
theorem dX11_copy_121 : decode cX11_copy 121 = .ok (.sipush 200, 3) := by decide +kernel
theorem dX11_copy_124 : decode cX11_copy 124 = .ok (.iload_n 1, 1) := by decide +kernel
theorem dX11_copy_125 : decode cX11_copy 125 = .ok (.imul, 1) := by decide +kernel
theorem dX11_copy_126 : decode cX11_copy 126 = .ok (.iload_n 2, 1) := by decide +kernel
theorem dX11_copy_127 : decode cX11_copy 127 = .ok (.iadd, 1) := by decide +kernel
theorem dX11_copy_128 : decode cX11_copy 128 = .ok (.iload 6, 2) := by decide +kernel
theorem dX11_copy_130 : decode cX11_copy 130 = .ok (.iadd, 1) := by decide +kernel
theorem dX11_copy_131 : decode cX11_copy 131 = .ok (.iaload, 1) := by decide +kernel
theorem dX11_copy_132 : decode cX11_copy 132 = .ok (.iastore, 1) := by decide +kernel
theorem dX11_copy_133 : decode cX11_copy 133 = .ok (.iinc 6 1, 3) := by decide +kernel
theorem dX11_copy_136 : decode cX11_copy 136 = .ok (.goto (-32), 3) := by decide +kernel
theorem dX11_copy_139 : decode cX11_copy 139 = .ok (.iconst 0, 1) := by decide +kernel
theorem dX11_copy_140 : decode cX11_copy 140 = .ok (.istore 6, 2) := by decide +kernel
theorem dX11_copy_142 : decode cX11_copy 142 = .ok (.iload 6, 2) := by decide +kernel
theorem dX11_copy_144 : decode cX11_copy 144 = .ok (.iload 5, 2) := by decide +kernel
theorem dX11_copy_146 : decode cX11_copy 146 = .ok (.if_icmp .ge 32, 3) := by decide +kernel
theorem dX11_copy_149 : decode cX11_copy 149 = .ok (.aload_n 0, 1) := by decide +kernel
theorem dX11_copy_150 : decode cX11_copy 150 = .ok (.getfield 16, 3) := by decide +kernel
theorem dX11_copy_153 : decode cX11_copy 153 = .ok (.sipush 200, 3) := by decide +kernel
theorem dX11_copy_156 : decode cX11_copy 156 = .ok (.iload_n 3, 1) := by decide +kernel
theorem dX11_copy_157 : decode cX11_copy 157 = .ok (.imul, 1) := by decide +kernel
theorem dX11_copy_158 : decode cX11_copy 158 = .ok (.iload 4, 2) := by decide +kernel
theorem dX11_copy_160 : decode cX11_copy 160 = .ok (.iadd, 1) := by decide +kernel
theorem dX11_copy_161 : decode cX11_copy 161 = .ok (.iload 6, 2) := by decide +kernel
theorem dX11_copy_163 : decode cX11_copy 163 = .ok (.iadd, 1) := by decide +kernel
theorem dX11_copy_164 : decode cX11_copy 164 = .ok (.aload_n 0, 1) := by decide +kernel
theorem dX11_copy_165 : decode cX11_copy 165 = .ok (.getfield 19, 3) := by decide +kernel
theorem dX11_copy_168 : decode cX11_copy 168 = .ok (.iload 6, 2) := by decide +kernel
theorem dX11_copy_170 : decode cX11_copy 170 = .ok (.iaload, 1) := by decide +kernel
theorem dX11_copy_171 : decode cX11_copy 171 = .ok (.iastore, 1) := by decide +kernel
theorem dX11_copy_172 : decode cX11_copy 172 = .ok (.iinc 6 1, 3) := by decide +kernel
theorem dX11_copy_175 : decode cX11_copy 175 = .ok (.goto (-33), 3) := by decide +kernel
theorem dX11_copy_178 : decode cX11_copy 178 = .ok (.iconst 1, 1) := by decide +kernel
theorem dX11_copy_179 : decode cX11_copy 179 = .ok (.ireturn, 1) := by decide +kernel
theorem dX11_small_0 : decode cX11_small 0 = .ok (.iload_n 0, 1) := by decide +kernel
theorem dX11_small_1 : decode cX11_small 1 = .ok (.bipush 65, 2) := by decide +kernel
theorem dX11_small_3 : decode cX11_small 3 = .ok (.bipush 90, 2) := by decide +kernel
theorem dX11_small_5 : decode cX11_small 5 = .ok (.invokestatic 91, 3) := by decide +kernel
theorem dX11_small_8 : decode cX11_small 8 = .ok (.ifCond .eq 10, 3) := by decide +kernel
theorem dX11_small_11 : decode cX11_small 11 = .ok (.iload_n 0, 1) := by decide +kernel
theorem dX11_small_12 : decode cX11_small 12 = .ok (.bipush 32, 2) := by decide +kernel
theorem dX11_small_14 : decode cX11_small 14 = .ok (.iadd, 1) := by decide +kernel
theorem dX11_small_15 : decode cX11_small 15 = .ok (.goto 4, 3) := by decide +kernel
theorem dX11_small_18 : decode cX11_small 18 = .ok (.iload_n 0, 1) := by decide +kernel
theorem dX11_small_19 : decode cX11_small 19 = .ok (.ireturn, 1) := by decide +kernel
theorem dX11_isLetter_0 : decode cX11_isLetter 0 = .ok (.iload_n 0, 1) := by decide +kernel
theorem dX11_isLetter_1 : decode cX11_isLetter 1 = .ok (.bipush 97, 2) := by decide +kernel
theorem dX11_isLetter_3 : decode cX11_isLetter 3 = .ok (.bipush 122, 2) := by decide +kernel
theorem dX11_isLetter_5 : decode cX11_isLetter 5 = .ok (.invokestatic 91, 3) := by decide +kernel
theorem dX11_isLetter_8 : decode cX11_isLetter 8 = .ok (.ireturn, 1) := by decide +kernel
theorem dX11_isMark_0 : decode cX11_isMark 0 = .ok (.iload_n 0, 1) := by decide +kernel
theorem dX11_isMark_1 : decode cX11_isMark 1 = .ok (.bipush 33, 2) := by decide +kernel
theorem dX11_isMark_3 : decode cX11_isMark 3 = .ok (.bipush 126, 2) := by decide +kernel
theorem dX11_isMark_5 : decode cX11_isMark 5 = .ok (.invokestatic 91, 3) := by decide +kernel
theorem dX11_isMark_8 : decode cX11_isMark 8 = .ok (.ifCond .eq 26, 3) := by decide +kernel
theorem dX11_isMark_11 : decode cX11_isMark 11 = .ok (.iload_n 0, 1) := by decide +kernel
theorem dX11_isMark_12 : decode cX11_isMark 12 = .ok (.invokestatic 106, 3) := by decide +kernel
theorem dX11_isMark_15 : decode cX11_isMark 15 = .ok (.ifCond .ne 19, 3) := by decide +kernel
theorem dX11_isMark_18 : decode cX11_isMark 18 = .ok (.iload_n 0, 1) := by decide +kernel
theorem dX11_isMark_19 : decode cX11_isMark 19 = .ok (.bipush 91, 2) := by decide +kernel
theorem dX11_isMark_21 : decode cX11_isMark 21 = .ok (.if_icmp .eq 13, 3) := by decide +kernel
theorem dX11_isMark_24 : decode cX11_isMark 24 = .ok (.iload_n 0, 1) := by decide +kernel
theorem dX11_isMark_25 : decode cX11_isMark 25 = .ok (.bipush 93, 2) := by decide +kernel
theorem dX11_isMark_27 : decode cX11_isMark 27 = .ok (.if_icmp .eq 7, 3) := by decide +kernel
theorem dX11_isMark_30 : decode cX11_isMark 30 = .ok (.iconst 1, 1) := by decide +kernel
theorem dX11_isMark_31 : decode cX11_isMark 31 = .ok (.goto 4, 3) := by decide +kernel
theorem dX11_isMark_34 : decode cX11_isMark 34 = .ok (.iconst 0, 1) := by decide +kernel
theorem dX11_isMark_35 : decode cX11_isMark 35 = .ok (.ireturn, 1) := by decide +kernel
theorem dX11_read_0 : decode cX11_read 0 = .ok (.iconst 0, 1) := by decide +kernel
theorem dX11_read_1 : decode cX11_read 1 = .ok (.istore_n 3, 1) := by decide +kernel
theorem dX11_read_2 : decode cX11_read 2 = .ok (.aload_n 0, 1) := by decide +kernel
theorem dX11_read_3 : decode cX11_read 3 = .ok (.getfield 35, 3) := by decide +kernel
theorem dX11_read_6 : decode cX11_read 6 = .ok (.iload_n 1, 1) := by decide +kernel
theorem dX11_read_7 : decode cX11_read 7 = .ok (.aload_n 0, 1) := by decide +kernel
theorem dX11_read_8 : decode cX11_read 8 = .ok (.getfield 13, 3) := by decide +kernel
theorem dX11_read_11 : decode cX11_read 11 = .ok (.iload_n 2, 1) := by decide +kernel
theorem dX11_read_12 : decode cX11_read 12 = .ok (.iaload, 1) := by decide +kernel
theorem dX11_read_13 : decode cX11_read 13 = .ok (.iastore, 1) := by decide +kernel
theorem dX11_read_14 : decode cX11_read 14 = .ok (.aload_n 0, 1) := by decide +kernel
theorem dX11_read_15 : decode cX11_read 15 = .ok (.getfield 41, 3) := by decide +kernel
theorem dX11_read_18 : decode cX11_read 18 = .ok (.iload_n 1, 1) := by decide +kernel
theorem dX11_read_19 : decode cX11_read 19 = .ok (.iconst 0, 1) := by decide +kernel
theorem dX11_read_20 : decode cX11_read 20 = .ok (.iastore, 1) := by decide +kernel
theorem dX11_read_21 : decode cX11_read 21 = .ok (.aload_n 0, 1) := by decide +kernel
theorem dX11_read_22 : decode cX11_read 22 = .ok (.getfield 44, 3) := by decide +kernel
theorem dX11_read_25 : decode cX11_read 25 = .ok (.iload_n 1, 1) := by decide +kernel
theorem dX11_read_26 : decode cX11_read 26 = .ok (.iconst 0, 1) := by decide +kernel
theorem dX11_read_27 : decode cX11_read 27 = .ok (.iastore, 1) := by decide +kernel
theorem dX11_read_28 : decode cX11_read 28 = .ok (.aload_n 0, 1) := by decide +kernel
theorem dX11_read_29 : decode cX11_read 29 = .ok (.getfield 47, 3) := by decide +kernel
theorem dX11_read_32 : decode cX11_read 32 = .ok (.iload_n 1, 1) := by decide +kernel
theorem dX11_read_33 : decode cX11_read 33 = .ok (.iconst 0, 1) := by decide +kernel
theorem dX11_read_34 : decode cX11_read 34 = .ok (.iastore, 1) := by decide +kernel
theorem dX11_read_35 : decode cX11_read 35 = .ok (.iconst 0, 1) := by decide +kernel
theorem dX11_read_36 : decode cX11_read 36 = .ok (.istore 4, 2) := by decide +kernel
theorem dX11_read_38 : decode cX11_read 38 = .ok (.iconst 0, 1) := by decide +kernel
theorem dX11_read_39 : decode cX11_read 39 = .ok (.istore 5, 2) := by decide +kernel
theorem dX11_read_41 : decode cX11_read 41 = .ok (.iload 5, 2) := by decide +kernel
theorem dX11_read_43 : decode cX11_read 43 = .ok (.aload_n 0, 1) := by decide +kernel
theorem dX11_read_44 : decode cX11_read 44 = .ok (.getfield 13, 3) := by decide +kernel
theorem dX11_read_47 : decode cX11_read 47 = .ok (.iload_n 2, 1) := by decide +kernel
theorem dX11_read_48 : decode cX11_read 48 = .ok (.iaload, 1) := by decide +kernel
theorem dX11_read_49 : decode cX11_read 49 = .ok (.if_icmp .ge 273, 3) := by decide +kernel
theorem dX11_read_52 : decode cX11_read 52 = .ok (.aload_n 0, 1) := by decide +kernel
theorem dX11_read_53 : decode cX11_read 53 = .ok (.getfield 16, 3) := by decide +kernel
theorem dX11_read_56 : decode cX11_read 56 = .ok (.sipush 200, 3) := by decide +kernel
theorem dX11_read_59 : decode cX11_read 59 = .ok (.iload_n 2, 1) := by decide +kernel
theorem dX11_read_60 : decode cX11_read 60 = .ok (.imul, 1) := by decide +kernel
theorem dX11_read_61 : decode cX11_read 61 = .ok (.iload 5, 2) := by decide +kernel
theorem dX11_read_63 : decode cX11_read 63 = .ok (.iadd, 1) := by decide +kernel
theorem dX11_read_64 : decode cX11_read 64 = .ok (.iaload, 1) := by decide +kernel
theorem dX11_read_65 : decode cX11_read 65 = .ok (.invokestatic 109, 3) := by decide +kernel
theorem dX11_read_68 : decode cX11_read 68 = .ok (.istore 6, 2) := by decide +kernel
theorem dX11_read_70 : decode cX11_read 70 = .ok (.iload_n 3, 1) := by decide +kernel
theorem dX11_read_71 : decode cX11_read 71 = .ok (.ifCond .ne 14, 3) := by decide +kernel
theorem dX11_read_74 : decode cX11_read 74 = .ok (.iload 6, 2) := by decide +kernel
theorem dX11_read_76 : decode cX11_read 76 = .ok (.bipush 91, 2) := by decide +kernel
theorem dX11_read_78 : decode cX11_read 78 = .ok (.if_icmp .ne 7, 3) := by decide +kernel
theorem dX11_read_81 : decode cX11_read 81 = .ok (.iconst 1, 1) := by decide +kernel
theorem dX11_read_82 : decode cX11_read 82 = .ok (.goto 4, 3) := by decide +kernel
theorem dX11_read_85 : decode cX11_read 85 = .ok (.iconst 0, 1) := by decide +kernel
theorem dX11_read_86 : decode cX11_read 86 = .ok (.istore 7, 2) := by decide +kernel
theorem dX11_read_88 : decode cX11_read 88 = .ok (.aload_n 0, 1) := by decide +kernel
theorem dX11_read_89 : decode cX11_read 89 = .ok (.getfield 41, 3) := by decide +kernel
theorem dX11_read_92 : decode cX11_read 92 = .ok (.iload_n 1, 1) := by decide +kernel
theorem dX11_read_93 : decode cX11_read 93 = .ok (.dup2, 1) := by decide +kernel
theorem dX11_read_94 : decode cX11_read 94 = .ok (.iaload, 1) := by decide +kernel
theorem dX11_read_95 : decode cX11_read 95 = .ok (.iload 7, 2) := by decide +kernel
theorem dX11_read_97 : decode cX11_read 97 = .ok (.ifCond .eq 7, 3) := by decide +kernel
theorem dX11_read_100 : decode cX11_read 100 = .ok (.iconst 1, 1) := by decide +kernel
theorem dX11_read_101 : decode cX11_read 101 = .ok (.goto 4, 3) := by decide +kernel
theorem dX11_read_104 : decode cX11_read 104 = .ok (.iconst 0, 1) := by decide +kernel
theorem dX11_read_105 : decode cX11_read 105 = .ok (.iadd, 1) := by decide +kernel
theorem dX11_read_106 : decode cX11_read 106 = .ok (.iastore, 1) := by decide +kernel
theorem dX11_read_107 : decode cX11_read 107 = .ok (.iload_n 3, 1) := by decide +kernel
theorem dX11_read_108 : decode cX11_read 108 = .ok (.ifCond .ne 12, 3) := by decide +kernel
theorem dX11_read_111 : decode cX11_read 111 = .ok (.iload 7, 2) := by decide +kernel
theorem dX11_read_113 : decode cX11_read 113 = .ok (.ifCond .ne 7, 3) := by decide +kernel
theorem dX11_read_116 : decode cX11_read 116 = .ok (.iconst 1, 1) := by decide +kernel
theorem dX11_read_117 : decode cX11_read 117 = .ok (.goto 4, 3) := by decide +kernel
theorem dX11_read_120 : decode cX11_read 120 = .ok (.iconst 0, 1) := by decide +kernel
theorem dX11_read_121 : decode cX11_read 121 = .ok (.istore 8, 2) := by decide +kernel
theorem dX11_read_123 : decode cX11_read 123 = .ok (.iload 7, 2) := by decide +kernel
theorem dX11_read_125 : decode cX11_read 125 = .ok (.ifCond .ne 14, 3) := by decide +kernel
theorem dX11_read_128 : decode cX11_read 128 = .ok (.iload_n 3, 1) := by decide +kernel
theorem dX11_read_129 : decode cX11_read 129 = .ok (.ifCond .eq 14, 3) := by decide +kernel
theorem dX11_read_132 : decode cX11_read 132 = .ok (.iload 6, 2) := by decide +kernel
theorem dX11_read_134 : decode cX11_read 134 = .ok (.bipush 93, 2) := by decide +kernel
theorem dX11_read_136 : decode cX11_read 136 = .ok (.if_icmp .eq 7, 3) := by decide +kernel
theorem dX11_read_139 : decode cX11_read 139 = .ok (.iconst 1, 1) := by decide +kernel
theorem dX11_read_140 : decode cX11_read 140 = .ok (.goto 4, 3) := by decide +kernel
theorem dX11_read_143 : decode cX11_read 143 = .ok (.iconst 0, 1) := by decide +kernel
theorem dX11_read_144 : decode cX11_read 144 = .ok (.istore_n 3, 1) := by decide +kernel
theorem dX11_read_145 : decode cX11_read 145 = .ok (.iload 8, 2) := by decide +kernel
theorem dX11_read_147 : decode cX11_read 147 = .ok (.ifCond .eq 8, 3) := by decide +kernel
theorem dX11_read_150 : decode cX11_read 150 = .ok (.iload 6, 2) := by decide +kernel
theorem dX11_read_152 : decode cX11_read 152 = .ok (.goto 5, 3) := by decide +kernel
theorem dX11_read_155 : decode cX11_read 155 = .ok (.bipush 32, 2) := by decide +kernel
theorem dX11_read_157 : decode cX11_read 157 = .ok (.istore 9, 2) := by decide +kernel
theorem dX11_read_159 : decode cX11_read 159 = .ok (.aload_n 0, 1) := by decide +kernel
theorem dX11_read_160 : decode cX11_read 160 = .ok (.getfield 38, 3) := by decide +kernel
theorem dX11_read_163 : decode cX11_read 163 = .ok (.sipush 200, 3) := by decide +kernel
theorem dX11_read_166 : decode cX11_read 166 = .ok (.iload_n 1, 1) := by decide +kernel
theorem dX11_read_167 : decode cX11_read 167 = .ok (.imul, 1) := by decide +kernel
theorem dX11_read_168 : decode cX11_read 168 = .ok (.iload 5, 2) := by decide +kernel
theorem dX11_read_170 : decode cX11_read 170 = .ok (.iadd, 1) := by decide +kernel
theorem dX11_read_171 : decode cX11_read 171 = .ok (.iload 9, 2) := by decide +kernel
theorem dX11_read_173 : decode cX11_read 173 = .ok (.iastore, 1) := by decide +kernel
theorem dX11_read_174 : decode cX11_read 174 = .ok (.aload_n 0, 1) := by decide +kernel
theorem dX11_read_175 : decode cX11_read 175 = .ok (.getfield 44, 3) := by decide +kernel
theorem dX11_read_178 : decode cX11_read 178 = .ok (.iload_n 1, 1) := by decide +kernel
theorem dX11_read_179 : decode cX11_read 179 = .ok (.dup2, 1) := by decide +kernel
theorem dX11_read_180 : decode cX11_read 180 = .ok (.iaload, 1) := by decide +kernel
theorem dX11_read_181 : decode cX11_read 181 = .ok (.iload 9, 2) := by decide +kernel
theorem dX11_read_183 : decode cX11_read 183 = .ok (.invokestatic 106, 3) := by decide +kernel
theorem dX11_read_186 : decode cX11_read 186 = .ok (.ifCond .ne 11, 3) := by decide +kernel
theorem dX11_read_189 : decode cX11_read 189 = .ok (.iload 9, 2) := by decide +kernel
theorem dX11_read_191 : decode cX11_read 191 = .ok (.invokestatic 112, 3) := by decide +kernel
theorem dX11_read_194 : decode cX11_read 194 = .ok (.ifCond .eq 7, 3) := by decide +kernel
theorem dX11_read_197 : decode cX11_read 197 = .ok (.iconst 1, 1) := by decide +kernel
theorem dX11_read_198 : decode cX11_read 198 = .ok (.goto 4, 3) := by decide +kernel
theorem dX11_read_201 : decode cX11_read 201 = .ok (.iconst 0, 1) := by decide +kernel
theorem dX11_read_202 : decode cX11_read 202 = .ok (.iadd, 1) := by decide +kernel
theorem dX11_read_203 : decode cX11_read 203 = .ok (.iastore, 1) := by decide +kernel
theorem dX11_read_204 : decode cX11_read 204 = .ok (.iload 9, 2) := by decide +kernel
theorem dX11_read_206 : decode cX11_read 206 = .ok (.invokestatic 106, 3) := by decide +kernel
theorem dX11_read_209 : decode cX11_read 209 = .ok (.ifCond .eq 53, 3) := by decide +kernel
theorem dX11_read_212 : decode cX11_read 212 = .ok (.iload 4, 2) := by decide +kernel
theorem dX11_read_214 : decode cX11_read 214 = .ok (.ifCond .ne 48, 3) := by decide +kernel
theorem dX11_read_217 : decode cX11_read 217 = .ok (.aload_n 0, 1) := by decide +kernel
theorem dX11_read_218 : decode cX11_read 218 = .ok (.getfield 50, 3) := by decide +kernel
theorem dX11_read_221 : decode cX11_read 221 = .ok (.bipush 100, 2) := by decide +kernel
theorem dX11_read_223 : decode cX11_read 223 = .ok (.iload_n 1, 1) := by decide +kernel
theorem dX11_read_224 : decode cX11_read 224 = .ok (.imul, 1) := by decide +kernel
theorem dX11_read_225 : decode cX11_read 225 = .ok (.aload_n 0, 1) := by decide +kernel
theorem dX11_read_226 : decode cX11_read 226 = .ok (.getfield 47, 3) := by decide +kernel
theorem dX11_read_229 : decode cX11_read 229 = .ok (.iload_n 1, 1) := by decide +kernel
theorem dX11_read_230 : decode cX11_read 230 = .ok (.iaload, 1) := by decide +kernel
theorem dX11_read_231 : decode cX11_read 231 = .ok (.iadd, 1) := by decide +kernel
theorem dX11_read_232 : decode cX11_read 232 = .ok (.iload 5, 2) := by decide +kernel
theorem dX11_read_234 : decode cX11_read 234 = .ok (.iastore, 1) := by decide +kernel
theorem dX11_read_235 : decode cX11_read 235 = .ok (.aload_n 0, 1) := by decide +kernel
theorem dX11_read_236 : decode cX11_read 236 = .ok (.getfield 53, 3) := by decide +kernel
theorem dX11_read_239 : decode cX11_read 239 = .ok (.bipush 100, 2) := by decide +kernel
theorem dX11_read_241 : decode cX11_read 241 = .ok (.iload_n 1, 1) := by decide +kernel
theorem dX11_read_242 : decode cX11_read 242 = .ok (.imul, 1) := by decide +kernel
theorem dX11_read_243 : decode cX11_read 243 = .ok (.aload_n 0, 1) := by decide +kernel
theorem dX11_read_244 : decode cX11_read 244 = .ok (.getfield 47, 3) := by decide +kernel
theorem dX11_read_247 : decode cX11_read 247 = .ok (.iload_n 1, 1) := by decide +kernel
theorem dX11_read_248 : decode cX11_read 248 = .ok (.iaload, 1) := by decide +kernel
theorem dX11_read_249 : decode cX11_read 249 = .ok (.iadd, 1) := by decide +kernel
theorem dX11_read_250 : decode cX11_read 250 = .ok (.iconst 0, 1) := by decide +kernel
theorem dX11_read_251 : decode cX11_read 251 = .ok (.iastore, 1) := by decide +kernel
theorem dX11_read_252 : decode cX11_read 252 = .ok (.aload_n 0, 1) := by decide +kernel
theorem dX11_read_253 : decode cX11_read 253 = .ok (.getfield 47, 3) := by decide +kernel
theorem dX11_read_256 : decode cX11_read 256 = .ok (.iload_n 1, 1) := by decide +kernel
theorem dX11_read_257 : decode cX11_read 257 = .ok (.dup2, 1) := by decide +kernel
theorem dX11_read_258 : decode cX11_read 258 = .ok (.iaload, 1) := by decide +kernel
theorem dX11_read_259 : decode cX11_read 259 = .ok (.iconst 1, 1) := by decide +kernel
theorem dX11_read_260 : decode cX11_read 260 = .ok (.iadd, 1) := by decide +kernel
theorem dX11_read_261 : decode cX11_read 261 = .ok (.iastore, 1) := by decide +kernel
theorem dX11_read_262 : decode cX11_read 262 = .ok (.aload_n 0, 1) := by decide +kernel
theorem dX11_read_263 : decode cX11_read 263 = .ok (.getfield 53, 3) := by decide +kernel
theorem dX11_read_266 : decode cX11_read 266 = .ok (.bipush 100, 2) := by decide +kernel
theorem dX11_read_268 : decode cX11_read 268 = .ok (.iload_n 1, 1) := by decide +kernel
theorem dX11_read_269 : decode cX11_read 269 = .ok (.imul, 1) := by decide +kernel
theorem dX11_read_270 : decode cX11_read 270 = .ok (.aload_n 0, 1) := by decide +kernel
theorem dX11_read_271 : decode cX11_read 271 = .ok (.getfield 47, 3) := by decide +kernel
theorem dX11_read_274 : decode cX11_read 274 = .ok (.iload_n 1, 1) := by decide +kernel
theorem dX11_read_275 : decode cX11_read 275 = .ok (.iaload, 1) := by decide +kernel
theorem dX11_read_276 : decode cX11_read 276 = .ok (.ifCond .ne 7, 3) := by decide +kernel
theorem dX11_read_279 : decode cX11_read 279 = .ok (.iconst 0, 1) := by decide +kernel
theorem dX11_read_280 : decode cX11_read 280 = .ok (.goto 11, 3) := by decide +kernel
theorem dX11_read_283 : decode cX11_read 283 = .ok (.aload_n 0, 1) := by decide +kernel
theorem dX11_read_284 : decode cX11_read 284 = .ok (.getfield 47, 3) := by decide +kernel
theorem dX11_read_287 : decode cX11_read 287 = .ok (.iload_n 1, 1) := by decide +kernel
theorem dX11_read_288 : decode cX11_read 288 = .ok (.iaload, 1) := by decide +kernel
theorem dX11_read_289 : decode cX11_read 289 = .ok (.iconst 1, 1) := by decide +kernel
theorem dX11_read_290 : decode cX11_read 290 = .ok (.isub, 1) := by decide +kernel
theorem dX11_read_291 : decode cX11_read 291 = .ok (.iadd, 1) := by decide +kernel
theorem dX11_read_292 : decode cX11_read 292 = .ok (.dup2, 1) := by decide +kernel
theorem dX11_read_293 : decode cX11_read 293 = .ok (.iaload, 1) := by decide +kernel
theorem dX11_read_294 : decode cX11_read 294 = .ok (.iload 9, 2) := by decide +kernel
theorem dX11_read_296 : decode cX11_read 296 = .ok (.invokestatic 106, 3) := by decide +kernel
theorem dX11_read_299 : decode cX11_read 299 = .ok (.ifCond .eq 7, 3) := by decide +kernel
theorem dX11_read_302 : decode cX11_read 302 = .ok (.iconst 1, 1) := by decide +kernel
theorem dX11_read_303 : decode cX11_read 303 = .ok (.goto 4, 3) := by decide +kernel
theorem dX11_read_306 : decode cX11_read 306 = .ok (.iconst 0, 1) := by decide +kernel
theorem dX11_read_307 : decode cX11_read 307 = .ok (.iadd, 1) := by decide +kernel
theorem dX11_read_308 : decode cX11_read 308 = .ok (.iastore, 1) := by decide +kernel
theorem dX11_read_309 : decode cX11_read 309 = .ok (.iload 9, 2) := by decide +kernel
theorem dX11_read_311 : decode cX11_read 311 = .ok (.invokestatic 106, 3) := by decide +kernel
theorem dX11_read_314 : decode cX11_read 314 = .ok (.istore 4, 2) := by decide +kernel
theorem dX11_read_316 : decode cX11_read 316 = .ok (.iinc 5 1, 3) := by decide +kernel
theorem dX11_read_319 : decode cX11_read 319 = .ok (.goto (-278), 3) := by decide +kernel
theorem dX11_read_322 : decode cX11_read 322 = .ok (.return_, 1) := by decide +kernel
theorem dX11_text_0 : decode cX11_text 0 = .ok (.iload_n 1, 1) := by decide +kernel
theorem dX11_text_1 : decode cX11_text 1 = .ok (.iconst 0, 1) := by decide +kernel
theorem dX11_text_2 : decode cX11_text 2 = .ok (.iconst 3, 1) := by decide +kernel
theorem dX11_text_3 : decode cX11_text 3 = .ok (.invokestatic 91, 3) := by decide +kernel
theorem dX11_text_6 : decode cX11_text 6 = .ok (.ifCond .eq 45, 3) := by decide +kernel
theorem dX11_text_9 : decode cX11_text 9 = .ok (.iload_n 2, 1) := by decide +kernel
theorem dX11_text_10 : decode cX11_text 10 = .ok (.invokestatic 95, 3) := by decide +kernel
theorem dX11_text_13 : decode cX11_text 13 = .ok (.ifCond .eq 38, 3) := by decide +kernel
theorem dX11_text_16 : decode cX11_text 16 = .ok (.iload_n 1, 1) := by decide +kernel
theorem dX11_text_17 : decode cX11_text 17 = .ok (.iconst 1, 1) := by decide +kernel
theorem dX11_text_18 : decode cX11_text 18 = .ok (.iconst 2, 1) := by decide +kernel
theorem dX11_text_19 : decode cX11_text 19 = .ok (.invokestatic 91, 3) := by decide +kernel
theorem dX11_text_22 : decode cX11_text 22 = .ok (.ifCond .eq 12, 3) := by decide +kernel
theorem dX11_text_25 : decode cX11_text 25 = .ok (.iload_n 3, 1) := by decide +kernel
theorem dX11_text_26 : decode cX11_text 26 = .ok (.iconst 0, 1) := by decide +kernel
theorem dX11_text_27 : decode cX11_text 27 = .ok (.iconst 5, 1) := by decide +kernel
theorem dX11_text_28 : decode cX11_text 28 = .ok (.invokestatic 91, 3) := by decide +kernel
theorem dX11_text_31 : decode cX11_text 31 = .ok (.ifCond .eq 20, 3) := by decide +kernel
theorem dX11_text_34 : decode cX11_text 34 = .ok (.iload_n 1, 1) := by decide +kernel
theorem dX11_text_35 : decode cX11_text 35 = .ok (.iconst 2, 1) := by decide +kernel
theorem dX11_text_36 : decode cX11_text 36 = .ok (.if_icmp .ne 17, 3) := by decide +kernel
theorem dX11_text_39 : decode cX11_text 39 = .ok (.iload 4, 2) := by decide +kernel
theorem dX11_text_41 : decode cX11_text 41 = .ok (.iconst 0, 1) := by decide +kernel
theorem dX11_text_42 : decode cX11_text 42 = .ok (.sipush 9999, 3) := by decide +kernel
theorem dX11_text_45 : decode cX11_text 45 = .ok (.invokestatic 91, 3) := by decide +kernel
theorem dX11_text_48 : decode cX11_text 48 = .ok (.ifCond .ne 5, 3) := by decide +kernel
theorem dX11_text_51 : decode cX11_text 51 = .ok (.iconst (-1), 1) := by decide +kernel
theorem dX11_text_52 : decode cX11_text 52 = .ok (.ireturn, 1) := by decide +kernel
theorem dX11_text_53 : decode cX11_text 53 = .ok (.aload_n 0, 1) := by decide +kernel
theorem dX11_text_54 : decode cX11_text 54 = .ok (.getfield 115, 3) := by decide +kernel
theorem dX11_text_57 : decode cX11_text 57 = .ok (.bipush 14, 2) := by decide +kernel
theorem dX11_text_59 : decode cX11_text 59 = .ok (.if_icmp .ne 6, 3) := by decide +kernel
theorem dX11_text_62 : decode cX11_text 62 = .ok (.bipush (-2), 2) := by decide +kernel
theorem dX11_text_64 : decode cX11_text 64 = .ok (.ireturn, 1) := by decide +kernel
theorem dX11_text_65 : decode cX11_text 65 = .ok (.aload_n 0, 1) := by decide +kernel
theorem dX11_text_66 : decode cX11_text 66 = .ok (.getfield 13, 3) := by decide +kernel
theorem dX11_text_69 : decode cX11_text 69 = .ok (.iload_n 2, 1) := by decide +kernel
theorem dX11_text_70 : decode cX11_text 70 = .ok (.iaload, 1) := by decide +kernel
theorem dX11_text_71 : decode cX11_text 71 = .ok (.ifCond .ge 9, 3) := by decide +kernel
theorem dX11_text_74 : decode cX11_text 74 = .ok (.aload_n 0, 1) := by decide +kernel
theorem dX11_text_75 : decode cX11_text 75 = .ok (.iconst 1, 1) := by decide +kernel
theorem dX11_text_76 : decode cX11_text 76 = .ok (.invokevirtual 99, 3) := by decide +kernel
theorem dX11_text_79 : decode cX11_text 79 = .ok (.ireturn, 1) := by decide +kernel
theorem dX11_text_80 : decode cX11_text 80 = .ok (.aload_n 0, 1) := by decide +kernel
theorem dX11_text_81 : decode cX11_text 81 = .ok (.aload_n 0, 1) := by decide +kernel
theorem dX11_text_82 : decode cX11_text 82 = .ok (.getfield 115, 3) := by decide +kernel
theorem dX11_text_85 : decode cX11_text 85 = .ok (.iload_n 2, 1) := by decide +kernel
theorem dX11_text_86 : decode cX11_text 86 = .ok (.invokevirtual 118, 3) := by decide +kernel
theorem dX11_text_89 : decode cX11_text 89 = .ok (.aload_n 0, 1) := by decide +kernel
theorem dX11_text_90 : decode cX11_text 90 = .ok (.getfield 22, 3) := by decide +kernel
theorem dX11_text_93 : decode cX11_text 93 = .ok (.aload_n 0, 1) := by decide +kernel
theorem dX11_text_94 : decode cX11_text 94 = .ok (.getfield 115, 3) := by decide +kernel
theorem dX11_text_97 : decode cX11_text 97 = .ok (.iload_n 1, 1) := by decide +kernel
theorem dX11_text_98 : decode cX11_text 98 = .ok (.iastore, 1) := by decide +kernel
theorem dX11_text_99 : decode cX11_text 99 = .ok (.aload_n 0, 1) := by decide +kernel
theorem dX11_text_100 : decode cX11_text 100 = .ok (.getfield 25, 3) := by decide +kernel
theorem dX11_text_103 : decode cX11_text 103 = .ok (.aload_n 0, 1) := by decide +kernel
theorem dX11_text_104 : decode cX11_text 104 = .ok (.getfield 115, 3) := by decide +kernel
theorem dX11_text_107 : decode cX11_text 107 = .ok (.iload_n 1, 1) := by decide +kernel
theorem dX11_text_108 : decode cX11_text 108 = .ok (.iconst 1, 1) := by decide +kernel
theorem dX11_text_109 : decode cX11_text 109 = .ok (.iconst 2, 1) := by decide +kernel
theorem dX11_text_110 : decode cX11_text 110 = .ok (.invokestatic 91, 3) := by decide +kernel
theorem dX11_text_113 : decode cX11_text 113 = .ok (.ifCond .eq 7, 3) := by decide +kernel
theorem dX11_text_116 : decode cX11_text 116 = .ok (.iload_n 3, 1) := by decide +kernel
theorem dX11_text_117 : decode cX11_text 117 = .ok (.goto 5, 3) := by decide +kernel
theorem dX11_text_120 : decode cX11_text 120 = .ok (.bipush (-9), 2) := by decide +kernel
theorem dX11_text_122 : decode cX11_text 122 = .ok (.iastore, 1) := by decide +kernel
theorem dX11_text_123 : decode cX11_text 123 = .ok (.aload_n 0, 1) := by decide +kernel
theorem dX11_text_124 : decode cX11_text 124 = .ok (.getfield 28, 3) := by decide +kernel
theorem dX11_text_127 : decode cX11_text 127 = .ok (.aload_n 0, 1) := by decide +kernel
theorem dX11_text_128 : decode cX11_text 128 = .ok (.getfield 115, 3) := by decide +kernel
theorem dX11_text_131 : decode cX11_text 131 = .ok (.iload 4, 2) := by decide +kernel
theorem dX11_text_133 : decode cX11_text 133 = .ok (.iastore, 1) := by decide +kernel
theorem dX11_text_134 : decode cX11_text 134 = .ok (.aload_n 0, 1) := by decide +kernel
theorem dX11_text_135 : decode cX11_text 135 = .ok (.dup, 1) := by decide +kernel
theorem dX11_text_136 : decode cX11_text 136 = .ok (.getfield 115, 3) := by decide +kernel
theorem dX11_text_139 : decode cX11_text 139 = .ok (.iconst 1, 1) := by decide +kernel
theorem dX11_text_140 : decode cX11_text 140 = .ok (.iadd, 1) := by decide +kernel
theorem dX11_text_141 : decode cX11_text 141 = .ok (.putfield 115, 3) := by decide +kernel
theorem dX11_text_144 : decode cX11_text 144 = .ok (.aload_n 0, 1) := by decide +kernel
theorem dX11_text_145 : decode cX11_text 145 = .ok (.getfield 115, 3) := by decide +kernel
theorem dX11_text_148 : decode cX11_text 148 = .ok (.iconst 1, 1) := by decide +kernel
theorem dX11_text_149 : decode cX11_text 149 = .ok (.isub, 1) := by decide +kernel
theorem dX11_text_150 : decode cX11_text 150 = .ok (.ireturn, 1) := by decide +kernel
theorem dX11_isText_0 : decode cX11_isText 0 = .ok (.iload_n 1, 1) := by decide +kernel
theorem dX11_isText_1 : decode cX11_isText 1 = .ok (.iconst 0, 1) := by decide +kernel
theorem dX11_isText_2 : decode cX11_isText 2 = .ok (.aload_n 0, 1) := by decide +kernel
theorem dX11_isText_3 : decode cX11_isText 3 = .ok (.getfield 115, 3) := by decide +kernel
theorem dX11_isText_6 : decode cX11_isText 6 = .ok (.iconst 1, 1) := by decide +kernel
theorem dX11_isText_7 : decode cX11_isText 7 = .ok (.isub, 1) := by decide +kernel
theorem dX11_isText_8 : decode cX11_isText 8 = .ok (.invokestatic 91, 3) := by decide +kernel
theorem dX11_isText_11 : decode cX11_isText 11 = .ok (.ireturn, 1) := by decide +kernel
theorem dX11_tells_0 : decode cX11_tells 0 = .ok (.iload_n 2, 1) := by decide +kernel
theorem dX11_tells_1 : decode cX11_tells 1 = .ok (.ifCond .ne 12, 3) := by decide +kernel
theorem dX11_tells_4 : decode cX11_tells 4 = .ok (.aload_n 0, 1) := by decide +kernel
theorem dX11_tells_5 : decode cX11_tells 5 = .ok (.getfield 22, 3) := by decide +kernel
theorem dX11_tells_8 : decode cX11_tells 8 = .ok (.iload_n 1, 1) := by decide +kernel
theorem dX11_tells_9 : decode cX11_tells 9 = .ok (.iaload, 1) := by decide +kernel
theorem dX11_tells_10 : decode cX11_tells 10 = .ok (.goto 51, 3) := by decide +kernel
theorem dX11_tells_13 : decode cX11_tells 13 = .ok (.iload_n 2, 1) := by decide +kernel
theorem dX11_tells_14 : decode cX11_tells 14 = .ok (.iconst 1, 1) := by decide +kernel
theorem dX11_tells_15 : decode cX11_tells 15 = .ok (.if_icmp .ne 12, 3) := by decide +kernel
theorem dX11_tells_18 : decode cX11_tells 18 = .ok (.aload_n 0, 1) := by decide +kernel
theorem dX11_tells_19 : decode cX11_tells 19 = .ok (.getfield 25, 3) := by decide +kernel
theorem dX11_tells_22 : decode cX11_tells 22 = .ok (.iload_n 1, 1) := by decide +kernel
theorem dX11_tells_23 : decode cX11_tells 23 = .ok (.iaload, 1) := by decide +kernel
theorem dX11_tells_24 : decode cX11_tells 24 = .ok (.goto 37, 3) := by decide +kernel
theorem dX11_tells_27 : decode cX11_tells 27 = .ok (.iload_n 2, 1) := by decide +kernel
theorem dX11_tells_28 : decode cX11_tells 28 = .ok (.iconst 2, 1) := by decide +kernel
theorem dX11_tells_29 : decode cX11_tells 29 = .ok (.if_icmp .ne 12, 3) := by decide +kernel
theorem dX11_tells_32 : decode cX11_tells 32 = .ok (.aload_n 0, 1) := by decide +kernel
theorem dX11_tells_33 : decode cX11_tells 33 = .ok (.getfield 47, 3) := by decide +kernel
theorem dX11_tells_36 : decode cX11_tells 36 = .ok (.iload_n 1, 1) := by decide +kernel
theorem dX11_tells_37 : decode cX11_tells 37 = .ok (.iaload, 1) := by decide +kernel
theorem dX11_tells_38 : decode cX11_tells 38 = .ok (.goto 23, 3) := by decide +kernel
theorem dX11_tells_41 : decode cX11_tells 41 = .ok (.iload_n 2, 1) := by decide +kernel
theorem dX11_tells_42 : decode cX11_tells 42 = .ok (.iconst 3, 1) := by decide +kernel
theorem dX11_tells_43 : decode cX11_tells 43 = .ok (.if_icmp .ne 12, 3) := by decide +kernel
theorem dX11_tells_46 : decode cX11_tells 46 = .ok (.aload_n 0, 1) := by decide +kernel
theorem dX11_tells_47 : decode cX11_tells 47 = .ok (.getfield 44, 3) := by decide +kernel
theorem dX11_tells_50 : decode cX11_tells 50 = .ok (.iload_n 1, 1) := by decide +kernel
theorem dX11_tells_51 : decode cX11_tells 51 = .ok (.iaload, 1) := by decide +kernel
theorem dX11_tells_52 : decode cX11_tells 52 = .ok (.goto 9, 3) := by decide +kernel
theorem dX11_tells_55 : decode cX11_tells 55 = .ok (.aload_n 0, 1) := by decide +kernel
theorem dX11_tells_56 : decode cX11_tells 56 = .ok (.getfield 41, 3) := by decide +kernel
theorem dX11_tells_59 : decode cX11_tells 59 = .ok (.iload_n 1, 1) := by decide +kernel
theorem dX11_tells_60 : decode cX11_tells 60 = .ok (.iaload, 1) := by decide +kernel
theorem dX11_tells_61 : decode cX11_tells 61 = .ok (.ireturn, 1) := by decide +kernel
theorem dX11_told_0 : decode cX11_told 0 = .ok (.aload_n 0, 1) := by decide +kernel
theorem dX11_told_1 : decode cX11_told 1 = .ok (.iload_n 1, 1) := by decide +kernel
theorem dX11_told_2 : decode cX11_told 2 = .ok (.invokevirtual 122, 3) := by decide +kernel
theorem dX11_told_5 : decode cX11_told 5 = .ok (.ifCond .eq 12, 3) := by decide +kernel
theorem dX11_told_8 : decode cX11_told 8 = .ok (.iload_n 2, 1) := by decide +kernel
theorem dX11_told_9 : decode cX11_told 9 = .ok (.iconst 0, 1) := by decide +kernel
theorem dX11_told_10 : decode cX11_told 10 = .ok (.iconst 4, 1) := by decide +kernel
theorem dX11_told_11 : decode cX11_told 11 = .ok (.invokestatic 91, 3) := by decide +kernel
theorem dX11_told_14 : decode cX11_told 14 = .ok (.ifCond .ne 5, 3) := by decide +kernel
theorem dX11_told_17 : decode cX11_told 17 = .ok (.iconst (-1), 1) := by decide +kernel
theorem dX11_told_18 : decode cX11_told 18 = .ok (.ireturn, 1) := by decide +kernel
theorem dX11_told_19 : decode cX11_told 19 = .ok (.aload_n 0, 1) := by decide +kernel
theorem dX11_told_20 : decode cX11_told 20 = .ok (.getfield 31, 3) := by decide +kernel
theorem dX11_told_23 : decode cX11_told 23 = .ok (.iload_n 1, 1) := by decide +kernel
theorem dX11_told_24 : decode cX11_told 24 = .ok (.baload, 1) := by decide +kernel
theorem dX11_told_25 : decode cX11_told 25 = .ok (.ifCond .eq 11, 3) := by decide +kernel
theorem dX11_told_28 : decode cX11_told 28 = .ok (.aload_n 0, 1) := by decide +kernel
theorem dX11_told_29 : decode cX11_told 29 = .ok (.iconst 1, 1) := by decide +kernel
theorem dX11_told_30 : decode cX11_told 30 = .ok (.invokevirtual 99, 3) := by decide +kernel
theorem dX11_told_33 : decode cX11_told 33 = .ok (.goto 9, 3) := by decide +kernel
theorem dX11_told_36 : decode cX11_told 36 = .ok (.aload_n 0, 1) := by decide +kernel
theorem dX11_told_37 : decode cX11_told 37 = .ok (.iload_n 1, 1) := by decide +kernel
theorem dX11_told_38 : decode cX11_told 38 = .ok (.iload_n 2, 1) := by decide +kernel
theorem dX11_told_39 : decode cX11_told 39 = .ok (.invokevirtual 125, 3) := by decide +kernel
theorem dX11_told_42 : decode cX11_told 42 = .ok (.ireturn, 1) := by decide +kernel
theorem dX11_mark_0 : decode cX11_mark 0 = .ok (.aload_n 0, 1) := by decide +kernel
theorem dX11_mark_1 : decode cX11_mark 1 = .ok (.iload_n 1, 1) := by decide +kernel
theorem dX11_mark_2 : decode cX11_mark 2 = .ok (.invokevirtual 122, 3) := by decide +kernel
theorem dX11_mark_5 : decode cX11_mark 5 = .ok (.ifCond .eq 12, 3) := by decide +kernel
theorem dX11_mark_8 : decode cX11_mark 8 = .ok (.iload_n 2, 1) := by decide +kernel
theorem dX11_mark_9 : decode cX11_mark 9 = .ok (.iconst 1, 1) := by decide +kernel
theorem dX11_mark_10 : decode cX11_mark 10 = .ok (.iconst 3, 1) := by decide +kernel
theorem dX11_mark_11 : decode cX11_mark 11 = .ok (.invokestatic 91, 3) := by decide +kernel
theorem dX11_mark_14 : decode cX11_mark 14 = .ok (.ifCond .ne 5, 3) := by decide +kernel
theorem dX11_mark_17 : decode cX11_mark 17 = .ok (.iconst (-1), 1) := by decide +kernel
theorem dX11_mark_18 : decode cX11_mark 18 = .ok (.ireturn, 1) := by decide +kernel
theorem dX11_mark_19 : decode cX11_mark 19 = .ok (.aload_n 0, 1) := by decide +kernel
theorem dX11_mark_20 : decode cX11_mark 20 = .ok (.getfield 31, 3) := by decide +kernel
theorem dX11_mark_23 : decode cX11_mark 23 = .ok (.iload_n 1, 1) := by decide +kernel
theorem dX11_mark_24 : decode cX11_mark 24 = .ok (.baload, 1) := by decide +kernel
theorem dX11_mark_25 : decode cX11_mark 25 = .ok (.ifCond .eq 9, 3) := by decide +kernel
theorem dX11_mark_28 : decode cX11_mark 28 = .ok (.aload_n 0, 1) := by decide +kernel
theorem dX11_mark_29 : decode cX11_mark 29 = .ok (.iconst 1, 1) := by decide +kernel
theorem dX11_mark_30 : decode cX11_mark 30 = .ok (.invokevirtual 99, 3) := by decide +kernel
theorem dX11_mark_33 : decode cX11_mark 33 = .ok (.ireturn, 1) := by decide +kernel
theorem dX11_mark_34 : decode cX11_mark 34 = .ok (.aload_n 0, 1) := by decide +kernel
theorem dX11_mark_35 : decode cX11_mark 35 = .ok (.getfield 22, 3) := by decide +kernel
theorem dX11_mark_38 : decode cX11_mark 38 = .ok (.iload_n 1, 1) := by decide +kernel
theorem dX11_mark_39 : decode cX11_mark 39 = .ok (.iaload, 1) := by decide +kernel
theorem dX11_mark_40 : decode cX11_mark 40 = .ok (.istore_n 3, 1) := by decide +kernel
theorem dX11_mark_41 : decode cX11_mark 41 = .ok (.iload_n 2, 1) := by decide +kernel
theorem dX11_mark_42 : decode cX11_mark 42 = .ok (.iload_n 3, 1) := by decide +kernel
theorem dX11_mark_43 : decode cX11_mark 43 = .ok (.if_icmp .eq 19, 3) := by decide +kernel
theorem dX11_mark_46 : decode cX11_mark 46 = .ok (.iload_n 2, 1) := by decide +kernel
theorem dX11_mark_47 : decode cX11_mark 47 = .ok (.iconst 1, 1) := by decide +kernel
theorem dX11_mark_48 : decode cX11_mark 48 = .ok (.if_icmp .ne 8, 3) := by decide +kernel
theorem dX11_mark_51 : decode cX11_mark 51 = .ok (.iload_n 3, 1) := by decide +kernel
theorem dX11_mark_52 : decode cX11_mark 52 = .ok (.iconst 2, 1) := by decide +kernel
theorem dX11_mark_53 : decode cX11_mark 53 = .ok (.if_icmp .eq 9, 3) := by decide +kernel
theorem dX11_mark_56 : decode cX11_mark 56 = .ok (.aload_n 0, 1) := by decide +kernel
theorem dX11_mark_57 : decode cX11_mark 57 = .ok (.iconst 3, 1) := by decide +kernel
theorem dX11_mark_58 : decode cX11_mark 58 = .ok (.invokevirtual 99, 3) := by decide +kernel
theorem dX11_mark_61 : decode cX11_mark 61 = .ok (.ireturn, 1) := by decide +kernel
theorem dX11_mark_62 : decode cX11_mark 62 = .ok (.iload_n 2, 1) := by decide +kernel
theorem dX11_mark_63 : decode cX11_mark 63 = .ok (.iconst 1, 1) := by decide +kernel
theorem dX11_mark_64 : decode cX11_mark 64 = .ok (.if_icmp .ne 12, 3) := by decide +kernel
theorem dX11_mark_67 : decode cX11_mark 67 = .ok (.aload_n 0, 1) := by decide +kernel
theorem dX11_mark_68 : decode cX11_mark 68 = .ok (.getfield 25, 3) := by decide +kernel
theorem dX11_mark_71 : decode cX11_mark 71 = .ok (.iload_n 1, 1) := by decide +kernel
theorem dX11_mark_72 : decode cX11_mark 72 = .ok (.iaload, 1) := by decide +kernel
theorem dX11_mark_73 : decode cX11_mark 73 = .ok (.goto 23, 3) := by decide +kernel
theorem dX11_mark_76 : decode cX11_mark 76 = .ok (.iload_n 2, 1) := by decide +kernel
theorem dX11_mark_77 : decode cX11_mark 77 = .ok (.iconst 2, 1) := by decide +kernel
theorem dX11_mark_78 : decode cX11_mark 78 = .ok (.if_icmp .ne 12, 3) := by decide +kernel
theorem dX11_mark_81 : decode cX11_mark 81 = .ok (.aload_n 0, 1) := by decide +kernel
theorem dX11_mark_82 : decode cX11_mark 82 = .ok (.getfield 28, 3) := by decide +kernel
theorem dX11_mark_85 : decode cX11_mark 85 = .ok (.iload_n 1, 1) := by decide +kernel
theorem dX11_mark_86 : decode cX11_mark 86 = .ok (.iaload, 1) := by decide +kernel
theorem dX11_mark_87 : decode cX11_mark 87 = .ok (.goto 9, 3) := by decide +kernel
theorem dX11_mark_90 : decode cX11_mark 90 = .ok (.aload_n 0, 1) := by decide +kernel
theorem dX11_mark_91 : decode cX11_mark 91 = .ok (.getfield 47, 3) := by decide +kernel
theorem dX11_mark_94 : decode cX11_mark 94 = .ok (.iload_n 1, 1) := by decide +kernel
theorem dX11_mark_95 : decode cX11_mark 95 = .ok (.iaload, 1) := by decide +kernel
theorem dX11_mark_96 : decode cX11_mark 96 = .ok (.ireturn, 1) := by decide +kernel
theorem dX11_withdraw_0 : decode cX11_withdraw 0 = .ok (.aload_n 0, 1) := by decide +kernel
theorem dX11_withdraw_1 : decode cX11_withdraw 1 = .ok (.iload_n 1, 1) := by decide +kernel
theorem dX11_withdraw_2 : decode cX11_withdraw 2 = .ok (.invokevirtual 122, 3) := by decide +kernel
theorem dX11_withdraw_5 : decode cX11_withdraw 5 = .ok (.ifCond .ne 5, 3) := by decide +kernel
theorem dX11_withdraw_8 : decode cX11_withdraw 8 = .ok (.iconst (-1), 1) := by decide +kernel
theorem dX11_withdraw_9 : decode cX11_withdraw 9 = .ok (.ireturn, 1) := by decide +kernel
theorem dX11_withdraw_10 : decode cX11_withdraw 10 = .ok (.aload_n 0, 1) := by decide +kernel
theorem dX11_withdraw_11 : decode cX11_withdraw 11 = .ok (.getfield 31, 3) := by decide +kernel
theorem dX11_withdraw_14 : decode cX11_withdraw 14 = .ok (.iload_n 1, 1) := by decide +kernel
theorem dX11_withdraw_15 : decode cX11_withdraw 15 = .ok (.baload, 1) := by decide +kernel
theorem dX11_withdraw_16 : decode cX11_withdraw 16 = .ok (.ifCond .eq 9, 3) := by decide +kernel
theorem dX11_withdraw_19 : decode cX11_withdraw 19 = .ok (.aload_n 0, 1) := by decide +kernel
theorem dX11_withdraw_20 : decode cX11_withdraw 20 = .ok (.iconst 1, 1) := by decide +kernel
theorem dX11_withdraw_21 : decode cX11_withdraw 21 = .ok (.invokevirtual 99, 3) := by decide +kernel
theorem dX11_withdraw_24 : decode cX11_withdraw 24 = .ok (.ireturn, 1) := by decide +kernel
theorem dX11_withdraw_25 : decode cX11_withdraw 25 = .ok (.aload_n 0, 1) := by decide +kernel
theorem dX11_withdraw_26 : decode cX11_withdraw 26 = .ok (.getfield 31, 3) := by decide +kernel
theorem dX11_withdraw_29 : decode cX11_withdraw 29 = .ok (.iload_n 1, 1) := by decide +kernel
theorem dX11_withdraw_30 : decode cX11_withdraw 30 = .ok (.iconst 1, 1) := by decide +kernel
theorem dX11_withdraw_31 : decode cX11_withdraw 31 = .ok (.bastore, 1) := by decide +kernel
theorem dX11_withdraw_32 : decode cX11_withdraw 32 = .ok (.iconst 1, 1) := by decide +kernel
theorem dX11_withdraw_33 : decode cX11_withdraw 33 = .ok (.ireturn, 1) := by decide +kernel
theorem dX11_isValue_0 : decode cX11_isValue 0 = .ok (.iload_n 0, 1) := by decide +kernel
theorem dX11_isValue_1 : decode cX11_isValue 1 = .ok (.ifCond .ne 28, 3) := by decide +kernel
theorem dX11_isValue_4 : decode cX11_isValue 4 = .ok (.iload_n 1, 1) := by decide +kernel
theorem dX11_isValue_5 : decode cX11_isValue 5 = .ok (.invokestatic 109, 3) := by decide +kernel
theorem dX11_isValue_8 : decode cX11_isValue 8 = .ok (.invokestatic 106, 3) := by decide +kernel
theorem dX11_isValue_11 : decode cX11_isValue 11 = .ok (.ifCond .ne 10, 3) := by decide +kernel
theorem dX11_isValue_14 : decode cX11_isValue 14 = .ok (.iload_n 1, 1) := by decide +kernel
theorem dX11_isValue_15 : decode cX11_isValue 15 = .ok (.invokestatic 112, 3) := by decide +kernel
theorem dX11_isValue_18 : decode cX11_isValue 18 = .ok (.ifCond .eq 7, 3) := by decide +kernel
theorem dX11_isValue_21 : decode cX11_isValue 21 = .ok (.iconst 1, 1) := by decide +kernel
theorem dX11_isValue_22 : decode cX11_isValue 22 = .ok (.goto 41, 3) := by decide +kernel
theorem dX11_isValue_25 : decode cX11_isValue 25 = .ok (.iconst 0, 1) := by decide +kernel
theorem dX11_isValue_26 : decode cX11_isValue 26 = .ok (.goto 37, 3) := by decide +kernel
theorem dX11_isValue_29 : decode cX11_isValue 29 = .ok (.iload_n 0, 1) := by decide +kernel
theorem dX11_isValue_30 : decode cX11_isValue 30 = .ok (.iconst 1, 1) := by decide +kernel
theorem dX11_isValue_31 : decode cX11_isValue 31 = .ok (.if_icmp .ne 13, 3) := by decide +kernel
theorem dX11_isValue_34 : decode cX11_isValue 34 = .ok (.iload_n 1, 1) := by decide +kernel
theorem dX11_isValue_35 : decode cX11_isValue 35 = .ok (.iconst 1, 1) := by decide +kernel
theorem dX11_isValue_36 : decode cX11_isValue 36 = .ok (.bipush 12, 2) := by decide +kernel
theorem dX11_isValue_38 : decode cX11_isValue 38 = .ok (.invokestatic 91, 3) := by decide +kernel
theorem dX11_isValue_41 : decode cX11_isValue 41 = .ok (.goto 22, 3) := by decide +kernel
theorem dX11_isValue_44 : decode cX11_isValue 44 = .ok (.iload_n 0, 1) := by decide +kernel
theorem dX11_isValue_45 : decode cX11_isValue 45 = .ok (.iconst 2, 1) := by decide +kernel
theorem dX11_isValue_46 : decode cX11_isValue 46 = .ok (.if_icmp .ne 13, 3) := by decide +kernel
theorem dX11_isValue_49 : decode cX11_isValue 49 = .ok (.iload_n 1, 1) := by decide +kernel
theorem dX11_isValue_50 : decode cX11_isValue 50 = .ok (.invokestatic 109, 3) := by decide +kernel
theorem dX11_isValue_53 : decode cX11_isValue 53 = .ok (.invokestatic 106, 3) := by decide +kernel
theorem dX11_isValue_56 : decode cX11_isValue 56 = .ok (.goto 7, 3) := by decide +kernel
theorem dX11_isValue_59 : decode cX11_isValue 59 = .ok (.iload_n 1, 1) := by decide +kernel
theorem dX11_isValue_60 : decode cX11_isValue 60 = .ok (.invokestatic 95, 3) := by decide +kernel
theorem dX11_isValue_63 : decode cX11_isValue 63 = .ok (.ireturn, 1) := by decide +kernel
theorem dX11_feature_0 : decode cX11_feature 0 = .ok (.iload_n 1, 1) := by decide +kernel
theorem dX11_feature_1 : decode cX11_feature 1 = .ok (.iconst 0, 1) := by decide +kernel
theorem dX11_feature_2 : decode cX11_feature 2 = .ok (.iconst 3, 1) := by decide +kernel
theorem dX11_feature_3 : decode cX11_feature 3 = .ok (.invokestatic 91, 3) := by decide +kernel
theorem dX11_feature_6 : decode cX11_feature 6 = .ok (.ifCond .eq 11, 3) := by decide +kernel
theorem dX11_feature_9 : decode cX11_feature 9 = .ok (.iload_n 1, 1) := by decide +kernel
theorem dX11_feature_10 : decode cX11_feature 10 = .ok (.iload_n 2, 1) := by decide +kernel
theorem dX11_feature_11 : decode cX11_feature 11 = .ok (.invokestatic 129, 3) := by decide +kernel
theorem dX11_feature_14 : decode cX11_feature 14 = .ok (.ifCond .ne 5, 3) := by decide +kernel
theorem dX11_feature_17 : decode cX11_feature 17 = .ok (.iconst (-1), 1) := by decide +kernel
theorem dX11_feature_18 : decode cX11_feature 18 = .ok (.ireturn, 1) := by decide +kernel
theorem dX11_feature_19 : decode cX11_feature 19 = .ok (.aload_n 0, 1) := by decide +kernel
theorem dX11_feature_20 : decode cX11_feature 20 = .ok (.getfield 133, 3) := by decide +kernel
theorem dX11_feature_23 : decode cX11_feature 23 = .ok (.bipush 12, 2) := by decide +kernel
theorem dX11_feature_25 : decode cX11_feature 25 = .ok (.if_icmp .ne 6, 3) := by decide +kernel
theorem dX11_feature_28 : decode cX11_feature 28 = .ok (.bipush (-2), 2) := by decide +kernel
theorem dX11_feature_30 : decode cX11_feature 30 = .ok (.ireturn, 1) := by decide +kernel
theorem dX11_feature_31 : decode cX11_feature 31 = .ok (.iload_n 1, 1) := by decide +kernel
theorem dX11_feature_32 : decode cX11_feature 32 = .ok (.iconst 3, 1) := by decide +kernel
theorem dX11_feature_33 : decode cX11_feature 33 = .ok (.if_icmp .ne 118, 3) := by decide +kernel
theorem dX11_feature_36 : decode cX11_feature 36 = .ok (.aload_n 0, 1) := by decide +kernel
theorem dX11_feature_37 : decode cX11_feature 37 = .ok (.getfield 13, 3) := by decide +kernel
theorem dX11_feature_40 : decode cX11_feature 40 = .ok (.iload_n 2, 1) := by decide +kernel
theorem dX11_feature_41 : decode cX11_feature 41 = .ok (.iaload, 1) := by decide +kernel
theorem dX11_feature_42 : decode cX11_feature 42 = .ok (.ifCond .ge 9, 3) := by decide +kernel
theorem dX11_feature_45 : decode cX11_feature 45 = .ok (.aload_n 0, 1) := by decide +kernel
theorem dX11_feature_46 : decode cX11_feature 46 = .ok (.iconst 1, 1) := by decide +kernel
theorem dX11_feature_47 : decode cX11_feature 47 = .ok (.invokevirtual 99, 3) := by decide +kernel
theorem dX11_feature_50 : decode cX11_feature 50 = .ok (.ireturn, 1) := by decide +kernel
theorem dX11_feature_51 : decode cX11_feature 51 = .ok (.aload_n 0, 1) := by decide +kernel
theorem dX11_feature_52 : decode cX11_feature 52 = .ok (.bipush 14, 2) := by decide +kernel
theorem dX11_feature_54 : decode cX11_feature 54 = .ok (.iload_n 2, 1) := by decide +kernel
theorem dX11_feature_55 : decode cX11_feature 55 = .ok (.invokevirtual 118, 3) := by decide +kernel
theorem dX11_feature_58 : decode cX11_feature 58 = .ok (.aload_n 0, 1) := by decide +kernel
theorem dX11_feature_59 : decode cX11_feature 59 = .ok (.getfield 47, 3) := by decide +kernel
theorem dX11_feature_62 : decode cX11_feature 62 = .ok (.bipush 14, 2) := by decide +kernel
theorem dX11_feature_64 : decode cX11_feature 64 = .ok (.iaload, 1) := by decide +kernel
theorem dX11_feature_65 : decode cX11_feature 65 = .ok (.ifCond .ne 9, 3) := by decide +kernel
theorem dX11_feature_68 : decode cX11_feature 68 = .ok (.aload_n 0, 1) := by decide +kernel
theorem dX11_feature_69 : decode cX11_feature 69 = .ok (.iconst 5, 1) := by decide +kernel
theorem dX11_feature_70 : decode cX11_feature 70 = .ok (.invokevirtual 99, 3) := by decide +kernel
theorem dX11_feature_73 : decode cX11_feature 73 = .ok (.ireturn, 1) := by decide +kernel
theorem dX11_feature_74 : decode cX11_feature 74 = .ok (.aload_n 0, 1) := by decide +kernel
theorem dX11_feature_75 : decode cX11_feature 75 = .ok (.getfield 62, 3) := by decide +kernel
theorem dX11_feature_78 : decode cX11_feature 78 = .ok (.aload_n 0, 1) := by decide +kernel
theorem dX11_feature_79 : decode cX11_feature 79 = .ok (.getfield 133, 3) := by decide +kernel
theorem dX11_feature_82 : decode cX11_feature 82 = .ok (.aload_n 0, 1) := by decide +kernel
theorem dX11_feature_83 : decode cX11_feature 83 = .ok (.getfield 53, 3) := by decide +kernel
theorem dX11_feature_86 : decode cX11_feature 86 = .ok (.sipush 1400, 3) := by decide +kernel
theorem dX11_feature_89 : decode cX11_feature 89 = .ok (.iaload, 1) := by decide +kernel
theorem dX11_feature_90 : decode cX11_feature 90 = .ok (.iastore, 1) := by decide +kernel
theorem dX11_feature_91 : decode cX11_feature 91 = .ok (.iconst 0, 1) := by decide +kernel
theorem dX11_feature_92 : decode cX11_feature 92 = .ok (.istore_n 3, 1) := by decide +kernel
theorem dX11_feature_93 : decode cX11_feature 93 = .ok (.iload_n 3, 1) := by decide +kernel
theorem dX11_feature_94 : decode cX11_feature 94 = .ok (.bipush 12, 2) := by decide +kernel
theorem dX11_feature_96 : decode cX11_feature 96 = .ok (.if_icmp .ge 55, 3) := by decide +kernel
theorem dX11_feature_99 : decode cX11_feature 99 = .ok (.iload_n 3, 1) := by decide +kernel
theorem dX11_feature_100 : decode cX11_feature 100 = .ok (.aload_n 0, 1) := by decide +kernel
theorem dX11_feature_101 : decode cX11_feature 101 = .ok (.getfield 62, 3) := by decide +kernel
theorem dX11_feature_104 : decode cX11_feature 104 = .ok (.aload_n 0, 1) := by decide +kernel
theorem dX11_feature_105 : decode cX11_feature 105 = .ok (.getfield 133, 3) := by decide +kernel
theorem dX11_feature_108 : decode cX11_feature 108 = .ok (.iaload, 1) := by decide +kernel
theorem dX11_feature_109 : decode cX11_feature 109 = .ok (.if_icmp .ge 42, 3) := by decide +kernel
theorem dX11_feature_112 : decode cX11_feature 112 = .ok (.aload_n 0, 1) := by decide +kernel
theorem dX11_feature_113 : decode cX11_feature 113 = .ok (.getfield 65, 3) := by decide +kernel
theorem dX11_feature_116 : decode cX11_feature 116 = .ok (.bipush 12, 2) := by decide +kernel
theorem dX11_feature_118 : decode cX11_feature 118 = .ok (.aload_n 0, 1) := by decide +kernel
theorem dX11_feature_119 : decode cX11_feature 119 = .ok (.getfield 133, 3) := by decide +kernel
theorem dX11_feature_122 : decode cX11_feature 122 = .ok (.imul, 1) := by decide +kernel
theorem dX11_feature_123 : decode cX11_feature 123 = .ok (.iload_n 3, 1) := by decide +kernel
theorem dX11_feature_124 : decode cX11_feature 124 = .ok (.iadd, 1) := by decide +kernel
theorem dX11_feature_125 : decode cX11_feature 125 = .ok (.aload_n 0, 1) := by decide +kernel
theorem dX11_feature_126 : decode cX11_feature 126 = .ok (.getfield 38, 3) := by decide +kernel
theorem dX11_feature_129 : decode cX11_feature 129 = .ok (.sipush 2800, 3) := by decide +kernel
theorem dX11_feature_132 : decode cX11_feature 132 = .ok (.aload_n 0, 1) := by decide +kernel
theorem dX11_feature_133 : decode cX11_feature 133 = .ok (.getfield 50, 3) := by decide +kernel
