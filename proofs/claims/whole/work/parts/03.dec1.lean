theorem dX0_init_0 : decode cX0_init 0 = .ok (.aload_n 0, 1) := by decide +kernel
theorem dX0_init_1 : decode cX0_init 1 = .ok (.invokespecial 3, 3) := by decide +kernel
theorem dX0_init_4 : decode cX0_init 4 = .ok (.aload_n 0, 1) := by decide +kernel
theorem dX0_init_5 : decode cX0_init 5 = .ok (.bipush 12, 2) := by decide +kernel
theorem dX0_init_7 : decode cX0_init 7 = .ok (.newarray .byte, 2) := by decide +kernel
theorem dX0_init_9 : decode cX0_init 9 = .ok (.putfield 9, 3) := by decide +kernel
theorem dX0_init_12 : decode cX0_init 12 = .ok (.aload_n 0, 1) := by decide +kernel
theorem dX0_init_13 : decode cX0_init 13 = .ok (.iload_n 1, 1) := by decide +kernel
theorem dX0_init_14 : decode cX0_init 14 = .ok (.putfield 15, 3) := by decide +kernel
theorem dX0_init_17 : decode cX0_init 17 = .ok (.aload_n 0, 1) := by decide +kernel
theorem dX0_init_18 : decode cX0_init 18 = .ok (.iload_n 2, 1) := by decide +kernel
theorem dX0_init_19 : decode cX0_init 19 = .ok (.putfield 19, 3) := by decide +kernel
theorem dX0_init_22 : decode cX0_init 22 = .ok (.return_, 1) := by decide +kernel
theorem dX0_learnWord_0 : decode cX0_learnWord 0 = .ok (.aload_n 0, 1) := by decide +kernel
theorem dX0_learnWord_1 : decode cX0_learnWord 1 = .ok (.aload_n 1, 1) := by decide +kernel
theorem dX0_learnWord_2 : decode cX0_learnWord 2 = .ok (.iload_n 2, 1) := by decide +kernel
theorem dX0_learnWord_3 : decode cX0_learnWord 3 = .ok (.invokevirtual 22, 3) := by decide +kernel
theorem dX0_learnWord_6 : decode cX0_learnWord 6 = .ok (.putfield 28, 3) := by decide +kernel
theorem dX0_learnWord_9 : decode cX0_learnWord 9 = .ok (.iconst 0, 1) := by decide +kernel
theorem dX0_learnWord_10 : decode cX0_learnWord 10 = .ok (.istore_n 3, 1) := by decide +kernel
theorem dX0_learnWord_11 : decode cX0_learnWord 11 = .ok (.iload_n 3, 1) := by decide +kernel
theorem dX0_learnWord_12 : decode cX0_learnWord 12 = .ok (.aload_n 0, 1) := by decide +kernel
theorem dX0_learnWord_13 : decode cX0_learnWord 13 = .ok (.getfield 9, 3) := by decide +kernel
theorem dX0_learnWord_16 : decode cX0_learnWord 16 = .ok (.arraylength, 1) := by decide +kernel
theorem dX0_learnWord_17 : decode cX0_learnWord 17 = .ok (.if_icmp .ge 22, 3) := by decide +kernel
theorem dX0_learnWord_20 : decode cX0_learnWord 20 = .ok (.aload_n 0, 1) := by decide +kernel
theorem dX0_learnWord_21 : decode cX0_learnWord 21 = .ok (.getfield 9, 3) := by decide +kernel
theorem dX0_learnWord_24 : decode cX0_learnWord 24 = .ok (.iload_n 3, 1) := by decide +kernel
theorem dX0_learnWord_25 : decode cX0_learnWord 25 = .ok (.aload_n 1, 1) := by decide +kernel
theorem dX0_learnWord_26 : decode cX0_learnWord 26 = .ok (.iload_n 2, 1) := by decide +kernel
theorem dX0_learnWord_27 : decode cX0_learnWord 27 = .ok (.iload_n 3, 1) := by decide +kernel
theorem dX0_learnWord_28 : decode cX0_learnWord 28 = .ok (.invokevirtual 31, 3) := by decide +kernel
theorem dX0_learnWord_31 : decode cX0_learnWord 31 = .ok (.i2b, 1) := by decide +kernel
theorem dX0_learnWord_32 : decode cX0_learnWord 32 = .ok (.bastore, 1) := by decide +kernel
theorem dX0_learnWord_33 : decode cX0_learnWord 33 = .ok (.iinc 3 1, 3) := by decide +kernel
theorem dX0_learnWord_36 : decode cX0_learnWord 36 = .ok (.goto (-25), 3) := by decide +kernel
theorem dX0_learnWord_39 : decode cX0_learnWord 39 = .ok (.return_, 1) := by decide +kernel
theorem dX0_countIn_0 : decode cX0_countIn 0 = .ok (.aload_n 0, 1) := by decide +kernel
theorem dX0_countIn_1 : decode cX0_countIn 1 = .ok (.getfield 15, 3) := by decide +kernel
theorem dX0_countIn_4 : decode cX0_countIn 4 = .ok (.ifCond .ne 14, 3) := by decide +kernel
theorem dX0_countIn_7 : decode cX0_countIn 7 = .ok (.aload_n 1, 1) := by decide +kernel
theorem dX0_countIn_8 : decode cX0_countIn 8 = .ok (.aload_n 0, 1) := by decide +kernel
theorem dX0_countIn_9 : decode cX0_countIn 9 = .ok (.getfield 19, 3) := by decide +kernel
theorem dX0_countIn_12 : decode cX0_countIn 12 = .ok (.invokevirtual 35, 3) := by decide +kernel
theorem dX0_countIn_15 : decode cX0_countIn 15 = .ok (.goto 13, 3) := by decide +kernel
theorem dX0_countIn_18 : decode cX0_countIn 18 = .ok (.aload_n 0, 1) := by decide +kernel
theorem dX0_countIn_19 : decode cX0_countIn 19 = .ok (.aload_n 1, 1) := by decide +kernel
theorem dX0_countIn_20 : decode cX0_countIn 20 = .ok (.iconst 0, 1) := by decide +kernel
theorem dX0_countIn_21 : decode cX0_countIn 21 = .ok (.aload_n 1, 1) := by decide +kernel
theorem dX0_countIn_22 : decode cX0_countIn 22 = .ok (.getfield 38, 3) := by decide +kernel
theorem dX0_countIn_25 : decode cX0_countIn 25 = .ok (.invokevirtual 41, 3) := by decide +kernel
theorem dX0_countIn_28 : decode cX0_countIn 28 = .ok (.ireturn, 1) := by decide +kernel
theorem dX0_countInWords_0 : decode cX0_countInWords 0 = .ok (.iconst 0, 1) := by decide +kernel
theorem dX0_countInWords_1 : decode cX0_countInWords 1 = .ok (.istore 4, 2) := by decide +kernel
theorem dX0_countInWords_3 : decode cX0_countInWords 3 = .ok (.iload_n 2, 1) := by decide +kernel
theorem dX0_countInWords_4 : decode cX0_countInWords 4 = .ok (.istore 5, 2) := by decide +kernel
theorem dX0_countInWords_6 : decode cX0_countInWords 6 = .ok (.iload 5, 2) := by decide +kernel
theorem dX0_countInWords_8 : decode cX0_countInWords 8 = .ok (.iload_n 3, 1) := by decide +kernel
theorem dX0_countInWords_9 : decode cX0_countInWords 9 = .ok (.if_icmp .ge 22, 3) := by decide +kernel
theorem dX0_countInWords_12 : decode cX0_countInWords 12 = .ok (.aload_n 0, 1) := by decide +kernel
theorem dX0_countInWords_13 : decode cX0_countInWords 13 = .ok (.aload_n 1, 1) := by decide +kernel
theorem dX0_countInWords_14 : decode cX0_countInWords 14 = .ok (.iload 5, 2) := by decide +kernel
theorem dX0_countInWords_16 : decode cX0_countInWords 16 = .ok (.invokevirtual 45, 3) := by decide +kernel
theorem dX0_countInWords_19 : decode cX0_countInWords 19 = .ok (.ifCond .eq 6, 3) := by decide +kernel
theorem dX0_countInWords_22 : decode cX0_countInWords 22 = .ok (.iinc 4 1, 3) := by decide +kernel
theorem dX0_countInWords_25 : decode cX0_countInWords 25 = .ok (.iinc 5 1, 3) := by decide +kernel
theorem dX0_countInWords_28 : decode cX0_countInWords 28 = .ok (.goto (-22), 3) := by decide +kernel
theorem dX0_countInWords_31 : decode cX0_countInWords 31 = .ok (.iload 4, 2) := by decide +kernel
theorem dX0_countInWords_33 : decode cX0_countInWords 33 = .ok (.ireturn, 1) := by decide +kernel
theorem dX0_fits_0 : decode cX0_fits 0 = .ok (.aload_n 1, 1) := by decide +kernel
theorem dX0_fits_1 : decode cX0_fits 1 = .ok (.iload_n 2, 1) := by decide +kernel
theorem dX0_fits_2 : decode cX0_fits 2 = .ok (.invokevirtual 22, 3) := by decide +kernel
theorem dX0_fits_5 : decode cX0_fits 5 = .ok (.istore_n 3, 1) := by decide +kernel
theorem dX0_fits_6 : decode cX0_fits 6 = .ok (.aload_n 0, 1) := by decide +kernel
theorem dX0_fits_7 : decode cX0_fits 7 = .ok (.getfield 15, 3) := by decide +kernel
theorem dX0_fits_10 : decode cX0_fits 10 = .ok (.tableswitch 89 1 3 #[26, 45, 66], 26) := by decide +kernel
theorem dX0_fits_36 : decode cX0_fits 36 = .ok (.iload_n 3, 1) := by decide +kernel
theorem dX0_fits_37 : decode cX0_fits 37 = .ok (.bipush 12, 2) := by decide +kernel
theorem dX0_fits_39 : decode cX0_fits 39 = .ok (.invokestatic 49, 3) := by decide +kernel
theorem dX0_fits_42 : decode cX0_fits 42 = .ok (.aload_n 0, 1) := by decide +kernel
theorem dX0_fits_43 : decode cX0_fits 43 = .ok (.getfield 19, 3) := by decide +kernel
theorem dX0_fits_46 : decode cX0_fits 46 = .ok (.if_icmp .ne 7, 3) := by decide +kernel
theorem dX0_fits_49 : decode cX0_fits 49 = .ok (.iconst 1, 1) := by decide +kernel
theorem dX0_fits_50 : decode cX0_fits 50 = .ok (.goto 4, 3) := by decide +kernel
theorem dX0_fits_53 : decode cX0_fits 53 = .ok (.iconst 0, 1) := by decide +kernel
theorem dX0_fits_54 : decode cX0_fits 54 = .ok (.ireturn, 1) := by decide +kernel
theorem dX0_fits_55 : decode cX0_fits 55 = .ok (.aload_n 1, 1) := by decide +kernel
theorem dX0_fits_56 : decode cX0_fits 56 = .ok (.iload_n 2, 1) := by decide +kernel
theorem dX0_fits_57 : decode cX0_fits 57 = .ok (.iload_n 3, 1) := by decide +kernel
theorem dX0_fits_58 : decode cX0_fits 58 = .ok (.iconst 1, 1) := by decide +kernel
theorem dX0_fits_59 : decode cX0_fits 59 = .ok (.isub, 1) := by decide +kernel
theorem dX0_fits_60 : decode cX0_fits 60 = .ok (.invokevirtual 31, 3) := by decide +kernel
theorem dX0_fits_63 : decode cX0_fits 63 = .ok (.aload_n 0, 1) := by decide +kernel
theorem dX0_fits_64 : decode cX0_fits 64 = .ok (.getfield 19, 3) := by decide +kernel
theorem dX0_fits_67 : decode cX0_fits 67 = .ok (.if_icmp .ne 7, 3) := by decide +kernel
theorem dX0_fits_70 : decode cX0_fits 70 = .ok (.iconst 1, 1) := by decide +kernel
theorem dX0_fits_71 : decode cX0_fits 71 = .ok (.goto 4, 3) := by decide +kernel
theorem dX0_fits_74 : decode cX0_fits 74 = .ok (.iconst 0, 1) := by decide +kernel
theorem dX0_fits_75 : decode cX0_fits 75 = .ok (.ireturn, 1) := by decide +kernel
theorem dX0_fits_76 : decode cX0_fits 76 = .ok (.iload_n 3, 1) := by decide +kernel
theorem dX0_fits_77 : decode cX0_fits 77 = .ok (.aload_n 0, 1) := by decide +kernel
theorem dX0_fits_78 : decode cX0_fits 78 = .ok (.getfield 28, 3) := by decide +kernel
theorem dX0_fits_81 : decode cX0_fits 81 = .ok (.if_icmp .ne 16, 3) := by decide +kernel
theorem dX0_fits_84 : decode cX0_fits 84 = .ok (.aload_n 0, 1) := by decide +kernel
theorem dX0_fits_85 : decode cX0_fits 85 = .ok (.aload_n 1, 1) := by decide +kernel
theorem dX0_fits_86 : decode cX0_fits 86 = .ok (.iload_n 2, 1) := by decide +kernel
theorem dX0_fits_87 : decode cX0_fits 87 = .ok (.invokevirtual 54, 3) := by decide +kernel
theorem dX0_fits_90 : decode cX0_fits 90 = .ok (.ifCond .eq 7, 3) := by decide +kernel
theorem dX0_fits_93 : decode cX0_fits 93 = .ok (.iconst 1, 1) := by decide +kernel
theorem dX0_fits_94 : decode cX0_fits 94 = .ok (.goto 4, 3) := by decide +kernel
theorem dX0_fits_97 : decode cX0_fits 97 = .ok (.iconst 0, 1) := by decide +kernel
theorem dX0_fits_98 : decode cX0_fits 98 = .ok (.ireturn, 1) := by decide +kernel
theorem dX0_fits_99 : decode cX0_fits 99 = .ok (.iconst 0, 1) := by decide +kernel
theorem dX0_fits_100 : decode cX0_fits 100 = .ok (.ireturn, 1) := by decide +kernel
theorem dX0_hasLetters_0 : decode cX0_hasLetters 0 = .ok (.iconst 0, 1) := by decide +kernel
theorem dX0_hasLetters_1 : decode cX0_hasLetters 1 = .ok (.istore_n 3, 1) := by decide +kernel
theorem dX0_hasLetters_2 : decode cX0_hasLetters 2 = .ok (.iload_n 3, 1) := by decide +kernel
theorem dX0_hasLetters_3 : decode cX0_hasLetters 3 = .ok (.aload_n 0, 1) := by decide +kernel
theorem dX0_hasLetters_4 : decode cX0_hasLetters 4 = .ok (.getfield 9, 3) := by decide +kernel
theorem dX0_hasLetters_7 : decode cX0_hasLetters 7 = .ok (.arraylength, 1) := by decide +kernel
theorem dX0_hasLetters_8 : decode cX0_hasLetters 8 = .ok (.if_icmp .ge 26, 3) := by decide +kernel
theorem dX0_hasLetters_11 : decode cX0_hasLetters 11 = .ok (.aload_n 1, 1) := by decide +kernel
theorem dX0_hasLetters_12 : decode cX0_hasLetters 12 = .ok (.iload_n 2, 1) := by decide +kernel
theorem dX0_hasLetters_13 : decode cX0_hasLetters 13 = .ok (.iload_n 3, 1) := by decide +kernel
theorem dX0_hasLetters_14 : decode cX0_hasLetters 14 = .ok (.invokevirtual 31, 3) := by decide +kernel
theorem dX0_hasLetters_17 : decode cX0_hasLetters 17 = .ok (.aload_n 0, 1) := by decide +kernel
theorem dX0_hasLetters_18 : decode cX0_hasLetters 18 = .ok (.getfield 9, 3) := by decide +kernel
theorem dX0_hasLetters_21 : decode cX0_hasLetters 21 = .ok (.iload_n 3, 1) := by decide +kernel
theorem dX0_hasLetters_22 : decode cX0_hasLetters 22 = .ok (.baload, 1) := by decide +kernel
theorem dX0_hasLetters_23 : decode cX0_hasLetters 23 = .ok (.if_icmp .eq 5, 3) := by decide +kernel
theorem dX0_hasLetters_26 : decode cX0_hasLetters 26 = .ok (.iconst 0, 1) := by decide +kernel
theorem dX0_hasLetters_27 : decode cX0_hasLetters 27 = .ok (.ireturn, 1) := by decide +kernel
theorem dX0_hasLetters_28 : decode cX0_hasLetters 28 = .ok (.iinc 3 1, 3) := by decide +kernel
theorem dX0_hasLetters_31 : decode cX0_hasLetters 31 = .ok (.goto (-29), 3) := by decide +kernel
theorem dX0_hasLetters_34 : decode cX0_hasLetters 34 = .ok (.iconst 1, 1) := by decide +kernel
theorem dX0_hasLetters_35 : decode cX0_hasLetters 35 = .ok (.ireturn, 1) := by decide +kernel
theorem dX1_init_0 : decode cX1_init 0 = .ok (.aload_n 0, 1) := by decide +kernel
theorem dX1_init_1 : decode cX1_init 1 = .ok (.invokespecial 3, 3) := by decide +kernel
theorem dX1_init_4 : decode cX1_init 4 = .ok (.aload_n 0, 1) := by decide +kernel
theorem dX1_init_5 : decode cX1_init 5 = .ok (.bipush 6, 2) := by decide +kernel
theorem dX1_init_7 : decode cX1_init 7 = .ok (.bipush 12, 2) := by decide +kernel
theorem dX1_init_9 : decode cX1_init 9 = .ok (.multianewarray 9 2, 4) := by decide +kernel
theorem dX1_init_13 : decode cX1_init 13 = .ok (.putfield 11, 3) := by decide +kernel
theorem dX1_init_16 : decode cX1_init 16 = .ok (.aload_n 0, 1) := by decide +kernel
theorem dX1_init_17 : decode cX1_init 17 = .ok (.bipush 6, 2) := by decide +kernel
theorem dX1_init_19 : decode cX1_init 19 = .ok (.newarray .boolean, 2) := by decide +kernel
theorem dX1_init_21 : decode cX1_init 21 = .ok (.putfield 16, 3) := by decide +kernel
theorem dX1_init_24 : decode cX1_init 24 = .ok (.aload_n 0, 1) := by decide +kernel
theorem dX1_init_25 : decode cX1_init 25 = .ok (.new 20, 3) := by decide +kernel
theorem dX1_init_28 : decode cX1_init 28 = .ok (.dup, 1) := by decide +kernel
theorem dX1_init_29 : decode cX1_init 29 = .ok (.invokespecial 22, 3) := by decide +kernel
theorem dX1_init_32 : decode cX1_init 32 = .ok (.putfield 23, 3) := by decide +kernel
theorem dX1_init_35 : decode cX1_init 35 = .ok (.return_, 1) := by decide +kernel
theorem dX1_readWithout_0 : decode cX1_readWithout 0 = .ok (.iconst 0, 1) := by decide +kernel
theorem dX1_readWithout_1 : decode cX1_readWithout 1 = .ok (.istore 4, 2) := by decide +kernel
theorem dX1_readWithout_3 : decode cX1_readWithout 3 = .ok (.iload 4, 2) := by decide +kernel
theorem dX1_readWithout_5 : decode cX1_readWithout 5 = .ok (.bipush 6, 2) := by decide +kernel
theorem dX1_readWithout_7 : decode cX1_readWithout 7 = .ok (.if_icmp .ge 105, 3) := by decide +kernel
theorem dX1_readWithout_10 : decode cX1_readWithout 10 = .ok (.aload_n 0, 1) := by decide +kernel
theorem dX1_readWithout_11 : decode cX1_readWithout 11 = .ok (.getfield 23, 3) := by decide +kernel
theorem dX1_readWithout_14 : decode cX1_readWithout 14 = .ok (.invokevirtual 27, 3) := by decide +kernel
theorem dX1_readWithout_17 : decode cX1_readWithout 17 = .ok (.aload_n 0, 1) := by decide +kernel
theorem dX1_readWithout_18 : decode cX1_readWithout 18 = .ok (.getfield 16, 3) := by decide +kernel
theorem dX1_readWithout_21 : decode cX1_readWithout 21 = .ok (.iload 4, 2) := by decide +kernel
theorem dX1_readWithout_23 : decode cX1_readWithout 23 = .ok (.iconst 0, 1) := by decide +kernel
theorem dX1_readWithout_24 : decode cX1_readWithout 24 = .ok (.bastore, 1) := by decide +kernel
theorem dX1_readWithout_25 : decode cX1_readWithout 25 = .ok (.iconst 0, 1) := by decide +kernel
theorem dX1_readWithout_26 : decode cX1_readWithout 26 = .ok (.istore 5, 2) := by decide +kernel
theorem dX1_readWithout_28 : decode cX1_readWithout 28 = .ok (.iload 5, 2) := by decide +kernel
theorem dX1_readWithout_30 : decode cX1_readWithout 30 = .ok (.aload_n 2, 1) := by decide +kernel
theorem dX1_readWithout_31 : decode cX1_readWithout 31 = .ok (.arraylength, 1) := by decide +kernel
theorem dX1_readWithout_32 : decode cX1_readWithout 32 = .ok (.if_icmp .ge 59, 3) := by decide +kernel
theorem dX1_readWithout_35 : decode cX1_readWithout 35 = .ok (.iload 5, 2) := by decide +kernel
theorem dX1_readWithout_37 : decode cX1_readWithout 37 = .ok (.iload_n 1, 1) := by decide +kernel
theorem dX1_readWithout_38 : decode cX1_readWithout 38 = .ok (.if_icmp .eq 47, 3) := by decide +kernel
theorem dX1_readWithout_41 : decode cX1_readWithout 41 = .ok (.aload_n 2, 1) := by decide +kernel
theorem dX1_readWithout_42 : decode cX1_readWithout 42 = .ok (.iload 5, 2) := by decide +kernel
theorem dX1_readWithout_44 : decode cX1_readWithout 44 = .ok (.aaload, 1) := by decide +kernel
theorem dX1_readWithout_45 : decode cX1_readWithout 45 = .ok (.ifnull 40, 3) := by decide +kernel
theorem dX1_readWithout_48 : decode cX1_readWithout 48 = .ok (.aload_n 2, 1) := by decide +kernel
theorem dX1_readWithout_49 : decode cX1_readWithout 49 = .ok (.iload 5, 2) := by decide +kernel
theorem dX1_readWithout_51 : decode cX1_readWithout 51 = .ok (.aaload, 1) := by decide +kernel
theorem dX1_readWithout_52 : decode cX1_readWithout 52 = .ok (.iload 4, 2) := by decide +kernel
theorem dX1_readWithout_54 : decode cX1_readWithout 54 = .ok (.invokevirtual 30, 3) := by decide +kernel
theorem dX1_readWithout_57 : decode cX1_readWithout 57 = .ok (.ifCond .ne 6, 3) := by decide +kernel
theorem dX1_readWithout_60 : decode cX1_readWithout 60 = .ok (.goto 25, 3) := by decide +kernel
theorem dX1_readWithout_63 : decode cX1_readWithout 63 = .ok (.aload_n 0, 1) := by decide +kernel
theorem dX1_readWithout_64 : decode cX1_readWithout 64 = .ok (.getfield 23, 3) := by decide +kernel
theorem dX1_readWithout_67 : decode cX1_readWithout 67 = .ok (.aload_n 2, 1) := by decide +kernel
theorem dX1_readWithout_68 : decode cX1_readWithout 68 = .ok (.iload 5, 2) := by decide +kernel
theorem dX1_readWithout_70 : decode cX1_readWithout 70 = .ok (.aaload, 1) := by decide +kernel
theorem dX1_readWithout_71 : decode cX1_readWithout 71 = .ok (.getfield 36, 3) := by decide +kernel
theorem dX1_readWithout_74 : decode cX1_readWithout 74 = .ok (.invokevirtual 37, 3) := by decide +kernel
theorem dX1_readWithout_77 : decode cX1_readWithout 77 = .ok (.aload_n 0, 1) := by decide +kernel
theorem dX1_readWithout_78 : decode cX1_readWithout 78 = .ok (.getfield 16, 3) := by decide +kernel
theorem dX1_readWithout_81 : decode cX1_readWithout 81 = .ok (.iload 4, 2) := by decide +kernel
theorem dX1_readWithout_83 : decode cX1_readWithout 83 = .ok (.iconst 1, 1) := by decide +kernel
theorem dX1_readWithout_84 : decode cX1_readWithout 84 = .ok (.bastore, 1) := by decide +kernel
theorem dX1_readWithout_85 : decode cX1_readWithout 85 = .ok (.iinc 5 1, 3) := by decide +kernel
theorem dX1_readWithout_88 : decode cX1_readWithout 88 = .ok (.goto (-60), 3) := by decide +kernel
theorem dX1_readWithout_91 : decode cX1_readWithout 91 = .ok (.aload_n 3, 1) := by decide +kernel
theorem dX1_readWithout_92 : decode cX1_readWithout 92 = .ok (.aload_n 0, 1) := by decide +kernel
theorem dX1_readWithout_93 : decode cX1_readWithout 93 = .ok (.getfield 23, 3) := by decide +kernel
theorem dX1_readWithout_96 : decode cX1_readWithout 96 = .ok (.aload_n 0, 1) := by decide +kernel
theorem dX1_readWithout_97 : decode cX1_readWithout 97 = .ok (.getfield 11, 3) := by decide +kernel
theorem dX1_readWithout_100 : decode cX1_readWithout 100 = .ok (.iload 4, 2) := by decide +kernel
theorem dX1_readWithout_102 : decode cX1_readWithout 102 = .ok (.aaload, 1) := by decide +kernel
theorem dX1_readWithout_103 : decode cX1_readWithout 103 = .ok (.invokevirtual 41, 3) := by decide +kernel
theorem dX1_readWithout_106 : decode cX1_readWithout 106 = .ok (.iinc 4 1, 3) := by decide +kernel
theorem dX1_readWithout_109 : decode cX1_readWithout 109 = .ok (.goto (-106), 3) := by decide +kernel
theorem dX1_readWithout_112 : decode cX1_readWithout 112 = .ok (.return_, 1) := by decide +kernel
theorem dX1_has_0 : decode cX1_has 0 = .ok (.iload_n 1, 1) := by decide +kernel
theorem dX1_has_1 : decode cX1_has 1 = .ok (.ifCond .lt 25, 3) := by decide +kernel
theorem dX1_has_4 : decode cX1_has 4 = .ok (.iload_n 1, 1) := by decide +kernel
theorem dX1_has_5 : decode cX1_has 5 = .ok (.aload_n 0, 1) := by decide +kernel
theorem dX1_has_6 : decode cX1_has 6 = .ok (.getfield 16, 3) := by decide +kernel
theorem dX1_has_9 : decode cX1_has 9 = .ok (.arraylength, 1) := by decide +kernel
theorem dX1_has_10 : decode cX1_has 10 = .ok (.if_icmp .ge 16, 3) := by decide +kernel
theorem dX1_has_13 : decode cX1_has 13 = .ok (.aload_n 0, 1) := by decide +kernel
theorem dX1_has_14 : decode cX1_has 14 = .ok (.getfield 16, 3) := by decide +kernel
theorem dX1_has_17 : decode cX1_has 17 = .ok (.iload_n 1, 1) := by decide +kernel
theorem dX1_has_18 : decode cX1_has 18 = .ok (.baload, 1) := by decide +kernel
theorem dX1_has_19 : decode cX1_has 19 = .ok (.ifCond .eq 7, 3) := by decide +kernel
theorem dX1_has_22 : decode cX1_has 22 = .ok (.iconst 1, 1) := by decide +kernel
theorem dX1_has_23 : decode cX1_has 23 = .ok (.goto 4, 3) := by decide +kernel
theorem dX1_has_26 : decode cX1_has 26 = .ok (.iconst 0, 1) := by decide +kernel
theorem dX1_has_27 : decode cX1_has 27 = .ok (.ireturn, 1) := by decide +kernel
theorem dX1_rateOf_0 : decode cX1_rateOf 0 = .ok (.aload_n 0, 1) := by decide +kernel
theorem dX1_rateOf_1 : decode cX1_rateOf 1 = .ok (.iload_n 1, 1) := by decide +kernel
theorem dX1_rateOf_2 : decode cX1_rateOf 2 = .ok (.invokevirtual 47, 3) := by decide +kernel
theorem dX1_rateOf_5 : decode cX1_rateOf 5 = .ok (.ifCond .eq 24, 3) := by decide +kernel
theorem dX1_rateOf_8 : decode cX1_rateOf 8 = .ok (.iload_n 2, 1) := by decide +kernel
theorem dX1_rateOf_9 : decode cX1_rateOf 9 = .ok (.ifCond .lt 20, 3) := by decide +kernel
theorem dX1_rateOf_12 : decode cX1_rateOf 12 = .ok (.iload_n 2, 1) := by decide +kernel
theorem dX1_rateOf_13 : decode cX1_rateOf 13 = .ok (.bipush 12, 2) := by decide +kernel
theorem dX1_rateOf_15 : decode cX1_rateOf 15 = .ok (.if_icmp .ge 14, 3) := by decide +kernel
theorem dX1_rateOf_18 : decode cX1_rateOf 18 = .ok (.aload_n 0, 1) := by decide +kernel
theorem dX1_rateOf_19 : decode cX1_rateOf 19 = .ok (.getfield 11, 3) := by decide +kernel
theorem dX1_rateOf_22 : decode cX1_rateOf 22 = .ok (.iload_n 1, 1) := by decide +kernel
theorem dX1_rateOf_23 : decode cX1_rateOf 23 = .ok (.aaload, 1) := by decide +kernel
theorem dX1_rateOf_24 : decode cX1_rateOf 24 = .ok (.iload_n 2, 1) := by decide +kernel
theorem dX1_rateOf_25 : decode cX1_rateOf 25 = .ok (.iaload, 1) := by decide +kernel
theorem dX1_rateOf_26 : decode cX1_rateOf 26 = .ok (.goto 4, 3) := by decide +kernel
theorem dX1_rateOf_29 : decode cX1_rateOf 29 = .ok (.iconst 0, 1) := by decide +kernel
theorem dX1_rateOf_30 : decode cX1_rateOf 30 = .ok (.ireturn, 1) := by decide +kernel
theorem dX1_farnessOf_0 : decode cX1_farnessOf 0 = .ok (.aload_n 0, 1) := by decide +kernel
theorem dX1_farnessOf_1 : decode cX1_farnessOf 1 = .ok (.iload_n 1, 1) := by decide +kernel
theorem dX1_farnessOf_2 : decode cX1_farnessOf 2 = .ok (.invokevirtual 47, 3) := by decide +kernel
theorem dX1_farnessOf_5 : decode cX1_farnessOf 5 = .ok (.ifCond .eq 19, 3) := by decide +kernel
theorem dX1_farnessOf_8 : decode cX1_farnessOf 8 = .ok (.aload_n 3, 1) := by decide +kernel
theorem dX1_farnessOf_9 : decode cX1_farnessOf 9 = .ok (.aload_n 2, 1) := by decide +kernel
theorem dX1_farnessOf_10 : decode cX1_farnessOf 10 = .ok (.aload_n 0, 1) := by decide +kernel
theorem dX1_farnessOf_11 : decode cX1_farnessOf 11 = .ok (.getfield 11, 3) := by decide +kernel
theorem dX1_farnessOf_14 : decode cX1_farnessOf 14 = .ok (.iload_n 1, 1) := by decide +kernel
theorem dX1_farnessOf_15 : decode cX1_farnessOf 15 = .ok (.aaload, 1) := by decide +kernel
theorem dX1_farnessOf_16 : decode cX1_farnessOf 16 = .ok (.iload 4, 2) := by decide +kernel
theorem dX1_farnessOf_18 : decode cX1_farnessOf 18 = .ok (.invokevirtual 50, 3) := by decide +kernel
theorem dX1_farnessOf_21 : decode cX1_farnessOf 21 = .ok (.goto 4, 3) := by decide +kernel
theorem dX1_farnessOf_24 : decode cX1_farnessOf 24 = .ok (.iconst 0, 1) := by decide +kernel
theorem dX1_farnessOf_25 : decode cX1_farnessOf 25 = .ok (.ireturn, 1) := by decide +kernel
theorem dX1_nearestTo_0 : decode cX1_nearestTo 0 = .ok (.bipush (-9), 2) := by decide +kernel
theorem dX1_nearestTo_2 : decode cX1_nearestTo 2 = .ok (.istore 4, 2) := by decide +kernel
theorem dX1_nearestTo_4 : decode cX1_nearestTo 4 = .ok (.iconst 0, 1) := by decide +kernel
theorem dX1_nearestTo_5 : decode cX1_nearestTo 5 = .ok (.istore 5, 2) := by decide +kernel
theorem dX1_nearestTo_7 : decode cX1_nearestTo 7 = .ok (.iconst 0, 1) := by decide +kernel
theorem dX1_nearestTo_8 : decode cX1_nearestTo 8 = .ok (.istore 6, 2) := by decide +kernel
theorem dX1_nearestTo_10 : decode cX1_nearestTo 10 = .ok (.iload 6, 2) := by decide +kernel
theorem dX1_nearestTo_12 : decode cX1_nearestTo 12 = .ok (.bipush 6, 2) := by decide +kernel
theorem dX1_nearestTo_14 : decode cX1_nearestTo 14 = .ok (.if_icmp .ge 57, 3) := by decide +kernel
theorem dX1_nearestTo_17 : decode cX1_nearestTo 17 = .ok (.aload_n 0, 1) := by decide +kernel
theorem dX1_nearestTo_18 : decode cX1_nearestTo 18 = .ok (.iload 6, 2) := by decide +kernel
theorem dX1_nearestTo_20 : decode cX1_nearestTo 20 = .ok (.invokevirtual 47, 3) := by decide +kernel
theorem dX1_nearestTo_23 : decode cX1_nearestTo 23 = .ok (.ifCond .ne 6, 3) := by decide +kernel
theorem dX1_nearestTo_26 : decode cX1_nearestTo 26 = .ok (.goto 39, 3) := by decide +kernel
theorem dX1_nearestTo_29 : decode cX1_nearestTo 29 = .ok (.aload_n 0, 1) := by decide +kernel
theorem dX1_nearestTo_30 : decode cX1_nearestTo 30 = .ok (.iload 6, 2) := by decide +kernel
theorem dX1_nearestTo_32 : decode cX1_nearestTo 32 = .ok (.aload_n 1, 1) := by decide +kernel
theorem dX1_nearestTo_33 : decode cX1_nearestTo 33 = .ok (.aload_n 2, 1) := by decide +kernel
theorem dX1_nearestTo_34 : decode cX1_nearestTo 34 = .ok (.iload_n 3, 1) := by decide +kernel
theorem dX1_nearestTo_35 : decode cX1_nearestTo 35 = .ok (.invokevirtual 54, 3) := by decide +kernel
theorem dX1_nearestTo_38 : decode cX1_nearestTo 38 = .ok (.istore 7, 2) := by decide +kernel
theorem dX1_nearestTo_40 : decode cX1_nearestTo 40 = .ok (.iload 4, 2) := by decide +kernel
theorem dX1_nearestTo_42 : decode cX1_nearestTo 42 = .ok (.bipush (-9), 2) := by decide +kernel
theorem dX1_nearestTo_44 : decode cX1_nearestTo 44 = .ok (.if_icmp .eq 13, 3) := by decide +kernel
theorem dX1_nearestTo_47 : decode cX1_nearestTo 47 = .ok (.iload 7, 2) := by decide +kernel
theorem dX1_nearestTo_49 : decode cX1_nearestTo 49 = .ok (.iload 5, 2) := by decide +kernel
theorem dX1_nearestTo_51 : decode cX1_nearestTo 51 = .ok (.if_icmp .lt 6, 3) := by decide +kernel
theorem dX1_nearestTo_54 : decode cX1_nearestTo 54 = .ok (.goto 11, 3) := by decide +kernel
theorem dX1_nearestTo_57 : decode cX1_nearestTo 57 = .ok (.iload 6, 2) := by decide +kernel
theorem dX1_nearestTo_59 : decode cX1_nearestTo 59 = .ok (.istore 4, 2) := by decide +kernel
theorem dX1_nearestTo_61 : decode cX1_nearestTo 61 = .ok (.iload 7, 2) := by decide +kernel
theorem dX1_nearestTo_63 : decode cX1_nearestTo 63 = .ok (.istore 5, 2) := by decide +kernel
theorem dX1_nearestTo_65 : decode cX1_nearestTo 65 = .ok (.iinc 6 1, 3) := by decide +kernel
theorem dX1_nearestTo_68 : decode cX1_nearestTo 68 = .ok (.goto (-58), 3) := by decide +kernel
theorem dX1_nearestTo_71 : decode cX1_nearestTo 71 = .ok (.iload 4, 2) := by decide +kernel
theorem dX1_nearestTo_73 : decode cX1_nearestTo 73 = .ok (.ireturn, 1) := by decide +kernel
theorem dX1_placeOf_0 : decode cX1_placeOf 0 = .ok (.aload_n 0, 1) := by decide +kernel
theorem dX1_placeOf_1 : decode cX1_placeOf 1 = .ok (.iload_n 1, 1) := by decide +kernel
theorem dX1_placeOf_2 : decode cX1_placeOf 2 = .ok (.aload_n 2, 1) := by decide +kernel
theorem dX1_placeOf_3 : decode cX1_placeOf 3 = .ok (.aload_n 3, 1) := by decide +kernel
theorem dX1_placeOf_4 : decode cX1_placeOf 4 = .ok (.iconst (-1), 1) := by decide +kernel
theorem dX1_placeOf_5 : decode cX1_placeOf 5 = .ok (.invokevirtual 54, 3) := by decide +kernel
theorem dX1_placeOf_8 : decode cX1_placeOf 8 = .ok (.istore 4, 2) := by decide +kernel
theorem dX1_placeOf_10 : decode cX1_placeOf 10 = .ok (.iconst 0, 1) := by decide +kernel
theorem dX1_placeOf_11 : decode cX1_placeOf 11 = .ok (.istore 5, 2) := by decide +kernel
theorem dX1_placeOf_13 : decode cX1_placeOf 13 = .ok (.iconst 0, 1) := by decide +kernel
theorem dX1_placeOf_14 : decode cX1_placeOf 14 = .ok (.istore 6, 2) := by decide +kernel
theorem dX1_placeOf_16 : decode cX1_placeOf 16 = .ok (.iload 6, 2) := by decide +kernel
theorem dX1_placeOf_18 : decode cX1_placeOf 18 = .ok (.bipush 6, 2) := by decide +kernel
theorem dX1_placeOf_20 : decode cX1_placeOf 20 = .ok (.if_icmp .ge 61, 3) := by decide +kernel
theorem dX1_placeOf_23 : decode cX1_placeOf 23 = .ok (.aload_n 0, 1) := by decide +kernel
theorem dX1_placeOf_24 : decode cX1_placeOf 24 = .ok (.iload 6, 2) := by decide +kernel
theorem dX1_placeOf_26 : decode cX1_placeOf 26 = .ok (.invokevirtual 47, 3) := by decide +kernel
theorem dX1_placeOf_29 : decode cX1_placeOf 29 = .ok (.ifCond .eq 46, 3) := by decide +kernel
theorem dX1_placeOf_32 : decode cX1_placeOf 32 = .ok (.iload 6, 2) := by decide +kernel
theorem dX1_placeOf_34 : decode cX1_placeOf 34 = .ok (.iload_n 1, 1) := by decide +kernel
theorem dX1_placeOf_35 : decode cX1_placeOf 35 = .ok (.if_icmp .ne 6, 3) := by decide +kernel
theorem dX1_placeOf_38 : decode cX1_placeOf 38 = .ok (.goto 37, 3) := by decide +kernel
theorem dX1_placeOf_41 : decode cX1_placeOf 41 = .ok (.aload_n 0, 1) := by decide +kernel
theorem dX1_placeOf_42 : decode cX1_placeOf 42 = .ok (.iload 6, 2) := by decide +kernel
theorem dX1_placeOf_44 : decode cX1_placeOf 44 = .ok (.aload_n 2, 1) := by decide +kernel
theorem dX1_placeOf_45 : decode cX1_placeOf 45 = .ok (.aload_n 3, 1) := by decide +kernel
theorem dX1_placeOf_46 : decode cX1_placeOf 46 = .ok (.iconst (-1), 1) := by decide +kernel
theorem dX1_placeOf_47 : decode cX1_placeOf 47 = .ok (.invokevirtual 54, 3) := by decide +kernel
theorem dX1_placeOf_50 : decode cX1_placeOf 50 = .ok (.istore 7, 2) := by decide +kernel
theorem dX1_placeOf_52 : decode cX1_placeOf 52 = .ok (.iload 7, 2) := by decide +kernel
theorem dX1_placeOf_54 : decode cX1_placeOf 54 = .ok (.iload 4, 2) := by decide +kernel
theorem dX1_placeOf_56 : decode cX1_placeOf 56 = .ok (.if_icmp .lt 16, 3) := by decide +kernel
theorem dX1_placeOf_59 : decode cX1_placeOf 59 = .ok (.iload 7, 2) := by decide +kernel
theorem dX1_placeOf_61 : decode cX1_placeOf 61 = .ok (.iload 4, 2) := by decide +kernel
theorem dX1_placeOf_63 : decode cX1_placeOf 63 = .ok (.if_icmp .ne 12, 3) := by decide +kernel
theorem dX1_placeOf_66 : decode cX1_placeOf 66 = .ok (.iload 6, 2) := by decide +kernel
theorem dX1_placeOf_68 : decode cX1_placeOf 68 = .ok (.iload_n 1, 1) := by decide +kernel
theorem dX1_placeOf_69 : decode cX1_placeOf 69 = .ok (.if_icmp .ge 6, 3) := by decide +kernel
theorem dX1_placeOf_72 : decode cX1_placeOf 72 = .ok (.iinc 5 1, 3) := by decide +kernel
theorem dX1_placeOf_75 : decode cX1_placeOf 75 = .ok (.iinc 6 1, 3) := by decide +kernel
theorem dX1_placeOf_78 : decode cX1_placeOf 78 = .ok (.goto (-62), 3) := by decide +kernel
theorem dX1_placeOf_81 : decode cX1_placeOf 81 = .ok (.iload 5, 2) := by decide +kernel
theorem dX1_placeOf_83 : decode cX1_placeOf 83 = .ok (.ireturn, 1) := by decide +kernel
theorem dX2_init_0 : decode cX2_init 0 = .ok (.aload_n 0, 1) := by decide +kernel
theorem dX2_init_1 : decode cX2_init 1 = .ok (.invokespecial 3, 3) := by decide +kernel
theorem dX2_init_4 : decode cX2_init 4 = .ok (.aload_n 0, 1) := by decide +kernel
theorem dX2_init_5 : decode cX2_init 5 = .ok (.bipush 12, 2) := by decide +kernel
theorem dX2_init_7 : decode cX2_init 7 = .ok (.anewarray 9, 3) := by decide +kernel
theorem dX2_init_10 : decode cX2_init 10 = .ok (.putfield 11, 3) := by decide +kernel
theorem dX2_init_13 : decode cX2_init 13 = .ok (.aload_n 0, 1) := by decide +kernel
theorem dX2_init_14 : decode cX2_init 14 = .ok (.bipush 12, 2) := by decide +kernel
theorem dX2_init_16 : decode cX2_init 16 = .ok (.newarray .boolean, 2) := by decide +kernel
theorem dX2_init_18 : decode cX2_init 18 = .ok (.putfield 17, 3) := by decide +kernel
theorem dX2_init_21 : decode cX2_init 21 = .ok (.return_, 1) := by decide +kernel
theorem dX2_isFull_0 : decode cX2_isFull 0 = .ok (.aload_n 0, 1) := by decide +kernel
theorem dX2_isFull_1 : decode cX2_isFull 1 = .ok (.getfield 21, 3) := by decide +kernel
theorem dX2_isFull_4 : decode cX2_isFull 4 = .ok (.aload_n 0, 1) := by decide +kernel
theorem dX2_isFull_5 : decode cX2_isFull 5 = .ok (.getfield 11, 3) := by decide +kernel
theorem dX2_isFull_8 : decode cX2_isFull 8 = .ok (.arraylength, 1) := by decide +kernel
theorem dX2_isFull_9 : decode cX2_isFull 9 = .ok (.if_icmp .lt 7, 3) := by decide +kernel
theorem dX2_isFull_12 : decode cX2_isFull 12 = .ok (.iconst 1, 1) := by decide +kernel
theorem dX2_isFull_13 : decode cX2_isFull 13 = .ok (.goto 4, 3) := by decide +kernel
theorem dX2_isFull_16 : decode cX2_isFull 16 = .ok (.iconst 0, 1) := by decide +kernel
theorem dX2_isFull_17 : decode cX2_isFull 17 = .ok (.ireturn, 1) := by decide +kernel
theorem dX2_has_0 : decode cX2_has 0 = .ok (.iload_n 1, 1) := by decide +kernel
theorem dX2_has_1 : decode cX2_has 1 = .ok (.ifCond .lt 15, 3) := by decide +kernel
theorem dX2_has_4 : decode cX2_has 4 = .ok (.iload_n 1, 1) := by decide +kernel
theorem dX2_has_5 : decode cX2_has 5 = .ok (.aload_n 0, 1) := by decide +kernel
theorem dX2_has_6 : decode cX2_has 6 = .ok (.getfield 21, 3) := by decide +kernel
theorem dX2_has_9 : decode cX2_has 9 = .ok (.if_icmp .ge 7, 3) := by decide +kernel
theorem dX2_has_12 : decode cX2_has 12 = .ok (.iconst 1, 1) := by decide +kernel
theorem dX2_has_13 : decode cX2_has 13 = .ok (.goto 4, 3) := by decide +kernel
theorem dX2_has_16 : decode cX2_has 16 = .ok (.iconst 0, 1) := by decide +kernel
theorem dX2_has_17 : decode cX2_has 17 = .ok (.ireturn, 1) := by decide +kernel
theorem dX2_featureAt_0 : decode cX2_featureAt 0 = .ok (.iload_n 1, 1) := by decide +kernel
theorem dX2_featureAt_1 : decode cX2_featureAt 1 = .ok (.ifCond .lt 21, 3) := by decide +kernel
theorem dX2_featureAt_4 : decode cX2_featureAt 4 = .ok (.iload_n 1, 1) := by decide +kernel
theorem dX2_featureAt_5 : decode cX2_featureAt 5 = .ok (.aload_n 0, 1) := by decide +kernel
theorem dX2_featureAt_6 : decode cX2_featureAt 6 = .ok (.getfield 11, 3) := by decide +kernel
theorem dX2_featureAt_9 : decode cX2_featureAt 9 = .ok (.arraylength, 1) := by decide +kernel
theorem dX2_featureAt_10 : decode cX2_featureAt 10 = .ok (.if_icmp .ge 12, 3) := by decide +kernel
theorem dX2_featureAt_13 : decode cX2_featureAt 13 = .ok (.aload_n 0, 1) := by decide +kernel
theorem dX2_featureAt_14 : decode cX2_featureAt 14 = .ok (.getfield 11, 3) := by decide +kernel
theorem dX2_featureAt_17 : decode cX2_featureAt 17 = .ok (.iload_n 1, 1) := by decide +kernel
theorem dX2_featureAt_18 : decode cX2_featureAt 18 = .ok (.aaload, 1) := by decide +kernel
theorem dX2_featureAt_19 : decode cX2_featureAt 19 = .ok (.goto 4, 3) := by decide +kernel
theorem dX2_featureAt_22 : decode cX2_featureAt 22 = .ok (.aconst_null, 1) := by decide +kernel
theorem dX2_featureAt_23 : decode cX2_featureAt 23 = .ok (.areturn, 1) := by decide +kernel
theorem dX2_take_0 : decode cX2_take 0 = .ok (.aload_n 0, 1) := by decide +kernel
theorem dX2_take_1 : decode cX2_take 1 = .ok (.invokevirtual 25, 3) := by decide +kernel
theorem dX2_take_4 : decode cX2_take 4 = .ok (.ifCond .eq 6, 3) := by decide +kernel
theorem dX2_take_7 : decode cX2_take 7 = .ok (.bipush (-2), 2) := by decide +kernel
theorem dX2_take_9 : decode cX2_take 9 = .ok (.ireturn, 1) := by decide +kernel
theorem dX2_take_10 : decode cX2_take 10 = .ok (.aload_n 0, 1) := by decide +kernel
theorem dX2_take_11 : decode cX2_take 11 = .ok (.getfield 11, 3) := by decide +kernel
theorem dX2_take_14 : decode cX2_take 14 = .ok (.aload_n 0, 1) := by decide +kernel
theorem dX2_take_15 : decode cX2_take 15 = .ok (.getfield 21, 3) := by decide +kernel
theorem dX2_take_18 : decode cX2_take 18 = .ok (.aload_n 1, 1) := by decide +kernel
theorem dX2_take_19 : decode cX2_take 19 = .ok (.aastore, 1) := by decide +kernel
theorem dX2_take_20 : decode cX2_take 20 = .ok (.aload_n 0, 1) := by decide +kernel
theorem dX2_take_21 : decode cX2_take 21 = .ok (.getfield 17, 3) := by decide +kernel
theorem dX2_take_24 : decode cX2_take 24 = .ok (.aload_n 0, 1) := by decide +kernel
theorem dX2_take_25 : decode cX2_take 25 = .ok (.getfield 21, 3) := by decide +kernel
theorem dX2_take_28 : decode cX2_take 28 = .ok (.aload_n 1, 1) := by decide +kernel
theorem dX2_take_29 : decode cX2_take 29 = .ok (.getfield 29, 3) := by decide +kernel
theorem dX2_take_32 : decode cX2_take 32 = .ok (.ifCond .ne 7, 3) := by decide +kernel
theorem dX2_take_35 : decode cX2_take 35 = .ok (.iconst 1, 1) := by decide +kernel
theorem dX2_take_36 : decode cX2_take 36 = .ok (.goto 4, 3) := by decide +kernel
theorem dX2_take_39 : decode cX2_take 39 = .ok (.iconst 0, 1) := by decide +kernel
theorem dX2_take_40 : decode cX2_take 40 = .ok (.bastore, 1) := by decide +kernel
theorem dX2_take_41 : decode cX2_take 41 = .ok (.iconst 0, 1) := by decide +kernel
theorem dX2_take_42 : decode cX2_take 42 = .ok (.istore_n 3, 1) := by decide +kernel
theorem dX2_take_43 : decode cX2_take 43 = .ok (.iload_n 3, 1) := by decide +kernel
theorem dX2_take_44 : decode cX2_take 44 = .ok (.aload_n 2, 1) := by decide +kernel
theorem dX2_take_45 : decode cX2_take 45 = .ok (.arraylength, 1) := by decide +kernel
theorem dX2_take_46 : decode cX2_take 46 = .ok (.if_icmp .ge 40, 3) := by decide +kernel
theorem dX2_take_49 : decode cX2_take 49 = .ok (.aload_n 2, 1) := by decide +kernel
theorem dX2_take_50 : decode cX2_take 50 = .ok (.iload_n 3, 1) := by decide +kernel
theorem dX2_take_51 : decode cX2_take 51 = .ok (.aaload, 1) := by decide +kernel
theorem dX2_take_52 : decode cX2_take 52 = .ok (.astore 4, 2) := by decide +kernel
theorem dX2_take_54 : decode cX2_take 54 = .ok (.aload 4, 2) := by decide +kernel
theorem dX2_take_56 : decode cX2_take 56 = .ok (.ifnull 24, 3) := by decide +kernel
theorem dX2_take_59 : decode cX2_take 59 = .ok (.aload 4, 2) := by decide +kernel
theorem dX2_take_61 : decode cX2_take 61 = .ok (.getfield 32, 3) := by decide +kernel
theorem dX2_take_64 : decode cX2_take 64 = .ok (.aload_n 0, 1) := by decide +kernel
theorem dX2_take_65 : decode cX2_take 65 = .ok (.getfield 21, 3) := by decide +kernel
theorem dX2_take_68 : decode cX2_take 68 = .ok (.aload_n 1, 1) := by decide +kernel
theorem dX2_take_69 : decode cX2_take 69 = .ok (.aload 4, 2) := by decide +kernel
theorem dX2_take_71 : decode cX2_take 71 = .ok (.getfield 38, 3) := by decide +kernel
theorem dX2_take_74 : decode cX2_take 74 = .ok (.invokevirtual 42, 3) := by decide +kernel
theorem dX2_take_77 : decode cX2_take 77 = .ok (.invokevirtual 46, 3) := by decide +kernel
theorem dX2_take_80 : decode cX2_take 80 = .ok (.iinc 3 1, 3) := by decide +kernel
theorem dX2_take_83 : decode cX2_take 83 = .ok (.goto (-40), 3) := by decide +kernel
theorem dX2_take_86 : decode cX2_take 86 = .ok (.aload_n 0, 1) := by decide +kernel
theorem dX2_take_87 : decode cX2_take 87 = .ok (.dup, 1) := by decide +kernel
theorem dX2_take_88 : decode cX2_take 88 = .ok (.getfield 21, 3) := by decide +kernel
theorem dX2_take_91 : decode cX2_take 91 = .ok (.dup_x1, 1) := by decide +kernel
theorem dX2_take_92 : decode cX2_take 92 = .ok (.iconst 1, 1) := by decide +kernel
theorem dX2_take_93 : decode cX2_take 93 = .ok (.iadd, 1) := by decide +kernel
theorem dX2_take_94 : decode cX2_take 94 = .ok (.putfield 21, 3) := by decide +kernel
theorem dX2_take_97 : decode cX2_take 97 = .ok (.ireturn, 1) := by decide +kernel
theorem dX2_tallyText_0 : decode cX2_tallyText 0 = .ok (.aload_n 1, 1) := by decide +kernel
theorem dX2_tallyText_1 : decode cX2_tallyText 1 = .ok (.getfield 32, 3) := by decide +kernel
theorem dX2_tallyText_4 : decode cX2_tallyText 4 = .ok (.aload_n 1, 1) := by decide +kernel
theorem dX2_tallyText_5 : decode cX2_tallyText 5 = .ok (.getfield 38, 3) := by decide +kernel
theorem dX2_tallyText_8 : decode cX2_tallyText 8 = .ok (.getfield 52, 3) := by decide +kernel
theorem dX2_tallyText_11 : decode cX2_tallyText 11 = .ok (.putfield 57, 3) := by decide +kernel
theorem dX2_tallyText_14 : decode cX2_tallyText 14 = .ok (.aload_n 1, 1) := by decide +kernel
theorem dX2_tallyText_15 : decode cX2_tallyText 15 = .ok (.getfield 32, 3) := by decide +kernel
theorem dX2_tallyText_18 : decode cX2_tallyText 18 = .ok (.aload_n 1, 1) := by decide +kernel
theorem dX2_tallyText_19 : decode cX2_tallyText 19 = .ok (.getfield 38, 3) := by decide +kernel
theorem dX2_tallyText_22 : decode cX2_tallyText 22 = .ok (.getfield 58, 3) := by decide +kernel
theorem dX2_tallyText_25 : decode cX2_tallyText 25 = .ok (.putfield 61, 3) := by decide +kernel
theorem dX2_tallyText_28 : decode cX2_tallyText 28 = .ok (.iconst 0, 1) := by decide +kernel
theorem dX2_tallyText_29 : decode cX2_tallyText 29 = .ok (.istore_n 2, 1) := by decide +kernel
theorem dX2_tallyText_30 : decode cX2_tallyText 30 = .ok (.iload_n 2, 1) := by decide +kernel
theorem dX2_tallyText_31 : decode cX2_tallyText 31 = .ok (.aload_n 0, 1) := by decide +kernel
theorem dX2_tallyText_32 : decode cX2_tallyText 32 = .ok (.getfield 21, 3) := by decide +kernel
theorem dX2_tallyText_35 : decode cX2_tallyText 35 = .ok (.if_icmp .ge 35, 3) := by decide +kernel
theorem dX2_tallyText_38 : decode cX2_tallyText 38 = .ok (.aload_n 0, 1) := by decide +kernel
theorem dX2_tallyText_39 : decode cX2_tallyText 39 = .ok (.iload_n 2, 1) := by decide +kernel
theorem dX2_tallyText_40 : decode cX2_tallyText 40 = .ok (.invokevirtual 62, 3) := by decide +kernel
theorem dX2_tallyText_43 : decode cX2_tallyText 43 = .ok (.astore_n 3, 1) := by decide +kernel
theorem dX2_tallyText_44 : decode cX2_tallyText 44 = .ok (.aload_n 3, 1) := by decide +kernel
theorem dX2_tallyText_45 : decode cX2_tallyText 45 = .ok (.ifnull 19, 3) := by decide +kernel
theorem dX2_tallyText_48 : decode cX2_tallyText 48 = .ok (.aload_n 1, 1) := by decide +kernel
theorem dX2_tallyText_49 : decode cX2_tallyText 49 = .ok (.getfield 32, 3) := by decide +kernel
theorem dX2_tallyText_52 : decode cX2_tallyText 52 = .ok (.iload_n 2, 1) := by decide +kernel
theorem dX2_tallyText_53 : decode cX2_tallyText 53 = .ok (.aload_n 3, 1) := by decide +kernel
theorem dX2_tallyText_54 : decode cX2_tallyText 54 = .ok (.aload_n 1, 1) := by decide +kernel
theorem dX2_tallyText_55 : decode cX2_tallyText 55 = .ok (.getfield 38, 3) := by decide +kernel
theorem dX2_tallyText_58 : decode cX2_tallyText 58 = .ok (.invokevirtual 42, 3) := by decide +kernel
theorem dX2_tallyText_61 : decode cX2_tallyText 61 = .ok (.invokevirtual 46, 3) := by decide +kernel
theorem dX2_tallyText_64 : decode cX2_tallyText 64 = .ok (.iinc 2 1, 3) := by decide +kernel
theorem dX2_tallyText_67 : decode cX2_tallyText 67 = .ok (.goto (-37), 3) := by decide +kernel
theorem dX2_tallyText_70 : decode cX2_tallyText 70 = .ok (.return_, 1) := by decide +kernel
theorem dX2_tallyWords_0 : decode cX2_tallyWords 0 = .ok (.aload 4, 2) := by decide +kernel
theorem dX2_tallyWords_2 : decode cX2_tallyWords 2 = .ok (.invokevirtual 66, 3) := by decide +kernel
theorem dX2_tallyWords_5 : decode cX2_tallyWords 5 = .ok (.aload 4, 2) := by decide +kernel
theorem dX2_tallyWords_7 : decode cX2_tallyWords 7 = .ok (.iload_n 3, 1) := by decide +kernel
theorem dX2_tallyWords_8 : decode cX2_tallyWords 8 = .ok (.iload_n 2, 1) := by decide +kernel
theorem dX2_tallyWords_9 : decode cX2_tallyWords 9 = .ok (.isub, 1) := by decide +kernel
theorem dX2_tallyWords_10 : decode cX2_tallyWords 10 = .ok (.putfield 57, 3) := by decide +kernel
theorem dX2_tallyWords_13 : decode cX2_tallyWords 13 = .ok (.iconst 0, 1) := by decide +kernel
theorem dX2_tallyWords_14 : decode cX2_tallyWords 14 = .ok (.istore 5, 2) := by decide +kernel
theorem dX2_tallyWords_16 : decode cX2_tallyWords 16 = .ok (.iload 5, 2) := by decide +kernel
theorem dX2_tallyWords_18 : decode cX2_tallyWords 18 = .ok (.aload_n 0, 1) := by decide +kernel
theorem dX2_tallyWords_19 : decode cX2_tallyWords 19 = .ok (.getfield 21, 3) := by decide +kernel
theorem dX2_tallyWords_22 : decode cX2_tallyWords 22 = .ok (.if_icmp .ge 37, 3) := by decide +kernel
theorem dX2_tallyWords_25 : decode cX2_tallyWords 25 = .ok (.aload_n 0, 1) := by decide +kernel
theorem dX2_tallyWords_26 : decode cX2_tallyWords 26 = .ok (.iload 5, 2) := by decide +kernel
theorem dX2_tallyWords_28 : decode cX2_tallyWords 28 = .ok (.invokevirtual 62, 3) := by decide +kernel
theorem dX2_tallyWords_31 : decode cX2_tallyWords 31 = .ok (.astore 6, 2) := by decide +kernel
theorem dX2_tallyWords_33 : decode cX2_tallyWords 33 = .ok (.aload 6, 2) := by decide +kernel
theorem dX2_tallyWords_35 : decode cX2_tallyWords 35 = .ok (.ifnull 18, 3) := by decide +kernel
theorem dX2_tallyWords_38 : decode cX2_tallyWords 38 = .ok (.aload 4, 2) := by decide +kernel
theorem dX2_tallyWords_40 : decode cX2_tallyWords 40 = .ok (.iload 5, 2) := by decide +kernel
theorem dX2_tallyWords_42 : decode cX2_tallyWords 42 = .ok (.aload 6, 2) := by decide +kernel
theorem dX2_tallyWords_44 : decode cX2_tallyWords 44 = .ok (.aload_n 1, 1) := by decide +kernel
theorem dX2_tallyWords_45 : decode cX2_tallyWords 45 = .ok (.iload_n 2, 1) := by decide +kernel
theorem dX2_tallyWords_46 : decode cX2_tallyWords 46 = .ok (.iload_n 3, 1) := by decide +kernel
theorem dX2_tallyWords_47 : decode cX2_tallyWords 47 = .ok (.invokevirtual 69, 3) := by decide +kernel
theorem dX2_tallyWords_50 : decode cX2_tallyWords 50 = .ok (.invokevirtual 46, 3) := by decide +kernel
theorem dX2_tallyWords_53 : decode cX2_tallyWords 53 = .ok (.iinc 5 1, 3) := by decide +kernel
theorem dX2_tallyWords_56 : decode cX2_tallyWords 56 = .ok (.goto (-40), 3) := by decide +kernel
theorem dX2_tallyWords_59 : decode cX2_tallyWords 59 = .ok (.return_, 1) := by decide +kernel
theorem dX2_wholeOf_0 : decode cX2_wholeOf 0 = .ok (.iload_n 2, 1) := by decide +kernel
theorem dX2_wholeOf_1 : decode cX2_wholeOf 1 = .ok (.ifCond .lt 28, 3) := by decide +kernel
theorem dX2_wholeOf_4 : decode cX2_wholeOf 4 = .ok (.iload_n 2, 1) := by decide +kernel
theorem dX2_wholeOf_5 : decode cX2_wholeOf 5 = .ok (.aload_n 0, 1) := by decide +kernel
theorem dX2_wholeOf_6 : decode cX2_wholeOf 6 = .ok (.getfield 17, 3) := by decide +kernel
theorem dX2_wholeOf_9 : decode cX2_wholeOf 9 = .ok (.arraylength, 1) := by decide +kernel
theorem dX2_wholeOf_10 : decode cX2_wholeOf 10 = .ok (.if_icmp .ge 19, 3) := by decide +kernel
theorem dX2_wholeOf_13 : decode cX2_wholeOf 13 = .ok (.aload_n 0, 1) := by decide +kernel
theorem dX2_wholeOf_14 : decode cX2_wholeOf 14 = .ok (.getfield 17, 3) := by decide +kernel
theorem dX2_wholeOf_17 : decode cX2_wholeOf 17 = .ok (.iload_n 2, 1) := by decide +kernel
theorem dX2_wholeOf_18 : decode cX2_wholeOf 18 = .ok (.baload, 1) := by decide +kernel
theorem dX2_wholeOf_19 : decode cX2_wholeOf 19 = .ok (.ifCond .eq 10, 3) := by decide +kernel
theorem dX2_wholeOf_22 : decode cX2_wholeOf 22 = .ok (.aload_n 1, 1) := by decide +kernel
theorem dX2_wholeOf_23 : decode cX2_wholeOf 23 = .ok (.getfield 61, 3) := by decide +kernel
theorem dX2_wholeOf_26 : decode cX2_wholeOf 26 = .ok (.goto 7, 3) := by decide +kernel
theorem dX2_wholeOf_29 : decode cX2_wholeOf 29 = .ok (.aload_n 1, 1) := by decide +kernel
theorem dX2_wholeOf_30 : decode cX2_wholeOf 30 = .ok (.getfield 57, 3) := by decide +kernel
theorem dX2_wholeOf_33 : decode cX2_wholeOf 33 = .ok (.ireturn, 1) := by decide +kernel
theorem dX2_rateIn_0 : decode cX2_rateIn 0 = .ok (.aload_n 1, 1) := by decide +kernel
theorem dX2_rateIn_1 : decode cX2_rateIn 1 = .ok (.iload_n 2, 1) := by decide +kernel
theorem dX2_rateIn_2 : decode cX2_rateIn 2 = .ok (.invokevirtual 73, 3) := by decide +kernel
theorem dX2_rateIn_5 : decode cX2_rateIn 5 = .ok (.aload_n 0, 1) := by decide +kernel
theorem dX2_rateIn_6 : decode cX2_rateIn 6 = .ok (.aload_n 1, 1) := by decide +kernel
theorem dX2_rateIn_7 : decode cX2_rateIn 7 = .ok (.iload_n 2, 1) := by decide +kernel
theorem dX2_rateIn_8 : decode cX2_rateIn 8 = .ok (.invokevirtual 77, 3) := by decide +kernel
theorem dX2_rateIn_11 : decode cX2_rateIn 11 = .ok (.invokestatic 81, 3) := by decide +kernel
theorem dX2_rateIn_14 : decode cX2_rateIn 14 = .ok (.ireturn, 1) := by decide +kernel
theorem dX2_readRates_0 : decode cX2_readRates 0 = .ok (.iconst 0, 1) := by decide +kernel
theorem dX2_readRates_1 : decode cX2_readRates 1 = .ok (.istore_n 3, 1) := by decide +kernel
theorem dX2_readRates_2 : decode cX2_readRates 2 = .ok (.iload_n 3, 1) := by decide +kernel
theorem dX2_readRates_3 : decode cX2_readRates 3 = .ok (.aload_n 0, 1) := by decide +kernel
theorem dX2_readRates_4 : decode cX2_readRates 4 = .ok (.getfield 21, 3) := by decide +kernel
theorem dX2_readRates_7 : decode cX2_readRates 7 = .ok (.if_icmp .ge 24, 3) := by decide +kernel
theorem dX2_readRates_10 : decode cX2_readRates 10 = .ok (.iload_n 3, 1) := by decide +kernel
theorem dX2_readRates_11 : decode cX2_readRates 11 = .ok (.aload_n 2, 1) := by decide +kernel
theorem dX2_readRates_12 : decode cX2_readRates 12 = .ok (.arraylength, 1) := by decide +kernel
theorem dX2_readRates_13 : decode cX2_readRates 13 = .ok (.if_icmp .ge 18, 3) := by decide +kernel
theorem dX2_readRates_16 : decode cX2_readRates 16 = .ok (.aload_n 2, 1) := by decide +kernel
theorem dX2_readRates_17 : decode cX2_readRates 17 = .ok (.iload_n 3, 1) := by decide +kernel
theorem dX2_readRates_18 : decode cX2_readRates 18 = .ok (.aload_n 0, 1) := by decide +kernel
theorem dX2_readRates_19 : decode cX2_readRates 19 = .ok (.aload_n 1, 1) := by decide +kernel
theorem dX2_readRates_20 : decode cX2_readRates 20 = .ok (.iload_n 3, 1) := by decide +kernel
theorem dX2_readRates_21 : decode cX2_readRates 21 = .ok (.invokevirtual 85, 3) := by decide +kernel
theorem dX2_readRates_24 : decode cX2_readRates 24 = .ok (.iastore, 1) := by decide +kernel
theorem dX2_readRates_25 : decode cX2_readRates 25 = .ok (.iinc 3 1, 3) := by decide +kernel
theorem dX2_readRates_28 : decode cX2_readRates 28 = .ok (.goto (-26), 3) := by decide +kernel
theorem dX2_readRates_31 : decode cX2_readRates 31 = .ok (.return_, 1) := by decide +kernel
theorem dX2_featuresOf_0 : decode cX2_featuresOf 0 = .ok (.lload_n 1, 1) := by decide +kernel
theorem dX2_featuresOf_1 : decode cX2_featuresOf 1 = .ok (.l2i, 1) := by decide +kernel
theorem dX2_featuresOf_2 : decode cX2_featuresOf 2 = .ok (.iconst 1, 1) := by decide +kernel
theorem dX2_featuresOf_3 : decode cX2_featuresOf 3 = .ok (.aload_n 0, 1) := by decide +kernel
theorem dX2_featuresOf_4 : decode cX2_featuresOf 4 = .ok (.getfield 21, 3) := by decide +kernel
theorem dX2_featuresOf_7 : decode cX2_featuresOf 7 = .ok (.ishl, 1) := by decide +kernel
theorem dX2_featuresOf_8 : decode cX2_featuresOf 8 = .ok (.iconst 1, 1) := by decide +kernel
theorem dX2_featuresOf_9 : decode cX2_featuresOf 9 = .ok (.isub, 1) := by decide +kernel
theorem dX2_featuresOf_10 : decode cX2_featuresOf 10 = .ok (.iand, 1) := by decide +kernel
theorem dX2_featuresOf_11 : decode cX2_featuresOf 11 = .ok (.istore_n 3, 1) := by decide +kernel
theorem dX2_featuresOf_12 : decode cX2_featuresOf 12 = .ok (.iload_n 3, 1) := by decide +kernel
theorem dX2_featuresOf_13 : decode cX2_featuresOf 13 = .ok (.ifCond .ne 7, 3) := by decide +kernel
theorem dX2_featuresOf_16 : decode cX2_featuresOf 16 = .ok (.iconst (-1), 1) := by decide +kernel
theorem dX2_featuresOf_17 : decode cX2_featuresOf 17 = .ok (.goto 4, 3) := by decide +kernel
theorem dX2_featuresOf_20 : decode cX2_featuresOf 20 = .ok (.iload_n 3, 1) := by decide +kernel
theorem dX2_featuresOf_21 : decode cX2_featuresOf 21 = .ok (.ireturn, 1) := by decide +kernel
theorem dX2_wordFeatures_0 : decode cX2_wordFeatures 0 = .ok (.iconst 0, 1) := by decide +kernel
theorem dX2_wordFeatures_1 : decode cX2_wordFeatures 1 = .ok (.istore_n 1, 1) := by decide +kernel
theorem dX2_wordFeatures_2 : decode cX2_wordFeatures 2 = .ok (.iconst 0, 1) := by decide +kernel
theorem dX2_wordFeatures_3 : decode cX2_wordFeatures 3 = .ok (.istore_n 2, 1) := by decide +kernel
theorem dX2_wordFeatures_4 : decode cX2_wordFeatures 4 = .ok (.iload_n 2, 1) := by decide +kernel
theorem dX2_wordFeatures_5 : decode cX2_wordFeatures 5 = .ok (.aload_n 0, 1) := by decide +kernel
theorem dX2_wordFeatures_6 : decode cX2_wordFeatures 6 = .ok (.getfield 21, 3) := by decide +kernel
theorem dX2_wordFeatures_9 : decode cX2_wordFeatures 9 = .ok (.if_icmp .ge 33, 3) := by decide +kernel
theorem dX2_wordFeatures_12 : decode cX2_wordFeatures 12 = .ok (.iload_n 2, 1) := by decide +kernel
theorem dX2_wordFeatures_13 : decode cX2_wordFeatures 13 = .ok (.aload_n 0, 1) := by decide +kernel
theorem dX2_wordFeatures_14 : decode cX2_wordFeatures 14 = .ok (.getfield 17, 3) := by decide +kernel
theorem dX2_wordFeatures_17 : decode cX2_wordFeatures 17 = .ok (.arraylength, 1) := by decide +kernel
theorem dX2_wordFeatures_18 : decode cX2_wordFeatures 18 = .ok (.if_icmp .ge 24, 3) := by decide +kernel
theorem dX2_wordFeatures_21 : decode cX2_wordFeatures 21 = .ok (.aload_n 0, 1) := by decide +kernel
theorem dX2_wordFeatures_22 : decode cX2_wordFeatures 22 = .ok (.getfield 17, 3) := by decide +kernel
theorem dX2_wordFeatures_25 : decode cX2_wordFeatures 25 = .ok (.iload_n 2, 1) := by decide +kernel
theorem dX2_wordFeatures_26 : decode cX2_wordFeatures 26 = .ok (.baload, 1) := by decide +kernel
theorem dX2_wordFeatures_27 : decode cX2_wordFeatures 27 = .ok (.ifCond .ne 9, 3) := by decide +kernel
theorem dX2_wordFeatures_30 : decode cX2_wordFeatures 30 = .ok (.iload_n 1, 1) := by decide +kernel
theorem dX2_wordFeatures_31 : decode cX2_wordFeatures 31 = .ok (.iconst 1, 1) := by decide +kernel
theorem dX2_wordFeatures_32 : decode cX2_wordFeatures 32 = .ok (.iload_n 2, 1) := by decide +kernel
theorem dX2_wordFeatures_33 : decode cX2_wordFeatures 33 = .ok (.ishl, 1) := by decide +kernel
theorem dX2_wordFeatures_34 : decode cX2_wordFeatures 34 = .ok (.ior, 1) := by decide +kernel
theorem dX2_wordFeatures_35 : decode cX2_wordFeatures 35 = .ok (.istore_n 1, 1) := by decide +kernel
theorem dX2_wordFeatures_36 : decode cX2_wordFeatures 36 = .ok (.iinc 2 1, 3) := by decide +kernel
theorem dX2_wordFeatures_39 : decode cX2_wordFeatures 39 = .ok (.goto (-35), 3) := by decide +kernel
theorem dX2_wordFeatures_42 : decode cX2_wordFeatures 42 = .ok (.iload_n 1, 1) := by decide +kernel
theorem dX2_wordFeatures_43 : decode cX2_wordFeatures 43 = .ok (.ireturn, 1) := by decide +kernel
theorem dX2_farness_0 : decode cX2_farness 0 = .ok (.iconst 0, 1) := by decide +kernel
theorem dX2_farness_1 : decode cX2_farness 1 = .ok (.istore 4, 2) := by decide +kernel
theorem dX2_farness_3 : decode cX2_farness 3 = .ok (.iconst 0, 1) := by decide +kernel
theorem dX2_farness_4 : decode cX2_farness 4 = .ok (.istore 5, 2) := by decide +kernel
theorem dX2_farness_6 : decode cX2_farness 6 = .ok (.iload 5, 2) := by decide +kernel
theorem dX2_farness_8 : decode cX2_farness 8 = .ok (.aload_n 0, 1) := by decide +kernel
theorem dX2_farness_9 : decode cX2_farness 9 = .ok (.getfield 21, 3) := by decide +kernel
theorem dX2_farness_12 : decode cX2_farness 12 = .ok (.if_icmp .ge 71, 3) := by decide +kernel
theorem dX2_farness_15 : decode cX2_farness 15 = .ok (.iload 5, 2) := by decide +kernel
theorem dX2_farness_17 : decode cX2_farness 17 = .ok (.aload_n 1, 1) := by decide +kernel
theorem dX2_farness_18 : decode cX2_farness 18 = .ok (.arraylength, 1) := by decide +kernel
theorem dX2_farness_19 : decode cX2_farness 19 = .ok (.if_icmp .ge 64, 3) := by decide +kernel
theorem dX2_farness_22 : decode cX2_farness 22 = .ok (.iload 5, 2) := by decide +kernel
theorem dX2_farness_24 : decode cX2_farness 24 = .ok (.aload_n 2, 1) := by decide +kernel
theorem dX2_farness_25 : decode cX2_farness 25 = .ok (.arraylength, 1) := by decide +kernel
theorem dX2_farness_26 : decode cX2_farness 26 = .ok (.if_icmp .ge 57, 3) := by decide +kernel
theorem dX2_farness_29 : decode cX2_farness 29 = .ok (.iload_n 3, 1) := by decide +kernel
theorem dX2_farness_30 : decode cX2_farness 30 = .ok (.iload 5, 2) := by decide +kernel
theorem dX2_farness_32 : decode cX2_farness 32 = .ok (.iushr, 1) := by decide +kernel
theorem dX2_farness_33 : decode cX2_farness 33 = .ok (.iconst 1, 1) := by decide +kernel
theorem dX2_farness_34 : decode cX2_farness 34 = .ok (.iand, 1) := by decide +kernel
theorem dX2_farness_35 : decode cX2_farness 35 = .ok (.ifCond .ne 6, 3) := by decide +kernel
theorem dX2_farness_38 : decode cX2_farness 38 = .ok (.goto 39, 3) := by decide +kernel
theorem dX2_farness_41 : decode cX2_farness 41 = .ok (.aload_n 1, 1) := by decide +kernel
theorem dX2_farness_42 : decode cX2_farness 42 = .ok (.iload 5, 2) := by decide +kernel
theorem dX2_farness_44 : decode cX2_farness 44 = .ok (.iaload, 1) := by decide +kernel
theorem dX2_farness_45 : decode cX2_farness 45 = .ok (.aload_n 2, 1) := by decide +kernel
theorem dX2_farness_46 : decode cX2_farness 46 = .ok (.iload 5, 2) := by decide +kernel
theorem dX2_farness_48 : decode cX2_farness 48 = .ok (.iaload, 1) := by decide +kernel
theorem dX2_farness_49 : decode cX2_farness 49 = .ok (.isub, 1) := by decide +kernel
theorem dX2_farness_50 : decode cX2_farness 50 = .ok (.invokestatic 88, 3) := by decide +kernel
theorem dX2_farness_53 : decode cX2_farness 53 = .ok (.istore 6, 2) := by decide +kernel
theorem dX2_farness_55 : decode cX2_farness 55 = .ok (.iload 4, 2) := by decide +kernel
theorem dX2_farness_57 : decode cX2_farness 57 = .ok (.aload_n 0, 1) := by decide +kernel
theorem dX2_farness_58 : decode cX2_farness 58 = .ok (.getfield 93, 3) := by decide +kernel
theorem dX2_farness_61 : decode cX2_farness 61 = .ok (.ifCond .ne 8, 3) := by decide +kernel
theorem dX2_farness_64 : decode cX2_farness 64 = .ok (.iload 6, 2) := by decide +kernel
theorem dX2_farness_66 : decode cX2_farness 66 = .ok (.goto 8, 3) := by decide +kernel
theorem dX2_farness_69 : decode cX2_farness 69 = .ok (.iload 6, 2) := by decide +kernel
theorem dX2_farness_71 : decode cX2_farness 71 = .ok (.iload 6, 2) := by decide +kernel
theorem dX2_farness_73 : decode cX2_farness 73 = .ok (.imul, 1) := by decide +kernel
theorem dX2_farness_74 : decode cX2_farness 74 = .ok (.iadd, 1) := by decide +kernel
theorem dX2_farness_75 : decode cX2_farness 75 = .ok (.istore 4, 2) := by decide +kernel
theorem dX2_farness_77 : decode cX2_farness 77 = .ok (.iinc 5 1, 3) := by decide +kernel
theorem dX2_farness_80 : decode cX2_farness 80 = .ok (.goto (-74), 3) := by decide +kernel
theorem dX2_farness_83 : decode cX2_farness 83 = .ok (.iload 4, 2) := by decide +kernel
theorem dX2_farness_85 : decode cX2_farness 85 = .ok (.ireturn, 1) := by decide +kernel
theorem dX3_init_0 : decode cX3_init 0 = .ok (.aload_n 0, 1) := by decide +kernel
theorem dX3_init_1 : decode cX3_init 1 = .ok (.invokespecial 3, 3) := by decide +kernel
theorem dX3_init_4 : decode cX3_init 4 = .ok (.aload_n 0, 1) := by decide +kernel
theorem dX3_init_5 : decode cX3_init 5 = .ok (.bipush 100, 2) := by decide +kernel
theorem dX3_init_7 : decode cX3_init 7 = .ok (.newarray .int, 2) := by decide +kernel
theorem dX3_init_9 : decode cX3_init 9 = .ok (.putfield 9, 3) := by decide +kernel
theorem dX3_init_12 : decode cX3_init 12 = .ok (.aload_n 0, 1) := by decide +kernel
theorem dX3_init_13 : decode cX3_init 13 = .ok (.bipush 100, 2) := by decide +kernel
theorem dX3_init_15 : decode cX3_init 15 = .ok (.newarray .int, 2) := by decide +kernel
theorem dX3_init_17 : decode cX3_init 17 = .ok (.putfield 15, 3) := by decide +kernel
theorem dX3_init_20 : decode cX3_init 20 = .ok (.aload_n 0, 1) := by decide +kernel
theorem dX3_init_21 : decode cX3_init 21 = .ok (.bipush 101, 2) := by decide +kernel
theorem dX3_init_23 : decode cX3_init 23 = .ok (.newarray .long, 2) := by decide +kernel
theorem dX3_init_25 : decode cX3_init 25 = .ok (.putfield 18, 3) := by decide +kernel
theorem dX3_init_28 : decode cX3_init 28 = .ok (.aload_n 0, 1) := by decide +kernel
theorem dX3_init_29 : decode cX3_init 29 = .ok (.bipush 101, 2) := by decide +kernel
theorem dX3_init_31 : decode cX3_init 31 = .ok (.newarray .long, 2) := by decide +kernel
theorem dX3_init_33 : decode cX3_init 33 = .ok (.putfield 22, 3) := by decide +kernel
theorem dX3_init_36 : decode cX3_init 36 = .ok (.aload_n 0, 1) := by decide +kernel
theorem dX3_init_37 : decode cX3_init 37 = .ok (.bipush 100, 2) := by decide +kernel
theorem dX3_init_39 : decode cX3_init 39 = .ok (.newarray .int, 2) := by decide +kernel
theorem dX3_init_41 : decode cX3_init 41 = .ok (.putfield 25, 3) := by decide +kernel
theorem dX3_init_44 : decode cX3_init 44 = .ok (.aload_n 0, 1) := by decide +kernel
theorem dX3_init_45 : decode cX3_init 45 = .ok (.bipush 12, 2) := by decide +kernel
theorem dX3_init_47 : decode cX3_init 47 = .ok (.newarray .int, 2) := by decide +kernel
theorem dX3_init_49 : decode cX3_init 49 = .ok (.putfield 28, 3) := by decide +kernel
theorem dX3_init_52 : decode cX3_init 52 = .ok (.aload_n 0, 1) := by decide +kernel
theorem dX3_init_53 : decode cX3_init 53 = .ok (.new 31, 3) := by decide +kernel
theorem dX3_init_56 : decode cX3_init 56 = .ok (.dup, 1) := by decide +kernel
theorem dX3_init_57 : decode cX3_init 57 = .ok (.invokespecial 33, 3) := by decide +kernel
theorem dX3_init_60 : decode cX3_init 60 = .ok (.putfield 34, 3) := by decide +kernel
theorem dX3_init_63 : decode cX3_init 63 = .ok (.return_, 1) := by decide +kernel
theorem dX3_priceWindows_0 : decode cX3_priceWindows 0 = .ok (.aload 6, 2) := by decide +kernel
theorem dX3_priceWindows_2 : decode cX3_priceWindows 2 = .ok (.invokevirtual 38, 3) := by decide +kernel
theorem dX3_priceWindows_5 : decode cX3_priceWindows 5 = .ok (.istore 7, 2) := by decide +kernel
theorem dX3_priceWindows_7 : decode cX3_priceWindows 7 = .ok (.aload_n 0, 1) := by decide +kernel
theorem dX3_priceWindows_8 : decode cX3_priceWindows 8 = .ok (.iconst 0, 1) := by decide +kernel
theorem dX3_priceWindows_9 : decode cX3_priceWindows 9 = .ok (.putfield 44, 3) := by decide +kernel
theorem dX3_priceWindows_12 : decode cX3_priceWindows 12 = .ok (.iconst 0, 1) := by decide +kernel
theorem dX3_priceWindows_13 : decode cX3_priceWindows 13 = .ok (.istore 8, 2) := by decide +kernel
theorem dX3_priceWindows_15 : decode cX3_priceWindows 15 = .ok (.iload 8, 2) := by decide +kernel
theorem dX3_priceWindows_17 : decode cX3_priceWindows 17 = .ok (.aload_n 1, 1) := by decide +kernel
theorem dX3_priceWindows_18 : decode cX3_priceWindows 18 = .ok (.getfield 48, 3) := by decide +kernel
theorem dX3_priceWindows_21 : decode cX3_priceWindows 21 = .ok (.if_icmp .ge 114, 3) := by decide +kernel
theorem dX3_priceWindows_24 : decode cX3_priceWindows 24 = .ok (.aload_n 0, 1) := by decide +kernel
theorem dX3_priceWindows_25 : decode cX3_priceWindows 25 = .ok (.getfield 44, 3) := by decide +kernel
theorem dX3_priceWindows_28 : decode cX3_priceWindows 28 = .ok (.bipush 100, 2) := by decide +kernel
theorem dX3_priceWindows_30 : decode cX3_priceWindows 30 = .ok (.if_icmp .ge 105, 3) := by decide +kernel
theorem dX3_priceWindows_33 : decode cX3_priceWindows 33 = .ok (.aload 6, 2) := by decide +kernel
theorem dX3_priceWindows_35 : decode cX3_priceWindows 35 = .ok (.aload_n 1, 1) := by decide +kernel
theorem dX3_priceWindows_36 : decode cX3_priceWindows 36 = .ok (.iload 8, 2) := by decide +kernel
theorem dX3_priceWindows_38 : decode cX3_priceWindows 38 = .ok (.iload 8, 2) := by decide +kernel
theorem dX3_priceWindows_40 : decode cX3_priceWindows 40 = .ok (.iload_n 2, 1) := by decide +kernel
theorem dX3_priceWindows_41 : decode cX3_priceWindows 41 = .ok (.iadd, 1) := by decide +kernel
theorem dX3_priceWindows_42 : decode cX3_priceWindows 42 = .ok (.aload_n 1, 1) := by decide +kernel
theorem dX3_priceWindows_43 : decode cX3_priceWindows 43 = .ok (.getfield 48, 3) := by decide +kernel
theorem dX3_priceWindows_46 : decode cX3_priceWindows 46 = .ok (.invokestatic 53, 3) := by decide +kernel
theorem dX3_priceWindows_49 : decode cX3_priceWindows 49 = .ok (.aload_n 0, 1) := by decide +kernel
theorem dX3_priceWindows_50 : decode cX3_priceWindows 50 = .ok (.getfield 34, 3) := by decide +kernel
theorem dX3_priceWindows_53 : decode cX3_priceWindows 53 = .ok (.invokevirtual 59, 3) := by decide +kernel
theorem dX3_priceWindows_56 : decode cX3_priceWindows 56 = .ok (.aload 6, 2) := by decide +kernel
theorem dX3_priceWindows_58 : decode cX3_priceWindows 58 = .ok (.aload_n 0, 1) := by decide +kernel
theorem dX3_priceWindows_59 : decode cX3_priceWindows 59 = .ok (.getfield 34, 3) := by decide +kernel
theorem dX3_priceWindows_62 : decode cX3_priceWindows 62 = .ok (.aload_n 0, 1) := by decide +kernel
theorem dX3_priceWindows_63 : decode cX3_priceWindows 63 = .ok (.getfield 28, 3) := by decide +kernel
theorem dX3_priceWindows_66 : decode cX3_priceWindows 66 = .ok (.invokevirtual 63, 3) := by decide +kernel
theorem dX3_priceWindows_69 : decode cX3_priceWindows 69 = .ok (.aload_n 0, 1) := by decide +kernel
theorem dX3_priceWindows_70 : decode cX3_priceWindows 70 = .ok (.getfield 9, 3) := by decide +kernel
theorem dX3_priceWindows_73 : decode cX3_priceWindows 73 = .ok (.aload_n 0, 1) := by decide +kernel
theorem dX3_priceWindows_74 : decode cX3_priceWindows 74 = .ok (.getfield 44, 3) := by decide +kernel
theorem dX3_priceWindows_77 : decode cX3_priceWindows 77 = .ok (.aload 5, 2) := by decide +kernel
theorem dX3_priceWindows_79 : decode cX3_priceWindows 79 = .ok (.iload_n 3, 1) := by decide +kernel
theorem dX3_priceWindows_80 : decode cX3_priceWindows 80 = .ok (.aload_n 0, 1) := by decide +kernel
theorem dX3_priceWindows_81 : decode cX3_priceWindows 81 = .ok (.getfield 28, 3) := by decide +kernel
theorem dX3_priceWindows_84 : decode cX3_priceWindows 84 = .ok (.aload 6, 2) := by decide +kernel
theorem dX3_priceWindows_86 : decode cX3_priceWindows 86 = .ok (.iload 7, 2) := by decide +kernel
theorem dX3_priceWindows_88 : decode cX3_priceWindows 88 = .ok (.invokevirtual 67, 3) := by decide +kernel
theorem dX3_priceWindows_91 : decode cX3_priceWindows 91 = .ok (.iastore, 1) := by decide +kernel
theorem dX3_priceWindows_92 : decode cX3_priceWindows 92 = .ok (.aload_n 0, 1) := by decide +kernel
theorem dX3_priceWindows_93 : decode cX3_priceWindows 93 = .ok (.getfield 15, 3) := by decide +kernel
theorem dX3_priceWindows_96 : decode cX3_priceWindows 96 = .ok (.aload_n 0, 1) := by decide +kernel
theorem dX3_priceWindows_97 : decode cX3_priceWindows 97 = .ok (.getfield 44, 3) := by decide +kernel
theorem dX3_priceWindows_100 : decode cX3_priceWindows 100 = .ok (.aload 5, 2) := by decide +kernel
theorem dX3_priceWindows_102 : decode cX3_priceWindows 102 = .ok (.iload 4, 2) := by decide +kernel
theorem dX3_priceWindows_104 : decode cX3_priceWindows 104 = .ok (.aload_n 0, 1) := by decide +kernel
theorem dX3_priceWindows_105 : decode cX3_priceWindows 105 = .ok (.getfield 28, 3) := by decide +kernel
theorem dX3_priceWindows_108 : decode cX3_priceWindows 108 = .ok (.aload 6, 2) := by decide +kernel
theorem dX3_priceWindows_110 : decode cX3_priceWindows 110 = .ok (.iload 7, 2) := by decide +kernel
theorem dX3_priceWindows_112 : decode cX3_priceWindows 112 = .ok (.invokevirtual 67, 3) := by decide +kernel
theorem dX3_priceWindows_115 : decode cX3_priceWindows 115 = .ok (.iastore, 1) := by decide +kernel
theorem dX3_priceWindows_116 : decode cX3_priceWindows 116 = .ok (.aload_n 0, 1) := by decide +kernel
theorem dX3_priceWindows_117 : decode cX3_priceWindows 117 = .ok (.dup, 1) := by decide +kernel
theorem dX3_priceWindows_118 : decode cX3_priceWindows 118 = .ok (.getfield 44, 3) := by decide +kernel
theorem dX3_priceWindows_121 : decode cX3_priceWindows 121 = .ok (.iconst 1, 1) := by decide +kernel
theorem dX3_priceWindows_122 : decode cX3_priceWindows 122 = .ok (.iadd, 1) := by decide +kernel
theorem dX3_priceWindows_123 : decode cX3_priceWindows 123 = .ok (.putfield 44, 3) := by decide +kernel
theorem dX3_priceWindows_126 : decode cX3_priceWindows 126 = .ok (.iload 8, 2) := by decide +kernel
theorem dX3_priceWindows_128 : decode cX3_priceWindows 128 = .ok (.iload_n 2, 1) := by decide +kernel
theorem dX3_priceWindows_129 : decode cX3_priceWindows 129 = .ok (.iadd, 1) := by decide +kernel
theorem dX3_priceWindows_130 : decode cX3_priceWindows 130 = .ok (.istore 8, 2) := by decide +kernel
theorem dX3_priceWindows_132 : decode cX3_priceWindows 132 = .ok (.goto (-117), 3) := by decide +kernel
theorem dX3_priceWindows_135 : decode cX3_priceWindows 135 = .ok (.return_, 1) := by decide +kernel
theorem dX3_priceTails_0 : decode cX3_priceTails 0 = .ok (.aload_n 0, 1) := by decide +kernel
theorem dX3_priceTails_1 : decode cX3_priceTails 1 = .ok (.getfield 18, 3) := by decide +kernel
theorem dX3_priceTails_4 : decode cX3_priceTails 4 = .ok (.aload_n 0, 1) := by decide +kernel
theorem dX3_priceTails_5 : decode cX3_priceTails 5 = .ok (.getfield 44, 3) := by decide +kernel
theorem dX3_priceTails_8 : decode cX3_priceTails 8 = .ok (.lconst 0, 1) := by decide +kernel
theorem dX3_priceTails_9 : decode cX3_priceTails 9 = .ok (.lastore, 1) := by decide +kernel
theorem dX3_priceTails_10 : decode cX3_priceTails 10 = .ok (.aload_n 0, 1) := by decide +kernel
theorem dX3_priceTails_11 : decode cX3_priceTails 11 = .ok (.getfield 22, 3) := by decide +kernel
theorem dX3_priceTails_14 : decode cX3_priceTails 14 = .ok (.aload_n 0, 1) := by decide +kernel
theorem dX3_priceTails_15 : decode cX3_priceTails 15 = .ok (.getfield 44, 3) := by decide +kernel
theorem dX3_priceTails_18 : decode cX3_priceTails 18 = .ok (.lconst 0, 1) := by decide +kernel
theorem dX3_priceTails_19 : decode cX3_priceTails 19 = .ok (.lastore, 1) := by decide +kernel
theorem dX3_priceTails_20 : decode cX3_priceTails 20 = .ok (.aload_n 0, 1) := by decide +kernel
theorem dX3_priceTails_21 : decode cX3_priceTails 21 = .ok (.getfield 44, 3) := by decide +kernel
theorem dX3_priceTails_24 : decode cX3_priceTails 24 = .ok (.iconst 1, 1) := by decide +kernel
theorem dX3_priceTails_25 : decode cX3_priceTails 25 = .ok (.isub, 1) := by decide +kernel
theorem dX3_priceTails_26 : decode cX3_priceTails 26 = .ok (.istore_n 2, 1) := by decide +kernel
theorem dX3_priceTails_27 : decode cX3_priceTails 27 = .ok (.iload_n 2, 1) := by decide +kernel
theorem dX3_priceTails_28 : decode cX3_priceTails 28 = .ok (.ifCond .lt 74, 3) := by decide +kernel
theorem dX3_priceTails_31 : decode cX3_priceTails 31 = .ok (.aload_n 0, 1) := by decide +kernel
theorem dX3_priceTails_32 : decode cX3_priceTails 32 = .ok (.getfield 18, 3) := by decide +kernel
theorem dX3_priceTails_35 : decode cX3_priceTails 35 = .ok (.iload_n 2, 1) := by decide +kernel
theorem dX3_priceTails_36 : decode cX3_priceTails 36 = .ok (.iconst 1, 1) := by decide +kernel
theorem dX3_priceTails_37 : decode cX3_priceTails 37 = .ok (.iadd, 1) := by decide +kernel
theorem dX3_priceTails_38 : decode cX3_priceTails 38 = .ok (.laload, 1) := by decide +kernel
theorem dX3_priceTails_39 : decode cX3_priceTails 39 = .ok (.lstore_n 3, 1) := by decide +kernel
theorem dX3_priceTails_40 : decode cX3_priceTails 40 = .ok (.aload_n 0, 1) := by decide +kernel
theorem dX3_priceTails_41 : decode cX3_priceTails 41 = .ok (.getfield 22, 3) := by decide +kernel
theorem dX3_priceTails_44 : decode cX3_priceTails 44 = .ok (.iload_n 2, 1) := by decide +kernel
theorem dX3_priceTails_45 : decode cX3_priceTails 45 = .ok (.iconst 1, 1) := by decide +kernel
theorem dX3_priceTails_46 : decode cX3_priceTails 46 = .ok (.iadd, 1) := by decide +kernel
theorem dX3_priceTails_47 : decode cX3_priceTails 47 = .ok (.laload, 1) := by decide +kernel
theorem dX3_priceTails_48 : decode cX3_priceTails 48 = .ok (.lstore 5, 2) := by decide +kernel
theorem dX3_priceTails_50 : decode cX3_priceTails 50 = .ok (.aload_n 0, 1) := by decide +kernel
theorem dX3_priceTails_51 : decode cX3_priceTails 51 = .ok (.getfield 18, 3) := by decide +kernel
theorem dX3_priceTails_54 : decode cX3_priceTails 54 = .ok (.iload_n 2, 1) := by decide +kernel
theorem dX3_priceTails_55 : decode cX3_priceTails 55 = .ok (.aload_n 0, 1) := by decide +kernel
theorem dX3_priceTails_56 : decode cX3_priceTails 56 = .ok (.getfield 9, 3) := by decide +kernel
theorem dX3_priceTails_59 : decode cX3_priceTails 59 = .ok (.iload_n 2, 1) := by decide +kernel
theorem dX3_priceTails_60 : decode cX3_priceTails 60 = .ok (.iaload, 1) := by decide +kernel
theorem dX3_priceTails_61 : decode cX3_priceTails 61 = .ok (.i2l, 1) := by decide +kernel
theorem dX3_priceTails_62 : decode cX3_priceTails 62 = .ok (.lload_n 3, 1) := by decide +kernel
theorem dX3_priceTails_63 : decode cX3_priceTails 63 = .ok (.lload 5, 2) := by decide +kernel
theorem dX3_priceTails_65 : decode cX3_priceTails 65 = .ok (.iload_n 1, 1) := by decide +kernel
theorem dX3_priceTails_66 : decode cX3_priceTails 66 = .ok (.i2l, 1) := by decide +kernel
theorem dX3_priceTails_67 : decode cX3_priceTails 67 = .ok (.ladd, 1) := by decide +kernel
theorem dX3_priceTails_68 : decode cX3_priceTails 68 = .ok (.invokestatic 73, 3) := by decide +kernel
theorem dX3_priceTails_71 : decode cX3_priceTails 71 = .ok (.ladd, 1) := by decide +kernel
theorem dX3_priceTails_72 : decode cX3_priceTails 72 = .ok (.lastore, 1) := by decide +kernel
theorem dX3_priceTails_73 : decode cX3_priceTails 73 = .ok (.aload_n 0, 1) := by decide +kernel
theorem dX3_priceTails_74 : decode cX3_priceTails 74 = .ok (.getfield 22, 3) := by decide +kernel
theorem dX3_priceTails_77 : decode cX3_priceTails 77 = .ok (.iload_n 2, 1) := by decide +kernel
theorem dX3_priceTails_78 : decode cX3_priceTails 78 = .ok (.aload_n 0, 1) := by decide +kernel
theorem dX3_priceTails_79 : decode cX3_priceTails 79 = .ok (.getfield 15, 3) := by decide +kernel
theorem dX3_priceTails_82 : decode cX3_priceTails 82 = .ok (.iload_n 2, 1) := by decide +kernel
theorem dX3_priceTails_83 : decode cX3_priceTails 83 = .ok (.iaload, 1) := by decide +kernel
theorem dX3_priceTails_84 : decode cX3_priceTails 84 = .ok (.i2l, 1) := by decide +kernel
theorem dX3_priceTails_85 : decode cX3_priceTails 85 = .ok (.lload 5, 2) := by decide +kernel
theorem dX3_priceTails_87 : decode cX3_priceTails 87 = .ok (.lload_n 3, 1) := by decide +kernel
theorem dX3_priceTails_88 : decode cX3_priceTails 88 = .ok (.iload_n 1, 1) := by decide +kernel
theorem dX3_priceTails_89 : decode cX3_priceTails 89 = .ok (.i2l, 1) := by decide +kernel
theorem dX3_priceTails_90 : decode cX3_priceTails 90 = .ok (.ladd, 1) := by decide +kernel
theorem dX3_priceTails_91 : decode cX3_priceTails 91 = .ok (.invokestatic 73, 3) := by decide +kernel
theorem dX3_priceTails_94 : decode cX3_priceTails 94 = .ok (.ladd, 1) := by decide +kernel
theorem dX3_priceTails_95 : decode cX3_priceTails 95 = .ok (.lastore, 1) := by decide +kernel
theorem dX3_priceTails_96 : decode cX3_priceTails 96 = .ok (.iinc 2 (-1), 3) := by decide +kernel
theorem dX3_priceTails_99 : decode cX3_priceTails 99 = .ok (.goto (-72), 3) := by decide +kernel
theorem dX3_priceTails_102 : decode cX3_priceTails 102 = .ok (.return_, 1) := by decide +kernel
theorem dX3_choose_0 : decode cX3_choose 0 = .ok (.iconst 0, 1) := by decide +kernel
theorem dX3_choose_1 : decode cX3_choose 1 = .ok (.istore 4, 2) := by decide +kernel
theorem dX3_choose_3 : decode cX3_choose 3 = .ok (.iconst 0, 1) := by decide +kernel
theorem dX3_choose_4 : decode cX3_choose 4 = .ok (.istore 5, 2) := by decide +kernel
theorem dX3_choose_6 : decode cX3_choose 6 = .ok (.iload 5, 2) := by decide +kernel
theorem dX3_choose_8 : decode cX3_choose 8 = .ok (.aload_n 0, 1) := by decide +kernel
theorem dX3_choose_9 : decode cX3_choose 9 = .ok (.getfield 44, 3) := by decide +kernel
theorem dX3_choose_12 : decode cX3_choose 12 = .ok (.if_icmp .ge 124, 3) := by decide +kernel
theorem dX3_choose_15 : decode cX3_choose 15 = .ok (.iload 5, 2) := by decide +kernel
theorem dX3_choose_17 : decode cX3_choose 17 = .ok (.aload_n 0, 1) := by decide +kernel
theorem dX3_choose_18 : decode cX3_choose 18 = .ok (.getfield 25, 3) := by decide +kernel
theorem dX3_choose_21 : decode cX3_choose 21 = .ok (.arraylength, 1) := by decide +kernel
theorem dX3_choose_22 : decode cX3_choose 22 = .ok (.if_icmp .ge 114, 3) := by decide +kernel
theorem dX3_choose_25 : decode cX3_choose 25 = .ok (.iload 5, 2) := by decide +kernel
theorem dX3_choose_27 : decode cX3_choose 27 = .ok (.ifCond .ne 8, 3) := by decide +kernel
theorem dX3_choose_30 : decode cX3_choose 30 = .ok (.bipush (-9), 2) := by decide +kernel
theorem dX3_choose_32 : decode cX3_choose 32 = .ok (.goto 12, 3) := by decide +kernel
theorem dX3_choose_35 : decode cX3_choose 35 = .ok (.aload_n 0, 1) := by decide +kernel
theorem dX3_choose_36 : decode cX3_choose 36 = .ok (.getfield 25, 3) := by decide +kernel
theorem dX3_choose_39 : decode cX3_choose 39 = .ok (.iload 5, 2) := by decide +kernel
theorem dX3_choose_41 : decode cX3_choose 41 = .ok (.iconst 1, 1) := by decide +kernel
theorem dX3_choose_42 : decode cX3_choose 42 = .ok (.isub, 1) := by decide +kernel
theorem dX3_choose_43 : decode cX3_choose 43 = .ok (.iaload, 1) := by decide +kernel
theorem dX3_choose_44 : decode cX3_choose 44 = .ok (.istore 6, 2) := by decide +kernel
theorem dX3_choose_46 : decode cX3_choose 46 = .ok (.aload_n 0, 1) := by decide +kernel
theorem dX3_choose_47 : decode cX3_choose 47 = .ok (.getfield 18, 3) := by decide +kernel
theorem dX3_choose_50 : decode cX3_choose 50 = .ok (.iload 5, 2) := by decide +kernel
theorem dX3_choose_52 : decode cX3_choose 52 = .ok (.laload, 1) := by decide +kernel
theorem dX3_choose_53 : decode cX3_choose 53 = .ok (.iload 6, 2) := by decide +kernel
theorem dX3_choose_55 : decode cX3_choose 55 = .ok (.iload_n 2, 1) := by decide +kernel
theorem dX3_choose_56 : decode cX3_choose 56 = .ok (.if_icmp .ne 7, 3) := by decide +kernel
theorem dX3_choose_59 : decode cX3_choose 59 = .ok (.iload_n 3, 1) := by decide +kernel
theorem dX3_choose_60 : decode cX3_choose 60 = .ok (.goto 4, 3) := by decide +kernel
theorem dX3_choose_63 : decode cX3_choose 63 = .ok (.iconst 0, 1) := by decide +kernel
theorem dX3_choose_64 : decode cX3_choose 64 = .ok (.i2l, 1) := by decide +kernel
theorem dX3_choose_65 : decode cX3_choose 65 = .ok (.ladd, 1) := by decide +kernel
theorem dX3_choose_66 : decode cX3_choose 66 = .ok (.lstore 7, 2) := by decide +kernel
theorem dX3_choose_68 : decode cX3_choose 68 = .ok (.aload_n 0, 1) := by decide +kernel
theorem dX3_choose_69 : decode cX3_choose 69 = .ok (.getfield 22, 3) := by decide +kernel
theorem dX3_choose_72 : decode cX3_choose 72 = .ok (.iload 5, 2) := by decide +kernel
theorem dX3_choose_74 : decode cX3_choose 74 = .ok (.laload, 1) := by decide +kernel
theorem dX3_choose_75 : decode cX3_choose 75 = .ok (.iload 6, 2) := by decide +kernel
theorem dX3_choose_77 : decode cX3_choose 77 = .ok (.iload_n 1, 1) := by decide +kernel
theorem dX3_choose_78 : decode cX3_choose 78 = .ok (.if_icmp .ne 7, 3) := by decide +kernel
theorem dX3_choose_81 : decode cX3_choose 81 = .ok (.iload_n 3, 1) := by decide +kernel
theorem dX3_choose_82 : decode cX3_choose 82 = .ok (.goto 4, 3) := by decide +kernel
theorem dX3_choose_85 : decode cX3_choose 85 = .ok (.iconst 0, 1) := by decide +kernel
theorem dX3_choose_86 : decode cX3_choose 86 = .ok (.i2l, 1) := by decide +kernel
theorem dX3_choose_87 : decode cX3_choose 87 = .ok (.ladd, 1) := by decide +kernel
theorem dX3_choose_88 : decode cX3_choose 88 = .ok (.lstore 9, 2) := by decide +kernel
theorem dX3_choose_90 : decode cX3_choose 90 = .ok (.aload_n 0, 1) := by decide +kernel
theorem dX3_choose_91 : decode cX3_choose 91 = .ok (.getfield 25, 3) := by decide +kernel
theorem dX3_choose_94 : decode cX3_choose 94 = .ok (.iload 5, 2) := by decide +kernel
theorem dX3_choose_96 : decode cX3_choose 96 = .ok (.lload 7, 2) := by decide +kernel
theorem dX3_choose_98 : decode cX3_choose 98 = .ok (.lload 9, 2) := by decide +kernel
theorem dX3_choose_100 : decode cX3_choose 100 = .ok (.lcmp, 1) := by decide +kernel
theorem dX3_choose_101 : decode cX3_choose 101 = .ok (.ifCond .gt 7, 3) := by decide +kernel
theorem dX3_choose_104 : decode cX3_choose 104 = .ok (.iload_n 1, 1) := by decide +kernel
theorem dX3_choose_105 : decode cX3_choose 105 = .ok (.goto 4, 3) := by decide +kernel
theorem dX3_choose_108 : decode cX3_choose 108 = .ok (.iload_n 2, 1) := by decide +kernel
theorem dX3_choose_109 : decode cX3_choose 109 = .ok (.iastore, 1) := by decide +kernel
theorem dX3_choose_110 : decode cX3_choose 110 = .ok (.iload 5, 2) := by decide +kernel
theorem dX3_choose_112 : decode cX3_choose 112 = .ok (.ifCond .le 18, 3) := by decide +kernel
theorem dX3_choose_115 : decode cX3_choose 115 = .ok (.aload_n 0, 1) := by decide +kernel
theorem dX3_choose_116 : decode cX3_choose 116 = .ok (.getfield 25, 3) := by decide +kernel
theorem dX3_choose_119 : decode cX3_choose 119 = .ok (.iload 5, 2) := by decide +kernel
theorem dX3_choose_121 : decode cX3_choose 121 = .ok (.iaload, 1) := by decide +kernel
theorem dX3_choose_122 : decode cX3_choose 122 = .ok (.iload 6, 2) := by decide +kernel
theorem dX3_choose_124 : decode cX3_choose 124 = .ok (.if_icmp .eq 6, 3) := by decide +kernel
theorem dX3_choose_127 : decode cX3_choose 127 = .ok (.iinc 4 1, 3) := by decide +kernel
theorem dX3_choose_130 : decode cX3_choose 130 = .ok (.iinc 5 1, 3) := by decide +kernel
theorem dX3_choose_133 : decode cX3_choose 133 = .ok (.goto (-127), 3) := by decide +kernel
theorem dX3_choose_136 : decode cX3_choose 136 = .ok (.iload 4, 2) := by decide +kernel
theorem dX3_choose_138 : decode cX3_choose 138 = .ok (.ireturn, 1) := by decide +kernel
theorem dX3_leastPrice_0 : decode cX3_leastPrice 0 = .ok (.aload_n 0, 1) := by decide +kernel
theorem dX3_leastPrice_1 : decode cX3_leastPrice 1 = .ok (.getfield 18, 3) := by decide +kernel
theorem dX3_leastPrice_4 : decode cX3_leastPrice 4 = .ok (.iconst 0, 1) := by decide +kernel
theorem dX3_leastPrice_5 : decode cX3_leastPrice 5 = .ok (.laload, 1) := by decide +kernel
theorem dX3_leastPrice_6 : decode cX3_leastPrice 6 = .ok (.aload_n 0, 1) := by decide +kernel
theorem dX3_leastPrice_7 : decode cX3_leastPrice 7 = .ok (.getfield 22, 3) := by decide +kernel
theorem dX3_leastPrice_10 : decode cX3_leastPrice 10 = .ok (.iconst 0, 1) := by decide +kernel
theorem dX3_leastPrice_11 : decode cX3_leastPrice 11 = .ok (.laload, 1) := by decide +kernel
theorem dX3_leastPrice_12 : decode cX3_leastPrice 12 = .ok (.invokestatic 73, 3) := by decide +kernel
theorem dX3_leastPrice_15 : decode cX3_leastPrice 15 = .ok (.lreturn, 1) := by decide +kernel
theorem dX3_ownerOf_0 : decode cX3_ownerOf 0 = .ok (.iload_n 1, 1) := by decide +kernel
theorem dX3_ownerOf_1 : decode cX3_ownerOf 1 = .ok (.ifCond .lt 29, 3) := by decide +kernel
theorem dX3_ownerOf_4 : decode cX3_ownerOf 4 = .ok (.iload_n 1, 1) := by decide +kernel
theorem dX3_ownerOf_5 : decode cX3_ownerOf 5 = .ok (.aload_n 0, 1) := by decide +kernel
theorem dX3_ownerOf_6 : decode cX3_ownerOf 6 = .ok (.getfield 44, 3) := by decide +kernel
theorem dX3_ownerOf_9 : decode cX3_ownerOf 9 = .ok (.if_icmp .ge 21, 3) := by decide +kernel
theorem dX3_ownerOf_12 : decode cX3_ownerOf 12 = .ok (.iload_n 1, 1) := by decide +kernel
theorem dX3_ownerOf_13 : decode cX3_ownerOf 13 = .ok (.aload_n 0, 1) := by decide +kernel
theorem dX3_ownerOf_14 : decode cX3_ownerOf 14 = .ok (.getfield 25, 3) := by decide +kernel
theorem dX3_ownerOf_17 : decode cX3_ownerOf 17 = .ok (.arraylength, 1) := by decide +kernel
theorem dX3_ownerOf_18 : decode cX3_ownerOf 18 = .ok (.if_icmp .ge 12, 3) := by decide +kernel
theorem dX3_ownerOf_21 : decode cX3_ownerOf 21 = .ok (.aload_n 0, 1) := by decide +kernel
theorem dX3_ownerOf_22 : decode cX3_ownerOf 22 = .ok (.getfield 25, 3) := by decide +kernel
theorem dX3_ownerOf_25 : decode cX3_ownerOf 25 = .ok (.iload_n 1, 1) := by decide +kernel
theorem dX3_ownerOf_26 : decode cX3_ownerOf 26 = .ok (.iaload, 1) := by decide +kernel
theorem dX3_ownerOf_27 : decode cX3_ownerOf 27 = .ok (.goto 5, 3) := by decide +kernel
theorem dX3_ownerOf_30 : decode cX3_ownerOf 30 = .ok (.bipush (-9), 2) := by decide +kernel
theorem dX3_ownerOf_32 : decode cX3_ownerOf 32 = .ok (.ireturn, 1) := by decide +kernel
theorem dX4_init_0 : decode cX4_init 0 = .ok (.aload_n 0, 1) := by decide +kernel
theorem dX4_init_1 : decode cX4_init 1 = .ok (.invokespecial 3, 3) := by decide +kernel
theorem dX4_init_4 : decode cX4_init 4 = .ok (.aload_n 0, 1) := by decide +kernel
theorem dX4_init_5 : decode cX4_init 5 = .ok (.sipush 200, 3) := by decide +kernel
theorem dX4_init_8 : decode cX4_init 8 = .ok (.newarray .byte, 2) := by decide +kernel
theorem dX4_init_10 : decode cX4_init 10 = .ok (.putfield 9, 3) := by decide +kernel
theorem dX4_init_13 : decode cX4_init 13 = .ok (.aload_n 0, 1) := by decide +kernel
theorem dX4_init_14 : decode cX4_init 14 = .ok (.bipush 100, 2) := by decide +kernel
theorem dX4_init_16 : decode cX4_init 16 = .ok (.newarray .int, 2) := by decide +kernel
theorem dX4_init_18 : decode cX4_init 18 = .ok (.putfield 15, 3) := by decide +kernel
theorem dX4_init_21 : decode cX4_init 21 = .ok (.aload_n 0, 1) := by decide +kernel
theorem dX4_init_22 : decode cX4_init 22 = .ok (.bipush 100, 2) := by decide +kernel
theorem dX4_init_24 : decode cX4_init 24 = .ok (.newarray .int, 2) := by decide +kernel
theorem dX4_init_26 : decode cX4_init 26 = .ok (.putfield 19, 3) := by decide +kernel
theorem dX4_init_29 : decode cX4_init 29 = .ok (.return_, 1) := by decide +kernel
theorem dX4_read_0 : decode cX4_read 0 = .ok (.aload_n 0, 1) := by decide +kernel
theorem dX4_read_1 : decode cX4_read 1 = .ok (.aload_n 1, 1) := by decide +kernel
theorem dX4_read_2 : decode cX4_read 2 = .ok (.getfield 22, 3) := by decide +kernel
theorem dX4_read_5 : decode cX4_read 5 = .ok (.aload_n 0, 1) := by decide +kernel
theorem dX4_read_6 : decode cX4_read 6 = .ok (.getfield 9, 3) := by decide +kernel
theorem dX4_read_9 : decode cX4_read 9 = .ok (.arraylength, 1) := by decide +kernel
theorem dX4_read_10 : decode cX4_read 10 = .ok (.invokestatic 28, 3) := by decide +kernel
theorem dX4_read_13 : decode cX4_read 13 = .ok (.putfield 34, 3) := by decide +kernel
theorem dX4_read_16 : decode cX4_read 16 = .ok (.aload_n 0, 1) := by decide +kernel
theorem dX4_read_17 : decode cX4_read 17 = .ok (.aload_n 1, 1) := by decide +kernel
theorem dX4_read_18 : decode cX4_read 18 = .ok (.invokevirtual 35, 3) := by decide +kernel
theorem dX4_read_21 : decode cX4_read 21 = .ok (.aload_n 0, 1) := by decide +kernel
theorem dX4_read_22 : decode cX4_read 22 = .ok (.invokevirtual 39, 3) := by decide +kernel
theorem dX4_read_25 : decode cX4_read 25 = .ok (.return_, 1) := by decide +kernel
theorem dX4_cutQuotes_0 : decode cX4_cutQuotes 0 = .ok (.iconst 0, 1) := by decide +kernel
theorem dX4_cutQuotes_1 : decode cX4_cutQuotes 1 = .ok (.istore_n 2, 1) := by decide +kernel
theorem dX4_cutQuotes_2 : decode cX4_cutQuotes 2 = .ok (.aload_n 0, 1) := by decide +kernel
theorem dX4_cutQuotes_3 : decode cX4_cutQuotes 3 = .ok (.iconst 0, 1) := by decide +kernel
theorem dX4_cutQuotes_4 : decode cX4_cutQuotes 4 = .ok (.putfield 42, 3) := by decide +kernel
theorem dX4_cutQuotes_7 : decode cX4_cutQuotes 7 = .ok (.iconst 0, 1) := by decide +kernel
theorem dX4_cutQuotes_8 : decode cX4_cutQuotes 8 = .ok (.istore_n 3, 1) := by decide +kernel
theorem dX4_cutQuotes_9 : decode cX4_cutQuotes 9 = .ok (.iload_n 3, 1) := by decide +kernel
theorem dX4_cutQuotes_10 : decode cX4_cutQuotes 10 = .ok (.aload_n 0, 1) := by decide +kernel
theorem dX4_cutQuotes_11 : decode cX4_cutQuotes 11 = .ok (.getfield 34, 3) := by decide +kernel
theorem dX4_cutQuotes_14 : decode cX4_cutQuotes 14 = .ok (.if_icmp .ge 106, 3) := by decide +kernel
theorem dX4_cutQuotes_17 : decode cX4_cutQuotes 17 = .ok (.iload_n 3, 1) := by decide +kernel
theorem dX4_cutQuotes_18 : decode cX4_cutQuotes 18 = .ok (.aload_n 0, 1) := by decide +kernel
theorem dX4_cutQuotes_19 : decode cX4_cutQuotes 19 = .ok (.getfield 9, 3) := by decide +kernel
theorem dX4_cutQuotes_22 : decode cX4_cutQuotes 22 = .ok (.arraylength, 1) := by decide +kernel
theorem dX4_cutQuotes_23 : decode cX4_cutQuotes 23 = .ok (.if_icmp .ge 97, 3) := by decide +kernel
theorem dX4_cutQuotes_26 : decode cX4_cutQuotes 26 = .ok (.aload_n 1, 1) := by decide +kernel
theorem dX4_cutQuotes_27 : decode cX4_cutQuotes 27 = .ok (.iload_n 3, 1) := by decide +kernel
theorem dX4_cutQuotes_28 : decode cX4_cutQuotes 28 = .ok (.invokevirtual 45, 3) := by decide +kernel
theorem dX4_cutQuotes_31 : decode cX4_cutQuotes 31 = .ok (.istore 4, 2) := by decide +kernel
theorem dX4_cutQuotes_33 : decode cX4_cutQuotes 33 = .ok (.iload_n 2, 1) := by decide +kernel
theorem dX4_cutQuotes_34 : decode cX4_cutQuotes 34 = .ok (.ifCond .ne 14, 3) := by decide +kernel
theorem dX4_cutQuotes_37 : decode cX4_cutQuotes 37 = .ok (.iload 4, 2) := by decide +kernel
theorem dX4_cutQuotes_39 : decode cX4_cutQuotes 39 = .ok (.bipush 91, 2) := by decide +kernel
theorem dX4_cutQuotes_41 : decode cX4_cutQuotes 41 = .ok (.if_icmp .ne 7, 3) := by decide +kernel
theorem dX4_cutQuotes_44 : decode cX4_cutQuotes 44 = .ok (.iconst 1, 1) := by decide +kernel
theorem dX4_cutQuotes_45 : decode cX4_cutQuotes 45 = .ok (.goto 4, 3) := by decide +kernel
theorem dX4_cutQuotes_48 : decode cX4_cutQuotes 48 = .ok (.iconst 0, 1) := by decide +kernel
theorem dX4_cutQuotes_49 : decode cX4_cutQuotes 49 = .ok (.istore 5, 2) := by decide +kernel
theorem dX4_cutQuotes_51 : decode cX4_cutQuotes 51 = .ok (.aload_n 0, 1) := by decide +kernel
theorem dX4_cutQuotes_52 : decode cX4_cutQuotes 52 = .ok (.getfield 9, 3) := by decide +kernel
theorem dX4_cutQuotes_55 : decode cX4_cutQuotes 55 = .ok (.iload_n 3, 1) := by decide +kernel
theorem dX4_cutQuotes_56 : decode cX4_cutQuotes 56 = .ok (.iload_n 2, 1) := by decide +kernel
theorem dX4_cutQuotes_57 : decode cX4_cutQuotes 57 = .ok (.ifCond .ne 8, 3) := by decide +kernel
theorem dX4_cutQuotes_60 : decode cX4_cutQuotes 60 = .ok (.iload 5, 2) := by decide +kernel
theorem dX4_cutQuotes_62 : decode cX4_cutQuotes 62 = .ok (.ifCond .eq 8, 3) := by decide +kernel
theorem dX4_cutQuotes_65 : decode cX4_cutQuotes 65 = .ok (.bipush 32, 2) := by decide +kernel
theorem dX4_cutQuotes_67 : decode cX4_cutQuotes 67 = .ok (.goto 8, 3) := by decide +kernel
theorem dX4_cutQuotes_70 : decode cX4_cutQuotes 70 = .ok (.iload 4, 2) := by decide +kernel
theorem dX4_cutQuotes_72 : decode cX4_cutQuotes 72 = .ok (.invokestatic 49, 3) := by decide +kernel
theorem dX4_cutQuotes_75 : decode cX4_cutQuotes 75 = .ok (.i2b, 1) := by decide +kernel
theorem dX4_cutQuotes_76 : decode cX4_cutQuotes 76 = .ok (.bastore, 1) := by decide +kernel
theorem dX4_cutQuotes_77 : decode cX4_cutQuotes 77 = .ok (.iload 5, 2) := by decide +kernel
theorem dX4_cutQuotes_79 : decode cX4_cutQuotes 79 = .ok (.ifCond .eq 13, 3) := by decide +kernel
theorem dX4_cutQuotes_82 : decode cX4_cutQuotes 82 = .ok (.aload_n 0, 1) := by decide +kernel
theorem dX4_cutQuotes_83 : decode cX4_cutQuotes 83 = .ok (.dup, 1) := by decide +kernel
theorem dX4_cutQuotes_84 : decode cX4_cutQuotes 84 = .ok (.getfield 42, 3) := by decide +kernel
theorem dX4_cutQuotes_87 : decode cX4_cutQuotes 87 = .ok (.iconst 1, 1) := by decide +kernel
theorem dX4_cutQuotes_88 : decode cX4_cutQuotes 88 = .ok (.iadd, 1) := by decide +kernel
theorem dX4_cutQuotes_89 : decode cX4_cutQuotes 89 = .ok (.putfield 42, 3) := by decide +kernel
theorem dX4_cutQuotes_92 : decode cX4_cutQuotes 92 = .ok (.iload 5, 2) := by decide +kernel
theorem dX4_cutQuotes_94 : decode cX4_cutQuotes 94 = .ok (.ifCond .ne 14, 3) := by decide +kernel
theorem dX4_cutQuotes_97 : decode cX4_cutQuotes 97 = .ok (.iload_n 2, 1) := by decide +kernel
theorem dX4_cutQuotes_98 : decode cX4_cutQuotes 98 = .ok (.ifCond .eq 14, 3) := by decide +kernel
theorem dX4_cutQuotes_101 : decode cX4_cutQuotes 101 = .ok (.iload 4, 2) := by decide +kernel
theorem dX4_cutQuotes_103 : decode cX4_cutQuotes 103 = .ok (.bipush 93, 2) := by decide +kernel
theorem dX4_cutQuotes_105 : decode cX4_cutQuotes 105 = .ok (.if_icmp .eq 7, 3) := by decide +kernel
theorem dX4_cutQuotes_108 : decode cX4_cutQuotes 108 = .ok (.iconst 1, 1) := by decide +kernel
theorem dX4_cutQuotes_109 : decode cX4_cutQuotes 109 = .ok (.goto 4, 3) := by decide +kernel
theorem dX4_cutQuotes_112 : decode cX4_cutQuotes 112 = .ok (.iconst 0, 1) := by decide +kernel
theorem dX4_cutQuotes_113 : decode cX4_cutQuotes 113 = .ok (.istore_n 2, 1) := by decide +kernel
theorem dX4_cutQuotes_114 : decode cX4_cutQuotes 114 = .ok (.iinc 3 1, 3) := by decide +kernel
theorem dX4_cutQuotes_117 : decode cX4_cutQuotes 117 = .ok (.goto (-108), 3) := by decide +kernel
theorem dX4_cutQuotes_120 : decode cX4_cutQuotes 120 = .ok (.return_, 1) := by decide +kernel
theorem dX4_findWords_0 : decode cX4_findWords 0 = .ok (.aload_n 0, 1) := by decide +kernel
theorem dX4_findWords_1 : decode cX4_findWords 1 = .ok (.iconst 0, 1) := by decide +kernel
theorem dX4_findWords_2 : decode cX4_findWords 2 = .ok (.putfield 52, 3) := by decide +kernel
theorem dX4_findWords_5 : decode cX4_findWords 5 = .ok (.aload_n 0, 1) := by decide +kernel
theorem dX4_findWords_6 : decode cX4_findWords 6 = .ok (.iconst 0, 1) := by decide +kernel
theorem dX4_findWords_7 : decode cX4_findWords 7 = .ok (.putfield 55, 3) := by decide +kernel
theorem dX4_findWords_10 : decode cX4_findWords 10 = .ok (.aload_n 0, 1) := by decide +kernel
theorem dX4_findWords_11 : decode cX4_findWords 11 = .ok (.iconst 0, 1) := by decide +kernel
theorem dX4_findWords_12 : decode cX4_findWords 12 = .ok (.putfield 58, 3) := by decide +kernel
theorem dX4_findWords_15 : decode cX4_findWords 15 = .ok (.iconst 0, 1) := by decide +kernel
theorem dX4_findWords_16 : decode cX4_findWords 16 = .ok (.istore_n 1, 1) := by decide +kernel
theorem dX4_findWords_17 : decode cX4_findWords 17 = .ok (.iconst 0, 1) := by decide +kernel
theorem dX4_findWords_18 : decode cX4_findWords 18 = .ok (.istore_n 2, 1) := by decide +kernel
theorem dX4_findWords_19 : decode cX4_findWords 19 = .ok (.iload_n 2, 1) := by decide +kernel
theorem dX4_findWords_20 : decode cX4_findWords 20 = .ok (.aload_n 0, 1) := by decide +kernel
theorem dX4_findWords_21 : decode cX4_findWords 21 = .ok (.getfield 34, 3) := by decide +kernel
theorem dX4_findWords_24 : decode cX4_findWords 24 = .ok (.if_icmp .ge 79, 3) := by decide +kernel
theorem dX4_findWords_27 : decode cX4_findWords 27 = .ok (.iload_n 2, 1) := by decide +kernel
theorem dX4_findWords_28 : decode cX4_findWords 28 = .ok (.aload_n 0, 1) := by decide +kernel
theorem dX4_findWords_29 : decode cX4_findWords 29 = .ok (.getfield 9, 3) := by decide +kernel
theorem dX4_findWords_32 : decode cX4_findWords 32 = .ok (.arraylength, 1) := by decide +kernel
theorem dX4_findWords_33 : decode cX4_findWords 33 = .ok (.if_icmp .ge 70, 3) := by decide +kernel
theorem dX4_findWords_36 : decode cX4_findWords 36 = .ok (.aload_n 0, 1) := by decide +kernel
theorem dX4_findWords_37 : decode cX4_findWords 37 = .ok (.getfield 9, 3) := by decide +kernel
theorem dX4_findWords_40 : decode cX4_findWords 40 = .ok (.iload_n 2, 1) := by decide +kernel
theorem dX4_findWords_41 : decode cX4_findWords 41 = .ok (.baload, 1) := by decide +kernel
theorem dX4_findWords_42 : decode cX4_findWords 42 = .ok (.invokestatic 61, 3) := by decide +kernel
theorem dX4_findWords_45 : decode cX4_findWords 45 = .ok (.ifCond .eq 13, 3) := by decide +kernel
theorem dX4_findWords_48 : decode cX4_findWords 48 = .ok (.aload_n 0, 1) := by decide +kernel
theorem dX4_findWords_49 : decode cX4_findWords 49 = .ok (.dup, 1) := by decide +kernel
theorem dX4_findWords_50 : decode cX4_findWords 50 = .ok (.getfield 58, 3) := by decide +kernel
theorem dX4_findWords_53 : decode cX4_findWords 53 = .ok (.iconst 1, 1) := by decide +kernel
theorem dX4_findWords_54 : decode cX4_findWords 54 = .ok (.iadd, 1) := by decide +kernel
theorem dX4_findWords_55 : decode cX4_findWords 55 = .ok (.putfield 58, 3) := by decide +kernel
theorem dX4_findWords_58 : decode cX4_findWords 58 = .ok (.aload_n 0, 1) := by decide +kernel
theorem dX4_findWords_59 : decode cX4_findWords 59 = .ok (.getfield 9, 3) := by decide +kernel
theorem dX4_findWords_62 : decode cX4_findWords 62 = .ok (.iload_n 2, 1) := by decide +kernel
theorem dX4_findWords_63 : decode cX4_findWords 63 = .ok (.baload, 1) := by decide +kernel
theorem dX4_findWords_64 : decode cX4_findWords 64 = .ok (.invokestatic 65, 3) := by decide +kernel
theorem dX4_findWords_67 : decode cX4_findWords 67 = .ok (.istore_n 3, 1) := by decide +kernel
theorem dX4_findWords_68 : decode cX4_findWords 68 = .ok (.iload_n 3, 1) := by decide +kernel
theorem dX4_findWords_69 : decode cX4_findWords 69 = .ok (.ifCond .eq 26, 3) := by decide +kernel
theorem dX4_findWords_72 : decode cX4_findWords 72 = .ok (.aload_n 0, 1) := by decide +kernel
theorem dX4_findWords_73 : decode cX4_findWords 73 = .ok (.dup, 1) := by decide +kernel
theorem dX4_findWords_74 : decode cX4_findWords 74 = .ok (.getfield 55, 3) := by decide +kernel
theorem dX4_findWords_77 : decode cX4_findWords 77 = .ok (.iconst 1, 1) := by decide +kernel
theorem dX4_findWords_78 : decode cX4_findWords 78 = .ok (.iadd, 1) := by decide +kernel
theorem dX4_findWords_79 : decode cX4_findWords 79 = .ok (.putfield 55, 3) := by decide +kernel
theorem dX4_findWords_82 : decode cX4_findWords 82 = .ok (.iload_n 1, 1) := by decide +kernel
theorem dX4_findWords_83 : decode cX4_findWords 83 = .ok (.ifCond .ne 8, 3) := by decide +kernel
theorem dX4_findWords_86 : decode cX4_findWords 86 = .ok (.aload_n 0, 1) := by decide +kernel
theorem dX4_findWords_87 : decode cX4_findWords 87 = .ok (.iload_n 2, 1) := by decide +kernel
theorem dX4_findWords_88 : decode cX4_findWords 88 = .ok (.invokevirtual 68, 3) := by decide +kernel
theorem dX4_findWords_91 : decode cX4_findWords 91 = .ok (.aload_n 0, 1) := by decide +kernel
theorem dX4_findWords_92 : decode cX4_findWords 92 = .ok (.invokevirtual 72, 3) := by decide +kernel
theorem dX4_findWords_95 : decode cX4_findWords 95 = .ok (.iload_n 3, 1) := by decide +kernel
theorem dX4_findWords_96 : decode cX4_findWords 96 = .ok (.istore_n 1, 1) := by decide +kernel
theorem dX4_findWords_97 : decode cX4_findWords 97 = .ok (.iinc 2 1, 3) := by decide +kernel
theorem dX4_findWords_100 : decode cX4_findWords 100 = .ok (.goto (-81), 3) := by decide +kernel
theorem dX4_findWords_103 : decode cX4_findWords 103 = .ok (.return_, 1) := by decide +kernel
theorem dX4_beginWord_0 : decode cX4_beginWord 0 = .ok (.aload_n 0, 1) := by decide +kernel
theorem dX4_beginWord_1 : decode cX4_beginWord 1 = .ok (.getfield 52, 3) := by decide +kernel
theorem dX4_beginWord_4 : decode cX4_beginWord 4 = .ok (.aload_n 0, 1) := by decide +kernel
theorem dX4_beginWord_5 : decode cX4_beginWord 5 = .ok (.getfield 15, 3) := by decide +kernel
theorem dX4_beginWord_8 : decode cX4_beginWord 8 = .ok (.arraylength, 1) := by decide +kernel
theorem dX4_beginWord_9 : decode cX4_beginWord 9 = .ok (.if_icmp .lt 4, 3) := by decide +kernel
theorem dX4_beginWord_12 : decode cX4_beginWord 12 = .ok (.return_, 1) := by decide +kernel
theorem dX4_beginWord_13 : decode cX4_beginWord 13 = .ok (.aload_n 0, 1) := by decide +kernel
theorem dX4_beginWord_14 : decode cX4_beginWord 14 = .ok (.getfield 15, 3) := by decide +kernel
theorem dX4_beginWord_17 : decode cX4_beginWord 17 = .ok (.aload_n 0, 1) := by decide +kernel
theorem dX4_beginWord_18 : decode cX4_beginWord 18 = .ok (.getfield 52, 3) := by decide +kernel
theorem dX4_beginWord_21 : decode cX4_beginWord 21 = .ok (.iload_n 1, 1) := by decide +kernel
theorem dX4_beginWord_22 : decode cX4_beginWord 22 = .ok (.iastore, 1) := by decide +kernel
theorem dX4_beginWord_23 : decode cX4_beginWord 23 = .ok (.aload_n 0, 1) := by decide +kernel
theorem dX4_beginWord_24 : decode cX4_beginWord 24 = .ok (.getfield 19, 3) := by decide +kernel
theorem dX4_beginWord_27 : decode cX4_beginWord 27 = .ok (.aload_n 0, 1) := by decide +kernel
theorem dX4_beginWord_28 : decode cX4_beginWord 28 = .ok (.getfield 52, 3) := by decide +kernel
theorem dX4_beginWord_31 : decode cX4_beginWord 31 = .ok (.iconst 0, 1) := by decide +kernel
theorem dX4_beginWord_32 : decode cX4_beginWord 32 = .ok (.iastore, 1) := by decide +kernel
theorem dX4_beginWord_33 : decode cX4_beginWord 33 = .ok (.aload_n 0, 1) := by decide +kernel
theorem dX4_beginWord_34 : decode cX4_beginWord 34 = .ok (.dup, 1) := by decide +kernel
theorem dX4_beginWord_35 : decode cX4_beginWord 35 = .ok (.getfield 52, 3) := by decide +kernel
theorem dX4_beginWord_38 : decode cX4_beginWord 38 = .ok (.iconst 1, 1) := by decide +kernel
theorem dX4_beginWord_39 : decode cX4_beginWord 39 = .ok (.iadd, 1) := by decide +kernel
theorem dX4_beginWord_40 : decode cX4_beginWord 40 = .ok (.putfield 52, 3) := by decide +kernel
theorem dX4_beginWord_43 : decode cX4_beginWord 43 = .ok (.return_, 1) := by decide +kernel
theorem dX4_lengthenWord_0 : decode cX4_lengthenWord 0 = .ok (.aload_n 0, 1) := by decide +kernel
theorem dX4_lengthenWord_1 : decode cX4_lengthenWord 1 = .ok (.getfield 52, 3) := by decide +kernel
theorem dX4_lengthenWord_4 : decode cX4_lengthenWord 4 = .ok (.ifCond .le 30, 3) := by decide +kernel
theorem dX4_lengthenWord_7 : decode cX4_lengthenWord 7 = .ok (.aload_n 0, 1) := by decide +kernel
theorem dX4_lengthenWord_8 : decode cX4_lengthenWord 8 = .ok (.getfield 52, 3) := by decide +kernel
theorem dX4_lengthenWord_11 : decode cX4_lengthenWord 11 = .ok (.aload_n 0, 1) := by decide +kernel
theorem dX4_lengthenWord_12 : decode cX4_lengthenWord 12 = .ok (.getfield 19, 3) := by decide +kernel
theorem dX4_lengthenWord_15 : decode cX4_lengthenWord 15 = .ok (.arraylength, 1) := by decide +kernel
theorem dX4_lengthenWord_16 : decode cX4_lengthenWord 16 = .ok (.if_icmp .gt 18, 3) := by decide +kernel
