theorem dX10_copy_95 : decode cX10_copy 95 = .ok (.iload 5, 2) := by decide +kernel
theorem dX10_copy_97 : decode cX10_copy 97 = .ok (.invokevirtual 104, 3) := by decide +kernel
theorem dX10_copy_100 : decode cX10_copy 100 = .ok (.iconst 1, 1) := by decide +kernel
theorem dX10_copy_101 : decode cX10_copy 101 = .ok (.ireturn, 1) := by decide +kernel
theorem dX10_text_0 : decode cX10_text 0 = .ok (.aload_n 0, 1) := by decide +kernel
theorem dX10_text_1 : decode cX10_text 1 = .ok (.iload_n 2, 1) := by decide +kernel
theorem dX10_text_2 : decode cX10_text 2 = .ok (.invokevirtual 74, 3) := by decide +kernel
theorem dX10_text_5 : decode cX10_text 5 = .ok (.astore 5, 2) := by decide +kernel
theorem dX10_text_7 : decode cX10_text 7 = .ok (.aload 5, 2) := by decide +kernel
theorem dX10_text_9 : decode cX10_text 9 = .ok (.ifnull 12, 3) := by decide +kernel
theorem dX10_text_12 : decode cX10_text 12 = .ok (.iload_n 1, 1) := by decide +kernel
theorem dX10_text_13 : decode cX10_text 13 = .ok (.ifCond .lt 8, 3) := by decide +kernel
theorem dX10_text_16 : decode cX10_text 16 = .ok (.iload_n 1, 1) := by decide +kernel
theorem dX10_text_17 : decode cX10_text 17 = .ok (.iconst 3, 1) := by decide +kernel
theorem dX10_text_18 : decode cX10_text 18 = .ok (.if_icmp .le 5, 3) := by decide +kernel
theorem dX10_text_21 : decode cX10_text 21 = .ok (.iconst (-1), 1) := by decide +kernel
theorem dX10_text_22 : decode cX10_text 22 = .ok (.ireturn, 1) := by decide +kernel
theorem dX10_text_23 : decode cX10_text 23 = .ok (.iload_n 1, 1) := by decide +kernel
theorem dX10_text_24 : decode cX10_text 24 = .ok (.iconst 1, 1) := by decide +kernel
theorem dX10_text_25 : decode cX10_text 25 = .ok (.if_icmp .eq 8, 3) := by decide +kernel
theorem dX10_text_28 : decode cX10_text 28 = .ok (.iload_n 1, 1) := by decide +kernel
theorem dX10_text_29 : decode cX10_text 29 = .ok (.iconst 2, 1) := by decide +kernel
theorem dX10_text_30 : decode cX10_text 30 = .ok (.if_icmp .ne 7, 3) := by decide +kernel
theorem dX10_text_33 : decode cX10_text 33 = .ok (.iconst 1, 1) := by decide +kernel
theorem dX10_text_34 : decode cX10_text 34 = .ok (.goto 4, 3) := by decide +kernel
theorem dX10_text_37 : decode cX10_text 37 = .ok (.iconst 0, 1) := by decide +kernel
theorem dX10_text_38 : decode cX10_text 38 = .ok (.istore 6, 2) := by decide +kernel
theorem dX10_text_40 : decode cX10_text 40 = .ok (.iload 6, 2) := by decide +kernel
theorem dX10_text_42 : decode cX10_text 42 = .ok (.ifCond .eq 12, 3) := by decide +kernel
theorem dX10_text_45 : decode cX10_text 45 = .ok (.iload_n 3, 1) := by decide +kernel
theorem dX10_text_46 : decode cX10_text 46 = .ok (.invokestatic 108, 3) := by decide +kernel
theorem dX10_text_49 : decode cX10_text 49 = .ok (.ifCond .ne 5, 3) := by decide +kernel
theorem dX10_text_52 : decode cX10_text 52 = .ok (.iconst (-1), 1) := by decide +kernel
theorem dX10_text_53 : decode cX10_text 53 = .ok (.ireturn, 1) := by decide +kernel
theorem dX10_text_54 : decode cX10_text 54 = .ok (.iload_n 1, 1) := by decide +kernel
theorem dX10_text_55 : decode cX10_text 55 = .ok (.iconst 2, 1) := by decide +kernel
theorem dX10_text_56 : decode cX10_text 56 = .ok (.if_icmp .ne 18, 3) := by decide +kernel
theorem dX10_text_59 : decode cX10_text 59 = .ok (.iload 4, 2) := by decide +kernel
theorem dX10_text_61 : decode cX10_text 61 = .ok (.ifCond .lt 11, 3) := by decide +kernel
theorem dX10_text_64 : decode cX10_text 64 = .ok (.iload 4, 2) := by decide +kernel
theorem dX10_text_66 : decode cX10_text 66 = .ok (.sipush 9999, 3) := by decide +kernel
theorem dX10_text_69 : decode cX10_text 69 = .ok (.if_icmp .le 5, 3) := by decide +kernel
theorem dX10_text_72 : decode cX10_text 72 = .ok (.iconst (-1), 1) := by decide +kernel
theorem dX10_text_73 : decode cX10_text 73 = .ok (.ireturn, 1) := by decide +kernel
theorem dX10_text_74 : decode cX10_text 74 = .ok (.aload_n 0, 1) := by decide +kernel
theorem dX10_text_75 : decode cX10_text 75 = .ok (.getfield 112, 3) := by decide +kernel
theorem dX10_text_78 : decode cX10_text 78 = .ok (.aload_n 0, 1) := by decide +kernel
theorem dX10_text_79 : decode cX10_text 79 = .ok (.getfield 17, 3) := by decide +kernel
theorem dX10_text_82 : decode cX10_text 82 = .ok (.arraylength, 1) := by decide +kernel
theorem dX10_text_83 : decode cX10_text 83 = .ok (.if_icmp .lt 6, 3) := by decide +kernel
theorem dX10_text_86 : decode cX10_text 86 = .ok (.bipush (-2), 2) := by decide +kernel
theorem dX10_text_88 : decode cX10_text 88 = .ok (.ireturn, 1) := by decide +kernel
theorem dX10_text_89 : decode cX10_text 89 = .ok (.aload 5, 2) := by decide +kernel
theorem dX10_text_91 : decode cX10_text 91 = .ok (.invokevirtual 86, 3) := by decide +kernel
theorem dX10_text_94 : decode cX10_text 94 = .ok (.ifCond .eq 9, 3) := by decide +kernel
theorem dX10_text_97 : decode cX10_text 97 = .ok (.aload_n 0, 1) := by decide +kernel
theorem dX10_text_98 : decode cX10_text 98 = .ok (.iconst 1, 1) := by decide +kernel
theorem dX10_text_99 : decode cX10_text 99 = .ok (.invokevirtual 78, 3) := by decide +kernel
theorem dX10_text_102 : decode cX10_text 102 = .ok (.ireturn, 1) := by decide +kernel
theorem dX10_text_103 : decode cX10_text 103 = .ok (.new 15, 3) := by decide +kernel
theorem dX10_text_106 : decode cX10_text 106 = .ok (.dup, 1) := by decide +kernel
theorem dX10_text_107 : decode cX10_text 107 = .ok (.iload_n 1, 1) := by decide +kernel
theorem dX10_text_108 : decode cX10_text 108 = .ok (.iload 6, 2) := by decide +kernel
theorem dX10_text_110 : decode cX10_text 110 = .ok (.ifCond .eq 7, 3) := by decide +kernel
theorem dX10_text_113 : decode cX10_text 113 = .ok (.iload_n 3, 1) := by decide +kernel
theorem dX10_text_114 : decode cX10_text 114 = .ok (.goto 5, 3) := by decide +kernel
theorem dX10_text_117 : decode cX10_text 117 = .ok (.bipush (-9), 2) := by decide +kernel
theorem dX10_text_119 : decode cX10_text 119 = .ok (.iload_n 1, 1) := by decide +kernel
theorem dX10_text_120 : decode cX10_text 120 = .ok (.iconst 2, 1) := by decide +kernel
theorem dX10_text_121 : decode cX10_text 121 = .ok (.if_icmp .ne 8, 3) := by decide +kernel
theorem dX10_text_124 : decode cX10_text 124 = .ok (.iload 4, 2) := by decide +kernel
theorem dX10_text_126 : decode cX10_text 126 = .ok (.goto 5, 3) := by decide +kernel
theorem dX10_text_129 : decode cX10_text 129 = .ok (.bipush (-9), 2) := by decide +kernel
theorem dX10_text_131 : decode cX10_text 131 = .ok (.invokespecial 116, 3) := by decide +kernel
theorem dX10_text_134 : decode cX10_text 134 = .ok (.astore 7, 2) := by decide +kernel
theorem dX10_text_136 : decode cX10_text 136 = .ok (.aload 7, 2) := by decide +kernel
theorem dX10_text_138 : decode cX10_text 138 = .ok (.getfield 119, 3) := by decide +kernel
theorem dX10_text_141 : decode cX10_text 141 = .ok (.aload 5, 2) := by decide +kernel
theorem dX10_text_143 : decode cX10_text 143 = .ok (.invokevirtual 122, 3) := by decide +kernel
theorem dX10_text_146 : decode cX10_text 146 = .ok (.aload_n 0, 1) := by decide +kernel
theorem dX10_text_147 : decode cX10_text 147 = .ok (.getfield 24, 3) := by decide +kernel
theorem dX10_text_150 : decode cX10_text 150 = .ok (.aload 7, 2) := by decide +kernel
theorem dX10_text_152 : decode cX10_text 152 = .ok (.invokevirtual 126, 3) := by decide +kernel
theorem dX10_text_155 : decode cX10_text 155 = .ok (.aload_n 0, 1) := by decide +kernel
theorem dX10_text_156 : decode cX10_text 156 = .ok (.getfield 17, 3) := by decide +kernel
theorem dX10_text_159 : decode cX10_text 159 = .ok (.aload_n 0, 1) := by decide +kernel
theorem dX10_text_160 : decode cX10_text 160 = .ok (.getfield 112, 3) := by decide +kernel
theorem dX10_text_163 : decode cX10_text 163 = .ok (.aload 7, 2) := by decide +kernel
theorem dX10_text_165 : decode cX10_text 165 = .ok (.aastore, 1) := by decide +kernel
theorem dX10_text_166 : decode cX10_text 166 = .ok (.aload_n 0, 1) := by decide +kernel
theorem dX10_text_167 : decode cX10_text 167 = .ok (.dup, 1) := by decide +kernel
theorem dX10_text_168 : decode cX10_text 168 = .ok (.getfield 112, 3) := by decide +kernel
theorem dX10_text_171 : decode cX10_text 171 = .ok (.dup_x1, 1) := by decide +kernel
theorem dX10_text_172 : decode cX10_text 172 = .ok (.iconst 1, 1) := by decide +kernel
theorem dX10_text_173 : decode cX10_text 173 = .ok (.iadd, 1) := by decide +kernel
theorem dX10_text_174 : decode cX10_text 174 = .ok (.putfield 112, 3) := by decide +kernel
theorem dX10_text_177 : decode cX10_text 177 = .ok (.ireturn, 1) := by decide +kernel
theorem dX10_told_0 : decode cX10_told 0 = .ok (.aload_n 0, 1) := by decide +kernel
theorem dX10_told_1 : decode cX10_told 1 = .ok (.iload_n 1, 1) := by decide +kernel
theorem dX10_told_2 : decode cX10_told 2 = .ok (.invokevirtual 130, 3) := by decide +kernel
theorem dX10_told_5 : decode cX10_told 5 = .ok (.astore_n 3, 1) := by decide +kernel
theorem dX10_told_6 : decode cX10_told 6 = .ok (.aload_n 3, 1) := by decide +kernel
theorem dX10_told_7 : decode cX10_told 7 = .ok (.ifnull 12, 3) := by decide +kernel
theorem dX10_told_10 : decode cX10_told 10 = .ok (.iload_n 2, 1) := by decide +kernel
theorem dX10_told_11 : decode cX10_told 11 = .ok (.ifCond .lt 8, 3) := by decide +kernel
theorem dX10_told_14 : decode cX10_told 14 = .ok (.iload_n 2, 1) := by decide +kernel
theorem dX10_told_15 : decode cX10_told 15 = .ok (.iconst 5, 1) := by decide +kernel
theorem dX10_told_16 : decode cX10_told 16 = .ok (.if_icmp .lt 5, 3) := by decide +kernel
theorem dX10_told_19 : decode cX10_told 19 = .ok (.iconst (-1), 1) := by decide +kernel
theorem dX10_told_20 : decode cX10_told 20 = .ok (.ireturn, 1) := by decide +kernel
theorem dX10_told_21 : decode cX10_told 21 = .ok (.aload_n 3, 1) := by decide +kernel
theorem dX10_told_22 : decode cX10_told 22 = .ok (.getfield 134, 3) := by decide +kernel
theorem dX10_told_25 : decode cX10_told 25 = .ok (.ifCond .eq 9, 3) := by decide +kernel
theorem dX10_told_28 : decode cX10_told 28 = .ok (.aload_n 0, 1) := by decide +kernel
theorem dX10_told_29 : decode cX10_told 29 = .ok (.iconst 1, 1) := by decide +kernel
theorem dX10_told_30 : decode cX10_told 30 = .ok (.invokevirtual 78, 3) := by decide +kernel
theorem dX10_told_33 : decode cX10_told 33 = .ok (.ireturn, 1) := by decide +kernel
theorem dX10_told_34 : decode cX10_told 34 = .ok (.aload_n 3, 1) := by decide +kernel
theorem dX10_told_35 : decode cX10_told 35 = .ok (.iload_n 2, 1) := by decide +kernel
theorem dX10_told_36 : decode cX10_told 36 = .ok (.invokevirtual 138, 3) := by decide +kernel
theorem dX10_told_39 : decode cX10_told 39 = .ok (.ireturn, 1) := by decide +kernel
theorem dX10_mark_0 : decode cX10_mark 0 = .ok (.aload_n 0, 1) := by decide +kernel
theorem dX10_mark_1 : decode cX10_mark 1 = .ok (.iload_n 1, 1) := by decide +kernel
theorem dX10_mark_2 : decode cX10_mark 2 = .ok (.invokevirtual 130, 3) := by decide +kernel
theorem dX10_mark_5 : decode cX10_mark 5 = .ok (.astore_n 3, 1) := by decide +kernel
theorem dX10_mark_6 : decode cX10_mark 6 = .ok (.aload_n 3, 1) := by decide +kernel
theorem dX10_mark_7 : decode cX10_mark 7 = .ok (.ifnull 13, 3) := by decide +kernel
theorem dX10_mark_10 : decode cX10_mark 10 = .ok (.iload_n 2, 1) := by decide +kernel
theorem dX10_mark_11 : decode cX10_mark 11 = .ok (.iconst 1, 1) := by decide +kernel
theorem dX10_mark_12 : decode cX10_mark 12 = .ok (.if_icmp .lt 8, 3) := by decide +kernel
theorem dX10_mark_15 : decode cX10_mark 15 = .ok (.iload_n 2, 1) := by decide +kernel
theorem dX10_mark_16 : decode cX10_mark 16 = .ok (.iconst 3, 1) := by decide +kernel
theorem dX10_mark_17 : decode cX10_mark 17 = .ok (.if_icmp .le 5, 3) := by decide +kernel
theorem dX10_mark_20 : decode cX10_mark 20 = .ok (.iconst (-1), 1) := by decide +kernel
theorem dX10_mark_21 : decode cX10_mark 21 = .ok (.ireturn, 1) := by decide +kernel
theorem dX10_mark_22 : decode cX10_mark 22 = .ok (.aload_n 3, 1) := by decide +kernel
theorem dX10_mark_23 : decode cX10_mark 23 = .ok (.getfield 134, 3) := by decide +kernel
theorem dX10_mark_26 : decode cX10_mark 26 = .ok (.ifCond .eq 9, 3) := by decide +kernel
theorem dX10_mark_29 : decode cX10_mark 29 = .ok (.aload_n 0, 1) := by decide +kernel
theorem dX10_mark_30 : decode cX10_mark 30 = .ok (.iconst 1, 1) := by decide +kernel
theorem dX10_mark_31 : decode cX10_mark 31 = .ok (.invokevirtual 78, 3) := by decide +kernel
theorem dX10_mark_34 : decode cX10_mark 34 = .ok (.ireturn, 1) := by decide +kernel
theorem dX10_mark_35 : decode cX10_mark 35 = .ok (.iload_n 2, 1) := by decide +kernel
theorem dX10_mark_36 : decode cX10_mark 36 = .ok (.iconst 1, 1) := by decide +kernel
theorem dX10_mark_37 : decode cX10_mark 37 = .ok (.if_icmp .ne 15, 3) := by decide +kernel
theorem dX10_mark_40 : decode cX10_mark 40 = .ok (.aload_n 3, 1) := by decide +kernel
theorem dX10_mark_41 : decode cX10_mark 41 = .ok (.invokevirtual 141, 3) := by decide +kernel
theorem dX10_mark_44 : decode cX10_mark 44 = .ok (.ifCond .eq 8, 3) := by decide +kernel
theorem dX10_mark_47 : decode cX10_mark 47 = .ok (.aload_n 3, 1) := by decide +kernel
theorem dX10_mark_48 : decode cX10_mark 48 = .ok (.getfield 144, 3) := by decide +kernel
theorem dX10_mark_51 : decode cX10_mark 51 = .ok (.ireturn, 1) := by decide +kernel
theorem dX10_mark_52 : decode cX10_mark 52 = .ok (.iload_n 2, 1) := by decide +kernel
theorem dX10_mark_53 : decode cX10_mark 53 = .ok (.iconst 2, 1) := by decide +kernel
theorem dX10_mark_54 : decode cX10_mark 54 = .ok (.if_icmp .ne 16, 3) := by decide +kernel
theorem dX10_mark_57 : decode cX10_mark 57 = .ok (.aload_n 3, 1) := by decide +kernel
theorem dX10_mark_58 : decode cX10_mark 58 = .ok (.getfield 147, 3) := by decide +kernel
theorem dX10_mark_61 : decode cX10_mark 61 = .ok (.iconst 2, 1) := by decide +kernel
theorem dX10_mark_62 : decode cX10_mark 62 = .ok (.if_icmp .ne 8, 3) := by decide +kernel
theorem dX10_mark_65 : decode cX10_mark 65 = .ok (.aload_n 3, 1) := by decide +kernel
theorem dX10_mark_66 : decode cX10_mark 66 = .ok (.getfield 150, 3) := by decide +kernel
theorem dX10_mark_69 : decode cX10_mark 69 = .ok (.ireturn, 1) := by decide +kernel
theorem dX10_mark_70 : decode cX10_mark 70 = .ok (.iload_n 2, 1) := by decide +kernel
theorem dX10_mark_71 : decode cX10_mark 71 = .ok (.iconst 3, 1) := by decide +kernel
theorem dX10_mark_72 : decode cX10_mark 72 = .ok (.if_icmp .ne 19, 3) := by decide +kernel
theorem dX10_mark_75 : decode cX10_mark 75 = .ok (.aload_n 3, 1) := by decide +kernel
theorem dX10_mark_76 : decode cX10_mark 76 = .ok (.getfield 147, 3) := by decide +kernel
theorem dX10_mark_79 : decode cX10_mark 79 = .ok (.iconst 3, 1) := by decide +kernel
theorem dX10_mark_80 : decode cX10_mark 80 = .ok (.if_icmp .ne 11, 3) := by decide +kernel
theorem dX10_mark_83 : decode cX10_mark 83 = .ok (.aload_n 3, 1) := by decide +kernel
theorem dX10_mark_84 : decode cX10_mark 84 = .ok (.getfield 119, 3) := by decide +kernel
theorem dX10_mark_87 : decode cX10_mark 87 = .ok (.getfield 153, 3) := by decide +kernel
theorem dX10_mark_90 : decode cX10_mark 90 = .ok (.ireturn, 1) := by decide +kernel
theorem dX10_mark_91 : decode cX10_mark 91 = .ok (.aload_n 0, 1) := by decide +kernel
theorem dX10_mark_92 : decode cX10_mark 92 = .ok (.iconst 3, 1) := by decide +kernel
theorem dX10_mark_93 : decode cX10_mark 93 = .ok (.invokevirtual 78, 3) := by decide +kernel
theorem dX10_mark_96 : decode cX10_mark 96 = .ok (.ireturn, 1) := by decide +kernel
theorem dX10_withdraw_0 : decode cX10_withdraw 0 = .ok (.aload_n 0, 1) := by decide +kernel
theorem dX10_withdraw_1 : decode cX10_withdraw 1 = .ok (.iload_n 1, 1) := by decide +kernel
theorem dX10_withdraw_2 : decode cX10_withdraw 2 = .ok (.invokevirtual 130, 3) := by decide +kernel
theorem dX10_withdraw_5 : decode cX10_withdraw 5 = .ok (.astore_n 2, 1) := by decide +kernel
theorem dX10_withdraw_6 : decode cX10_withdraw 6 = .ok (.aload_n 2, 1) := by decide +kernel
theorem dX10_withdraw_7 : decode cX10_withdraw 7 = .ok (.ifnonnull 5, 3) := by decide +kernel
theorem dX10_withdraw_10 : decode cX10_withdraw 10 = .ok (.iconst (-1), 1) := by decide +kernel
theorem dX10_withdraw_11 : decode cX10_withdraw 11 = .ok (.ireturn, 1) := by decide +kernel
theorem dX10_withdraw_12 : decode cX10_withdraw 12 = .ok (.aload_n 2, 1) := by decide +kernel
theorem dX10_withdraw_13 : decode cX10_withdraw 13 = .ok (.getfield 134, 3) := by decide +kernel
theorem dX10_withdraw_16 : decode cX10_withdraw 16 = .ok (.ifCond .eq 9, 3) := by decide +kernel
theorem dX10_withdraw_19 : decode cX10_withdraw 19 = .ok (.aload_n 0, 1) := by decide +kernel
theorem dX10_withdraw_20 : decode cX10_withdraw 20 = .ok (.iconst 1, 1) := by decide +kernel
theorem dX10_withdraw_21 : decode cX10_withdraw 21 = .ok (.invokevirtual 78, 3) := by decide +kernel
theorem dX10_withdraw_24 : decode cX10_withdraw 24 = .ok (.ireturn, 1) := by decide +kernel
theorem dX10_withdraw_25 : decode cX10_withdraw 25 = .ok (.aload_n 2, 1) := by decide +kernel
theorem dX10_withdraw_26 : decode cX10_withdraw 26 = .ok (.iconst 1, 1) := by decide +kernel
theorem dX10_withdraw_27 : decode cX10_withdraw 27 = .ok (.putfield 134, 3) := by decide +kernel
theorem dX10_withdraw_30 : decode cX10_withdraw 30 = .ok (.iconst 1, 1) := by decide +kernel
theorem dX10_withdraw_31 : decode cX10_withdraw 31 = .ok (.ireturn, 1) := by decide +kernel
theorem dX10_feature_0 : decode cX10_feature 0 = .ok (.iload_n 1, 1) := by decide +kernel
theorem dX10_feature_1 : decode cX10_feature 1 = .ok (.iload_n 2, 1) := by decide +kernel
theorem dX10_feature_2 : decode cX10_feature 2 = .ok (.invokestatic 156, 3) := by decide +kernel
theorem dX10_feature_5 : decode cX10_feature 5 = .ok (.ifCond .ne 5, 3) := by decide +kernel
theorem dX10_feature_8 : decode cX10_feature 8 = .ok (.iconst (-1), 1) := by decide +kernel
theorem dX10_feature_9 : decode cX10_feature 9 = .ok (.ireturn, 1) := by decide +kernel
theorem dX10_feature_10 : decode cX10_feature 10 = .ok (.aload_n 0, 1) := by decide +kernel
theorem dX10_feature_11 : decode cX10_feature 11 = .ok (.getfield 24, 3) := by decide +kernel
theorem dX10_feature_14 : decode cX10_feature 14 = .ok (.invokevirtual 159, 3) := by decide +kernel
theorem dX10_feature_17 : decode cX10_feature 17 = .ok (.ifCond .eq 6, 3) := by decide +kernel
theorem dX10_feature_20 : decode cX10_feature 20 = .ok (.bipush (-2), 2) := by decide +kernel
theorem dX10_feature_22 : decode cX10_feature 22 = .ok (.ireturn, 1) := by decide +kernel
theorem dX10_feature_23 : decode cX10_feature 23 = .ok (.iload_n 1, 1) := by decide +kernel
theorem dX10_feature_24 : decode cX10_feature 24 = .ok (.iconst 3, 1) := by decide +kernel
theorem dX10_feature_25 : decode cX10_feature 25 = .ok (.if_icmp .ne 50, 3) := by decide +kernel
theorem dX10_feature_28 : decode cX10_feature 28 = .ok (.aload_n 0, 1) := by decide +kernel
theorem dX10_feature_29 : decode cX10_feature 29 = .ok (.iload_n 2, 1) := by decide +kernel
theorem dX10_feature_30 : decode cX10_feature 30 = .ok (.invokevirtual 74, 3) := by decide +kernel
theorem dX10_feature_33 : decode cX10_feature 33 = .ok (.astore_n 3, 1) := by decide +kernel
theorem dX10_feature_34 : decode cX10_feature 34 = .ok (.aload_n 3, 1) := by decide +kernel
theorem dX10_feature_35 : decode cX10_feature 35 = .ok (.ifnull 10, 3) := by decide +kernel
theorem dX10_feature_38 : decode cX10_feature 38 = .ok (.aload_n 3, 1) := by decide +kernel
theorem dX10_feature_39 : decode cX10_feature 39 = .ok (.invokevirtual 86, 3) := by decide +kernel
theorem dX10_feature_42 : decode cX10_feature 42 = .ok (.ifCond .eq 9, 3) := by decide +kernel
theorem dX10_feature_45 : decode cX10_feature 45 = .ok (.aload_n 0, 1) := by decide +kernel
theorem dX10_feature_46 : decode cX10_feature 46 = .ok (.iconst 1, 1) := by decide +kernel
theorem dX10_feature_47 : decode cX10_feature 47 = .ok (.invokevirtual 78, 3) := by decide +kernel
theorem dX10_feature_50 : decode cX10_feature 50 = .ok (.ireturn, 1) := by decide +kernel
theorem dX10_feature_51 : decode cX10_feature 51 = .ok (.aload_n 0, 1) := by decide +kernel
theorem dX10_feature_52 : decode cX10_feature 52 = .ok (.getfield 59, 3) := by decide +kernel
theorem dX10_feature_55 : decode cX10_feature 55 = .ok (.aload_n 3, 1) := by decide +kernel
theorem dX10_feature_56 : decode cX10_feature 56 = .ok (.invokevirtual 122, 3) := by decide +kernel
theorem dX10_feature_59 : decode cX10_feature 59 = .ok (.aload_n 0, 1) := by decide +kernel
theorem dX10_feature_60 : decode cX10_feature 60 = .ok (.getfield 59, 3) := by decide +kernel
theorem dX10_feature_63 : decode cX10_feature 63 = .ok (.getfield 153, 3) := by decide +kernel
theorem dX10_feature_66 : decode cX10_feature 66 = .ok (.ifCond .ne 9, 3) := by decide +kernel
theorem dX10_feature_69 : decode cX10_feature 69 = .ok (.aload_n 0, 1) := by decide +kernel
theorem dX10_feature_70 : decode cX10_feature 70 = .ok (.iconst 5, 1) := by decide +kernel
theorem dX10_feature_71 : decode cX10_feature 71 = .ok (.invokevirtual 78, 3) := by decide +kernel
theorem dX10_feature_74 : decode cX10_feature 74 = .ok (.ireturn, 1) := by decide +kernel
theorem dX10_feature_75 : decode cX10_feature 75 = .ok (.new 162, 3) := by decide +kernel
theorem dX10_feature_78 : decode cX10_feature 78 = .ok (.dup, 1) := by decide +kernel
theorem dX10_feature_79 : decode cX10_feature 79 = .ok (.iload_n 1, 1) := by decide +kernel
theorem dX10_feature_80 : decode cX10_feature 80 = .ok (.iload_n 2, 1) := by decide +kernel
theorem dX10_feature_81 : decode cX10_feature 81 = .ok (.invokestatic 164, 3) := by decide +kernel
theorem dX10_feature_84 : decode cX10_feature 84 = .ok (.invokespecial 167, 3) := by decide +kernel
theorem dX10_feature_87 : decode cX10_feature 87 = .ok (.astore_n 3, 1) := by decide +kernel
theorem dX10_feature_88 : decode cX10_feature 88 = .ok (.iload_n 1, 1) := by decide +kernel
theorem dX10_feature_89 : decode cX10_feature 89 = .ok (.iconst 3, 1) := by decide +kernel
theorem dX10_feature_90 : decode cX10_feature 90 = .ok (.if_icmp .ne 12, 3) := by decide +kernel
theorem dX10_feature_93 : decode cX10_feature 93 = .ok (.aload_n 3, 1) := by decide +kernel
theorem dX10_feature_94 : decode cX10_feature 94 = .ok (.aload_n 0, 1) := by decide +kernel
theorem dX10_feature_95 : decode cX10_feature 95 = .ok (.getfield 59, 3) := by decide +kernel
theorem dX10_feature_98 : decode cX10_feature 98 = .ok (.iconst 0, 1) := by decide +kernel
theorem dX10_feature_99 : decode cX10_feature 99 = .ok (.invokevirtual 169, 3) := by decide +kernel
theorem dX10_feature_102 : decode cX10_feature 102 = .ok (.aload_n 0, 1) := by decide +kernel
theorem dX10_feature_103 : decode cX10_feature 103 = .ok (.getfield 24, 3) := by decide +kernel
theorem dX10_feature_106 : decode cX10_feature 106 = .ok (.aload_n 3, 1) := by decide +kernel
theorem dX10_feature_107 : decode cX10_feature 107 = .ok (.aload_n 0, 1) := by decide +kernel
theorem dX10_feature_108 : decode cX10_feature 108 = .ok (.getfield 17, 3) := by decide +kernel
theorem dX10_feature_111 : decode cX10_feature 111 = .ok (.invokevirtual 173, 3) := by decide +kernel
theorem dX10_feature_114 : decode cX10_feature 114 = .ok (.ireturn, 1) := by decide +kernel
theorem dX10_counts_0 : decode cX10_counts 0 = .ok (.aload_n 0, 1) := by decide +kernel
theorem dX10_counts_1 : decode cX10_counts 1 = .ok (.iload_n 2, 1) := by decide +kernel
theorem dX10_counts_2 : decode cX10_counts 2 = .ok (.invokevirtual 130, 3) := by decide +kernel
theorem dX10_counts_5 : decode cX10_counts 5 = .ok (.astore_n 3, 1) := by decide +kernel
theorem dX10_counts_6 : decode cX10_counts 6 = .ok (.aload_n 3, 1) := by decide +kernel
theorem dX10_counts_7 : decode cX10_counts 7 = .ok (.ifnull 14, 3) := by decide +kernel
theorem dX10_counts_10 : decode cX10_counts 10 = .ok (.aload_n 0, 1) := by decide +kernel
theorem dX10_counts_11 : decode cX10_counts 11 = .ok (.getfield 24, 3) := by decide +kernel
theorem dX10_counts_14 : decode cX10_counts 14 = .ok (.iload_n 1, 1) := by decide +kernel
theorem dX10_counts_15 : decode cX10_counts 15 = .ok (.invokevirtual 177, 3) := by decide +kernel
theorem dX10_counts_18 : decode cX10_counts 18 = .ok (.ifCond .ne 5, 3) := by decide +kernel
theorem dX10_counts_21 : decode cX10_counts 21 = .ok (.iconst (-1), 1) := by decide +kernel
theorem dX10_counts_22 : decode cX10_counts 22 = .ok (.ireturn, 1) := by decide +kernel
theorem dX10_counts_23 : decode cX10_counts 23 = .ok (.aload_n 3, 1) := by decide +kernel
theorem dX10_counts_24 : decode cX10_counts 24 = .ok (.getfield 134, 3) := by decide +kernel
theorem dX10_counts_27 : decode cX10_counts 27 = .ok (.ifCond .eq 9, 3) := by decide +kernel
theorem dX10_counts_30 : decode cX10_counts 30 = .ok (.aload_n 0, 1) := by decide +kernel
theorem dX10_counts_31 : decode cX10_counts 31 = .ok (.iconst 1, 1) := by decide +kernel
theorem dX10_counts_32 : decode cX10_counts 32 = .ok (.invokevirtual 78, 3) := by decide +kernel
theorem dX10_counts_35 : decode cX10_counts 35 = .ok (.ireturn, 1) := by decide +kernel
theorem dX10_counts_36 : decode cX10_counts 36 = .ok (.aload_n 3, 1) := by decide +kernel
theorem dX10_counts_37 : decode cX10_counts 37 = .ok (.getfield 180, 3) := by decide +kernel
theorem dX10_counts_40 : decode cX10_counts 40 = .ok (.iload_n 1, 1) := by decide +kernel
theorem dX10_counts_41 : decode cX10_counts 41 = .ok (.invokevirtual 184, 3) := by decide +kernel
theorem dX10_counts_44 : decode cX10_counts 44 = .ok (.ireturn, 1) := by decide +kernel
theorem dX10_rate_0 : decode cX10_rate 0 = .ok (.aload_n 0, 1) := by decide +kernel
theorem dX10_rate_1 : decode cX10_rate 1 = .ok (.iload_n 2, 1) := by decide +kernel
theorem dX10_rate_2 : decode cX10_rate 2 = .ok (.invokevirtual 130, 3) := by decide +kernel
theorem dX10_rate_5 : decode cX10_rate 5 = .ok (.astore_n 3, 1) := by decide +kernel
theorem dX10_rate_6 : decode cX10_rate 6 = .ok (.aload_n 3, 1) := by decide +kernel
theorem dX10_rate_7 : decode cX10_rate 7 = .ok (.ifnull 14, 3) := by decide +kernel
theorem dX10_rate_10 : decode cX10_rate 10 = .ok (.aload_n 0, 1) := by decide +kernel
theorem dX10_rate_11 : decode cX10_rate 11 = .ok (.getfield 24, 3) := by decide +kernel
theorem dX10_rate_14 : decode cX10_rate 14 = .ok (.iload_n 1, 1) := by decide +kernel
theorem dX10_rate_15 : decode cX10_rate 15 = .ok (.invokevirtual 177, 3) := by decide +kernel
theorem dX10_rate_18 : decode cX10_rate 18 = .ok (.ifCond .ne 5, 3) := by decide +kernel
theorem dX10_rate_21 : decode cX10_rate 21 = .ok (.iconst (-1), 1) := by decide +kernel
theorem dX10_rate_22 : decode cX10_rate 22 = .ok (.ireturn, 1) := by decide +kernel
theorem dX10_rate_23 : decode cX10_rate 23 = .ok (.aload_n 3, 1) := by decide +kernel
theorem dX10_rate_24 : decode cX10_rate 24 = .ok (.getfield 134, 3) := by decide +kernel
theorem dX10_rate_27 : decode cX10_rate 27 = .ok (.ifCond .eq 9, 3) := by decide +kernel
theorem dX10_rate_30 : decode cX10_rate 30 = .ok (.aload_n 0, 1) := by decide +kernel
theorem dX10_rate_31 : decode cX10_rate 31 = .ok (.iconst 1, 1) := by decide +kernel
theorem dX10_rate_32 : decode cX10_rate 32 = .ok (.invokevirtual 78, 3) := by decide +kernel
theorem dX10_rate_35 : decode cX10_rate 35 = .ok (.ireturn, 1) := by decide +kernel
theorem dX10_rate_36 : decode cX10_rate 36 = .ok (.aload_n 0, 1) := by decide +kernel
theorem dX10_rate_37 : decode cX10_rate 37 = .ok (.getfield 24, 3) := by decide +kernel
theorem dX10_rate_40 : decode cX10_rate 40 = .ok (.aload_n 3, 1) := by decide +kernel
theorem dX10_rate_41 : decode cX10_rate 41 = .ok (.getfield 180, 3) := by decide +kernel
theorem dX10_rate_44 : decode cX10_rate 44 = .ok (.iload_n 1, 1) := by decide +kernel
theorem dX10_rate_45 : decode cX10_rate 45 = .ok (.invokevirtual 189, 3) := by decide +kernel
theorem dX10_rate_48 : decode cX10_rate 48 = .ok (.ireturn, 1) := by decide +kernel
theorem dX10_hand_0 : decode cX10_hand 0 = .ok (.aload_n 0, 1) := by decide +kernel
theorem dX10_hand_1 : decode cX10_hand 1 = .ok (.getfield 24, 3) := by decide +kernel
theorem dX10_hand_4 : decode cX10_hand 4 = .ok (.iload_n 1, 1) := by decide +kernel
theorem dX10_hand_5 : decode cX10_hand 5 = .ok (.invokevirtual 177, 3) := by decide +kernel
theorem dX10_hand_8 : decode cX10_hand 8 = .ok (.ifCond .eq 10, 3) := by decide +kernel
theorem dX10_hand_11 : decode cX10_hand 11 = .ok (.iload_n 2, 1) := by decide +kernel
theorem dX10_hand_12 : decode cX10_hand 12 = .ok (.invokestatic 108, 3) := by decide +kernel
theorem dX10_hand_15 : decode cX10_hand 15 = .ok (.ifCond .ne 5, 3) := by decide +kernel
theorem dX10_hand_18 : decode cX10_hand 18 = .ok (.iconst (-1), 1) := by decide +kernel
theorem dX10_hand_19 : decode cX10_hand 19 = .ok (.ireturn, 1) := by decide +kernel
theorem dX10_hand_20 : decode cX10_hand 20 = .ok (.aload_n 0, 1) := by decide +kernel
theorem dX10_hand_21 : decode cX10_hand 21 = .ok (.getfield 31, 3) := by decide +kernel
theorem dX10_hand_24 : decode cX10_hand 24 = .ok (.iconst (-1), 1) := by decide +kernel
theorem dX10_hand_25 : decode cX10_hand 25 = .ok (.aload_n 0, 1) := by decide +kernel
theorem dX10_hand_26 : decode cX10_hand 26 = .ok (.getfield 17, 3) := by decide +kernel
theorem dX10_hand_29 : decode cX10_hand 29 = .ok (.aload_n 0, 1) := by decide +kernel
theorem dX10_hand_30 : decode cX10_hand 30 = .ok (.getfield 24, 3) := by decide +kernel
theorem dX10_hand_33 : decode cX10_hand 33 = .ok (.invokevirtual 193, 3) := by decide +kernel
theorem dX10_hand_36 : decode cX10_hand 36 = .ok (.aload_n 0, 1) := by decide +kernel
theorem dX10_hand_37 : decode cX10_hand 37 = .ok (.getfield 31, 3) := by decide +kernel
theorem dX10_hand_40 : decode cX10_hand 40 = .ok (.iload_n 2, 1) := by decide +kernel
theorem dX10_hand_41 : decode cX10_hand 41 = .ok (.invokevirtual 197, 3) := by decide +kernel
theorem dX10_hand_44 : decode cX10_hand 44 = .ok (.ifCond .ne 9, 3) := by decide +kernel
theorem dX10_hand_47 : decode cX10_hand 47 = .ok (.aload_n 0, 1) := by decide +kernel
theorem dX10_hand_48 : decode cX10_hand 48 = .ok (.iconst 4, 1) := by decide +kernel
theorem dX10_hand_49 : decode cX10_hand 49 = .ok (.invokevirtual 78, 3) := by decide +kernel
theorem dX10_hand_52 : decode cX10_hand 52 = .ok (.ireturn, 1) := by decide +kernel
theorem dX10_hand_53 : decode cX10_hand 53 = .ok (.aload_n 0, 1) := by decide +kernel
theorem dX10_hand_54 : decode cX10_hand 54 = .ok (.getfield 31, 3) := by decide +kernel
theorem dX10_hand_57 : decode cX10_hand 57 = .ok (.iload_n 2, 1) := by decide +kernel
theorem dX10_hand_58 : decode cX10_hand 58 = .ok (.iload_n 1, 1) := by decide +kernel
theorem dX10_hand_59 : decode cX10_hand 59 = .ok (.invokevirtual 198, 3) := by decide +kernel
theorem dX10_hand_62 : decode cX10_hand 62 = .ok (.ireturn, 1) := by decide +kernel
theorem dX10_mean_0 : decode cX10_mean 0 = .ok (.aload_n 0, 1) := by decide +kernel
theorem dX10_mean_1 : decode cX10_mean 1 = .ok (.iload_n 1, 1) := by decide +kernel
theorem dX10_mean_2 : decode cX10_mean 2 = .ok (.invokevirtual 130, 3) := by decide +kernel
theorem dX10_mean_5 : decode cX10_mean 5 = .ok (.astore_n 2, 1) := by decide +kernel
theorem dX10_mean_6 : decode cX10_mean 6 = .ok (.aload_n 2, 1) := by decide +kernel
theorem dX10_mean_7 : decode cX10_mean 7 = .ok (.ifnonnull 5, 3) := by decide +kernel
theorem dX10_mean_10 : decode cX10_mean 10 = .ok (.iconst (-1), 1) := by decide +kernel
theorem dX10_mean_11 : decode cX10_mean 11 = .ok (.ireturn, 1) := by decide +kernel
theorem dX10_mean_12 : decode cX10_mean 12 = .ok (.aload_n 2, 1) := by decide +kernel
theorem dX10_mean_13 : decode cX10_mean 13 = .ok (.getfield 134, 3) := by decide +kernel
theorem dX10_mean_16 : decode cX10_mean 16 = .ok (.ifCond .eq 9, 3) := by decide +kernel
theorem dX10_mean_19 : decode cX10_mean 19 = .ok (.aload_n 0, 1) := by decide +kernel
theorem dX10_mean_20 : decode cX10_mean 20 = .ok (.iconst 1, 1) := by decide +kernel
theorem dX10_mean_21 : decode cX10_mean 21 = .ok (.invokevirtual 78, 3) := by decide +kernel
theorem dX10_mean_24 : decode cX10_mean 24 = .ok (.ireturn, 1) := by decide +kernel
theorem dX10_mean_25 : decode cX10_mean 25 = .ok (.aload_n 2, 1) := by decide +kernel
theorem dX10_mean_26 : decode cX10_mean 26 = .ok (.getfield 119, 3) := by decide +kernel
theorem dX10_mean_29 : decode cX10_mean 29 = .ok (.getfield 153, 3) := by decide +kernel
theorem dX10_mean_32 : decode cX10_mean 32 = .ok (.ifCond .ne 9, 3) := by decide +kernel
theorem dX10_mean_35 : decode cX10_mean 35 = .ok (.aload_n 0, 1) := by decide +kernel
theorem dX10_mean_36 : decode cX10_mean 36 = .ok (.iconst 4, 1) := by decide +kernel
theorem dX10_mean_37 : decode cX10_mean 37 = .ok (.invokevirtual 78, 3) := by decide +kernel
theorem dX10_mean_40 : decode cX10_mean 40 = .ok (.ireturn, 1) := by decide +kernel
theorem dX10_mean_41 : decode cX10_mean 41 = .ok (.aload_n 2, 1) := by decide +kernel
theorem dX10_mean_42 : decode cX10_mean 42 = .ok (.getfield 119, 3) := by decide +kernel
theorem dX10_mean_45 : decode cX10_mean 45 = .ok (.getfield 202, 3) := by decide +kernel
theorem dX10_mean_48 : decode cX10_mean 48 = .ok (.aload_n 2, 1) := by decide +kernel
theorem dX10_mean_49 : decode cX10_mean 49 = .ok (.getfield 119, 3) := by decide +kernel
theorem dX10_mean_52 : decode cX10_mean 52 = .ok (.getfield 153, 3) := by decide +kernel
theorem dX10_mean_55 : decode cX10_mean 55 = .ok (.idiv, 1) := by decide +kernel
theorem dX10_mean_56 : decode cX10_mean 56 = .ok (.ireturn, 1) := by decide +kernel
theorem dX10_sort_0 : decode cX10_sort 0 = .ok (.iload_n 1, 1) := by decide +kernel
theorem dX10_sort_1 : decode cX10_sort 1 = .ok (.ifCond .lt 8, 3) := by decide +kernel
theorem dX10_sort_4 : decode cX10_sort 4 = .ok (.iload_n 1, 1) := by decide +kernel
theorem dX10_sort_5 : decode cX10_sort 5 = .ok (.iconst 1, 1) := by decide +kernel
theorem dX10_sort_6 : decode cX10_sort 6 = .ok (.if_icmp .le 5, 3) := by decide +kernel
theorem dX10_sort_9 : decode cX10_sort 9 = .ok (.iconst (-1), 1) := by decide +kernel
theorem dX10_sort_10 : decode cX10_sort 10 = .ok (.ireturn, 1) := by decide +kernel
theorem dX10_sort_11 : decode cX10_sort 11 = .ok (.aload_n 0, 1) := by decide +kernel
theorem dX10_sort_12 : decode cX10_sort 12 = .ok (.getfield 24, 3) := by decide +kernel
theorem dX10_sort_15 : decode cX10_sort 15 = .ok (.getfield 205, 3) := by decide +kernel
theorem dX10_sort_18 : decode cX10_sort 18 = .ok (.istore_n 2, 1) := by decide +kernel
theorem dX10_sort_19 : decode cX10_sort 19 = .ok (.aload_n 0, 1) := by decide +kernel
theorem dX10_sort_20 : decode cX10_sort 20 = .ok (.getfield 24, 3) := by decide +kernel
theorem dX10_sort_23 : decode cX10_sort 23 = .ok (.iload_n 1, 1) := by decide +kernel
theorem dX10_sort_24 : decode cX10_sort 24 = .ok (.putfield 205, 3) := by decide +kernel
theorem dX10_sort_27 : decode cX10_sort 27 = .ok (.iload_n 2, 1) := by decide +kernel
theorem dX10_sort_28 : decode cX10_sort 28 = .ok (.ireturn, 1) := by decide +kernel
theorem dX10_far_0 : decode cX10_far 0 = .ok (.aload_n 0, 1) := by decide +kernel
theorem dX10_far_1 : decode cX10_far 1 = .ok (.iload_n 1, 1) := by decide +kernel
theorem dX10_far_2 : decode cX10_far 2 = .ok (.invokevirtual 130, 3) := by decide +kernel
theorem dX10_far_5 : decode cX10_far 5 = .ok (.astore_n 3, 1) := by decide +kernel
theorem dX10_far_6 : decode cX10_far 6 = .ok (.aload_n 0, 1) := by decide +kernel
theorem dX10_far_7 : decode cX10_far 7 = .ok (.iload_n 2, 1) := by decide +kernel
theorem dX10_far_8 : decode cX10_far 8 = .ok (.invokevirtual 130, 3) := by decide +kernel
theorem dX10_far_11 : decode cX10_far 11 = .ok (.astore 4, 2) := by decide +kernel
theorem dX10_far_13 : decode cX10_far 13 = .ok (.aload_n 3, 1) := by decide +kernel
theorem dX10_far_14 : decode cX10_far 14 = .ok (.ifnull 8, 3) := by decide +kernel
theorem dX10_far_17 : decode cX10_far 17 = .ok (.aload 4, 2) := by decide +kernel
theorem dX10_far_19 : decode cX10_far 19 = .ok (.ifnonnull 5, 3) := by decide +kernel
theorem dX10_far_22 : decode cX10_far 22 = .ok (.iconst (-1), 1) := by decide +kernel
theorem dX10_far_23 : decode cX10_far 23 = .ok (.ireturn, 1) := by decide +kernel
theorem dX10_far_24 : decode cX10_far 24 = .ok (.aload_n 3, 1) := by decide +kernel
theorem dX10_far_25 : decode cX10_far 25 = .ok (.getfield 134, 3) := by decide +kernel
theorem dX10_far_28 : decode cX10_far 28 = .ok (.ifCond .ne 11, 3) := by decide +kernel
theorem dX10_far_31 : decode cX10_far 31 = .ok (.aload 4, 2) := by decide +kernel
theorem dX10_far_33 : decode cX10_far 33 = .ok (.getfield 134, 3) := by decide +kernel
theorem dX10_far_36 : decode cX10_far 36 = .ok (.ifCond .eq 9, 3) := by decide +kernel
theorem dX10_far_39 : decode cX10_far 39 = .ok (.aload_n 0, 1) := by decide +kernel
theorem dX10_far_40 : decode cX10_far 40 = .ok (.iconst 1, 1) := by decide +kernel
theorem dX10_far_41 : decode cX10_far 41 = .ok (.invokevirtual 78, 3) := by decide +kernel
theorem dX10_far_44 : decode cX10_far 44 = .ok (.ireturn, 1) := by decide +kernel
theorem dX10_far_45 : decode cX10_far 45 = .ok (.aload_n 0, 1) := by decide +kernel
theorem dX10_far_46 : decode cX10_far 46 = .ok (.getfield 24, 3) := by decide +kernel
theorem dX10_far_49 : decode cX10_far 49 = .ok (.aload_n 3, 1) := by decide +kernel
theorem dX10_far_50 : decode cX10_far 50 = .ok (.getfield 180, 3) := by decide +kernel
theorem dX10_far_53 : decode cX10_far 53 = .ok (.aload_n 0, 1) := by decide +kernel
theorem dX10_far_54 : decode cX10_far 54 = .ok (.getfield 63, 3) := by decide +kernel
theorem dX10_far_57 : decode cX10_far 57 = .ok (.invokevirtual 208, 3) := by decide +kernel
theorem dX10_far_60 : decode cX10_far 60 = .ok (.aload_n 0, 1) := by decide +kernel
theorem dX10_far_61 : decode cX10_far 61 = .ok (.getfield 24, 3) := by decide +kernel
theorem dX10_far_64 : decode cX10_far 64 = .ok (.aload 4, 2) := by decide +kernel
theorem dX10_far_66 : decode cX10_far 66 = .ok (.getfield 180, 3) := by decide +kernel
theorem dX10_far_69 : decode cX10_far 69 = .ok (.aload_n 0, 1) := by decide +kernel
theorem dX10_far_70 : decode cX10_far 70 = .ok (.getfield 67, 3) := by decide +kernel
theorem dX10_far_73 : decode cX10_far 73 = .ok (.invokevirtual 208, 3) := by decide +kernel
theorem dX10_far_76 : decode cX10_far 76 = .ok (.aload_n 0, 1) := by decide +kernel
theorem dX10_far_77 : decode cX10_far 77 = .ok (.getfield 24, 3) := by decide +kernel
theorem dX10_far_80 : decode cX10_far 80 = .ok (.aload_n 0, 1) := by decide +kernel
theorem dX10_far_81 : decode cX10_far 81 = .ok (.getfield 63, 3) := by decide +kernel
theorem dX10_far_84 : decode cX10_far 84 = .ok (.aload_n 0, 1) := by decide +kernel
theorem dX10_far_85 : decode cX10_far 85 = .ok (.getfield 67, 3) := by decide +kernel
theorem dX10_far_88 : decode cX10_far 88 = .ok (.iconst (-1), 1) := by decide +kernel
theorem dX10_far_89 : decode cX10_far 89 = .ok (.invokevirtual 212, 3) := by decide +kernel
theorem dX10_far_92 : decode cX10_far 92 = .ok (.ireturn, 1) := by decide +kernel
theorem dX10_from_0 : decode cX10_from 0 = .ok (.aload_n 0, 1) := by decide +kernel
theorem dX10_from_1 : decode cX10_from 1 = .ok (.iload_n 1, 1) := by decide +kernel
theorem dX10_from_2 : decode cX10_from 2 = .ok (.invokevirtual 130, 3) := by decide +kernel
theorem dX10_from_5 : decode cX10_from 5 = .ok (.astore_n 3, 1) := by decide +kernel
theorem dX10_from_6 : decode cX10_from 6 = .ok (.aload_n 3, 1) := by decide +kernel
theorem dX10_from_7 : decode cX10_from 7 = .ok (.ifnull 10, 3) := by decide +kernel
theorem dX10_from_10 : decode cX10_from 10 = .ok (.iload_n 2, 1) := by decide +kernel
theorem dX10_from_11 : decode cX10_from 11 = .ok (.invokestatic 108, 3) := by decide +kernel
theorem dX10_from_14 : decode cX10_from 14 = .ok (.ifCond .ne 5, 3) := by decide +kernel
theorem dX10_from_17 : decode cX10_from 17 = .ok (.iconst (-1), 1) := by decide +kernel
theorem dX10_from_18 : decode cX10_from 18 = .ok (.ireturn, 1) := by decide +kernel
theorem dX10_from_19 : decode cX10_from 19 = .ok (.aload_n 3, 1) := by decide +kernel
theorem dX10_from_20 : decode cX10_from 20 = .ok (.getfield 134, 3) := by decide +kernel
theorem dX10_from_23 : decode cX10_from 23 = .ok (.ifCond .eq 9, 3) := by decide +kernel
theorem dX10_from_26 : decode cX10_from 26 = .ok (.aload_n 0, 1) := by decide +kernel
theorem dX10_from_27 : decode cX10_from 27 = .ok (.iconst 1, 1) := by decide +kernel
theorem dX10_from_28 : decode cX10_from 28 = .ok (.invokevirtual 78, 3) := by decide +kernel
theorem dX10_from_31 : decode cX10_from 31 = .ok (.ireturn, 1) := by decide +kernel
theorem dX10_from_32 : decode cX10_from 32 = .ok (.aload_n 0, 1) := by decide +kernel
theorem dX10_from_33 : decode cX10_from 33 = .ok (.iload_n 1, 1) := by decide +kernel
theorem dX10_from_34 : decode cX10_from 34 = .ok (.aload_n 3, 1) := by decide +kernel
theorem dX10_from_35 : decode cX10_from 35 = .ok (.invokevirtual 216, 3) := by decide +kernel
theorem dX10_from_38 : decode cX10_from 38 = .ok (.aload_n 0, 1) := by decide +kernel
theorem dX10_from_39 : decode cX10_from 39 = .ok (.getfield 31, 3) := by decide +kernel
theorem dX10_from_42 : decode cX10_from 42 = .ok (.iload_n 2, 1) := by decide +kernel
theorem dX10_from_43 : decode cX10_from 43 = .ok (.invokevirtual 197, 3) := by decide +kernel
theorem dX10_from_46 : decode cX10_from 46 = .ok (.ifCond .ne 9, 3) := by decide +kernel
theorem dX10_from_49 : decode cX10_from 49 = .ok (.aload_n 0, 1) := by decide +kernel
theorem dX10_from_50 : decode cX10_from 50 = .ok (.iconst 4, 1) := by decide +kernel
theorem dX10_from_51 : decode cX10_from 51 = .ok (.invokevirtual 78, 3) := by decide +kernel
theorem dX10_from_54 : decode cX10_from 54 = .ok (.ireturn, 1) := by decide +kernel
theorem dX10_from_55 : decode cX10_from 55 = .ok (.aload_n 0, 1) := by decide +kernel
theorem dX10_from_56 : decode cX10_from 56 = .ok (.getfield 31, 3) := by decide +kernel
theorem dX10_from_59 : decode cX10_from 59 = .ok (.iload_n 2, 1) := by decide +kernel
theorem dX10_from_60 : decode cX10_from 60 = .ok (.aload_n 0, 1) := by decide +kernel
theorem dX10_from_61 : decode cX10_from 61 = .ok (.getfield 63, 3) := by decide +kernel
theorem dX10_from_64 : decode cX10_from 64 = .ok (.aload_n 0, 1) := by decide +kernel
theorem dX10_from_65 : decode cX10_from 65 = .ok (.getfield 24, 3) := by decide +kernel
theorem dX10_from_68 : decode cX10_from 68 = .ok (.iconst (-1), 1) := by decide +kernel
theorem dX10_from_69 : decode cX10_from 69 = .ok (.invokevirtual 220, 3) := by decide +kernel
theorem dX10_from_72 : decode cX10_from 72 = .ok (.ireturn, 1) := by decide +kernel
theorem dX10_nearest_0 : decode cX10_nearest 0 = .ok (.aload_n 0, 1) := by decide +kernel
theorem dX10_nearest_1 : decode cX10_nearest 1 = .ok (.iload_n 1, 1) := by decide +kernel
theorem dX10_nearest_2 : decode cX10_nearest 2 = .ok (.invokevirtual 130, 3) := by decide +kernel
theorem dX10_nearest_5 : decode cX10_nearest 5 = .ok (.astore_n 2, 1) := by decide +kernel
theorem dX10_nearest_6 : decode cX10_nearest 6 = .ok (.aload_n 2, 1) := by decide +kernel
theorem dX10_nearest_7 : decode cX10_nearest 7 = .ok (.ifnonnull 5, 3) := by decide +kernel
theorem dX10_nearest_10 : decode cX10_nearest 10 = .ok (.iconst (-1), 1) := by decide +kernel
theorem dX10_nearest_11 : decode cX10_nearest 11 = .ok (.ireturn, 1) := by decide +kernel
theorem dX10_nearest_12 : decode cX10_nearest 12 = .ok (.aload_n 2, 1) := by decide +kernel
theorem dX10_nearest_13 : decode cX10_nearest 13 = .ok (.getfield 134, 3) := by decide +kernel
theorem dX10_nearest_16 : decode cX10_nearest 16 = .ok (.ifCond .eq 9, 3) := by decide +kernel
theorem dX10_nearest_19 : decode cX10_nearest 19 = .ok (.aload_n 0, 1) := by decide +kernel
theorem dX10_nearest_20 : decode cX10_nearest 20 = .ok (.iconst 1, 1) := by decide +kernel
theorem dX10_nearest_21 : decode cX10_nearest 21 = .ok (.invokevirtual 78, 3) := by decide +kernel
theorem dX10_nearest_24 : decode cX10_nearest 24 = .ok (.ireturn, 1) := by decide +kernel
theorem dX10_nearest_25 : decode cX10_nearest 25 = .ok (.aload_n 0, 1) := by decide +kernel
theorem dX10_nearest_26 : decode cX10_nearest 26 = .ok (.iload_n 1, 1) := by decide +kernel
theorem dX10_nearest_27 : decode cX10_nearest 27 = .ok (.aload_n 2, 1) := by decide +kernel
theorem dX10_nearest_28 : decode cX10_nearest 28 = .ok (.invokevirtual 224, 3) := by decide +kernel
theorem dX10_nearest_31 : decode cX10_nearest 31 = .ok (.ireturn, 1) := by decide +kernel
theorem dX10_place_0 : decode cX10_place 0 = .ok (.aload_n 0, 1) := by decide +kernel
theorem dX10_place_1 : decode cX10_place 1 = .ok (.iload_n 1, 1) := by decide +kernel
theorem dX10_place_2 : decode cX10_place 2 = .ok (.invokevirtual 130, 3) := by decide +kernel
theorem dX10_place_5 : decode cX10_place 5 = .ok (.astore_n 3, 1) := by decide +kernel
theorem dX10_place_6 : decode cX10_place 6 = .ok (.aload_n 3, 1) := by decide +kernel
theorem dX10_place_7 : decode cX10_place 7 = .ok (.ifnull 10, 3) := by decide +kernel
theorem dX10_place_10 : decode cX10_place 10 = .ok (.iload_n 2, 1) := by decide +kernel
theorem dX10_place_11 : decode cX10_place 11 = .ok (.invokestatic 108, 3) := by decide +kernel
theorem dX10_place_14 : decode cX10_place 14 = .ok (.ifCond .ne 5, 3) := by decide +kernel
theorem dX10_place_17 : decode cX10_place 17 = .ok (.iconst (-1), 1) := by decide +kernel
theorem dX10_place_18 : decode cX10_place 18 = .ok (.ireturn, 1) := by decide +kernel
theorem dX10_place_19 : decode cX10_place 19 = .ok (.aload_n 3, 1) := by decide +kernel
theorem dX10_place_20 : decode cX10_place 20 = .ok (.getfield 134, 3) := by decide +kernel
theorem dX10_place_23 : decode cX10_place 23 = .ok (.ifCond .eq 9, 3) := by decide +kernel
theorem dX10_place_26 : decode cX10_place 26 = .ok (.aload_n 0, 1) := by decide +kernel
theorem dX10_place_27 : decode cX10_place 27 = .ok (.iconst 1, 1) := by decide +kernel
theorem dX10_place_28 : decode cX10_place 28 = .ok (.invokevirtual 78, 3) := by decide +kernel
theorem dX10_place_31 : decode cX10_place 31 = .ok (.ireturn, 1) := by decide +kernel
theorem dX10_place_32 : decode cX10_place 32 = .ok (.aload_n 0, 1) := by decide +kernel
theorem dX10_place_33 : decode cX10_place 33 = .ok (.iload_n 1, 1) := by decide +kernel
theorem dX10_place_34 : decode cX10_place 34 = .ok (.aload_n 3, 1) := by decide +kernel
theorem dX10_place_35 : decode cX10_place 35 = .ok (.invokevirtual 216, 3) := by decide +kernel
theorem dX10_place_38 : decode cX10_place 38 = .ok (.aload_n 0, 1) := by decide +kernel
theorem dX10_place_39 : decode cX10_place 39 = .ok (.getfield 31, 3) := by decide +kernel
theorem dX10_place_42 : decode cX10_place 42 = .ok (.iload_n 2, 1) := by decide +kernel
theorem dX10_place_43 : decode cX10_place 43 = .ok (.invokevirtual 197, 3) := by decide +kernel
theorem dX10_place_46 : decode cX10_place 46 = .ok (.ifCond .ne 9, 3) := by decide +kernel
theorem dX10_place_49 : decode cX10_place 49 = .ok (.aload_n 0, 1) := by decide +kernel
theorem dX10_place_50 : decode cX10_place 50 = .ok (.iconst 4, 1) := by decide +kernel
theorem dX10_place_51 : decode cX10_place 51 = .ok (.invokevirtual 78, 3) := by decide +kernel
theorem dX10_place_54 : decode cX10_place 54 = .ok (.ireturn, 1) := by decide +kernel
theorem dX10_place_55 : decode cX10_place 55 = .ok (.aload_n 0, 1) := by decide +kernel
theorem dX10_place_56 : decode cX10_place 56 = .ok (.getfield 31, 3) := by decide +kernel
theorem dX10_place_59 : decode cX10_place 59 = .ok (.iload_n 2, 1) := by decide +kernel
theorem dX10_place_60 : decode cX10_place 60 = .ok (.aload_n 0, 1) := by decide +kernel
theorem dX10_place_61 : decode cX10_place 61 = .ok (.getfield 63, 3) := by decide +kernel
theorem dX10_place_64 : decode cX10_place 64 = .ok (.aload_n 0, 1) := by decide +kernel
theorem dX10_place_65 : decode cX10_place 65 = .ok (.getfield 24, 3) := by decide +kernel
theorem dX10_place_68 : decode cX10_place 68 = .ok (.invokevirtual 228, 3) := by decide +kernel
theorem dX10_place_71 : decode cX10_place 71 = .ok (.ireturn, 1) := by decide +kernel
theorem dX10_trial_0 : decode cX10_trial 0 = .ok (.iload_n 1, 1) := by decide +kernel
theorem dX10_trial_1 : decode cX10_trial 1 = .ok (.ifCond .lt 8, 3) := by decide +kernel
theorem dX10_trial_4 : decode cX10_trial 4 = .ok (.iload_n 1, 1) := by decide +kernel
theorem dX10_trial_5 : decode cX10_trial 5 = .ok (.iconst 2, 1) := by decide +kernel
theorem dX10_trial_6 : decode cX10_trial 6 = .ok (.if_icmp .le 5, 3) := by decide +kernel
theorem dX10_trial_9 : decode cX10_trial 9 = .ok (.iconst (-1), 1) := by decide +kernel
theorem dX10_trial_10 : decode cX10_trial 10 = .ok (.ireturn, 1) := by decide +kernel
theorem dX10_trial_11 : decode cX10_trial 11 = .ok (.iconst 0, 1) := by decide +kernel
theorem dX10_trial_12 : decode cX10_trial 12 = .ok (.istore_n 2, 1) := by decide +kernel
theorem dX10_trial_13 : decode cX10_trial 13 = .ok (.iconst 0, 1) := by decide +kernel
theorem dX10_trial_14 : decode cX10_trial 14 = .ok (.istore_n 3, 1) := by decide +kernel
theorem dX10_trial_15 : decode cX10_trial 15 = .ok (.iload_n 3, 1) := by decide +kernel
theorem dX10_trial_16 : decode cX10_trial 16 = .ok (.aload_n 0, 1) := by decide +kernel
theorem dX10_trial_17 : decode cX10_trial 17 = .ok (.getfield 17, 3) := by decide +kernel
theorem dX10_trial_20 : decode cX10_trial 20 = .ok (.arraylength, 1) := by decide +kernel
theorem dX10_trial_21 : decode cX10_trial 21 = .ok (.if_icmp .ge 55, 3) := by decide +kernel
theorem dX10_trial_24 : decode cX10_trial 24 = .ok (.aload_n 0, 1) := by decide +kernel
theorem dX10_trial_25 : decode cX10_trial 25 = .ok (.getfield 17, 3) := by decide +kernel
theorem dX10_trial_28 : decode cX10_trial 28 = .ok (.iload_n 3, 1) := by decide +kernel
theorem dX10_trial_29 : decode cX10_trial 29 = .ok (.aaload, 1) := by decide +kernel
theorem dX10_trial_30 : decode cX10_trial 30 = .ok (.astore 4, 2) := by decide +kernel
theorem dX10_trial_32 : decode cX10_trial 32 = .ok (.aload 4, 2) := by decide +kernel
theorem dX10_trial_34 : decode cX10_trial 34 = .ok (.ifnull 36, 3) := by decide +kernel
theorem dX10_trial_37 : decode cX10_trial 37 = .ok (.aload 4, 2) := by decide +kernel
theorem dX10_trial_39 : decode cX10_trial 39 = .ok (.invokevirtual 232, 3) := by decide +kernel
theorem dX10_trial_42 : decode cX10_trial 42 = .ok (.ifCond .ne 6, 3) := by decide +kernel
theorem dX10_trial_45 : decode cX10_trial 45 = .ok (.goto 25, 3) := by decide +kernel
theorem dX10_trial_48 : decode cX10_trial 48 = .ok (.aload_n 0, 1) := by decide +kernel
theorem dX10_trial_49 : decode cX10_trial 49 = .ok (.iload_n 3, 1) := by decide +kernel
theorem dX10_trial_50 : decode cX10_trial 50 = .ok (.aload 4, 2) := by decide +kernel
theorem dX10_trial_52 : decode cX10_trial 52 = .ok (.invokevirtual 224, 3) := by decide +kernel
theorem dX10_trial_55 : decode cX10_trial 55 = .ok (.aload 4, 2) := by decide +kernel
theorem dX10_trial_57 : decode cX10_trial 57 = .ok (.getfield 144, 3) := by decide +kernel
theorem dX10_trial_60 : decode cX10_trial 60 = .ok (.invokestatic 235, 3) := by decide +kernel
theorem dX10_trial_63 : decode cX10_trial 63 = .ok (.iload_n 1, 1) := by decide +kernel
theorem dX10_trial_64 : decode cX10_trial 64 = .ok (.if_icmp .ne 6, 3) := by decide +kernel
theorem dX10_trial_67 : decode cX10_trial 67 = .ok (.iinc 2 1, 3) := by decide +kernel
theorem dX10_trial_70 : decode cX10_trial 70 = .ok (.iinc 3 1, 3) := by decide +kernel
theorem dX10_trial_73 : decode cX10_trial 73 = .ok (.goto (-58), 3) := by decide +kernel
theorem dX10_trial_76 : decode cX10_trial 76 = .ok (.iload_n 2, 1) := by decide +kernel
theorem dX10_trial_77 : decode cX10_trial 77 = .ok (.ireturn, 1) := by decide +kernel
theorem dX10_taken_0 : decode cX10_taken 0 = .ok (.iload_n 1, 1) := by decide +kernel
theorem dX10_taken_1 : decode cX10_taken 1 = .ok (.invokestatic 108, 3) := by decide +kernel
theorem dX10_taken_4 : decode cX10_taken 4 = .ok (.ifCond .eq 10, 3) := by decide +kernel
theorem dX10_taken_7 : decode cX10_taken 7 = .ok (.iload_n 2, 1) := by decide +kernel
theorem dX10_taken_8 : decode cX10_taken 8 = .ok (.invokestatic 108, 3) := by decide +kernel
theorem dX10_taken_11 : decode cX10_taken 11 = .ok (.ifCond .ne 5, 3) := by decide +kernel
theorem dX10_taken_14 : decode cX10_taken 14 = .ok (.iconst (-1), 1) := by decide +kernel
theorem dX10_taken_15 : decode cX10_taken 15 = .ok (.ireturn, 1) := by decide +kernel
theorem dX10_taken_16 : decode cX10_taken 16 = .ok (.iconst 0, 1) := by decide +kernel
theorem dX10_taken_17 : decode cX10_taken 17 = .ok (.istore_n 3, 1) := by decide +kernel
theorem dX10_taken_18 : decode cX10_taken 18 = .ok (.iconst 0, 1) := by decide +kernel
theorem dX10_taken_19 : decode cX10_taken 19 = .ok (.istore 4, 2) := by decide +kernel
theorem dX10_taken_21 : decode cX10_taken 21 = .ok (.iload 4, 2) := by decide +kernel
theorem dX10_taken_23 : decode cX10_taken 23 = .ok (.aload_n 0, 1) := by decide +kernel
theorem dX10_taken_24 : decode cX10_taken 24 = .ok (.getfield 17, 3) := by decide +kernel
theorem dX10_taken_27 : decode cX10_taken 27 = .ok (.arraylength, 1) := by decide +kernel
theorem dX10_taken_28 : decode cX10_taken 28 = .ok (.if_icmp .ge 47, 3) := by decide +kernel
theorem dX10_taken_31 : decode cX10_taken 31 = .ok (.aload_n 0, 1) := by decide +kernel
theorem dX10_taken_32 : decode cX10_taken 32 = .ok (.getfield 17, 3) := by decide +kernel
theorem dX10_taken_35 : decode cX10_taken 35 = .ok (.iload 4, 2) := by decide +kernel
theorem dX10_taken_37 : decode cX10_taken 37 = .ok (.aaload, 1) := by decide +kernel
theorem dX10_taken_38 : decode cX10_taken 38 = .ok (.astore 5, 2) := by decide +kernel
theorem dX10_taken_40 : decode cX10_taken 40 = .ok (.aload 5, 2) := by decide +kernel
theorem dX10_taken_42 : decode cX10_taken 42 = .ok (.ifnull 27, 3) := by decide +kernel
theorem dX10_taken_45 : decode cX10_taken 45 = .ok (.aload 5, 2) := by decide +kernel
theorem dX10_taken_47 : decode cX10_taken 47 = .ok (.iload_n 1, 1) := by decide +kernel
theorem dX10_taken_48 : decode cX10_taken 48 = .ok (.invokevirtual 238, 3) := by decide +kernel
theorem dX10_taken_51 : decode cX10_taken 51 = .ok (.ifCond .eq 18, 3) := by decide +kernel
theorem dX10_taken_54 : decode cX10_taken 54 = .ok (.aload_n 0, 1) := by decide +kernel
theorem dX10_taken_55 : decode cX10_taken 55 = .ok (.iload 4, 2) := by decide +kernel
theorem dX10_taken_57 : decode cX10_taken 57 = .ok (.aload 5, 2) := by decide +kernel
theorem dX10_taken_59 : decode cX10_taken 59 = .ok (.invokevirtual 224, 3) := by decide +kernel
theorem dX10_taken_62 : decode cX10_taken 62 = .ok (.iload_n 2, 1) := by decide +kernel
theorem dX10_taken_63 : decode cX10_taken 63 = .ok (.if_icmp .ne 6, 3) := by decide +kernel
theorem dX10_taken_66 : decode cX10_taken 66 = .ok (.iinc 3 1, 3) := by decide +kernel
theorem dX10_taken_69 : decode cX10_taken 69 = .ok (.iinc 4 1, 3) := by decide +kernel
theorem dX10_taken_72 : decode cX10_taken 72 = .ok (.goto (-51), 3) := by decide +kernel
theorem dX10_taken_75 : decode cX10_taken 75 = .ok (.iload_n 3, 1) := by decide +kernel
theorem dX10_taken_76 : decode cX10_taken 76 = .ok (.ireturn, 1) := by decide +kernel
theorem dX10_impostors_0 : decode cX10_impostors 0 = .ok (.aload_n 0, 1) := by decide +kernel
theorem dX10_impostors_1 : decode cX10_impostors 1 = .ok (.iload_n 1, 1) := by decide +kernel
theorem dX10_impostors_2 : decode cX10_impostors 2 = .ok (.invokevirtual 130, 3) := by decide +kernel
theorem dX10_impostors_5 : decode cX10_impostors 5 = .ok (.astore 6, 2) := by decide +kernel
theorem dX10_impostors_7 : decode cX10_impostors 7 = .ok (.aload 6, 2) := by decide +kernel
theorem dX10_impostors_9 : decode cX10_impostors 9 = .ok (.ifnull 22, 3) := by decide +kernel
theorem dX10_impostors_12 : decode cX10_impostors 12 = .ok (.iload_n 2, 1) := by decide +kernel
theorem dX10_impostors_13 : decode cX10_impostors 13 = .ok (.invokestatic 108, 3) := by decide +kernel
theorem dX10_impostors_16 : decode cX10_impostors 16 = .ok (.ifCond .eq 15, 3) := by decide +kernel
theorem dX10_impostors_19 : decode cX10_impostors 19 = .ok (.iload_n 3, 1) := by decide +kernel
theorem dX10_impostors_20 : decode cX10_impostors 20 = .ok (.iconst 1, 1) := by decide +kernel
theorem dX10_impostors_21 : decode cX10_impostors 21 = .ok (.if_icmp .lt 10, 3) := by decide +kernel
theorem dX10_impostors_24 : decode cX10_impostors 24 = .ok (.iload_n 3, 1) := by decide +kernel
theorem dX10_impostors_25 : decode cX10_impostors 25 = .ok (.sipush 200, 3) := by decide +kernel
theorem dX10_impostors_28 : decode cX10_impostors 28 = .ok (.if_icmp .le 5, 3) := by decide +kernel
theorem dX10_impostors_31 : decode cX10_impostors 31 = .ok (.iconst (-1), 1) := by decide +kernel
theorem dX10_impostors_32 : decode cX10_impostors 32 = .ok (.ireturn, 1) := by decide +kernel
theorem dX10_impostors_33 : decode cX10_impostors 33 = .ok (.aload_n 0, 1) := by decide +kernel
theorem dX10_impostors_34 : decode cX10_impostors 34 = .ok (.getfield 24, 3) := by decide +kernel
theorem dX10_impostors_37 : decode cX10_impostors 37 = .ok (.getfield 241, 3) := by decide +kernel
theorem dX10_impostors_40 : decode cX10_impostors 40 = .ok (.ifCond .ne 6, 3) := by decide +kernel
theorem dX10_impostors_43 : decode cX10_impostors 43 = .ok (.bipush (-4), 2) := by decide +kernel
theorem dX10_impostors_45 : decode cX10_impostors 45 = .ok (.ireturn, 1) := by decide +kernel
theorem dX10_impostors_46 : decode cX10_impostors 46 = .ok (.aload 6, 2) := by decide +kernel
theorem dX10_impostors_48 : decode cX10_impostors 48 = .ok (.getfield 134, 3) := by decide +kernel
theorem dX10_impostors_51 : decode cX10_impostors 51 = .ok (.ifCond .eq 9, 3) := by decide +kernel
theorem dX10_impostors_54 : decode cX10_impostors 54 = .ok (.aload_n 0, 1) := by decide +kernel
theorem dX10_impostors_55 : decode cX10_impostors 55 = .ok (.iconst 1, 1) := by decide +kernel
theorem dX10_impostors_56 : decode cX10_impostors 56 = .ok (.invokevirtual 78, 3) := by decide +kernel
theorem dX10_impostors_59 : decode cX10_impostors 59 = .ok (.ireturn, 1) := by decide +kernel
theorem dX10_impostors_60 : decode cX10_impostors 60 = .ok (.aload_n 0, 1) := by decide +kernel
theorem dX10_impostors_61 : decode cX10_impostors 61 = .ok (.iload_n 1, 1) := by decide +kernel
theorem dX10_impostors_62 : decode cX10_impostors 62 = .ok (.aload 6, 2) := by decide +kernel
theorem dX10_impostors_64 : decode cX10_impostors 64 = .ok (.invokevirtual 216, 3) := by decide +kernel
theorem dX10_impostors_67 : decode cX10_impostors 67 = .ok (.aload_n 0, 1) := by decide +kernel
theorem dX10_impostors_68 : decode cX10_impostors 68 = .ok (.getfield 31, 3) := by decide +kernel
theorem dX10_impostors_71 : decode cX10_impostors 71 = .ok (.iload_n 2, 1) := by decide +kernel
theorem dX10_impostors_72 : decode cX10_impostors 72 = .ok (.invokevirtual 197, 3) := by decide +kernel
theorem dX10_impostors_75 : decode cX10_impostors 75 = .ok (.ifCond .ne 9, 3) := by decide +kernel
theorem dX10_impostors_78 : decode cX10_impostors 78 = .ok (.aload_n 0, 1) := by decide +kernel
theorem dX10_impostors_79 : decode cX10_impostors 79 = .ok (.iconst 4, 1) := by decide +kernel
theorem dX10_impostors_80 : decode cX10_impostors 80 = .ok (.invokevirtual 78, 3) := by decide +kernel
theorem dX10_impostors_83 : decode cX10_impostors 83 = .ok (.ireturn, 1) := by decide +kernel
theorem dX10_impostors_84 : decode cX10_impostors 84 = .ok (.iconst 0, 1) := by decide +kernel
theorem dX10_impostors_85 : decode cX10_impostors 85 = .ok (.istore 7, 2) := by decide +kernel
theorem dX10_impostors_87 : decode cX10_impostors 87 = .ok (.lload 4, 2) := by decide +kernel
theorem dX10_impostors_89 : decode cX10_impostors 89 = .ok (.lstore 8, 2) := by decide +kernel
theorem dX10_impostors_91 : decode cX10_impostors 91 = .ok (.iconst 0, 1) := by decide +kernel
theorem dX10_impostors_92 : decode cX10_impostors 92 = .ok (.istore 10, 2) := by decide +kernel
theorem dX10_impostors_94 : decode cX10_impostors 94 = .ok (.iload 10, 2) := by decide +kernel
theorem dX10_impostors_96 : decode cX10_impostors 96 = .ok (.iload_n 3, 1) := by decide +kernel
theorem dX10_impostors_97 : decode cX10_impostors 97 = .ok (.if_icmp .ge 59, 3) := by decide +kernel
theorem dX10_impostors_100 : decode cX10_impostors 100 = .ok (.lload 8, 2) := by decide +kernel
theorem dX10_impostors_102 : decode cX10_impostors 102 = .ok (.ldc2_w 244, 3) := by decide +kernel
theorem dX10_impostors_105 : decode cX10_impostors 105 = .ok (.lmul, 1) := by decide +kernel
theorem dX10_impostors_106 : decode cX10_impostors 106 = .ok (.ldc2_w 246, 3) := by decide +kernel
theorem dX10_impostors_109 : decode cX10_impostors 109 = .ok (.ladd, 1) := by decide +kernel
theorem dX10_impostors_110 : decode cX10_impostors 110 = .ok (.lstore 8, 2) := by decide +kernel
theorem dX10_impostors_112 : decode cX10_impostors 112 = .ok (.aload_n 0, 1) := by decide +kernel
theorem dX10_impostors_113 : decode cX10_impostors 113 = .ok (.getfield 24, 3) := by decide +kernel
theorem dX10_impostors_116 : decode cX10_impostors 116 = .ok (.lload 8, 2) := by decide +kernel
theorem dX10_impostors_118 : decode cX10_impostors 118 = .ok (.bipush 16, 2) := by decide +kernel
theorem dX10_impostors_120 : decode cX10_impostors 120 = .ok (.lushr, 1) := by decide +kernel
theorem dX10_impostors_121 : decode cX10_impostors 121 = .ok (.invokevirtual 248, 3) := by decide +kernel
theorem dX10_impostors_124 : decode cX10_impostors 124 = .ok (.istore 11, 2) := by decide +kernel
theorem dX10_impostors_126 : decode cX10_impostors 126 = .ok (.aload_n 0, 1) := by decide +kernel
theorem dX10_impostors_127 : decode cX10_impostors 127 = .ok (.getfield 31, 3) := by decide +kernel
theorem dX10_impostors_130 : decode cX10_impostors 130 = .ok (.aload_n 0, 1) := by decide +kernel
theorem dX10_impostors_131 : decode cX10_impostors 131 = .ok (.getfield 63, 3) := by decide +kernel
theorem dX10_impostors_134 : decode cX10_impostors 134 = .ok (.aload_n 0, 1) := by decide +kernel
theorem dX10_impostors_135 : decode cX10_impostors 135 = .ok (.getfield 24, 3) := by decide +kernel
theorem dX10_impostors_138 : decode cX10_impostors 138 = .ok (.iload 11, 2) := by decide +kernel
theorem dX10_impostors_140 : decode cX10_impostors 140 = .ok (.invokevirtual 252, 3) := by decide +kernel
theorem dX10_impostors_143 : decode cX10_impostors 143 = .ok (.iload_n 2, 1) := by decide +kernel
theorem dX10_impostors_144 : decode cX10_impostors 144 = .ok (.if_icmp .ne 6, 3) := by decide +kernel
theorem dX10_impostors_147 : decode cX10_impostors 147 = .ok (.iinc 7 1, 3) := by decide +kernel
theorem dX10_impostors_150 : decode cX10_impostors 150 = .ok (.iinc 10 1, 3) := by decide +kernel
theorem dX10_impostors_153 : decode cX10_impostors 153 = .ok (.goto (-59), 3) := by decide +kernel
theorem dX10_impostors_156 : decode cX10_impostors 156 = .ok (.iload 7, 2) := by decide +kernel
theorem dX10_impostors_158 : decode cX10_impostors 158 = .ok (.ireturn, 1) := by decide +kernel
theorem dX10_part_0 : decode cX10_part 0 = .ok (.aload_n 0, 1) := by decide +kernel
theorem dX10_part_1 : decode cX10_part 1 = .ok (.iload_n 1, 1) := by decide +kernel
theorem dX10_part_2 : decode cX10_part 2 = .ok (.invokevirtual 130, 3) := by decide +kernel
theorem dX10_part_5 : decode cX10_part 5 = .ok (.astore 6, 2) := by decide +kernel
theorem dX10_part_7 : decode cX10_part 7 = .ok (.aload 6, 2) := by decide +kernel
theorem dX10_part_9 : decode cX10_part 9 = .ok (.ifnull 27, 3) := by decide +kernel
theorem dX10_part_12 : decode cX10_part 12 = .ok (.iload_n 2, 1) := by decide +kernel
theorem dX10_part_13 : decode cX10_part 13 = .ok (.iconst 1, 1) := by decide +kernel
theorem dX10_part_14 : decode cX10_part 14 = .ok (.if_icmp .lt 22, 3) := by decide +kernel
theorem dX10_part_17 : decode cX10_part 17 = .ok (.iload_n 2, 1) := by decide +kernel
theorem dX10_part_18 : decode cX10_part 18 = .ok (.bipush 60, 2) := by decide +kernel
theorem dX10_part_20 : decode cX10_part 20 = .ok (.if_icmp .gt 16, 3) := by decide +kernel
theorem dX10_part_23 : decode cX10_part 23 = .ok (.iload 5, 2) := by decide +kernel
theorem dX10_part_25 : decode cX10_part 25 = .ok (.ifCond .lt 11, 3) := by decide +kernel
theorem dX10_part_28 : decode cX10_part 28 = .ok (.iload 5, 2) := by decide +kernel
theorem dX10_part_30 : decode cX10_part 30 = .ok (.ldc_w 256, 3) := by decide +kernel
theorem dX10_part_33 : decode cX10_part 33 = .ok (.if_icmp .le 5, 3) := by decide +kernel
theorem dX10_part_36 : decode cX10_part 36 = .ok (.iconst (-1), 1) := by decide +kernel
theorem dX10_part_37 : decode cX10_part 37 = .ok (.ireturn, 1) := by decide +kernel
theorem dX10_part_38 : decode cX10_part 38 = .ok (.iload_n 3, 1) := by decide +kernel
theorem dX10_part_39 : decode cX10_part 39 = .ok (.invokestatic 108, 3) := by decide +kernel
theorem dX10_part_42 : decode cX10_part 42 = .ok (.ifCond .eq 17, 3) := by decide +kernel
theorem dX10_part_45 : decode cX10_part 45 = .ok (.iload 4, 2) := by decide +kernel
theorem dX10_part_47 : decode cX10_part 47 = .ok (.invokestatic 108, 3) := by decide +kernel
theorem dX10_part_50 : decode cX10_part 50 = .ok (.ifCond .eq 9, 3) := by decide +kernel
theorem dX10_part_53 : decode cX10_part 53 = .ok (.iload_n 3, 1) := by decide +kernel
theorem dX10_part_54 : decode cX10_part 54 = .ok (.iload 4, 2) := by decide +kernel
theorem dX10_part_56 : decode cX10_part 56 = .ok (.if_icmp .ne 5, 3) := by decide +kernel
theorem dX10_part_59 : decode cX10_part 59 = .ok (.iconst (-1), 1) := by decide +kernel
theorem dX10_part_60 : decode cX10_part 60 = .ok (.ireturn, 1) := by decide +kernel
theorem dX10_part_61 : decode cX10_part 61 = .ok (.aload 6, 2) := by decide +kernel
theorem dX10_part_63 : decode cX10_part 63 = .ok (.getfield 134, 3) := by decide +kernel
theorem dX10_part_66 : decode cX10_part 66 = .ok (.ifCond .eq 9, 3) := by decide +kernel
theorem dX10_part_69 : decode cX10_part 69 = .ok (.aload_n 0, 1) := by decide +kernel
theorem dX10_part_70 : decode cX10_part 70 = .ok (.iconst 1, 1) := by decide +kernel
theorem dX10_part_71 : decode cX10_part 71 = .ok (.invokevirtual 78, 3) := by decide +kernel
theorem dX10_part_74 : decode cX10_part 74 = .ok (.ireturn, 1) := by decide +kernel
theorem dX10_part_75 : decode cX10_part 75 = .ok (.aload_n 0, 1) := by decide +kernel
theorem dX10_part_76 : decode cX10_part 76 = .ok (.getfield 31, 3) := by decide +kernel
theorem dX10_part_79 : decode cX10_part 79 = .ok (.iload_n 1, 1) := by decide +kernel
theorem dX10_part_80 : decode cX10_part 80 = .ok (.aload_n 0, 1) := by decide +kernel
theorem dX10_part_81 : decode cX10_part 81 = .ok (.getfield 17, 3) := by decide +kernel
theorem dX10_part_84 : decode cX10_part 84 = .ok (.aload_n 0, 1) := by decide +kernel
theorem dX10_part_85 : decode cX10_part 85 = .ok (.getfield 24, 3) := by decide +kernel
theorem dX10_part_88 : decode cX10_part 88 = .ok (.invokevirtual 193, 3) := by decide +kernel
theorem dX10_part_91 : decode cX10_part 91 = .ok (.aload_n 0, 1) := by decide +kernel
theorem dX10_part_92 : decode cX10_part 92 = .ok (.getfield 31, 3) := by decide +kernel
theorem dX10_part_95 : decode cX10_part 95 = .ok (.iload_n 3, 1) := by decide +kernel
theorem dX10_part_96 : decode cX10_part 96 = .ok (.invokevirtual 197, 3) := by decide +kernel
theorem dX10_part_99 : decode cX10_part 99 = .ok (.ifCond .eq 15, 3) := by decide +kernel
theorem dX10_part_102 : decode cX10_part 102 = .ok (.aload_n 0, 1) := by decide +kernel
theorem dX10_part_103 : decode cX10_part 103 = .ok (.getfield 31, 3) := by decide +kernel
theorem dX10_part_106 : decode cX10_part 106 = .ok (.iload 4, 2) := by decide +kernel
theorem dX10_part_108 : decode cX10_part 108 = .ok (.invokevirtual 197, 3) := by decide +kernel
theorem dX10_part_111 : decode cX10_part 111 = .ok (.ifCond .ne 9, 3) := by decide +kernel
theorem dX10_part_114 : decode cX10_part 114 = .ok (.aload_n 0, 1) := by decide +kernel
theorem dX10_part_115 : decode cX10_part 115 = .ok (.iconst 4, 1) := by decide +kernel
theorem dX10_part_116 : decode cX10_part 116 = .ok (.invokevirtual 78, 3) := by decide +kernel
theorem dX10_part_119 : decode cX10_part 119 = .ok (.ireturn, 1) := by decide +kernel
theorem dX10_part_120 : decode cX10_part 120 = .ok (.aload_n 0, 1) := by decide +kernel
theorem dX10_part_121 : decode cX10_part 121 = .ok (.getfield 38, 3) := by decide +kernel
theorem dX10_part_124 : decode cX10_part 124 = .ok (.aload 6, 2) := by decide +kernel
theorem dX10_part_126 : decode cX10_part 126 = .ok (.getfield 119, 3) := by decide +kernel
theorem dX10_part_129 : decode cX10_part 129 = .ok (.iload_n 2, 1) := by decide +kernel
theorem dX10_part_130 : decode cX10_part 130 = .ok (.iload_n 3, 1) := by decide +kernel
theorem dX10_part_131 : decode cX10_part 131 = .ok (.iload 4, 2) := by decide +kernel
theorem dX10_part_133 : decode cX10_part 133 = .ok (.aload_n 0, 1) := by decide +kernel
theorem dX10_part_134 : decode cX10_part 134 = .ok (.getfield 31, 3) := by decide +kernel
theorem dX10_part_137 : decode cX10_part 137 = .ok (.aload_n 0, 1) := by decide +kernel
theorem dX10_part_138 : decode cX10_part 138 = .ok (.getfield 24, 3) := by decide +kernel
theorem dX10_part_141 : decode cX10_part 141 = .ok (.invokevirtual 257, 3) := by decide +kernel
theorem dX10_part_144 : decode cX10_part 144 = .ok (.aload_n 0, 1) := by decide +kernel
theorem dX10_part_145 : decode cX10_part 145 = .ok (.getfield 38, 3) := by decide +kernel
theorem dX10_part_148 : decode cX10_part 148 = .ok (.iload 5, 2) := by decide +kernel
theorem dX10_part_150 : decode cX10_part 150 = .ok (.invokevirtual 261, 3) := by decide +kernel
theorem dX10_part_153 : decode cX10_part 153 = .ok (.aload_n 0, 1) := by decide +kernel
theorem dX10_part_154 : decode cX10_part 154 = .ok (.getfield 38, 3) := by decide +kernel
theorem dX10_part_157 : decode cX10_part 157 = .ok (.iload_n 3, 1) := by decide +kernel
theorem dX10_part_158 : decode cX10_part 158 = .ok (.iload 4, 2) := by decide +kernel
theorem dX10_part_160 : decode cX10_part 160 = .ok (.iload 5, 2) := by decide +kernel
theorem dX10_part_162 : decode cX10_part 162 = .ok (.invokevirtual 264, 3) := by decide +kernel
theorem dX10_part_165 : decode cX10_part 165 = .ok (.istore 7, 2) := by decide +kernel
theorem dX10_part_167 : decode cX10_part 167 = .ok (.aload_n 0, 1) := by decide +kernel
theorem dX10_part_168 : decode cX10_part 168 = .ok (.aload_n 0, 1) := by decide +kernel
theorem dX10_part_169 : decode cX10_part 169 = .ok (.getfield 38, 3) := by decide +kernel
theorem dX10_part_172 : decode cX10_part 172 = .ok (.invokevirtual 268, 3) := by decide +kernel
theorem dX10_part_175 : decode cX10_part 175 = .ok (.putfield 272, 3) := by decide +kernel
theorem dX10_part_178 : decode cX10_part 178 = .ok (.iload 7, 2) := by decide +kernel
theorem dX10_part_180 : decode cX10_part 180 = .ok (.ireturn, 1) := by decide +kernel
theorem dX10_window_0 : decode cX10_window 0 = .ok (.aload_n 0, 1) := by decide +kernel
theorem dX10_window_1 : decode cX10_window 1 = .ok (.getfield 38, 3) := by decide +kernel
theorem dX10_window_4 : decode cX10_window 4 = .ok (.iload_n 1, 1) := by decide +kernel
theorem dX10_window_5 : decode cX10_window 5 = .ok (.invokevirtual 276, 3) := by decide +kernel
theorem dX10_window_8 : decode cX10_window 8 = .ok (.ireturn, 1) := by decide +kernel
theorem dX10_tree_0 : decode cX10_tree 0 = .ok (.aload_n 0, 1) := by decide +kernel
theorem dX10_tree_1 : decode cX10_tree 1 = .ok (.getfield 45, 3) := by decide +kernel
theorem dX10_tree_4 : decode cX10_tree 4 = .ok (.aload_n 0, 1) := by decide +kernel
theorem dX10_tree_5 : decode cX10_tree 5 = .ok (.getfield 17, 3) := by decide +kernel
theorem dX10_tree_8 : decode cX10_tree 8 = .ok (.aload_n 0, 1) := by decide +kernel
theorem dX10_tree_9 : decode cX10_tree 9 = .ok (.getfield 24, 3) := by decide +kernel
theorem dX10_tree_12 : decode cX10_tree 12 = .ok (.invokevirtual 279, 3) := by decide +kernel
theorem dX10_tree_15 : decode cX10_tree 15 = .ok (.ireturn, 1) := by decide +kernel
theorem dX10_join_0 : decode cX10_join 0 = .ok (.iload_n 2, 1) := by decide +kernel
theorem dX10_join_1 : decode cX10_join 1 = .ok (.ifCond .lt 8, 3) := by decide +kernel
theorem dX10_join_4 : decode cX10_join 4 = .ok (.iload_n 2, 1) := by decide +kernel
theorem dX10_join_5 : decode cX10_join 5 = .ok (.iconst 3, 1) := by decide +kernel
theorem dX10_join_6 : decode cX10_join 6 = .ok (.if_icmp .lt 5, 3) := by decide +kernel
theorem dX10_join_9 : decode cX10_join 9 = .ok (.iconst (-1), 1) := by decide +kernel
theorem dX10_join_10 : decode cX10_join 10 = .ok (.ireturn, 1) := by decide +kernel
theorem dX10_join_11 : decode cX10_join 11 = .ok (.aload_n 0, 1) := by decide +kernel
theorem dX10_join_12 : decode cX10_join 12 = .ok (.getfield 45, 3) := by decide +kernel
theorem dX10_join_15 : decode cX10_join 15 = .ok (.iload_n 1, 1) := by decide +kernel
theorem dX10_join_16 : decode cX10_join 16 = .ok (.iload_n 2, 1) := by decide +kernel
theorem dX10_join_17 : decode cX10_join 17 = .ok (.invokevirtual 283, 3) := by decide +kernel
theorem dX10_join_20 : decode cX10_join 20 = .ok (.ireturn, 1) := by decide +kernel
theorem dX10_shuffle_0 : decode cX10_shuffle 0 = .ok (.aload_n 0, 1) := by decide +kernel
theorem dX10_shuffle_1 : decode cX10_shuffle 1 = .ok (.getfield 24, 3) := by decide +kernel
theorem dX10_shuffle_4 : decode cX10_shuffle 4 = .ok (.iload_n 1, 1) := by decide +kernel
theorem dX10_shuffle_5 : decode cX10_shuffle 5 = .ok (.invokevirtual 177, 3) := by decide +kernel
theorem dX10_shuffle_8 : decode cX10_shuffle 8 = .ok (.ifCond .eq 22, 3) := by decide +kernel
theorem dX10_shuffle_11 : decode cX10_shuffle 11 = .ok (.iload_n 2, 1) := by decide +kernel
theorem dX10_shuffle_12 : decode cX10_shuffle 12 = .ok (.invokestatic 108, 3) := by decide +kernel
theorem dX10_shuffle_15 : decode cX10_shuffle 15 = .ok (.ifCond .eq 15, 3) := by decide +kernel
theorem dX10_shuffle_18 : decode cX10_shuffle 18 = .ok (.iload_n 3, 1) := by decide +kernel
theorem dX10_shuffle_19 : decode cX10_shuffle 19 = .ok (.invokestatic 108, 3) := by decide +kernel
theorem dX10_shuffle_22 : decode cX10_shuffle 22 = .ok (.ifCond .eq 8, 3) := by decide +kernel
theorem dX10_shuffle_25 : decode cX10_shuffle 25 = .ok (.iload_n 2, 1) := by decide +kernel
theorem dX10_shuffle_26 : decode cX10_shuffle 26 = .ok (.iload_n 3, 1) := by decide +kernel
theorem dX10_shuffle_27 : decode cX10_shuffle 27 = .ok (.if_icmp .ne 5, 3) := by decide +kernel
theorem dX10_shuffle_30 : decode cX10_shuffle 30 = .ok (.iconst (-1), 1) := by decide +kernel
theorem dX10_shuffle_31 : decode cX10_shuffle 31 = .ok (.ireturn, 1) := by decide +kernel
theorem dX10_shuffle_32 : decode cX10_shuffle 32 = .ok (.aload_n 0, 1) := by decide +kernel
theorem dX10_shuffle_33 : decode cX10_shuffle 33 = .ok (.getfield 52, 3) := by decide +kernel
theorem dX10_shuffle_36 : decode cX10_shuffle 36 = .ok (.invokevirtual 285, 3) := by decide +kernel
theorem dX10_shuffle_39 : decode cX10_shuffle 39 = .ok (.aload_n 0, 1) := by decide +kernel
theorem dX10_shuffle_40 : decode cX10_shuffle 40 = .ok (.iload_n 1, 1) := by decide +kernel
theorem dX10_shuffle_41 : decode cX10_shuffle 41 = .ok (.iload_n 2, 1) := by decide +kernel
theorem dX10_shuffle_42 : decode cX10_shuffle 42 = .ok (.invokevirtual 288, 3) := by decide +kernel
theorem dX10_shuffle_45 : decode cX10_shuffle 45 = .ok (.istore 4, 2) := by decide +kernel
theorem dX10_shuffle_47 : decode cX10_shuffle 47 = .ok (.aload_n 0, 1) := by decide +kernel
theorem dX10_shuffle_48 : decode cX10_shuffle 48 = .ok (.iload_n 1, 1) := by decide +kernel
theorem dX10_shuffle_49 : decode cX10_shuffle 49 = .ok (.iload_n 3, 1) := by decide +kernel
theorem dX10_shuffle_50 : decode cX10_shuffle 50 = .ok (.invokevirtual 288, 3) := by decide +kernel
theorem dX10_shuffle_53 : decode cX10_shuffle 53 = .ok (.istore 5, 2) := by decide +kernel
theorem dX10_shuffle_55 : decode cX10_shuffle 55 = .ok (.iload 4, 2) := by decide +kernel
theorem dX10_shuffle_57 : decode cX10_shuffle 57 = .ok (.ifCond .eq 8, 3) := by decide +kernel
theorem dX10_shuffle_60 : decode cX10_shuffle 60 = .ok (.iload 5, 2) := by decide +kernel
theorem dX10_shuffle_62 : decode cX10_shuffle 62 = .ok (.ifCond .ne 9, 3) := by decide +kernel
theorem dX10_shuffle_65 : decode cX10_shuffle 65 = .ok (.aload_n 0, 1) := by decide +kernel
theorem dX10_shuffle_66 : decode cX10_shuffle 66 = .ok (.iconst 4, 1) := by decide +kernel
theorem dX10_shuffle_67 : decode cX10_shuffle 67 = .ok (.invokevirtual 78, 3) := by decide +kernel
theorem dX10_shuffle_70 : decode cX10_shuffle 70 = .ok (.ireturn, 1) := by decide +kernel
theorem dX10_shuffle_71 : decode cX10_shuffle 71 = .ok (.aload_n 0, 1) := by decide +kernel
theorem dX10_shuffle_72 : decode cX10_shuffle 72 = .ok (.getfield 52, 3) := by decide +kernel
theorem dX10_shuffle_75 : decode cX10_shuffle 75 = .ok (.iload 4, 2) := by decide +kernel
theorem dX10_shuffle_77 : decode cX10_shuffle 77 = .ok (.invokevirtual 291, 3) := by decide +kernel
theorem dX10_shuffle_80 : decode cX10_shuffle 80 = .ok (.istore 6, 2) := by decide +kernel
theorem dX10_shuffle_82 : decode cX10_shuffle 82 = .ok (.aload_n 0, 1) := by decide +kernel
theorem dX10_shuffle_83 : decode cX10_shuffle 83 = .ok (.aload_n 0, 1) := by decide +kernel
theorem dX10_shuffle_84 : decode cX10_shuffle 84 = .ok (.getfield 52, 3) := by decide +kernel
theorem dX10_shuffle_87 : decode cX10_shuffle 87 = .ok (.getfield 294, 3) := by decide +kernel
theorem dX10_shuffle_90 : decode cX10_shuffle 90 = .ok (.i2l, 1) := by decide +kernel
theorem dX10_shuffle_91 : decode cX10_shuffle 91 = .ok (.putfield 272, 3) := by decide +kernel
theorem dX10_shuffle_94 : decode cX10_shuffle 94 = .ok (.iload 6, 2) := by decide +kernel
theorem dX10_shuffle_96 : decode cX10_shuffle 96 = .ok (.ireturn, 1) := by decide +kernel
theorem dX10_asked_0 : decode cX10_asked 0 = .ok (.aload_n 0, 1) := by decide +kernel
theorem dX10_asked_1 : decode cX10_asked 1 = .ok (.getfield 272, 3) := by decide +kernel
theorem dX10_asked_4 : decode cX10_asked 4 = .ok (.lreturn, 1) := by decide +kernel
theorem dX10_count_0 : decode cX10_count 0 = .ok (.iload_n 1, 1) := by decide +kernel
theorem dX10_count_1 : decode cX10_count 1 = .ok (.ifCond .lt 8, 3) := by decide +kernel
theorem dX10_count_4 : decode cX10_count 4 = .ok (.iload_n 1, 1) := by decide +kernel
theorem dX10_count_5 : decode cX10_count 5 = .ok (.iconst 4, 1) := by decide +kernel
theorem dX10_count_6 : decode cX10_count 6 = .ok (.if_icmp .lt 5, 3) := by decide +kernel
theorem dX10_count_9 : decode cX10_count 9 = .ok (.iconst (-1), 1) := by decide +kernel
theorem dX10_count_10 : decode cX10_count 10 = .ok (.ireturn, 1) := by decide +kernel
theorem dX10_count_11 : decode cX10_count 11 = .ok (.aload_n 0, 1) := by decide +kernel
theorem dX10_count_12 : decode cX10_count 12 = .ok (.iload_n 1, 1) := by decide +kernel
theorem dX10_count_13 : decode cX10_count 13 = .ok (.invokevirtual 297, 3) := by decide +kernel
theorem dX10_count_16 : decode cX10_count 16 = .ok (.ireturn, 1) := by decide +kernel
theorem dX10_finding_0 : decode cX10_finding 0 = .ok (.aload_n 0, 1) := by decide +kernel
theorem dX10_finding_1 : decode cX10_finding 1 = .ok (.getfield 300, 3) := by decide +kernel
theorem dX10_finding_4 : decode cX10_finding 4 = .ok (.ireturn, 1) := by decide +kernel
theorem dX10_findings_0 : decode cX10_findings 0 = .ok (.iload_n 1, 1) := by decide +kernel
theorem dX10_findings_1 : decode cX10_findings 1 = .ok (.iconst 1, 1) := by decide +kernel
theorem dX10_findings_2 : decode cX10_findings 2 = .ok (.if_icmp .lt 12, 3) := by decide +kernel
theorem dX10_findings_5 : decode cX10_findings 5 = .ok (.iload_n 1, 1) := by decide +kernel
theorem dX10_findings_6 : decode cX10_findings 6 = .ok (.aload_n 0, 1) := by decide +kernel
theorem dX10_findings_7 : decode cX10_findings 7 = .ok (.getfield 70, 3) := by decide +kernel
theorem dX10_findings_10 : decode cX10_findings 10 = .ok (.arraylength, 1) := by decide +kernel
theorem dX10_findings_11 : decode cX10_findings 11 = .ok (.if_icmp .lt 5, 3) := by decide +kernel
theorem dX10_findings_14 : decode cX10_findings 14 = .ok (.iconst (-1), 1) := by decide +kernel
theorem dX10_findings_15 : decode cX10_findings 15 = .ok (.ireturn, 1) := by decide +kernel
theorem dX10_findings_16 : decode cX10_findings 16 = .ok (.aload_n 0, 1) := by decide +kernel
theorem dX10_findings_17 : decode cX10_findings 17 = .ok (.getfield 70, 3) := by decide +kernel
theorem dX10_findings_20 : decode cX10_findings 20 = .ok (.iload_n 1, 1) := by decide +kernel
theorem dX10_findings_21 : decode cX10_findings 21 = .ok (.iaload, 1) := by decide +kernel
theorem dX10_findings_22 : decode cX10_findings 22 = .ok (.ireturn, 1) := by decide +kernel
theorem dX10_digest_0 : decode cX10_digest 0 = .ok (.ldc2_w 303, 3) := by decide +kernel
theorem dX10_digest_3 : decode cX10_digest 3 = .ok (.lstore_n 1, 1) := by decide +kernel
theorem dX10_digest_4 : decode cX10_digest 4 = .ok (.iconst 0, 1) := by decide +kernel
theorem dX10_digest_5 : decode cX10_digest 5 = .ok (.istore_n 3, 1) := by decide +kernel
theorem dX10_digest_6 : decode cX10_digest 6 = .ok (.iload_n 3, 1) := by decide +kernel
theorem dX10_digest_7 : decode cX10_digest 7 = .ok (.iconst 4, 1) := by decide +kernel
theorem dX10_digest_8 : decode cX10_digest 8 = .ok (.if_icmp .ge 22, 3) := by decide +kernel
theorem dX10_digest_11 : decode cX10_digest 11 = .ok (.ldc2_w 305, 3) := by decide +kernel
theorem dX10_digest_14 : decode cX10_digest 14 = .ok (.lload_n 1, 1) := by decide +kernel
theorem dX10_digest_15 : decode cX10_digest 15 = .ok (.lmul, 1) := by decide +kernel
theorem dX10_digest_16 : decode cX10_digest 16 = .ok (.aload_n 0, 1) := by decide +kernel
theorem dX10_digest_17 : decode cX10_digest 17 = .ok (.iload_n 3, 1) := by decide +kernel
theorem dX10_digest_18 : decode cX10_digest 18 = .ok (.invokevirtual 297, 3) := by decide +kernel
theorem dX10_digest_21 : decode cX10_digest 21 = .ok (.i2l, 1) := by decide +kernel
theorem dX10_digest_22 : decode cX10_digest 22 = .ok (.ladd, 1) := by decide +kernel
theorem dX10_digest_23 : decode cX10_digest 23 = .ok (.lstore_n 1, 1) := by decide +kernel
theorem dX10_digest_24 : decode cX10_digest 24 = .ok (.iinc 3 1, 3) := by decide +kernel
theorem dX10_digest_27 : decode cX10_digest 27 = .ok (.goto (-21), 3) := by decide +kernel
theorem dX10_digest_30 : decode cX10_digest 30 = .ok (.iconst 0, 1) := by decide +kernel
theorem dX10_digest_31 : decode cX10_digest 31 = .ok (.istore_n 3, 1) := by decide +kernel
theorem dX10_digest_32 : decode cX10_digest 32 = .ok (.iload_n 3, 1) := by decide +kernel
theorem dX10_digest_33 : decode cX10_digest 33 = .ok (.aload_n 0, 1) := by decide +kernel
theorem dX10_digest_34 : decode cX10_digest 34 = .ok (.getfield 17, 3) := by decide +kernel
theorem dX10_digest_37 : decode cX10_digest 37 = .ok (.arraylength, 1) := by decide +kernel
theorem dX10_digest_38 : decode cX10_digest 38 = .ok (.if_icmp .ge 30, 3) := by decide +kernel
theorem dX10_digest_41 : decode cX10_digest 41 = .ok (.aload_n 0, 1) := by decide +kernel
theorem dX10_digest_42 : decode cX10_digest 42 = .ok (.getfield 17, 3) := by decide +kernel
theorem dX10_digest_45 : decode cX10_digest 45 = .ok (.iload_n 3, 1) := by decide +kernel
theorem dX10_digest_46 : decode cX10_digest 46 = .ok (.aaload, 1) := by decide +kernel
theorem dX10_digest_47 : decode cX10_digest 47 = .ok (.ifnull 15, 3) := by decide +kernel
theorem dX10_digest_50 : decode cX10_digest 50 = .ok (.aload_n 0, 1) := by decide +kernel
theorem dX10_digest_51 : decode cX10_digest 51 = .ok (.lload_n 1, 1) := by decide +kernel
theorem dX10_digest_52 : decode cX10_digest 52 = .ok (.aload_n 0, 1) := by decide +kernel
theorem dX10_digest_53 : decode cX10_digest 53 = .ok (.getfield 17, 3) := by decide +kernel
theorem dX10_digest_56 : decode cX10_digest 56 = .ok (.iload_n 3, 1) := by decide +kernel
theorem dX10_digest_57 : decode cX10_digest 57 = .ok (.aaload, 1) := by decide +kernel
theorem dX10_digest_58 : decode cX10_digest 58 = .ok (.invokevirtual 307, 3) := by decide +kernel
theorem dX10_digest_61 : decode cX10_digest 61 = .ok (.lstore_n 1, 1) := by decide +kernel
theorem dX10_digest_62 : decode cX10_digest 62 = .ok (.iinc 3 1, 3) := by decide +kernel
theorem dX10_digest_65 : decode cX10_digest 65 = .ok (.goto (-33), 3) := by decide +kernel
theorem dX10_digest_68 : decode cX10_digest 68 = .ok (.iconst 0, 1) := by decide +kernel
theorem dX10_digest_69 : decode cX10_digest 69 = .ok (.istore_n 3, 1) := by decide +kernel
theorem dX10_digest_70 : decode cX10_digest 70 = .ok (.iload_n 3, 1) := by decide +kernel
theorem dX10_digest_71 : decode cX10_digest 71 = .ok (.aload_n 0, 1) := by decide +kernel
theorem dX10_digest_72 : decode cX10_digest 72 = .ok (.getfield 11, 3) := by decide +kernel
theorem dX10_digest_75 : decode cX10_digest 75 = .ok (.arraylength, 1) := by decide +kernel
theorem dX10_digest_76 : decode cX10_digest 76 = .ok (.if_icmp .ge 20, 3) := by decide +kernel
theorem dX10_digest_79 : decode cX10_digest 79 = .ok (.aload_n 0, 1) := by decide +kernel
theorem dX10_digest_80 : decode cX10_digest 80 = .ok (.getfield 11, 3) := by decide +kernel
theorem dX10_digest_83 : decode cX10_digest 83 = .ok (.iload_n 3, 1) := by decide +kernel
theorem dX10_digest_84 : decode cX10_digest 84 = .ok (.aaload, 1) := by decide +kernel
theorem dX10_digest_85 : decode cX10_digest 85 = .ok (.lload_n 1, 1) := by decide +kernel
theorem dX10_digest_86 : decode cX10_digest 86 = .ok (.invokevirtual 311, 3) := by decide +kernel
theorem dX10_digest_89 : decode cX10_digest 89 = .ok (.lstore_n 1, 1) := by decide +kernel
theorem dX10_digest_90 : decode cX10_digest 90 = .ok (.iinc 3 1, 3) := by decide +kernel
theorem dX10_digest_93 : decode cX10_digest 93 = .ok (.goto (-23), 3) := by decide +kernel
theorem dX10_digest_96 : decode cX10_digest 96 = .ok (.lload_n 1, 1) := by decide +kernel
theorem dX10_digest_97 : decode cX10_digest 97 = .ok (.lreturn, 1) := by decide +kernel
theorem dX10_found_0 : decode cX10_found 0 = .ok (.iload_n 1, 1) := by decide +kernel
theorem dX10_found_1 : decode cX10_found 1 = .ok (.iconst 1, 1) := by decide +kernel
theorem dX10_found_2 : decode cX10_found 2 = .ok (.if_icmp .lt 27, 3) := by decide +kernel
theorem dX10_found_5 : decode cX10_found 5 = .ok (.iload_n 1, 1) := by decide +kernel
theorem dX10_found_6 : decode cX10_found 6 = .ok (.aload_n 0, 1) := by decide +kernel
theorem dX10_found_7 : decode cX10_found 7 = .ok (.getfield 70, 3) := by decide +kernel
theorem dX10_found_10 : decode cX10_found 10 = .ok (.arraylength, 1) := by decide +kernel
theorem dX10_found_11 : decode cX10_found 11 = .ok (.if_icmp .ge 18, 3) := by decide +kernel
theorem dX10_found_14 : decode cX10_found 14 = .ok (.aload_n 0, 1) := by decide +kernel
theorem dX10_found_15 : decode cX10_found 15 = .ok (.iload_n 1, 1) := by decide +kernel
theorem dX10_found_16 : decode cX10_found 16 = .ok (.putfield 300, 3) := by decide +kernel
theorem dX10_found_19 : decode cX10_found 19 = .ok (.aload_n 0, 1) := by decide +kernel
theorem dX10_found_20 : decode cX10_found 20 = .ok (.getfield 70, 3) := by decide +kernel
theorem dX10_found_23 : decode cX10_found 23 = .ok (.iload_n 1, 1) := by decide +kernel
theorem dX10_found_24 : decode cX10_found 24 = .ok (.dup2, 1) := by decide +kernel
theorem dX10_found_25 : decode cX10_found 25 = .ok (.iaload, 1) := by decide +kernel
theorem dX10_found_26 : decode cX10_found 26 = .ok (.iconst 1, 1) := by decide +kernel
theorem dX10_found_27 : decode cX10_found 27 = .ok (.iadd, 1) := by decide +kernel
theorem dX10_found_28 : decode cX10_found 28 = .ok (.iastore, 1) := by decide +kernel
theorem dX10_found_29 : decode cX10_found 29 = .ok (.bipush (-3), 2) := by decide +kernel
theorem dX10_found_31 : decode cX10_found 31 = .ok (.ireturn, 1) := by decide +kernel
theorem dX10_sheetAt_0 : decode cX10_sheetAt 0 = .ok (.iload_n 1, 1) := by decide +kernel
theorem dX10_sheetAt_1 : decode cX10_sheetAt 1 = .ok (.ifCond .lt 21, 3) := by decide +kernel
theorem dX10_sheetAt_4 : decode cX10_sheetAt 4 = .ok (.iload_n 1, 1) := by decide +kernel
theorem dX10_sheetAt_5 : decode cX10_sheetAt 5 = .ok (.aload_n 0, 1) := by decide +kernel
theorem dX10_sheetAt_6 : decode cX10_sheetAt 6 = .ok (.getfield 11, 3) := by decide +kernel
theorem dX10_sheetAt_9 : decode cX10_sheetAt 9 = .ok (.arraylength, 1) := by decide +kernel
theorem dX10_sheetAt_10 : decode cX10_sheetAt 10 = .ok (.if_icmp .ge 12, 3) := by decide +kernel
theorem dX10_sheetAt_13 : decode cX10_sheetAt 13 = .ok (.aload_n 0, 1) := by decide +kernel
theorem dX10_sheetAt_14 : decode cX10_sheetAt 14 = .ok (.getfield 11, 3) := by decide +kernel
theorem dX10_sheetAt_17 : decode cX10_sheetAt 17 = .ok (.iload_n 1, 1) := by decide +kernel
theorem dX10_sheetAt_18 : decode cX10_sheetAt 18 = .ok (.aaload, 1) := by decide +kernel
theorem dX10_sheetAt_19 : decode cX10_sheetAt 19 = .ok (.goto 4, 3) := by decide +kernel
theorem dX10_sheetAt_22 : decode cX10_sheetAt 22 = .ok (.aconst_null, 1) := by decide +kernel
theorem dX10_sheetAt_23 : decode cX10_sheetAt 23 = .ok (.areturn, 1) := by decide +kernel
theorem dX10_textAt_0 : decode cX10_textAt 0 = .ok (.iload_n 1, 1) := by decide +kernel
theorem dX10_textAt_1 : decode cX10_textAt 1 = .ok (.ifCond .lt 21, 3) := by decide +kernel
theorem dX10_textAt_4 : decode cX10_textAt 4 = .ok (.iload_n 1, 1) := by decide +kernel
theorem dX10_textAt_5 : decode cX10_textAt 5 = .ok (.aload_n 0, 1) := by decide +kernel
theorem dX10_textAt_6 : decode cX10_textAt 6 = .ok (.getfield 17, 3) := by decide +kernel
theorem dX10_textAt_9 : decode cX10_textAt 9 = .ok (.arraylength, 1) := by decide +kernel
theorem dX10_textAt_10 : decode cX10_textAt 10 = .ok (.if_icmp .ge 12, 3) := by decide +kernel
theorem dX10_textAt_13 : decode cX10_textAt 13 = .ok (.aload_n 0, 1) := by decide +kernel
theorem dX10_textAt_14 : decode cX10_textAt 14 = .ok (.getfield 17, 3) := by decide +kernel
theorem dX10_textAt_17 : decode cX10_textAt 17 = .ok (.iload_n 1, 1) := by decide +kernel
theorem dX10_textAt_18 : decode cX10_textAt 18 = .ok (.aaload, 1) := by decide +kernel
theorem dX10_textAt_19 : decode cX10_textAt 19 = .ok (.goto 4, 3) := by decide +kernel
theorem dX10_textAt_22 : decode cX10_textAt 22 = .ok (.aconst_null, 1) := by decide +kernel
theorem dX10_textAt_23 : decode cX10_textAt 23 = .ok (.areturn, 1) := by decide +kernel
theorem dX10_countedOf_0 : decode cX10_countedOf 0 = .ok (.iload_n 1, 1) := by decide +kernel
theorem dX10_countedOf_1 : decode cX10_countedOf 1 = .ok (.tableswitch 45 0 2 #[27, 32, 37], 27) := by decide +kernel
theorem dX10_countedOf_28 : decode cX10_countedOf 28 = .ok (.aload_n 0, 1) := by decide +kernel
theorem dX10_countedOf_29 : decode cX10_countedOf 29 = .ok (.getfield 112, 3) := by decide +kernel
theorem dX10_countedOf_32 : decode cX10_countedOf 32 = .ok (.ireturn, 1) := by decide +kernel
theorem dX10_countedOf_33 : decode cX10_countedOf 33 = .ok (.aload_n 0, 1) := by decide +kernel
theorem dX10_countedOf_34 : decode cX10_countedOf 34 = .ok (.invokevirtual 315, 3) := by decide +kernel
theorem dX10_countedOf_37 : decode cX10_countedOf 37 = .ok (.ireturn, 1) := by decide +kernel
theorem dX10_countedOf_38 : decode cX10_countedOf 38 = .ok (.aload_n 0, 1) := by decide +kernel
theorem dX10_countedOf_39 : decode cX10_countedOf 39 = .ok (.getfield 24, 3) := by decide +kernel
theorem dX10_countedOf_42 : decode cX10_countedOf 42 = .ok (.getfield 241, 3) := by decide +kernel
theorem dX10_countedOf_45 : decode cX10_countedOf 45 = .ok (.ireturn, 1) := by decide +kernel
theorem dX10_countedOf_46 : decode cX10_countedOf 46 = .ok (.aload_n 0, 1) := by decide +kernel
theorem dX10_countedOf_47 : decode cX10_countedOf 47 = .ok (.getfield 24, 3) := by decide +kernel
theorem dX10_countedOf_50 : decode cX10_countedOf 50 = .ok (.getfield 205, 3) := by decide +kernel
theorem dX10_countedOf_53 : decode cX10_countedOf 53 = .ok (.ireturn, 1) := by decide +kernel
theorem dX10_textsThere_0 : decode cX10_textsThere 0 = .ok (.iconst 0, 1) := by decide +kernel
theorem dX10_textsThere_1 : decode cX10_textsThere 1 = .ok (.istore_n 1, 1) := by decide +kernel
theorem dX10_textsThere_2 : decode cX10_textsThere 2 = .ok (.iconst 0, 1) := by decide +kernel
theorem dX10_textsThere_3 : decode cX10_textsThere 3 = .ok (.istore_n 2, 1) := by decide +kernel
theorem dX10_textsThere_4 : decode cX10_textsThere 4 = .ok (.iload_n 2, 1) := by decide +kernel
theorem dX10_textsThere_5 : decode cX10_textsThere 5 = .ok (.aload_n 0, 1) := by decide +kernel
theorem dX10_textsThere_6 : decode cX10_textsThere 6 = .ok (.getfield 17, 3) := by decide +kernel
theorem dX10_textsThere_9 : decode cX10_textsThere 9 = .ok (.arraylength, 1) := by decide +kernel
theorem dX10_textsThere_10 : decode cX10_textsThere 10 = .ok (.if_icmp .ge 33, 3) := by decide +kernel
theorem dX10_textsThere_13 : decode cX10_textsThere 13 = .ok (.aload_n 0, 1) := by decide +kernel
theorem dX10_textsThere_14 : decode cX10_textsThere 14 = .ok (.getfield 17, 3) := by decide +kernel
theorem dX10_textsThere_17 : decode cX10_textsThere 17 = .ok (.iload_n 2, 1) := by decide +kernel
theorem dX10_textsThere_18 : decode cX10_textsThere 18 = .ok (.aaload, 1) := by decide +kernel
theorem dX10_textsThere_19 : decode cX10_textsThere 19 = .ok (.ifnull 18, 3) := by decide +kernel
theorem dX10_textsThere_22 : decode cX10_textsThere 22 = .ok (.aload_n 0, 1) := by decide +kernel
theorem dX10_textsThere_23 : decode cX10_textsThere 23 = .ok (.getfield 17, 3) := by decide +kernel
theorem dX10_textsThere_26 : decode cX10_textsThere 26 = .ok (.iload_n 2, 1) := by decide +kernel
theorem dX10_textsThere_27 : decode cX10_textsThere 27 = .ok (.aaload, 1) := by decide +kernel
theorem dX10_textsThere_28 : decode cX10_textsThere 28 = .ok (.getfield 134, 3) := by decide +kernel
theorem dX10_textsThere_31 : decode cX10_textsThere 31 = .ok (.ifCond .ne 6, 3) := by decide +kernel
theorem dX10_textsThere_34 : decode cX10_textsThere 34 = .ok (.iinc 1 1, 3) := by decide +kernel
theorem dX10_textsThere_37 : decode cX10_textsThere 37 = .ok (.iinc 2 1, 3) := by decide +kernel
theorem dX10_textsThere_40 : decode cX10_textsThere 40 = .ok (.goto (-36), 3) := by decide +kernel
theorem dX10_textsThere_43 : decode cX10_textsThere 43 = .ok (.iload_n 1, 1) := by decide +kernel
theorem dX10_textsThere_44 : decode cX10_textsThere 44 = .ok (.ireturn, 1) := by decide +kernel
theorem dX10_digestText_0 : decode cX10_digestText 0 = .ok (.aload_n 3, 1) := by decide +kernel
theorem dX10_digestText_1 : decode cX10_digestText 1 = .ok (.getfield 134, 3) := by decide +kernel
theorem dX10_digestText_4 : decode cX10_digestText 4 = .ok (.ifCond .eq 11, 3) := by decide +kernel
theorem dX10_digestText_7 : decode cX10_digestText 7 = .ok (.ldc2_w 305, 3) := by decide +kernel
theorem dX10_digestText_10 : decode cX10_digestText 10 = .ok (.lload_n 1, 1) := by decide +kernel
theorem dX10_digestText_11 : decode cX10_digestText 11 = .ok (.lmul, 1) := by decide +kernel
theorem dX10_digestText_12 : decode cX10_digestText 12 = .ok (.lconst 1, 1) := by decide +kernel
theorem dX10_digestText_13 : decode cX10_digestText 13 = .ok (.lsub, 1) := by decide +kernel
theorem dX10_digestText_14 : decode cX10_digestText 14 = .ok (.lreturn, 1) := by decide +kernel
theorem dX10_digestText_15 : decode cX10_digestText 15 = .ok (.lload_n 1, 1) := by decide +kernel
theorem dX10_digestText_16 : decode cX10_digestText 16 = .ok (.lstore 4, 2) := by decide +kernel
theorem dX10_digestText_18 : decode cX10_digestText 18 = .ok (.iconst 0, 1) := by decide +kernel
theorem dX10_digestText_19 : decode cX10_digestText 19 = .ok (.istore 6, 2) := by decide +kernel
theorem dX10_digestText_21 : decode cX10_digestText 21 = .ok (.iload 6, 2) := by decide +kernel
theorem dX10_digestText_23 : decode cX10_digestText 23 = .ok (.iconst 5, 1) := by decide +kernel
theorem dX10_digestText_24 : decode cX10_digestText 24 = .ok (.if_icmp .ge 25, 3) := by decide +kernel
theorem dX10_digestText_27 : decode cX10_digestText 27 = .ok (.ldc2_w 305, 3) := by decide +kernel
theorem dX10_digestText_30 : decode cX10_digestText 30 = .ok (.lload 4, 2) := by decide +kernel
theorem dX10_digestText_32 : decode cX10_digestText 32 = .ok (.lmul, 1) := by decide +kernel
theorem dX10_digestText_33 : decode cX10_digestText 33 = .ok (.aload_n 3, 1) := by decide +kernel
theorem dX10_digestText_34 : decode cX10_digestText 34 = .ok (.iload 6, 2) := by decide +kernel
theorem dX10_digestText_36 : decode cX10_digestText 36 = .ok (.invokevirtual 138, 3) := by decide +kernel
theorem dX10_digestText_39 : decode cX10_digestText 39 = .ok (.i2l, 1) := by decide +kernel
theorem dX10_digestText_40 : decode cX10_digestText 40 = .ok (.ladd, 1) := by decide +kernel
theorem dX10_digestText_41 : decode cX10_digestText 41 = .ok (.lstore 4, 2) := by decide +kernel
theorem dX10_digestText_43 : decode cX10_digestText 43 = .ok (.iinc 6 1, 3) := by decide +kernel
theorem dX10_digestText_46 : decode cX10_digestText 46 = .ok (.goto (-25), 3) := by decide +kernel
theorem dX10_digestText_49 : decode cX10_digestText 49 = .ok (.iconst 0, 1) := by decide +kernel
theorem dX10_digestText_50 : decode cX10_digestText 50 = .ok (.istore 6, 2) := by decide +kernel
theorem dX10_digestText_52 : decode cX10_digestText 52 = .ok (.iload 6, 2) := by decide +kernel
theorem dX10_digestText_54 : decode cX10_digestText 54 = .ok (.aload_n 0, 1) := by decide +kernel
theorem dX10_digestText_55 : decode cX10_digestText 55 = .ok (.getfield 24, 3) := by decide +kernel
theorem dX10_digestText_58 : decode cX10_digestText 58 = .ok (.getfield 241, 3) := by decide +kernel
theorem dX10_digestText_61 : decode cX10_digestText 61 = .ok (.if_icmp .ge 28, 3) := by decide +kernel
theorem dX10_digestText_64 : decode cX10_digestText 64 = .ok (.ldc2_w 305, 3) := by decide +kernel
theorem dX10_digestText_67 : decode cX10_digestText 67 = .ok (.lload 4, 2) := by decide +kernel
theorem dX10_digestText_69 : decode cX10_digestText 69 = .ok (.lmul, 1) := by decide +kernel
theorem dX10_digestText_70 : decode cX10_digestText 70 = .ok (.aload_n 3, 1) := by decide +kernel
theorem dX10_digestText_71 : decode cX10_digestText 71 = .ok (.getfield 180, 3) := by decide +kernel
theorem dX10_digestText_74 : decode cX10_digestText 74 = .ok (.iload 6, 2) := by decide +kernel
theorem dX10_digestText_76 : decode cX10_digestText 76 = .ok (.invokevirtual 184, 3) := by decide +kernel
theorem dX10_digestText_79 : decode cX10_digestText 79 = .ok (.i2l, 1) := by decide +kernel
theorem dX10_digestText_80 : decode cX10_digestText 80 = .ok (.ladd, 1) := by decide +kernel
theorem dX10_digestText_81 : decode cX10_digestText 81 = .ok (.lstore 4, 2) := by decide +kernel
theorem dX10_digestText_83 : decode cX10_digestText 83 = .ok (.iinc 6 1, 3) := by decide +kernel
theorem dX10_digestText_86 : decode cX10_digestText 86 = .ok (.goto (-34), 3) := by decide +kernel
theorem dX10_digestText_89 : decode cX10_digestText 89 = .ok (.lload 4, 2) := by decide +kernel
theorem dX10_digestText_91 : decode cX10_digestText 91 = .ok (.lreturn, 1) := by decide +kernel
theorem dX10_readHandsFor_0 : decode cX10_readHandsFor 0 = .ok (.aload_n 0, 1) := by decide +kernel
theorem dX10_readHandsFor_1 : decode cX10_readHandsFor 1 = .ok (.getfield 31, 3) := by decide +kernel
theorem dX10_readHandsFor_4 : decode cX10_readHandsFor 4 = .ok (.iload_n 1, 1) := by decide +kernel
theorem dX10_readHandsFor_5 : decode cX10_readHandsFor 5 = .ok (.aload_n 0, 1) := by decide +kernel
theorem dX10_readHandsFor_6 : decode cX10_readHandsFor 6 = .ok (.getfield 17, 3) := by decide +kernel
theorem dX10_readHandsFor_9 : decode cX10_readHandsFor 9 = .ok (.aload_n 0, 1) := by decide +kernel
theorem dX10_readHandsFor_10 : decode cX10_readHandsFor 10 = .ok (.getfield 24, 3) := by decide +kernel
theorem dX10_readHandsFor_13 : decode cX10_readHandsFor 13 = .ok (.invokevirtual 193, 3) := by decide +kernel
