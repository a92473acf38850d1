theorem dX11_feature_136 : decode cX11_feature 136 = .ok (.sipush 1400, 3) := by decide +kernel
theorem dX11_feature_139 : decode cX11_feature 139 = .ok (.iaload, 1) := by decide +kernel
theorem dX11_feature_140 : decode cX11_feature 140 = .ok (.iadd, 1) := by decide +kernel
theorem dX11_feature_141 : decode cX11_feature 141 = .ok (.iload_n 3, 1) := by decide +kernel
theorem dX11_feature_142 : decode cX11_feature 142 = .ok (.iadd, 1) := by decide +kernel
theorem dX11_feature_143 : decode cX11_feature 143 = .ok (.iaload, 1) := by decide +kernel
theorem dX11_feature_144 : decode cX11_feature 144 = .ok (.iastore, 1) := by decide +kernel
theorem dX11_feature_145 : decode cX11_feature 145 = .ok (.iinc 3 1, 3) := by decide +kernel
theorem dX11_feature_148 : decode cX11_feature 148 = .ok (.goto (-55), 3) := by decide +kernel
theorem dX11_feature_151 : decode cX11_feature 151 = .ok (.aload_n 0, 1) := by decide +kernel
theorem dX11_feature_152 : decode cX11_feature 152 = .ok (.getfield 56, 3) := by decide +kernel
theorem dX11_feature_155 : decode cX11_feature 155 = .ok (.aload_n 0, 1) := by decide +kernel
theorem dX11_feature_156 : decode cX11_feature 156 = .ok (.getfield 133, 3) := by decide +kernel
theorem dX11_feature_159 : decode cX11_feature 159 = .ok (.iload_n 1, 1) := by decide +kernel
theorem dX11_feature_160 : decode cX11_feature 160 = .ok (.iastore, 1) := by decide +kernel
theorem dX11_feature_161 : decode cX11_feature 161 = .ok (.aload_n 0, 1) := by decide +kernel
theorem dX11_feature_162 : decode cX11_feature 162 = .ok (.getfield 59, 3) := by decide +kernel
theorem dX11_feature_165 : decode cX11_feature 165 = .ok (.aload_n 0, 1) := by decide +kernel
theorem dX11_feature_166 : decode cX11_feature 166 = .ok (.getfield 133, 3) := by decide +kernel
theorem dX11_feature_169 : decode cX11_feature 169 = .ok (.iload_n 1, 1) := by decide +kernel
theorem dX11_feature_170 : decode cX11_feature 170 = .ok (.iconst 1, 1) := by decide +kernel
theorem dX11_feature_171 : decode cX11_feature 171 = .ok (.if_icmp .ne 7, 3) := by decide +kernel
theorem dX11_feature_174 : decode cX11_feature 174 = .ok (.iload_n 2, 1) := by decide +kernel
theorem dX11_feature_175 : decode cX11_feature 175 = .ok (.goto 7, 3) := by decide +kernel
theorem dX11_feature_178 : decode cX11_feature 178 = .ok (.iload_n 2, 1) := by decide +kernel
theorem dX11_feature_179 : decode cX11_feature 179 = .ok (.invokestatic 109, 3) := by decide +kernel
theorem dX11_feature_182 : decode cX11_feature 182 = .ok (.iastore, 1) := by decide +kernel
theorem dX11_feature_183 : decode cX11_feature 183 = .ok (.aload_n 0, 1) := by decide +kernel
theorem dX11_feature_184 : decode cX11_feature 184 = .ok (.dup, 1) := by decide +kernel
theorem dX11_feature_185 : decode cX11_feature 185 = .ok (.getfield 133, 3) := by decide +kernel
theorem dX11_feature_188 : decode cX11_feature 188 = .ok (.iconst 1, 1) := by decide +kernel
theorem dX11_feature_189 : decode cX11_feature 189 = .ok (.iadd, 1) := by decide +kernel
theorem dX11_feature_190 : decode cX11_feature 190 = .ok (.putfield 133, 3) := by decide +kernel
theorem dX11_feature_193 : decode cX11_feature 193 = .ok (.aload_n 0, 1) := by decide +kernel
theorem dX11_feature_194 : decode cX11_feature 194 = .ok (.getfield 133, 3) := by decide +kernel
theorem dX11_feature_197 : decode cX11_feature 197 = .ok (.iconst 1, 1) := by decide +kernel
theorem dX11_feature_198 : decode cX11_feature 198 = .ok (.isub, 1) := by decide +kernel
theorem dX11_feature_199 : decode cX11_feature 199 = .ok (.ireturn, 1) := by decide +kernel
theorem dX11_isLike_0 : decode cX11_isLike 0 = .ok (.aload_n 0, 1) := by decide +kernel
theorem dX11_isLike_1 : decode cX11_isLike 1 = .ok (.getfield 53, 3) := by decide +kernel
theorem dX11_isLike_4 : decode cX11_isLike 4 = .ok (.bipush 100, 2) := by decide +kernel
theorem dX11_isLike_6 : decode cX11_isLike 6 = .ok (.iload_n 2, 1) := by decide +kernel
theorem dX11_isLike_7 : decode cX11_isLike 7 = .ok (.imul, 1) := by decide +kernel
theorem dX11_isLike_8 : decode cX11_isLike 8 = .ok (.iload_n 3, 1) := by decide +kernel
theorem dX11_isLike_9 : decode cX11_isLike 9 = .ok (.iadd, 1) := by decide +kernel
theorem dX11_isLike_10 : decode cX11_isLike 10 = .ok (.iaload, 1) := by decide +kernel
theorem dX11_isLike_11 : decode cX11_isLike 11 = .ok (.istore 4, 2) := by decide +kernel
theorem dX11_isLike_13 : decode cX11_isLike 13 = .ok (.sipush 200, 3) := by decide +kernel
theorem dX11_isLike_16 : decode cX11_isLike 16 = .ok (.iload_n 2, 1) := by decide +kernel
theorem dX11_isLike_17 : decode cX11_isLike 17 = .ok (.imul, 1) := by decide +kernel
theorem dX11_isLike_18 : decode cX11_isLike 18 = .ok (.aload_n 0, 1) := by decide +kernel
theorem dX11_isLike_19 : decode cX11_isLike 19 = .ok (.getfield 50, 3) := by decide +kernel
theorem dX11_isLike_22 : decode cX11_isLike 22 = .ok (.bipush 100, 2) := by decide +kernel
theorem dX11_isLike_24 : decode cX11_isLike 24 = .ok (.iload_n 2, 1) := by decide +kernel
theorem dX11_isLike_25 : decode cX11_isLike 25 = .ok (.imul, 1) := by decide +kernel
theorem dX11_isLike_26 : decode cX11_isLike 26 = .ok (.iload_n 3, 1) := by decide +kernel
theorem dX11_isLike_27 : decode cX11_isLike 27 = .ok (.iadd, 1) := by decide +kernel
theorem dX11_isLike_28 : decode cX11_isLike 28 = .ok (.iaload, 1) := by decide +kernel
theorem dX11_isLike_29 : decode cX11_isLike 29 = .ok (.iadd, 1) := by decide +kernel
theorem dX11_isLike_30 : decode cX11_isLike 30 = .ok (.istore 5, 2) := by decide +kernel
theorem dX11_isLike_32 : decode cX11_isLike 32 = .ok (.aload_n 0, 1) := by decide +kernel
theorem dX11_isLike_33 : decode cX11_isLike 33 = .ok (.getfield 56, 3) := by decide +kernel
theorem dX11_isLike_36 : decode cX11_isLike 36 = .ok (.iload_n 1, 1) := by decide +kernel
theorem dX11_isLike_37 : decode cX11_isLike 37 = .ok (.iaload, 1) := by decide +kernel
theorem dX11_isLike_38 : decode cX11_isLike 38 = .ok (.iconst 1, 1) := by decide +kernel
theorem dX11_isLike_39 : decode cX11_isLike 39 = .ok (.if_icmp .ne 38, 3) := by decide +kernel
theorem dX11_isLike_42 : decode cX11_isLike 42 = .ok (.iload 4, 2) := by decide +kernel
theorem dX11_isLike_44 : decode cX11_isLike 44 = .ok (.aload_n 0, 1) := by decide +kernel
theorem dX11_isLike_45 : decode cX11_isLike 45 = .ok (.getfield 59, 3) := by decide +kernel
theorem dX11_isLike_48 : decode cX11_isLike 48 = .ok (.iload_n 1, 1) := by decide +kernel
theorem dX11_isLike_49 : decode cX11_isLike 49 = .ok (.iaload, 1) := by decide +kernel
theorem dX11_isLike_50 : decode cX11_isLike 50 = .ok (.if_icmp .eq 21, 3) := by decide +kernel
theorem dX11_isLike_53 : decode cX11_isLike 53 = .ok (.iload 4, 2) := by decide +kernel
theorem dX11_isLike_55 : decode cX11_isLike 55 = .ok (.bipush 12, 2) := by decide +kernel
theorem dX11_isLike_57 : decode cX11_isLike 57 = .ok (.if_icmp .le 18, 3) := by decide +kernel
theorem dX11_isLike_60 : decode cX11_isLike 60 = .ok (.aload_n 0, 1) := by decide +kernel
theorem dX11_isLike_61 : decode cX11_isLike 61 = .ok (.getfield 59, 3) := by decide +kernel
theorem dX11_isLike_64 : decode cX11_isLike 64 = .ok (.iload_n 1, 1) := by decide +kernel
theorem dX11_isLike_65 : decode cX11_isLike 65 = .ok (.iaload, 1) := by decide +kernel
theorem dX11_isLike_66 : decode cX11_isLike 66 = .ok (.bipush 12, 2) := by decide +kernel
theorem dX11_isLike_68 : decode cX11_isLike 68 = .ok (.if_icmp .ne 7, 3) := by decide +kernel
theorem dX11_isLike_71 : decode cX11_isLike 71 = .ok (.iconst 1, 1) := by decide +kernel
theorem dX11_isLike_72 : decode cX11_isLike 72 = .ok (.goto 4, 3) := by decide +kernel
theorem dX11_isLike_75 : decode cX11_isLike 75 = .ok (.iconst 0, 1) := by decide +kernel
theorem dX11_isLike_76 : decode cX11_isLike 76 = .ok (.ireturn, 1) := by decide +kernel
theorem dX11_isLike_77 : decode cX11_isLike 77 = .ok (.aload_n 0, 1) := by decide +kernel
theorem dX11_isLike_78 : decode cX11_isLike 78 = .ok (.getfield 56, 3) := by decide +kernel
theorem dX11_isLike_81 : decode cX11_isLike 81 = .ok (.iload_n 1, 1) := by decide +kernel
theorem dX11_isLike_82 : decode cX11_isLike 82 = .ok (.iaload, 1) := by decide +kernel
theorem dX11_isLike_83 : decode cX11_isLike 83 = .ok (.iconst 2, 1) := by decide +kernel
theorem dX11_isLike_84 : decode cX11_isLike 84 = .ok (.if_icmp .ne 30, 3) := by decide +kernel
theorem dX11_isLike_87 : decode cX11_isLike 87 = .ok (.aload_n 0, 1) := by decide +kernel
theorem dX11_isLike_88 : decode cX11_isLike 88 = .ok (.getfield 38, 3) := by decide +kernel
theorem dX11_isLike_91 : decode cX11_isLike 91 = .ok (.iload 5, 2) := by decide +kernel
theorem dX11_isLike_93 : decode cX11_isLike 93 = .ok (.iload 4, 2) := by decide +kernel
theorem dX11_isLike_95 : decode cX11_isLike 95 = .ok (.iadd, 1) := by decide +kernel
theorem dX11_isLike_96 : decode cX11_isLike 96 = .ok (.iconst 1, 1) := by decide +kernel
theorem dX11_isLike_97 : decode cX11_isLike 97 = .ok (.isub, 1) := by decide +kernel
theorem dX11_isLike_98 : decode cX11_isLike 98 = .ok (.iaload, 1) := by decide +kernel
theorem dX11_isLike_99 : decode cX11_isLike 99 = .ok (.aload_n 0, 1) := by decide +kernel
theorem dX11_isLike_100 : decode cX11_isLike 100 = .ok (.getfield 59, 3) := by decide +kernel
theorem dX11_isLike_103 : decode cX11_isLike 103 = .ok (.iload_n 1, 1) := by decide +kernel
theorem dX11_isLike_104 : decode cX11_isLike 104 = .ok (.iaload, 1) := by decide +kernel
theorem dX11_isLike_105 : decode cX11_isLike 105 = .ok (.if_icmp .ne 7, 3) := by decide +kernel
theorem dX11_isLike_108 : decode cX11_isLike 108 = .ok (.iconst 1, 1) := by decide +kernel
theorem dX11_isLike_109 : decode cX11_isLike 109 = .ok (.goto 4, 3) := by decide +kernel
theorem dX11_isLike_112 : decode cX11_isLike 112 = .ok (.iconst 0, 1) := by decide +kernel
theorem dX11_isLike_113 : decode cX11_isLike 113 = .ok (.ireturn, 1) := by decide +kernel
theorem dX11_isLike_114 : decode cX11_isLike 114 = .ok (.iload 4, 2) := by decide +kernel
theorem dX11_isLike_116 : decode cX11_isLike 116 = .ok (.aload_n 0, 1) := by decide +kernel
theorem dX11_isLike_117 : decode cX11_isLike 117 = .ok (.getfield 62, 3) := by decide +kernel
theorem dX11_isLike_120 : decode cX11_isLike 120 = .ok (.iload_n 1, 1) := by decide +kernel
theorem dX11_isLike_121 : decode cX11_isLike 121 = .ok (.iaload, 1) := by decide +kernel
theorem dX11_isLike_122 : decode cX11_isLike 122 = .ok (.if_icmp .ne 7, 3) := by decide +kernel
theorem dX11_isLike_125 : decode cX11_isLike 125 = .ok (.iconst 1, 1) := by decide +kernel
theorem dX11_isLike_126 : decode cX11_isLike 126 = .ok (.goto 4, 3) := by decide +kernel
theorem dX11_isLike_129 : decode cX11_isLike 129 = .ok (.iconst 0, 1) := by decide +kernel
theorem dX11_isLike_130 : decode cX11_isLike 130 = .ok (.istore 6, 2) := by decide +kernel
theorem dX11_isLike_132 : decode cX11_isLike 132 = .ok (.iconst 0, 1) := by decide +kernel
theorem dX11_isLike_133 : decode cX11_isLike 133 = .ok (.istore 7, 2) := by decide +kernel
theorem dX11_isLike_135 : decode cX11_isLike 135 = .ok (.iload 7, 2) := by decide +kernel
theorem dX11_isLike_137 : decode cX11_isLike 137 = .ok (.bipush 12, 2) := by decide +kernel
theorem dX11_isLike_139 : decode cX11_isLike 139 = .ok (.if_icmp .ge 53, 3) := by decide +kernel
theorem dX11_isLike_142 : decode cX11_isLike 142 = .ok (.iload 7, 2) := by decide +kernel
theorem dX11_isLike_144 : decode cX11_isLike 144 = .ok (.iload 4, 2) := by decide +kernel
theorem dX11_isLike_146 : decode cX11_isLike 146 = .ok (.if_icmp .ge 46, 3) := by decide +kernel
theorem dX11_isLike_149 : decode cX11_isLike 149 = .ok (.iload 6, 2) := by decide +kernel
theorem dX11_isLike_151 : decode cX11_isLike 151 = .ok (.ifCond .eq 41, 3) := by decide +kernel
theorem dX11_isLike_154 : decode cX11_isLike 154 = .ok (.aload_n 0, 1) := by decide +kernel
theorem dX11_isLike_155 : decode cX11_isLike 155 = .ok (.getfield 38, 3) := by decide +kernel
theorem dX11_isLike_158 : decode cX11_isLike 158 = .ok (.iload 5, 2) := by decide +kernel
theorem dX11_isLike_160 : decode cX11_isLike 160 = .ok (.iload 7, 2) := by decide +kernel
theorem dX11_isLike_162 : decode cX11_isLike 162 = .ok (.iadd, 1) := by decide +kernel
theorem dX11_isLike_163 : decode cX11_isLike 163 = .ok (.iaload, 1) := by decide +kernel
theorem dX11_isLike_164 : decode cX11_isLike 164 = .ok (.aload_n 0, 1) := by decide +kernel
theorem dX11_isLike_165 : decode cX11_isLike 165 = .ok (.getfield 65, 3) := by decide +kernel
theorem dX11_isLike_168 : decode cX11_isLike 168 = .ok (.bipush 12, 2) := by decide +kernel
theorem dX11_isLike_170 : decode cX11_isLike 170 = .ok (.iload_n 1, 1) := by decide +kernel
theorem dX11_isLike_171 : decode cX11_isLike 171 = .ok (.imul, 1) := by decide +kernel
theorem dX11_isLike_172 : decode cX11_isLike 172 = .ok (.iload 7, 2) := by decide +kernel
theorem dX11_isLike_174 : decode cX11_isLike 174 = .ok (.iadd, 1) := by decide +kernel
theorem dX11_isLike_175 : decode cX11_isLike 175 = .ok (.iaload, 1) := by decide +kernel
theorem dX11_isLike_176 : decode cX11_isLike 176 = .ok (.if_icmp .ne 7, 3) := by decide +kernel
theorem dX11_isLike_179 : decode cX11_isLike 179 = .ok (.iconst 1, 1) := by decide +kernel
theorem dX11_isLike_180 : decode cX11_isLike 180 = .ok (.goto 4, 3) := by decide +kernel
theorem dX11_isLike_183 : decode cX11_isLike 183 = .ok (.iconst 0, 1) := by decide +kernel
theorem dX11_isLike_184 : decode cX11_isLike 184 = .ok (.istore 6, 2) := by decide +kernel
theorem dX11_isLike_186 : decode cX11_isLike 186 = .ok (.iinc 7 1, 3) := by decide +kernel
theorem dX11_isLike_189 : decode cX11_isLike 189 = .ok (.goto (-54), 3) := by decide +kernel
theorem dX11_isLike_192 : decode cX11_isLike 192 = .ok (.iload 6, 2) := by decide +kernel
theorem dX11_isLike_194 : decode cX11_isLike 194 = .ok (.ireturn, 1) := by decide +kernel
theorem dX11_countIn_0 : decode cX11_countIn 0 = .ok (.iconst 0, 1) := by decide +kernel
theorem dX11_countIn_1 : decode cX11_countIn 1 = .ok (.istore 5, 2) := by decide +kernel
theorem dX11_countIn_3 : decode cX11_countIn 3 = .ok (.iload_n 3, 1) := by decide +kernel
theorem dX11_countIn_4 : decode cX11_countIn 4 = .ok (.istore 6, 2) := by decide +kernel
theorem dX11_countIn_6 : decode cX11_countIn 6 = .ok (.iload 6, 2) := by decide +kernel
theorem dX11_countIn_8 : decode cX11_countIn 8 = .ok (.iload 4, 2) := by decide +kernel
theorem dX11_countIn_10 : decode cX11_countIn 10 = .ok (.if_icmp .ge 41, 3) := by decide +kernel
theorem dX11_countIn_13 : decode cX11_countIn 13 = .ok (.iload 6, 2) := by decide +kernel
theorem dX11_countIn_15 : decode cX11_countIn 15 = .ok (.aload_n 0, 1) := by decide +kernel
theorem dX11_countIn_16 : decode cX11_countIn 16 = .ok (.getfield 47, 3) := by decide +kernel
theorem dX11_countIn_19 : decode cX11_countIn 19 = .ok (.iload_n 2, 1) := by decide +kernel
theorem dX11_countIn_20 : decode cX11_countIn 20 = .ok (.iaload, 1) := by decide +kernel
theorem dX11_countIn_21 : decode cX11_countIn 21 = .ok (.if_icmp .ge 30, 3) := by decide +kernel
theorem dX11_countIn_24 : decode cX11_countIn 24 = .ok (.iload 5, 2) := by decide +kernel
theorem dX11_countIn_26 : decode cX11_countIn 26 = .ok (.aload_n 0, 1) := by decide +kernel
theorem dX11_countIn_27 : decode cX11_countIn 27 = .ok (.iload_n 1, 1) := by decide +kernel
theorem dX11_countIn_28 : decode cX11_countIn 28 = .ok (.iload_n 2, 1) := by decide +kernel
theorem dX11_countIn_29 : decode cX11_countIn 29 = .ok (.iload 6, 2) := by decide +kernel
theorem dX11_countIn_31 : decode cX11_countIn 31 = .ok (.invokevirtual 136, 3) := by decide +kernel
theorem dX11_countIn_34 : decode cX11_countIn 34 = .ok (.ifCond .eq 7, 3) := by decide +kernel
theorem dX11_countIn_37 : decode cX11_countIn 37 = .ok (.iconst 1, 1) := by decide +kernel
theorem dX11_countIn_38 : decode cX11_countIn 38 = .ok (.goto 4, 3) := by decide +kernel
theorem dX11_countIn_41 : decode cX11_countIn 41 = .ok (.iconst 0, 1) := by decide +kernel
theorem dX11_countIn_42 : decode cX11_countIn 42 = .ok (.iadd, 1) := by decide +kernel
theorem dX11_countIn_43 : decode cX11_countIn 43 = .ok (.istore 5, 2) := by decide +kernel
theorem dX11_countIn_45 : decode cX11_countIn 45 = .ok (.iinc 6 1, 3) := by decide +kernel
theorem dX11_countIn_48 : decode cX11_countIn 48 = .ok (.goto (-42), 3) := by decide +kernel
theorem dX11_countIn_51 : decode cX11_countIn 51 = .ok (.iload 5, 2) := by decide +kernel
theorem dX11_countIn_53 : decode cX11_countIn 53 = .ok (.ireturn, 1) := by decide +kernel
theorem dX11_countOf_0 : decode cX11_countOf 0 = .ok (.aload_n 0, 1) := by decide +kernel
theorem dX11_countOf_1 : decode cX11_countOf 1 = .ok (.getfield 56, 3) := by decide +kernel
theorem dX11_countOf_4 : decode cX11_countOf 4 = .ok (.iload_n 1, 1) := by decide +kernel
theorem dX11_countOf_5 : decode cX11_countOf 5 = .ok (.iaload, 1) := by decide +kernel
theorem dX11_countOf_6 : decode cX11_countOf 6 = .ok (.ifCond .le 17, 3) := by decide +kernel
theorem dX11_countOf_9 : decode cX11_countOf 9 = .ok (.aload_n 0, 1) := by decide +kernel
theorem dX11_countOf_10 : decode cX11_countOf 10 = .ok (.iload_n 1, 1) := by decide +kernel
theorem dX11_countOf_11 : decode cX11_countOf 11 = .ok (.iload_n 2, 1) := by decide +kernel
theorem dX11_countOf_12 : decode cX11_countOf 12 = .ok (.iconst 0, 1) := by decide +kernel
theorem dX11_countOf_13 : decode cX11_countOf 13 = .ok (.aload_n 0, 1) := by decide +kernel
theorem dX11_countOf_14 : decode cX11_countOf 14 = .ok (.getfield 47, 3) := by decide +kernel
theorem dX11_countOf_17 : decode cX11_countOf 17 = .ok (.iload_n 2, 1) := by decide +kernel
theorem dX11_countOf_18 : decode cX11_countOf 18 = .ok (.iaload, 1) := by decide +kernel
theorem dX11_countOf_19 : decode cX11_countOf 19 = .ok (.invokevirtual 139, 3) := by decide +kernel
theorem dX11_countOf_22 : decode cX11_countOf 22 = .ok (.ireturn, 1) := by decide +kernel
theorem dX11_countOf_23 : decode cX11_countOf 23 = .ok (.iconst 0, 1) := by decide +kernel
theorem dX11_countOf_24 : decode cX11_countOf 24 = .ok (.istore_n 3, 1) := by decide +kernel
theorem dX11_countOf_25 : decode cX11_countOf 25 = .ok (.iconst 0, 1) := by decide +kernel
theorem dX11_countOf_26 : decode cX11_countOf 26 = .ok (.istore 4, 2) := by decide +kernel
theorem dX11_countOf_28 : decode cX11_countOf 28 = .ok (.iload 4, 2) := by decide +kernel
theorem dX11_countOf_30 : decode cX11_countOf 30 = .ok (.aload_n 0, 1) := by decide +kernel
theorem dX11_countOf_31 : decode cX11_countOf 31 = .ok (.getfield 35, 3) := by decide +kernel
theorem dX11_countOf_34 : decode cX11_countOf 34 = .ok (.iload_n 2, 1) := by decide +kernel
theorem dX11_countOf_35 : decode cX11_countOf 35 = .ok (.iaload, 1) := by decide +kernel
theorem dX11_countOf_36 : decode cX11_countOf 36 = .ok (.if_icmp .ge 39, 3) := by decide +kernel
theorem dX11_countOf_39 : decode cX11_countOf 39 = .ok (.iload_n 3, 1) := by decide +kernel
theorem dX11_countOf_40 : decode cX11_countOf 40 = .ok (.aload_n 0, 1) := by decide +kernel
theorem dX11_countOf_41 : decode cX11_countOf 41 = .ok (.getfield 38, 3) := by decide +kernel
theorem dX11_countOf_44 : decode cX11_countOf 44 = .ok (.sipush 200, 3) := by decide +kernel
theorem dX11_countOf_47 : decode cX11_countOf 47 = .ok (.iload_n 2, 1) := by decide +kernel
theorem dX11_countOf_48 : decode cX11_countOf 48 = .ok (.imul, 1) := by decide +kernel
theorem dX11_countOf_49 : decode cX11_countOf 49 = .ok (.iload 4, 2) := by decide +kernel
theorem dX11_countOf_51 : decode cX11_countOf 51 = .ok (.iadd, 1) := by decide +kernel
theorem dX11_countOf_52 : decode cX11_countOf 52 = .ok (.iaload, 1) := by decide +kernel
theorem dX11_countOf_53 : decode cX11_countOf 53 = .ok (.aload_n 0, 1) := by decide +kernel
theorem dX11_countOf_54 : decode cX11_countOf 54 = .ok (.getfield 59, 3) := by decide +kernel
theorem dX11_countOf_57 : decode cX11_countOf 57 = .ok (.iload_n 1, 1) := by decide +kernel
theorem dX11_countOf_58 : decode cX11_countOf 58 = .ok (.iaload, 1) := by decide +kernel
theorem dX11_countOf_59 : decode cX11_countOf 59 = .ok (.if_icmp .ne 7, 3) := by decide +kernel
theorem dX11_countOf_62 : decode cX11_countOf 62 = .ok (.iconst 1, 1) := by decide +kernel
theorem dX11_countOf_63 : decode cX11_countOf 63 = .ok (.goto 4, 3) := by decide +kernel
theorem dX11_countOf_66 : decode cX11_countOf 66 = .ok (.iconst 0, 1) := by decide +kernel
theorem dX11_countOf_67 : decode cX11_countOf 67 = .ok (.iadd, 1) := by decide +kernel
theorem dX11_countOf_68 : decode cX11_countOf 68 = .ok (.istore_n 3, 1) := by decide +kernel
theorem dX11_countOf_69 : decode cX11_countOf 69 = .ok (.iinc 4 1, 3) := by decide +kernel
theorem dX11_countOf_72 : decode cX11_countOf 72 = .ok (.goto (-44), 3) := by decide +kernel
theorem dX11_countOf_75 : decode cX11_countOf 75 = .ok (.iload_n 3, 1) := by decide +kernel
theorem dX11_countOf_76 : decode cX11_countOf 76 = .ok (.ireturn, 1) := by decide +kernel
theorem dX11_setCounts_0 : decode cX11_setCounts 0 = .ok (.iconst 0, 1) := by decide +kernel
theorem dX11_setCounts_1 : decode cX11_setCounts 1 = .ok (.istore_n 1, 1) := by decide +kernel
theorem dX11_setCounts_2 : decode cX11_setCounts 2 = .ok (.iload_n 1, 1) := by decide +kernel
theorem dX11_setCounts_3 : decode cX11_setCounts 3 = .ok (.aload_n 0, 1) := by decide +kernel
theorem dX11_setCounts_4 : decode cX11_setCounts 4 = .ok (.getfield 115, 3) := by decide +kernel
theorem dX11_setCounts_7 : decode cX11_setCounts 7 = .ok (.if_icmp .ge 42, 3) := by decide +kernel
theorem dX11_setCounts_10 : decode cX11_setCounts 10 = .ok (.iconst 0, 1) := by decide +kernel
theorem dX11_setCounts_11 : decode cX11_setCounts 11 = .ok (.istore_n 2, 1) := by decide +kernel
theorem dX11_setCounts_12 : decode cX11_setCounts 12 = .ok (.iload_n 2, 1) := by decide +kernel
theorem dX11_setCounts_13 : decode cX11_setCounts 13 = .ok (.aload_n 0, 1) := by decide +kernel
theorem dX11_setCounts_14 : decode cX11_setCounts 14 = .ok (.getfield 133, 3) := by decide +kernel
theorem dX11_setCounts_17 : decode cX11_setCounts 17 = .ok (.if_icmp .ge 26, 3) := by decide +kernel
theorem dX11_setCounts_20 : decode cX11_setCounts 20 = .ok (.aload_n 0, 1) := by decide +kernel
theorem dX11_setCounts_21 : decode cX11_setCounts 21 = .ok (.getfield 68, 3) := by decide +kernel
theorem dX11_setCounts_24 : decode cX11_setCounts 24 = .ok (.bipush 12, 2) := by decide +kernel
theorem dX11_setCounts_26 : decode cX11_setCounts 26 = .ok (.iload_n 1, 1) := by decide +kernel
theorem dX11_setCounts_27 : decode cX11_setCounts 27 = .ok (.imul, 1) := by decide +kernel
theorem dX11_setCounts_28 : decode cX11_setCounts 28 = .ok (.iload_n 2, 1) := by decide +kernel
theorem dX11_setCounts_29 : decode cX11_setCounts 29 = .ok (.iadd, 1) := by decide +kernel
theorem dX11_setCounts_30 : decode cX11_setCounts 30 = .ok (.aload_n 0, 1) := by decide +kernel
theorem dX11_setCounts_31 : decode cX11_setCounts 31 = .ok (.iload_n 2, 1) := by decide +kernel
theorem dX11_setCounts_32 : decode cX11_setCounts 32 = .ok (.iload_n 1, 1) := by decide +kernel
theorem dX11_setCounts_33 : decode cX11_setCounts 33 = .ok (.invokevirtual 143, 3) := by decide +kernel
theorem dX11_setCounts_36 : decode cX11_setCounts 36 = .ok (.iastore, 1) := by decide +kernel
theorem dX11_setCounts_37 : decode cX11_setCounts 37 = .ok (.iinc 2 1, 3) := by decide +kernel
theorem dX11_setCounts_40 : decode cX11_setCounts 40 = .ok (.goto (-28), 3) := by decide +kernel
theorem dX11_setCounts_43 : decode cX11_setCounts 43 = .ok (.iinc 1 1, 3) := by decide +kernel
theorem dX11_setCounts_46 : decode cX11_setCounts 46 = .ok (.goto (-44), 3) := by decide +kernel
theorem dX11_setCounts_49 : decode cX11_setCounts 49 = .ok (.return_, 1) := by decide +kernel
theorem dX11_rateIn_0 : decode cX11_rateIn 0 = .ok (.iconst 0, 1) := by decide +kernel
theorem dX11_rateIn_1 : decode cX11_rateIn 1 = .ok (.istore_n 3, 1) := by decide +kernel
theorem dX11_rateIn_2 : decode cX11_rateIn 2 = .ok (.iconst 0, 1) := by decide +kernel
theorem dX11_rateIn_3 : decode cX11_rateIn 3 = .ok (.istore 4, 2) := by decide +kernel
theorem dX11_rateIn_5 : decode cX11_rateIn 5 = .ok (.iconst 0, 1) := by decide +kernel
theorem dX11_rateIn_6 : decode cX11_rateIn 6 = .ok (.istore 5, 2) := by decide +kernel
theorem dX11_rateIn_8 : decode cX11_rateIn 8 = .ok (.iload 5, 2) := by decide +kernel
theorem dX11_rateIn_10 : decode cX11_rateIn 10 = .ok (.aload_n 0, 1) := by decide +kernel
theorem dX11_rateIn_11 : decode cX11_rateIn 11 = .ok (.getfield 115, 3) := by decide +kernel
theorem dX11_rateIn_14 : decode cX11_rateIn 14 = .ok (.if_icmp .ge 81, 3) := by decide +kernel
theorem dX11_rateIn_17 : decode cX11_rateIn 17 = .ok (.iload_n 3, 1) := by decide +kernel
theorem dX11_rateIn_18 : decode cX11_rateIn 18 = .ok (.iload_n 2, 1) := by decide +kernel
theorem dX11_rateIn_19 : decode cX11_rateIn 19 = .ok (.iload 5, 2) := by decide +kernel
theorem dX11_rateIn_21 : decode cX11_rateIn 21 = .ok (.invokestatic 146, 3) := by decide +kernel
theorem dX11_rateIn_24 : decode cX11_rateIn 24 = .ok (.ifCond .eq 18, 3) := by decide +kernel
theorem dX11_rateIn_27 : decode cX11_rateIn 27 = .ok (.aload_n 0, 1) := by decide +kernel
theorem dX11_rateIn_28 : decode cX11_rateIn 28 = .ok (.getfield 68, 3) := by decide +kernel
theorem dX11_rateIn_31 : decode cX11_rateIn 31 = .ok (.bipush 12, 2) := by decide +kernel
theorem dX11_rateIn_33 : decode cX11_rateIn 33 = .ok (.iload 5, 2) := by decide +kernel
theorem dX11_rateIn_35 : decode cX11_rateIn 35 = .ok (.imul, 1) := by decide +kernel
theorem dX11_rateIn_36 : decode cX11_rateIn 36 = .ok (.iload_n 1, 1) := by decide +kernel
theorem dX11_rateIn_37 : decode cX11_rateIn 37 = .ok (.iadd, 1) := by decide +kernel
theorem dX11_rateIn_38 : decode cX11_rateIn 38 = .ok (.iaload, 1) := by decide +kernel
theorem dX11_rateIn_39 : decode cX11_rateIn 39 = .ok (.goto 4, 3) := by decide +kernel
theorem dX11_rateIn_42 : decode cX11_rateIn 42 = .ok (.iconst 0, 1) := by decide +kernel
theorem dX11_rateIn_43 : decode cX11_rateIn 43 = .ok (.iadd, 1) := by decide +kernel
theorem dX11_rateIn_44 : decode cX11_rateIn 44 = .ok (.istore_n 3, 1) := by decide +kernel
theorem dX11_rateIn_45 : decode cX11_rateIn 45 = .ok (.iload 4, 2) := by decide +kernel
theorem dX11_rateIn_47 : decode cX11_rateIn 47 = .ok (.iload_n 2, 1) := by decide +kernel
theorem dX11_rateIn_48 : decode cX11_rateIn 48 = .ok (.iload 5, 2) := by decide +kernel
theorem dX11_rateIn_50 : decode cX11_rateIn 50 = .ok (.invokestatic 146, 3) := by decide +kernel
theorem dX11_rateIn_53 : decode cX11_rateIn 53 = .ok (.ifCond .ne 7, 3) := by decide +kernel
theorem dX11_rateIn_56 : decode cX11_rateIn 56 = .ok (.iconst 0, 1) := by decide +kernel
theorem dX11_rateIn_57 : decode cX11_rateIn 57 = .ok (.goto 29, 3) := by decide +kernel
theorem dX11_rateIn_60 : decode cX11_rateIn 60 = .ok (.aload_n 0, 1) := by decide +kernel
theorem dX11_rateIn_61 : decode cX11_rateIn 61 = .ok (.getfield 56, 3) := by decide +kernel
theorem dX11_rateIn_64 : decode cX11_rateIn 64 = .ok (.iload_n 1, 1) := by decide +kernel
theorem dX11_rateIn_65 : decode cX11_rateIn 65 = .ok (.iaload, 1) := by decide +kernel
theorem dX11_rateIn_66 : decode cX11_rateIn 66 = .ok (.ifCond .ne 13, 3) := by decide +kernel
theorem dX11_rateIn_69 : decode cX11_rateIn 69 = .ok (.aload_n 0, 1) := by decide +kernel
theorem dX11_rateIn_70 : decode cX11_rateIn 70 = .ok (.getfield 44, 3) := by decide +kernel
theorem dX11_rateIn_73 : decode cX11_rateIn 73 = .ok (.iload 5, 2) := by decide +kernel
theorem dX11_rateIn_75 : decode cX11_rateIn 75 = .ok (.iaload, 1) := by decide +kernel
theorem dX11_rateIn_76 : decode cX11_rateIn 76 = .ok (.goto 10, 3) := by decide +kernel
theorem dX11_rateIn_79 : decode cX11_rateIn 79 = .ok (.aload_n 0, 1) := by decide +kernel
theorem dX11_rateIn_80 : decode cX11_rateIn 80 = .ok (.getfield 47, 3) := by decide +kernel
theorem dX11_rateIn_83 : decode cX11_rateIn 83 = .ok (.iload 5, 2) := by decide +kernel
theorem dX11_rateIn_85 : decode cX11_rateIn 85 = .ok (.iaload, 1) := by decide +kernel
theorem dX11_rateIn_86 : decode cX11_rateIn 86 = .ok (.iadd, 1) := by decide +kernel
theorem dX11_rateIn_87 : decode cX11_rateIn 87 = .ok (.istore 4, 2) := by decide +kernel
theorem dX11_rateIn_89 : decode cX11_rateIn 89 = .ok (.iinc 5 1, 3) := by decide +kernel
theorem dX11_rateIn_92 : decode cX11_rateIn 92 = .ok (.goto (-84), 3) := by decide +kernel
theorem dX11_rateIn_95 : decode cX11_rateIn 95 = .ok (.iload 4, 2) := by decide +kernel
theorem dX11_rateIn_97 : decode cX11_rateIn 97 = .ok (.ifCond .ne 7, 3) := by decide +kernel
theorem dX11_rateIn_100 : decode cX11_rateIn 100 = .ok (.iconst 0, 1) := by decide +kernel
theorem dX11_rateIn_101 : decode cX11_rateIn 101 = .ok (.goto 11, 3) := by decide +kernel
theorem dX11_rateIn_104 : decode cX11_rateIn 104 = .ok (.sipush 1000, 3) := by decide +kernel
theorem dX11_rateIn_107 : decode cX11_rateIn 107 = .ok (.iload_n 3, 1) := by decide +kernel
theorem dX11_rateIn_108 : decode cX11_rateIn 108 = .ok (.imul, 1) := by decide +kernel
theorem dX11_rateIn_109 : decode cX11_rateIn 109 = .ok (.iload 4, 2) := by decide +kernel
theorem dX11_rateIn_111 : decode cX11_rateIn 111 = .ok (.idiv, 1) := by decide +kernel
theorem dX11_rateIn_112 : decode cX11_rateIn 112 = .ok (.ireturn, 1) := by decide +kernel
theorem dX11_isFeature_0 : decode cX11_isFeature 0 = .ok (.iload_n 1, 1) := by decide +kernel
theorem dX11_isFeature_1 : decode cX11_isFeature 1 = .ok (.iconst 0, 1) := by decide +kernel
theorem dX11_isFeature_2 : decode cX11_isFeature 2 = .ok (.aload_n 0, 1) := by decide +kernel
theorem dX11_isFeature_3 : decode cX11_isFeature 3 = .ok (.getfield 133, 3) := by decide +kernel
theorem dX11_isFeature_6 : decode cX11_isFeature 6 = .ok (.iconst 1, 1) := by decide +kernel
theorem dX11_isFeature_7 : decode cX11_isFeature 7 = .ok (.isub, 1) := by decide +kernel
theorem dX11_isFeature_8 : decode cX11_isFeature 8 = .ok (.invokestatic 91, 3) := by decide +kernel
theorem dX11_isFeature_11 : decode cX11_isFeature 11 = .ok (.ireturn, 1) := by decide +kernel
theorem dX11_askedFor_0 : decode cX11_askedFor 0 = .ok (.aload_n 0, 1) := by decide +kernel
theorem dX11_askedFor_1 : decode cX11_askedFor 1 = .ok (.iload_n 1, 1) := by decide +kernel
theorem dX11_askedFor_2 : decode cX11_askedFor 2 = .ok (.invokevirtual 122, 3) := by decide +kernel
theorem dX11_askedFor_5 : decode cX11_askedFor 5 = .ok (.ifCond .ne 7, 3) := by decide +kernel
theorem dX11_askedFor_8 : decode cX11_askedFor 8 = .ok (.iconst (-1), 1) := by decide +kernel
theorem dX11_askedFor_9 : decode cX11_askedFor 9 = .ok (.goto 21, 3) := by decide +kernel
theorem dX11_askedFor_12 : decode cX11_askedFor 12 = .ok (.aload_n 0, 1) := by decide +kernel
theorem dX11_askedFor_13 : decode cX11_askedFor 13 = .ok (.getfield 31, 3) := by decide +kernel
theorem dX11_askedFor_16 : decode cX11_askedFor 16 = .ok (.iload_n 1, 1) := by decide +kernel
theorem dX11_askedFor_17 : decode cX11_askedFor 17 = .ok (.baload, 1) := by decide +kernel
theorem dX11_askedFor_18 : decode cX11_askedFor 18 = .ok (.ifCond .eq 11, 3) := by decide +kernel
theorem dX11_askedFor_21 : decode cX11_askedFor 21 = .ok (.aload_n 0, 1) := by decide +kernel
theorem dX11_askedFor_22 : decode cX11_askedFor 22 = .ok (.iconst 1, 1) := by decide +kernel
theorem dX11_askedFor_23 : decode cX11_askedFor 23 = .ok (.invokevirtual 99, 3) := by decide +kernel
theorem dX11_askedFor_26 : decode cX11_askedFor 26 = .ok (.goto 4, 3) := by decide +kernel
theorem dX11_askedFor_29 : decode cX11_askedFor 29 = .ok (.iconst 0, 1) := by decide +kernel
theorem dX11_askedFor_30 : decode cX11_askedFor 30 = .ok (.ireturn, 1) := by decide +kernel
theorem dX11_counts_0 : decode cX11_counts 0 = .ok (.aload_n 0, 1) := by decide +kernel
theorem dX11_counts_1 : decode cX11_counts 1 = .ok (.iload_n 1, 1) := by decide +kernel
theorem dX11_counts_2 : decode cX11_counts 2 = .ok (.invokevirtual 149, 3) := by decide +kernel
theorem dX11_counts_5 : decode cX11_counts 5 = .ok (.ifCond .ne 5, 3) := by decide +kernel
theorem dX11_counts_8 : decode cX11_counts 8 = .ok (.iconst (-1), 1) := by decide +kernel
theorem dX11_counts_9 : decode cX11_counts 9 = .ok (.ireturn, 1) := by decide +kernel
theorem dX11_counts_10 : decode cX11_counts 10 = .ok (.aload_n 0, 1) := by decide +kernel
theorem dX11_counts_11 : decode cX11_counts 11 = .ok (.iload_n 2, 1) := by decide +kernel
theorem dX11_counts_12 : decode cX11_counts 12 = .ok (.invokevirtual 152, 3) := by decide +kernel
theorem dX11_counts_15 : decode cX11_counts 15 = .ok (.istore_n 3, 1) := by decide +kernel
theorem dX11_counts_16 : decode cX11_counts 16 = .ok (.iload_n 3, 1) := by decide +kernel
theorem dX11_counts_17 : decode cX11_counts 17 = .ok (.ifCond .ge 7, 3) := by decide +kernel
theorem dX11_counts_20 : decode cX11_counts 20 = .ok (.iload_n 3, 1) := by decide +kernel
theorem dX11_counts_21 : decode cX11_counts 21 = .ok (.goto 9, 3) := by decide +kernel
theorem dX11_counts_24 : decode cX11_counts 24 = .ok (.aload_n 0, 1) := by decide +kernel
theorem dX11_counts_25 : decode cX11_counts 25 = .ok (.iload_n 1, 1) := by decide +kernel
theorem dX11_counts_26 : decode cX11_counts 26 = .ok (.iload_n 2, 1) := by decide +kernel
theorem dX11_counts_27 : decode cX11_counts 27 = .ok (.invokevirtual 143, 3) := by decide +kernel
theorem dX11_counts_30 : decode cX11_counts 30 = .ok (.ireturn, 1) := by decide +kernel
theorem dX11_rate_0 : decode cX11_rate 0 = .ok (.aload_n 0, 1) := by decide +kernel
theorem dX11_rate_1 : decode cX11_rate 1 = .ok (.iload_n 1, 1) := by decide +kernel
theorem dX11_rate_2 : decode cX11_rate 2 = .ok (.invokevirtual 149, 3) := by decide +kernel
theorem dX11_rate_5 : decode cX11_rate 5 = .ok (.ifCond .ne 5, 3) := by decide +kernel
theorem dX11_rate_8 : decode cX11_rate 8 = .ok (.iconst (-1), 1) := by decide +kernel
theorem dX11_rate_9 : decode cX11_rate 9 = .ok (.ireturn, 1) := by decide +kernel
theorem dX11_rate_10 : decode cX11_rate 10 = .ok (.aload_n 0, 1) := by decide +kernel
theorem dX11_rate_11 : decode cX11_rate 11 = .ok (.iload_n 2, 1) := by decide +kernel
theorem dX11_rate_12 : decode cX11_rate 12 = .ok (.invokevirtual 152, 3) := by decide +kernel
theorem dX11_rate_15 : decode cX11_rate 15 = .ok (.istore_n 3, 1) := by decide +kernel
theorem dX11_rate_16 : decode cX11_rate 16 = .ok (.iload_n 3, 1) := by decide +kernel
theorem dX11_rate_17 : decode cX11_rate 17 = .ok (.ifCond .ge 5, 3) := by decide +kernel
theorem dX11_rate_20 : decode cX11_rate 20 = .ok (.iload_n 3, 1) := by decide +kernel
theorem dX11_rate_21 : decode cX11_rate 21 = .ok (.ireturn, 1) := by decide +kernel
theorem dX11_rate_22 : decode cX11_rate 22 = .ok (.aload_n 0, 1) := by decide +kernel
theorem dX11_rate_23 : decode cX11_rate 23 = .ok (.invokevirtual 155, 3) := by decide +kernel
theorem dX11_rate_26 : decode cX11_rate 26 = .ok (.aload_n 0, 1) := by decide +kernel
theorem dX11_rate_27 : decode cX11_rate 27 = .ok (.iload_n 1, 1) := by decide +kernel
theorem dX11_rate_28 : decode cX11_rate 28 = .ok (.iconst 1, 1) := by decide +kernel
theorem dX11_rate_29 : decode cX11_rate 29 = .ok (.iload_n 2, 1) := by decide +kernel
theorem dX11_rate_30 : decode cX11_rate 30 = .ok (.ishl, 1) := by decide +kernel
theorem dX11_rate_31 : decode cX11_rate 31 = .ok (.invokevirtual 158, 3) := by decide +kernel
theorem dX11_rate_34 : decode cX11_rate 34 = .ok (.ireturn, 1) := by decide +kernel
theorem dX11_handOf_0 : decode cX11_handOf 0 = .ok (.iconst 0, 1) := by decide +kernel
theorem dX11_handOf_1 : decode cX11_handOf 1 = .ok (.istore_n 3, 1) := by decide +kernel
theorem dX11_handOf_2 : decode cX11_handOf 2 = .ok (.iconst 0, 1) := by decide +kernel
theorem dX11_handOf_3 : decode cX11_handOf 3 = .ok (.istore 4, 2) := by decide +kernel
theorem dX11_handOf_5 : decode cX11_handOf 5 = .ok (.iload 4, 2) := by decide +kernel
theorem dX11_handOf_7 : decode cX11_handOf 7 = .ok (.aload_n 0, 1) := by decide +kernel
theorem dX11_handOf_8 : decode cX11_handOf 8 = .ok (.getfield 115, 3) := by decide +kernel
theorem dX11_handOf_11 : decode cX11_handOf 11 = .ok (.if_icmp .ge 47, 3) := by decide +kernel
theorem dX11_handOf_14 : decode cX11_handOf 14 = .ok (.iload_n 3, 1) := by decide +kernel
theorem dX11_handOf_15 : decode cX11_handOf 15 = .ok (.aload_n 0, 1) := by decide +kernel
theorem dX11_handOf_16 : decode cX11_handOf 16 = .ok (.getfield 31, 3) := by decide +kernel
theorem dX11_handOf_19 : decode cX11_handOf 19 = .ok (.iload 4, 2) := by decide +kernel
theorem dX11_handOf_21 : decode cX11_handOf 21 = .ok (.baload, 1) := by decide +kernel
theorem dX11_handOf_22 : decode cX11_handOf 22 = .ok (.ifCond .ne 27, 3) := by decide +kernel
theorem dX11_handOf_25 : decode cX11_handOf 25 = .ok (.aload_n 0, 1) := by decide +kernel
theorem dX11_handOf_26 : decode cX11_handOf 26 = .ok (.getfield 25, 3) := by decide +kernel
theorem dX11_handOf_29 : decode cX11_handOf 29 = .ok (.iload 4, 2) := by decide +kernel
theorem dX11_handOf_31 : decode cX11_handOf 31 = .ok (.iaload, 1) := by decide +kernel
theorem dX11_handOf_32 : decode cX11_handOf 32 = .ok (.iload_n 1, 1) := by decide +kernel
theorem dX11_handOf_33 : decode cX11_handOf 33 = .ok (.if_icmp .ne 16, 3) := by decide +kernel
theorem dX11_handOf_36 : decode cX11_handOf 36 = .ok (.iload 4, 2) := by decide +kernel
theorem dX11_handOf_38 : decode cX11_handOf 38 = .ok (.iload_n 2, 1) := by decide +kernel
theorem dX11_handOf_39 : decode cX11_handOf 39 = .ok (.if_icmp .eq 10, 3) := by decide +kernel
theorem dX11_handOf_42 : decode cX11_handOf 42 = .ok (.iconst 1, 1) := by decide +kernel
theorem dX11_handOf_43 : decode cX11_handOf 43 = .ok (.iload 4, 2) := by decide +kernel
theorem dX11_handOf_45 : decode cX11_handOf 45 = .ok (.ishl, 1) := by decide +kernel
theorem dX11_handOf_46 : decode cX11_handOf 46 = .ok (.goto 4, 3) := by decide +kernel
theorem dX11_handOf_49 : decode cX11_handOf 49 = .ok (.iconst 0, 1) := by decide +kernel
theorem dX11_handOf_50 : decode cX11_handOf 50 = .ok (.ior, 1) := by decide +kernel
theorem dX11_handOf_51 : decode cX11_handOf 51 = .ok (.istore_n 3, 1) := by decide +kernel
theorem dX11_handOf_52 : decode cX11_handOf 52 = .ok (.iinc 4 1, 3) := by decide +kernel
theorem dX11_handOf_55 : decode cX11_handOf 55 = .ok (.goto (-50), 3) := by decide +kernel
theorem dX11_handOf_58 : decode cX11_handOf 58 = .ok (.iload_n 3, 1) := by decide +kernel
theorem dX11_handOf_59 : decode cX11_handOf 59 = .ok (.ireturn, 1) := by decide +kernel
theorem dX11_isWriter_0 : decode cX11_isWriter 0 = .ok (.iload_n 0, 1) := by decide +kernel
theorem dX11_isWriter_1 : decode cX11_isWriter 1 = .ok (.iconst 0, 1) := by decide +kernel
theorem dX11_isWriter_2 : decode cX11_isWriter 2 = .ok (.iconst 5, 1) := by decide +kernel
theorem dX11_isWriter_3 : decode cX11_isWriter 3 = .ok (.invokestatic 91, 3) := by decide +kernel
theorem dX11_isWriter_6 : decode cX11_isWriter 6 = .ok (.ireturn, 1) := by decide +kernel
theorem dX11_hand_0 : decode cX11_hand 0 = .ok (.aload_n 0, 1) := by decide +kernel
theorem dX11_hand_1 : decode cX11_hand 1 = .ok (.iload_n 1, 1) := by decide +kernel
theorem dX11_hand_2 : decode cX11_hand 2 = .ok (.invokevirtual 149, 3) := by decide +kernel
theorem dX11_hand_5 : decode cX11_hand 5 = .ok (.ifCond .eq 10, 3) := by decide +kernel
theorem dX11_hand_8 : decode cX11_hand 8 = .ok (.iload_n 2, 1) := by decide +kernel
theorem dX11_hand_9 : decode cX11_hand 9 = .ok (.invokestatic 161, 3) := by decide +kernel
theorem dX11_hand_12 : decode cX11_hand 12 = .ok (.ifCond .ne 5, 3) := by decide +kernel
theorem dX11_hand_15 : decode cX11_hand 15 = .ok (.iconst (-1), 1) := by decide +kernel
theorem dX11_hand_16 : decode cX11_hand 16 = .ok (.ireturn, 1) := by decide +kernel
theorem dX11_hand_17 : decode cX11_hand 17 = .ok (.aload_n 0, 1) := by decide +kernel
theorem dX11_hand_18 : decode cX11_hand 18 = .ok (.iload_n 2, 1) := by decide +kernel
theorem dX11_hand_19 : decode cX11_hand 19 = .ok (.bipush (-9), 2) := by decide +kernel
theorem dX11_hand_21 : decode cX11_hand 21 = .ok (.invokevirtual 164, 3) := by decide +kernel
theorem dX11_hand_24 : decode cX11_hand 24 = .ok (.istore_n 3, 1) := by decide +kernel
theorem dX11_hand_25 : decode cX11_hand 25 = .ok (.iload_n 3, 1) := by decide +kernel
theorem dX11_hand_26 : decode cX11_hand 26 = .ok (.ifCond .ne 9, 3) := by decide +kernel
theorem dX11_hand_29 : decode cX11_hand 29 = .ok (.aload_n 0, 1) := by decide +kernel
theorem dX11_hand_30 : decode cX11_hand 30 = .ok (.iconst 4, 1) := by decide +kernel
theorem dX11_hand_31 : decode cX11_hand 31 = .ok (.invokevirtual 99, 3) := by decide +kernel
theorem dX11_hand_34 : decode cX11_hand 34 = .ok (.ireturn, 1) := by decide +kernel
theorem dX11_hand_35 : decode cX11_hand 35 = .ok (.aload_n 0, 1) := by decide +kernel
theorem dX11_hand_36 : decode cX11_hand 36 = .ok (.invokevirtual 155, 3) := by decide +kernel
theorem dX11_hand_39 : decode cX11_hand 39 = .ok (.aload_n 0, 1) := by decide +kernel
theorem dX11_hand_40 : decode cX11_hand 40 = .ok (.iload_n 1, 1) := by decide +kernel
theorem dX11_hand_41 : decode cX11_hand 41 = .ok (.iload_n 3, 1) := by decide +kernel
theorem dX11_hand_42 : decode cX11_hand 42 = .ok (.invokevirtual 158, 3) := by decide +kernel
theorem dX11_hand_45 : decode cX11_hand 45 = .ok (.ireturn, 1) := by decide +kernel
theorem dX11_mean_0 : decode cX11_mean 0 = .ok (.aload_n 0, 1) := by decide +kernel
theorem dX11_mean_1 : decode cX11_mean 1 = .ok (.iload_n 1, 1) := by decide +kernel
theorem dX11_mean_2 : decode cX11_mean 2 = .ok (.invokevirtual 152, 3) := by decide +kernel
theorem dX11_mean_5 : decode cX11_mean 5 = .ok (.istore_n 2, 1) := by decide +kernel
theorem dX11_mean_6 : decode cX11_mean 6 = .ok (.iload_n 2, 1) := by decide +kernel
theorem dX11_mean_7 : decode cX11_mean 7 = .ok (.ifCond .ge 5, 3) := by decide +kernel
theorem dX11_mean_10 : decode cX11_mean 10 = .ok (.iload_n 2, 1) := by decide +kernel
theorem dX11_mean_11 : decode cX11_mean 11 = .ok (.ireturn, 1) := by decide +kernel
theorem dX11_mean_12 : decode cX11_mean 12 = .ok (.iconst 0, 1) := by decide +kernel
theorem dX11_mean_13 : decode cX11_mean 13 = .ok (.istore_n 3, 1) := by decide +kernel
theorem dX11_mean_14 : decode cX11_mean 14 = .ok (.iconst 0, 1) := by decide +kernel
theorem dX11_mean_15 : decode cX11_mean 15 = .ok (.istore 4, 2) := by decide +kernel
theorem dX11_mean_17 : decode cX11_mean 17 = .ok (.iload 4, 2) := by decide +kernel
theorem dX11_mean_19 : decode cX11_mean 19 = .ok (.aload_n 0, 1) := by decide +kernel
theorem dX11_mean_20 : decode cX11_mean 20 = .ok (.getfield 47, 3) := by decide +kernel
theorem dX11_mean_23 : decode cX11_mean 23 = .ok (.iload_n 1, 1) := by decide +kernel
theorem dX11_mean_24 : decode cX11_mean 24 = .ok (.iaload, 1) := by decide +kernel
theorem dX11_mean_25 : decode cX11_mean 25 = .ok (.if_icmp .ge 24, 3) := by decide +kernel
theorem dX11_mean_28 : decode cX11_mean 28 = .ok (.iload_n 3, 1) := by decide +kernel
theorem dX11_mean_29 : decode cX11_mean 29 = .ok (.aload_n 0, 1) := by decide +kernel
theorem dX11_mean_30 : decode cX11_mean 30 = .ok (.getfield 53, 3) := by decide +kernel
theorem dX11_mean_33 : decode cX11_mean 33 = .ok (.bipush 100, 2) := by decide +kernel
theorem dX11_mean_35 : decode cX11_mean 35 = .ok (.iload_n 1, 1) := by decide +kernel
theorem dX11_mean_36 : decode cX11_mean 36 = .ok (.imul, 1) := by decide +kernel
theorem dX11_mean_37 : decode cX11_mean 37 = .ok (.iload 4, 2) := by decide +kernel
theorem dX11_mean_39 : decode cX11_mean 39 = .ok (.iadd, 1) := by decide +kernel
theorem dX11_mean_40 : decode cX11_mean 40 = .ok (.iaload, 1) := by decide +kernel
theorem dX11_mean_41 : decode cX11_mean 41 = .ok (.iadd, 1) := by decide +kernel
theorem dX11_mean_42 : decode cX11_mean 42 = .ok (.istore_n 3, 1) := by decide +kernel
theorem dX11_mean_43 : decode cX11_mean 43 = .ok (.iinc 4 1, 3) := by decide +kernel
theorem dX11_mean_46 : decode cX11_mean 46 = .ok (.goto (-29), 3) := by decide +kernel
theorem dX11_mean_49 : decode cX11_mean 49 = .ok (.aload_n 0, 1) := by decide +kernel
theorem dX11_mean_50 : decode cX11_mean 50 = .ok (.getfield 47, 3) := by decide +kernel
theorem dX11_mean_53 : decode cX11_mean 53 = .ok (.iload_n 1, 1) := by decide +kernel
theorem dX11_mean_54 : decode cX11_mean 54 = .ok (.iaload, 1) := by decide +kernel
theorem dX11_mean_55 : decode cX11_mean 55 = .ok (.ifCond .ne 11, 3) := by decide +kernel
theorem dX11_mean_58 : decode cX11_mean 58 = .ok (.aload_n 0, 1) := by decide +kernel
theorem dX11_mean_59 : decode cX11_mean 59 = .ok (.iconst 4, 1) := by decide +kernel
theorem dX11_mean_60 : decode cX11_mean 60 = .ok (.invokevirtual 99, 3) := by decide +kernel
theorem dX11_mean_63 : decode cX11_mean 63 = .ok (.goto 11, 3) := by decide +kernel
theorem dX11_mean_66 : decode cX11_mean 66 = .ok (.iload_n 3, 1) := by decide +kernel
theorem dX11_mean_67 : decode cX11_mean 67 = .ok (.aload_n 0, 1) := by decide +kernel
theorem dX11_mean_68 : decode cX11_mean 68 = .ok (.getfield 47, 3) := by decide +kernel
theorem dX11_mean_71 : decode cX11_mean 71 = .ok (.iload_n 1, 1) := by decide +kernel
theorem dX11_mean_72 : decode cX11_mean 72 = .ok (.iaload, 1) := by decide +kernel
theorem dX11_mean_73 : decode cX11_mean 73 = .ok (.idiv, 1) := by decide +kernel
theorem dX11_mean_74 : decode cX11_mean 74 = .ok (.ireturn, 1) := by decide +kernel
theorem dX11_sort_0 : decode cX11_sort 0 = .ok (.iload_n 1, 1) := by decide +kernel
theorem dX11_sort_1 : decode cX11_sort 1 = .ok (.iconst 0, 1) := by decide +kernel
theorem dX11_sort_2 : decode cX11_sort 2 = .ok (.iconst 1, 1) := by decide +kernel
theorem dX11_sort_3 : decode cX11_sort 3 = .ok (.invokestatic 91, 3) := by decide +kernel
theorem dX11_sort_6 : decode cX11_sort 6 = .ok (.ifCond .ne 5, 3) := by decide +kernel
theorem dX11_sort_9 : decode cX11_sort 9 = .ok (.iconst (-1), 1) := by decide +kernel
theorem dX11_sort_10 : decode cX11_sort 10 = .ok (.ireturn, 1) := by decide +kernel
theorem dX11_sort_11 : decode cX11_sort 11 = .ok (.aload_n 0, 1) := by decide +kernel
theorem dX11_sort_12 : decode cX11_sort 12 = .ok (.getfield 167, 3) := by decide +kernel
theorem dX11_sort_15 : decode cX11_sort 15 = .ok (.istore_n 2, 1) := by decide +kernel
theorem dX11_sort_16 : decode cX11_sort 16 = .ok (.aload_n 0, 1) := by decide +kernel
theorem dX11_sort_17 : decode cX11_sort 17 = .ok (.iload_n 1, 1) := by decide +kernel
theorem dX11_sort_18 : decode cX11_sort 18 = .ok (.putfield 167, 3) := by decide +kernel
theorem dX11_sort_21 : decode cX11_sort 21 = .ok (.iload_n 2, 1) := by decide +kernel
theorem dX11_sort_22 : decode cX11_sort 22 = .ok (.ireturn, 1) := by decide +kernel
theorem dX11_differing_0 : decode cX11_differing 0 = .ok (.iload_n 1, 1) := by decide +kernel
theorem dX11_differing_1 : decode cX11_differing 1 = .ok (.iload_n 2, 1) := by decide +kernel
theorem dX11_differing_2 : decode cX11_differing 2 = .ok (.if_icmp .le 9, 3) := by decide +kernel
theorem dX11_differing_5 : decode cX11_differing 5 = .ok (.iload_n 1, 1) := by decide +kernel
theorem dX11_differing_6 : decode cX11_differing 6 = .ok (.iload_n 2, 1) := by decide +kernel
theorem dX11_differing_7 : decode cX11_differing 7 = .ok (.isub, 1) := by decide +kernel
theorem dX11_differing_8 : decode cX11_differing 8 = .ok (.goto 6, 3) := by decide +kernel
theorem dX11_differing_11 : decode cX11_differing 11 = .ok (.iload_n 2, 1) := by decide +kernel
theorem dX11_differing_12 : decode cX11_differing 12 = .ok (.iload_n 1, 1) := by decide +kernel
theorem dX11_differing_13 : decode cX11_differing 13 = .ok (.isub, 1) := by decide +kernel
theorem dX11_differing_14 : decode cX11_differing 14 = .ok (.istore_n 3, 1) := by decide +kernel
theorem dX11_differing_15 : decode cX11_differing 15 = .ok (.aload_n 0, 1) := by decide +kernel
theorem dX11_differing_16 : decode cX11_differing 16 = .ok (.getfield 167, 3) := by decide +kernel
theorem dX11_differing_19 : decode cX11_differing 19 = .ok (.ifCond .ne 7, 3) := by decide +kernel
theorem dX11_differing_22 : decode cX11_differing 22 = .ok (.iload_n 3, 1) := by decide +kernel
theorem dX11_differing_23 : decode cX11_differing 23 = .ok (.goto 6, 3) := by decide +kernel
theorem dX11_differing_26 : decode cX11_differing 26 = .ok (.iload_n 3, 1) := by decide +kernel
theorem dX11_differing_27 : decode cX11_differing 27 = .ok (.iload_n 3, 1) := by decide +kernel
theorem dX11_differing_28 : decode cX11_differing 28 = .ok (.imul, 1) := by decide +kernel
theorem dX11_differing_29 : decode cX11_differing 29 = .ok (.ireturn, 1) := by decide +kernel
theorem dX11_farOf_0 : decode cX11_farOf 0 = .ok (.iconst 0, 1) := by decide +kernel
theorem dX11_farOf_1 : decode cX11_farOf 1 = .ok (.istore 4, 2) := by decide +kernel
theorem dX11_farOf_3 : decode cX11_farOf 3 = .ok (.iconst 0, 1) := by decide +kernel
theorem dX11_farOf_4 : decode cX11_farOf 4 = .ok (.istore 5, 2) := by decide +kernel
theorem dX11_farOf_6 : decode cX11_farOf 6 = .ok (.iload 5, 2) := by decide +kernel
theorem dX11_farOf_8 : decode cX11_farOf 8 = .ok (.aload_n 0, 1) := by decide +kernel
theorem dX11_farOf_9 : decode cX11_farOf 9 = .ok (.getfield 133, 3) := by decide +kernel
theorem dX11_farOf_12 : decode cX11_farOf 12 = .ok (.if_icmp .ge 45, 3) := by decide +kernel
theorem dX11_farOf_15 : decode cX11_farOf 15 = .ok (.iload 4, 2) := by decide +kernel
theorem dX11_farOf_17 : decode cX11_farOf 17 = .ok (.iload_n 3, 1) := by decide +kernel
theorem dX11_farOf_18 : decode cX11_farOf 18 = .ok (.iload 5, 2) := by decide +kernel
theorem dX11_farOf_20 : decode cX11_farOf 20 = .ok (.invokestatic 146, 3) := by decide +kernel
theorem dX11_farOf_23 : decode cX11_farOf 23 = .ok (.ifCond .eq 24, 3) := by decide +kernel
theorem dX11_farOf_26 : decode cX11_farOf 26 = .ok (.aload_n 0, 1) := by decide +kernel
theorem dX11_farOf_27 : decode cX11_farOf 27 = .ok (.aload_n 0, 1) := by decide +kernel
theorem dX11_farOf_28 : decode cX11_farOf 28 = .ok (.iload 5, 2) := by decide +kernel
theorem dX11_farOf_30 : decode cX11_farOf 30 = .ok (.iload_n 1, 1) := by decide +kernel
theorem dX11_farOf_31 : decode cX11_farOf 31 = .ok (.invokevirtual 158, 3) := by decide +kernel
theorem dX11_farOf_34 : decode cX11_farOf 34 = .ok (.aload_n 0, 1) := by decide +kernel
theorem dX11_farOf_35 : decode cX11_farOf 35 = .ok (.iload 5, 2) := by decide +kernel
theorem dX11_farOf_37 : decode cX11_farOf 37 = .ok (.iload_n 2, 1) := by decide +kernel
theorem dX11_farOf_38 : decode cX11_farOf 38 = .ok (.invokevirtual 158, 3) := by decide +kernel
theorem dX11_farOf_41 : decode cX11_farOf 41 = .ok (.invokevirtual 170, 3) := by decide +kernel
theorem dX11_farOf_44 : decode cX11_farOf 44 = .ok (.goto 4, 3) := by decide +kernel
theorem dX11_farOf_47 : decode cX11_farOf 47 = .ok (.iconst 0, 1) := by decide +kernel
theorem dX11_farOf_48 : decode cX11_farOf 48 = .ok (.iadd, 1) := by decide +kernel
theorem dX11_farOf_49 : decode cX11_farOf 49 = .ok (.istore 4, 2) := by decide +kernel
theorem dX11_farOf_51 : decode cX11_farOf 51 = .ok (.iinc 5 1, 3) := by decide +kernel
theorem dX11_farOf_54 : decode cX11_farOf 54 = .ok (.goto (-48), 3) := by decide +kernel
theorem dX11_farOf_57 : decode cX11_farOf 57 = .ok (.iload 4, 2) := by decide +kernel
theorem dX11_farOf_59 : decode cX11_farOf 59 = .ok (.ireturn, 1) := by decide +kernel
theorem dX11_allFeatures_0 : decode cX11_allFeatures 0 = .ok (.iconst 1, 1) := by decide +kernel
theorem dX11_allFeatures_1 : decode cX11_allFeatures 1 = .ok (.aload_n 0, 1) := by decide +kernel
theorem dX11_allFeatures_2 : decode cX11_allFeatures 2 = .ok (.getfield 133, 3) := by decide +kernel
theorem dX11_allFeatures_5 : decode cX11_allFeatures 5 = .ok (.ishl, 1) := by decide +kernel
theorem dX11_allFeatures_6 : decode cX11_allFeatures 6 = .ok (.iconst 1, 1) := by decide +kernel
theorem dX11_allFeatures_7 : decode cX11_allFeatures 7 = .ok (.isub, 1) := by decide +kernel
theorem dX11_allFeatures_8 : decode cX11_allFeatures 8 = .ok (.ireturn, 1) := by decide +kernel
theorem dX11_far_0 : decode cX11_far 0 = .ok (.aload_n 0, 1) := by decide +kernel
theorem dX11_far_1 : decode cX11_far 1 = .ok (.iload_n 1, 1) := by decide +kernel
theorem dX11_far_2 : decode cX11_far 2 = .ok (.invokevirtual 122, 3) := by decide +kernel
theorem dX11_far_5 : decode cX11_far 5 = .ok (.ifCond .eq 11, 3) := by decide +kernel
theorem dX11_far_8 : decode cX11_far 8 = .ok (.aload_n 0, 1) := by decide +kernel
theorem dX11_far_9 : decode cX11_far 9 = .ok (.iload_n 2, 1) := by decide +kernel
theorem dX11_far_10 : decode cX11_far 10 = .ok (.invokevirtual 122, 3) := by decide +kernel
theorem dX11_far_13 : decode cX11_far 13 = .ok (.ifCond .ne 5, 3) := by decide +kernel
theorem dX11_far_16 : decode cX11_far 16 = .ok (.iconst (-1), 1) := by decide +kernel
theorem dX11_far_17 : decode cX11_far 17 = .ok (.ireturn, 1) := by decide +kernel
theorem dX11_far_18 : decode cX11_far 18 = .ok (.aload_n 0, 1) := by decide +kernel
theorem dX11_far_19 : decode cX11_far 19 = .ok (.getfield 31, 3) := by decide +kernel
theorem dX11_far_22 : decode cX11_far 22 = .ok (.iload_n 1, 1) := by decide +kernel
theorem dX11_far_23 : decode cX11_far 23 = .ok (.baload, 1) := by decide +kernel
theorem dX11_far_24 : decode cX11_far 24 = .ok (.ifCond .ne 12, 3) := by decide +kernel
theorem dX11_far_27 : decode cX11_far 27 = .ok (.aload_n 0, 1) := by decide +kernel
theorem dX11_far_28 : decode cX11_far 28 = .ok (.getfield 31, 3) := by decide +kernel
theorem dX11_far_31 : decode cX11_far 31 = .ok (.iload_n 2, 1) := by decide +kernel
theorem dX11_far_32 : decode cX11_far 32 = .ok (.baload, 1) := by decide +kernel
theorem dX11_far_33 : decode cX11_far 33 = .ok (.ifCond .eq 9, 3) := by decide +kernel
theorem dX11_far_36 : decode cX11_far 36 = .ok (.aload_n 0, 1) := by decide +kernel
theorem dX11_far_37 : decode cX11_far 37 = .ok (.iconst 1, 1) := by decide +kernel
theorem dX11_far_38 : decode cX11_far 38 = .ok (.invokevirtual 99, 3) := by decide +kernel
theorem dX11_far_41 : decode cX11_far 41 = .ok (.ireturn, 1) := by decide +kernel
theorem dX11_far_42 : decode cX11_far 42 = .ok (.aload_n 0, 1) := by decide +kernel
theorem dX11_far_43 : decode cX11_far 43 = .ok (.invokevirtual 155, 3) := by decide +kernel
theorem dX11_far_46 : decode cX11_far 46 = .ok (.aload_n 0, 1) := by decide +kernel
theorem dX11_far_47 : decode cX11_far 47 = .ok (.iconst 1, 1) := by decide +kernel
theorem dX11_far_48 : decode cX11_far 48 = .ok (.iload_n 1, 1) := by decide +kernel
theorem dX11_far_49 : decode cX11_far 49 = .ok (.ishl, 1) := by decide +kernel
theorem dX11_far_50 : decode cX11_far 50 = .ok (.iconst 1, 1) := by decide +kernel
theorem dX11_far_51 : decode cX11_far 51 = .ok (.iload_n 2, 1) := by decide +kernel
theorem dX11_far_52 : decode cX11_far 52 = .ok (.ishl, 1) := by decide +kernel
theorem dX11_far_53 : decode cX11_far 53 = .ok (.aload_n 0, 1) := by decide +kernel
theorem dX11_far_54 : decode cX11_far 54 = .ok (.invokevirtual 173, 3) := by decide +kernel
theorem dX11_far_57 : decode cX11_far 57 = .ok (.invokevirtual 177, 3) := by decide +kernel
theorem dX11_far_60 : decode cX11_far 60 = .ok (.ireturn, 1) := by decide +kernel
theorem dX11_from_0 : decode cX11_from 0 = .ok (.iload_n 2, 1) := by decide +kernel
theorem dX11_from_1 : decode cX11_from 1 = .ok (.invokestatic 161, 3) := by decide +kernel
theorem dX11_from_4 : decode cX11_from 4 = .ok (.ifCond .ne 5, 3) := by decide +kernel
theorem dX11_from_7 : decode cX11_from 7 = .ok (.iconst (-1), 1) := by decide +kernel
theorem dX11_from_8 : decode cX11_from 8 = .ok (.ireturn, 1) := by decide +kernel
theorem dX11_from_9 : decode cX11_from 9 = .ok (.aload_n 0, 1) := by decide +kernel
theorem dX11_from_10 : decode cX11_from 10 = .ok (.iload_n 1, 1) := by decide +kernel
theorem dX11_from_11 : decode cX11_from 11 = .ok (.invokevirtual 152, 3) := by decide +kernel
theorem dX11_from_14 : decode cX11_from 14 = .ok (.istore_n 3, 1) := by decide +kernel
theorem dX11_from_15 : decode cX11_from 15 = .ok (.iload_n 3, 1) := by decide +kernel
theorem dX11_from_16 : decode cX11_from 16 = .ok (.ifCond .ge 5, 3) := by decide +kernel
theorem dX11_from_19 : decode cX11_from 19 = .ok (.iload_n 3, 1) := by decide +kernel
theorem dX11_from_20 : decode cX11_from 20 = .ok (.ireturn, 1) := by decide +kernel
theorem dX11_from_21 : decode cX11_from 21 = .ok (.aload_n 0, 1) := by decide +kernel
theorem dX11_from_22 : decode cX11_from 22 = .ok (.iload_n 2, 1) := by decide +kernel
theorem dX11_from_23 : decode cX11_from 23 = .ok (.iload_n 1, 1) := by decide +kernel
theorem dX11_from_24 : decode cX11_from 24 = .ok (.invokevirtual 164, 3) := by decide +kernel
theorem dX11_from_27 : decode cX11_from 27 = .ok (.istore 4, 2) := by decide +kernel
theorem dX11_from_29 : decode cX11_from 29 = .ok (.iload 4, 2) := by decide +kernel
theorem dX11_from_31 : decode cX11_from 31 = .ok (.ifCond .ne 9, 3) := by decide +kernel
theorem dX11_from_34 : decode cX11_from 34 = .ok (.aload_n 0, 1) := by decide +kernel
theorem dX11_from_35 : decode cX11_from 35 = .ok (.iconst 4, 1) := by decide +kernel
theorem dX11_from_36 : decode cX11_from 36 = .ok (.invokevirtual 99, 3) := by decide +kernel
theorem dX11_from_39 : decode cX11_from 39 = .ok (.ireturn, 1) := by decide +kernel
theorem dX11_from_40 : decode cX11_from 40 = .ok (.aload_n 0, 1) := by decide +kernel
theorem dX11_from_41 : decode cX11_from 41 = .ok (.invokevirtual 155, 3) := by decide +kernel
theorem dX11_from_44 : decode cX11_from 44 = .ok (.aload_n 0, 1) := by decide +kernel
theorem dX11_from_45 : decode cX11_from 45 = .ok (.iconst 1, 1) := by decide +kernel
theorem dX11_from_46 : decode cX11_from 46 = .ok (.iload_n 1, 1) := by decide +kernel
theorem dX11_from_47 : decode cX11_from 47 = .ok (.ishl, 1) := by decide +kernel
theorem dX11_from_48 : decode cX11_from 48 = .ok (.iload 4, 2) := by decide +kernel
theorem dX11_from_50 : decode cX11_from 50 = .ok (.aload_n 0, 1) := by decide +kernel
theorem dX11_from_51 : decode cX11_from 51 = .ok (.invokevirtual 173, 3) := by decide +kernel
theorem dX11_from_54 : decode cX11_from 54 = .ok (.invokevirtual 177, 3) := by decide +kernel
theorem dX11_from_57 : decode cX11_from 57 = .ok (.ireturn, 1) := by decide +kernel
theorem dX11_nearestOf_0 : decode cX11_nearestOf 0 = .ok (.bipush (-9), 2) := by decide +kernel
theorem dX11_nearestOf_2 : decode cX11_nearestOf 2 = .ok (.istore_n 3, 1) := by decide +kernel
theorem dX11_nearestOf_3 : decode cX11_nearestOf 3 = .ok (.iconst 0, 1) := by decide +kernel
theorem dX11_nearestOf_4 : decode cX11_nearestOf 4 = .ok (.istore 4, 2) := by decide +kernel
theorem dX11_nearestOf_6 : decode cX11_nearestOf 6 = .ok (.iconst 0, 1) := by decide +kernel
theorem dX11_nearestOf_7 : decode cX11_nearestOf 7 = .ok (.istore 5, 2) := by decide +kernel
theorem dX11_nearestOf_9 : decode cX11_nearestOf 9 = .ok (.iload 5, 2) := by decide +kernel
theorem dX11_nearestOf_11 : decode cX11_nearestOf 11 = .ok (.bipush 6, 2) := by decide +kernel
theorem dX11_nearestOf_13 : decode cX11_nearestOf 13 = .ok (.if_icmp .ge 53, 3) := by decide +kernel
theorem dX11_nearestOf_16 : decode cX11_nearestOf 16 = .ok (.aload_n 0, 1) := by decide +kernel
theorem dX11_nearestOf_17 : decode cX11_nearestOf 17 = .ok (.iload 5, 2) := by decide +kernel
theorem dX11_nearestOf_19 : decode cX11_nearestOf 19 = .ok (.iload_n 1, 1) := by decide +kernel
theorem dX11_nearestOf_20 : decode cX11_nearestOf 20 = .ok (.invokevirtual 164, 3) := by decide +kernel
theorem dX11_nearestOf_23 : decode cX11_nearestOf 23 = .ok (.istore 6, 2) := by decide +kernel
theorem dX11_nearestOf_25 : decode cX11_nearestOf 25 = .ok (.iload 6, 2) := by decide +kernel
theorem dX11_nearestOf_27 : decode cX11_nearestOf 27 = .ok (.ifCond .eq 33, 3) := by decide +kernel
theorem dX11_nearestOf_30 : decode cX11_nearestOf 30 = .ok (.aload_n 0, 1) := by decide +kernel
theorem dX11_nearestOf_31 : decode cX11_nearestOf 31 = .ok (.iconst 1, 1) := by decide +kernel
theorem dX11_nearestOf_32 : decode cX11_nearestOf 32 = .ok (.iload_n 1, 1) := by decide +kernel
theorem dX11_nearestOf_33 : decode cX11_nearestOf 33 = .ok (.ishl, 1) := by decide +kernel
theorem dX11_nearestOf_34 : decode cX11_nearestOf 34 = .ok (.iload 6, 2) := by decide +kernel
theorem dX11_nearestOf_36 : decode cX11_nearestOf 36 = .ok (.iload_n 2, 1) := by decide +kernel
theorem dX11_nearestOf_37 : decode cX11_nearestOf 37 = .ok (.invokevirtual 177, 3) := by decide +kernel
theorem dX11_nearestOf_40 : decode cX11_nearestOf 40 = .ok (.istore 7, 2) := by decide +kernel
theorem dX11_nearestOf_42 : decode cX11_nearestOf 42 = .ok (.iload_n 3, 1) := by decide +kernel
theorem dX11_nearestOf_43 : decode cX11_nearestOf 43 = .ok (.ifCond .lt 10, 3) := by decide +kernel
theorem dX11_nearestOf_46 : decode cX11_nearestOf 46 = .ok (.iload 7, 2) := by decide +kernel
theorem dX11_nearestOf_48 : decode cX11_nearestOf 48 = .ok (.iload 4, 2) := by decide +kernel
theorem dX11_nearestOf_50 : decode cX11_nearestOf 50 = .ok (.if_icmp .ge 10, 3) := by decide +kernel
theorem dX11_nearestOf_53 : decode cX11_nearestOf 53 = .ok (.iload 5, 2) := by decide +kernel
theorem dX11_nearestOf_55 : decode cX11_nearestOf 55 = .ok (.istore_n 3, 1) := by decide +kernel
theorem dX11_nearestOf_56 : decode cX11_nearestOf 56 = .ok (.iload 7, 2) := by decide +kernel
theorem dX11_nearestOf_58 : decode cX11_nearestOf 58 = .ok (.istore 4, 2) := by decide +kernel
theorem dX11_nearestOf_60 : decode cX11_nearestOf 60 = .ok (.iinc 5 1, 3) := by decide +kernel
theorem dX11_nearestOf_63 : decode cX11_nearestOf 63 = .ok (.goto (-54), 3) := by decide +kernel
theorem dX11_nearestOf_66 : decode cX11_nearestOf 66 = .ok (.iload_n 3, 1) := by decide +kernel
theorem dX11_nearestOf_67 : decode cX11_nearestOf 67 = .ok (.ireturn, 1) := by decide +kernel
theorem dX11_nearest_0 : decode cX11_nearest 0 = .ok (.aload_n 0, 1) := by decide +kernel
theorem dX11_nearest_1 : decode cX11_nearest 1 = .ok (.iload_n 1, 1) := by decide +kernel
theorem dX11_nearest_2 : decode cX11_nearest 2 = .ok (.invokevirtual 152, 3) := by decide +kernel
theorem dX11_nearest_5 : decode cX11_nearest 5 = .ok (.istore_n 2, 1) := by decide +kernel
theorem dX11_nearest_6 : decode cX11_nearest 6 = .ok (.iload_n 2, 1) := by decide +kernel
theorem dX11_nearest_7 : decode cX11_nearest 7 = .ok (.ifCond .ge 5, 3) := by decide +kernel
theorem dX11_nearest_10 : decode cX11_nearest 10 = .ok (.iload_n 2, 1) := by decide +kernel
theorem dX11_nearest_11 : decode cX11_nearest 11 = .ok (.ireturn, 1) := by decide +kernel
theorem dX11_nearest_12 : decode cX11_nearest 12 = .ok (.aload_n 0, 1) := by decide +kernel
theorem dX11_nearest_13 : decode cX11_nearest 13 = .ok (.invokevirtual 155, 3) := by decide +kernel
theorem dX11_nearest_16 : decode cX11_nearest 16 = .ok (.aload_n 0, 1) := by decide +kernel
theorem dX11_nearest_17 : decode cX11_nearest 17 = .ok (.iload_n 1, 1) := by decide +kernel
theorem dX11_nearest_18 : decode cX11_nearest 18 = .ok (.aload_n 0, 1) := by decide +kernel
theorem dX11_nearest_19 : decode cX11_nearest 19 = .ok (.invokevirtual 173, 3) := by decide +kernel
theorem dX11_nearest_22 : decode cX11_nearest 22 = .ok (.invokevirtual 181, 3) := by decide +kernel
theorem dX11_nearest_25 : decode cX11_nearest 25 = .ok (.ireturn, 1) := by decide +kernel
theorem dX11_place_0 : decode cX11_place 0 = .ok (.iload_n 2, 1) := by decide +kernel
theorem dX11_place_1 : decode cX11_place 1 = .ok (.invokestatic 161, 3) := by decide +kernel
theorem dX11_place_4 : decode cX11_place 4 = .ok (.ifCond .ne 5, 3) := by decide +kernel
theorem dX11_place_7 : decode cX11_place 7 = .ok (.iconst (-1), 1) := by decide +kernel
theorem dX11_place_8 : decode cX11_place 8 = .ok (.ireturn, 1) := by decide +kernel
theorem dX11_place_9 : decode cX11_place 9 = .ok (.aload_n 0, 1) := by decide +kernel
theorem dX11_place_10 : decode cX11_place 10 = .ok (.iload_n 1, 1) := by decide +kernel
theorem dX11_place_11 : decode cX11_place 11 = .ok (.invokevirtual 152, 3) := by decide +kernel
theorem dX11_place_14 : decode cX11_place 14 = .ok (.istore_n 3, 1) := by decide +kernel
theorem dX11_place_15 : decode cX11_place 15 = .ok (.iload_n 3, 1) := by decide +kernel
theorem dX11_place_16 : decode cX11_place 16 = .ok (.ifCond .ge 5, 3) := by decide +kernel
theorem dX11_place_19 : decode cX11_place 19 = .ok (.iload_n 3, 1) := by decide +kernel
theorem dX11_place_20 : decode cX11_place 20 = .ok (.ireturn, 1) := by decide +kernel
theorem dX11_place_21 : decode cX11_place 21 = .ok (.aload_n 0, 1) := by decide +kernel
theorem dX11_place_22 : decode cX11_place 22 = .ok (.iload_n 2, 1) := by decide +kernel
theorem dX11_place_23 : decode cX11_place 23 = .ok (.iload_n 1, 1) := by decide +kernel
theorem dX11_place_24 : decode cX11_place 24 = .ok (.invokevirtual 164, 3) := by decide +kernel
theorem dX11_place_27 : decode cX11_place 27 = .ok (.ifCond .ne 9, 3) := by decide +kernel
theorem dX11_place_30 : decode cX11_place 30 = .ok (.aload_n 0, 1) := by decide +kernel
theorem dX11_place_31 : decode cX11_place 31 = .ok (.iconst 4, 1) := by decide +kernel
theorem dX11_place_32 : decode cX11_place 32 = .ok (.invokevirtual 99, 3) := by decide +kernel
theorem dX11_place_35 : decode cX11_place 35 = .ok (.ireturn, 1) := by decide +kernel
theorem dX11_place_36 : decode cX11_place 36 = .ok (.aload_n 0, 1) := by decide +kernel
theorem dX11_place_37 : decode cX11_place 37 = .ok (.invokevirtual 155, 3) := by decide +kernel
theorem dX11_place_40 : decode cX11_place 40 = .ok (.aload_n 0, 1) := by decide +kernel
theorem dX11_place_41 : decode cX11_place 41 = .ok (.iconst 1, 1) := by decide +kernel
theorem dX11_place_42 : decode cX11_place 42 = .ok (.iload_n 1, 1) := by decide +kernel
theorem dX11_place_43 : decode cX11_place 43 = .ok (.ishl, 1) := by decide +kernel
theorem dX11_place_44 : decode cX11_place 44 = .ok (.aload_n 0, 1) := by decide +kernel
theorem dX11_place_45 : decode cX11_place 45 = .ok (.iload_n 2, 1) := by decide +kernel
theorem dX11_place_46 : decode cX11_place 46 = .ok (.iload_n 1, 1) := by decide +kernel
theorem dX11_place_47 : decode cX11_place 47 = .ok (.invokevirtual 164, 3) := by decide +kernel
theorem dX11_place_50 : decode cX11_place 50 = .ok (.aload_n 0, 1) := by decide +kernel
theorem dX11_place_51 : decode cX11_place 51 = .ok (.invokevirtual 173, 3) := by decide +kernel
theorem dX11_place_54 : decode cX11_place 54 = .ok (.invokevirtual 177, 3) := by decide +kernel
theorem dX11_place_57 : decode cX11_place 57 = .ok (.istore 4, 2) := by decide +kernel
theorem dX11_place_59 : decode cX11_place 59 = .ok (.iconst 0, 1) := by decide +kernel
theorem dX11_place_60 : decode cX11_place 60 = .ok (.istore 5, 2) := by decide +kernel
theorem dX11_place_62 : decode cX11_place 62 = .ok (.iconst 0, 1) := by decide +kernel
theorem dX11_place_63 : decode cX11_place 63 = .ok (.istore 6, 2) := by decide +kernel
theorem dX11_place_65 : decode cX11_place 65 = .ok (.iload 6, 2) := by decide +kernel
theorem dX11_place_67 : decode cX11_place 67 = .ok (.bipush 6, 2) := by decide +kernel
theorem dX11_place_69 : decode cX11_place 69 = .ok (.if_icmp .ge 77, 3) := by decide +kernel
theorem dX11_place_72 : decode cX11_place 72 = .ok (.aload_n 0, 1) := by decide +kernel
theorem dX11_place_73 : decode cX11_place 73 = .ok (.iload 6, 2) := by decide +kernel
theorem dX11_place_75 : decode cX11_place 75 = .ok (.iload_n 1, 1) := by decide +kernel
theorem dX11_place_76 : decode cX11_place 76 = .ok (.invokevirtual 164, 3) := by decide +kernel
theorem dX11_place_79 : decode cX11_place 79 = .ok (.istore 7, 2) := by decide +kernel
theorem dX11_place_81 : decode cX11_place 81 = .ok (.iload 7, 2) := by decide +kernel
theorem dX11_place_83 : decode cX11_place 83 = .ok (.ifCond .ne 7, 3) := by decide +kernel
theorem dX11_place_86 : decode cX11_place 86 = .ok (.iconst 0, 1) := by decide +kernel
theorem dX11_place_87 : decode cX11_place 87 = .ok (.goto 16, 3) := by decide +kernel
theorem dX11_place_90 : decode cX11_place 90 = .ok (.aload_n 0, 1) := by decide +kernel
theorem dX11_place_91 : decode cX11_place 91 = .ok (.iconst 1, 1) := by decide +kernel
theorem dX11_place_92 : decode cX11_place 92 = .ok (.iload_n 1, 1) := by decide +kernel
theorem dX11_place_93 : decode cX11_place 93 = .ok (.ishl, 1) := by decide +kernel
theorem dX11_place_94 : decode cX11_place 94 = .ok (.iload 7, 2) := by decide +kernel
theorem dX11_place_96 : decode cX11_place 96 = .ok (.aload_n 0, 1) := by decide +kernel
theorem dX11_place_97 : decode cX11_place 97 = .ok (.invokevirtual 173, 3) := by decide +kernel
theorem dX11_place_100 : decode cX11_place 100 = .ok (.invokevirtual 177, 3) := by decide +kernel
theorem dX11_place_103 : decode cX11_place 103 = .ok (.istore 8, 2) := by decide +kernel
theorem dX11_place_105 : decode cX11_place 105 = .ok (.iload 5, 2) := by decide +kernel
theorem dX11_place_107 : decode cX11_place 107 = .ok (.iload 7, 2) := by decide +kernel
theorem dX11_place_109 : decode cX11_place 109 = .ok (.ifCond .eq 27, 3) := by decide +kernel
theorem dX11_place_112 : decode cX11_place 112 = .ok (.iload 8, 2) := by decide +kernel
theorem dX11_place_114 : decode cX11_place 114 = .ok (.iload 4, 2) := by decide +kernel
theorem dX11_place_116 : decode cX11_place 116 = .ok (.if_icmp .lt 16, 3) := by decide +kernel
theorem dX11_place_119 : decode cX11_place 119 = .ok (.iload 8, 2) := by decide +kernel
theorem dX11_place_121 : decode cX11_place 121 = .ok (.iload 4, 2) := by decide +kernel
theorem dX11_place_123 : decode cX11_place 123 = .ok (.if_icmp .ne 13, 3) := by decide +kernel
theorem dX11_place_126 : decode cX11_place 126 = .ok (.iload 6, 2) := by decide +kernel
theorem dX11_place_128 : decode cX11_place 128 = .ok (.iload_n 2, 1) := by decide +kernel
theorem dX11_place_129 : decode cX11_place 129 = .ok (.if_icmp .ge 7, 3) := by decide +kernel
theorem dX11_place_132 : decode cX11_place 132 = .ok (.iconst 1, 1) := by decide +kernel
theorem dX11_place_133 : decode cX11_place 133 = .ok (.goto 4, 3) := by decide +kernel
theorem dX11_place_136 : decode cX11_place 136 = .ok (.iconst 0, 1) := by decide +kernel
theorem dX11_place_137 : decode cX11_place 137 = .ok (.iadd, 1) := by decide +kernel
theorem dX11_place_138 : decode cX11_place 138 = .ok (.istore 5, 2) := by decide +kernel
theorem dX11_place_140 : decode cX11_place 140 = .ok (.iinc 6 1, 3) := by decide +kernel
theorem dX11_place_143 : decode cX11_place 143 = .ok (.goto (-78), 3) := by decide +kernel
theorem dX11_place_146 : decode cX11_place 146 = .ok (.iload 5, 2) := by decide +kernel
theorem dX11_place_148 : decode cX11_place 148 = .ok (.ireturn, 1) := by decide +kernel
theorem dX11_trial_0 : decode cX11_trial 0 = .ok (.iload_n 1, 1) := by decide +kernel
theorem dX11_trial_1 : decode cX11_trial 1 = .ok (.iconst 0, 1) := by decide +kernel
theorem dX11_trial_2 : decode cX11_trial 2 = .ok (.iconst 2, 1) := by decide +kernel
theorem dX11_trial_3 : decode cX11_trial 3 = .ok (.invokestatic 91, 3) := by decide +kernel
theorem dX11_trial_6 : decode cX11_trial 6 = .ok (.ifCond .ne 5, 3) := by decide +kernel
theorem dX11_trial_9 : decode cX11_trial 9 = .ok (.iconst (-1), 1) := by decide +kernel
theorem dX11_trial_10 : decode cX11_trial 10 = .ok (.ireturn, 1) := by decide +kernel
theorem dX11_trial_11 : decode cX11_trial 11 = .ok (.aload_n 0, 1) := by decide +kernel
theorem dX11_trial_12 : decode cX11_trial 12 = .ok (.invokevirtual 155, 3) := by decide +kernel
theorem dX11_trial_15 : decode cX11_trial 15 = .ok (.iconst 0, 1) := by decide +kernel
theorem dX11_trial_16 : decode cX11_trial 16 = .ok (.istore_n 2, 1) := by decide +kernel
theorem dX11_trial_17 : decode cX11_trial 17 = .ok (.iconst 0, 1) := by decide +kernel
theorem dX11_trial_18 : decode cX11_trial 18 = .ok (.istore_n 3, 1) := by decide +kernel
theorem dX11_trial_19 : decode cX11_trial 19 = .ok (.iload_n 3, 1) := by decide +kernel
theorem dX11_trial_20 : decode cX11_trial 20 = .ok (.aload_n 0, 1) := by decide +kernel
theorem dX11_trial_21 : decode cX11_trial 21 = .ok (.getfield 115, 3) := by decide +kernel
theorem dX11_trial_24 : decode cX11_trial 24 = .ok (.if_icmp .ge 75, 3) := by decide +kernel
theorem dX11_trial_27 : decode cX11_trial 27 = .ok (.aload_n 0, 1) := by decide +kernel
theorem dX11_trial_28 : decode cX11_trial 28 = .ok (.getfield 31, 3) := by decide +kernel
theorem dX11_trial_31 : decode cX11_trial 31 = .ok (.iload_n 3, 1) := by decide +kernel
theorem dX11_trial_32 : decode cX11_trial 32 = .ok (.baload, 1) := by decide +kernel
theorem dX11_trial_33 : decode cX11_trial 33 = .ok (.ifCond .ne 60, 3) := by decide +kernel
theorem dX11_trial_36 : decode cX11_trial 36 = .ok (.aload_n 0, 1) := by decide +kernel
theorem dX11_trial_37 : decode cX11_trial 37 = .ok (.getfield 25, 3) := by decide +kernel
theorem dX11_trial_40 : decode cX11_trial 40 = .ok (.iload_n 3, 1) := by decide +kernel
theorem dX11_trial_41 : decode cX11_trial 41 = .ok (.iaload, 1) := by decide +kernel
theorem dX11_trial_42 : decode cX11_trial 42 = .ok (.ifCond .lt 51, 3) := by decide +kernel
theorem dX11_trial_45 : decode cX11_trial 45 = .ok (.aload_n 0, 1) := by decide +kernel
theorem dX11_trial_46 : decode cX11_trial 46 = .ok (.iload_n 3, 1) := by decide +kernel
theorem dX11_trial_47 : decode cX11_trial 47 = .ok (.aload_n 0, 1) := by decide +kernel
theorem dX11_trial_48 : decode cX11_trial 48 = .ok (.invokevirtual 173, 3) := by decide +kernel
theorem dX11_trial_51 : decode cX11_trial 51 = .ok (.invokevirtual 181, 3) := by decide +kernel
theorem dX11_trial_54 : decode cX11_trial 54 = .ok (.istore 4, 2) := by decide +kernel
theorem dX11_trial_56 : decode cX11_trial 56 = .ok (.iload_n 2, 1) := by decide +kernel
theorem dX11_trial_57 : decode cX11_trial 57 = .ok (.iload_n 1, 1) := by decide +kernel
theorem dX11_trial_58 : decode cX11_trial 58 = .ok (.iload 4, 2) := by decide +kernel
theorem dX11_trial_60 : decode cX11_trial 60 = .ok (.ifCond .ge 7, 3) := by decide +kernel
theorem dX11_trial_63 : decode cX11_trial 63 = .ok (.iconst 2, 1) := by decide +kernel
theorem dX11_trial_64 : decode cX11_trial 64 = .ok (.goto 19, 3) := by decide +kernel
theorem dX11_trial_67 : decode cX11_trial 67 = .ok (.iload 4, 2) := by decide +kernel
theorem dX11_trial_69 : decode cX11_trial 69 = .ok (.aload_n 0, 1) := by decide +kernel
theorem dX11_trial_70 : decode cX11_trial 70 = .ok (.getfield 25, 3) := by decide +kernel
theorem dX11_trial_73 : decode cX11_trial 73 = .ok (.iload_n 3, 1) := by decide +kernel
theorem dX11_trial_74 : decode cX11_trial 74 = .ok (.iaload, 1) := by decide +kernel
theorem dX11_trial_75 : decode cX11_trial 75 = .ok (.if_icmp .ne 7, 3) := by decide +kernel
theorem dX11_trial_78 : decode cX11_trial 78 = .ok (.iconst 0, 1) := by decide +kernel
theorem dX11_trial_79 : decode cX11_trial 79 = .ok (.goto 4, 3) := by decide +kernel
theorem dX11_trial_82 : decode cX11_trial 82 = .ok (.iconst 1, 1) := by decide +kernel
theorem dX11_trial_83 : decode cX11_trial 83 = .ok (.if_icmp .ne 7, 3) := by decide +kernel
theorem dX11_trial_86 : decode cX11_trial 86 = .ok (.iconst 1, 1) := by decide +kernel
theorem dX11_trial_87 : decode cX11_trial 87 = .ok (.goto 4, 3) := by decide +kernel
theorem dX11_trial_90 : decode cX11_trial 90 = .ok (.iconst 0, 1) := by decide +kernel
theorem dX11_trial_91 : decode cX11_trial 91 = .ok (.iadd, 1) := by decide +kernel
theorem dX11_trial_92 : decode cX11_trial 92 = .ok (.istore_n 2, 1) := by decide +kernel
theorem dX11_trial_93 : decode cX11_trial 93 = .ok (.iinc 3 1, 3) := by decide +kernel
theorem dX11_trial_96 : decode cX11_trial 96 = .ok (.goto (-77), 3) := by decide +kernel
theorem dX11_trial_99 : decode cX11_trial 99 = .ok (.iload_n 2, 1) := by decide +kernel
theorem dX11_trial_100 : decode cX11_trial 100 = .ok (.ireturn, 1) := by decide +kernel
theorem dX11_taken_0 : decode cX11_taken 0 = .ok (.iload_n 1, 1) := by decide +kernel
theorem dX11_taken_1 : decode cX11_taken 1 = .ok (.invokestatic 161, 3) := by decide +kernel
theorem dX11_taken_4 : decode cX11_taken 4 = .ok (.ifCond .eq 10, 3) := by decide +kernel
theorem dX11_taken_7 : decode cX11_taken 7 = .ok (.iload_n 2, 1) := by decide +kernel
theorem dX11_taken_8 : decode cX11_taken 8 = .ok (.invokestatic 161, 3) := by decide +kernel
theorem dX11_taken_11 : decode cX11_taken 11 = .ok (.ifCond .ne 5, 3) := by decide +kernel
theorem dX11_taken_14 : decode cX11_taken 14 = .ok (.iconst (-1), 1) := by decide +kernel
theorem dX11_taken_15 : decode cX11_taken 15 = .ok (.ireturn, 1) := by decide +kernel
theorem dX11_taken_16 : decode cX11_taken 16 = .ok (.aload_n 0, 1) := by decide +kernel
theorem dX11_taken_17 : decode cX11_taken 17 = .ok (.invokevirtual 155, 3) := by decide +kernel
theorem dX11_taken_20 : decode cX11_taken 20 = .ok (.iconst 0, 1) := by decide +kernel
theorem dX11_taken_21 : decode cX11_taken 21 = .ok (.istore_n 3, 1) := by decide +kernel
theorem dX11_taken_22 : decode cX11_taken 22 = .ok (.iconst 0, 1) := by decide +kernel
theorem dX11_taken_23 : decode cX11_taken 23 = .ok (.istore 4, 2) := by decide +kernel
theorem dX11_taken_25 : decode cX11_taken 25 = .ok (.iload 4, 2) := by decide +kernel
theorem dX11_taken_27 : decode cX11_taken 27 = .ok (.aload_n 0, 1) := by decide +kernel
theorem dX11_taken_28 : decode cX11_taken 28 = .ok (.getfield 115, 3) := by decide +kernel
theorem dX11_taken_31 : decode cX11_taken 31 = .ok (.if_icmp .ge 52, 3) := by decide +kernel
theorem dX11_taken_34 : decode cX11_taken 34 = .ok (.iload_n 3, 1) := by decide +kernel
theorem dX11_taken_35 : decode cX11_taken 35 = .ok (.aload_n 0, 1) := by decide +kernel
theorem dX11_taken_36 : decode cX11_taken 36 = .ok (.getfield 31, 3) := by decide +kernel
theorem dX11_taken_39 : decode cX11_taken 39 = .ok (.iload 4, 2) := by decide +kernel
theorem dX11_taken_41 : decode cX11_taken 41 = .ok (.baload, 1) := by decide +kernel
theorem dX11_taken_42 : decode cX11_taken 42 = .ok (.ifCond .ne 32, 3) := by decide +kernel
theorem dX11_taken_45 : decode cX11_taken 45 = .ok (.aload_n 0, 1) := by decide +kernel
theorem dX11_taken_46 : decode cX11_taken 46 = .ok (.getfield 25, 3) := by decide +kernel
theorem dX11_taken_49 : decode cX11_taken 49 = .ok (.iload 4, 2) := by decide +kernel
theorem dX11_taken_51 : decode cX11_taken 51 = .ok (.iaload, 1) := by decide +kernel
theorem dX11_taken_52 : decode cX11_taken 52 = .ok (.iload_n 1, 1) := by decide +kernel
theorem dX11_taken_53 : decode cX11_taken 53 = .ok (.if_icmp .ne 21, 3) := by decide +kernel
theorem dX11_taken_56 : decode cX11_taken 56 = .ok (.aload_n 0, 1) := by decide +kernel
theorem dX11_taken_57 : decode cX11_taken 57 = .ok (.iload 4, 2) := by decide +kernel
theorem dX11_taken_59 : decode cX11_taken 59 = .ok (.aload_n 0, 1) := by decide +kernel
theorem dX11_taken_60 : decode cX11_taken 60 = .ok (.invokevirtual 173, 3) := by decide +kernel
theorem dX11_taken_63 : decode cX11_taken 63 = .ok (.invokevirtual 181, 3) := by decide +kernel
theorem dX11_taken_66 : decode cX11_taken 66 = .ok (.iload_n 2, 1) := by decide +kernel
theorem dX11_taken_67 : decode cX11_taken 67 = .ok (.if_icmp .ne 7, 3) := by decide +kernel
theorem dX11_taken_70 : decode cX11_taken 70 = .ok (.iconst 1, 1) := by decide +kernel
theorem dX11_taken_71 : decode cX11_taken 71 = .ok (.goto 4, 3) := by decide +kernel
theorem dX11_taken_74 : decode cX11_taken 74 = .ok (.iconst 0, 1) := by decide +kernel
theorem dX11_taken_75 : decode cX11_taken 75 = .ok (.iadd, 1) := by decide +kernel
theorem dX11_taken_76 : decode cX11_taken 76 = .ok (.istore_n 3, 1) := by decide +kernel
theorem dX11_taken_77 : decode cX11_taken 77 = .ok (.iinc 4 1, 3) := by decide +kernel
theorem dX11_taken_80 : decode cX11_taken 80 = .ok (.goto (-55), 3) := by decide +kernel
theorem dX11_taken_83 : decode cX11_taken 83 = .ok (.iload_n 3, 1) := by decide +kernel
theorem dX11_taken_84 : decode cX11_taken 84 = .ok (.ireturn, 1) := by decide +kernel
theorem dX11_impostors_0 : decode cX11_impostors 0 = .ok (.aload_n 0, 1) := by decide +kernel
theorem dX11_impostors_1 : decode cX11_impostors 1 = .ok (.iload_n 1, 1) := by decide +kernel
theorem dX11_impostors_2 : decode cX11_impostors 2 = .ok (.invokevirtual 122, 3) := by decide +kernel
theorem dX11_impostors_5 : decode cX11_impostors 5 = .ok (.ifCond .eq 21, 3) := by decide +kernel
theorem dX11_impostors_8 : decode cX11_impostors 8 = .ok (.iload_n 2, 1) := by decide +kernel
theorem dX11_impostors_9 : decode cX11_impostors 9 = .ok (.invokestatic 161, 3) := by decide +kernel
theorem dX11_impostors_12 : decode cX11_impostors 12 = .ok (.ifCond .eq 14, 3) := by decide +kernel
theorem dX11_impostors_15 : decode cX11_impostors 15 = .ok (.iload_n 3, 1) := by decide +kernel
theorem dX11_impostors_16 : decode cX11_impostors 16 = .ok (.iconst 1, 1) := by decide +kernel
theorem dX11_impostors_17 : decode cX11_impostors 17 = .ok (.sipush 200, 3) := by decide +kernel
theorem dX11_impostors_20 : decode cX11_impostors 20 = .ok (.invokestatic 91, 3) := by decide +kernel
theorem dX11_impostors_23 : decode cX11_impostors 23 = .ok (.ifCond .ne 5, 3) := by decide +kernel
theorem dX11_impostors_26 : decode cX11_impostors 26 = .ok (.iconst (-1), 1) := by decide +kernel
theorem dX11_impostors_27 : decode cX11_impostors 27 = .ok (.ireturn, 1) := by decide +kernel
theorem dX11_impostors_28 : decode cX11_impostors 28 = .ok (.aload_n 0, 1) := by decide +kernel
theorem dX11_impostors_29 : decode cX11_impostors 29 = .ok (.getfield 133, 3) := by decide +kernel
theorem dX11_impostors_32 : decode cX11_impostors 32 = .ok (.ifCond .ne 6, 3) := by decide +kernel
theorem dX11_impostors_35 : decode cX11_impostors 35 = .ok (.bipush (-4), 2) := by decide +kernel
theorem dX11_impostors_37 : decode cX11_impostors 37 = .ok (.ireturn, 1) := by decide +kernel
theorem dX11_impostors_38 : decode cX11_impostors 38 = .ok (.aload_n 0, 1) := by decide +kernel
theorem dX11_impostors_39 : decode cX11_impostors 39 = .ok (.getfield 31, 3) := by decide +kernel
theorem dX11_impostors_42 : decode cX11_impostors 42 = .ok (.iload_n 1, 1) := by decide +kernel
theorem dX11_impostors_43 : decode cX11_impostors 43 = .ok (.baload, 1) := by decide +kernel
theorem dX11_impostors_44 : decode cX11_impostors 44 = .ok (.ifCond .eq 9, 3) := by decide +kernel
theorem dX11_impostors_47 : decode cX11_impostors 47 = .ok (.aload_n 0, 1) := by decide +kernel
theorem dX11_impostors_48 : decode cX11_impostors 48 = .ok (.iconst 1, 1) := by decide +kernel
theorem dX11_impostors_49 : decode cX11_impostors 49 = .ok (.invokevirtual 99, 3) := by decide +kernel
theorem dX11_impostors_52 : decode cX11_impostors 52 = .ok (.ireturn, 1) := by decide +kernel
theorem dX11_impostors_53 : decode cX11_impostors 53 = .ok (.aload_n 0, 1) := by decide +kernel
theorem dX11_impostors_54 : decode cX11_impostors 54 = .ok (.iload_n 2, 1) := by decide +kernel
theorem dX11_impostors_55 : decode cX11_impostors 55 = .ok (.iload_n 1, 1) := by decide +kernel
theorem dX11_impostors_56 : decode cX11_impostors 56 = .ok (.invokevirtual 164, 3) := by decide +kernel
theorem dX11_impostors_59 : decode cX11_impostors 59 = .ok (.ifCond .ne 9, 3) := by decide +kernel
theorem dX11_impostors_62 : decode cX11_impostors 62 = .ok (.aload_n 0, 1) := by decide +kernel
theorem dX11_impostors_63 : decode cX11_impostors 63 = .ok (.iconst 4, 1) := by decide +kernel
theorem dX11_impostors_64 : decode cX11_impostors 64 = .ok (.invokevirtual 99, 3) := by decide +kernel
theorem dX11_impostors_67 : decode cX11_impostors 67 = .ok (.ireturn, 1) := by decide +kernel
theorem dX11_impostors_68 : decode cX11_impostors 68 = .ok (.aload_n 0, 1) := by decide +kernel
theorem dX11_impostors_69 : decode cX11_impostors 69 = .ok (.invokevirtual 155, 3) := by decide +kernel
theorem dX11_impostors_72 : decode cX11_impostors 72 = .ok (.lload 4, 2) := by decide +kernel
theorem dX11_impostors_74 : decode cX11_impostors 74 = .ok (.lstore 6, 2) := by decide +kernel
theorem dX11_impostors_76 : decode cX11_impostors 76 = .ok (.iconst 0, 1) := by decide +kernel
theorem dX11_impostors_77 : decode cX11_impostors 77 = .ok (.istore 8, 2) := by decide +kernel
theorem dX11_impostors_79 : decode cX11_impostors 79 = .ok (.iconst 0, 1) := by decide +kernel
theorem dX11_impostors_80 : decode cX11_impostors 80 = .ok (.istore 9, 2) := by decide +kernel
theorem dX11_impostors_82 : decode cX11_impostors 82 = .ok (.iload 9, 2) := by decide +kernel
theorem dX11_impostors_84 : decode cX11_impostors 84 = .ok (.iload_n 3, 1) := by decide +kernel
theorem dX11_impostors_85 : decode cX11_impostors 85 = .ok (.if_icmp .ge 67, 3) := by decide +kernel
theorem dX11_impostors_88 : decode cX11_impostors 88 = .ok (.lload 6, 2) := by decide +kernel
theorem dX11_impostors_90 : decode cX11_impostors 90 = .ok (.ldc2_w 184, 3) := by decide +kernel
theorem dX11_impostors_93 : decode cX11_impostors 93 = .ok (.lmul, 1) := by decide +kernel
theorem dX11_impostors_94 : decode cX11_impostors 94 = .ok (.ldc2_w 186, 3) := by decide +kernel
theorem dX11_impostors_97 : decode cX11_impostors 97 = .ok (.ladd, 1) := by decide +kernel
theorem dX11_impostors_98 : decode cX11_impostors 98 = .ok (.lstore 6, 2) := by decide +kernel
theorem dX11_impostors_100 : decode cX11_impostors 100 = .ok (.lload 6, 2) := by decide +kernel
theorem dX11_impostors_102 : decode cX11_impostors 102 = .ok (.bipush 16, 2) := by decide +kernel
theorem dX11_impostors_104 : decode cX11_impostors 104 = .ok (.lushr, 1) := by decide +kernel
theorem dX11_impostors_105 : decode cX11_impostors 105 = .ok (.l2i, 1) := by decide +kernel
theorem dX11_impostors_106 : decode cX11_impostors 106 = .ok (.aload_n 0, 1) := by decide +kernel
theorem dX11_impostors_107 : decode cX11_impostors 107 = .ok (.invokevirtual 173, 3) := by decide +kernel
theorem dX11_impostors_110 : decode cX11_impostors 110 = .ok (.iand, 1) := by decide +kernel
theorem dX11_impostors_111 : decode cX11_impostors 111 = .ok (.istore 10, 2) := by decide +kernel
theorem dX11_impostors_113 : decode cX11_impostors 113 = .ok (.iload 8, 2) := by decide +kernel
theorem dX11_impostors_115 : decode cX11_impostors 115 = .ok (.aload_n 0, 1) := by decide +kernel
theorem dX11_impostors_116 : decode cX11_impostors 116 = .ok (.iload_n 1, 1) := by decide +kernel
theorem dX11_impostors_117 : decode cX11_impostors 117 = .ok (.iload 10, 2) := by decide +kernel
theorem dX11_impostors_119 : decode cX11_impostors 119 = .ok (.ifCond .ne 10, 3) := by decide +kernel
theorem dX11_impostors_122 : decode cX11_impostors 122 = .ok (.aload_n 0, 1) := by decide +kernel
theorem dX11_impostors_123 : decode cX11_impostors 123 = .ok (.invokevirtual 173, 3) := by decide +kernel
theorem dX11_impostors_126 : decode cX11_impostors 126 = .ok (.goto 5, 3) := by decide +kernel
theorem dX11_impostors_129 : decode cX11_impostors 129 = .ok (.iload 10, 2) := by decide +kernel
theorem dX11_impostors_131 : decode cX11_impostors 131 = .ok (.invokevirtual 181, 3) := by decide +kernel
theorem dX11_impostors_134 : decode cX11_impostors 134 = .ok (.iload_n 2, 1) := by decide +kernel
theorem dX11_impostors_135 : decode cX11_impostors 135 = .ok (.if_icmp .ne 7, 3) := by decide +kernel
theorem dX11_impostors_138 : decode cX11_impostors 138 = .ok (.iconst 1, 1) := by decide +kernel
theorem dX11_impostors_139 : decode cX11_impostors 139 = .ok (.goto 4, 3) := by decide +kernel
theorem dX11_impostors_142 : decode cX11_impostors 142 = .ok (.iconst 0, 1) := by decide +kernel
theorem dX11_impostors_143 : decode cX11_impostors 143 = .ok (.iadd, 1) := by decide +kernel
theorem dX11_impostors_144 : decode cX11_impostors 144 = .ok (.istore 8, 2) := by decide +kernel
theorem dX11_impostors_146 : decode cX11_impostors 146 = .ok (.iinc 9 1, 3) := by decide +kernel
theorem dX11_impostors_149 : decode cX11_impostors 149 = .ok (.goto (-67), 3) := by decide +kernel
theorem dX11_impostors_152 : decode cX11_impostors 152 = .ok (.iload 8, 2) := by decide +kernel
theorem dX11_impostors_154 : decode cX11_impostors 154 = .ok (.ireturn, 1) := by decide +kernel
theorem dX11_windowFar_0 : decode cX11_windowFar 0 = .ok (.iconst 0, 1) := by decide +kernel
theorem dX11_windowFar_1 : decode cX11_windowFar 1 = .ok (.istore 5, 2) := by decide +kernel
theorem dX11_windowFar_3 : decode cX11_windowFar 3 = .ok (.iconst 0, 1) := by decide +kernel
theorem dX11_windowFar_4 : decode cX11_windowFar 4 = .ok (.istore 6, 2) := by decide +kernel
theorem dX11_windowFar_6 : decode cX11_windowFar 6 = .ok (.iload 6, 2) := by decide +kernel
theorem dX11_windowFar_8 : decode cX11_windowFar 8 = .ok (.aload_n 0, 1) := by decide +kernel
theorem dX11_windowFar_9 : decode cX11_windowFar 9 = .ok (.getfield 133, 3) := by decide +kernel
theorem dX11_windowFar_12 : decode cX11_windowFar 12 = .ok (.if_icmp .ge 76, 3) := by decide +kernel
theorem dX11_windowFar_15 : decode cX11_windowFar 15 = .ok (.aload_n 0, 1) := by decide +kernel
theorem dX11_windowFar_16 : decode cX11_windowFar 16 = .ok (.getfield 56, 3) := by decide +kernel
theorem dX11_windowFar_19 : decode cX11_windowFar 19 = .ok (.iload 6, 2) := by decide +kernel
theorem dX11_windowFar_21 : decode cX11_windowFar 21 = .ok (.iaload, 1) := by decide +kernel
theorem dX11_windowFar_22 : decode cX11_windowFar 22 = .ok (.ifCond .le 60, 3) := by decide +kernel
theorem dX11_windowFar_25 : decode cX11_windowFar 25 = .ok (.iload_n 3, 1) := by decide +kernel
theorem dX11_windowFar_26 : decode cX11_windowFar 26 = .ok (.aload_n 0, 1) := by decide +kernel
theorem dX11_windowFar_27 : decode cX11_windowFar 27 = .ok (.getfield 47, 3) := by decide +kernel
theorem dX11_windowFar_30 : decode cX11_windowFar 30 = .ok (.iload_n 1, 1) := by decide +kernel
theorem dX11_windowFar_31 : decode cX11_windowFar 31 = .ok (.iaload, 1) := by decide +kernel
theorem dX11_windowFar_32 : decode cX11_windowFar 32 = .ok (.if_icmp .ge 7, 3) := by decide +kernel
theorem dX11_windowFar_35 : decode cX11_windowFar 35 = .ok (.iload_n 3, 1) := by decide +kernel
theorem dX11_windowFar_36 : decode cX11_windowFar 36 = .ok (.goto 9, 3) := by decide +kernel
theorem dX11_windowFar_39 : decode cX11_windowFar 39 = .ok (.aload_n 0, 1) := by decide +kernel
theorem dX11_windowFar_40 : decode cX11_windowFar 40 = .ok (.getfield 47, 3) := by decide +kernel
theorem dX11_windowFar_43 : decode cX11_windowFar 43 = .ok (.iload_n 1, 1) := by decide +kernel
theorem dX11_windowFar_44 : decode cX11_windowFar 44 = .ok (.iaload, 1) := by decide +kernel
theorem dX11_windowFar_45 : decode cX11_windowFar 45 = .ok (.iload_n 2, 1) := by decide +kernel
theorem dX11_windowFar_46 : decode cX11_windowFar 46 = .ok (.isub, 1) := by decide +kernel
theorem dX11_windowFar_47 : decode cX11_windowFar 47 = .ok (.istore 7, 2) := by decide +kernel
theorem dX11_windowFar_49 : decode cX11_windowFar 49 = .ok (.iload 5, 2) := by decide +kernel
theorem dX11_windowFar_51 : decode cX11_windowFar 51 = .ok (.aload_n 0, 1) := by decide +kernel
theorem dX11_windowFar_52 : decode cX11_windowFar 52 = .ok (.sipush 1000, 3) := by decide +kernel
theorem dX11_windowFar_55 : decode cX11_windowFar 55 = .ok (.aload_n 0, 1) := by decide +kernel
theorem dX11_windowFar_56 : decode cX11_windowFar 56 = .ok (.iload 6, 2) := by decide +kernel
theorem dX11_windowFar_58 : decode cX11_windowFar 58 = .ok (.iload_n 1, 1) := by decide +kernel
theorem dX11_windowFar_59 : decode cX11_windowFar 59 = .ok (.iload_n 2, 1) := by decide +kernel
theorem dX11_windowFar_60 : decode cX11_windowFar 60 = .ok (.iload_n 3, 1) := by decide +kernel
theorem dX11_windowFar_61 : decode cX11_windowFar 61 = .ok (.invokevirtual 139, 3) := by decide +kernel
theorem dX11_windowFar_64 : decode cX11_windowFar 64 = .ok (.imul, 1) := by decide +kernel
theorem dX11_windowFar_65 : decode cX11_windowFar 65 = .ok (.iload 7, 2) := by decide +kernel
theorem dX11_windowFar_67 : decode cX11_windowFar 67 = .ok (.idiv, 1) := by decide +kernel
theorem dX11_windowFar_68 : decode cX11_windowFar 68 = .ok (.aload_n 0, 1) := by decide +kernel
theorem dX11_windowFar_69 : decode cX11_windowFar 69 = .ok (.iload 6, 2) := by decide +kernel
theorem dX11_windowFar_71 : decode cX11_windowFar 71 = .ok (.iload 4, 2) := by decide +kernel
theorem dX11_windowFar_73 : decode cX11_windowFar 73 = .ok (.invokevirtual 158, 3) := by decide +kernel
theorem dX11_windowFar_76 : decode cX11_windowFar 76 = .ok (.invokevirtual 170, 3) := by decide +kernel
theorem dX11_windowFar_79 : decode cX11_windowFar 79 = .ok (.iadd, 1) := by decide +kernel
theorem dX11_windowFar_80 : decode cX11_windowFar 80 = .ok (.istore 5, 2) := by decide +kernel
theorem dX11_windowFar_82 : decode cX11_windowFar 82 = .ok (.iinc 6 1, 3) := by decide +kernel
theorem dX11_windowFar_85 : decode cX11_windowFar 85 = .ok (.goto (-79), 3) := by decide +kernel
theorem dX11_windowFar_88 : decode cX11_windowFar 88 = .ok (.iload 5, 2) := by decide +kernel
theorem dX11_windowFar_90 : decode cX11_windowFar 90 = .ok (.ireturn, 1) := by decide +kernel
theorem dX11_part_0 : decode cX11_part 0 = .ok (.iload_n 2, 1) := by decide +kernel
theorem dX11_part_1 : decode cX11_part 1 = .ok (.iconst 1, 1) := by decide +kernel
theorem dX11_part_2 : decode cX11_part 2 = .ok (.bipush 60, 2) := by decide +kernel
theorem dX11_part_4 : decode cX11_part 4 = .ok (.invokestatic 91, 3) := by decide +kernel
theorem dX11_part_7 : decode cX11_part 7 = .ok (.ifCond .eq 35, 3) := by decide +kernel
theorem dX11_part_10 : decode cX11_part 10 = .ok (.iload_n 3, 1) := by decide +kernel
theorem dX11_part_11 : decode cX11_part 11 = .ok (.invokestatic 161, 3) := by decide +kernel
theorem dX11_part_14 : decode cX11_part 14 = .ok (.ifCond .eq 28, 3) := by decide +kernel
theorem dX11_part_17 : decode cX11_part 17 = .ok (.iload 4, 2) := by decide +kernel
theorem dX11_part_19 : decode cX11_part 19 = .ok (.invokestatic 161, 3) := by decide +kernel
theorem dX11_part_22 : decode cX11_part 22 = .ok (.ifCond .eq 20, 3) := by decide +kernel
theorem dX11_part_25 : decode cX11_part 25 = .ok (.iload_n 3, 1) := by decide +kernel
theorem dX11_part_26 : decode cX11_part 26 = .ok (.iload 4, 2) := by decide +kernel
theorem dX11_part_28 : decode cX11_part 28 = .ok (.if_icmp .eq 14, 3) := by decide +kernel
theorem dX11_part_31 : decode cX11_part 31 = .ok (.iload 5, 2) := by decide +kernel
theorem dX11_part_33 : decode cX11_part 33 = .ok (.iconst 0, 1) := by decide +kernel
theorem dX11_part_34 : decode cX11_part 34 = .ok (.ldc 188, 2) := by decide +kernel
theorem dX11_part_36 : decode cX11_part 36 = .ok (.invokestatic 91, 3) := by decide +kernel
theorem dX11_part_39 : decode cX11_part 39 = .ok (.ifCond .ne 5, 3) := by decide +kernel
theorem dX11_part_42 : decode cX11_part 42 = .ok (.iconst (-1), 1) := by decide +kernel
theorem dX11_part_43 : decode cX11_part 43 = .ok (.ireturn, 1) := by decide +kernel
theorem dX11_part_44 : decode cX11_part 44 = .ok (.aload_n 0, 1) := by decide +kernel
theorem dX11_part_45 : decode cX11_part 45 = .ok (.iload_n 1, 1) := by decide +kernel
theorem dX11_part_46 : decode cX11_part 46 = .ok (.invokevirtual 152, 3) := by decide +kernel
theorem dX11_part_49 : decode cX11_part 49 = .ok (.istore 6, 2) := by decide +kernel
theorem dX11_part_51 : decode cX11_part 51 = .ok (.iload 6, 2) := by decide +kernel
theorem dX11_part_53 : decode cX11_part 53 = .ok (.ifCond .ge 6, 3) := by decide +kernel
theorem dX11_part_56 : decode cX11_part 56 = .ok (.iload 6, 2) := by decide +kernel
theorem dX11_part_58 : decode cX11_part 58 = .ok (.ireturn, 1) := by decide +kernel
theorem dX11_part_59 : decode cX11_part 59 = .ok (.aload_n 0, 1) := by decide +kernel
theorem dX11_part_60 : decode cX11_part 60 = .ok (.iload_n 3, 1) := by decide +kernel
theorem dX11_part_61 : decode cX11_part 61 = .ok (.iload_n 1, 1) := by decide +kernel
theorem dX11_part_62 : decode cX11_part 62 = .ok (.invokevirtual 164, 3) := by decide +kernel
theorem dX11_part_65 : decode cX11_part 65 = .ok (.istore 7, 2) := by decide +kernel
theorem dX11_part_67 : decode cX11_part 67 = .ok (.aload_n 0, 1) := by decide +kernel
theorem dX11_part_68 : decode cX11_part 68 = .ok (.iload 4, 2) := by decide +kernel
theorem dX11_part_70 : decode cX11_part 70 = .ok (.iload_n 1, 1) := by decide +kernel
theorem dX11_part_71 : decode cX11_part 71 = .ok (.invokevirtual 164, 3) := by decide +kernel
theorem dX11_part_74 : decode cX11_part 74 = .ok (.istore 8, 2) := by decide +kernel
theorem dX11_part_76 : decode cX11_part 76 = .ok (.iload 7, 2) := by decide +kernel
theorem dX11_part_78 : decode cX11_part 78 = .ok (.ifCond .eq 8, 3) := by decide +kernel
theorem dX11_part_81 : decode cX11_part 81 = .ok (.iload 8, 2) := by decide +kernel
theorem dX11_part_83 : decode cX11_part 83 = .ok (.ifCond .ne 9, 3) := by decide +kernel
theorem dX11_part_86 : decode cX11_part 86 = .ok (.aload_n 0, 1) := by decide +kernel
theorem dX11_part_87 : decode cX11_part 87 = .ok (.iconst 4, 1) := by decide +kernel
theorem dX11_part_88 : decode cX11_part 88 = .ok (.invokevirtual 99, 3) := by decide +kernel
theorem dX11_part_91 : decode cX11_part 91 = .ok (.ireturn, 1) := by decide +kernel
theorem dX11_part_92 : decode cX11_part 92 = .ok (.aload_n 0, 1) := by decide +kernel
theorem dX11_part_93 : decode cX11_part 93 = .ok (.invokevirtual 155, 3) := by decide +kernel
theorem dX11_part_96 : decode cX11_part 96 = .ok (.aload_n 0, 1) := by decide +kernel
theorem dX11_part_97 : decode cX11_part 97 = .ok (.aload_n 0, 1) := by decide +kernel
theorem dX11_part_98 : decode cX11_part 98 = .ok (.getfield 47, 3) := by decide +kernel
theorem dX11_part_101 : decode cX11_part 101 = .ok (.iload_n 1, 1) := by decide +kernel
theorem dX11_part_102 : decode cX11_part 102 = .ok (.iaload, 1) := by decide +kernel
theorem dX11_part_103 : decode cX11_part 103 = .ok (.iload_n 2, 1) := by decide +kernel
theorem dX11_part_104 : decode cX11_part 104 = .ok (.iadd, 1) := by decide +kernel
theorem dX11_part_105 : decode cX11_part 105 = .ok (.iconst 1, 1) := by decide +kernel
theorem dX11_part_106 : decode cX11_part 106 = .ok (.isub, 1) := by decide +kernel
theorem dX11_part_107 : decode cX11_part 107 = .ok (.iload_n 2, 1) := by decide +kernel
theorem dX11_part_108 : decode cX11_part 108 = .ok (.idiv, 1) := by decide +kernel
theorem dX11_part_109 : decode cX11_part 109 = .ok (.putfield 189, 3) := by decide +kernel
theorem dX11_part_112 : decode cX11_part 112 = .ok (.aload_n 0, 1) := by decide +kernel
theorem dX11_part_113 : decode cX11_part 113 = .ok (.getfield 74, 3) := by decide +kernel
theorem dX11_part_116 : decode cX11_part 116 = .ok (.aload_n 0, 1) := by decide +kernel
theorem dX11_part_117 : decode cX11_part 117 = .ok (.getfield 189, 3) := by decide +kernel
theorem dX11_part_120 : decode cX11_part 120 = .ok (.lconst 0, 1) := by decide +kernel
theorem dX11_part_121 : decode cX11_part 121 = .ok (.lastore, 1) := by decide +kernel
theorem dX11_part_122 : decode cX11_part 122 = .ok (.aload_n 0, 1) := by decide +kernel
theorem dX11_part_123 : decode cX11_part 123 = .ok (.getfield 78, 3) := by decide +kernel
theorem dX11_part_126 : decode cX11_part 126 = .ok (.aload_n 0, 1) := by decide +kernel
theorem dX11_part_127 : decode cX11_part 127 = .ok (.getfield 189, 3) := by decide +kernel
theorem dX11_part_130 : decode cX11_part 130 = .ok (.lconst 0, 1) := by decide +kernel
theorem dX11_part_131 : decode cX11_part 131 = .ok (.lastore, 1) := by decide +kernel
theorem dX11_part_132 : decode cX11_part 132 = .ok (.aload_n 0, 1) := by decide +kernel
theorem dX11_part_133 : decode cX11_part 133 = .ok (.getfield 189, 3) := by decide +kernel
theorem dX11_part_136 : decode cX11_part 136 = .ok (.iconst 1, 1) := by decide +kernel
theorem dX11_part_137 : decode cX11_part 137 = .ok (.isub, 1) := by decide +kernel
theorem dX11_part_138 : decode cX11_part 138 = .ok (.istore 9, 2) := by decide +kernel
theorem dX11_part_140 : decode cX11_part 140 = .ok (.iload 9, 2) := by decide +kernel
theorem dX11_part_142 : decode cX11_part 142 = .ok (.ifCond .lt 148, 3) := by decide +kernel
theorem dX11_part_145 : decode cX11_part 145 = .ok (.iload 9, 2) := by decide +kernel
theorem dX11_part_147 : decode cX11_part 147 = .ok (.iconst 1, 1) := by decide +kernel
theorem dX11_part_148 : decode cX11_part 148 = .ok (.iadd, 1) := by decide +kernel
