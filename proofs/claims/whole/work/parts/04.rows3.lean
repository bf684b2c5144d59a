theorem dX4_ownSum_120 : decode cX4_ownSum 120 = .ok (.iaload, 1) := by decide +kernel
theorem dX4_ownSum_121 : decode cX4_ownSum 121 = .ok (.bipush 25, 2) := by decide +kernel
theorem dX4_ownSum_123 : decode cX4_ownSum 123 = .ok (.iadd, 1) := by decide +kernel
theorem dX4_ownSum_124 : decode cX4_ownSum 124 = .ok (.istore 4, 2) := by decide +kernel
theorem dX4_ownSum_126 : decode cX4_ownSum 126 = .ok (.iload_n 2, 1) := by decide +kernel
theorem dX4_ownSum_127 : decode cX4_ownSum 127 = .ok (.ifCond .le 82, 3) := by decide +kernel
theorem dX4_ownSum_130 : decode cX4_ownSum 130 = .ok (.iload_n 3, 1) := by decide +kernel
theorem dX4_ownSum_131 : decode cX4_ownSum 131 = .ok (.ifCond .le 78, 3) := by decide +kernel
theorem dX4_ownSum_134 : decode cX4_ownSum 134 = .ok (.aload_n 0, 1) := by decide +kernel
theorem dX4_ownSum_135 : decode cX4_ownSum 135 = .ok (.getfield 30, 3) := by decide +kernel
theorem dX4_ownSum_138 : decode cX4_ownSum 138 = .ok (.sipush 128, 3) := by decide +kernel
theorem dX4_ownSum_141 : decode cX4_ownSum 141 = .ok (.iload_n 2, 1) := by decide +kernel
theorem dX4_ownSum_142 : decode cX4_ownSum 142 = .ok (.iconst 1, 1) := by decide +kernel
theorem dX4_ownSum_143 : decode cX4_ownSum 143 = .ok (.isub, 1) := by decide +kernel
theorem dX4_ownSum_144 : decode cX4_ownSum 144 = .ok (.imul, 1) := by decide +kernel
theorem dX4_ownSum_145 : decode cX4_ownSum 145 = .ok (.aload_n 0, 1) := by decide +kernel
theorem dX4_ownSum_146 : decode cX4_ownSum 146 = .ok (.getfield 17, 3) := by decide +kernel
theorem dX4_ownSum_149 : decode cX4_ownSum 149 = .ok (.bipush 20, 2) := by decide +kernel
theorem dX4_ownSum_151 : decode cX4_ownSum 151 = .ok (.iload_n 1, 1) := by decide +kernel
theorem dX4_ownSum_152 : decode cX4_ownSum 152 = .ok (.imul, 1) := by decide +kernel
theorem dX4_ownSum_153 : decode cX4_ownSum 153 = .ok (.iload_n 3, 1) := by decide +kernel
theorem dX4_ownSum_154 : decode cX4_ownSum 154 = .ok (.iadd, 1) := by decide +kernel
theorem dX4_ownSum_155 : decode cX4_ownSum 155 = .ok (.iconst 1, 1) := by decide +kernel
theorem dX4_ownSum_156 : decode cX4_ownSum 156 = .ok (.isub, 1) := by decide +kernel
theorem dX4_ownSum_157 : decode cX4_ownSum 157 = .ok (.iaload, 1) := by decide +kernel
theorem dX4_ownSum_158 : decode cX4_ownSum 158 = .ok (.iadd, 1) := by decide +kernel
theorem dX4_ownSum_159 : decode cX4_ownSum 159 = .ok (.iaload, 1) := by decide +kernel
theorem dX4_ownSum_160 : decode cX4_ownSum 160 = .ok (.istore 5, 2) := by decide +kernel
theorem dX4_ownSum_162 : decode cX4_ownSum 162 = .ok (.aload_n 0, 1) := by decide +kernel
theorem dX4_ownSum_163 : decode cX4_ownSum 163 = .ok (.getfield 33, 3) := by decide +kernel
theorem dX4_ownSum_166 : decode cX4_ownSum 166 = .ok (.bipush 21, 2) := by decide +kernel
theorem dX4_ownSum_168 : decode cX4_ownSum 168 = .ok (.iload_n 2, 1) := by decide +kernel
theorem dX4_ownSum_169 : decode cX4_ownSum 169 = .ok (.imul, 1) := by decide +kernel
theorem dX4_ownSum_170 : decode cX4_ownSum 170 = .ok (.bipush 21, 2) := by decide +kernel
theorem dX4_ownSum_172 : decode cX4_ownSum 172 = .ok (.isub, 1) := by decide +kernel
theorem dX4_ownSum_173 : decode cX4_ownSum 173 = .ok (.iload_n 3, 1) := by decide +kernel
theorem dX4_ownSum_174 : decode cX4_ownSum 174 = .ok (.iadd, 1) := by decide +kernel
theorem dX4_ownSum_175 : decode cX4_ownSum 175 = .ok (.iconst 1, 1) := by decide +kernel
theorem dX4_ownSum_176 : decode cX4_ownSum 176 = .ok (.isub, 1) := by decide +kernel
theorem dX4_ownSum_177 : decode cX4_ownSum 177 = .ok (.iaload, 1) := by decide +kernel
theorem dX4_ownSum_178 : decode cX4_ownSum 178 = .ok (.iload 5, 2) := by decide +kernel
theorem dX4_ownSum_180 : decode cX4_ownSum 180 = .ok (.ifCond .ge 8, 3) := by decide +kernel
theorem dX4_ownSum_183 : decode cX4_ownSum 183 = .ok (.bipush 60, 2) := by decide +kernel
theorem dX4_ownSum_185 : decode cX4_ownSum 185 = .ok (.goto 5, 3) := by decide +kernel
theorem dX4_ownSum_188 : decode cX4_ownSum 188 = .ok (.iload 5, 2) := by decide +kernel
theorem dX4_ownSum_190 : decode cX4_ownSum 190 = .ok (.iadd, 1) := by decide +kernel
theorem dX4_ownSum_191 : decode cX4_ownSum 191 = .ok (.istore 6, 2) := by decide +kernel
theorem dX4_ownSum_193 : decode cX4_ownSum 193 = .ok (.iload 6, 2) := by decide +kernel
theorem dX4_ownSum_195 : decode cX4_ownSum 195 = .ok (.iload 4, 2) := by decide +kernel
theorem dX4_ownSum_197 : decode cX4_ownSum 197 = .ok (.if_icmp .ge 8, 3) := by decide +kernel
theorem dX4_ownSum_200 : decode cX4_ownSum 200 = .ok (.iload 6, 2) := by decide +kernel
theorem dX4_ownSum_202 : decode cX4_ownSum 202 = .ok (.goto 5, 3) := by decide +kernel
theorem dX4_ownSum_205 : decode cX4_ownSum 205 = .ok (.iload 4, 2) := by decide +kernel
theorem dX4_ownSum_207 : decode cX4_ownSum 207 = .ok (.istore 4, 2) := by decide +kernel
theorem dX4_ownSum_209 : decode cX4_ownSum 209 = .ok (.aload_n 0, 1) := by decide +kernel
theorem dX4_ownSum_210 : decode cX4_ownSum 210 = .ok (.getfield 33, 3) := by decide +kernel
theorem dX4_ownSum_213 : decode cX4_ownSum 213 = .ok (.bipush 21, 2) := by decide +kernel
theorem dX4_ownSum_215 : decode cX4_ownSum 215 = .ok (.iload_n 2, 1) := by decide +kernel
theorem dX4_ownSum_216 : decode cX4_ownSum 216 = .ok (.imul, 1) := by decide +kernel
theorem dX4_ownSum_217 : decode cX4_ownSum 217 = .ok (.iload_n 3, 1) := by decide +kernel
theorem dX4_ownSum_218 : decode cX4_ownSum 218 = .ok (.iadd, 1) := by decide +kernel
theorem dX4_ownSum_219 : decode cX4_ownSum 219 = .ok (.iload 4, 2) := by decide +kernel
theorem dX4_ownSum_221 : decode cX4_ownSum 221 = .ok (.iastore, 1) := by decide +kernel
theorem dX4_ownSum_222 : decode cX4_ownSum 222 = .ok (.iinc 3 1, 3) := by decide +kernel
theorem dX4_ownSum_225 : decode cX4_ownSum 225 = .ok (.goto (-213), 3) := by decide +kernel
theorem dX4_ownSum_228 : decode cX4_ownSum 228 = .ok (.iinc 2 1, 3) := by decide +kernel
theorem dX4_ownSum_231 : decode cX4_ownSum 231 = .ok (.goto (-229), 3) := by decide +kernel
theorem dX4_ownSum_234 : decode cX4_ownSum 234 = .ok (.aload_n 0, 1) := by decide +kernel
theorem dX4_ownSum_235 : decode cX4_ownSum 235 = .ok (.getfield 33, 3) := by decide +kernel
theorem dX4_ownSum_238 : decode cX4_ownSum 238 = .ok (.bipush 21, 2) := by decide +kernel
theorem dX4_ownSum_240 : decode cX4_ownSum 240 = .ok (.aload_n 0, 1) := by decide +kernel
theorem dX4_ownSum_241 : decode cX4_ownSum 241 = .ok (.getfield 48, 3) := by decide +kernel
theorem dX4_ownSum_244 : decode cX4_ownSum 244 = .ok (.imul, 1) := by decide +kernel
theorem dX4_ownSum_245 : decode cX4_ownSum 245 = .ok (.aload_n 0, 1) := by decide +kernel
theorem dX4_ownSum_246 : decode cX4_ownSum 246 = .ok (.getfield 13, 3) := by decide +kernel
theorem dX4_ownSum_249 : decode cX4_ownSum 249 = .ok (.iload_n 1, 1) := by decide +kernel
theorem dX4_ownSum_250 : decode cX4_ownSum 250 = .ok (.iaload, 1) := by decide +kernel
theorem dX4_ownSum_251 : decode cX4_ownSum 251 = .ok (.iadd, 1) := by decide +kernel
theorem dX4_ownSum_252 : decode cX4_ownSum 252 = .ok (.iaload, 1) := by decide +kernel
theorem dX4_ownSum_253 : decode cX4_ownSum 253 = .ok (.ireturn, 1) := by decide +kernel
theorem dX4_sumOf_0 : decode cX4_sumOf 0 = .ok (.aload_n 0, 1) := by decide +kernel
theorem dX4_sumOf_1 : decode cX4_sumOf 1 = .ok (.iload_n 1, 1) := by decide +kernel
theorem dX4_sumOf_2 : decode cX4_sumOf 2 = .ok (.invokevirtual 67, 3) := by decide +kernel
theorem dX4_sumOf_5 : decode cX4_sumOf 5 = .ok (.istore_n 2, 1) := by decide +kernel
theorem dX4_sumOf_6 : decode cX4_sumOf 6 = .ok (.iconst 1, 1) := by decide +kernel
theorem dX4_sumOf_7 : decode cX4_sumOf 7 = .ok (.istore_n 3, 1) := by decide +kernel
theorem dX4_sumOf_8 : decode cX4_sumOf 8 = .ok (.iload_n 3, 1) := by decide +kernel
theorem dX4_sumOf_9 : decode cX4_sumOf 9 = .ok (.aload_n 0, 1) := by decide +kernel
theorem dX4_sumOf_10 : decode cX4_sumOf 10 = .ok (.getfield 51, 3) := by decide +kernel
theorem dX4_sumOf_13 : decode cX4_sumOf 13 = .ok (.if_icmp .gt 48, 3) := by decide +kernel
theorem dX4_sumOf_16 : decode cX4_sumOf 16 = .ok (.aload_n 0, 1) := by decide +kernel
theorem dX4_sumOf_17 : decode cX4_sumOf 17 = .ok (.getfield 7, 3) := by decide +kernel
theorem dX4_sumOf_20 : decode cX4_sumOf 20 = .ok (.iload_n 3, 1) := by decide +kernel
theorem dX4_sumOf_21 : decode cX4_sumOf 21 = .ok (.baload, 1) := by decide +kernel
theorem dX4_sumOf_22 : decode cX4_sumOf 22 = .ok (.ifCond .eq 33, 3) := by decide +kernel
theorem dX4_sumOf_25 : decode cX4_sumOf 25 = .ok (.aload_n 0, 1) := by decide +kernel
theorem dX4_sumOf_26 : decode cX4_sumOf 26 = .ok (.getfield 20, 3) := by decide +kernel
theorem dX4_sumOf_29 : decode cX4_sumOf 29 = .ok (.iload_n 3, 1) := by decide +kernel
theorem dX4_sumOf_30 : decode cX4_sumOf 30 = .ok (.iaload, 1) := by decide +kernel
theorem dX4_sumOf_31 : decode cX4_sumOf 31 = .ok (.iload_n 1, 1) := by decide +kernel
theorem dX4_sumOf_32 : decode cX4_sumOf 32 = .ok (.if_icmp .ne 23, 3) := by decide +kernel
theorem dX4_sumOf_35 : decode cX4_sumOf 35 = .ok (.aload_n 0, 1) := by decide +kernel
theorem dX4_sumOf_36 : decode cX4_sumOf 36 = .ok (.iload_n 3, 1) := by decide +kernel
theorem dX4_sumOf_37 : decode cX4_sumOf 37 = .ok (.invokevirtual 67, 3) := by decide +kernel
theorem dX4_sumOf_40 : decode cX4_sumOf 40 = .ok (.istore 4, 2) := by decide +kernel
theorem dX4_sumOf_42 : decode cX4_sumOf 42 = .ok (.iload 4, 2) := by decide +kernel
theorem dX4_sumOf_44 : decode cX4_sumOf 44 = .ok (.iload_n 2, 1) := by decide +kernel
theorem dX4_sumOf_45 : decode cX4_sumOf 45 = .ok (.if_icmp .ge 8, 3) := by decide +kernel
theorem dX4_sumOf_48 : decode cX4_sumOf 48 = .ok (.iload 4, 2) := by decide +kernel
theorem dX4_sumOf_50 : decode cX4_sumOf 50 = .ok (.goto 4, 3) := by decide +kernel
theorem dX4_sumOf_53 : decode cX4_sumOf 53 = .ok (.iload_n 2, 1) := by decide +kernel
theorem dX4_sumOf_54 : decode cX4_sumOf 54 = .ok (.istore_n 2, 1) := by decide +kernel
theorem dX4_sumOf_55 : decode cX4_sumOf 55 = .ok (.iinc 3 1, 3) := by decide +kernel
theorem dX4_sumOf_58 : decode cX4_sumOf 58 = .ok (.goto (-50), 3) := by decide +kernel
theorem dX4_sumOf_61 : decode cX4_sumOf 61 = .ok (.iload_n 2, 1) := by decide +kernel
theorem dX4_sumOf_62 : decode cX4_sumOf 62 = .ok (.ireturn, 1) := by decide +kernel
theorem dX4_mayBeFound_0 : decode cX4_mayBeFound 0 = .ok (.aload_n 0, 1) := by decide +kernel
theorem dX4_mayBeFound_1 : decode cX4_mayBeFound 1 = .ok (.getfield 7, 3) := by decide +kernel
theorem dX4_mayBeFound_4 : decode cX4_mayBeFound 4 = .ok (.iload_n 1, 1) := by decide +kernel
theorem dX4_mayBeFound_5 : decode cX4_mayBeFound 5 = .ok (.baload, 1) := by decide +kernel
theorem dX4_mayBeFound_6 : decode cX4_mayBeFound 6 = .ok (.ifCond .eq 40, 3) := by decide +kernel
theorem dX4_mayBeFound_9 : decode cX4_mayBeFound 9 = .ok (.aload_n 0, 1) := by decide +kernel
theorem dX4_mayBeFound_10 : decode cX4_mayBeFound 10 = .ok (.getfield 20, 3) := by decide +kernel
theorem dX4_mayBeFound_13 : decode cX4_mayBeFound 13 = .ok (.iload_n 1, 1) := by decide +kernel
theorem dX4_mayBeFound_14 : decode cX4_mayBeFound 14 = .ok (.iaload, 1) := by decide +kernel
theorem dX4_mayBeFound_15 : decode cX4_mayBeFound 15 = .ok (.ifCond .ne 31, 3) := by decide +kernel
theorem dX4_mayBeFound_18 : decode cX4_mayBeFound 18 = .ok (.aload_n 0, 1) := by decide +kernel
theorem dX4_mayBeFound_19 : decode cX4_mayBeFound 19 = .ok (.getfield 26, 3) := by decide +kernel
theorem dX4_mayBeFound_22 : decode cX4_mayBeFound 22 = .ok (.ifCond .lt 20, 3) := by decide +kernel
theorem dX4_mayBeFound_25 : decode cX4_mayBeFound 25 = .ok (.aload_n 0, 1) := by decide +kernel
theorem dX4_mayBeFound_26 : decode cX4_mayBeFound 26 = .ok (.getfield 23, 3) := by decide +kernel
theorem dX4_mayBeFound_29 : decode cX4_mayBeFound 29 = .ok (.iload_n 1, 1) := by decide +kernel
theorem dX4_mayBeFound_30 : decode cX4_mayBeFound 30 = .ok (.iaload, 1) := by decide +kernel
theorem dX4_mayBeFound_31 : decode cX4_mayBeFound 31 = .ok (.aload_n 0, 1) := by decide +kernel
theorem dX4_mayBeFound_32 : decode cX4_mayBeFound 32 = .ok (.getfield 26, 3) := by decide +kernel
theorem dX4_mayBeFound_35 : decode cX4_mayBeFound 35 = .ok (.ishr, 1) := by decide +kernel
theorem dX4_mayBeFound_36 : decode cX4_mayBeFound 36 = .ok (.iconst 1, 1) := by decide +kernel
theorem dX4_mayBeFound_37 : decode cX4_mayBeFound 37 = .ok (.iand, 1) := by decide +kernel
theorem dX4_mayBeFound_38 : decode cX4_mayBeFound 38 = .ok (.iconst 1, 1) := by decide +kernel
theorem dX4_mayBeFound_39 : decode cX4_mayBeFound 39 = .ok (.if_icmp .ne 7, 3) := by decide +kernel
theorem dX4_mayBeFound_42 : decode cX4_mayBeFound 42 = .ok (.iconst 1, 1) := by decide +kernel
theorem dX4_mayBeFound_43 : decode cX4_mayBeFound 43 = .ok (.goto 4, 3) := by decide +kernel
theorem dX4_mayBeFound_46 : decode cX4_mayBeFound 46 = .ok (.iconst 0, 1) := by decide +kernel
theorem dX4_mayBeFound_47 : decode cX4_mayBeFound 47 = .ok (.ireturn, 1) := by decide +kernel
theorem dX4_find_0 : decode cX4_find 0 = .ok (.iload_n 1, 1) := by decide +kernel
theorem dX4_find_1 : decode cX4_find 1 = .ok (.iconst 1, 1) := by decide +kernel
theorem dX4_find_2 : decode cX4_find 2 = .ok (.sipush 1000, 3) := by decide +kernel
theorem dX4_find_5 : decode cX4_find 5 = .ok (.invokestatic 54, 3) := by decide +kernel
theorem dX4_find_8 : decode cX4_find 8 = .ok (.ifCond .ne 6, 3) := by decide +kernel
theorem dX4_find_11 : decode cX4_find 11 = .ok (.bipush (-2), 2) := by decide +kernel
theorem dX4_find_13 : decode cX4_find 13 = .ok (.ireturn, 1) := by decide +kernel
theorem dX4_find_14 : decode cX4_find 14 = .ok (.aload_n 0, 1) := by decide +kernel
theorem dX4_find_15 : decode cX4_find 15 = .ok (.iconst 0, 1) := by decide +kernel
theorem dX4_find_16 : decode cX4_find 16 = .ok (.putfield 71, 3) := by decide +kernel
theorem dX4_find_19 : decode cX4_find 19 = .ok (.iconst 1, 1) := by decide +kernel
theorem dX4_find_20 : decode cX4_find 20 = .ok (.istore_n 2, 1) := by decide +kernel
theorem dX4_find_21 : decode cX4_find 21 = .ok (.iload_n 2, 1) := by decide +kernel
theorem dX4_find_22 : decode cX4_find 22 = .ok (.aload_n 0, 1) := by decide +kernel
theorem dX4_find_23 : decode cX4_find 23 = .ok (.getfield 51, 3) := by decide +kernel
theorem dX4_find_26 : decode cX4_find 26 = .ok (.if_icmp .gt 33, 3) := by decide +kernel
theorem dX4_find_29 : decode cX4_find 29 = .ok (.aload_n 0, 1) := by decide +kernel
theorem dX4_find_30 : decode cX4_find 30 = .ok (.getfield 42, 3) := by decide +kernel
theorem dX4_find_33 : decode cX4_find 33 = .ok (.iload_n 2, 1) := by decide +kernel
theorem dX4_find_34 : decode cX4_find 34 = .ok (.aload_n 0, 1) := by decide +kernel
theorem dX4_find_35 : decode cX4_find 35 = .ok (.iload_n 2, 1) := by decide +kernel
theorem dX4_find_36 : decode cX4_find 36 = .ok (.invokevirtual 74, 3) := by decide +kernel
theorem dX4_find_39 : decode cX4_find 39 = .ok (.ifCond .eq 11, 3) := by decide +kernel
theorem dX4_find_42 : decode cX4_find 42 = .ok (.aload_n 0, 1) := by decide +kernel
theorem dX4_find_43 : decode cX4_find 43 = .ok (.iload_n 2, 1) := by decide +kernel
theorem dX4_find_44 : decode cX4_find 44 = .ok (.invokevirtual 77, 3) := by decide +kernel
theorem dX4_find_47 : decode cX4_find 47 = .ok (.goto 5, 3) := by decide +kernel
theorem dX4_find_50 : decode cX4_find 50 = .ok (.ldc 66, 2) := by decide +kernel
theorem dX4_find_52 : decode cX4_find 52 = .ok (.iastore, 1) := by decide +kernel
theorem dX4_find_53 : decode cX4_find 53 = .ok (.iinc 2 1, 3) := by decide +kernel
theorem dX4_find_56 : decode cX4_find 56 = .ok (.goto (-35), 3) := by decide +kernel
theorem dX4_find_59 : decode cX4_find 59 = .ok (.iconst 0, 1) := by decide +kernel
theorem dX4_find_60 : decode cX4_find 60 = .ok (.istore_n 2, 1) := by decide +kernel
theorem dX4_find_61 : decode cX4_find 61 = .ok (.iconst (-1), 1) := by decide +kernel
theorem dX4_find_62 : decode cX4_find 62 = .ok (.istore_n 3, 1) := by decide +kernel
theorem dX4_find_63 : decode cX4_find 63 = .ok (.iconst 1, 1) := by decide +kernel
theorem dX4_find_64 : decode cX4_find 64 = .ok (.istore 4, 2) := by decide +kernel
theorem dX4_find_66 : decode cX4_find 66 = .ok (.iload 4, 2) := by decide +kernel
theorem dX4_find_68 : decode cX4_find 68 = .ok (.ifCond .eq 158, 3) := by decide +kernel
theorem dX4_find_71 : decode cX4_find 71 = .ok (.aload_n 0, 1) := by decide +kernel
theorem dX4_find_72 : decode cX4_find 72 = .ok (.getfield 71, 3) := by decide +kernel
theorem dX4_find_75 : decode cX4_find 75 = .ok (.iload_n 1, 1) := by decide +kernel
theorem dX4_find_76 : decode cX4_find 76 = .ok (.if_icmp .ge 150, 3) := by decide +kernel
theorem dX4_find_79 : decode cX4_find 79 = .ok (.iconst 0, 1) := by decide +kernel
theorem dX4_find_80 : decode cX4_find 80 = .ok (.istore 5, 2) := by decide +kernel
theorem dX4_find_82 : decode cX4_find 82 = .ok (.sipush 401, 3) := by decide +kernel
theorem dX4_find_85 : decode cX4_find 85 = .ok (.istore 6, 2) := by decide +kernel
theorem dX4_find_87 : decode cX4_find 87 = .ok (.iconst 1, 1) := by decide +kernel
theorem dX4_find_88 : decode cX4_find 88 = .ok (.istore 7, 2) := by decide +kernel
theorem dX4_find_90 : decode cX4_find 90 = .ok (.iload 7, 2) := by decide +kernel
theorem dX4_find_92 : decode cX4_find 92 = .ok (.aload_n 0, 1) := by decide +kernel
theorem dX4_find_93 : decode cX4_find 93 = .ok (.getfield 51, 3) := by decide +kernel
theorem dX4_find_96 : decode cX4_find 96 = .ok (.if_icmp .gt 72, 3) := by decide +kernel
theorem dX4_find_99 : decode cX4_find 99 = .ok (.aload_n 0, 1) := by decide +kernel
theorem dX4_find_100 : decode cX4_find 100 = .ok (.iload 7, 2) := by decide +kernel
theorem dX4_find_102 : decode cX4_find 102 = .ok (.invokevirtual 74, 3) := by decide +kernel
theorem dX4_find_105 : decode cX4_find 105 = .ok (.ifCond .eq 57, 3) := by decide +kernel
theorem dX4_find_108 : decode cX4_find 108 = .ok (.aload_n 0, 1) := by decide +kernel
theorem dX4_find_109 : decode cX4_find 109 = .ok (.getfield 42, 3) := by decide +kernel
theorem dX4_find_112 : decode cX4_find 112 = .ok (.iload 7, 2) := by decide +kernel
theorem dX4_find_114 : decode cX4_find 114 = .ok (.iaload, 1) := by decide +kernel
theorem dX4_find_115 : decode cX4_find 115 = .ok (.istore 8, 2) := by decide +kernel
theorem dX4_find_117 : decode cX4_find 117 = .ok (.iload 8, 2) := by decide +kernel
theorem dX4_find_119 : decode cX4_find 119 = .ok (.iload_n 3, 1) := by decide +kernel
theorem dX4_find_120 : decode cX4_find 120 = .ok (.if_icmp .gt 15, 3) := by decide +kernel
theorem dX4_find_123 : decode cX4_find 123 = .ok (.iload 8, 2) := by decide +kernel
theorem dX4_find_125 : decode cX4_find 125 = .ok (.iload_n 3, 1) := by decide +kernel
theorem dX4_find_126 : decode cX4_find 126 = .ok (.if_icmp .ne 13, 3) := by decide +kernel
theorem dX4_find_129 : decode cX4_find 129 = .ok (.iload 7, 2) := by decide +kernel
theorem dX4_find_131 : decode cX4_find 131 = .ok (.iload_n 2, 1) := by decide +kernel
theorem dX4_find_132 : decode cX4_find 132 = .ok (.if_icmp .le 7, 3) := by decide +kernel
theorem dX4_find_135 : decode cX4_find 135 = .ok (.iconst 1, 1) := by decide +kernel
theorem dX4_find_136 : decode cX4_find 136 = .ok (.goto 4, 3) := by decide +kernel
theorem dX4_find_139 : decode cX4_find 139 = .ok (.iconst 0, 1) := by decide +kernel
theorem dX4_find_140 : decode cX4_find 140 = .ok (.istore 9, 2) := by decide +kernel
theorem dX4_find_142 : decode cX4_find 142 = .ok (.iload 9, 2) := by decide +kernel
theorem dX4_find_144 : decode cX4_find 144 = .ok (.ifCond .eq 18, 3) := by decide +kernel
theorem dX4_find_147 : decode cX4_find 147 = .ok (.iload 8, 2) := by decide +kernel
theorem dX4_find_149 : decode cX4_find 149 = .ok (.iload 6, 2) := by decide +kernel
theorem dX4_find_151 : decode cX4_find 151 = .ok (.if_icmp .ge 11, 3) := by decide +kernel
theorem dX4_find_154 : decode cX4_find 154 = .ok (.iload 7, 2) := by decide +kernel
theorem dX4_find_156 : decode cX4_find 156 = .ok (.istore 5, 2) := by decide +kernel
theorem dX4_find_158 : decode cX4_find 158 = .ok (.iload 8, 2) := by decide +kernel
theorem dX4_find_160 : decode cX4_find 160 = .ok (.istore 6, 2) := by decide +kernel
theorem dX4_find_162 : decode cX4_find 162 = .ok (.iinc 7 1, 3) := by decide +kernel
theorem dX4_find_165 : decode cX4_find 165 = .ok (.goto (-75), 3) := by decide +kernel
theorem dX4_find_168 : decode cX4_find 168 = .ok (.iload 5, 2) := by decide +kernel
theorem dX4_find_170 : decode cX4_find 170 = .ok (.ifCond .le 7, 3) := by decide +kernel
theorem dX4_find_173 : decode cX4_find 173 = .ok (.iconst 1, 1) := by decide +kernel
theorem dX4_find_174 : decode cX4_find 174 = .ok (.goto 4, 3) := by decide +kernel
theorem dX4_find_177 : decode cX4_find 177 = .ok (.iconst 0, 1) := by decide +kernel
theorem dX4_find_178 : decode cX4_find 178 = .ok (.istore 4, 2) := by decide +kernel
theorem dX4_find_180 : decode cX4_find 180 = .ok (.iload 4, 2) := by decide +kernel
theorem dX4_find_182 : decode cX4_find 182 = .ok (.ifCond .eq 41, 3) := by decide +kernel
theorem dX4_find_185 : decode cX4_find 185 = .ok (.aload_n 0, 1) := by decide +kernel
theorem dX4_find_186 : decode cX4_find 186 = .ok (.getfield 36, 3) := by decide +kernel
theorem dX4_find_189 : decode cX4_find 189 = .ok (.aload_n 0, 1) := by decide +kernel
theorem dX4_find_190 : decode cX4_find 190 = .ok (.getfield 71, 3) := by decide +kernel
theorem dX4_find_193 : decode cX4_find 193 = .ok (.iload 5, 2) := by decide +kernel
theorem dX4_find_195 : decode cX4_find 195 = .ok (.iastore, 1) := by decide +kernel
theorem dX4_find_196 : decode cX4_find 196 = .ok (.aload_n 0, 1) := by decide +kernel
theorem dX4_find_197 : decode cX4_find 197 = .ok (.getfield 39, 3) := by decide +kernel
theorem dX4_find_200 : decode cX4_find 200 = .ok (.aload_n 0, 1) := by decide +kernel
theorem dX4_find_201 : decode cX4_find 201 = .ok (.getfield 71, 3) := by decide +kernel
theorem dX4_find_204 : decode cX4_find 204 = .ok (.iload 6, 2) := by decide +kernel
theorem dX4_find_206 : decode cX4_find 206 = .ok (.iastore, 1) := by decide +kernel
theorem dX4_find_207 : decode cX4_find 207 = .ok (.aload_n 0, 1) := by decide +kernel
theorem dX4_find_208 : decode cX4_find 208 = .ok (.dup, 1) := by decide +kernel
theorem dX4_find_209 : decode cX4_find 209 = .ok (.getfield 71, 3) := by decide +kernel
theorem dX4_find_212 : decode cX4_find 212 = .ok (.iconst 1, 1) := by decide +kernel
theorem dX4_find_213 : decode cX4_find 213 = .ok (.iadd, 1) := by decide +kernel
theorem dX4_find_214 : decode cX4_find 214 = .ok (.putfield 71, 3) := by decide +kernel
theorem dX4_find_217 : decode cX4_find 217 = .ok (.iload 5, 2) := by decide +kernel
theorem dX4_find_219 : decode cX4_find 219 = .ok (.istore_n 2, 1) := by decide +kernel
theorem dX4_find_220 : decode cX4_find 220 = .ok (.iload 6, 2) := by decide +kernel
theorem dX4_find_222 : decode cX4_find 222 = .ok (.istore_n 3, 1) := by decide +kernel
theorem dX4_find_223 : decode cX4_find 223 = .ok (.goto (-157), 3) := by decide +kernel
theorem dX4_find_226 : decode cX4_find 226 = .ok (.aload_n 0, 1) := by decide +kernel
theorem dX4_find_227 : decode cX4_find 227 = .ok (.getfield 71, 3) := by decide +kernel
theorem dX4_find_230 : decode cX4_find 230 = .ok (.ireturn, 1) := by decide +kernel
theorem dX4_word_0 : decode cX4_word 0 = .ok (.iload_n 1, 1) := by decide +kernel
theorem dX4_word_1 : decode cX4_word 1 = .ok (.iconst 0, 1) := by decide +kernel
theorem dX4_word_2 : decode cX4_word 2 = .ok (.aload_n 0, 1) := by decide +kernel
theorem dX4_word_3 : decode cX4_word 3 = .ok (.getfield 71, 3) := by decide +kernel
theorem dX4_word_6 : decode cX4_word 6 = .ok (.iconst 1, 1) := by decide +kernel
theorem dX4_word_7 : decode cX4_word 7 = .ok (.isub, 1) := by decide +kernel
theorem dX4_word_8 : decode cX4_word 8 = .ok (.invokestatic 54, 3) := by decide +kernel
theorem dX4_word_11 : decode cX4_word 11 = .ok (.ifCond .eq 12, 3) := by decide +kernel
theorem dX4_word_14 : decode cX4_word 14 = .ok (.aload_n 0, 1) := by decide +kernel
theorem dX4_word_15 : decode cX4_word 15 = .ok (.getfield 36, 3) := by decide +kernel
theorem dX4_word_18 : decode cX4_word 18 = .ok (.iload_n 1, 1) := by decide +kernel
theorem dX4_word_19 : decode cX4_word 19 = .ok (.iaload, 1) := by decide +kernel
theorem dX4_word_20 : decode cX4_word 20 = .ok (.goto 4, 3) := by decide +kernel
theorem dX4_word_23 : decode cX4_word 23 = .ok (.iconst (-1), 1) := by decide +kernel
theorem dX4_word_24 : decode cX4_word 24 = .ok (.ireturn, 1) := by decide +kernel
theorem dX4_sum_0 : decode cX4_sum 0 = .ok (.iload_n 1, 1) := by decide +kernel
theorem dX4_sum_1 : decode cX4_sum 1 = .ok (.iconst 0, 1) := by decide +kernel
theorem dX4_sum_2 : decode cX4_sum 2 = .ok (.aload_n 0, 1) := by decide +kernel
theorem dX4_sum_3 : decode cX4_sum 3 = .ok (.getfield 71, 3) := by decide +kernel
theorem dX4_sum_6 : decode cX4_sum 6 = .ok (.iconst 1, 1) := by decide +kernel
theorem dX4_sum_7 : decode cX4_sum 7 = .ok (.isub, 1) := by decide +kernel
theorem dX4_sum_8 : decode cX4_sum 8 = .ok (.invokestatic 54, 3) := by decide +kernel
theorem dX4_sum_11 : decode cX4_sum 11 = .ok (.ifCond .eq 13, 3) := by decide +kernel
theorem dX4_sum_14 : decode cX4_sum 14 = .ok (.aload_n 0, 1) := by decide +kernel
theorem dX4_sum_15 : decode cX4_sum 15 = .ok (.getfield 39, 3) := by decide +kernel
theorem dX4_sum_18 : decode cX4_sum 18 = .ok (.iload_n 1, 1) := by decide +kernel
theorem dX4_sum_19 : decode cX4_sum 19 = .ok (.iaload, 1) := by decide +kernel
theorem dX4_sum_20 : decode cX4_sum 20 = .ok (.i2l, 1) := by decide +kernel
theorem dX4_sum_21 : decode cX4_sum 21 = .ok (.goto 6, 3) := by decide +kernel
theorem dX4_sum_24 : decode cX4_sum 24 = .ok (.ldc2_w 80, 3) := by decide +kernel
theorem dX4_sum_27 : decode cX4_sum 27 = .ok (.lreturn, 1) := by decide +kernel
theorem dX4_within_0 : decode cX4_within 0 = .ok (.iload_n 2, 1) := by decide +kernel
theorem dX4_within_1 : decode cX4_within 1 = .ok (.ifCond .eq 13, 3) := by decide +kernel
theorem dX4_within_4 : decode cX4_within 4 = .ok (.aload_n 0, 1) := by decide +kernel
theorem dX4_within_5 : decode cX4_within 5 = .ok (.iload_n 2, 1) := by decide +kernel
theorem dX4_within_6 : decode cX4_within 6 = .ok (.invokevirtual 58, 3) := by decide +kernel
theorem dX4_within_9 : decode cX4_within 9 = .ok (.ifCond .ne 5, 3) := by decide +kernel
theorem dX4_within_12 : decode cX4_within 12 = .ok (.iconst (-1), 1) := by decide +kernel
theorem dX4_within_13 : decode cX4_within 13 = .ok (.ireturn, 1) := by decide +kernel
theorem dX4_within_14 : decode cX4_within 14 = .ok (.iload_n 1, 1) := by decide +kernel
theorem dX4_within_15 : decode cX4_within 15 = .ok (.iload_n 2, 1) := by decide +kernel
theorem dX4_within_16 : decode cX4_within 16 = .ok (.ifCond .ne 7, 3) := by decide +kernel
theorem dX4_within_19 : decode cX4_within 19 = .ok (.iconst (-1), 1) := by decide +kernel
theorem dX4_within_20 : decode cX4_within 20 = .ok (.goto 4, 3) := by decide +kernel
theorem dX4_within_23 : decode cX4_within 23 = .ok (.iconst 0, 1) := by decide +kernel
theorem dX4_within_24 : decode cX4_within 24 = .ok (.bipush 7, 2) := by decide +kernel
theorem dX4_within_26 : decode cX4_within 26 = .ok (.invokestatic 54, 3) := by decide +kernel
theorem dX4_within_29 : decode cX4_within 29 = .ok (.ifCond .ne 6, 3) := by decide +kernel
theorem dX4_within_32 : decode cX4_within 32 = .ok (.bipush (-2), 2) := by decide +kernel
theorem dX4_within_34 : decode cX4_within 34 = .ok (.ireturn, 1) := by decide +kernel
theorem dX4_within_35 : decode cX4_within 35 = .ok (.iload_n 2, 1) := by decide +kernel
theorem dX4_within_36 : decode cX4_within 36 = .ok (.ifCond .ne 11, 3) := by decide +kernel
theorem dX4_within_39 : decode cX4_within 39 = .ok (.aload_n 0, 1) := by decide +kernel
theorem dX4_within_40 : decode cX4_within 40 = .ok (.iload_n 1, 1) := by decide +kernel
theorem dX4_within_41 : decode cX4_within 41 = .ok (.putfield 26, 3) := by decide +kernel
theorem dX4_within_44 : decode cX4_within 44 = .ok (.goto 19, 3) := by decide +kernel
theorem dX4_within_47 : decode cX4_within 47 = .ok (.aload_n 0, 1) := by decide +kernel
theorem dX4_within_48 : decode cX4_within 48 = .ok (.getfield 23, 3) := by decide +kernel
theorem dX4_within_51 : decode cX4_within 51 = .ok (.iload_n 2, 1) := by decide +kernel
theorem dX4_within_52 : decode cX4_within 52 = .ok (.aload_n 0, 1) := by decide +kernel
theorem dX4_within_53 : decode cX4_within 53 = .ok (.getfield 23, 3) := by decide +kernel
theorem dX4_within_56 : decode cX4_within 56 = .ok (.iload_n 2, 1) := by decide +kernel
theorem dX4_within_57 : decode cX4_within 57 = .ok (.iaload, 1) := by decide +kernel
theorem dX4_within_58 : decode cX4_within 58 = .ok (.iconst 1, 1) := by decide +kernel
theorem dX4_within_59 : decode cX4_within 59 = .ok (.iload_n 1, 1) := by decide +kernel
theorem dX4_within_60 : decode cX4_within 60 = .ok (.ishl, 1) := by decide +kernel
theorem dX4_within_61 : decode cX4_within 61 = .ok (.ior, 1) := by decide +kernel
theorem dX4_within_62 : decode cX4_within 62 = .ok (.iastore, 1) := by decide +kernel
theorem dX4_within_63 : decode cX4_within 63 = .ok (.iconst 0, 1) := by decide +kernel
theorem dX4_within_64 : decode cX4_within 64 = .ok (.istore_n 3, 1) := by decide +kernel
theorem dX4_within_65 : decode cX4_within 65 = .ok (.iconst 1, 1) := by decide +kernel
theorem dX4_within_66 : decode cX4_within 66 = .ok (.istore 4, 2) := by decide +kernel
theorem dX4_within_68 : decode cX4_within 68 = .ok (.iload 4, 2) := by decide +kernel
theorem dX4_within_70 : decode cX4_within 70 = .ok (.aload_n 0, 1) := by decide +kernel
theorem dX4_within_71 : decode cX4_within 71 = .ok (.getfield 51, 3) := by decide +kernel
theorem dX4_within_74 : decode cX4_within 74 = .ok (.if_icmp .gt 46, 3) := by decide +kernel
theorem dX4_within_77 : decode cX4_within 77 = .ok (.aload_n 0, 1) := by decide +kernel
theorem dX4_within_78 : decode cX4_within 78 = .ok (.getfield 7, 3) := by decide +kernel
theorem dX4_within_81 : decode cX4_within 81 = .ok (.iload 4, 2) := by decide +kernel
theorem dX4_within_83 : decode cX4_within 83 = .ok (.baload, 1) := by decide +kernel
theorem dX4_within_84 : decode cX4_within 84 = .ok (.ifCond .eq 28, 3) := by decide +kernel
theorem dX4_within_87 : decode cX4_within 87 = .ok (.iload_n 1, 1) := by decide +kernel
theorem dX4_within_88 : decode cX4_within 88 = .ok (.ifCond .lt 18, 3) := by decide +kernel
theorem dX4_within_91 : decode cX4_within 91 = .ok (.aload_n 0, 1) := by decide +kernel
theorem dX4_within_92 : decode cX4_within 92 = .ok (.getfield 23, 3) := by decide +kernel
theorem dX4_within_95 : decode cX4_within 95 = .ok (.iload 4, 2) := by decide +kernel
theorem dX4_within_97 : decode cX4_within 97 = .ok (.iaload, 1) := by decide +kernel
theorem dX4_within_98 : decode cX4_within 98 = .ok (.iload_n 1, 1) := by decide +kernel
theorem dX4_within_99 : decode cX4_within 99 = .ok (.ishr, 1) := by decide +kernel
theorem dX4_within_100 : decode cX4_within 100 = .ok (.iconst 1, 1) := by decide +kernel
theorem dX4_within_101 : decode cX4_within 101 = .ok (.iand, 1) := by decide +kernel
theorem dX4_within_102 : decode cX4_within 102 = .ok (.iconst 1, 1) := by decide +kernel
theorem dX4_within_103 : decode cX4_within 103 = .ok (.if_icmp .ne 9, 3) := by decide +kernel
theorem dX4_within_106 : decode cX4_within 106 = .ok (.iload_n 3, 1) := by decide +kernel
theorem dX4_within_107 : decode cX4_within 107 = .ok (.iconst 1, 1) := by decide +kernel
theorem dX4_within_108 : decode cX4_within 108 = .ok (.iadd, 1) := by decide +kernel
theorem dX4_within_109 : decode cX4_within 109 = .ok (.goto 4, 3) := by decide +kernel
theorem dX4_within_112 : decode cX4_within 112 = .ok (.iload_n 3, 1) := by decide +kernel
theorem dX4_within_113 : decode cX4_within 113 = .ok (.istore_n 3, 1) := by decide +kernel
theorem dX4_within_114 : decode cX4_within 114 = .ok (.iinc 4 1, 3) := by decide +kernel
theorem dX4_within_117 : decode cX4_within 117 = .ok (.goto (-49), 3) := by decide +kernel
theorem dX4_within_120 : decode cX4_within 120 = .ok (.iload_n 3, 1) := by decide +kernel
theorem dX4_within_121 : decode cX4_within 121 = .ok (.ireturn, 1) := by decide +kernel
theorem dX4_abbreviations_0 : decode cX4_abbreviations 0 = .ok (.iconst 0, 1) := by decide +kernel
theorem dX4_abbreviations_1 : decode cX4_abbreviations 1 = .ok (.istore_n 2, 1) := by decide +kernel
theorem dX4_abbreviations_2 : decode cX4_abbreviations 2 = .ok (.iconst 1, 1) := by decide +kernel
theorem dX4_abbreviations_3 : decode cX4_abbreviations 3 = .ok (.istore_n 3, 1) := by decide +kernel
theorem dX4_abbreviations_4 : decode cX4_abbreviations 4 = .ok (.iload_n 3, 1) := by decide +kernel
theorem dX4_abbreviations_5 : decode cX4_abbreviations 5 = .ok (.aload_n 0, 1) := by decide +kernel
theorem dX4_abbreviations_6 : decode cX4_abbreviations 6 = .ok (.getfield 51, 3) := by decide +kernel
theorem dX4_abbreviations_9 : decode cX4_abbreviations 9 = .ok (.if_icmp .gt 36, 3) := by decide +kernel
theorem dX4_abbreviations_12 : decode cX4_abbreviations 12 = .ok (.aload_n 0, 1) := by decide +kernel
theorem dX4_abbreviations_13 : decode cX4_abbreviations 13 = .ok (.getfield 7, 3) := by decide +kernel
theorem dX4_abbreviations_16 : decode cX4_abbreviations 16 = .ok (.iload_n 3, 1) := by decide +kernel
theorem dX4_abbreviations_17 : decode cX4_abbreviations 17 = .ok (.baload, 1) := by decide +kernel
theorem dX4_abbreviations_18 : decode cX4_abbreviations 18 = .ok (.ifCond .eq 19, 3) := by decide +kernel
theorem dX4_abbreviations_21 : decode cX4_abbreviations 21 = .ok (.aload_n 0, 1) := by decide +kernel
theorem dX4_abbreviations_22 : decode cX4_abbreviations 22 = .ok (.getfield 20, 3) := by decide +kernel
theorem dX4_abbreviations_25 : decode cX4_abbreviations 25 = .ok (.iload_n 3, 1) := by decide +kernel
theorem dX4_abbreviations_26 : decode cX4_abbreviations 26 = .ok (.iaload, 1) := by decide +kernel
theorem dX4_abbreviations_27 : decode cX4_abbreviations 27 = .ok (.iload_n 1, 1) := by decide +kernel
theorem dX4_abbreviations_28 : decode cX4_abbreviations 28 = .ok (.if_icmp .ne 9, 3) := by decide +kernel
theorem dX4_abbreviations_31 : decode cX4_abbreviations 31 = .ok (.iload_n 2, 1) := by decide +kernel
theorem dX4_abbreviations_32 : decode cX4_abbreviations 32 = .ok (.iconst 1, 1) := by decide +kernel
theorem dX4_abbreviations_33 : decode cX4_abbreviations 33 = .ok (.iadd, 1) := by decide +kernel
theorem dX4_abbreviations_34 : decode cX4_abbreviations 34 = .ok (.goto 4, 3) := by decide +kernel
theorem dX4_abbreviations_37 : decode cX4_abbreviations 37 = .ok (.iload_n 2, 1) := by decide +kernel
theorem dX4_abbreviations_38 : decode cX4_abbreviations 38 = .ok (.istore_n 2, 1) := by decide +kernel
theorem dX4_abbreviations_39 : decode cX4_abbreviations 39 = .ok (.iinc 3 1, 3) := by decide +kernel
theorem dX4_abbreviations_42 : decode cX4_abbreviations 42 = .ok (.goto (-38), 3) := by decide +kernel
theorem dX4_abbreviations_45 : decode cX4_abbreviations 45 = .ok (.iload_n 2, 1) := by decide +kernel
theorem dX4_abbreviations_46 : decode cX4_abbreviations 46 = .ok (.ireturn, 1) := by decide +kernel
theorem dX4_abbreviation_0 : decode cX4_abbreviation 0 = .ok (.aload_n 0, 1) := by decide +kernel
theorem dX4_abbreviation_1 : decode cX4_abbreviation 1 = .ok (.iload_n 1, 1) := by decide +kernel
theorem dX4_abbreviation_2 : decode cX4_abbreviation 2 = .ok (.invokevirtual 58, 3) := by decide +kernel
theorem dX4_abbreviation_5 : decode cX4_abbreviation 5 = .ok (.ifCond .eq 11, 3) := by decide +kernel
theorem dX4_abbreviation_8 : decode cX4_abbreviation 8 = .ok (.aload_n 0, 1) := by decide +kernel
theorem dX4_abbreviation_9 : decode cX4_abbreviation 9 = .ok (.iload_n 2, 1) := by decide +kernel
theorem dX4_abbreviation_10 : decode cX4_abbreviation 10 = .ok (.invokevirtual 58, 3) := by decide +kernel
theorem dX4_abbreviation_13 : decode cX4_abbreviation 13 = .ok (.ifCond .ne 5, 3) := by decide +kernel
theorem dX4_abbreviation_16 : decode cX4_abbreviation 16 = .ok (.iconst (-1), 1) := by decide +kernel
theorem dX4_abbreviation_17 : decode cX4_abbreviation 17 = .ok (.ireturn, 1) := by decide +kernel
theorem dX4_abbreviation_18 : decode cX4_abbreviation 18 = .ok (.iload_n 1, 1) := by decide +kernel
theorem dX4_abbreviation_19 : decode cX4_abbreviation 19 = .ok (.iload_n 2, 1) := by decide +kernel
theorem dX4_abbreviation_20 : decode cX4_abbreviation 20 = .ok (.if_icmp .eq 20, 3) := by decide +kernel
theorem dX4_abbreviation_23 : decode cX4_abbreviation 23 = .ok (.aload_n 0, 1) := by decide +kernel
theorem dX4_abbreviation_24 : decode cX4_abbreviation 24 = .ok (.getfield 20, 3) := by decide +kernel
theorem dX4_abbreviation_27 : decode cX4_abbreviation 27 = .ok (.iload_n 2, 1) := by decide +kernel
theorem dX4_abbreviation_28 : decode cX4_abbreviation 28 = .ok (.iaload, 1) := by decide +kernel
theorem dX4_abbreviation_29 : decode cX4_abbreviation 29 = .ok (.ifCond .gt 11, 3) := by decide +kernel
theorem dX4_abbreviation_32 : decode cX4_abbreviation 32 = .ok (.aload_n 0, 1) := by decide +kernel
theorem dX4_abbreviation_33 : decode cX4_abbreviation 33 = .ok (.iload_n 1, 1) := by decide +kernel
theorem dX4_abbreviation_34 : decode cX4_abbreviation 34 = .ok (.invokevirtual 82, 3) := by decide +kernel
theorem dX4_abbreviation_37 : decode cX4_abbreviation 37 = .ok (.ifCond .le 6, 3) := by decide +kernel
theorem dX4_abbreviation_40 : decode cX4_abbreviation 40 = .ok (.bipush (-3), 2) := by decide +kernel
theorem dX4_abbreviation_42 : decode cX4_abbreviation 42 = .ok (.ireturn, 1) := by decide +kernel
