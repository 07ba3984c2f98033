theorem dX12_chances_33 : decode cX12_chances 33 = .ok (.aload_n 0, 1) := by decide +kernel
theorem dX12_chances_34 : decode cX12_chances 34 = .ok (.iload_n 1, 1) := by decide +kernel
theorem dX12_chances_35 : decode cX12_chances 35 = .ok (.iload_n 2, 1) := by decide +kernel
theorem dX12_chances_36 : decode cX12_chances 36 = .ok (.iload_n 3, 1) := by decide +kernel
theorem dX12_chances_37 : decode cX12_chances 37 = .ok (.iload 4, 2) := by decide +kernel
theorem dX12_chances_39 : decode cX12_chances 39 = .ok (.invokevirtual 383, 3) := by decide +kernel
theorem dX12_chancesOf_0 : decode cX12_chancesOf 0 = .ok (.iconst 0, 1) := by decide +kernel
theorem dX12_chancesOf_1 : decode cX12_chancesOf 1 = .ok (.istore 5, 2) := by decide +kernel
theorem dX12_chancesOf_3 : decode cX12_chancesOf 3 = .ok (.iconst 0, 1) := by decide +kernel
theorem dX12_chancesOf_4 : decode cX12_chancesOf 4 = .ok (.istore 6, 2) := by decide +kernel
theorem dX12_chancesOf_6 : decode cX12_chancesOf 6 = .ok (.iload 6, 2) := by decide +kernel
theorem dX12_chancesOf_8 : decode cX12_chancesOf 8 = .ok (.iconst 1, 1) := by decide +kernel
theorem dX12_chancesOf_9 : decode cX12_chancesOf 9 = .ok (.iload_n 2, 1) := by decide +kernel
theorem dX12_chancesOf_10 : decode cX12_chancesOf 10 = .ok (.ishl, 1) := by decide +kernel
theorem dX12_chancesOf_11 : decode cX12_chancesOf 11 = .ok (.if_icmp .ge 112, 3) := by decide +kernel
theorem dX12_chancesOf_14 : decode cX12_chancesOf 14 = .ok (.iload 6, 2) := by decide +kernel
theorem dX12_chancesOf_16 : decode cX12_chancesOf 16 = .ok (.invokestatic 264, 3) := by decide +kernel
theorem dX12_chancesOf_19 : decode cX12_chancesOf 19 = .ok (.iload_n 3, 1) := by decide +kernel
theorem dX12_chancesOf_20 : decode cX12_chancesOf 20 = .ok (.if_icmp .ne 97, 3) := by decide +kernel
theorem dX12_chancesOf_23 : decode cX12_chancesOf 23 = .ok (.aload_n 0, 1) := by decide +kernel
theorem dX12_chancesOf_24 : decode cX12_chancesOf 24 = .ok (.iload_n 1, 1) := by decide +kernel
theorem dX12_chancesOf_25 : decode cX12_chancesOf 25 = .ok (.invokevirtual 312, 3) := by decide +kernel
theorem dX12_chancesOf_28 : decode cX12_chancesOf 28 = .ok (.iconst 0, 1) := by decide +kernel
theorem dX12_chancesOf_29 : decode cX12_chancesOf 29 = .ok (.istore 7, 2) := by decide +kernel
theorem dX12_chancesOf_31 : decode cX12_chancesOf 31 = .ok (.iload 7, 2) := by decide +kernel
theorem dX12_chancesOf_33 : decode cX12_chancesOf 33 = .ok (.iload_n 2, 1) := by decide +kernel
theorem dX12_chancesOf_34 : decode cX12_chancesOf 34 = .ok (.if_icmp .ge 33, 3) := by decide +kernel
theorem dX12_chancesOf_37 : decode cX12_chancesOf 37 = .ok (.iload 6, 2) := by decide +kernel
theorem dX12_chancesOf_39 : decode cX12_chancesOf 39 = .ok (.iload 7, 2) := by decide +kernel
theorem dX12_chancesOf_41 : decode cX12_chancesOf 41 = .ok (.ishr, 1) := by decide +kernel
theorem dX12_chancesOf_42 : decode cX12_chancesOf 42 = .ok (.iconst 1, 1) := by decide +kernel
theorem dX12_chancesOf_43 : decode cX12_chancesOf 43 = .ok (.iand, 1) := by decide +kernel
theorem dX12_chancesOf_44 : decode cX12_chancesOf 44 = .ok (.iconst 1, 1) := by decide +kernel
theorem dX12_chancesOf_45 : decode cX12_chancesOf 45 = .ok (.if_icmp .ne 16, 3) := by decide +kernel
theorem dX12_chancesOf_48 : decode cX12_chancesOf 48 = .ok (.aload_n 0, 1) := by decide +kernel
theorem dX12_chancesOf_49 : decode cX12_chancesOf 49 = .ok (.aload_n 0, 1) := by decide +kernel
theorem dX12_chancesOf_50 : decode cX12_chancesOf 50 = .ok (.getfield 121, 3) := by decide +kernel
theorem dX12_chancesOf_53 : decode cX12_chancesOf 53 = .ok (.iload 7, 2) := by decide +kernel
theorem dX12_chancesOf_55 : decode cX12_chancesOf 55 = .ok (.iaload, 1) := by decide +kernel
theorem dX12_chancesOf_56 : decode cX12_chancesOf 56 = .ok (.iconst 0, 1) := by decide +kernel
theorem dX12_chancesOf_57 : decode cX12_chancesOf 57 = .ok (.iconst (-1), 1) := by decide +kernel
theorem dX12_chancesOf_58 : decode cX12_chancesOf 58 = .ok (.invokevirtual 308, 3) := by decide +kernel
theorem dX12_chancesOf_61 : decode cX12_chancesOf 61 = .ok (.iinc 7 1, 3) := by decide +kernel
theorem dX12_chancesOf_64 : decode cX12_chancesOf 64 = .ok (.goto (-33), 3) := by decide +kernel
theorem dX12_chancesOf_67 : decode cX12_chancesOf 67 = .ok (.iload 4, 2) := by decide +kernel
theorem dX12_chancesOf_69 : decode cX12_chancesOf 69 = .ok (.ifCond .ne 10, 3) := by decide +kernel
theorem dX12_chancesOf_79 : decode cX12_chancesOf 79 = .ok (.aload_n 0, 1) := by decide +kernel
theorem dX12_chancesOf_80 : decode cX12_chancesOf 80 = .ok (.invokevirtual 346, 3) := by decide +kernel
theorem dX12_chancesOf_117 : decode cX12_chancesOf 117 = .ok (.iinc 6 1, 3) := by decide +kernel
theorem dX12_chancesOf_120 : decode cX12_chancesOf 120 = .ok (.goto (-114), 3) := by decide +kernel
theorem dX12_chancesOf_123 : decode cX12_chancesOf 123 = .ok (.iload 5, 2) := by decide +kernel
theorem dX12_chancesOf_125 : decode cX12_chancesOf 125 = .ok (.ireturn, 1) := by decide +kernel
theorem dX12_findSolved_0 : decode cX12_findSolved 0 = .ok (.aload_n 0, 1) := by decide +kernel
theorem dX12_findSolved_1 : decode cX12_findSolved 1 = .ok (.iconst 0, 1) := by decide +kernel
theorem dX12_findSolved_2 : decode cX12_findSolved 2 = .ok (.putfield 324, 3) := by decide +kernel
theorem dX12_findSolved_5 : decode cX12_findSolved 5 = .ok (.aload_n 0, 1) := by decide +kernel
theorem dX12_findSolved_6 : decode cX12_findSolved 6 = .ok (.iconst 1, 1) := by decide +kernel
theorem dX12_findSolved_7 : decode cX12_findSolved 7 = .ok (.putfield 326, 3) := by decide +kernel
theorem dX12_findSolved_10 : decode cX12_findSolved 10 = .ok (.iconst 0, 1) := by decide +kernel
theorem dX12_findSolved_11 : decode cX12_findSolved 11 = .ok (.istore_n 1, 1) := by decide +kernel
theorem dX12_findSolved_12 : decode cX12_findSolved 12 = .ok (.iload_n 1, 1) := by decide +kernel
theorem dX12_findSolved_13 : decode cX12_findSolved 13 = .ok (.bipush 20, 2) := by decide +kernel
theorem dX12_findSolved_15 : decode cX12_findSolved 15 = .ok (.if_icmp .ge 16, 3) := by decide +kernel
theorem dX12_findSolved_18 : decode cX12_findSolved 18 = .ok (.aload_n 0, 1) := by decide +kernel
theorem dX12_findSolved_19 : decode cX12_findSolved 19 = .ok (.getfield 106, 3) := by decide +kernel
theorem dX12_findSolved_22 : decode cX12_findSolved 22 = .ok (.iload_n 1, 1) := by decide +kernel
theorem dX12_findSolved_23 : decode cX12_findSolved 23 = .ok (.iconst 0, 1) := by decide +kernel
theorem dX12_findSolved_24 : decode cX12_findSolved 24 = .ok (.iastore, 1) := by decide +kernel
theorem dX12_findSolved_25 : decode cX12_findSolved 25 = .ok (.iinc 1 1, 3) := by decide +kernel
theorem dX12_findSolved_28 : decode cX12_findSolved 28 = .ok (.goto (-16), 3) := by decide +kernel
theorem dX12_findSolved_31 : decode cX12_findSolved 31 = .ok (.iconst 0, 1) := by decide +kernel
theorem dX12_findSolved_32 : decode cX12_findSolved 32 = .ok (.istore_n 1, 1) := by decide +kernel
theorem dX12_findSolved_33 : decode cX12_findSolved 33 = .ok (.iload_n 1, 1) := by decide +kernel
theorem dX12_findSolved_34 : decode cX12_findSolved 34 = .ok (.aload_n 0, 1) := by decide +kernel
theorem dX12_findSolved_35 : decode cX12_findSolved 35 = .ok (.getfield 305, 3) := by decide +kernel
theorem dX12_findSolved_38 : decode cX12_findSolved 38 = .ok (.if_icmp .ge 224, 3) := by decide +kernel
theorem dX12_findSolved_41 : decode cX12_findSolved 41 = .ok (.aload_n 0, 1) := by decide +kernel
theorem dX12_findSolved_42 : decode cX12_findSolved 42 = .ok (.getfield 91, 3) := by decide +kernel
theorem dX12_findSolved_45 : decode cX12_findSolved 45 = .ok (.iload_n 1, 1) := by decide +kernel
theorem dX12_findSolved_46 : decode cX12_findSolved 46 = .ok (.iaload, 1) := by decide +kernel
theorem dX12_findSolved_47 : decode cX12_findSolved 47 = .ok (.istore_n 2, 1) := by decide +kernel
theorem dX12_findSolved_48 : decode cX12_findSolved 48 = .ok (.aload_n 0, 1) := by decide +kernel
theorem dX12_findSolved_49 : decode cX12_findSolved 49 = .ok (.getfield 94, 3) := by decide +kernel
theorem dX12_findSolved_52 : decode cX12_findSolved 52 = .ok (.iload_n 1, 1) := by decide +kernel
theorem dX12_findSolved_53 : decode cX12_findSolved 53 = .ok (.iaload, 1) := by decide +kernel
theorem dX12_findSolved_54 : decode cX12_findSolved 54 = .ok (.istore_n 3, 1) := by decide +kernel
theorem dX12_findSolved_55 : decode cX12_findSolved 55 = .ok (.iconst 0, 1) := by decide +kernel
theorem dX12_findSolved_56 : decode cX12_findSolved 56 = .ok (.istore 4, 2) := by decide +kernel
theorem dX12_findSolved_58 : decode cX12_findSolved 58 = .ok (.iload 4, 2) := by decide +kernel
theorem dX12_findSolved_60 : decode cX12_findSolved 60 = .ok (.bipush 20, 2) := by decide +kernel
theorem dX12_findSolved_62 : decode cX12_findSolved 62 = .ok (.if_icmp .ge 49, 3) := by decide +kernel
theorem dX12_findSolved_65 : decode cX12_findSolved 65 = .ok (.iload_n 2, 1) := by decide +kernel
theorem dX12_findSolved_66 : decode cX12_findSolved 66 = .ok (.iload 4, 2) := by decide +kernel
theorem dX12_findSolved_68 : decode cX12_findSolved 68 = .ok (.ishr, 1) := by decide +kernel
theorem dX12_findSolved_69 : decode cX12_findSolved 69 = .ok (.iconst 1, 1) := by decide +kernel
theorem dX12_findSolved_70 : decode cX12_findSolved 70 = .ok (.iand, 1) := by decide +kernel
theorem dX12_findSolved_71 : decode cX12_findSolved 71 = .ok (.iconst 1, 1) := by decide +kernel
theorem dX12_findSolved_72 : decode cX12_findSolved 72 = .ok (.if_icmp .ne 33, 3) := by decide +kernel
theorem dX12_findSolved_75 : decode cX12_findSolved 75 = .ok (.aload_n 0, 1) := by decide +kernel
theorem dX12_findSolved_76 : decode cX12_findSolved 76 = .ok (.getfield 106, 3) := by decide +kernel
theorem dX12_findSolved_79 : decode cX12_findSolved 79 = .ok (.iload 4, 2) := by decide +kernel
theorem dX12_findSolved_81 : decode cX12_findSolved 81 = .ok (.iaload, 1) := by decide +kernel
theorem dX12_findSolved_82 : decode cX12_findSolved 82 = .ok (.ifCond .eq 23, 3) := by decide +kernel
theorem dX12_findSolved_85 : decode cX12_findSolved 85 = .ok (.iload_n 2, 1) := by decide +kernel
theorem dX12_findSolved_86 : decode cX12_findSolved 86 = .ok (.aload_n 0, 1) := by decide +kernel
theorem dX12_findSolved_87 : decode cX12_findSolved 87 = .ok (.getfield 106, 3) := by decide +kernel
theorem dX12_findSolved_90 : decode cX12_findSolved 90 = .ok (.iload 4, 2) := by decide +kernel
theorem dX12_findSolved_92 : decode cX12_findSolved 92 = .ok (.iaload, 1) := by decide +kernel
theorem dX12_findSolved_93 : decode cX12_findSolved 93 = .ok (.ixor, 1) := by decide +kernel
theorem dX12_findSolved_94 : decode cX12_findSolved 94 = .ok (.istore_n 2, 1) := by decide +kernel
theorem dX12_findSolved_95 : decode cX12_findSolved 95 = .ok (.iload_n 3, 1) := by decide +kernel
theorem dX12_findSolved_96 : decode cX12_findSolved 96 = .ok (.aload_n 0, 1) := by decide +kernel
theorem dX12_findSolved_97 : decode cX12_findSolved 97 = .ok (.getfield 109, 3) := by decide +kernel
theorem dX12_findSolved_100 : decode cX12_findSolved 100 = .ok (.iload 4, 2) := by decide +kernel
theorem dX12_findSolved_102 : decode cX12_findSolved 102 = .ok (.iaload, 1) := by decide +kernel
theorem dX12_findSolved_103 : decode cX12_findSolved 103 = .ok (.ixor, 1) := by decide +kernel
theorem dX12_findSolved_104 : decode cX12_findSolved 104 = .ok (.istore_n 3, 1) := by decide +kernel
theorem dX12_findSolved_105 : decode cX12_findSolved 105 = .ok (.iinc 4 1, 3) := by decide +kernel
theorem dX12_findSolved_108 : decode cX12_findSolved 108 = .ok (.goto (-50), 3) := by decide +kernel
theorem dX12_findSolved_111 : decode cX12_findSolved 111 = .ok (.iconst (-1), 1) := by decide +kernel
theorem dX12_findSolved_112 : decode cX12_findSolved 112 = .ok (.istore 4, 2) := by decide +kernel
theorem dX12_findSolved_114 : decode cX12_findSolved 114 = .ok (.bipush 19, 2) := by decide +kernel
theorem dX12_findSolved_116 : decode cX12_findSolved 116 = .ok (.istore 5, 2) := by decide +kernel
theorem dX12_findSolved_118 : decode cX12_findSolved 118 = .ok (.iload 5, 2) := by decide +kernel
theorem dX12_findSolved_120 : decode cX12_findSolved 120 = .ok (.ifCond .lt 28, 3) := by decide +kernel
theorem dX12_findSolved_123 : decode cX12_findSolved 123 = .ok (.iload_n 2, 1) := by decide +kernel
theorem dX12_findSolved_124 : decode cX12_findSolved 124 = .ok (.iload 5, 2) := by decide +kernel
theorem dX12_findSolved_126 : decode cX12_findSolved 126 = .ok (.ishr, 1) := by decide +kernel
theorem dX12_findSolved_127 : decode cX12_findSolved 127 = .ok (.iconst 1, 1) := by decide +kernel
theorem dX12_findSolved_128 : decode cX12_findSolved 128 = .ok (.iand, 1) := by decide +kernel
theorem dX12_findSolved_129 : decode cX12_findSolved 129 = .ok (.iconst 1, 1) := by decide +kernel
theorem dX12_findSolved_130 : decode cX12_findSolved 130 = .ok (.if_icmp .ne 8, 3) := by decide +kernel
theorem dX12_findSolved_133 : decode cX12_findSolved 133 = .ok (.iload 5, 2) := by decide +kernel
theorem dX12_findSolved_135 : decode cX12_findSolved 135 = .ok (.goto 5, 3) := by decide +kernel
theorem dX12_findSolved_138 : decode cX12_findSolved 138 = .ok (.iload 4, 2) := by decide +kernel
theorem dX12_findSolved_140 : decode cX12_findSolved 140 = .ok (.istore 4, 2) := by decide +kernel
theorem dX12_findSolved_142 : decode cX12_findSolved 142 = .ok (.iinc 5 (-1), 3) := by decide +kernel
theorem dX12_findSolved_145 : decode cX12_findSolved 145 = .ok (.goto (-27), 3) := by decide +kernel
theorem dX12_findSolved_148 : decode cX12_findSolved 148 = .ok (.iload 4, 2) := by decide +kernel
theorem dX12_findSolved_150 : decode cX12_findSolved 150 = .ok (.ifCond .ge 26, 3) := by decide +kernel
theorem dX12_findSolved_153 : decode cX12_findSolved 153 = .ok (.aload_n 0, 1) := by decide +kernel
theorem dX12_findSolved_154 : decode cX12_findSolved 154 = .ok (.aload_n 0, 1) := by decide +kernel
theorem dX12_findSolved_155 : decode cX12_findSolved 155 = .ok (.getfield 326, 3) := by decide +kernel
theorem dX12_findSolved_158 : decode cX12_findSolved 158 = .ok (.ifCond .eq 11, 3) := by decide +kernel
theorem dX12_findSolved_161 : decode cX12_findSolved 161 = .ok (.iload_n 3, 1) := by decide +kernel
theorem dX12_findSolved_162 : decode cX12_findSolved 162 = .ok (.ifCond .ne 7, 3) := by decide +kernel
theorem dX12_findSolved_165 : decode cX12_findSolved 165 = .ok (.iconst 1, 1) := by decide +kernel
theorem dX12_findSolved_166 : decode cX12_findSolved 166 = .ok (.goto 4, 3) := by decide +kernel
theorem dX12_findSolved_169 : decode cX12_findSolved 169 = .ok (.iconst 0, 1) := by decide +kernel
theorem dX12_findSolved_170 : decode cX12_findSolved 170 = .ok (.putfield 326, 3) := by decide +kernel
theorem dX12_findSolved_173 : decode cX12_findSolved 173 = .ok (.goto 83, 3) := by decide +kernel
theorem dX12_findSolved_176 : decode cX12_findSolved 176 = .ok (.iconst 0, 1) := by decide +kernel
theorem dX12_findSolved_177 : decode cX12_findSolved 177 = .ok (.istore 5, 2) := by decide +kernel
theorem dX12_findSolved_179 : decode cX12_findSolved 179 = .ok (.iload 5, 2) := by decide +kernel
theorem dX12_findSolved_181 : decode cX12_findSolved 181 = .ok (.bipush 20, 2) := by decide +kernel
theorem dX12_findSolved_183 : decode cX12_findSolved 183 = .ok (.if_icmp .ge 47, 3) := by decide +kernel
theorem dX12_findSolved_186 : decode cX12_findSolved 186 = .ok (.aload_n 0, 1) := by decide +kernel
theorem dX12_findSolved_187 : decode cX12_findSolved 187 = .ok (.getfield 106, 3) := by decide +kernel
theorem dX12_findSolved_190 : decode cX12_findSolved 190 = .ok (.iload 5, 2) := by decide +kernel
theorem dX12_findSolved_192 : decode cX12_findSolved 192 = .ok (.iaload, 1) := by decide +kernel
theorem dX12_findSolved_193 : decode cX12_findSolved 193 = .ok (.iload 4, 2) := by decide +kernel
theorem dX12_findSolved_195 : decode cX12_findSolved 195 = .ok (.ishr, 1) := by decide +kernel
theorem dX12_findSolved_196 : decode cX12_findSolved 196 = .ok (.iconst 1, 1) := by decide +kernel
theorem dX12_findSolved_197 : decode cX12_findSolved 197 = .ok (.iand, 1) := by decide +kernel
theorem dX12_findSolved_198 : decode cX12_findSolved 198 = .ok (.iconst 1, 1) := by decide +kernel
theorem dX12_findSolved_199 : decode cX12_findSolved 199 = .ok (.if_icmp .ne 25, 3) := by decide +kernel
theorem dX12_findSolved_202 : decode cX12_findSolved 202 = .ok (.aload_n 0, 1) := by decide +kernel
theorem dX12_findSolved_203 : decode cX12_findSolved 203 = .ok (.getfield 106, 3) := by decide +kernel
theorem dX12_findSolved_206 : decode cX12_findSolved 206 = .ok (.iload 5, 2) := by decide +kernel
theorem dX12_findSolved_208 : decode cX12_findSolved 208 = .ok (.dup2, 1) := by decide +kernel
theorem dX12_findSolved_209 : decode cX12_findSolved 209 = .ok (.iaload, 1) := by decide +kernel
theorem dX12_findSolved_210 : decode cX12_findSolved 210 = .ok (.iload_n 2, 1) := by decide +kernel
theorem dX12_findSolved_211 : decode cX12_findSolved 211 = .ok (.ixor, 1) := by decide +kernel
theorem dX12_findSolved_212 : decode cX12_findSolved 212 = .ok (.iastore, 1) := by decide +kernel
theorem dX12_findSolved_213 : decode cX12_findSolved 213 = .ok (.aload_n 0, 1) := by decide +kernel
theorem dX12_findSolved_214 : decode cX12_findSolved 214 = .ok (.getfield 109, 3) := by decide +kernel
theorem dX12_findSolved_217 : decode cX12_findSolved 217 = .ok (.iload 5, 2) := by decide +kernel
theorem dX12_findSolved_219 : decode cX12_findSolved 219 = .ok (.dup2, 1) := by decide +kernel
theorem dX12_findSolved_220 : decode cX12_findSolved 220 = .ok (.iaload, 1) := by decide +kernel
theorem dX12_findSolved_221 : decode cX12_findSolved 221 = .ok (.iload_n 3, 1) := by decide +kernel
theorem dX12_findSolved_222 : decode cX12_findSolved 222 = .ok (.ixor, 1) := by decide +kernel
theorem dX12_findSolved_223 : decode cX12_findSolved 223 = .ok (.iastore, 1) := by decide +kernel
theorem dX12_findSolved_224 : decode cX12_findSolved 224 = .ok (.iinc 5 1, 3) := by decide +kernel
theorem dX12_findSolved_227 : decode cX12_findSolved 227 = .ok (.goto (-48), 3) := by decide +kernel
theorem dX12_findSolved_230 : decode cX12_findSolved 230 = .ok (.aload_n 0, 1) := by decide +kernel
theorem dX12_findSolved_231 : decode cX12_findSolved 231 = .ok (.getfield 106, 3) := by decide +kernel
theorem dX12_findSolved_234 : decode cX12_findSolved 234 = .ok (.iload 4, 2) := by decide +kernel
theorem dX12_findSolved_236 : decode cX12_findSolved 236 = .ok (.iload_n 2, 1) := by decide +kernel
theorem dX12_findSolved_237 : decode cX12_findSolved 237 = .ok (.iastore, 1) := by decide +kernel
theorem dX12_findSolved_238 : decode cX12_findSolved 238 = .ok (.aload_n 0, 1) := by decide +kernel
theorem dX12_findSolved_239 : decode cX12_findSolved 239 = .ok (.getfield 109, 3) := by decide +kernel
theorem dX12_findSolved_242 : decode cX12_findSolved 242 = .ok (.iload 4, 2) := by decide +kernel
theorem dX12_findSolved_244 : decode cX12_findSolved 244 = .ok (.iload_n 3, 1) := by decide +kernel
theorem dX12_findSolved_245 : decode cX12_findSolved 245 = .ok (.iastore, 1) := by decide +kernel
theorem dX12_findSolved_246 : decode cX12_findSolved 246 = .ok (.aload_n 0, 1) := by decide +kernel
theorem dX12_findSolved_247 : decode cX12_findSolved 247 = .ok (.dup, 1) := by decide +kernel
theorem dX12_findSolved_248 : decode cX12_findSolved 248 = .ok (.getfield 324, 3) := by decide +kernel
theorem dX12_findSolved_251 : decode cX12_findSolved 251 = .ok (.iconst 1, 1) := by decide +kernel
theorem dX12_findSolved_252 : decode cX12_findSolved 252 = .ok (.iadd, 1) := by decide +kernel
theorem dX12_findSolved_253 : decode cX12_findSolved 253 = .ok (.putfield 324, 3) := by decide +kernel
theorem dX12_findSolved_256 : decode cX12_findSolved 256 = .ok (.iinc 1 1, 3) := by decide +kernel
theorem dX12_findSolved_259 : decode cX12_findSolved 259 = .ok (.goto (-226), 3) := by decide +kernel
theorem dX12_findSolved_262 : decode cX12_findSolved 262 = .ok (.return_, 1) := by decide +kernel
set_option maxHeartbeats 4000000 in
set_option maxRecDepth 100000 in
theorem s_X12_findSolved {P : PP} {a0 : Nat} (I : IM P a0) (hW : MW P a0) : CtrV yX12_findSolved cX12_findSolved 6 none ({ frames := 1, cells := 0, slots := 0, locals := 64 } : Room) 0 0 P [.ref a0] (fun P2 => IM P2 a0 ∧ EM [35, 36, 37, 38] a0 P P2 ∧ MW P2 a0) := by
  refine enV (lv := [(0, .ref a0)]) (by decide) (Nat.le_of_ble_eq_true rfl) rfl (fun E D cy C Ci0 ret => ?_)
  have ha0 := I.2.1
  have J33 : ∀ (n33 : Nat) (P33 : PP) (v33_1 : Int32), (64 - v33_1.toInt).toNat < n33 → (IM P33 a0) → (EM [35, 36, 37, 38] a0 P P33) → (MW P33 a0) → (0 ≤ v33_1.toInt ∧ v33_1.toInt ≤ 64) → G E ({ frames := 1, cells := 0, slots := 0, locals := 64 } : Room) D cy 6 P33 0 0 33 [(0, .ref a0), (1, .int v33_1)] [] := by
    intro n33
    induction n33 with
    | zero => intro P33 v33_1 hm33 I33 X33 W33 hv33_1; omega
    | succ n33 ih33 =>
      intro P33 v33_1 hm33 I33 X33 W33 hv33_1
      have h17732 := X33.at ha0
      have J256 : ∀ (P256 : PP), (IM P256 a0) → (EM [35, 36, 37, 38] a0 P P256) → (MW P256 a0) → (0 ≤ v33_1.toInt ∧ v33_1.toInt ≤ 63) → (1 ≤ (pI P256 a0 28).toInt ∧ (pI P256 a0 28).toInt ≤ 64) → G E ({ frames := 1, cells := 0, slots := 0, locals := 64 } : Room) D cy 6 P256 0 0 256 [(0, .ref a0), (1, .int v33_1)] [] := by
        intro P256 I256 X256 W256 hv256_1 hq256_0
        have h17733 := X256.at ha0
        refine s_iinc (lv0 := [(0, .ref a0)]) (m := 1) C dX12_findSolved_256 1 rfl (by decide) rfl (by decide) (by omega) (fun z17734 h17735 => ?_)
        have h17735 : z17734.toInt = v33_1.toInt + 1 := h17735
        refine g_goto C 33 dX12_findSolved_259 (by decide) ?_
        refine g_lv (lv' := [(0, .ref a0), (1, .int z17734)]) [1, 0] rfl ?_
        exact ih33 P256 z17734 (by omega) I256 X256 W256 (by omega)
      have J179 : ∀ (n179 : Nat) (P179 : PP) (v179_2 : Int32) (v179_3 : Int32) (v179_4 : Int32) (v179_5 : Int32), (20 - v179_5.toInt).toNat < n179 → (IM P179 a0) → (EM [35, 36, 37, 38] a0 P P179) → (MW P179 a0) → (0 ≤ v33_1.toInt ∧ v33_1.toInt ≤ 63) → (0 ≤ v179_4.toInt ∧ v179_4.toInt ≤ 19) → (0 ≤ v179_5.toInt ∧ v179_5.toInt ≤ 20) → (1 ≤ (pI P179 a0 28).toInt ∧ (pI P179 a0 28).toInt ≤ 64) → G E ({ frames := 1, cells := 0, slots := 0, locals := 64 } : Room) D cy 6 P179 0 0 179 [(0, .ref a0), (1, .int v33_1), (2, .int v179_2), (3, .int v179_3), (4, .int v179_4), (5, .int v179_5)] [] := by
        intro n179
        induction n179 with
        | zero => intro P179 v179_2 v179_3 v179_4 v179_5 hm179 I179 X179 W179 hv179_1 hv179_4 hv179_5 hq179_0; omega
        | succ n179 ih179 =>
          intro P179 v179_2 v179_3 v179_4 v179_5 hm179 I179 X179 W179 hv179_1 hv179_4 hv179_5 hq179_0
          have h17736 := X179.at ha0
          have J224 : ∀ (P224 : PP), (IM P224 a0) → (EM [35, 36, 37, 38] a0 P P224) → (MW P224 a0) → (0 ≤ v33_1.toInt ∧ v33_1.toInt ≤ 63) → (0 ≤ v179_5.toInt ∧ v179_5.toInt ≤ 19) → (1 ≤ (pI P224 a0 28).toInt ∧ (pI P224 a0 28).toInt ≤ 64) → G E ({ frames := 1, cells := 0, slots := 0, locals := 64 } : Room) D cy 6 P224 0 0 224 [(0, .ref a0), (1, .int v33_1), (2, .int v179_2), (3, .int v179_3), (4, .int v179_4), (5, .int v179_5)] [] := by
            intro P224 I224 X224 W224 hv224_1 hv224_5 hq224_0
            have h17737 := X224.at ha0
            refine s_iinc (lv0 := [(0, .ref a0), (1, .int v33_1), (2, .int v179_2), (3, .int v179_3), (4, .int v179_4)]) (m := 1) C dX12_findSolved_224 5 rfl (by decide) rfl (by decide) (by omega) (fun z17738 h17739 => ?_)
            have h17739 : z17738.toInt = v179_5.toInt + 1 := h17739
            refine g_goto C 179 dX12_findSolved_227 (by decide) ?_
            refine g_lv (lv' := [(0, .ref a0), (1, .int v33_1), (2, .int v179_2), (3, .int v179_3), (4, .int v179_4), (5, .int z17738)]) [1, 2, 3, 4, 5, 0] rfl ?_
            exact ih179 P224 v179_2 v179_3 v179_4 z17738 (by omega) I224 X224 W224 (by omega) (by omega) (by omega) (by omega)
          refine g_iload C dX12_findSolved_179 5 rfl ?_
          refine g_bipush (v := 20) C dX12_findSolved_181 (by decide) ?_
          refine b_icmp_ge C 230 dX12_findSolved_183 (by decide) (fun h17740 => ?_) (fun h17740 => ?_)
          · have h17740 : 20 ≤ v179_5.toInt := h17740
            refine g_aload_n C dX12_findSolved_230 rfl 0 rfl ?_
            obtain ⟨b17741, e17742, h17743⟩ := I179.fld (h17736) 37 13 20 rfl
            refine g_getR C fi_X12_106 rfl e17742 (h17736).1 (h17736).2 dX12_findSolved_231 ?_
            refine g_iload C dX12_findSolved_234 4 rfl ?_
            refine g_iload_n C dX12_findSolved_236 rfl 2 rfl ?_
            refine g_iast (j := (v179_4.toInt.toNat)) C h17743.1 h17743.2.1 (ix_in h17743.2.2 (by omega)) dX12_findSolved_237 ?_
            refine gqW (ks := [37]) (I179.setA e17742 h17743 (by decide) (arOk.none rfl)) (EM.setA I179 e17742 rfl (by decide)) (fun Y17744 Iy17745 Xy17746 w17747 => ?_)
            have w17747 : (pI Y17744 b17741 (v179_4.toInt.toNat)).toInt = v179_2.toInt := w17747
            have q17748 := Xy17746.keepF 28 (by decide)
            have W17749 := W179.keep I179 Xy17746 (by decide) (by decide) (by decide)
            have Xz17750 : EM [35, 36, 37, 38] a0 P Y17744 := EM.tr ha0 X179 (Xy17746.mono (by decide))
            have e17751 := Xy17746.ref h17736 (by decide) e17742
            have h17752 := Xy17746.at h17736
            have h17753 := Xy17746.ar h17743
            refine g_aload_n C dX12_findSolved_238 rfl 0 rfl ?_
            obtain ⟨b17754, e17755, h17756⟩ := Iy17745.fld (h17752) 38 13 20 rfl
            refine g_getR C fi_X12_109 rfl e17755 (h17752).1 (h17752).2 dX12_findSolved_239 ?_
            refine g_iload C dX12_findSolved_242 4 rfl ?_
            refine g_iload_n C dX12_findSolved_244 rfl 3 rfl ?_
            refine g_iast (j := (v179_4.toInt.toNat)) C h17756.1 h17756.2.1 (ix_in h17756.2.2 (by omega)) dX12_findSolved_245 ?_
            refine gqW (ks := [38]) (Iy17745.setA e17755 h17756 (by decide) (arOk.none rfl)) (EM.setA Iy17745 e17755 rfl (by decide)) (fun Y17757 Iy17758 Xy17759 w17760 => ?_)
            have w17760 : (pI Y17757 b17754 (v179_4.toInt.toNat)).toInt = v179_3.toInt := w17760
            have q17761 := Xy17759.keepF 28 (by decide)
            have q17762 := Xy17759.keepA e17751 (by decide) rfl (v179_4.toInt.toNat)
            have W17763 := W17749.keep Iy17745 Xy17759 (by decide) (by decide) (by decide)
            have Xz17764 : EM [35, 36, 37, 38] a0 P Y17757 := EM.tr ha0 Xz17750 (Xy17759.mono (by decide))
            have e17765 := Xy17759.ref h17752 (by decide) e17751
            have e17766 := Xy17759.ref h17752 (by decide) e17755
            have h17767 := Xy17759.at h17752
            have h17768 := Xy17759.ar h17753
            have h17769 := Xy17759.ar h17756
            refine g_aload_n C dX12_findSolved_246 rfl 0 rfl ?_
            refine g_dup C dX12_findSolved_247 rfl ?_
            refine g_getI C fi_X12_324 (by decide) (h17767).1 (h17767).2 dX12_findSolved_248 ?_
            refine g_iconst (v := 1) C dX12_findSolved_251 (by decide) ?_
            refine a_iadd C dX12_findSolved_252 (fun z17770 => ?_)
            refine g_putI C fi_X12_324 rfl (h17767).1 (h17767).2 dX12_findSolved_253 ?_
            refine gqW (ks := [35]) (Iy17758.setI (rgOk.none rfl)) (EM.setI Iy17758 (by decide)) (fun Y17772 Iy17773 Xy17774 w17775 => ?_)
            have w17775 : (pI Y17772 a0 35).toInt = z17770.toInt := w17775
            have q17776 := Xy17774.keepF 28 (by decide)
            have q17777 := Xy17774.keepA e17765 (by decide) rfl (v179_4.toInt.toNat)
            have q17778 := Xy17774.keepA e17766 (by decide) rfl (v179_4.toInt.toNat)
            have W17779 := W17763.keep Iy17758 Xy17774 (by decide) (by decide) (by decide)
            have Xz17780 : EM [35, 36, 37, 38] a0 P Y17772 := EM.tr ha0 Xz17764 (Xy17774.mono (by decide))
            have e17781 := Xy17774.ref h17767 (by decide) e17765
            have e17782 := Xy17774.ref h17767 (by decide) e17766
            have h17783 := Xy17774.at h17767
            have h17784 := Xy17774.ar h17768
            have h17785 := Xy17774.ar h17769
            refine g_lv (lv' := [(0, .ref a0), (1, .int v33_1)]) [0, 1] rfl ?_
            exact J256 Y17772 Iy17773 Xz17780 W17779 (by omega) (by omega)
          · have h17740 : v179_5.toInt < 20 := h17740
            refine g_aload_n C dX12_findSolved_186 rfl 0 rfl ?_
            obtain ⟨b17786, e17787, h17788⟩ := I179.fld (h17736) 37 13 20 rfl
            refine g_getR C fi_X12_106 rfl e17787 (h17736).1 (h17736).2 dX12_findSolved_187 ?_
            refine g_iload C dX12_findSolved_190 5 rfl ?_
            refine g_iald (j := (v179_5.toInt.toNat)) C h17788.1 h17788.2.1 (ix_in h17788.2.2 (by omega)) dX12_findSolved_192 ?_
            refine g_iload C dX12_findSolved_193 4 rfl ?_
            refine a_ishr C dX12_findSolved_195 (fun z17789 => ?_)
            refine g_iconst (v := 1) C dX12_findSolved_196 (by decide) ?_
            refine s_iand C dX12_findSolved_197 (by show 0 ≤ 1; omega) (fun z17791 h17792 => ?_)
            have h17792 : 0 ≤ z17791.toInt ∧ z17791.toInt ≤ 1 := h17792
            refine g_iconst (v := 1) C dX12_findSolved_198 (by decide) ?_
            refine b_icmp_ne C 224 dX12_findSolved_199 (by decide) (fun h17793 => ?_) (fun h17793 => ?_)
            · have h17793 : z17791.toInt ≠ 1 := ti_ne h17793
              exact J224 P179 I179 X179 W179 (by omega) (by omega) (by omega)
            · have h17793 : z17791.toInt = 1 := congrArg Int32.toInt h17793
              refine g_aload_n C dX12_findSolved_202 rfl 0 rfl ?_
              refine g_getR C fi_X12_106 rfl e17787 (h17736).1 (h17736).2 dX12_findSolved_203 ?_
              refine g_iload C dX12_findSolved_206 5 rfl ?_
              refine g_dup2_11 C dX12_findSolved_208 rfl rfl ?_
              refine g_iald (j := (v179_5.toInt.toNat)) C h17788.1 h17788.2.1 (ix_in h17788.2.2 (by omega)) dX12_findSolved_209 ?_
              refine g_iload_n C dX12_findSolved_210 rfl 2 rfl ?_
              refine a_ixor C dX12_findSolved_211 (fun z17794 => ?_)
              refine g_iast (j := (v179_5.toInt.toNat)) C h17788.1 h17788.2.1 (ix_in h17788.2.2 (by omega)) dX12_findSolved_212 ?_
              refine gqW (ks := [37]) (I179.setA e17787 h17788 (by decide) (arOk.none rfl)) (EM.setA I179 e17787 rfl (by decide)) (fun Y17796 Iy17797 Xy17798 w17799 => ?_)
              have w17799 : (pI Y17796 b17786 (v179_5.toInt.toNat)).toInt = z17794.toInt := w17799
              have q17800 := Xy17798.keepF 28 (by decide)
              have W17801 := W179.keep I179 Xy17798 (by decide) (by decide) (by decide)
              have Xz17802 : EM [35, 36, 37, 38] a0 P Y17796 := EM.tr ha0 X179 (Xy17798.mono (by decide))
              have e17803 := Xy17798.ref h17736 (by decide) e17787
              have h17804 := Xy17798.at h17736
              have h17805 := Xy17798.ar h17788
              refine g_aload_n C dX12_findSolved_213 rfl 0 rfl ?_
              obtain ⟨b17806, e17807, h17808⟩ := Iy17797.fld (h17804) 38 13 20 rfl
              refine g_getR C fi_X12_109 rfl e17807 (h17804).1 (h17804).2 dX12_findSolved_214 ?_
              refine g_iload C dX12_findSolved_217 5 rfl ?_
              refine g_dup2_11 C dX12_findSolved_219 rfl rfl ?_
              refine g_iald (j := (v179_5.toInt.toNat)) C h17808.1 h17808.2.1 (ix_in h17808.2.2 (by omega)) dX12_findSolved_220 ?_
              refine g_iload_n C dX12_findSolved_221 rfl 3 rfl ?_
              refine a_ixor C dX12_findSolved_222 (fun z17809 => ?_)
              refine g_iast (j := (v179_5.toInt.toNat)) C h17808.1 h17808.2.1 (ix_in h17808.2.2 (by omega)) dX12_findSolved_223 ?_
              refine gqW (ks := [38]) (Iy17797.setA e17807 h17808 (by decide) (arOk.none rfl)) (EM.setA Iy17797 e17807 rfl (by decide)) (fun Y17811 Iy17812 Xy17813 w17814 => ?_)
              have w17814 : (pI Y17811 b17806 (v179_5.toInt.toNat)).toInt = z17809.toInt := w17814
              have q17815 := Xy17813.keepF 28 (by decide)
              have q17816 := Xy17813.keepA e17803 (by decide) rfl (v179_5.toInt.toNat)
              have W17817 := W17801.keep Iy17797 Xy17813 (by decide) (by decide) (by decide)
              have Xz17818 : EM [35, 36, 37, 38] a0 P Y17811 := EM.tr ha0 Xz17802 (Xy17813.mono (by decide))
              have e17819 := Xy17813.ref h17804 (by decide) e17803
              have e17820 := Xy17813.ref h17804 (by decide) e17807
              have h17821 := Xy17813.at h17804
              have h17822 := Xy17813.ar h17805
              have h17823 := Xy17813.ar h17808
              exact J224 Y17811 Iy17812 Xz17818 W17817 (by omega) (by omega) (by omega)
      have J170 : ∀ (v170_s0 : Int32), (0 ≤ v33_1.toInt ∧ v33_1.toInt ≤ 63) → (0 ≤ v170_s0.toInt ∧ v170_s0.toInt ≤ 1) → (1 ≤ (pI P33 a0 28).toInt ∧ (pI P33 a0 28).toInt ≤ 64) → G E ({ frames := 1, cells := 0, slots := 0, locals := 64 } : Room) D cy 6 P33 0 0 170 [(0, .ref a0), (1, .int v33_1)] [.int v170_s0, .ref a0] := by
        intro v170_s0 hv170_1 hv170_s0 hq170_0
        have h17824 := X33.at ha0
        refine g_putZ C fi_X12_326 rfl (b01 (by omega)) (h17824).1 (h17824).2 dX12_findSolved_170 ?_
        refine gqW (ks := [36]) (I33.setI (rgOk.of rfl (by omega))) (EM.setI I33 (by decide)) (fun Y17825 Iy17826 Xy17827 w17828 => ?_)
        have w17828 : (pI Y17825 a0 36).toInt = v170_s0.toInt := w17828
        have q17829 := Xy17827.keepF 28 (by decide)
        have W17830 := W33.keep I33 Xy17827 (by decide) (by decide) (by decide)
        have Xz17831 : EM [35, 36, 37, 38] a0 P Y17825 := EM.tr ha0 X33 (Xy17827.mono (by decide))
        have h17832 := Xy17827.at h17824
        refine g_goto C 256 dX12_findSolved_173 (by decide) ?_
        exact J256 Y17825 Iy17826 Xz17831 W17830 (by omega) (by omega)
      have J169 : (0 ≤ v33_1.toInt ∧ v33_1.toInt ≤ 63) → (1 ≤ (pI P33 a0 28).toInt ∧ (pI P33 a0 28).toInt ≤ 64) → (0 ≤ (pI P33 a0 36).toInt ∧ (pI P33 a0 36).toInt ≤ 1) → G E ({ frames := 1, cells := 0, slots := 0, locals := 64 } : Room) D cy 6 P33 0 0 169 [(0, .ref a0), (1, .int v33_1)] [.ref a0] := by
        intro hv169_1 hq169_0 hq169_1
        have h17833 := X33.at ha0
        refine g_iconst (v := 0) C dX12_findSolved_169 (by decide) ?_
        exact J170 0 (by omega) (by decide) (by omega)
      have J118 : ∀ (n118 : Nat) (v118_2 : Int32) (v118_3 : Int32) (v118_4 : Int32) (v118_5 : Int32), (v118_5.toInt - (-1)).toNat < n118 → (0 ≤ v33_1.toInt ∧ v33_1.toInt ≤ 63) → (-1 ≤ v118_4.toInt ∧ v118_4.toInt ≤ 19) → (-1 ≤ v118_5.toInt ∧ v118_5.toInt ≤ 19) → (1 ≤ (pI P33 a0 28).toInt ∧ (pI P33 a0 28).toInt ≤ 64) → G E ({ frames := 1, cells := 0, slots := 0, locals := 64 } : Room) D cy 6 P33 0 0 118 [(0, .ref a0), (1, .int v33_1), (2, .int v118_2), (3, .int v118_3), (4, .int v118_4), (5, .int v118_5)] [] := by
        intro n118
        induction n118 with
        | zero => intro v118_2 v118_3 v118_4 v118_5 hm118 hv118_1 hv118_4 hv118_5 hq118_0; omega
        | succ n118 ih118 =>
          intro v118_2 v118_3 v118_4 v118_5 hm118 hv118_1 hv118_4 hv118_5 hq118_0
          have h17834 := X33.at ha0
          have J140 : ∀ (v140_s0 : Int32), (0 ≤ v33_1.toInt ∧ v33_1.toInt ≤ 63) → (0 ≤ v118_5.toInt ∧ v118_5.toInt ≤ 19) → (-1 ≤ v140_s0.toInt ∧ v140_s0.toInt ≤ 19) → (1 ≤ (pI P33 a0 28).toInt ∧ (pI P33 a0 28).toInt ≤ 64) → G E ({ frames := 1, cells := 0, slots := 0, locals := 64 } : Room) D cy 6 P33 0 0 140 [(0, .ref a0), (1, .int v33_1), (2, .int v118_2), (3, .int v118_3), (5, .int v118_5)] [.int v140_s0] := by
            intro v140_s0 hv140_1 hv140_5 hv140_s0 hq140_0
            have h17835 := X33.at ha0
            refine g_istore (lv' := [(4, .int v140_s0), (0, .ref a0), (1, .int v33_1), (2, .int v118_2), (3, .int v118_3), (5, .int v118_5)]) C dX12_findSolved_140 (by decide) rfl ?_
            refine s_iinc (lv0 := [(4, .int v140_s0), (0, .ref a0), (1, .int v33_1), (2, .int v118_2), (3, .int v118_3)]) (m := -1) C dX12_findSolved_142 5 rfl (by decide) rfl (by decide) (by omega) (fun z17836 h17837 => ?_)
            have h17837 : z17836.toInt = v118_5.toInt + (-1) := h17837
            refine g_goto C 118 dX12_findSolved_145 (by decide) ?_
            refine g_lv (lv' := [(0, .ref a0), (1, .int v33_1), (2, .int v118_2), (3, .int v118_3), (4, .int v140_s0), (5, .int z17836)]) [2, 3, 4, 5, 1, 0] rfl ?_
            exact ih118 v118_2 v118_3 v140_s0 z17836 (by omega) (by omega) (by omega) (by omega) (by omega)
          refine g_iload C dX12_findSolved_118 5 rfl ?_
          refine b_if_lt C 148 dX12_findSolved_120 (by decide) (fun h17838 => ?_) (fun h17838 => ?_)
          · have h17838 : v118_5.toInt < 0 := h17838
            refine g_iload C dX12_findSolved_148 4 rfl ?_
            refine b_if_ge C 176 dX12_findSolved_150 (by decide) (fun h17839 => ?_) (fun h17839 => ?_)
            · have h17839 : 0 ≤ v118_4.toInt := h17839
              refine g_iconst (v := 0) C dX12_findSolved_176 (by decide) ?_
              refine g_istore (lv' := [(5, .int 0), (0, .ref a0), (1, .int v33_1), (2, .int v118_2), (3, .int v118_3), (4, .int v118_4)]) C dX12_findSolved_177 (by decide) rfl ?_
              refine g_lv (lv' := [(0, .ref a0), (1, .int v33_1), (2, .int v118_2), (3, .int v118_3), (4, .int v118_4), (5, .int 0)]) [1, 2, 3, 4, 5, 0] rfl ?_
              exact J179 _ P33 v118_2 v118_3 v118_4 0 (Nat.lt_succ_self _) I33 X33 W33 (by omega) (by omega) (by decide) (by omega)
            · have h17839 : v118_4.toInt < 0 := h17839
              refine g_aload_n C dX12_findSolved_153 rfl 0 rfl ?_
              refine g_aload_n C dX12_findSolved_154 rfl 0 rfl ?_
              refine g_getI C fi_X12_326 (by decide) (h17834).1 (h17834).2 dX12_findSolved_155 ?_
              have h17840 := I33.rg (h17834) 36 rfl
              refine b_if_eq C 169 dX12_findSolved_158 (by decide) (fun h17841 => ?_) (fun h17841 => ?_)
              · have h17841 : (pI P33 a0 36).toInt = 0 := congrArg Int32.toInt h17841
                refine g_lv (lv' := [(0, .ref a0), (1, .int v33_1)]) [0, 1] rfl ?_
                exact J169 (by omega) (by omega) (by omega)
              · have h17841 : (pI P33 a0 36).toInt ≠ 0 := ti_ne h17841
                refine g_iload_n C dX12_findSolved_161 rfl 3 rfl ?_
                have u17843 := ti_rng v118_3
                refine b_if_ne C 169 dX12_findSolved_162 (by decide) (fun h17842 => ?_) (fun h17842 => ?_)
                · have h17842 : v118_3.toInt ≠ 0 := ti_ne h17842
                  refine g_lv (lv' := [(0, .ref a0), (1, .int v33_1)]) [0, 1] rfl ?_
                  exact J169 (by omega) (by omega) (by omega)
                · have h17842 : v118_3.toInt = 0 := congrArg Int32.toInt h17842
                  refine g_iconst (v := 1) C dX12_findSolved_165 (by decide) ?_
                  refine g_goto C 170 dX12_findSolved_166 (by decide) ?_
                  refine g_lv (lv' := [(0, .ref a0), (1, .int v33_1)]) [0, 1] rfl ?_
                  exact J170 1 (by omega) (by decide) (by omega)
          · have h17838 : 0 ≤ v118_5.toInt := h17838
            refine g_iload_n C dX12_findSolved_123 rfl 2 rfl ?_
            refine g_iload C dX12_findSolved_124 5 rfl ?_
            refine a_ishr C dX12_findSolved_126 (fun z17844 => ?_)
            refine g_iconst (v := 1) C dX12_findSolved_127 (by decide) ?_
            refine s_iand C dX12_findSolved_128 (by show 0 ≤ 1; omega) (fun z17846 h17847 => ?_)
            have h17847 : 0 ≤ z17846.toInt ∧ z17846.toInt ≤ 1 := h17847
            refine g_iconst (v := 1) C dX12_findSolved_129 (by decide) ?_
            refine b_icmp_ne C 138 dX12_findSolved_130 (by decide) (fun h17848 => ?_) (fun h17848 => ?_)
            · have h17848 : z17846.toInt ≠ 1 := ti_ne h17848
              refine g_iload C dX12_findSolved_138 4 rfl ?_
              refine g_lv (lv' := [(0, .ref a0), (1, .int v33_1), (2, .int v118_2), (3, .int v118_3), (5, .int v118_5)]) [0, 1, 2, 3, 5] rfl ?_
              exact J140 v118_4 (by omega) (by omega) (by omega) (by omega)
            · have h17848 : z17846.toInt = 1 := congrArg Int32.toInt h17848
              refine g_iload C dX12_findSolved_133 5 rfl ?_
              refine g_goto C 140 dX12_findSolved_135 (by decide) ?_
              refine g_lv (lv' := [(0, .ref a0), (1, .int v33_1), (2, .int v118_2), (3, .int v118_3), (5, .int v118_5)]) [0, 1, 2, 3, 5] rfl ?_
              exact J140 v118_5 (by omega) (by omega) (by omega) (by omega)
      have J58 : ∀ (n58 : Nat) (v58_2 : Int32) (v58_3 : Int32) (v58_4 : Int32), (20 - v58_4.toInt).toNat < n58 → (0 ≤ v33_1.toInt ∧ v33_1.toInt ≤ 63) → (0 ≤ v58_4.toInt ∧ v58_4.toInt ≤ 20) → (1 ≤ (pI P33 a0 28).toInt ∧ (pI P33 a0 28).toInt ≤ 64) → G E ({ frames := 1, cells := 0, slots := 0, locals := 64 } : Room) D cy 6 P33 0 0 58 [(0, .ref a0), (1, .int v33_1), (2, .int v58_2), (3, .int v58_3), (4, .int v58_4)] [] := by
        intro n58
        induction n58 with
        | zero => intro v58_2 v58_3 v58_4 hm58 hv58_1 hv58_4 hq58_0; omega
        | succ n58 ih58 =>
          intro v58_2 v58_3 v58_4 hm58 hv58_1 hv58_4 hq58_0
          have h17849 := X33.at ha0
          have J105 : ∀ (v105_2 : Int32) (v105_3 : Int32), (0 ≤ v33_1.toInt ∧ v33_1.toInt ≤ 63) → (0 ≤ v58_4.toInt ∧ v58_4.toInt ≤ 19) → (1 ≤ (pI P33 a0 28).toInt ∧ (pI P33 a0 28).toInt ≤ 64) → G E ({ frames := 1, cells := 0, slots := 0, locals := 64 } : Room) D cy 6 P33 0 0 105 [(0, .ref a0), (1, .int v33_1), (2, .int v105_2), (3, .int v105_3), (4, .int v58_4)] [] := by
            intro v105_2 v105_3 hv105_1 hv105_4 hq105_0
            have h17850 := X33.at ha0
            refine s_iinc (lv0 := [(0, .ref a0), (1, .int v33_1), (2, .int v105_2), (3, .int v105_3)]) (m := 1) C dX12_findSolved_105 4 rfl (by decide) rfl (by decide) (by omega) (fun z17851 h17852 => ?_)
            have h17852 : z17851.toInt = v58_4.toInt + 1 := h17852
            refine g_goto C 58 dX12_findSolved_108 (by decide) ?_
            refine g_lv (lv' := [(0, .ref a0), (1, .int v33_1), (2, .int v105_2), (3, .int v105_3), (4, .int z17851)]) [1, 2, 3, 4, 0] rfl ?_
            exact ih58 v105_2 v105_3 z17851 (by omega) (by omega) (by omega) (by omega)
          refine g_iload C dX12_findSolved_58 4 rfl ?_
          refine g_bipush (v := 20) C dX12_findSolved_60 (by decide) ?_
          refine b_icmp_ge C 111 dX12_findSolved_62 (by decide) (fun h17853 => ?_) (fun h17853 => ?_)
          · have h17853 : 20 ≤ v58_4.toInt := h17853
            refine g_iconst (v := (-1)) C dX12_findSolved_111 (by decide) ?_
            refine g_istore (lv' := [(4, .int (-1)), (0, .ref a0), (1, .int v33_1), (2, .int v58_2), (3, .int v58_3)]) C dX12_findSolved_112 (by decide) rfl ?_
            refine g_bipush (v := 19) C dX12_findSolved_114 (by decide) ?_
            refine g_istore (lv' := [(5, .int 19), (4, .int (-1)), (0, .ref a0), (1, .int v33_1), (2, .int v58_2), (3, .int v58_3)]) C dX12_findSolved_116 (by decide) rfl ?_
            refine g_lv (lv' := [(0, .ref a0), (1, .int v33_1), (2, .int v58_2), (3, .int v58_3), (4, .int (-1)), (5, .int 19)]) [2, 3, 4, 5, 1, 0] rfl ?_
            exact J118 _ v58_2 v58_3 (-1) 19 (Nat.lt_succ_self _) (by omega) (by decide) (by decide) (by omega)
          · have h17853 : v58_4.toInt < 20 := h17853
            refine g_iload_n C dX12_findSolved_65 rfl 2 rfl ?_
            refine g_iload C dX12_findSolved_66 4 rfl ?_
            refine a_ishr C dX12_findSolved_68 (fun z17854 => ?_)
            refine g_iconst (v := 1) C dX12_findSolved_69 (by decide) ?_
            refine s_iand C dX12_findSolved_70 (by show 0 ≤ 1; omega) (fun z17856 h17857 => ?_)
            have h17857 : 0 ≤ z17856.toInt ∧ z17856.toInt ≤ 1 := h17857
            refine g_iconst (v := 1) C dX12_findSolved_71 (by decide) ?_
            refine b_icmp_ne C 105 dX12_findSolved_72 (by decide) (fun h17858 => ?_) (fun h17858 => ?_)
            · have h17858 : z17856.toInt ≠ 1 := ti_ne h17858
              exact J105 v58_2 v58_3 (by omega) (by omega) (by omega)
            · have h17858 : z17856.toInt = 1 := congrArg Int32.toInt h17858
              refine g_aload_n C dX12_findSolved_75 rfl 0 rfl ?_
              obtain ⟨b17859, e17860, h17861⟩ := I33.fld (h17849) 37 13 20 rfl
              refine g_getR C fi_X12_106 rfl e17860 (h17849).1 (h17849).2 dX12_findSolved_76 ?_
              refine g_iload C dX12_findSolved_79 4 rfl ?_
              refine g_iald (j := (v58_4.toInt.toNat)) C h17861.1 h17861.2.1 (ix_in h17861.2.2 (by omega)) dX12_findSolved_81 ?_
              have u17863 := ti_rng (pI P33 b17859 (v58_4.toInt.toNat))
              refine b_if_eq C 105 dX12_findSolved_82 (by decide) (fun h17862 => ?_) (fun h17862 => ?_)
              · have h17862 : (pI P33 b17859 (v58_4.toInt.toNat)).toInt = 0 := congrArg Int32.toInt h17862
                exact J105 v58_2 v58_3 (by omega) (by omega) (by omega)
              · have h17862 : (pI P33 b17859 (v58_4.toInt.toNat)).toInt ≠ 0 := ti_ne h17862
                refine g_iload_n C dX12_findSolved_85 rfl 2 rfl ?_
                refine g_aload_n C dX12_findSolved_86 rfl 0 rfl ?_
                refine g_getR C fi_X12_106 rfl e17860 (h17849).1 (h17849).2 dX12_findSolved_87 ?_
                refine g_iload C dX12_findSolved_90 4 rfl ?_
                refine g_iald (j := (v58_4.toInt.toNat)) C h17861.1 h17861.2.1 (ix_in h17861.2.2 (by omega)) dX12_findSolved_92 ?_
                refine a_ixor C dX12_findSolved_93 (fun z17864 => ?_)
                refine g_istore_n (lv' := [(2, .int z17864), (0, .ref a0), (1, .int v33_1), (3, .int v58_3), (4, .int v58_4)]) C dX12_findSolved_94 rfl (by decide) rfl ?_
                refine g_iload_n C dX12_findSolved_95 rfl 3 rfl ?_
                refine g_aload_n C dX12_findSolved_96 rfl 1 rfl ?_
                obtain ⟨b17866, e17867, h17868⟩ := I33.fld (h17849) 38 13 20 rfl
                refine g_getR C fi_X12_109 rfl e17867 (h17849).1 (h17849).2 dX12_findSolved_97 ?_
                refine g_iload C dX12_findSolved_100 4 rfl ?_
                refine g_iald (j := (v58_4.toInt.toNat)) C h17868.1 h17868.2.1 (ix_in h17868.2.2 (by omega)) dX12_findSolved_102 ?_
                refine a_ixor C dX12_findSolved_103 (fun z17869 => ?_)
                refine g_istore_n (lv' := [(3, .int z17869), (2, .int z17864), (0, .ref a0), (1, .int v33_1), (4, .int v58_4)]) C dX12_findSolved_104 rfl (by decide) rfl ?_
                refine g_lv (lv' := [(0, .ref a0), (1, .int v33_1), (2, .int z17864), (3, .int z17869), (4, .int v58_4)]) [2, 3, 1, 0, 4] rfl ?_
                exact J105 z17864 z17869 (by omega) (by omega) (by omega)
      refine g_iload_n C dX12_findSolved_33 rfl 1 rfl ?_
      refine g_aload_n C dX12_findSolved_34 rfl 0 rfl ?_
      refine g_getI C fi_X12_305 (by decide) (h17732).1 (h17732).2 dX12_findSolved_35 ?_
      have h17871 := I33.rg (h17732) 28 rfl
      refine b_icmp_ge C 262 dX12_findSolved_38 (by decide) (fun h17872 => ?_) (fun h17872 => ?_)
      · have h17872 : (pI P33 a0 28).toInt ≤ v33_1.toInt := h17872
        exact ret _ _ _ _ _ dX12_findSolved_262 (by decide) (by decide) ⟨I33, X33, W33⟩
      · have h17872 : v33_1.toInt < (pI P33 a0 28).toInt := h17872
        refine g_aload_n C dX12_findSolved_41 rfl 0 rfl ?_
        obtain ⟨b17873, e17874, h17875⟩ := I33.fld (h17732) 29 13 64 rfl
        refine g_getR C fi_X12_91 rfl e17874 (h17732).1 (h17732).2 dX12_findSolved_42 ?_
        refine g_iload_n C dX12_findSolved_45 rfl 1 rfl ?_
        refine g_iald (j := (v33_1.toInt.toNat)) C h17875.1 h17875.2.1 (ix_in h17875.2.2 (by omega)) dX12_findSolved_46 ?_
        refine g_topi (fun z17876 h17877 => ?_)
        have h17877 : z17876.toInt = (pI P33 b17873 (v33_1.toInt.toNat)).toInt := congrArg Int32.toInt h17877
        refine g_istore_n (lv' := [(2, .int z17876), (0, .ref a0), (1, .int v33_1)]) C dX12_findSolved_47 rfl (by decide) rfl ?_
        refine g_aload_n C dX12_findSolved_48 rfl 1 rfl ?_
        obtain ⟨b17878, e17879, h17880⟩ := I33.fld (h17732) 30 13 64 rfl
        refine g_getR C fi_X12_94 rfl e17879 (h17732).1 (h17732).2 dX12_findSolved_49 ?_
        refine g_iload_n C dX12_findSolved_52 rfl 2 rfl ?_
        refine g_iald (j := (v33_1.toInt.toNat)) C h17880.1 h17880.2.1 (ix_in h17880.2.2 (by omega)) dX12_findSolved_53 ?_
        refine g_topi (fun z17881 h17882 => ?_)
        have h17882 : z17881.toInt = (pI P33 b17878 (v33_1.toInt.toNat)).toInt := congrArg Int32.toInt h17882
        refine g_istore_n (lv' := [(3, .int z17881), (2, .int z17876), (0, .ref a0), (1, .int v33_1)]) C dX12_findSolved_54 rfl (by decide) rfl ?_
        refine g_iconst (v := 0) C dX12_findSolved_55 (by decide) ?_
        refine g_istore (lv' := [(4, .int 0), (3, .int z17881), (2, .int z17876), (0, .ref a0), (1, .int v33_1)]) C dX12_findSolved_56 (by decide) rfl ?_
        refine g_lv (lv' := [(0, .ref a0), (1, .int v33_1), (2, .int z17876), (3, .int z17881), (4, .int 0)]) [3, 4, 2, 1, 0] rfl ?_
        exact J58 _ z17876 z17881 0 (Nat.lt_succ_self _) (by omega) (by decide) (by omega)
  have J12 : ∀ (n12 : Nat) (P12 : PP) (v12_1 : Int32), (20 - v12_1.toInt).toNat < n12 → (IM P12 a0) → (EM [35, 36, 37, 38] a0 P P12) → (MW P12 a0) → (0 ≤ v12_1.toInt ∧ v12_1.toInt ≤ 20) → (0 ≤ (pI P12 a0 35).toInt ∧ (pI P12 a0 35).toInt ≤ 0) → (1 ≤ (pI P12 a0 36).toInt ∧ (pI P12 a0 36).toInt ≤ 1) → G E ({ frames := 1, cells := 0, slots := 0, locals := 64 } : Room) D cy 6 P12 0 0 12 [(0, .ref a0), (1, .int v12_1)] [] := by
    intro n12
    induction n12 with
    | zero => intro P12 v12_1 hm12 I12 X12 W12 hv12_1 hq12_0 hq12_1; omega
    | succ n12 ih12 =>
      intro P12 v12_1 hm12 I12 X12 W12 hv12_1 hq12_0 hq12_1
      have h17883 := X12.at ha0
      refine g_iload_n C dX12_findSolved_12 rfl 1 rfl ?_
      refine g_bipush (v := 20) C dX12_findSolved_13 (by decide) ?_
      refine b_icmp_ge C 31 dX12_findSolved_15 (by decide) (fun h17884 => ?_) (fun h17884 => ?_)
      · have h17884 : 20 ≤ v12_1.toInt := h17884
        refine g_iconst (v := 0) C dX12_findSolved_31 (by decide) ?_
        refine g_istore_n (lv' := [(1, .int 0), (0, .ref a0)]) C dX12_findSolved_32 rfl (by decide) rfl ?_
        refine g_lv (lv' := [(0, .ref a0), (1, .int 0)]) [1, 0] rfl ?_
        exact J33 _ P12 0 (Nat.lt_succ_self _) I12 X12 W12 (by decide)
      · have h17884 : v12_1.toInt < 20 := h17884
        refine g_aload_n C dX12_findSolved_18 rfl 0 rfl ?_
        obtain ⟨b17885, e17886, h17887⟩ := I12.fld (h17883) 37 13 20 rfl
        refine g_getR C fi_X12_106 rfl e17886 (h17883).1 (h17883).2 dX12_findSolved_19 ?_
        refine g_iload_n C dX12_findSolved_22 rfl 1 rfl ?_
        refine g_iconst (v := 0) C dX12_findSolved_23 (by decide) ?_
        refine g_iast (j := (v12_1.toInt.toNat)) C h17887.1 h17887.2.1 (ix_in h17887.2.2 (by omega)) dX12_findSolved_24 ?_
        refine gqW (ks := [37]) (I12.setA e17886 h17887 (by decide) (arOk.none rfl)) (EM.setA I12 e17886 rfl (by decide)) (fun Y17888 Iy17889 Xy17890 w17891 => ?_)
        have w17891 : (pI Y17888 b17885 (v12_1.toInt.toNat)).toInt = 0 := w17891
        have q17892 := Xy17890.keepF 35 (by decide)
        have q17893 := Xy17890.keepF 36 (by decide)
        have W17894 := W12.keep I12 Xy17890 (by decide) (by decide) (by decide)
        have Xz17895 : EM [35, 36, 37, 38] a0 P Y17888 := EM.tr ha0 X12 (Xy17890.mono (by decide))
        have e17896 := Xy17890.ref h17883 (by decide) e17886
        have h17897 := Xy17890.at h17883
        have h17898 := Xy17890.ar h17887
        refine s_iinc (lv0 := [(0, .ref a0)]) (m := 1) C dX12_findSolved_25 1 rfl (by decide) rfl (by decide) (by omega) (fun z17899 h17900 => ?_)
        have h17900 : z17899.toInt = v12_1.toInt + 1 := h17900
        refine g_goto C 12 dX12_findSolved_28 (by decide) ?_
        refine g_lv (lv' := [(0, .ref a0), (1, .int z17899)]) [1, 0] rfl ?_
        exact ih12 Y17888 z17899 (by omega) Iy17889 Xz17895 W17894 (by omega) (by omega) (by omega)
  refine g_aload_n C dX12_findSolved_0 rfl 0 rfl ?_
  refine g_iconst (v := 0) C dX12_findSolved_1 (by decide) ?_
  refine g_putI C fi_X12_324 rfl (ha0).1 (ha0).2 dX12_findSolved_2 ?_
  refine gqW (ks := [35]) (I.setI (rgOk.none rfl)) (EM.setI I (by decide)) (fun Y17901 Iy17902 Xy17903 w17904 => ?_)
  have w17904 : (pI Y17901 a0 35).toInt = 0 := w17904
  have W17905 := hW.keep I Xy17903 (by decide) (by decide) (by decide)
  have Xz17906 : EM [35, 36, 37, 38] a0 P Y17901 := Xy17903.mono (by decide)
  have h17907 := Xy17903.at ha0
  refine g_aload_n C dX12_findSolved_5 rfl 0 rfl ?_
  refine g_iconst (v := 1) C dX12_findSolved_6 (by decide) ?_
  refine g_putZ C fi_X12_326 rfl (Or.inr rfl) (h17907).1 (h17907).2 dX12_findSolved_7 ?_
  refine gqW (ks := [36]) (Iy17902.setI (rgOk.of rfl (by decide))) (EM.setI Iy17902 (by decide)) (fun Y17908 Iy17909 Xy17910 w17911 => ?_)
  have w17911 : (pI Y17908 a0 36).toInt = 1 := w17911
  have q17912 := Xy17910.keepF 35 (by decide)
  have W17913 := W17905.keep Iy17902 Xy17910 (by decide) (by decide) (by decide)
  have Xz17914 : EM [35, 36, 37, 38] a0 P Y17908 := EM.tr ha0 Xz17906 (Xy17910.mono (by decide))
  have h17915 := Xy17910.at h17907
  refine g_iconst (v := 0) C dX12_findSolved_10 (by decide) ?_
  refine g_istore_n (lv' := [(1, .int 0), (0, .ref a0)]) C dX12_findSolved_11 rfl (by decide) rfl ?_
  refine g_lv (lv' := [(0, .ref a0), (1, .int 0)]) [1, 0] rfl ?_
  exact J12 _ Y17908 0 (Nat.lt_succ_self _) Iy17909 Xz17914 W17913 (by decide) (by omega) (by omega)
theorem s_X12_findPeeled {P : PP} {a0 : Nat} (I : IM P a0) (hW : MW P a0) : CtrV yX12_findPeeled cX12_findPeeled 6 none ({ frames := 3, cells := 0, slots := 0, locals := 192 } : Room) 0 0 P [.ref a0] (fun P2 => IM P2 a0 ∧ EM [33, 34] a0 P P2 ∧ MW P2 a0) := by
  sorry
theorem dX12_chancesOf_72 : decode cX12_chancesOf 72 = .ok (.aload_n 0, 1) := by decide +kernel
theorem dX12_chancesOf_73 : decode cX12_chancesOf 73 = .ok (.invokevirtual 343, 3) := by decide +kernel
theorem dX12_chancesOf_76 : decode cX12_chancesOf 76 = .ok (.goto 7, 3) := by decide +kernel
theorem dX12_chancesOf_83 : decode cX12_chancesOf 83 = .ok (.iload 5, 2) := by decide +kernel
theorem dX12_chancesOf_85 : decode cX12_chancesOf 85 = .ok (.aload_n 0, 1) := by decide +kernel
theorem dX12_chancesOf_86 : decode cX12_chancesOf 86 = .ok (.iload_n 1, 1) := by decide +kernel
theorem dX12_chancesOf_87 : decode cX12_chancesOf 87 = .ok (.iload 4, 2) := by decide +kernel
theorem dX12_chancesOf_89 : decode cX12_chancesOf 89 = .ok (.ifCond .ne 10, 3) := by decide +kernel
theorem dX12_chancesOf_99 : decode cX12_chancesOf 99 = .ok (.aload_n 0, 1) := by decide +kernel
theorem dX12_chancesOf_100 : decode cX12_chancesOf 100 = .ok (.invokevirtual 349, 3) := by decide +kernel
theorem dX12_fixedSet_0 : decode cX12_fixedSet 0 = .ok (.iconst 0, 1) := by decide +kernel
theorem dX12_fixedSet_1 : decode cX12_fixedSet 1 = .ok (.istore_n 1, 1) := by decide +kernel
theorem dX12_fixedSet_2 : decode cX12_fixedSet 2 = .ok (.iconst 0, 1) := by decide +kernel
theorem dX12_fixedSet_3 : decode cX12_fixedSet 3 = .ok (.istore_n 2, 1) := by decide +kernel
theorem dX12_fixedSet_4 : decode cX12_fixedSet 4 = .ok (.iload_n 2, 1) := by decide +kernel
theorem dX12_fixedSet_5 : decode cX12_fixedSet 5 = .ok (.bipush 20, 2) := by decide +kernel
theorem dX12_fixedSet_7 : decode cX12_fixedSet 7 = .ok (.if_icmp .ge 27, 3) := by decide +kernel
theorem dX12_fixedSet_10 : decode cX12_fixedSet 10 = .ok (.iload_n 1, 1) := by decide +kernel
theorem dX12_fixedSet_11 : decode cX12_fixedSet 11 = .ok (.aload_n 0, 1) := by decide +kernel
theorem dX12_fixedSet_12 : decode cX12_fixedSet 12 = .ok (.iload_n 2, 1) := by decide +kernel
theorem dX12_fixedSet_13 : decode cX12_fixedSet 13 = .ok (.invokevirtual 330, 3) := by decide +kernel
theorem dX12_isFixed_0 : decode cX12_isFixed 0 = .ok (.aload_n 0, 1) := by decide +kernel
theorem dX12_isFixed_1 : decode cX12_isFixed 1 = .ok (.getfield 326, 3) := by decide +kernel
theorem dX12_isFixed_4 : decode cX12_isFixed 4 = .ok (.ifCond .eq 19, 3) := by decide +kernel
theorem dX12_isFixed_7 : decode cX12_isFixed 7 = .ok (.aload_n 0, 1) := by decide +kernel
theorem dX12_isFixed_8 : decode cX12_isFixed 8 = .ok (.getfield 106, 3) := by decide +kernel
theorem dX12_isFixed_11 : decode cX12_isFixed 11 = .ok (.iload_n 1, 1) := by decide +kernel
theorem dX12_isFixed_12 : decode cX12_isFixed 12 = .ok (.iaload, 1) := by decide +kernel
theorem dX12_isFixed_13 : decode cX12_isFixed 13 = .ok (.iconst 1, 1) := by decide +kernel
theorem dX12_isFixed_14 : decode cX12_isFixed 14 = .ok (.iload_n 1, 1) := by decide +kernel
theorem dX12_isFixed_15 : decode cX12_isFixed 15 = .ok (.ishl, 1) := by decide +kernel
theorem dX12_isFixed_16 : decode cX12_isFixed 16 = .ok (.if_icmp .ne 7, 3) := by decide +kernel
theorem dX12_isFixed_19 : decode cX12_isFixed 19 = .ok (.iconst 1, 1) := by decide +kernel
theorem dX12_isFixed_20 : decode cX12_isFixed 20 = .ok (.goto 4, 3) := by decide +kernel
theorem dX12_isFixed_23 : decode cX12_isFixed 23 = .ok (.iconst 0, 1) := by decide +kernel
theorem dX12_isFixed_24 : decode cX12_isFixed 24 = .ok (.ireturn, 1) := by decide +kernel
set_option maxHeartbeats 4000000 in
set_option maxRecDepth 100000 in
theorem s_X12_isFixed {P : PP} {a0 : Nat} {a1 : Int32} (I : IM P a0) (ha1 : 0 ≤ a1.toInt ∧ a1.toInt ≤ 19) (hW : MW P a0) : CtrI yX12_isFixed cX12_isFixed 2 (some Jvm.ClassFile.FieldType.boolean) ({ frames := 1, cells := 0, slots := 0, locals := 64 } : Room) 0 0 P [.ref a0, .int a1] (fun r P2 => P = P2 ∧ (0 ≤ r.toInt ∧ r.toInt ≤ 1)) := by
  refine enI (lv := [(0, .ref a0), (1, .int a1)]) (by decide) (Nat.le_of_ble_eq_true rfl) rfl (fun E D cy C Ci0 ret => ?_)
  have ha0 := I.2.1
  have J23 : (0 ≤ (pI P a0 36).toInt ∧ (pI P a0 36).toInt ≤ 1) → G E ({ frames := 1, cells := 0, slots := 0, locals := 64 } : Room) D cy 2 P 0 0 23 [] [] := by
    intro hq23_0
    refine g_iconst (v := 0) C dX12_isFixed_23 (by decide) ?_
    exact ret _ _ _ _ _ _ dX12_isFixed_24 rfl (by decide) (by decide) ⟨rfl, (by decide)⟩
  refine g_aload_n C dX12_isFixed_0 rfl 0 rfl ?_
  refine g_getI C fi_X12_326 (by decide) (ha0).1 (ha0).2 dX12_isFixed_1 ?_
  have h18224 := I.rg (ha0) 36 rfl
  refine b_if_eq C 23 dX12_isFixed_4 (by decide) (fun h18225 => ?_) (fun h18225 => ?_)
  · have h18225 : (pI P a0 36).toInt = 0 := congrArg Int32.toInt h18225
    refine g_lv (lv' := []) [] rfl ?_
    exact J23 (by omega)
  · have h18225 : (pI P a0 36).toInt ≠ 0 := ti_ne h18225
    refine g_aload_n C dX12_isFixed_7 rfl 0 rfl ?_
    obtain ⟨b18226, e18227, h18228⟩ := I.fld (ha0) 37 13 20 rfl
    refine g_getR C fi_X12_106 rfl e18227 (ha0).1 (ha0).2 dX12_isFixed_8 ?_
    refine g_iload_n C dX12_isFixed_11 rfl 1 rfl ?_
    refine g_iald (j := (a1.toInt.toNat)) C h18228.1 h18228.2.1 (ix_in h18228.2.2 (by omega)) dX12_isFixed_12 ?_
    refine g_iconst (v := 1) C dX12_isFixed_13 (by decide) ?_
    refine g_iload_n C dX12_isFixed_14 rfl 1 rfl ?_
    refine a_ishl C dX12_isFixed_15 (fun z18229 => ?_)
    have u18232 := ti_rng (pI P b18226 (a1.toInt.toNat))
    have u18233 := ti_rng z18229
    refine b_icmp_ne C 23 dX12_isFixed_16 (by decide) (fun h18231 => ?_) (fun h18231 => ?_)
    · have h18231 : (pI P b18226 (a1.toInt.toNat)).toInt ≠ z18229.toInt := ti_ne h18231
      refine g_lv (lv' := []) [] rfl ?_
      exact J23 (by omega)
    · have h18231 : (pI P b18226 (a1.toInt.toNat)).toInt = z18229.toInt := congrArg Int32.toInt h18231
      refine g_iconst (v := 1) C dX12_isFixed_19 (by decide) ?_
      refine g_goto C 24 dX12_isFixed_20 (by decide) ?_
      exact ret _ _ _ _ _ _ dX12_isFixed_24 rfl (by decide) (by decide) ⟨rfl, (by decide)⟩
theorem dX12_fixedSet_16 : decode cX12_fixedSet 16 = .ok (.ifCond .eq 9, 3) := by decide +kernel
theorem dX12_fixedSet_19 : decode cX12_fixedSet 19 = .ok (.iconst 1, 1) := by decide +kernel
theorem dX12_fixedSet_20 : decode cX12_fixedSet 20 = .ok (.iload_n 2, 1) := by decide +kernel
theorem dX12_fixedSet_21 : decode cX12_fixedSet 21 = .ok (.ishl, 1) := by decide +kernel
theorem dX12_fixedSet_22 : decode cX12_fixedSet 22 = .ok (.goto 4, 3) := by decide +kernel
theorem dX12_fixedSet_25 : decode cX12_fixedSet 25 = .ok (.iconst 0, 1) := by decide +kernel
theorem dX12_fixedSet_26 : decode cX12_fixedSet 26 = .ok (.ior, 1) := by decide +kernel
theorem dX12_fixedSet_27 : decode cX12_fixedSet 27 = .ok (.istore_n 1, 1) := by decide +kernel
theorem dX12_fixedSet_28 : decode cX12_fixedSet 28 = .ok (.iinc 2 1, 3) := by decide +kernel
theorem dX12_fixedSet_31 : decode cX12_fixedSet 31 = .ok (.goto (-27), 3) := by decide +kernel
theorem dX12_fixedSet_34 : decode cX12_fixedSet 34 = .ok (.iload_n 1, 1) := by decide +kernel
theorem dX12_fixedSet_35 : decode cX12_fixedSet 35 = .ok (.ireturn, 1) := by decide +kernel
set_option maxHeartbeats 4000000 in
set_option maxRecDepth 100000 in
theorem s_X12_fixedSet {P : PP} {a0 : Nat} (I : IM P a0) (hW : MW P a0) : CtrI yX12_fixedSet cX12_fixedSet 3 (some Jvm.ClassFile.FieldType.int) ({ frames := 2, cells := 0, slots := 0, locals := 128 } : Room) 0 0 P [.ref a0] (fun r P2 => P = P2 ∧ (True)) := by
  refine enI (lv := [(0, .ref a0)]) (by decide) (Nat.le_of_ble_eq_true rfl) rfl (fun E D cy C Ci0 ret => ?_)
  have ha0 := I.2.1
  have J4 : ∀ (n4 : Nat) (v4_1 : Int32) (v4_2 : Int32), (20 - v4_2.toInt).toNat < n4 → (0 ≤ v4_2.toInt ∧ v4_2.toInt ≤ 20) → G E ({ frames := 2, cells := 0, slots := 0, locals := 128 } : Room) D cy 3 P 0 0 4 [(0, .ref a0), (1, .int v4_1), (2, .int v4_2)] [] := by
    intro n4
    induction n4 with
    | zero => intro v4_1 v4_2 hm4 hv4_2; omega
    | succ n4 ih4 =>
      intro v4_1 v4_2 hm4 hv4_2
      have J26 : ∀ (v26_s0 : Int32), (0 ≤ v4_2.toInt ∧ v4_2.toInt ≤ 19) → G E ({ frames := 2, cells := 0, slots := 0, locals := 128 } : Room) D cy 3 P 0 0 26 [(0, .ref a0), (2, .int v4_2)] [.int v26_s0, .int v4_1] := by
        intro v26_s0 hv26_2
        refine a_ior C dX12_fixedSet_26 (fun z18377 => ?_)
        refine g_istore_n (lv' := [(1, .int z18377), (0, .ref a0), (2, .int v4_2)]) C dX12_fixedSet_27 rfl (by decide) rfl ?_
        refine s_iinc (lv0 := [(1, .int z18377), (0, .ref a0)]) (m := 1) C dX12_fixedSet_28 2 rfl (by decide) rfl (by decide) (by omega) (fun z18379 h18380 => ?_)
        have h18380 : z18379.toInt = v4_2.toInt + 1 := h18380
        refine g_goto C 4 dX12_fixedSet_31 (by decide) ?_
        refine g_lv (lv' := [(0, .ref a0), (1, .int z18377), (2, .int z18379)]) [2, 1, 0] rfl ?_
        exact ih4 z18377 z18379 (by omega) (by omega)
      refine g_iload_n C dX12_fixedSet_4 rfl 2 rfl ?_
      refine g_bipush (v := 20) C dX12_fixedSet_5 (by decide) ?_
      refine b_icmp_ge C 34 dX12_fixedSet_7 (by decide) (fun h18381 => ?_) (fun h18381 => ?_)
      · have h18381 : 20 ≤ v4_2.toInt := h18381
        refine g_iload_n C dX12_fixedSet_34 rfl 1 rfl ?_
        exact ret _ _ _ _ _ _ dX12_fixedSet_35 rfl (by decide) (by decide) ⟨rfl, trivial⟩
      · have h18381 : v4_2.toInt < 20 := h18381
        refine g_iload_n C dX12_fixedSet_10 rfl 1 rfl ?_
        refine g_aload_n C dX12_fixedSet_11 rfl 0 rfl ?_
        refine g_iload_n C dX12_fixedSet_12 rfl 2 rfl ?_
        refine g_callVI (rest := [.int v4_1]) C mv_X12_330 [.int v4_2] (s_X12_isFixed I (by omega) hW) (ha0).1 (ha0).2 rfl rfl (by decide) (Nat.le_of_ble_eq_true rfl) (by decide) dX12_fixedSet_13 (fun r18382 Y18383 h18384 => ?_)
        obtain ⟨rfl, h18384⟩ := h18384
        have h18384 : 0 ≤ r18382.toInt ∧ r18382.toInt ≤ 1 := h18384
        refine b_if_eq C 25 dX12_fixedSet_16 (by decide) (fun h18385 => ?_) (fun h18385 => ?_)
        · have h18385 : r18382.toInt = 0 := congrArg Int32.toInt h18385
          refine g_iconst (v := 0) C dX12_fixedSet_25 (by decide) ?_
          refine g_lv (lv' := [(0, .ref a0), (2, .int v4_2)]) [0, 2] rfl ?_
          exact J26 0 (by omega)
        · have h18385 : r18382.toInt ≠ 0 := ti_ne h18385
          refine g_iconst (v := 1) C dX12_fixedSet_19 (by decide) ?_
          refine g_iload_n C dX12_fixedSet_20 rfl 2 rfl ?_
          refine a_ishl C dX12_fixedSet_21 (fun z18386 => ?_)
          refine g_goto C 26 dX12_fixedSet_22 (by decide) ?_
          refine g_lv (lv' := [(0, .ref a0), (2, .int v4_2)]) [0, 2] rfl ?_
          exact J26 z18386 (by omega)
  refine g_iconst (v := 0) C dX12_fixedSet_0 (by decide) ?_
  refine g_istore_n (lv' := [(1, .int 0), (0, .ref a0)]) C dX12_fixedSet_1 rfl (by decide) rfl ?_
  refine g_iconst (v := 0) C dX12_fixedSet_2 (by decide) ?_
  refine g_istore_n (lv' := [(2, .int 0), (1, .int 0), (0, .ref a0)]) C dX12_fixedSet_3 rfl (by decide) rfl ?_
  refine g_lv (lv' := [(0, .ref a0), (1, .int 0), (2, .int 0)]) [2, 1, 0] rfl ?_
  exact J4 _ 0 0 (Nat.lt_succ_self _) (by decide)
theorem dX12_chancesOf_92 : decode cX12_chancesOf 92 = .ok (.aload_n 0, 1) := by decide +kernel
theorem dX12_chancesOf_93 : decode cX12_chancesOf 93 = .ok (.getfield 318, 3) := by decide +kernel
theorem dX12_chancesOf_96 : decode cX12_chancesOf 96 = .ok (.goto 7, 3) := by decide +kernel
theorem dX12_chancesOf_103 : decode cX12_chancesOf 103 = .ok (.invokevirtual 371, 3) := by decide +kernel
theorem dX12_givesAll_0 : decode cX12_givesAll 0 = .ok (.iload_n 2, 1) := by decide +kernel
theorem dX12_givesAll_1 : decode cX12_givesAll 1 = .ok (.iconst (-1), 1) := by decide +kernel
theorem dX12_givesAll_2 : decode cX12_givesAll 2 = .ok (.ixor, 1) := by decide +kernel
theorem dX12_givesAll_3 : decode cX12_givesAll 3 = .ok (.iconst 1, 1) := by decide +kernel
theorem dX12_givesAll_4 : decode cX12_givesAll 4 = .ok (.aload_n 0, 1) := by decide +kernel
theorem dX12_givesAll_5 : decode cX12_givesAll 5 = .ok (.getfield 45, 3) := by decide +kernel
theorem dX12_givesAll_8 : decode cX12_givesAll 8 = .ok (.iload_n 1, 1) := by decide +kernel
theorem dX12_givesAll_9 : decode cX12_givesAll 9 = .ok (.iaload, 1) := by decide +kernel
theorem dX12_givesAll_10 : decode cX12_givesAll 10 = .ok (.ishl, 1) := by decide +kernel
theorem dX12_givesAll_11 : decode cX12_givesAll 11 = .ok (.iconst 1, 1) := by decide +kernel
theorem dX12_givesAll_12 : decode cX12_givesAll 12 = .ok (.isub, 1) := by decide +kernel
theorem dX12_givesAll_13 : decode cX12_givesAll 13 = .ok (.iand, 1) := by decide +kernel
theorem dX12_givesAll_14 : decode cX12_givesAll 14 = .ok (.ifCond .ne 7, 3) := by decide +kernel
theorem dX12_givesAll_17 : decode cX12_givesAll 17 = .ok (.iconst 1, 1) := by decide +kernel
theorem dX12_givesAll_18 : decode cX12_givesAll 18 = .ok (.goto 4, 3) := by decide +kernel
theorem dX12_givesAll_21 : decode cX12_givesAll 21 = .ok (.iconst 0, 1) := by decide +kernel
theorem dX12_givesAll_22 : decode cX12_givesAll 22 = .ok (.ireturn, 1) := by decide +kernel
set_option maxHeartbeats 4000000 in
set_option maxRecDepth 100000 in
theorem s_X12_givesAll {P : PP} {a0 : Nat} {a1 : Int32} {a2 : Int32} (I : IM P a0) (ha1 : 0 ≤ a1.toInt ∧ a1.toInt ≤ 1) (hW : MW P a0) : CtrI yX12_givesAll cX12_givesAll 3 (some Jvm.ClassFile.FieldType.boolean) ({ frames := 1, cells := 0, slots := 0, locals := 64 } : Room) 0 0 P [.ref a0, .int a1, .int a2] (fun r P2 => P = P2 ∧ (0 ≤ r.toInt ∧ r.toInt ≤ 1)) := by
  refine enI (lv := [(0, .ref a0), (1, .int a1), (2, .int a2)]) (by decide) (Nat.le_of_ble_eq_true rfl) rfl (fun E D cy C Ci0 ret => ?_)
  have ha0 := I.2.1
  refine g_iload_n C dX12_givesAll_0 rfl 2 rfl ?_
  refine g_iconst (v := (-1)) C dX12_givesAll_1 (by decide) ?_
  refine a_ixor C dX12_givesAll_2 (fun z18653 => ?_)
  refine g_iconst (v := 1) C dX12_givesAll_3 (by decide) ?_
  refine g_aload_n C dX12_givesAll_4 rfl 0 rfl ?_
  obtain ⟨b18655, e18656, h18657⟩ := I.fld (ha0) 10 13 2 rfl
  refine g_getR C fi_X12_45 rfl e18656 (ha0).1 (ha0).2 dX12_givesAll_5 ?_
  refine g_iload_n C dX12_givesAll_8 rfl 1 rfl ?_
  refine g_iald (j := (a1.toInt.toNat)) C h18657.1 h18657.2.1 (ix_in h18657.2.2 (by omega)) dX12_givesAll_9 ?_
  have h18658 := I.arr e18656 rfl (a1.toInt.toNat)
  refine a_ishl C dX12_givesAll_10 (fun z18659 => ?_)
  refine g_iconst (v := 1) C dX12_givesAll_11 (by decide) ?_
  refine a_isub C dX12_givesAll_12 (fun z18661 => ?_)
  refine a_iand C dX12_givesAll_13 (fun z18663 => ?_)
  have u18666 := ti_rng z18663
  refine b_if_ne C 21 dX12_givesAll_14 (by decide) (fun h18665 => ?_) (fun h18665 => ?_)
  · have h18665 : z18663.toInt ≠ 0 := ti_ne h18665
    refine g_iconst (v := 0) C dX12_givesAll_21 (by decide) ?_
    exact ret _ _ _ _ _ _ dX12_givesAll_22 rfl (by decide) (by decide) ⟨rfl, (by decide)⟩
  · have h18665 : z18663.toInt = 0 := congrArg Int32.toInt h18665
    refine g_iconst (v := 1) C dX12_givesAll_17 (by decide) ?_
    refine g_goto C 22 dX12_givesAll_18 (by decide) ?_
    exact ret _ _ _ _ _ _ dX12_givesAll_22 rfl (by decide) (by decide) ⟨rfl, (by decide)⟩
theorem dX12_chancesOf_106 : decode cX12_chancesOf 106 = .ok (.ifCond .eq 7, 3) := by decide +kernel
theorem dX12_chancesOf_109 : decode cX12_chancesOf 109 = .ok (.iconst 1, 1) := by decide +kernel
theorem dX12_chancesOf_110 : decode cX12_chancesOf 110 = .ok (.goto 4, 3) := by decide +kernel
theorem dX12_chancesOf_113 : decode cX12_chancesOf 113 = .ok (.iconst 0, 1) := by decide +kernel
theorem dX12_chancesOf_114 : decode cX12_chancesOf 114 = .ok (.iadd, 1) := by decide +kernel
theorem dX12_chancesOf_115 : decode cX12_chancesOf 115 = .ok (.istore 5, 2) := by decide +kernel
set_option maxHeartbeats 4000000 in
set_option maxRecDepth 100000 in
theorem s_X12_chancesOf {P : PP} {a0 : Nat} {a1 : Int32} {a2 : Int32} {a3 : Int32} {a4 : Int32} (I : IM P a0) (ha1 : 0 ≤ a1.toInt ∧ a1.toInt ≤ 1) (ha2 : 1 ≤ a2.toInt ∧ a2.toInt ≤ 11) (hf0 : ∀ b, pR P a0 10 = some b → 1 ≤ (pI P b (a1.toInt.toNat)).toInt ∧ (pI P b (a1.toInt.toNat)).toInt ≤ 16) (hW : MW P a0) : CtrI yX12_chancesOf cX12_chancesOf 8 (some Jvm.ClassFile.FieldType.int) ({ frames := 4, cells := 0, slots := 0, locals := 256 } : Room) 0 0 P [.ref a0, .int a1, .int a2, .int a3, .int a4] (fun r P2 => IM P2 a0 ∧ EM [28, 29, 30, 31, 33, 34, 35, 36, 37, 38] a0 P P2 ∧ MW P2 a0 ∧ (True)) := by
  refine enI (lv := [(0, .ref a0), (1, .int a1), (2, .int a2), (3, .int a3), (4, .int a4)]) (by decide) (Nat.le_of_ble_eq_true rfl) rfl (fun E D cy C Ci0 ret => ?_)
  have ha0 := I.2.1
  have J6 : ∀ (n6 : Nat) (P6 : PP) (v6_5 : Int32) (v6_6 : Int32), (2147483647 - v6_6.toInt).toNat < n6 → (IM P6 a0) → (EM [28, 29, 30, 31, 33, 34, 35, 36, 37, 38] a0 P P6) → (MW P6 a0) → (0 ≤ v6_6.toInt) → (∀ b, pR P6 a0 10 = some b → 1 ≤ (pI P6 b (a1.toInt.toNat)).toInt ∧ (pI P6 b (a1.toInt.toNat)).toInt ≤ 16) → G E ({ frames := 4, cells := 0, slots := 0, locals := 256 } : Room) D cy 8 P6 0 0 6 [(0, .ref a0), (1, .int a1), (2, .int a2), (3, .int a3), (4, .int a4), (5, .int v6_5), (6, .int v6_6)] [] := by
    intro n6
    induction n6 with
    | zero => intro P6 v6_5 v6_6 hm6 I6 X6 W6 hv6_6 hq6_0; omega
    | succ n6 ih6 =>
      intro P6 v6_5 v6_6 hm6 I6 X6 W6 hv6_6 hq6_0
      have h25025 := X6.at ha0
      obtain ⟨b25026, e25027, h25028⟩ := I6.fld (h25025) 10 13 2 rfl
      have hq6_0 := hq6_0 b25026 e25027
      have J117 : ∀ (P117 : PP) (v117_5 : Int32), (IM P117 a0) → (EM [28, 29, 30, 31, 33, 34, 35, 36, 37, 38] a0 P P117) → (MW P117 a0) → (0 ≤ v6_6.toInt ∧ v6_6.toInt ≤ 2147483646) → (∀ b, pR P117 a0 10 = some b → 1 ≤ (pI P117 b (a1.toInt.toNat)).toInt ∧ (pI P117 b (a1.toInt.toNat)).toInt ≤ 16) → G E ({ frames := 4, cells := 0, slots := 0, locals := 256 } : Room) D cy 8 P117 0 0 117 [(0, .ref a0), (1, .int a1), (2, .int a2), (3, .int a3), (4, .int a4), (5, .int v117_5), (6, .int v6_6)] [] := by
        intro P117 v117_5 I117 X117 W117 hv117_6 hq117_0
        have h25029 := X117.at ha0
        obtain ⟨b25030, e25031, h25032⟩ := I117.fld (h25029) 10 13 2 rfl
        have hq117_0 := hq117_0 b25030 e25031
        refine s_iinc (lv0 := [(0, .ref a0), (1, .int a1), (2, .int a2), (3, .int a3), (4, .int a4), (5, .int v117_5)]) (m := 1) C dX12_chancesOf_117 6 rfl (by decide) rfl (by decide) (by omega) (fun z25033 h25034 => ?_)
        have h25034 : z25033.toInt = v6_6.toInt + 1 := h25034
        refine g_goto C 6 dX12_chancesOf_120 (by decide) ?_
        refine g_lv (lv' := [(0, .ref a0), (1, .int a1), (2, .int a2), (3, .int a3), (4, .int a4), (5, .int v117_5), (6, .int z25033)]) [1, 2, 3, 4, 5, 6, 0] rfl ?_
        exact ih6 P117 v117_5 z25033 (by omega) I117 X117 W117 (by omega) (fun b9 e9 => by rw [e25031] at e9; cases e9; omega)
      have J114 : ∀ (P114 : PP) (v114_s0 : Int32), (IM P114 a0) → (EM [28, 29, 30, 31, 33, 34, 35, 36, 37, 38] a0 P P114) → (MW P114 a0) → (0 ≤ v6_6.toInt ∧ v6_6.toInt ≤ 2147483646) → (0 ≤ v114_s0.toInt ∧ v114_s0.toInt ≤ 1) → (∀ b, pR P114 a0 10 = some b → 1 ≤ (pI P114 b (a1.toInt.toNat)).toInt ∧ (pI P114 b (a1.toInt.toNat)).toInt ≤ 16) → G E ({ frames := 4, cells := 0, slots := 0, locals := 256 } : Room) D cy 8 P114 0 0 114 [(0, .ref a0), (1, .int a1), (2, .int a2), (3, .int a3), (4, .int a4), (6, .int v6_6)] [.int v114_s0, .int v6_5] := by
        intro P114 v114_s0 I114 X114 W114 hv114_6 hv114_s0 hq114_0
        have h25035 := X114.at ha0
        obtain ⟨b25036, e25037, h25038⟩ := I114.fld (h25035) 10 13 2 rfl
        have hq114_0 := hq114_0 b25036 e25037
        refine a_iadd C dX12_chancesOf_114 (fun z25039 => ?_)
        refine g_istore (lv' := [(5, .int z25039), (0, .ref a0), (1, .int a1), (2, .int a2), (3, .int a3), (4, .int a4), (6, .int v6_6)]) C dX12_chancesOf_115 (by decide) rfl ?_
        refine g_lv (lv' := [(0, .ref a0), (1, .int a1), (2, .int a2), (3, .int a3), (4, .int a4), (5, .int z25039), (6, .int v6_6)]) [1, 2, 3, 4, 5, 0, 6] rfl ?_
        exact J117 P114 z25039 I114 X114 W114 (by omega) (fun b9 e9 => by rw [e25037] at e9; cases e9; omega)
      have J103 : ∀ (P103 : PP) (v103_s0 : Int32), (IM P103 a0) → (EM [28, 29, 30, 31, 33, 34, 35, 36, 37, 38] a0 P P103) → (MW P103 a0) → (0 ≤ v6_6.toInt ∧ v6_6.toInt ≤ 2147483646) → (∀ b, pR P103 a0 10 = some b → 1 ≤ (pI P103 b (a1.toInt.toNat)).toInt ∧ (pI P103 b (a1.toInt.toNat)).toInt ≤ 16) → G E ({ frames := 4, cells := 0, slots := 0, locals := 256 } : Room) D cy 8 P103 0 0 103 [(0, .ref a0), (1, .int a1), (2, .int a2), (3, .int a3), (4, .int a4), (6, .int v6_6)] [.int v103_s0, .int a1, .ref a0, .int v6_5] := by
        intro P103 v103_s0 I103 X103 W103 hv103_6 hq103_0
        have h25041 := X103.at ha0
        obtain ⟨b25042, e25043, h25044⟩ := I103.fld (h25041) 10 13 2 rfl
        have hq103_0 := hq103_0 b25042 e25043
        refine g_callVI (rest := [.int v6_5]) C mv_X12_371 [.int a1, .int v103_s0] (s_X12_givesAll I103 (by omega) W103) (h25041).1 (h25041).2 rfl rfl (by decide) (Nat.le_of_ble_eq_true rfl) (by decide) dX12_chancesOf_103 (fun r25045 Y25046 h25047 => ?_)
        obtain ⟨rfl, h25047⟩ := h25047
        have h25047 : 0 ≤ r25045.toInt ∧ r25045.toInt ≤ 1 := h25047
        refine b_if_eq C 113 dX12_chancesOf_106 (by decide) (fun h25048 => ?_) (fun h25048 => ?_)
        · have h25048 : r25045.toInt = 0 := congrArg Int32.toInt h25048
          refine g_iconst (v := 0) C dX12_chancesOf_113 (by decide) ?_
          exact J114 P103 0 I103 X103 W103 (by omega) (by decide) (fun b9 e9 => by rw [e25043] at e9; cases e9; omega)
        · have h25048 : r25045.toInt ≠ 0 := ti_ne h25048
          refine g_iconst (v := 1) C dX12_chancesOf_109 (by decide) ?_
          refine g_goto C 114 dX12_chancesOf_110 (by decide) ?_
          exact J114 P103 1 I103 X103 W103 (by omega) (by decide) (fun b9 e9 => by rw [e25043] at e9; cases e9; omega)
      have J83 : ∀ (P83 : PP), (IM P83 a0) → (EM [28, 29, 30, 31, 33, 34, 35, 36, 37, 38] a0 P P83) → (MW P83 a0) → (0 ≤ v6_6.toInt ∧ v6_6.toInt ≤ 2147483646) → (∀ b, pR P83 a0 10 = some b → 1 ≤ (pI P83 b (a1.toInt.toNat)).toInt ∧ (pI P83 b (a1.toInt.toNat)).toInt ≤ 16) → G E ({ frames := 4, cells := 0, slots := 0, locals := 256 } : Room) D cy 8 P83 0 0 83 [(0, .ref a0), (1, .int a1), (2, .int a2), (3, .int a3), (4, .int a4), (5, .int v6_5), (6, .int v6_6)] [] := by
        intro P83 I83 X83 W83 hv83_6 hq83_0
        have h25049 := X83.at ha0
        obtain ⟨b25050, e25051, h25052⟩ := I83.fld (h25049) 10 13 2 rfl
        have hq83_0 := hq83_0 b25050 e25051
        refine g_iload C dX12_chancesOf_83 5 rfl ?_
        refine g_aload_n C dX12_chancesOf_85 rfl 0 rfl ?_
        refine g_iload_n C dX12_chancesOf_86 rfl 1 rfl ?_
        refine g_iload C dX12_chancesOf_87 4 rfl ?_
        have u25054 := ti_rng a4
        refine b_if_ne C 99 dX12_chancesOf_89 (by decide) (fun h25053 => ?_) (fun h25053 => ?_)
        · have h25053 : a4.toInt ≠ 0 := ti_ne h25053
          refine g_aload_n C dX12_chancesOf_99 rfl 0 rfl ?_
          refine g_callVI (rest := [.int a1, .ref a0, .int v6_5]) C mv_X12_349 [] (s_X12_fixedSet I83 W83) (h25049).1 (h25049).2 rfl rfl (by decide) (Nat.le_of_ble_eq_true rfl) (by decide) dX12_chancesOf_100 (fun r25055 Y25056 h25057 => ?_)
          obtain ⟨rfl, h25057⟩ := h25057
          have h25057 : True := h25057
          refine g_lv (lv' := [(0, .ref a0), (1, .int a1), (2, .int a2), (3, .int a3), (4, .int a4), (6, .int v6_6)]) [0, 1, 2, 3, 4, 6] rfl ?_
          exact J103 P83 r25055 I83 X83 W83 (by omega) (fun b9 e9 => by rw [e25051] at e9; cases e9; omega)
        · have h25053 : a4.toInt = 0 := congrArg Int32.toInt h25053
          refine g_aload_n C dX12_chancesOf_92 rfl 0 rfl ?_
          refine g_getI C fi_X12_318 (by decide) (h25049).1 (h25049).2 dX12_chancesOf_93 ?_
          refine g_goto C 103 dX12_chancesOf_96 (by decide) ?_
          refine g_lv (lv' := [(0, .ref a0), (1, .int a1), (2, .int a2), (3, .int a3), (4, .int a4), (6, .int v6_6)]) [0, 1, 2, 3, 4, 6] rfl ?_
          exact J103 P83 (pI P83 a0 33) I83 X83 W83 (by omega) (fun b9 e9 => by rw [e25051] at e9; cases e9; omega)
      have J31 : ∀ (n31 : Nat) (P31 : PP) (v31_7 : Int32), (11 - v31_7.toInt).toNat < n31 → (IM P31 a0) → (EM [28, 29, 30, 31, 33, 34, 35, 36, 37, 38] a0 P P31) → (MW P31 a0) → (0 ≤ v6_6.toInt ∧ v6_6.toInt ≤ 2147483646) → (0 ≤ v31_7.toInt ∧ v31_7.toInt ≤ 11) → (∀ b, pR P31 a0 10 = some b → 1 ≤ (pI P31 b (a1.toInt.toNat)).toInt ∧ (pI P31 b (a1.toInt.toNat)).toInt ≤ 16) → ((pI P31 a0 28).toInt ≤ 4 + v31_7.toInt) → G E ({ frames := 4, cells := 0, slots := 0, locals := 256 } : Room) D cy 8 P31 0 0 31 [(0, .ref a0), (1, .int a1), (2, .int a2), (3, .int a3), (4, .int a4), (5, .int v6_5), (6, .int v6_6), (7, .int v31_7)] [] := by
        intro n31
        induction n31 with
        | zero => intro P31 v31_7 hm31 I31 X31 W31 hv31_6 hv31_7 hq31_0 rel31_0; omega
        | succ n31 ih31 =>
          intro P31 v31_7 hm31 I31 X31 W31 hv31_6 hv31_7 hq31_0 rel31_0
          have h25058 := X31.at ha0
          obtain ⟨b25059, e25060, h25061⟩ := I31.fld (h25058) 10 13 2 rfl
          have hq31_0 := hq31_0 b25059 e25060
          have h25062 := I31.rg h25058 28 rfl
          have J61 : ∀ (P61 : PP), (IM P61 a0) → (EM [28, 29, 30, 31, 33, 34, 35, 36, 37, 38] a0 P P61) → (MW P61 a0) → (0 ≤ v6_6.toInt ∧ v6_6.toInt ≤ 2147483646) → (0 ≤ v31_7.toInt ∧ v31_7.toInt ≤ 10) → (∀ b, pR P61 a0 10 = some b → 1 ≤ (pI P61 b (a1.toInt.toNat)).toInt ∧ (pI P61 b (a1.toInt.toNat)).toInt ≤ 16) → ((pI P61 a0 28).toInt ≤ 5 + v31_7.toInt) → G E ({ frames := 4, cells := 0, slots := 0, locals := 256 } : Room) D cy 8 P61 0 0 61 [(0, .ref a0), (1, .int a1), (2, .int a2), (3, .int a3), (4, .int a4), (5, .int v6_5), (6, .int v6_6), (7, .int v31_7)] [] := by
            intro P61 I61 X61 W61 hv61_6 hv61_7 hq61_0 rel61_0
            have h25063 := X61.at ha0
            obtain ⟨b25064, e25065, h25066⟩ := I61.fld (h25063) 10 13 2 rfl
            have hq61_0 := hq61_0 b25064 e25065
            have h25067 := I61.rg h25063 28 rfl
            refine s_iinc (lv0 := [(0, .ref a0), (1, .int a1), (2, .int a2), (3, .int a3), (4, .int a4), (5, .int v6_5), (6, .int v6_6)]) (m := 1) C dX12_chancesOf_61 7 rfl (by decide) rfl (by decide) (by omega) (fun z25068 h25069 => ?_)
            have h25069 : z25068.toInt = v31_7.toInt + 1 := h25069
            refine g_goto C 31 dX12_chancesOf_64 (by decide) ?_
            refine g_lv (lv' := [(0, .ref a0), (1, .int a1), (2, .int a2), (3, .int a3), (4, .int a4), (5, .int v6_5), (6, .int v6_6), (7, .int z25068)]) [1, 2, 3, 4, 5, 6, 7, 0] rfl ?_
            exact ih31 P61 z25068 (by omega) I61 X61 W61 (by omega) (by omega) (fun b9 e9 => by rw [e25065] at e9; cases e9; omega) (by show (pI P61 a0 28).toInt ≤ 4 + z25068.toInt; omega)
          refine g_iload C dX12_chancesOf_31 7 rfl ?_
          refine g_iload_n C dX12_chancesOf_33 rfl 2 rfl ?_
          refine b_icmp_ge C 67 dX12_chancesOf_34 (by decide) (fun h25070 => ?_) (fun h25070 => ?_)
          · have h25070 : a2.toInt ≤ v31_7.toInt := h25070
            refine g_iload C dX12_chancesOf_67 4 rfl ?_
            have u25072 := ti_rng a4
            refine b_if_ne C 79 dX12_chancesOf_69 (by decide) (fun h25071 => ?_) (fun h25071 => ?_)
            · have h25071 : a4.toInt ≠ 0 := ti_ne h25071
              refine g_aload_n C dX12_chancesOf_79 rfl 0 rfl ?_
              refine g_callVV (rest := []) C mv_X12_346 [] (s_X12_findSolved I31 W31) (h25058).1 (h25058).2 rfl rfl (by decide) (Nat.le_of_ble_eq_true rfl) (by decide) dX12_chancesOf_80 (fun Y25074 h25075 => ?_)
              obtain ⟨Iy25076, Xy25077, W25078⟩ := h25075
              have q25079 := Xy25077.keepA e25060 (by decide) rfl (a1.toInt.toNat)
              have q25080 := Xy25077.keepF 28 (by decide)
              have Xz25081 : EM [28, 29, 30, 31, 33, 34, 35, 36, 37, 38] a0 P Y25074 := EM.tr ha0 X31 (Xy25077.mono (by decide))
              have e25082 := Xy25077.ref h25058 (by decide) e25060
              have h25083 := Xy25077.at h25058
              have h25084 := Xy25077.ar h25061
              refine g_lv (lv' := [(0, .ref a0), (1, .int a1), (2, .int a2), (3, .int a3), (4, .int a4), (5, .int v6_5), (6, .int v6_6)]) [0, 1, 2, 3, 4, 5, 6] rfl ?_
              exact J83 Y25074 Iy25076 Xz25081 W25078 (by omega) (fun b9 e9 => by rw [e25082] at e9; cases e9; omega)
            · have h25071 : a4.toInt = 0 := congrArg Int32.toInt h25071
              refine g_aload_n C dX12_chancesOf_72 rfl 0 rfl ?_
              refine g_callVV (rest := []) C mv_X12_343 [] (s_X12_findPeeled I31 W31) (h25058).1 (h25058).2 rfl rfl (by decide) (Nat.le_of_ble_eq_true rfl) (by decide) dX12_chancesOf_73 (fun Y25086 h25087 => ?_)
              obtain ⟨Iy25088, Xy25089, W25090⟩ := h25087
              have q25091 := Xy25089.keepA e25060 (by decide) rfl (a1.toInt.toNat)
              have q25092 := Xy25089.keepF 28 (by decide)
              have Xz25093 : EM [28, 29, 30, 31, 33, 34, 35, 36, 37, 38] a0 P Y25086 := EM.tr ha0 X31 (Xy25089.mono (by decide))
              have e25094 := Xy25089.ref h25058 (by decide) e25060
              have h25095 := Xy25089.at h25058
              have h25096 := Xy25089.ar h25061
              refine g_goto C 83 dX12_chancesOf_76 (by decide) ?_
              refine g_lv (lv' := [(0, .ref a0), (1, .int a1), (2, .int a2), (3, .int a3), (4, .int a4), (5, .int v6_5), (6, .int v6_6)]) [0, 1, 2, 3, 4, 5, 6] rfl ?_
              exact J83 Y25086 Iy25088 Xz25093 W25090 (by omega) (fun b9 e9 => by rw [e25094] at e9; cases e9; omega)
          · have h25070 : v31_7.toInt < a2.toInt := h25070
            refine g_iload C dX12_chancesOf_37 6 rfl ?_
            refine g_iload C dX12_chancesOf_39 7 rfl ?_
            refine a_ishr C dX12_chancesOf_41 (fun z25097 => ?_)
            refine g_iconst (v := 1) C dX12_chancesOf_42 (by decide) ?_
            refine s_iand C dX12_chancesOf_43 (by show 0 ≤ 1; omega) (fun z25099 h25100 => ?_)
            have h25100 : 0 ≤ z25099.toInt ∧ z25099.toInt ≤ 1 := h25100
            refine g_iconst (v := 1) C dX12_chancesOf_44 (by decide) ?_
            refine b_icmp_ne C 61 dX12_chancesOf_45 (by decide) (fun h25101 => ?_) (fun h25101 => ?_)
            · have h25101 : z25099.toInt ≠ 1 := ti_ne h25101
              exact J61 P31 I31 X31 W31 (by omega) (by omega) (fun b9 e9 => by rw [e25060] at e9; cases e9; omega) (by show (pI P31 a0 28).toInt ≤ 5 + v31_7.toInt; omega)
            · have h25101 : z25099.toInt = 1 := congrArg Int32.toInt h25101
              refine g_aload_n C dX12_chancesOf_48 rfl 0 rfl ?_
              refine g_aload_n C dX12_chancesOf_49 rfl 0 rfl ?_
              obtain ⟨b25102, e25103, h25104⟩ := I31.fld (h25058) 43 13 60 rfl
              refine g_getR C fi_X12_121 rfl e25103 (h25058).1 (h25058).2 dX12_chancesOf_50 ?_
              refine g_iload C dX12_chancesOf_53 7 rfl ?_
              refine g_iald (j := (v31_7.toInt.toNat)) C h25104.1 h25104.2.1 (ix_in h25104.2.2 (by omega)) dX12_chancesOf_55 ?_
              refine g_iconst (v := 0) C dX12_chancesOf_56 (by decide) ?_
              refine g_iconst (v := (-1)) C dX12_chancesOf_57 (by decide) ?_
              refine g_callVV (rest := []) C mv_X12_308 [.int (pI P31 b25102 (v31_7.toInt.toNat)), .int 0, .int (-1)] (s_X12_adds I31 (by omega) W31) (h25058).1 (h25058).2 rfl rfl (by decide) (Nat.le_of_ble_eq_true rfl) (by decide) dX12_chancesOf_58 (fun Y25106 h25107 => ?_)
              obtain ⟨Iy25108, Xy25109, W25110, p25111⟩ := h25107
              have p25111 : (pI Y25106 a0 28).toInt = (pI P31 a0 28).toInt + 1 := p25111
              have q25112 := Xy25109.keepA e25060 (by decide) rfl (a1.toInt.toNat)
              have Xz25113 : EM [28, 29, 30, 31, 33, 34, 35, 36, 37, 38] a0 P Y25106 := EM.tr ha0 X31 (Xy25109.mono (by decide))
              have e25114 := Xy25109.ref h25058 (by decide) e25060
              have h25115 := Xy25109.at h25058
              have h25116 := Xy25109.ar h25061
              have h25117 := Iy25108.rg h25115 28 rfl
              exact J61 Y25106 Iy25108 Xz25113 W25110 (by omega) (by omega) (fun b9 e9 => by rw [e25114] at e9; cases e9; omega) (by show (pI Y25106 a0 28).toInt ≤ 5 + v31_7.toInt; omega)
      refine g_iload C dX12_chancesOf_6 6 rfl ?_
      refine g_iconst (v := 1) C dX12_chancesOf_8 (by decide) ?_
      refine g_iload_n C dX12_chancesOf_9 rfl 2 rfl ?_
      refine a_ishl C dX12_chancesOf_10 (fun z25118 => ?_)
      have u25121 := ti_rng v6_6
      have u25122 := ti_rng z25118
      refine b_icmp_ge C 123 dX12_chancesOf_11 (by decide) (fun h25120 => ?_) (fun h25120 => ?_)
      · have h25120 : z25118.toInt ≤ v6_6.toInt := h25120
        refine g_iload C dX12_chancesOf_123 5 rfl ?_
        exact ret _ _ _ _ _ _ dX12_chancesOf_125 rfl (by decide) (by decide) ⟨I6, X6, W6, trivial⟩
      · have h25120 : v6_6.toInt < z25118.toInt := h25120
        refine g_iload C dX12_chancesOf_14 6 rfl ?_
        refine g_callSI (b := 0) (ci := 0) (rest := []) C ms_X12_264 [.int v6_6] (s_X12_bits I6.1) rfl rfl (by decide) (Nat.le_of_ble_eq_true rfl) (by decide) dX12_chancesOf_16 (fun r25123 Y25124 h25125 => ?_)
        obtain ⟨rfl, h25125⟩ := h25125
        have h25125 : True := h25125
        refine g_iload_n C dX12_chancesOf_19 rfl 3 rfl ?_
        have u25127 := ti_rng r25123
        have u25128 := ti_rng a3
        refine b_icmp_ne C 117 dX12_chancesOf_20 (by decide) (fun h25126 => ?_) (fun h25126 => ?_)
        · have h25126 : r25123.toInt ≠ a3.toInt := ti_ne h25126
          exact J117 P6 v6_5 I6 X6 W6 (by omega) (fun b9 e9 => by rw [e25027] at e9; cases e9; omega)
        · have h25126 : r25123.toInt = a3.toInt := congrArg Int32.toInt h25126
          refine g_aload_n C dX12_chancesOf_23 rfl 0 rfl ?_
          refine g_iload_n C dX12_chancesOf_24 rfl 1 rfl ?_
          refine g_callVV (rest := []) C mv_X12_312 [.int a1] (s_X12_begins I6 (by omega) W6) (h25025).1 (h25025).2 rfl rfl (by decide) (Nat.le_of_ble_eq_true rfl) (by decide) dX12_chancesOf_25 (fun Y25130 h25131 => ?_)
          obtain ⟨Iy25132, Xy25133, W25134, p25135⟩ := h25131
          have p25135 : (pI Y25130 a0 28).toInt ≤ 4 := p25135
          have q25136 := Xy25133.keepA e25027 (by decide) rfl (a1.toInt.toNat)
          have Xz25137 : EM [28, 29, 30, 31, 33, 34, 35, 36, 37, 38] a0 P Y25130 := EM.tr ha0 X6 (Xy25133.mono (by decide))
          have e25138 := Xy25133.ref h25025 (by decide) e25027
          have h25139 := Xy25133.at h25025
          have h25140 := Xy25133.ar h25028
          have h25141 := Iy25132.rg h25139 28 rfl
          refine g_iconst (v := 0) C dX12_chancesOf_28 (by decide) ?_
          refine g_istore (lv' := [(7, .int 0), (0, .ref a0), (1, .int a1), (2, .int a2), (3, .int a3), (4, .int a4), (5, .int v6_5), (6, .int v6_6)]) C dX12_chancesOf_29 (by decide) rfl ?_
          refine g_lv (lv' := [(0, .ref a0), (1, .int a1), (2, .int a2), (3, .int a3), (4, .int a4), (5, .int v6_5), (6, .int v6_6), (7, .int 0)]) [1, 2, 3, 4, 5, 6, 7, 0] rfl ?_
          exact J31 _ Y25130 0 (Nat.lt_succ_self _) Iy25132 Xz25137 W25134 (by omega) (by decide) (fun b9 e9 => by rw [e25138] at e9; cases e9; omega) (by show (pI Y25130 a0 28).toInt ≤ 4 + 0; omega)
  obtain ⟨b25142, e25143, h25144⟩ := I.fld (ha0) 10 13 2 rfl
  have hf0 := hf0 b25142 e25143
  refine g_iconst (v := 0) C dX12_chancesOf_0 (by decide) ?_
  refine g_istore (lv' := [(5, .int 0), (0, .ref a0), (1, .int a1), (2, .int a2), (3, .int a3), (4, .int a4)]) C dX12_chancesOf_1 (by decide) rfl ?_
  refine g_iconst (v := 0) C dX12_chancesOf_3 (by decide) ?_
  refine g_istore (lv' := [(6, .int 0), (5, .int 0), (0, .ref a0), (1, .int a1), (2, .int a2), (3, .int a3), (4, .int a4)]) C dX12_chancesOf_4 (by decide) rfl ?_
  refine g_lv (lv' := [(0, .ref a0), (1, .int a1), (2, .int a2), (3, .int a3), (4, .int a4), (5, .int 0), (6, .int 0)]) [2, 3, 4, 5, 6, 1, 0] rfl ?_
  exact J6 _ P 0 0 (Nat.lt_succ_self _) I EM.rf hW (by decide) (fun b9 e9 => by rw [e25143] at e9; cases e9; omega)
theorem dX12_chances_25 : decode cX12_chances 25 = .ok (.iconst (-1), 1) := by decide +kernel
theorem dX12_chances_26 : decode cX12_chances 26 = .ok (.ireturn, 1) := by decide +kernel
theorem dX12_chances_42 : decode cX12_chances 42 = .ok (.ireturn, 1) := by decide +kernel
set_option maxHeartbeats 4000000 in
set_option maxRecDepth 100000 in
theorem s_X12_chances {P : PP} {a0 : Nat} {a1 : Int32} {a2 : Int32} {a3 : Int32} {a4 : Int32} (I : IM P a0) (hW : MW P a0) : CtrI yX12_chances cX12_chances 5 (some Jvm.ClassFile.FieldType.int) ({ frames := 7, cells := 0, slots := 0, locals := 448 } : Room) 0 0 P [.ref a0, .int a1, .int a2, .int a3, .int a4] (fun r P2 => IM P2 a0 ∧ EM [0, 28, 29, 30, 31, 33, 34, 35, 36, 37, 38, 43] a0 P P2 ∧ MW P2 a0 ∧ (True)) := by
  refine enI (lv := [(0, .ref a0), (1, .int a1), (2, .int a2), (3, .int a3), (4, .int a4)]) (by decide) (Nat.le_of_ble_eq_true rfl) rfl (fun E D cy C Ci0 ret => ?_)
  have ha0 := I.2.1
  have J25 : ∀ (P25 : PP), (IM P25 a0) → (EM [0, 28, 29, 30, 31, 33, 34, 35, 36, 37, 38, 43] a0 P P25) → (MW P25 a0) → (0 ≤ (pI P25 a0 0).toInt ∧ (pI P25 a0 0).toInt ≤ 0) → G E ({ frames := 7, cells := 0, slots := 0, locals := 448 } : Room) D cy 5 P25 0 0 25 [] [] := by
    intro P25 I25 X25 W25 hq25_0
    have h25192 := X25.at ha0
    refine g_iconst (v := (-1)) C dX12_chances_25 (by decide) ?_
    exact ret _ _ _ _ _ _ dX12_chances_26 rfl (by decide) (by decide) ⟨I25, X25, W25, trivial⟩
  refine g_aload_n C dX12_chances_0 rfl 0 rfl ?_
  refine g_iconst (v := 0) C dX12_chances_1 (by decide) ?_
  refine g_putI C fi_X12_1 rfl (ha0).1 (ha0).2 dX12_chances_2 ?_
  refine gqW (ks := [0]) (I.setI (rgOk.of rfl (by decide))) (EM.setI I (by decide)) (fun Y25193 Iy25194 Xy25195 w25196 => ?_)
  have w25196 : (pI Y25193 a0 0).toInt = 0 := w25196
  have W25197 := hW.keep I Xy25195 (by decide) (by decide) (by decide)
  have Xz25198 : EM [0, 28, 29, 30, 31, 33, 34, 35, 36, 37, 38, 43] a0 P Y25193 := Xy25195.mono (by decide)
  have h25199 := Xy25195.at ha0
  refine g_aload_n C dX12_chances_5 rfl 0 rfl ?_
  refine g_iload_n C dX12_chances_6 rfl 1 rfl ?_
  refine g_iload_n C dX12_chances_7 rfl 2 rfl ?_
  refine g_iload C dX12_chances_8 4 rfl ?_
  refine g_callVI (rest := []) C mv_X12_377 [.int a1, .int a2, .int a4] (s_X12_areChances Iy25194 W25197) (h25199).1 (h25199).2 rfl rfl (by decide) (Nat.le_of_ble_eq_true rfl) (by decide) dX12_chances_10 (fun r25200 Y25201 h25202 => ?_)
  obtain ⟨rfl, h25202⟩ := h25202
  obtain ⟨h25202, hi25203, hi25204⟩ := h25202
  have hi25203 : r25200.toInt = 0 ∨ (((0 : Int) ≤ a1.toInt ∧ a1.toInt ≤ (1 : Int)) ∧ ((1 : Int) ≤ a2.toInt ∧ a2.toInt ≤ (11 : Int)) ∧ ((0 : Int) ≤ a4.toInt ∧ a4.toInt ≤ (1 : Int))) := hi25203
  have h25202 : 0 ≤ r25200.toInt ∧ r25200.toInt ≤ 1 := h25202
  refine b_if_eq C 25 dX12_chances_13 (by decide) (fun h25205 => ?_) (fun h25205 => ?_)
  · have h25205 : r25200.toInt = 0 := congrArg Int32.toInt h25205
    clear hi25203
    refine g_lv (lv' := []) [] rfl ?_
    exact J25 Y25193 Iy25194 Xz25198 W25197 (by omega)
  · have h25205 : r25200.toInt ≠ 0 := ti_ne h25205
    replace hi25203 := hi25203.resolve_left (by omega)
    obtain ⟨b25206, e25207, h25208⟩ := Iy25194.fld (h25199) 10 13 2 rfl
    have hi25204 := (hi25204.resolve_left (by omega)) b25206 e25207
    have hi25204 : 0 < (pI Y25193 b25206 (a1.toInt.toNat)).toInt := hi25204
    have h25209 := Iy25194.arr e25207 rfl (a1.toInt.toNat)
    refine g_iload_n C dX12_chances_16 rfl 3 rfl ?_
    refine g_iconst (v := 0) C dX12_chances_17 (by decide) ?_
    refine g_iload_n C dX12_chances_18 rfl 2 rfl ?_
    refine g_callSI (b := 0) (ci := 0) (rest := []) C ms_X12_178 [.int a3, .int 0, .int a2] (s_X12_within Iy25194.1) rfl rfl (by decide) (Nat.le_of_ble_eq_true rfl) (by decide) dX12_chances_19 (fun r25210 Y25211 h25212 => ?_)
    obtain ⟨rfl, h25212⟩ := h25212
    obtain ⟨h25212, hi25213⟩ := h25212
    have hi25213 : r25210.toInt = 0 ∨ (0 ≤ a3.toInt ∧ a3.toInt ≤ a2.toInt) := hi25213
    have h25212 : 0 ≤ r25210.toInt ∧ r25210.toInt ≤ 1 := h25212
    refine b_if_ne C 27 dX12_chances_22 (by decide) (fun h25214 => ?_) (fun h25214 => ?_)
    · have h25214 : r25210.toInt ≠ 0 := ti_ne h25214
      replace hi25213 := hi25213.resolve_left (by omega)
      refine g_aload_n C dX12_chances_27 rfl 0 rfl ?_
      refine g_iload_n C dX12_chances_28 rfl 1 rfl ?_
      refine g_iload_n C dX12_chances_29 rfl 2 rfl ?_
      refine g_callVV (rest := []) C mv_X12_380 [.int a1, .int a2] (s_X12_keepsSets Iy25194 (by omega) (by omega) (fun b9 e9 => by rw [e25207] at e9; cases e9; show 1 ≤ (pI Y25193 b25206 (a1.toInt.toNat)).toInt ∧ (pI Y25193 b25206 (a1.toInt.toNat)).toInt ≤ 16; omega) W25197) (h25199).1 (h25199).2 rfl rfl (by decide) (Nat.le_of_ble_eq_true rfl) (by decide) dX12_chances_30 (fun Y25216 h25217 => ?_)
      obtain ⟨Iy25218, Xy25219, W25220⟩ := h25217
      have q25221 := Xy25219.keepF 0 (by decide)
      have q25222 := Xy25219.keepA e25207 (by decide) rfl (a1.toInt.toNat)
      have Xz25223 : EM [0, 28, 29, 30, 31, 33, 34, 35, 36, 37, 38, 43] a0 P Y25216 := EM.tr ha0 Xz25198 (Xy25219.mono (by decide))
      have e25224 := Xy25219.ref h25199 (by decide) e25207
      have h25225 := Xy25219.at h25199
      have h25226 := Xy25219.ar h25208
      refine g_aload_n C dX12_chances_33 rfl 0 rfl ?_
      refine g_iload_n C dX12_chances_34 rfl 1 rfl ?_
      refine g_iload_n C dX12_chances_35 rfl 2 rfl ?_
      refine g_iload_n C dX12_chances_36 rfl 3 rfl ?_
      refine g_iload C dX12_chances_37 4 rfl ?_
      refine g_callVI (rest := []) C mv_X12_383 [.int a1, .int a2, .int a3, .int a4] (s_X12_chancesOf Iy25218 (by omega) (by omega) (fun b9 e9 => by rw [e25224] at e9; cases e9; show 1 ≤ (pI Y25216 b25206 (a1.toInt.toNat)).toInt ∧ (pI Y25216 b25206 (a1.toInt.toNat)).toInt ≤ 16; omega) W25220) (h25225).1 (h25225).2 rfl rfl (by decide) (Nat.le_of_ble_eq_true rfl) (by decide) dX12_chances_39 (fun r25227 Y25228 h25229 => ?_)
      obtain ⟨Iy25230, Xy25231, W25232, h25229⟩ := h25229
      have q25233 := Xy25231.keepF 0 (by decide)
      have q25234 := Xy25231.keepA e25224 (by decide) rfl (a1.toInt.toNat)
      have Xz25235 : EM [0, 28, 29, 30, 31, 33, 34, 35, 36, 37, 38, 43] a0 P Y25228 := EM.tr ha0 Xz25223 (Xy25231.mono (by decide))
      have e25236 := Xy25231.ref h25225 (by decide) e25224
      have h25237 := Xy25231.at h25225
      have h25238 := Xy25231.ar h25226
      have h25229 : True := h25229
      exact ret _ _ _ _ _ _ dX12_chances_42 rfl (by decide) (by decide) ⟨Iy25230, Xz25235, W25232, trivial⟩
    · have h25214 : r25210.toInt = 0 := congrArg Int32.toInt h25214
      clear hi25213
      refine g_lv (lv' := []) [] rfl ?_
      exact J25 Y25193 Iy25194 Xz25198 W25197 (by omega)
theorem dX12_choices_0 : decode cX12_choices 0 = .ok (.iconst 1, 1) := by decide +kernel
theorem dX12_choices_1 : decode cX12_choices 1 = .ok (.istore_n 2, 1) := by decide +kernel
theorem dX12_choices_2 : decode cX12_choices 2 = .ok (.iconst 0, 1) := by decide +kernel
theorem dX12_choices_3 : decode cX12_choices 3 = .ok (.istore_n 3, 1) := by decide +kernel
theorem dX12_choices_4 : decode cX12_choices 4 = .ok (.iload_n 3, 1) := by decide +kernel
theorem dX12_choices_5 : decode cX12_choices 5 = .ok (.iload_n 1, 1) := by decide +kernel
theorem dX12_choices_6 : decode cX12_choices 6 = .ok (.if_icmp .ge 19, 3) := by decide +kernel
theorem dX12_choices_9 : decode cX12_choices 9 = .ok (.iload_n 2, 1) := by decide +kernel
theorem dX12_choices_10 : decode cX12_choices 10 = .ok (.iload_n 0, 1) := by decide +kernel
theorem dX12_choices_11 : decode cX12_choices 11 = .ok (.iload_n 3, 1) := by decide +kernel
theorem dX12_choices_12 : decode cX12_choices 12 = .ok (.isub, 1) := by decide +kernel
theorem dX12_choices_13 : decode cX12_choices 13 = .ok (.imul, 1) := by decide +kernel
theorem dX12_choices_14 : decode cX12_choices 14 = .ok (.iload_n 3, 1) := by decide +kernel
theorem dX12_choices_15 : decode cX12_choices 15 = .ok (.iconst 1, 1) := by decide +kernel
theorem dX12_choices_16 : decode cX12_choices 16 = .ok (.iadd, 1) := by decide +kernel
theorem dX12_choices_17 : decode cX12_choices 17 = .ok (.idiv, 1) := by decide +kernel
theorem dX12_choices_18 : decode cX12_choices 18 = .ok (.istore_n 2, 1) := by decide +kernel
theorem dX12_choices_19 : decode cX12_choices 19 = .ok (.iinc 3 1, 3) := by decide +kernel
theorem dX12_choices_22 : decode cX12_choices 22 = .ok (.goto (-18), 3) := by decide +kernel
theorem dX12_choices_25 : decode cX12_choices 25 = .ok (.iload_n 2, 1) := by decide +kernel
theorem dX12_choices_26 : decode cX12_choices 26 = .ok (.ireturn, 1) := by decide +kernel
set_option maxHeartbeats 4000000 in
set_option maxRecDepth 100000 in
theorem s_X12_choices {P : PP} {a0 : Int32} {a1 : Int32} (I : IV P) (ha0 : 0 ≤ a0.toInt ∧ a0.toInt ≤ 11) (ha1 : 0 ≤ a1.toInt ∧ a1.toInt ≤ 11) : CtrI yX12_choices cX12_choices 4 (some Jvm.ClassFile.FieldType.int) ({ frames := 1, cells := 0, slots := 0, locals := 64 } : Room) 0 0 P [.int a0, .int a1] (fun r P2 => P = P2 ∧ (True)) := by
  refine enI (lv := [(0, .int a0), (1, .int a1)]) (by decide) (Nat.le_of_ble_eq_true rfl) rfl (fun E D cy C Ci0 ret => ?_)
  have J4 : ∀ (n4 : Nat) (v4_2 : Int32) (v4_3 : Int32), (11 - v4_3.toInt).toNat < n4 → (0 ≤ v4_3.toInt ∧ v4_3.toInt ≤ 11) → G E ({ frames := 1, cells := 0, slots := 0, locals := 64 } : Room) D cy 4 P 0 0 4 [(0, .int a0), (1, .int a1), (2, .int v4_2), (3, .int v4_3)] [] := by
    intro n4
    induction n4 with
    | zero => intro v4_2 v4_3 hm4 hv4_3; omega
    | succ n4 ih4 =>
      intro v4_2 v4_3 hm4 hv4_3
      refine g_iload_n C dX12_choices_4 rfl 3 rfl ?_
      refine g_iload_n C dX12_choices_5 rfl 1 rfl ?_
      refine b_icmp_ge C 25 dX12_choices_6 (by decide) (fun h25338 => ?_) (fun h25338 => ?_)
      · have h25338 : a1.toInt ≤ v4_3.toInt := h25338
        refine g_iload_n C dX12_choices_25 rfl 2 rfl ?_
        exact ret _ _ _ _ _ _ dX12_choices_26 rfl (by decide) (by decide) ⟨rfl, trivial⟩
      · have h25338 : v4_3.toInt < a1.toInt := h25338
        refine g_iload_n C dX12_choices_9 rfl 2 rfl ?_
        refine g_iload_n C dX12_choices_10 rfl 0 rfl ?_
        refine g_iload_n C dX12_choices_11 rfl 3 rfl ?_
        refine s_isub C dX12_choices_12 (by show -2147483648 ≤ a0.toInt - v4_3.toInt ∧ a0.toInt - v4_3.toInt ≤ 2147483647; omega) (fun z25339 h25340 => ?_)
        have h25340 : z25339.toInt = a0.toInt - v4_3.toInt := h25340
        refine a_imul C dX12_choices_13 (fun z25341 => ?_)
        refine g_iload_n C dX12_choices_14 rfl 3 rfl ?_
        refine g_iconst (v := 1) C dX12_choices_15 (by decide) ?_
        refine s_iadd C dX12_choices_16 (by show -2147483648 ≤ v4_3.toInt + 1 ∧ v4_3.toInt + 1 ≤ 2147483647; omega) (fun z25343 h25344 => ?_)
        have h25344 : z25343.toInt = v4_3.toInt + 1 := h25344
        refine a_idiv C dX12_choices_17 (by show z25343.toInt ≠ 0; omega) (fun z25345 => ?_)
        refine g_istore_n (lv' := [(2, .int z25345), (0, .int a0), (1, .int a1), (3, .int v4_3)]) C dX12_choices_18 rfl (by decide) rfl ?_
        refine s_iinc (lv0 := [(2, .int z25345), (0, .int a0), (1, .int a1)]) (m := 1) C dX12_choices_19 3 rfl (by decide) rfl (by decide) (by omega) (fun z25347 h25348 => ?_)
        have h25348 : z25347.toInt = v4_3.toInt + 1 := h25348
        refine g_goto C 4 dX12_choices_22 (by decide) ?_
        refine g_lv (lv' := [(0, .int a0), (1, .int a1), (2, .int z25345), (3, .int z25347)]) [2, 3, 1, 0] rfl ?_
        exact ih4 z25345 z25347 (by omega) (by omega)
  refine g_iconst (v := 1) C dX12_choices_0 (by decide) ?_
  refine g_istore_n (lv' := [(2, .int 1), (0, .int a0), (1, .int a1)]) C dX12_choices_1 rfl (by decide) rfl ?_
  refine g_iconst (v := 0) C dX12_choices_2 (by decide) ?_
  refine g_istore_n (lv' := [(3, .int 0), (2, .int 1), (0, .int a0), (1, .int a1)]) C dX12_choices_3 rfl (by decide) rfl ?_
  refine g_lv (lv' := [(0, .int a0), (1, .int a1), (2, .int 1), (3, .int 0)]) [2, 3, 1, 0] rfl ?_
  exact J4 _ 1 0 (Nat.lt_succ_self _) (by decide)
theorem dX12_comes_0 : decode cX12_comes 0 = .ok (.aload_n 0, 1) := by decide +kernel
theorem dX12_comes_1 : decode cX12_comes 1 = .ok (.iconst 0, 1) := by decide +kernel
theorem dX12_comes_2 : decode cX12_comes 2 = .ok (.putfield 1, 3) := by decide +kernel
theorem dX12_comes_5 : decode cX12_comes 5 = .ok (.iload_n 1, 1) := by decide +kernel
theorem dX12_comes_6 : decode cX12_comes 6 = .ok (.invokestatic 278, 3) := by decide +kernel
theorem dX12_comes_9 : decode cX12_comes 9 = .ok (.ifCond .eq 39, 3) := by decide +kernel
theorem dX12_comes_12 : decode cX12_comes 12 = .ok (.aload_n 0, 1) := by decide +kernel
theorem dX12_comes_13 : decode cX12_comes 13 = .ok (.iload_n 2, 1) := by decide +kernel
theorem dX12_comes_14 : decode cX12_comes 14 = .ok (.invokevirtual 192, 3) := by decide +kernel
theorem dX12_comes_17 : decode cX12_comes 17 = .ok (.ifCond .eq 31, 3) := by decide +kernel
theorem dX12_comes_20 : decode cX12_comes 20 = .ok (.iload_n 3, 1) := by decide +kernel
theorem dX12_comes_21 : decode cX12_comes 21 = .ok (.invokestatic 258, 3) := by decide +kernel
theorem dX12_isNumber_0 : decode cX12_isNumber 0 = .ok (.iload_n 0, 1) := by decide +kernel
theorem dX12_isNumber_1 : decode cX12_isNumber 1 = .ok (.iconst 0, 1) := by decide +kernel
theorem dX12_isNumber_2 : decode cX12_isNumber 2 = .ok (.sipush 9999, 3) := by decide +kernel
theorem dX12_isNumber_5 : decode cX12_isNumber 5 = .ok (.invokestatic 178, 3) := by decide +kernel
theorem dX12_isNumber_8 : decode cX12_isNumber 8 = .ok (.ireturn, 1) := by decide +kernel
set_option maxHeartbeats 4000000 in
set_option maxRecDepth 100000 in
theorem s_X12_isNumber {P : PP} {a0 : Int32} (I : IV P) : CtrI yX12_isNumber cX12_isNumber 1 (some Jvm.ClassFile.FieldType.boolean) ({ frames := 2, cells := 0, slots := 0, locals := 128 } : Room) 0 0 P [.int a0] (fun r P2 => P = P2 ∧ (0 ≤ r.toInt ∧ r.toInt ≤ 1) ∧ (r.toInt = 0 ∨ (((0 : Int) ≤ a0.toInt ∧ a0.toInt ≤ (9999 : Int))))) := by
  refine enI (lv := [(0, .int a0)]) (by decide) (Nat.le_of_ble_eq_true rfl) rfl (fun E D cy C Ci0 ret => ?_)
  refine g_iload_n C dX12_isNumber_0 rfl 0 rfl ?_
  refine g_iconst (v := 0) C dX12_isNumber_1 (by decide) ?_
  refine g_sipush (v := 9999) C dX12_isNumber_2 (by decide) ?_
  refine g_callSI (b := 0) (ci := 0) (rest := []) C ms_X12_178 [.int a0, .int 0, .int 9999] (s_X12_within I) rfl rfl (by decide) (Nat.le_of_ble_eq_true rfl) (by decide) dX12_isNumber_5 (fun r25375 Y25376 h25377 => ?_)
  obtain ⟨rfl, h25377⟩ := h25377
  obtain ⟨h25377, hi25378⟩ := h25377
  have hi25378 : r25375.toInt = 0 ∨ (0 ≤ a0.toInt ∧ a0.toInt ≤ 9999) := hi25378
  have h25377 : 0 ≤ r25375.toInt ∧ r25375.toInt ≤ 1 := h25377
  exact ret _ _ _ _ _ _ dX12_isNumber_8 (nar_b (b01 (by omega))) (by decide) (by decide) ⟨rfl, (by omega), hi25378.imp id (fun h9 => by omega)⟩
theorem dX12_comes_24 : decode cX12_comes 24 = .ok (.ifCond .eq 24, 3) := by decide +kernel
theorem dX12_comes_27 : decode cX12_comes 27 = .ok (.iload 4, 2) := by decide +kernel
theorem dX12_comes_29 : decode cX12_comes 29 = .ok (.iconst 1, 1) := by decide +kernel
theorem dX12_comes_30 : decode cX12_comes 30 = .ok (.iconst 3, 1) := by decide +kernel
theorem dX12_comes_31 : decode cX12_comes 31 = .ok (.invokestatic 178, 3) := by decide +kernel
theorem dX12_comes_34 : decode cX12_comes 34 = .ok (.ifCond .eq 14, 3) := by decide +kernel
theorem dX12_comes_37 : decode cX12_comes 37 = .ok (.aload_n 0, 1) := by decide +kernel
theorem dX12_comes_38 : decode cX12_comes 38 = .ok (.getfield 69, 3) := by decide +kernel
theorem dX12_comes_41 : decode cX12_comes 41 = .ok (.iload_n 1, 1) := by decide +kernel
theorem dX12_comes_42 : decode cX12_comes 42 = .ok (.iaload, 1) := by decide +kernel
theorem dX12_comes_43 : decode cX12_comes 43 = .ok (.bipush 40, 2) := by decide +kernel
theorem dX12_comes_45 : decode cX12_comes 45 = .ok (.if_icmp .ne 5, 3) := by decide +kernel
theorem dX12_comes_50 : decode cX12_comes 50 = .ok (.aload_n 0, 1) := by decide +kernel
theorem dX12_comes_51 : decode cX12_comes 51 = .ok (.iload_n 2, 1) := by decide +kernel
theorem dX12_comes_52 : decode cX12_comes 52 = .ok (.aload_n 0, 1) := by decide +kernel
theorem dX12_comes_53 : decode cX12_comes 53 = .ok (.iload_n 2, 1) := by decide +kernel
theorem dX12_comes_54 : decode cX12_comes 54 = .ok (.iload_n 3, 1) := by decide +kernel
theorem dX12_comes_55 : decode cX12_comes 55 = .ok (.invokevirtual 261, 3) := by decide +kernel
theorem dX12_comes_58 : decode cX12_comes 58 = .ok (.invokevirtual 223, 3) := by decide +kernel
theorem dX12_sumOf_0 : decode cX12_sumOf 0 = .ok (.iconst 0, 1) := by decide +kernel
theorem dX12_sumOf_1 : decode cX12_sumOf 1 = .ok (.istore_n 3, 1) := by decide +kernel
theorem dX12_sumOf_2 : decode cX12_sumOf 2 = .ok (.iconst 0, 1) := by decide +kernel
theorem dX12_sumOf_3 : decode cX12_sumOf 3 = .ok (.istore 4, 2) := by decide +kernel
theorem dX12_sumOf_5 : decode cX12_sumOf 5 = .ok (.iload 4, 2) := by decide +kernel
theorem dX12_sumOf_7 : decode cX12_sumOf 7 = .ok (.aload_n 0, 1) := by decide +kernel
theorem dX12_sumOf_8 : decode cX12_sumOf 8 = .ok (.getfield 45, 3) := by decide +kernel
theorem dX12_sumOf_11 : decode cX12_sumOf 11 = .ok (.iload_n 1, 1) := by decide +kernel
theorem dX12_sumOf_12 : decode cX12_sumOf 12 = .ok (.iaload, 1) := by decide +kernel
theorem dX12_sumOf_13 : decode cX12_sumOf 13 = .ok (.if_icmp .ge 38, 3) := by decide +kernel
theorem dX12_sumOf_16 : decode cX12_sumOf 16 = .ok (.iload_n 3, 1) := by decide +kernel
theorem dX12_sumOf_17 : decode cX12_sumOf 17 = .ok (.iload_n 2, 1) := by decide +kernel
theorem dX12_sumOf_18 : decode cX12_sumOf 18 = .ok (.iload 4, 2) := by decide +kernel
theorem dX12_sumOf_20 : decode cX12_sumOf 20 = .ok (.ishr, 1) := by decide +kernel
theorem dX12_sumOf_21 : decode cX12_sumOf 21 = .ok (.iconst 1, 1) := by decide +kernel
theorem dX12_sumOf_22 : decode cX12_sumOf 22 = .ok (.iand, 1) := by decide +kernel
theorem dX12_sumOf_23 : decode cX12_sumOf 23 = .ok (.iconst 1, 1) := by decide +kernel
theorem dX12_sumOf_24 : decode cX12_sumOf 24 = .ok (.if_icmp .ne 18, 3) := by decide +kernel
theorem dX12_sumOf_27 : decode cX12_sumOf 27 = .ok (.aload_n 0, 1) := by decide +kernel
theorem dX12_sumOf_28 : decode cX12_sumOf 28 = .ok (.getfield 48, 3) := by decide +kernel
theorem dX12_sumOf_31 : decode cX12_sumOf 31 = .ok (.bipush 16, 2) := by decide +kernel
theorem dX12_sumOf_33 : decode cX12_sumOf 33 = .ok (.iload_n 1, 1) := by decide +kernel
theorem dX12_sumOf_34 : decode cX12_sumOf 34 = .ok (.imul, 1) := by decide +kernel
theorem dX12_sumOf_35 : decode cX12_sumOf 35 = .ok (.iload 4, 2) := by decide +kernel
theorem dX12_sumOf_37 : decode cX12_sumOf 37 = .ok (.iadd, 1) := by decide +kernel
theorem dX12_sumOf_38 : decode cX12_sumOf 38 = .ok (.iaload, 1) := by decide +kernel
theorem dX12_sumOf_39 : decode cX12_sumOf 39 = .ok (.goto 4, 3) := by decide +kernel
theorem dX12_sumOf_42 : decode cX12_sumOf 42 = .ok (.iconst 0, 1) := by decide +kernel
theorem dX12_sumOf_43 : decode cX12_sumOf 43 = .ok (.ixor, 1) := by decide +kernel
theorem dX12_sumOf_44 : decode cX12_sumOf 44 = .ok (.istore_n 3, 1) := by decide +kernel
theorem dX12_sumOf_45 : decode cX12_sumOf 45 = .ok (.iinc 4 1, 3) := by decide +kernel
theorem dX12_sumOf_48 : decode cX12_sumOf 48 = .ok (.goto (-43), 3) := by decide +kernel
theorem dX12_sumOf_51 : decode cX12_sumOf 51 = .ok (.iconst 0, 1) := by decide +kernel
theorem dX12_sumOf_52 : decode cX12_sumOf 52 = .ok (.istore 4, 2) := by decide +kernel
theorem dX12_sumOf_54 : decode cX12_sumOf 54 = .ok (.iload 4, 2) := by decide +kernel
theorem dX12_sumOf_56 : decode cX12_sumOf 56 = .ok (.aload_n 0, 1) := by decide +kernel
theorem dX12_sumOf_57 : decode cX12_sumOf 57 = .ok (.getfield 60, 3) := by decide +kernel
theorem dX12_sumOf_60 : decode cX12_sumOf 60 = .ok (.iload_n 1, 1) := by decide +kernel
theorem dX12_sumOf_61 : decode cX12_sumOf 61 = .ok (.iaload, 1) := by decide +kernel
theorem dX12_sumOf_62 : decode cX12_sumOf 62 = .ok (.if_icmp .ge 85, 3) := by decide +kernel
theorem dX12_sumOf_65 : decode cX12_sumOf 65 = .ok (.iconst 0, 1) := by decide +kernel
theorem dX12_sumOf_66 : decode cX12_sumOf 66 = .ok (.istore 5, 2) := by decide +kernel
theorem dX12_sumOf_68 : decode cX12_sumOf 68 = .ok (.iload 5, 2) := by decide +kernel
theorem dX12_sumOf_70 : decode cX12_sumOf 70 = .ok (.aload_n 0, 1) := by decide +kernel
theorem dX12_sumOf_71 : decode cX12_sumOf 71 = .ok (.getfield 45, 3) := by decide +kernel
theorem dX12_sumOf_74 : decode cX12_sumOf 74 = .ok (.iload_n 1, 1) := by decide +kernel
theorem dX12_sumOf_75 : decode cX12_sumOf 75 = .ok (.iaload, 1) := by decide +kernel
theorem dX12_sumOf_76 : decode cX12_sumOf 76 = .ok (.if_icmp .ge 65, 3) := by decide +kernel
theorem dX12_sumOf_79 : decode cX12_sumOf 79 = .ok (.iload_n 2, 1) := by decide +kernel
theorem dX12_sumOf_80 : decode cX12_sumOf 80 = .ok (.aload_n 0, 1) := by decide +kernel
theorem dX12_sumOf_81 : decode cX12_sumOf 81 = .ok (.getfield 45, 3) := by decide +kernel
theorem dX12_sumOf_84 : decode cX12_sumOf 84 = .ok (.iload_n 1, 1) := by decide +kernel
theorem dX12_sumOf_85 : decode cX12_sumOf 85 = .ok (.iaload, 1) := by decide +kernel
theorem dX12_sumOf_86 : decode cX12_sumOf 86 = .ok (.iload 4, 2) := by decide +kernel
theorem dX12_sumOf_88 : decode cX12_sumOf 88 = .ok (.iadd, 1) := by decide +kernel
theorem dX12_sumOf_89 : decode cX12_sumOf 89 = .ok (.ishr, 1) := by decide +kernel
theorem dX12_sumOf_90 : decode cX12_sumOf 90 = .ok (.iconst 1, 1) := by decide +kernel
theorem dX12_sumOf_91 : decode cX12_sumOf 91 = .ok (.iand, 1) := by decide +kernel
theorem dX12_sumOf_92 : decode cX12_sumOf 92 = .ok (.iconst 1, 1) := by decide +kernel
theorem dX12_sumOf_93 : decode cX12_sumOf 93 = .ok (.if_icmp .ne 48, 3) := by decide +kernel
theorem dX12_sumOf_96 : decode cX12_sumOf 96 = .ok (.iload_n 3, 1) := by decide +kernel
theorem dX12_sumOf_97 : decode cX12_sumOf 97 = .ok (.aload_n 0, 1) := by decide +kernel
theorem dX12_sumOf_98 : decode cX12_sumOf 98 = .ok (.getfield 63, 3) := by decide +kernel
theorem dX12_sumOf_101 : decode cX12_sumOf 101 = .ok (.iconst 4, 1) := by decide +kernel
theorem dX12_sumOf_102 : decode cX12_sumOf 102 = .ok (.iload_n 1, 1) := by decide +kernel
theorem dX12_sumOf_103 : decode cX12_sumOf 103 = .ok (.imul, 1) := by decide +kernel
theorem dX12_sumOf_104 : decode cX12_sumOf 104 = .ok (.iload 4, 2) := by decide +kernel
theorem dX12_sumOf_106 : decode cX12_sumOf 106 = .ok (.iadd, 1) := by decide +kernel
theorem dX12_sumOf_107 : decode cX12_sumOf 107 = .ok (.iaload, 1) := by decide +kernel
theorem dX12_sumOf_108 : decode cX12_sumOf 108 = .ok (.iload 5, 2) := by decide +kernel
theorem dX12_sumOf_110 : decode cX12_sumOf 110 = .ok (.ishr, 1) := by decide +kernel
theorem dX12_sumOf_111 : decode cX12_sumOf 111 = .ok (.iconst 1, 1) := by decide +kernel
theorem dX12_sumOf_112 : decode cX12_sumOf 112 = .ok (.iand, 1) := by decide +kernel
theorem dX12_sumOf_113 : decode cX12_sumOf 113 = .ok (.iconst 1, 1) := by decide +kernel
theorem dX12_sumOf_114 : decode cX12_sumOf 114 = .ok (.if_icmp .ne 18, 3) := by decide +kernel
theorem dX12_sumOf_117 : decode cX12_sumOf 117 = .ok (.aload_n 0, 1) := by decide +kernel
theorem dX12_sumOf_118 : decode cX12_sumOf 118 = .ok (.getfield 48, 3) := by decide +kernel
theorem dX12_sumOf_121 : decode cX12_sumOf 121 = .ok (.bipush 16, 2) := by decide +kernel
theorem dX12_sumOf_123 : decode cX12_sumOf 123 = .ok (.iload_n 1, 1) := by decide +kernel
theorem dX12_sumOf_124 : decode cX12_sumOf 124 = .ok (.imul, 1) := by decide +kernel
theorem dX12_sumOf_125 : decode cX12_sumOf 125 = .ok (.iload 5, 2) := by decide +kernel
theorem dX12_sumOf_127 : decode cX12_sumOf 127 = .ok (.iadd, 1) := by decide +kernel
theorem dX12_sumOf_128 : decode cX12_sumOf 128 = .ok (.iaload, 1) := by decide +kernel
theorem dX12_sumOf_129 : decode cX12_sumOf 129 = .ok (.goto 4, 3) := by decide +kernel
theorem dX12_sumOf_132 : decode cX12_sumOf 132 = .ok (.iconst 0, 1) := by decide +kernel
theorem dX12_sumOf_133 : decode cX12_sumOf 133 = .ok (.ixor, 1) := by decide +kernel
theorem dX12_sumOf_134 : decode cX12_sumOf 134 = .ok (.istore_n 3, 1) := by decide +kernel
theorem dX12_sumOf_135 : decode cX12_sumOf 135 = .ok (.iinc 5 1, 3) := by decide +kernel
theorem dX12_sumOf_138 : decode cX12_sumOf 138 = .ok (.goto (-70), 3) := by decide +kernel
theorem dX12_sumOf_141 : decode cX12_sumOf 141 = .ok (.iinc 4 1, 3) := by decide +kernel
theorem dX12_sumOf_144 : decode cX12_sumOf 144 = .ok (.goto (-90), 3) := by decide +kernel
theorem dX12_sumOf_147 : decode cX12_sumOf 147 = .ok (.iload_n 3, 1) := by decide +kernel
theorem dX12_sumOf_148 : decode cX12_sumOf 148 = .ok (.ireturn, 1) := by decide +kernel
set_option maxHeartbeats 4000000 in
set_option maxRecDepth 100000 in
theorem s_X12_sumOf {P : PP} {a0 : Nat} {a1 : Int32} {a2 : Int32} (I : IM P a0) (ha1 : 0 ≤ a1.toInt ∧ a1.toInt ≤ 1) (hW : MW P a0) : CtrI yX12_sumOf cX12_sumOf 6 (some Jvm.ClassFile.FieldType.int) ({ frames := 1, cells := 0, slots := 0, locals := 64 } : Room) 0 0 P [.ref a0, .int a1, .int a2] (fun r P2 => P = P2 ∧ (True)) := by
  refine enI (lv := [(0, .ref a0), (1, .int a1), (2, .int a2)]) (by decide) (Nat.le_of_ble_eq_true rfl) rfl (fun E D cy C Ci0 ret => ?_)
  have ha0 := I.2.1
  have J54 : ∀ (n54 : Nat) (v54_3 : Int32) (v54_4 : Int32), (4 - v54_4.toInt).toNat < n54 → (0 ≤ v54_4.toInt ∧ v54_4.toInt ≤ 4) → G E ({ frames := 1, cells := 0, slots := 0, locals := 64 } : Room) D cy 6 P 0 0 54 [(0, .ref a0), (1, .int a1), (2, .int a2), (3, .int v54_3), (4, .int v54_4)] [] := by
    intro n54
    induction n54 with
    | zero => intro v54_3 v54_4 hm54 hv54_4; omega
    | succ n54 ih54 =>
      intro v54_3 v54_4 hm54 hv54_4
      have J141 : ∀ (v141_3 : Int32), (0 ≤ v54_4.toInt ∧ v54_4.toInt ≤ 3) → (∀ b, pR P a0 15 = some b → 1 ≤ (pI P b (a1.toInt.toNat)).toInt ∧ (pI P b (a1.toInt.toNat)).toInt ≤ 4) → G E ({ frames := 1, cells := 0, slots := 0, locals := 64 } : Room) D cy 6 P 0 0 141 [(0, .ref a0), (1, .int a1), (2, .int a2), (3, .int v141_3), (4, .int v54_4)] [] := by
        intro v141_3 hv141_4 hq141_0
        obtain ⟨b26355, e26356, h26357⟩ := I.fld (ha0) 15 13 3 rfl
        have hq141_0 := hq141_0 b26355 e26356
        refine s_iinc (lv0 := [(0, .ref a0), (1, .int a1), (2, .int a2), (3, .int v141_3)]) (m := 1) C dX12_sumOf_141 4 rfl (by decide) rfl (by decide) (by omega) (fun z26358 h26359 => ?_)
        have h26359 : z26358.toInt = v54_4.toInt + 1 := h26359
        refine g_goto C 54 dX12_sumOf_144 (by decide) ?_
        refine g_lv (lv' := [(0, .ref a0), (1, .int a1), (2, .int a2), (3, .int v141_3), (4, .int z26358)]) [1, 2, 3, 4, 0] rfl ?_
        exact ih54 v141_3 z26358 (by omega) (by omega)
      have J68 : ∀ (n68 : Nat) (v68_3 : Int32) (v68_5 : Int32), (16 - v68_5.toInt).toNat < n68 → (0 ≤ v54_4.toInt ∧ v54_4.toInt ≤ 3) → (0 ≤ v68_5.toInt ∧ v68_5.toInt ≤ 16) → (∀ b, pR P a0 15 = some b → 1 ≤ (pI P b (a1.toInt.toNat)).toInt ∧ (pI P b (a1.toInt.toNat)).toInt ≤ 4) → G E ({ frames := 1, cells := 0, slots := 0, locals := 64 } : Room) D cy 6 P 0 0 68 [(0, .ref a0), (1, .int a1), (2, .int a2), (3, .int v68_3), (4, .int v54_4), (5, .int v68_5)] [] := by
        intro n68
        induction n68 with
        | zero => intro v68_3 v68_5 hm68 hv68_4 hv68_5 hq68_0; omega
        | succ n68 ih68 =>
          intro v68_3 v68_5 hm68 hv68_4 hv68_5 hq68_0
          obtain ⟨b26360, e26361, h26362⟩ := I.fld (ha0) 15 13 3 rfl
          have hq68_0 := hq68_0 b26360 e26361
          have J133 : ∀ (v133_s0 : Int32), (0 ≤ v54_4.toInt ∧ v54_4.toInt ≤ 3) → (0 ≤ v68_5.toInt ∧ v68_5.toInt ≤ 15) → (∀ b, pR P a0 10 = some b → 1 ≤ (pI P b (a1.toInt.toNat)).toInt ∧ (pI P b (a1.toInt.toNat)).toInt ≤ 16) → (∀ b, pR P a0 15 = some b → 1 ≤ (pI P b (a1.toInt.toNat)).toInt ∧ (pI P b (a1.toInt.toNat)).toInt ≤ 4) → G E ({ frames := 1, cells := 0, slots := 0, locals := 64 } : Room) D cy 6 P 0 0 133 [(0, .ref a0), (1, .int a1), (2, .int a2), (4, .int v54_4), (5, .int v68_5)] [.int v133_s0, .int v68_3] := by
            intro v133_s0 hv133_4 hv133_5 hq133_0 hq133_1
            obtain ⟨b26363, e26364, h26365⟩ := I.fld (ha0) 10 13 2 rfl
            have hq133_0 := hq133_0 b26363 e26364
            obtain ⟨b26366, e26367, h26368⟩ := I.fld (ha0) 15 13 3 rfl
            have hq133_1 := hq133_1 b26366 e26367
            refine a_ixor C dX12_sumOf_133 (fun z26369 => ?_)
            refine g_istore_n (lv' := [(3, .int z26369), (0, .ref a0), (1, .int a1), (2, .int a2), (4, .int v54_4), (5, .int v68_5)]) C dX12_sumOf_134 rfl (by decide) rfl ?_
            refine s_iinc (lv0 := [(3, .int z26369), (0, .ref a0), (1, .int a1), (2, .int a2), (4, .int v54_4)]) (m := 1) C dX12_sumOf_135 5 rfl (by decide) rfl (by decide) (by omega) (fun z26371 h26372 => ?_)
            have h26372 : z26371.toInt = v68_5.toInt + 1 := h26372
            refine g_goto C 68 dX12_sumOf_138 (by decide) ?_
            refine g_lv (lv' := [(0, .ref a0), (1, .int a1), (2, .int a2), (3, .int z26369), (4, .int v54_4), (5, .int z26371)]) [2, 3, 4, 1, 5, 0] rfl ?_
            exact ih68 z26369 z26371 (by omega) (by omega) (by omega) (fun b9 e9 => by rw [e26367] at e9; cases e9; omega)
          refine g_iload C dX12_sumOf_68 5 rfl ?_
          refine g_aload_n C dX12_sumOf_70 rfl 0 rfl ?_
          obtain ⟨b26373, e26374, h26375⟩ := I.fld (ha0) 10 13 2 rfl
          refine g_getR C fi_X12_45 rfl e26374 (ha0).1 (ha0).2 dX12_sumOf_71 ?_
          refine g_iload_n C dX12_sumOf_74 rfl 1 rfl ?_
          refine g_iald (j := (a1.toInt.toNat)) C h26375.1 h26375.2.1 (ix_in h26375.2.2 (by omega)) dX12_sumOf_75 ?_
          have h26376 := I.arr e26374 rfl (a1.toInt.toNat)
          refine b_icmp_ge C 141 dX12_sumOf_76 (by decide) (fun h26377 => ?_) (fun h26377 => ?_)
          · have h26377 : (pI P b26373 (a1.toInt.toNat)).toInt ≤ v68_5.toInt := h26377
            refine g_lv (lv' := [(0, .ref a0), (1, .int a1), (2, .int a2), (3, .int v68_3), (4, .int v54_4)]) [0, 1, 2, 3, 4] rfl ?_
            exact J141 v68_3 (by omega) (fun b9 e9 => by rw [e26361] at e9; cases e9; omega)
          · have h26377 : v68_5.toInt < (pI P b26373 (a1.toInt.toNat)).toInt := h26377
            refine g_iload_n C dX12_sumOf_79 rfl 2 rfl ?_
            refine g_aload_n C dX12_sumOf_80 rfl 0 rfl ?_
            refine g_getR C fi_X12_45 rfl e26374 (ha0).1 (ha0).2 dX12_sumOf_81 ?_
            refine g_iload_n C dX12_sumOf_84 rfl 1 rfl ?_
            refine g_iald (j := (a1.toInt.toNat)) C h26375.1 h26375.2.1 (ix_in h26375.2.2 (by omega)) dX12_sumOf_85 ?_
            refine g_iload C dX12_sumOf_86 4 rfl ?_
            refine s_iadd C dX12_sumOf_88 (by show -2147483648 ≤ (pI P b26373 (a1.toInt.toNat)).toInt + v54_4.toInt ∧ (pI P b26373 (a1.toInt.toNat)).toInt + v54_4.toInt ≤ 2147483647; omega) (fun z26378 h26379 => ?_)
            have h26379 : z26378.toInt = (pI P b26373 (a1.toInt.toNat)).toInt + v54_4.toInt := h26379
            refine a_ishr C dX12_sumOf_89 (fun z26380 => ?_)
            refine g_iconst (v := 1) C dX12_sumOf_90 (by decide) ?_
            refine s_iand C dX12_sumOf_91 (by show 0 ≤ 1; omega) (fun z26382 h26383 => ?_)
            have h26383 : 0 ≤ z26382.toInt ∧ z26382.toInt ≤ 1 := h26383
            refine g_iconst (v := 1) C dX12_sumOf_92 (by decide) ?_
            refine b_icmp_ne C 141 dX12_sumOf_93 (by decide) (fun h26384 => ?_) (fun h26384 => ?_)
            · have h26384 : z26382.toInt ≠ 1 := ti_ne h26384
              refine g_lv (lv' := [(0, .ref a0), (1, .int a1), (2, .int a2), (3, .int v68_3), (4, .int v54_4)]) [0, 1, 2, 3, 4] rfl ?_
              exact J141 v68_3 (by omega) (fun b9 e9 => by rw [e26361] at e9; cases e9; omega)
            · have h26384 : z26382.toInt = 1 := congrArg Int32.toInt h26384
              refine g_iload_n C dX12_sumOf_96 rfl 3 rfl ?_
              refine g_aload_n C dX12_sumOf_97 rfl 0 rfl ?_
              obtain ⟨b26385, e26386, h26387⟩ := I.fld (ha0) 16 13 12 rfl
              refine g_getR C fi_X12_63 rfl e26386 (ha0).1 (ha0).2 dX12_sumOf_98 ?_
              refine g_iconst (v := 4) C dX12_sumOf_101 (by decide) ?_
              refine g_iload_n C dX12_sumOf_102 rfl 1 rfl ?_
              refine s_imul C dX12_sumOf_103 (by show -2147483648 ≤ 4 * a1.toInt ∧ 4 * a1.toInt ≤ 2147483647; omega) (fun z26388 h26389 => ?_)
              have h26389 : z26388.toInt = 4 * a1.toInt := h26389
              refine g_iload C dX12_sumOf_104 4 rfl ?_
              refine s_iadd C dX12_sumOf_106 (by show -2147483648 ≤ z26388.toInt + v54_4.toInt ∧ z26388.toInt + v54_4.toInt ≤ 2147483647; omega) (fun z26390 h26391 => ?_)
              have h26391 : z26390.toInt = z26388.toInt + v54_4.toInt := h26391
              refine g_iald (j := (z26390.toInt.toNat)) C h26387.1 h26387.2.1 (ix_in h26387.2.2 (by omega)) dX12_sumOf_107 ?_
              refine g_iload C dX12_sumOf_108 5 rfl ?_
              refine a_ishr C dX12_sumOf_110 (fun z26392 => ?_)
              refine g_iconst (v := 1) C dX12_sumOf_111 (by decide) ?_
              refine s_iand C dX12_sumOf_112 (by show 0 ≤ 1; omega) (fun z26394 h26395 => ?_)
              have h26395 : 0 ≤ z26394.toInt ∧ z26394.toInt ≤ 1 := h26395
              refine g_iconst (v := 1) C dX12_sumOf_113 (by decide) ?_
              refine b_icmp_ne C 132 dX12_sumOf_114 (by decide) (fun h26396 => ?_) (fun h26396 => ?_)
              · have h26396 : z26394.toInt ≠ 1 := ti_ne h26396
                refine g_iconst (v := 0) C dX12_sumOf_132 (by decide) ?_
                refine g_lv (lv' := [(0, .ref a0), (1, .int a1), (2, .int a2), (4, .int v54_4), (5, .int v68_5)]) [0, 1, 2, 4, 5] rfl ?_
                exact J133 0 (by omega) (by omega) (fun b9 e9 => by rw [e26374] at e9; cases e9; omega) (fun b9 e9 => by rw [e26361] at e9; cases e9; omega)
              · have h26396 : z26394.toInt = 1 := congrArg Int32.toInt h26396
                refine g_aload_n C dX12_sumOf_117 rfl 0 rfl ?_
                obtain ⟨b26397, e26398, h26399⟩ := I.fld (ha0) 11 13 32 rfl
                refine g_getR C fi_X12_48 rfl e26398 (ha0).1 (ha0).2 dX12_sumOf_118 ?_
                refine g_bipush (v := 16) C dX12_sumOf_121 (by decide) ?_
                refine g_iload_n C dX12_sumOf_123 rfl 1 rfl ?_
                refine s_imul C dX12_sumOf_124 (by show -2147483648 ≤ 16 * a1.toInt ∧ 16 * a1.toInt ≤ 2147483647; omega) (fun z26400 h26401 => ?_)
                have h26401 : z26400.toInt = 16 * a1.toInt := h26401
                refine g_iload C dX12_sumOf_125 5 rfl ?_
                refine s_iadd C dX12_sumOf_127 (by show -2147483648 ≤ z26400.toInt + v68_5.toInt ∧ z26400.toInt + v68_5.toInt ≤ 2147483647; omega) (fun z26402 h26403 => ?_)
                have h26403 : z26402.toInt = z26400.toInt + v68_5.toInt := h26403
                refine g_iald (j := (z26402.toInt.toNat)) C h26399.1 h26399.2.1 (ix_in h26399.2.2 (by omega)) dX12_sumOf_128 ?_
                refine g_goto C 133 dX12_sumOf_129 (by decide) ?_
                refine g_lv (lv' := [(0, .ref a0), (1, .int a1), (2, .int a2), (4, .int v54_4), (5, .int v68_5)]) [0, 1, 2, 4, 5] rfl ?_
                exact J133 (pI P b26397 (z26402.toInt.toNat)) (by omega) (by omega) (fun b9 e9 => by rw [e26374] at e9; cases e9; omega) (fun b9 e9 => by rw [e26361] at e9; cases e9; omega)
      refine g_iload C dX12_sumOf_54 4 rfl ?_
      refine g_aload_n C dX12_sumOf_56 rfl 0 rfl ?_
      obtain ⟨b26404, e26405, h26406⟩ := I.fld (ha0) 15 13 3 rfl
      refine g_getR C fi_X12_60 rfl e26405 (ha0).1 (ha0).2 dX12_sumOf_57 ?_
      refine g_iload_n C dX12_sumOf_60 rfl 1 rfl ?_
      refine g_iald (j := (a1.toInt.toNat)) C h26406.1 h26406.2.1 (ix_in h26406.2.2 (by omega)) dX12_sumOf_61 ?_
      have h26407 := I.arr e26405 rfl (a1.toInt.toNat)
      refine b_icmp_ge C 147 dX12_sumOf_62 (by decide) (fun h26408 => ?_) (fun h26408 => ?_)
      · have h26408 : (pI P b26404 (a1.toInt.toNat)).toInt ≤ v54_4.toInt := h26408
        refine g_iload_n C dX12_sumOf_147 rfl 3 rfl ?_
        exact ret _ _ _ _ _ _ dX12_sumOf_148 rfl (by decide) (by decide) ⟨rfl, trivial⟩
      · have h26408 : v54_4.toInt < (pI P b26404 (a1.toInt.toNat)).toInt := h26408
        refine g_iconst (v := 0) C dX12_sumOf_65 (by decide) ?_
        refine g_istore (lv' := [(5, .int 0), (0, .ref a0), (1, .int a1), (2, .int a2), (3, .int v54_3), (4, .int v54_4)]) C dX12_sumOf_66 (by decide) rfl ?_
        refine g_lv (lv' := [(0, .ref a0), (1, .int a1), (2, .int a2), (3, .int v54_3), (4, .int v54_4), (5, .int 0)]) [1, 2, 3, 4, 5, 0] rfl ?_
        exact J68 _ v54_3 0 (Nat.lt_succ_self _) (by omega) (by decide) (fun b9 e9 => by rw [e26405] at e9; cases e9; omega)
  have J5 : ∀ (n5 : Nat) (v5_3 : Int32) (v5_4 : Int32), (16 - v5_4.toInt).toNat < n5 → (0 ≤ v5_4.toInt ∧ v5_4.toInt ≤ 16) → G E ({ frames := 1, cells := 0, slots := 0, locals := 64 } : Room) D cy 6 P 0 0 5 [(0, .ref a0), (1, .int a1), (2, .int a2), (3, .int v5_3), (4, .int v5_4)] [] := by
    intro n5
    induction n5 with
    | zero => intro v5_3 v5_4 hm5 hv5_4; omega
    | succ n5 ih5 =>
      intro v5_3 v5_4 hm5 hv5_4
      have J43 : ∀ (v43_s0 : Int32), (0 ≤ v5_4.toInt ∧ v5_4.toInt ≤ 15) → (∀ b, pR P a0 10 = some b → 1 ≤ (pI P b (a1.toInt.toNat)).toInt ∧ (pI P b (a1.toInt.toNat)).toInt ≤ 16) → G E ({ frames := 1, cells := 0, slots := 0, locals := 64 } : Room) D cy 6 P 0 0 43 [(0, .ref a0), (1, .int a1), (2, .int a2), (4, .int v5_4)] [.int v43_s0, .int v5_3] := by
        intro v43_s0 hv43_4 hq43_0
        obtain ⟨b26409, e26410, h26411⟩ := I.fld (ha0) 10 13 2 rfl
        have hq43_0 := hq43_0 b26409 e26410
        refine a_ixor C dX12_sumOf_43 (fun z26412 => ?_)
        refine g_istore_n (lv' := [(3, .int z26412), (0, .ref a0), (1, .int a1), (2, .int a2), (4, .int v5_4)]) C dX12_sumOf_44 rfl (by decide) rfl ?_
        refine s_iinc (lv0 := [(3, .int z26412), (0, .ref a0), (1, .int a1), (2, .int a2)]) (m := 1) C dX12_sumOf_45 4 rfl (by decide) rfl (by decide) (by omega) (fun z26414 h26415 => ?_)
        have h26415 : z26414.toInt = v5_4.toInt + 1 := h26415
        refine g_goto C 5 dX12_sumOf_48 (by decide) ?_
        refine g_lv (lv' := [(0, .ref a0), (1, .int a1), (2, .int a2), (3, .int z26412), (4, .int z26414)]) [2, 3, 4, 1, 0] rfl ?_
        exact ih5 z26412 z26414 (by omega) (by omega)
      refine g_iload C dX12_sumOf_5 4 rfl ?_
      refine g_aload_n C dX12_sumOf_7 rfl 0 rfl ?_
      obtain ⟨b26416, e26417, h26418⟩ := I.fld (ha0) 10 13 2 rfl
      refine g_getR C fi_X12_45 rfl e26417 (ha0).1 (ha0).2 dX12_sumOf_8 ?_
      refine g_iload_n C dX12_sumOf_11 rfl 1 rfl ?_
      refine g_iald (j := (a1.toInt.toNat)) C h26418.1 h26418.2.1 (ix_in h26418.2.2 (by omega)) dX12_sumOf_12 ?_
      have h26419 := I.arr e26417 rfl (a1.toInt.toNat)
      refine b_icmp_ge C 51 dX12_sumOf_13 (by decide) (fun h26420 => ?_) (fun h26420 => ?_)
      · have h26420 : (pI P b26416 (a1.toInt.toNat)).toInt ≤ v5_4.toInt := h26420
        refine g_iconst (v := 0) C dX12_sumOf_51 (by decide) ?_
        refine g_istore (lv' := [(4, .int 0), (0, .ref a0), (1, .int a1), (2, .int a2), (3, .int v5_3)]) C dX12_sumOf_52 (by decide) rfl ?_
        refine g_lv (lv' := [(0, .ref a0), (1, .int a1), (2, .int a2), (3, .int v5_3), (4, .int 0)]) [1, 2, 3, 4, 0] rfl ?_
        exact J54 _ v5_3 0 (Nat.lt_succ_self _) (by decide)
      · have h26420 : v5_4.toInt < (pI P b26416 (a1.toInt.toNat)).toInt := h26420
        refine g_iload_n C dX12_sumOf_16 rfl 3 rfl ?_
        refine g_iload_n C dX12_sumOf_17 rfl 2 rfl ?_
        refine g_iload C dX12_sumOf_18 4 rfl ?_
        refine a_ishr C dX12_sumOf_20 (fun z26421 => ?_)
        refine g_iconst (v := 1) C dX12_sumOf_21 (by decide) ?_
        refine s_iand C dX12_sumOf_22 (by show 0 ≤ 1; omega) (fun z26423 h26424 => ?_)
        have h26424 : 0 ≤ z26423.toInt ∧ z26423.toInt ≤ 1 := h26424
        refine g_iconst (v := 1) C dX12_sumOf_23 (by decide) ?_
        refine b_icmp_ne C 42 dX12_sumOf_24 (by decide) (fun h26425 => ?_) (fun h26425 => ?_)
        · have h26425 : z26423.toInt ≠ 1 := ti_ne h26425
          refine g_iconst (v := 0) C dX12_sumOf_42 (by decide) ?_
          refine g_lv (lv' := [(0, .ref a0), (1, .int a1), (2, .int a2), (4, .int v5_4)]) [0, 1, 2, 4] rfl ?_
          exact J43 0 (by omega) (fun b9 e9 => by rw [e26417] at e9; cases e9; omega)
        · have h26425 : z26423.toInt = 1 := congrArg Int32.toInt h26425
          refine g_aload_n C dX12_sumOf_27 rfl 0 rfl ?_
          obtain ⟨b26426, e26427, h26428⟩ := I.fld (ha0) 11 13 32 rfl
          refine g_getR C fi_X12_48 rfl e26427 (ha0).1 (ha0).2 dX12_sumOf_28 ?_
          refine g_bipush (v := 16) C dX12_sumOf_31 (by decide) ?_
          refine g_iload_n C dX12_sumOf_33 rfl 1 rfl ?_
          refine s_imul C dX12_sumOf_34 (by show -2147483648 ≤ 16 * a1.toInt ∧ 16 * a1.toInt ≤ 2147483647; omega) (fun z26429 h26430 => ?_)
          have h26430 : z26429.toInt = 16 * a1.toInt := h26430
          refine g_iload C dX12_sumOf_35 4 rfl ?_
          refine s_iadd C dX12_sumOf_37 (by show -2147483648 ≤ z26429.toInt + v5_4.toInt ∧ z26429.toInt + v5_4.toInt ≤ 2147483647; omega) (fun z26431 h26432 => ?_)
          have h26432 : z26431.toInt = z26429.toInt + v5_4.toInt := h26432
          refine g_iald (j := (z26431.toInt.toNat)) C h26428.1 h26428.2.1 (ix_in h26428.2.2 (by omega)) dX12_sumOf_38 ?_
          refine g_goto C 43 dX12_sumOf_39 (by decide) ?_
          refine g_lv (lv' := [(0, .ref a0), (1, .int a1), (2, .int a2), (4, .int v5_4)]) [0, 1, 2, 4] rfl ?_
          exact J43 (pI P b26426 (z26431.toInt.toNat)) (by omega) (fun b9 e9 => by rw [e26417] at e9; cases e9; omega)
  refine g_iconst (v := 0) C dX12_sumOf_0 (by decide) ?_
  refine g_istore_n (lv' := [(3, .int 0), (0, .ref a0), (1, .int a1), (2, .int a2)]) C dX12_sumOf_1 rfl (by decide) rfl ?_
  refine g_iconst (v := 0) C dX12_sumOf_2 (by decide) ?_
  refine g_istore (lv' := [(4, .int 0), (3, .int 0), (0, .ref a0), (1, .int a1), (2, .int a2)]) C dX12_sumOf_3 (by decide) rfl ?_
  refine g_lv (lv' := [(0, .ref a0), (1, .int a1), (2, .int a2), (3, .int 0), (4, .int 0)]) [2, 3, 4, 1, 0] rfl ?_
  exact J5 _ 0 0 (Nat.lt_succ_self _) (by decide)
theorem dX12_comes_61 : decode cX12_comes 61 = .ok (.istore 5, 2) := by decide +kernel
theorem dX12_comes_63 : decode cX12_comes 63 = .ok (.aload_n 0, 1) := by decide +kernel
theorem dX12_comes_64 : decode cX12_comes 64 = .ok (.iload_n 1, 1) := by decide +kernel
theorem dX12_comes_65 : decode cX12_comes 65 = .ok (.iload_n 2, 1) := by decide +kernel
theorem dX12_comes_66 : decode cX12_comes 66 = .ok (.iload_n 3, 1) := by decide +kernel
theorem dX12_comes_67 : decode cX12_comes 67 = .ok (.iload 5, 2) := by decide +kernel
theorem dX12_comes_69 : decode cX12_comes 69 = .ok (.iload 4, 2) := by decide +kernel
theorem dX12_comes_71 : decode cX12_comes 71 = .ok (.invokestatic 281, 3) := by decide +kernel
theorem dX12_cutTo_0 : decode cX12_cutTo 0 = .ok (.iload_n 0, 1) := by decide +kernel
theorem dX12_cutTo_1 : decode cX12_cutTo 1 = .ok (.iload_n 1, 1) := by decide +kernel
theorem dX12_cutTo_2 : decode cX12_cutTo 2 = .ok (.iconst 1, 1) := by decide +kernel
theorem dX12_cutTo_3 : decode cX12_cutTo 3 = .ok (.iand, 1) := by decide +kernel
theorem dX12_cutTo_4 : decode cX12_cutTo 4 = .ok (.iconst 1, 1) := by decide +kernel
theorem dX12_cutTo_5 : decode cX12_cutTo 5 = .ok (.if_icmp .ne 9, 3) := by decide +kernel
theorem dX12_cutTo_8 : decode cX12_cutTo 8 = .ok (.sipush 255, 3) := by decide +kernel
theorem dX12_cutTo_11 : decode cX12_cutTo 11 = .ok (.goto 4, 3) := by decide +kernel
theorem dX12_cutTo_14 : decode cX12_cutTo 14 = .ok (.iconst 0, 1) := by decide +kernel
theorem dX12_cutTo_15 : decode cX12_cutTo 15 = .ok (.iload_n 1, 1) := by decide +kernel
theorem dX12_cutTo_16 : decode cX12_cutTo 16 = .ok (.iconst 2, 1) := by decide +kernel
theorem dX12_cutTo_17 : decode cX12_cutTo 17 = .ok (.iand, 1) := by decide +kernel
theorem dX12_cutTo_18 : decode cX12_cutTo 18 = .ok (.iconst 2, 1) := by decide +kernel
theorem dX12_cutTo_19 : decode cX12_cutTo 19 = .ok (.if_icmp .ne 9, 3) := by decide +kernel
theorem dX12_cutTo_22 : decode cX12_cutTo 22 = .ok (.ldc_w 277, 3) := by decide +kernel
theorem dX12_cutTo_25 : decode cX12_cutTo 25 = .ok (.goto 4, 3) := by decide +kernel
theorem dX12_cutTo_28 : decode cX12_cutTo 28 = .ok (.iconst 0, 1) := by decide +kernel
theorem dX12_cutTo_29 : decode cX12_cutTo 29 = .ok (.iadd, 1) := by decide +kernel
theorem dX12_cutTo_30 : decode cX12_cutTo 30 = .ok (.iand, 1) := by decide +kernel
theorem dX12_cutTo_31 : decode cX12_cutTo 31 = .ok (.ireturn, 1) := by decide +kernel
set_option maxHeartbeats 4000000 in
set_option maxRecDepth 100000 in
theorem s_X12_cutTo {P : PP} {a0 : Int32} {a1 : Int32} (I : IV P) : CtrI yX12_cutTo cX12_cutTo 2 (some Jvm.ClassFile.FieldType.int) ({ frames := 1, cells := 0, slots := 0, locals := 64 } : Room) 0 0 P [.int a0, .int a1] (fun r P2 => P = P2 ∧ (0 ≤ r.toInt ∧ r.toInt ≤ 65535)) := by
  refine enI (lv := [(0, .int a0), (1, .int a1)]) (by decide) (Nat.le_of_ble_eq_true rfl) rfl (fun E D cy C Ci0 ret => ?_)
  have J29 : ∀ (v29_s0 : Int32) (v29_s1 : Int32), (0 ≤ v29_s0.toInt ∧ v29_s0.toInt ≤ 65280) → (0 ≤ v29_s1.toInt ∧ v29_s1.toInt ≤ 255) → G E ({ frames := 1, cells := 0, slots := 0, locals := 64 } : Room) D cy 2 P 0 0 29 [] [.int v29_s0, .int v29_s1, .int a0] := by
    intro v29_s0 v29_s1 hv29_s0 hv29_s1
    refine s_iadd C dX12_cutTo_29 (by show -2147483648 ≤ v29_s1.toInt + v29_s0.toInt ∧ v29_s1.toInt + v29_s0.toInt ≤ 2147483647; omega) (fun z26498 h26499 => ?_)
    have h26499 : z26498.toInt = v29_s1.toInt + v29_s0.toInt := h26499
    refine s_iand C dX12_cutTo_30 (by show 0 ≤ z26498.toInt; omega) (fun z26500 h26501 => ?_)
    have h26501 : 0 ≤ z26500.toInt ∧ z26500.toInt ≤ z26498.toInt := h26501
    exact ret _ _ _ _ _ _ dX12_cutTo_31 rfl (by decide) (by decide) ⟨rfl, (by omega)⟩
  have J15 : ∀ (v15_s0 : Int32), (0 ≤ v15_s0.toInt ∧ v15_s0.toInt ≤ 255) → G E ({ frames := 1, cells := 0, slots := 0, locals := 64 } : Room) D cy 2 P 0 0 15 [(1, .int a1)] [.int v15_s0, .int a0] := by
    intro v15_s0 hv15_s0
    refine g_iload_n C dX12_cutTo_15 rfl 0 rfl ?_
    refine g_iconst (v := 2) C dX12_cutTo_16 (by decide) ?_
    refine s_iand C dX12_cutTo_17 (by show 0 ≤ 2; omega) (fun z26502 h26503 => ?_)
    have h26503 : 0 ≤ z26502.toInt ∧ z26502.toInt ≤ 2 := h26503
    refine g_iconst (v := 2) C dX12_cutTo_18 (by decide) ?_
    refine b_icmp_ne C 28 dX12_cutTo_19 (by decide) (fun h26504 => ?_) (fun h26504 => ?_)
    · have h26504 : z26502.toInt ≠ 2 := ti_ne h26504
      refine g_iconst (v := 0) C dX12_cutTo_28 (by decide) ?_
      refine g_lv (lv' := []) [] rfl ?_
      exact J29 0 v15_s0 (by decide) (by omega)
    · have h26504 : z26502.toInt = 2 := congrArg Int32.toInt h26504
      refine g_ldcw (v := 65280) C kc_X12_277 dX12_cutTo_22 ?_
      refine g_goto C 29 dX12_cutTo_25 (by decide) ?_
      refine g_lv (lv' := []) [] rfl ?_
      exact J29 65280 v15_s0 (by decide) (by omega)
  refine g_iload_n C dX12_cutTo_0 rfl 0 rfl ?_
  refine g_iload_n C dX12_cutTo_1 rfl 1 rfl ?_
  refine g_iconst (v := 1) C dX12_cutTo_2 (by decide) ?_
  refine s_iand C dX12_cutTo_3 (by show 0 ≤ 1; omega) (fun z26505 h26506 => ?_)
  have h26506 : 0 ≤ z26505.toInt ∧ z26505.toInt ≤ 1 := h26506
  refine g_iconst (v := 1) C dX12_cutTo_4 (by decide) ?_
  refine b_icmp_ne C 14 dX12_cutTo_5 (by decide) (fun h26507 => ?_) (fun h26507 => ?_)
  · have h26507 : z26505.toInt ≠ 1 := ti_ne h26507
    refine g_iconst (v := 0) C dX12_cutTo_14 (by decide) ?_
    refine g_lv (lv' := [(1, .int a1)]) [1] rfl ?_
    exact J15 0 (by decide)
  · have h26507 : z26505.toInt = 1 := congrArg Int32.toInt h26507
    refine g_sipush (v := 255) C dX12_cutTo_8 (by decide) ?_
    refine g_goto C 15 dX12_cutTo_11 (by decide) ?_
    refine g_lv (lv' := [(1, .int a1)]) [1] rfl ?_
    exact J15 255 (by decide)
theorem dX12_comes_74 : decode cX12_comes 74 = .ok (.iload 4, 2) := by decide +kernel
theorem dX12_comes_76 : decode cX12_comes 76 = .ok (.aload_n 0, 1) := by decide +kernel
theorem dX12_comes_77 : decode cX12_comes 77 = .ok (.iload_n 2, 1) := by decide +kernel
theorem dX12_comes_78 : decode cX12_comes 78 = .ok (.iload_n 3, 1) := by decide +kernel
theorem dX12_comes_79 : decode cX12_comes 79 = .ok (.iload 5, 2) := by decide +kernel
theorem dX12_comes_81 : decode cX12_comes 81 = .ok (.invokevirtual 267, 3) := by decide +kernel
theorem dX12_sealOf_0 : decode cX12_sealOf 0 = .ok (.aload_n 0, 1) := by decide +kernel
theorem dX12_sealOf_1 : decode cX12_sealOf 1 = .ok (.getfield 66, 3) := by decide +kernel
theorem dX12_sealOf_4 : decode cX12_sealOf 4 = .ok (.iload_n 1, 1) := by decide +kernel
theorem dX12_sealOf_5 : decode cX12_sealOf 5 = .ok (.iaload, 1) := by decide +kernel
theorem dX12_sealOf_6 : decode cX12_sealOf 6 = .ok (.ifCond .ne 7, 3) := by decide +kernel
theorem dX12_sealOf_9 : decode cX12_sealOf 9 = .ok (.iconst 0, 1) := by decide +kernel
theorem dX12_sealOf_10 : decode cX12_sealOf 10 = .ok (.goto 22, 3) := by decide +kernel
theorem dX12_sealOf_13 : decode cX12_sealOf 13 = .ok (.iload_n 2, 1) := by decide +kernel
theorem dX12_sealOf_14 : decode cX12_sealOf 14 = .ok (.iconst 1, 1) := by decide +kernel
theorem dX12_sealOf_15 : decode cX12_sealOf 15 = .ok (.iadd, 1) := by decide +kernel
theorem dX12_sealOf_16 : decode cX12_sealOf 16 = .ok (.aload_n 0, 1) := by decide +kernel
theorem dX12_sealOf_17 : decode cX12_sealOf 17 = .ok (.getfield 66, 3) := by decide +kernel
theorem dX12_sealOf_20 : decode cX12_sealOf 20 = .ok (.iload_n 1, 1) := by decide +kernel
theorem dX12_sealOf_21 : decode cX12_sealOf 21 = .ok (.iaload, 1) := by decide +kernel
theorem dX12_sealOf_22 : decode cX12_sealOf 22 = .ok (.imul, 1) := by decide +kernel
theorem dX12_sealOf_23 : decode cX12_sealOf 23 = .ok (.bipush 31, 2) := by decide +kernel
theorem dX12_sealOf_25 : decode cX12_sealOf 25 = .ok (.iload_n 3, 1) := by decide +kernel
theorem dX12_sealOf_26 : decode cX12_sealOf 26 = .ok (.imul, 1) := by decide +kernel
theorem dX12_sealOf_27 : decode cX12_sealOf 27 = .ok (.iadd, 1) := by decide +kernel
theorem dX12_sealOf_28 : decode cX12_sealOf 28 = .ok (.sipush 997, 3) := by decide +kernel
theorem dX12_sealOf_31 : decode cX12_sealOf 31 = .ok (.irem, 1) := by decide +kernel
theorem dX12_sealOf_32 : decode cX12_sealOf 32 = .ok (.ireturn, 1) := by decide +kernel
set_option maxHeartbeats 4000000 in
set_option maxRecDepth 100000 in
theorem s_X12_sealOf {P : PP} {a0 : Nat} {a1 : Int32} {a2 : Int32} {a3 : Int32} (I : IM P a0) (ha1 : 0 ≤ a1.toInt ∧ a1.toInt ≤ 1) (hW : MW P a0) : CtrI yX12_sealOf cX12_sealOf 4 (some Jvm.ClassFile.FieldType.int) ({ frames := 1, cells := 0, slots := 0, locals := 64 } : Room) 0 0 P [.ref a0, .int a1, .int a2, .int a3] (fun r P2 => P = P2 ∧ (True)) := by
  refine enI (lv := [(0, .ref a0), (1, .int a1), (2, .int a2), (3, .int a3)]) (by decide) (Nat.le_of_ble_eq_true rfl) rfl (fun E D cy C Ci0 ret => ?_)
  have ha0 := I.2.1
  refine g_aload_n C dX12_sealOf_0 rfl 0 rfl ?_
  obtain ⟨b26581, e26582, h26583⟩ := I.fld (ha0) 17 13 3 rfl
  refine g_getR C fi_X12_66 rfl e26582 (ha0).1 (ha0).2 dX12_sealOf_1 ?_
  refine g_iload_n C dX12_sealOf_4 rfl 1 rfl ?_
  refine g_iald (j := (a1.toInt.toNat)) C h26583.1 h26583.2.1 (ix_in h26583.2.2 (by omega)) dX12_sealOf_5 ?_
  have u26585 := ti_rng (pI P b26581 (a1.toInt.toNat))
  refine b_if_ne C 13 dX12_sealOf_6 (by decide) (fun h26584 => ?_) (fun h26584 => ?_)
  · have h26584 : (pI P b26581 (a1.toInt.toNat)).toInt ≠ 0 := ti_ne h26584
    refine g_iload_n C dX12_sealOf_13 rfl 2 rfl ?_
    refine g_iconst (v := 1) C dX12_sealOf_14 (by decide) ?_
    refine a_iadd C dX12_sealOf_15 (fun z26586 => ?_)
    refine g_aload_n C dX12_sealOf_16 rfl 0 rfl ?_
    refine g_getR C fi_X12_66 rfl e26582 (ha0).1 (ha0).2 dX12_sealOf_17 ?_
    refine g_iload_n C dX12_sealOf_20 rfl 1 rfl ?_
    refine g_iald (j := (a1.toInt.toNat)) C h26583.1 h26583.2.1 (ix_in h26583.2.2 (by omega)) dX12_sealOf_21 ?_
    refine a_imul C dX12_sealOf_22 (fun z26588 => ?_)
    refine g_bipush (v := 31) C dX12_sealOf_23 (by decide) ?_
    refine g_iload_n C dX12_sealOf_25 rfl 3 rfl ?_
    refine a_imul C dX12_sealOf_26 (fun z26590 => ?_)
    refine a_iadd C dX12_sealOf_27 (fun z26592 => ?_)
    refine g_sipush (v := 997) C dX12_sealOf_28 (by decide) ?_
    refine a_irem C dX12_sealOf_31 (by show 997 ≠ 0; omega) (fun z26594 => ?_)
    exact ret _ _ _ _ _ _ dX12_sealOf_32 rfl (by decide) (by decide) ⟨rfl, trivial⟩
  · have h26584 : (pI P b26581 (a1.toInt.toNat)).toInt = 0 := congrArg Int32.toInt h26584
    refine g_iconst (v := 0) C dX12_sealOf_9 (by decide) ?_
    refine g_goto C 32 dX12_sealOf_10 (by decide) ?_
    exact ret _ _ _ _ _ _ dX12_sealOf_32 rfl (by decide) (by decide) ⟨rfl, trivial⟩
theorem dX12_comes_84 : decode cX12_comes 84 = .ok (.invokevirtual 284, 3) := by decide +kernel
theorem dX12_lays_0 : decode cX12_lays 0 = .ok (.bipush 40, 2) := by decide +kernel
theorem dX12_lays_2 : decode cX12_lays 2 = .ok (.iload_n 1, 1) := by decide +kernel
theorem dX12_lays_3 : decode cX12_lays 3 = .ok (.imul, 1) := by decide +kernel
theorem dX12_lays_4 : decode cX12_lays 4 = .ok (.aload_n 0, 1) := by decide +kernel
theorem dX12_lays_5 : decode cX12_lays 5 = .ok (.getfield 69, 3) := by decide +kernel
theorem dX12_lays_8 : decode cX12_lays 8 = .ok (.iload_n 1, 1) := by decide +kernel
theorem dX12_lays_9 : decode cX12_lays 9 = .ok (.iaload, 1) := by decide +kernel
theorem dX12_lays_10 : decode cX12_lays 10 = .ok (.iadd, 1) := by decide +kernel
theorem dX12_lays_11 : decode cX12_lays 11 = .ok (.istore 7, 2) := by decide +kernel
theorem dX12_lays_13 : decode cX12_lays 13 = .ok (.aload_n 0, 1) := by decide +kernel
theorem dX12_lays_14 : decode cX12_lays 14 = .ok (.getfield 72, 3) := by decide +kernel
theorem dX12_lays_17 : decode cX12_lays 17 = .ok (.iload 7, 2) := by decide +kernel
theorem dX12_lays_19 : decode cX12_lays 19 = .ok (.iload_n 3, 1) := by decide +kernel
theorem dX12_lays_20 : decode cX12_lays 20 = .ok (.iastore, 1) := by decide +kernel
theorem dX12_lays_21 : decode cX12_lays 21 = .ok (.aload_n 0, 1) := by decide +kernel
theorem dX12_lays_22 : decode cX12_lays 22 = .ok (.getfield 75, 3) := by decide +kernel
theorem dX12_lays_25 : decode cX12_lays 25 = .ok (.iload 7, 2) := by decide +kernel
theorem dX12_lays_27 : decode cX12_lays 27 = .ok (.iload_n 2, 1) := by decide +kernel
theorem dX12_lays_28 : decode cX12_lays 28 = .ok (.iastore, 1) := by decide +kernel
theorem dX12_lays_29 : decode cX12_lays 29 = .ok (.aload_n 0, 1) := by decide +kernel
theorem dX12_lays_30 : decode cX12_lays 30 = .ok (.getfield 78, 3) := by decide +kernel
theorem dX12_lays_33 : decode cX12_lays 33 = .ok (.iload 7, 2) := by decide +kernel
theorem dX12_lays_35 : decode cX12_lays 35 = .ok (.iload 4, 2) := by decide +kernel
theorem dX12_lays_37 : decode cX12_lays 37 = .ok (.iastore, 1) := by decide +kernel
theorem dX12_lays_38 : decode cX12_lays 38 = .ok (.aload_n 0, 1) := by decide +kernel
theorem dX12_lays_39 : decode cX12_lays 39 = .ok (.getfield 81, 3) := by decide +kernel
theorem dX12_lays_42 : decode cX12_lays 42 = .ok (.iload 7, 2) := by decide +kernel
theorem dX12_lays_44 : decode cX12_lays 44 = .ok (.iload 5, 2) := by decide +kernel
theorem dX12_lays_46 : decode cX12_lays 46 = .ok (.iastore, 1) := by decide +kernel
theorem dX12_lays_47 : decode cX12_lays 47 = .ok (.aload_n 0, 1) := by decide +kernel
theorem dX12_lays_48 : decode cX12_lays 48 = .ok (.getfield 84, 3) := by decide +kernel
theorem dX12_lays_51 : decode cX12_lays 51 = .ok (.iload 7, 2) := by decide +kernel
theorem dX12_lays_53 : decode cX12_lays 53 = .ok (.iload 6, 2) := by decide +kernel
theorem dX12_lays_55 : decode cX12_lays 55 = .ok (.iastore, 1) := by decide +kernel
theorem dX12_lays_56 : decode cX12_lays 56 = .ok (.aload_n 0, 1) := by decide +kernel
theorem dX12_lays_57 : decode cX12_lays 57 = .ok (.getfield 69, 3) := by decide +kernel
theorem dX12_lays_60 : decode cX12_lays 60 = .ok (.iload_n 1, 1) := by decide +kernel
theorem dX12_lays_61 : decode cX12_lays 61 = .ok (.dup2, 1) := by decide +kernel
theorem dX12_lays_62 : decode cX12_lays 62 = .ok (.iaload, 1) := by decide +kernel
theorem dX12_lays_63 : decode cX12_lays 63 = .ok (.iconst 1, 1) := by decide +kernel
theorem dX12_lays_64 : decode cX12_lays 64 = .ok (.iadd, 1) := by decide +kernel
theorem dX12_lays_65 : decode cX12_lays 65 = .ok (.iastore, 1) := by decide +kernel
theorem dX12_lays_66 : decode cX12_lays 66 = .ok (.aload_n 0, 1) := by decide +kernel
theorem dX12_lays_67 : decode cX12_lays 67 = .ok (.getfield 69, 3) := by decide +kernel
theorem dX12_lays_70 : decode cX12_lays 70 = .ok (.iload_n 1, 1) := by decide +kernel
theorem dX12_lays_71 : decode cX12_lays 71 = .ok (.iaload, 1) := by decide +kernel
theorem dX12_lays_72 : decode cX12_lays 72 = .ok (.iconst 1, 1) := by decide +kernel
theorem dX12_lays_73 : decode cX12_lays 73 = .ok (.isub, 1) := by decide +kernel
theorem dX12_lays_74 : decode cX12_lays 74 = .ok (.ireturn, 1) := by decide +kernel
set_option maxHeartbeats 4000000 in
set_option maxRecDepth 100000 in
theorem s_X12_lays {P : PP} {a0 : Nat} {a1 : Int32} {a2 : Int32} {a3 : Int32} {a4 : Int32} {a5 : Int32} {a6 : Int32} (I : IM P a0) (ha1 : 0 ≤ a1.toInt ∧ a1.toInt ≤ 3) (ha2 : -1 ≤ a2.toInt ∧ a2.toInt ≤ 1) (hf0 : ∀ b, pR P a0 20 = some b → 0 ≤ (pI P b (a1.toInt.toNat)).toInt ∧ (pI P b (a1.toInt.toNat)).toInt ≤ 39) (hW : MW P a0) (hl : ∀ c, pR P a0 10 = some c → 0 ≤ a2.toInt → 0 < (pI P c (a2.toInt.toNat)).toInt) : CtrI yX12_lays cX12_lays 8 (some Jvm.ClassFile.FieldType.int) ({ frames := 1, cells := 0, slots := 0, locals := 64 } : Room) 0 0 P [.ref a0, .int a1, .int a2, .int a3, .int a4, .int a5, .int a6] (fun r P2 => IM P2 a0 ∧ EM [20, 21, 22, 23, 24, 25] a0 P P2 ∧ MW P2 a0 ∧ (∀ b, pR P a0 20 = some b → (pI P2 b (a1.toInt.toNat)).toInt = (pI P b (a1.toInt.toNat)).toInt + 1) ∧ (0 ≤ r.toInt ∧ r.toInt ≤ 39)) := by
  refine enI (lv := [(0, .ref a0), (1, .int a1), (2, .int a2), (3, .int a3), (4, .int a4), (5, .int a5), (6, .int a6)]) (by decide) (Nat.le_of_ble_eq_true rfl) rfl (fun E D cy C Ci0 ret => ?_)
  have ha0 := I.2.1
  obtain ⟨b26797, e26798, h26799⟩ := I.fld (ha0) 20 13 20 rfl
  have hf0 := hf0 b26797 e26798
  refine g_bipush (v := 40) C dX12_lays_0 (by decide) ?_
  refine g_iload_n C dX12_lays_2 rfl 1 rfl ?_
  refine s_imul C dX12_lays_3 (by show -2147483648 ≤ 40 * a1.toInt ∧ 40 * a1.toInt ≤ 2147483647; omega) (fun z26800 h26801 => ?_)
  have h26801 : z26800.toInt = 40 * a1.toInt := h26801
  refine g_aload_n C dX12_lays_4 rfl 0 rfl ?_
  refine g_getR C fi_X12_69 rfl e26798 (ha0).1 (ha0).2 dX12_lays_5 ?_
  refine g_iload_n C dX12_lays_8 rfl 1 rfl ?_
  refine g_iald (j := (a1.toInt.toNat)) C h26799.1 h26799.2.1 (ix_in h26799.2.2 (by omega)) dX12_lays_9 ?_
  refine s_iadd C dX12_lays_10 (by show -2147483648 ≤ z26800.toInt + (pI P b26797 (a1.toInt.toNat)).toInt ∧ z26800.toInt + (pI P b26797 (a1.toInt.toNat)).toInt ≤ 2147483647; omega) (fun z26802 h26803 => ?_)
  have h26803 : z26802.toInt = z26800.toInt + (pI P b26797 (a1.toInt.toNat)).toInt := h26803
  refine g_istore (lv' := [(7, .int z26802), (0, .ref a0), (1, .int a1), (2, .int a2), (3, .int a3), (4, .int a4), (5, .int a5), (6, .int a6)]) C dX12_lays_11 (by decide) rfl ?_
  refine g_aload_n C dX12_lays_13 rfl 1 rfl ?_
  obtain ⟨b26804, e26805, h26806⟩ := I.fld (ha0) 21 13 800 rfl
  refine g_getR C fi_X12_72 rfl e26805 (ha0).1 (ha0).2 dX12_lays_14 ?_
  refine g_iload C dX12_lays_17 0 rfl ?_
  refine g_iload_n C dX12_lays_19 rfl 4 rfl ?_
  refine g_iast (j := (z26802.toInt.toNat)) C h26806.1 h26806.2.1 (ix_in h26806.2.2 (by omega)) dX12_lays_20 ?_
  refine gqW (ks := [21]) (I.setA e26805 h26806 (by decide) (arOk.none rfl)) (EM.setA I e26805 rfl (by decide)) (fun Y26807 Iy26808 Xy26809 w26810 => ?_)
  have w26810 : (pI Y26807 b26804 (z26802.toInt.toNat)).toInt = a3.toInt := w26810
  have q26811 := Xy26809.keepA e26798 (by decide) rfl (a1.toInt.toNat)
  have W26812 := hW.keep I Xy26809 (by decide) (by decide) (by decide)
  have Xz26813 : EM [20, 21, 22, 23, 24, 25] a0 P Y26807 := Xy26809.mono (by decide)
  have e26814 := Xy26809.ref ha0 (by decide) e26798
  have e26815 := Xy26809.ref ha0 (by decide) e26805
  have h26816 := Xy26809.at ha0
  have h26817 := Xy26809.ar h26799
  have h26818 := Xy26809.ar h26806
  refine g_aload_n C dX12_lays_21 rfl 1 rfl ?_
  obtain ⟨b26819, e26820, h26821⟩ := Iy26808.fld (h26816) 22 13 800 rfl
  refine g_getR C fi_X12_75 rfl e26820 (h26816).1 (h26816).2 dX12_lays_22 ?_
  refine g_iload C dX12_lays_25 0 rfl ?_
  refine g_iload_n C dX12_lays_27 rfl 3 rfl ?_
  refine g_iast (j := (z26802.toInt.toNat)) C h26821.1 h26821.2.1 (ix_in h26821.2.2 (by omega)) dX12_lays_28 ?_
  refine gqX (ks := [22]) (W := (fun P => MW P a0)) (Iy26808.setA e26820 h26821 (by decide) (arOk.of rfl (by omega))) (EM.setA Iy26808 e26820 rfl (by decide)) (W26812.set22 Iy26808 e26820 (fun c9 f9 h9 => by have f8 := EM.refB Xz26813 ha0 f9; have q9 := Xz26813.keepA f8 (by decide) rfl (a2.toInt.toNat); have h8 := hl c9 f8 h9; omega)) (fun Y26822 Iy26823 Xy26824 w26825 W26826 => ?_)
  have w26825 : (pI Y26822 b26819 (z26802.toInt.toNat)).toInt = a2.toInt := w26825
  have q26827 := Xy26824.keepA e26814 (by decide) rfl (a1.toInt.toNat)
  have q26828 := Xy26824.keepA e26815 (by decide) rfl (z26802.toInt.toNat)
  have Xz26829 : EM [20, 21, 22, 23, 24, 25] a0 P Y26822 := EM.tr ha0 Xz26813 (Xy26824.mono (by decide))
  have e26830 := Xy26824.ref h26816 (by decide) e26814
  have e26831 := Xy26824.ref h26816 (by decide) e26815
  have e26832 := Xy26824.ref h26816 (by decide) e26820
  have h26833 := Xy26824.at h26816
  have h26834 := Xy26824.ar h26817
  have h26835 := Xy26824.ar h26818
  have h26836 := Xy26824.ar h26821
  refine g_aload_n C dX12_lays_29 rfl 1 rfl ?_
  obtain ⟨b26837, e26838, h26839⟩ := Iy26823.fld (h26833) 23 13 800 rfl
  refine g_getR C fi_X12_78 rfl e26838 (h26833).1 (h26833).2 dX12_lays_30 ?_
  refine g_iload C dX12_lays_33 0 rfl ?_
  refine g_iload C dX12_lays_35 5 rfl ?_
  refine g_iast (j := (z26802.toInt.toNat)) C h26839.1 h26839.2.1 (ix_in h26839.2.2 (by omega)) dX12_lays_37 ?_
  refine gqW (ks := [23]) (Iy26823.setA e26838 h26839 (by decide) (arOk.none rfl)) (EM.setA Iy26823 e26838 rfl (by decide)) (fun Y26840 Iy26841 Xy26842 w26843 => ?_)
  have w26843 : (pI Y26840 b26837 (z26802.toInt.toNat)).toInt = a4.toInt := w26843
  have q26844 := Xy26842.keepA e26830 (by decide) rfl (a1.toInt.toNat)
  have q26845 := Xy26842.keepA e26831 (by decide) rfl (z26802.toInt.toNat)
  have q26846 := Xy26842.keepA e26832 (by decide) rfl (z26802.toInt.toNat)
  have W26847 := W26826.keep Iy26823 Xy26842 (by decide) (by decide) (by decide)
  have Xz26848 : EM [20, 21, 22, 23, 24, 25] a0 P Y26840 := EM.tr ha0 Xz26829 (Xy26842.mono (by decide))
  have e26849 := Xy26842.ref h26833 (by decide) e26830
  have e26850 := Xy26842.ref h26833 (by decide) e26831
  have e26851 := Xy26842.ref h26833 (by decide) e26832
  have e26852 := Xy26842.ref h26833 (by decide) e26838
  have h26853 := Xy26842.at h26833
  have h26854 := Xy26842.ar h26834
  have h26855 := Xy26842.ar h26835
  have h26856 := Xy26842.ar h26836
  have h26857 := Xy26842.ar h26839
  refine g_aload_n C dX12_lays_38 rfl 1 rfl ?_
  obtain ⟨b26858, e26859, h26860⟩ := Iy26841.fld (h26853) 24 13 800 rfl
  refine g_getR C fi_X12_81 rfl e26859 (h26853).1 (h26853).2 dX12_lays_39 ?_
  refine g_iload C dX12_lays_42 0 rfl ?_
  refine g_iload C dX12_lays_44 6 rfl ?_
  refine g_iast (j := (z26802.toInt.toNat)) C h26860.1 h26860.2.1 (ix_in h26860.2.2 (by omega)) dX12_lays_46 ?_
  refine gqW (ks := [24]) (Iy26841.setA e26859 h26860 (by decide) (arOk.none rfl)) (EM.setA Iy26841 e26859 rfl (by decide)) (fun Y26861 Iy26862 Xy26863 w26864 => ?_)
  have w26864 : (pI Y26861 b26858 (z26802.toInt.toNat)).toInt = a5.toInt := w26864
  have q26865 := Xy26863.keepA e26849 (by decide) rfl (a1.toInt.toNat)
  have q26866 := Xy26863.keepA e26850 (by decide) rfl (z26802.toInt.toNat)
  have q26867 := Xy26863.keepA e26851 (by decide) rfl (z26802.toInt.toNat)
  have q26868 := Xy26863.keepA e26852 (by decide) rfl (z26802.toInt.toNat)
  have W26869 := W26847.keep Iy26841 Xy26863 (by decide) (by decide) (by decide)
  have Xz26870 : EM [20, 21, 22, 23, 24, 25] a0 P Y26861 := EM.tr ha0 Xz26848 (Xy26863.mono (by decide))
  have e26871 := Xy26863.ref h26853 (by decide) e26849
  have e26872 := Xy26863.ref h26853 (by decide) e26850
  have e26873 := Xy26863.ref h26853 (by decide) e26851
  have e26874 := Xy26863.ref h26853 (by decide) e26852
  have e26875 := Xy26863.ref h26853 (by decide) e26859
  have h26876 := Xy26863.at h26853
  have h26877 := Xy26863.ar h26854
  have h26878 := Xy26863.ar h26855
  have h26879 := Xy26863.ar h26856
  have h26880 := Xy26863.ar h26857
  have h26881 := Xy26863.ar h26860
  refine g_aload_n C dX12_lays_47 rfl 1 rfl ?_
  obtain ⟨b26882, e26883, h26884⟩ := Iy26862.fld (h26876) 25 13 800 rfl
  refine g_getR C fi_X12_84 rfl e26883 (h26876).1 (h26876).2 dX12_lays_48 ?_
  refine g_iload C dX12_lays_51 0 rfl ?_
  refine g_iload C dX12_lays_53 7 rfl ?_
  refine g_iast (j := (z26802.toInt.toNat)) C h26884.1 h26884.2.1 (ix_in h26884.2.2 (by omega)) dX12_lays_55 ?_
  refine gqW (ks := [25]) (Iy26862.setA e26883 h26884 (by decide) (arOk.none rfl)) (EM.setA Iy26862 e26883 rfl (by decide)) (fun Y26885 Iy26886 Xy26887 w26888 => ?_)
  have w26888 : (pI Y26885 b26882 (z26802.toInt.toNat)).toInt = a6.toInt := w26888
  have q26889 := Xy26887.keepA e26871 (by decide) rfl (a1.toInt.toNat)
  have q26890 := Xy26887.keepA e26872 (by decide) rfl (z26802.toInt.toNat)
  have q26891 := Xy26887.keepA e26873 (by decide) rfl (z26802.toInt.toNat)
  have q26892 := Xy26887.keepA e26874 (by decide) rfl (z26802.toInt.toNat)
  have q26893 := Xy26887.keepA e26875 (by decide) rfl (z26802.toInt.toNat)
  have W26894 := W26869.keep Iy26862 Xy26887 (by decide) (by decide) (by decide)
  have Xz26895 : EM [20, 21, 22, 23, 24, 25] a0 P Y26885 := EM.tr ha0 Xz26870 (Xy26887.mono (by decide))
  have e26896 := Xy26887.ref h26876 (by decide) e26871
  have e26897 := Xy26887.ref h26876 (by decide) e26872
  have e26898 := Xy26887.ref h26876 (by decide) e26873
  have e26899 := Xy26887.ref h26876 (by decide) e26874
  have e26900 := Xy26887.ref h26876 (by decide) e26875
  have e26901 := Xy26887.ref h26876 (by decide) e26883
  have h26902 := Xy26887.at h26876
  have h26903 := Xy26887.ar h26877
  have h26904 := Xy26887.ar h26878
  have h26905 := Xy26887.ar h26879
  have h26906 := Xy26887.ar h26880
  have h26907 := Xy26887.ar h26881
  have h26908 := Xy26887.ar h26884
  refine g_aload_n C dX12_lays_56 rfl 1 rfl ?_
  refine g_getR C fi_X12_69 rfl e26896 (h26902).1 (h26902).2 dX12_lays_57 ?_
  refine g_iload_n C dX12_lays_60 rfl 2 rfl ?_
  refine g_dup2_11 C dX12_lays_61 rfl rfl ?_
  refine g_iald (j := (a1.toInt.toNat)) C h26903.1 h26903.2.1 (ix_in h26903.2.2 (by omega)) dX12_lays_62 ?_
  refine g_iconst (v := 1) C dX12_lays_63 (by decide) ?_
  refine s_iadd C dX12_lays_64 (by show -2147483648 ≤ (pI Y26885 b26797 (a1.toInt.toNat)).toInt + 1 ∧ (pI Y26885 b26797 (a1.toInt.toNat)).toInt + 1 ≤ 2147483647; omega) (fun z26909 h26910 => ?_)
  have h26910 : z26909.toInt = (pI Y26885 b26797 (a1.toInt.toNat)).toInt + 1 := h26910
  refine g_iast (j := (a1.toInt.toNat)) C h26903.1 h26903.2.1 (ix_in h26903.2.2 (by omega)) dX12_lays_65 ?_
  refine gqW (ks := [20]) (Iy26886.setA e26896 h26903 (by decide) (arOk.of rfl (by omega))) (EM.setA Iy26886 e26896 rfl (by decide)) (fun Y26911 Iy26912 Xy26913 w26914 => ?_)
  have w26914 : (pI Y26911 b26797 (a1.toInt.toNat)).toInt = z26909.toInt := w26914
  have q26915 := Xy26913.keepA e26897 (by decide) rfl (z26802.toInt.toNat)
  have q26916 := Xy26913.keepA e26898 (by decide) rfl (z26802.toInt.toNat)
  have q26917 := Xy26913.keepA e26899 (by decide) rfl (z26802.toInt.toNat)
  have q26918 := Xy26913.keepA e26900 (by decide) rfl (z26802.toInt.toNat)
  have q26919 := Xy26913.keepA e26901 (by decide) rfl (z26802.toInt.toNat)
  have W26920 := W26894.keep Iy26886 Xy26913 (by decide) (by decide) (by decide)
  have Xz26921 : EM [20, 21, 22, 23, 24, 25] a0 P Y26911 := EM.tr ha0 Xz26895 (Xy26913.mono (by decide))
  have e26922 := Xy26913.ref h26902 (by decide) e26896
  have e26923 := Xy26913.ref h26902 (by decide) e26897
  have e26924 := Xy26913.ref h26902 (by decide) e26898
  have e26925 := Xy26913.ref h26902 (by decide) e26899
  have e26926 := Xy26913.ref h26902 (by decide) e26900
  have e26927 := Xy26913.ref h26902 (by decide) e26901
  have h26928 := Xy26913.at h26902
  have h26929 := Xy26913.ar h26903
  have h26930 := Xy26913.ar h26904
  have h26931 := Xy26913.ar h26905
  have h26932 := Xy26913.ar h26906
  have h26933 := Xy26913.ar h26907
  have h26934 := Xy26913.ar h26908
  refine g_aload_n C dX12_lays_66 rfl 1 rfl ?_
  refine g_getR C fi_X12_69 rfl e26922 (h26928).1 (h26928).2 dX12_lays_67 ?_
  refine g_iload_n C dX12_lays_70 rfl 2 rfl ?_
  refine g_iald (j := (a1.toInt.toNat)) C h26929.1 h26929.2.1 (ix_in h26929.2.2 (by omega)) dX12_lays_71 ?_
  refine g_iconst (v := 1) C dX12_lays_72 (by decide) ?_
  refine s_isub C dX12_lays_73 (by show -2147483648 ≤ (pI Y26911 b26797 (a1.toInt.toNat)).toInt - 1 ∧ (pI Y26911 b26797 (a1.toInt.toNat)).toInt - 1 ≤ 2147483647; omega) (fun z26935 h26936 => ?_)
  have h26936 : z26935.toInt = (pI Y26911 b26797 (a1.toInt.toNat)).toInt - 1 := h26936
  exact ret _ _ _ _ _ _ dX12_lays_74 rfl (by decide) (by decide) ⟨Iy26912, Xz26921, W26920, (fun b9 e9 => by have e8 := EM.ref Xz26921 ha0 (by decide) e9; rw [e26922] at e8; cases e8; show (pI Y26911 b26797 (a1.toInt.toNat)).toInt = (pI P b26797 (a1.toInt.toNat)).toInt + 1; omega), (by omega)⟩
theorem dX12_comes_48 : decode cX12_comes 48 = .ok (.iconst (-1), 1) := by decide +kernel
theorem dX12_comes_49 : decode cX12_comes 49 = .ok (.ireturn, 1) := by decide +kernel
theorem dX12_comes_87 : decode cX12_comes 87 = .ok (.ireturn, 1) := by decide +kernel
set_option maxHeartbeats 4000000 in
set_option maxRecDepth 100000 in
theorem s_X12_comes {P : PP} {a0 : Nat} {a1 : Int32} {a2 : Int32} {a3 : Int32} {a4 : Int32} (I : IM P a0) (hW : MW P a0) : CtrI yX12_comes cX12_comes 6 (some Jvm.ClassFile.FieldType.int) ({ frames := 6, cells := 0, slots := 0, locals := 384 } : Room) 0 0 P [.ref a0, .int a1, .int a2, .int a3, .int a4] (fun r P2 => IM P2 a0 ∧ EM [0, 20, 21, 22, 23, 24, 25] a0 P P2 ∧ MW P2 a0 ∧ (-1 ≤ r.toInt ∧ r.toInt ≤ 39)) := by
  refine enI (lv := [(0, .ref a0), (1, .int a1), (2, .int a2), (3, .int a3), (4, .int a4)]) (by decide) (Nat.le_of_ble_eq_true rfl) rfl (fun E D cy C Ci0 ret => ?_)
  have ha0 := I.2.1
  have J48 : ∀ (P48 : PP), (IM P48 a0) → (EM [0, 20, 21, 22, 23, 24, 25] a0 P P48) → (MW P48 a0) → (0 ≤ (pI P48 a0 0).toInt ∧ (pI P48 a0 0).toInt ≤ 0) → G E ({ frames := 6, cells := 0, slots := 0, locals := 384 } : Room) D cy 6 P48 0 0 48 [] [] := by
    intro P48 I48 X48 W48 hq48_0
    have h27014 := X48.at ha0
    refine g_iconst (v := (-1)) C dX12_comes_48 (by decide) ?_
    exact ret _ _ _ _ _ _ dX12_comes_49 rfl (by decide) (by decide) ⟨I48, X48, W48, (by decide)⟩
  refine g_aload_n C dX12_comes_0 rfl 0 rfl ?_
  refine g_iconst (v := 0) C dX12_comes_1 (by decide) ?_
  refine g_putI C fi_X12_1 rfl (ha0).1 (ha0).2 dX12_comes_2 ?_
  refine gqW (ks := [0]) (I.setI (rgOk.of rfl (by decide))) (EM.setI I (by decide)) (fun Y27015 Iy27016 Xy27017 w27018 => ?_)
  have w27018 : (pI Y27015 a0 0).toInt = 0 := w27018
  have W27019 := hW.keep I Xy27017 (by decide) (by decide) (by decide)
  have Xz27020 : EM [0, 20, 21, 22, 23, 24, 25] a0 P Y27015 := Xy27017.mono (by decide)
  have h27021 := Xy27017.at ha0
  refine g_iload_n C dX12_comes_5 rfl 1 rfl ?_
  refine g_callSI (b := 0) (ci := 0) (rest := []) C ms_X12_278 [.int a1] (s_X12_isQuarter Iy27016.1) rfl rfl (by decide) (Nat.le_of_ble_eq_true rfl) (by decide) dX12_comes_6 (fun r27022 Y27023 h27024 => ?_)
  obtain ⟨rfl, h27024⟩ := h27024
  obtain ⟨h27024, hi27025⟩ := h27024
  have hi27025 : r27022.toInt = 0 ∨ (((0 : Int) ≤ a1.toInt ∧ a1.toInt ≤ (3 : Int))) := hi27025
  have h27024 : 0 ≤ r27022.toInt ∧ r27022.toInt ≤ 1 := h27024
  refine b_if_eq C 48 dX12_comes_9 (by decide) (fun h27026 => ?_) (fun h27026 => ?_)
  · have h27026 : r27022.toInt = 0 := congrArg Int32.toInt h27026
    clear hi27025
    refine g_lv (lv' := []) [] rfl ?_
    exact J48 Y27015 Iy27016 Xz27020 W27019 (by omega)
  · have h27026 : r27022.toInt ≠ 0 := ti_ne h27026
    replace hi27025 := hi27025.resolve_left (by omega)
    refine g_aload_n C dX12_comes_12 rfl 0 rfl ?_
    refine g_iload_n C dX12_comes_13 rfl 2 rfl ?_
    refine g_callVI (rest := []) C mv_X12_192 [.int a2] (s_X12_isBook Iy27016 W27019) (h27021).1 (h27021).2 rfl rfl (by decide) (Nat.le_of_ble_eq_true rfl) (by decide) dX12_comes_14 (fun r27027 Y27028 h27029 => ?_)
    obtain ⟨rfl, h27029⟩ := h27029
    obtain ⟨h27029, hi27030, hi27031⟩ := h27029
    have hi27030 : r27027.toInt = 0 ∨ (((0 : Int) ≤ a2.toInt ∧ a2.toInt ≤ (1 : Int))) := hi27030
    have h27029 : 0 ≤ r27027.toInt ∧ r27027.toInt ≤ 1 := h27029
    refine b_if_eq C 48 dX12_comes_17 (by decide) (fun h27032 => ?_) (fun h27032 => ?_)
    · have h27032 : r27027.toInt = 0 := congrArg Int32.toInt h27032
      clear hi27030
      refine g_lv (lv' := []) [] rfl ?_
      exact J48 Y27015 Iy27016 Xz27020 W27019 (by omega)
    · have h27032 : r27027.toInt ≠ 0 := ti_ne h27032
      replace hi27030 := hi27030.resolve_left (by omega)
      obtain ⟨b27033, e27034, h27035⟩ := Iy27016.fld (h27021) 10 13 2 rfl
      have hi27031 := (hi27031.resolve_left (by omega)) b27033 e27034
      have hi27031 : 0 < (pI Y27015 b27033 (a2.toInt.toNat)).toInt := hi27031
      have h27036 := Iy27016.arr e27034 rfl (a2.toInt.toNat)
      refine g_iload_n C dX12_comes_20 rfl 3 rfl ?_
      refine g_callSI (b := 0) (ci := 0) (rest := []) C ms_X12_258 [.int a3] (s_X12_isNumber Iy27016.1) rfl rfl (by decide) (Nat.le_of_ble_eq_true rfl) (by decide) dX12_comes_21 (fun r27037 Y27038 h27039 => ?_)
      obtain ⟨rfl, h27039⟩ := h27039
      obtain ⟨h27039, hi27040⟩ := h27039
      have hi27040 : r27037.toInt = 0 ∨ (((0 : Int) ≤ a3.toInt ∧ a3.toInt ≤ (9999 : Int))) := hi27040
      have h27039 : 0 ≤ r27037.toInt ∧ r27037.toInt ≤ 1 := h27039
      refine b_if_eq C 48 dX12_comes_24 (by decide) (fun h27041 => ?_) (fun h27041 => ?_)
      · have h27041 : r27037.toInt = 0 := congrArg Int32.toInt h27041
        clear hi27040
        refine g_lv (lv' := []) [] rfl ?_
        exact J48 Y27015 Iy27016 Xz27020 W27019 (by omega)
      · have h27041 : r27037.toInt ≠ 0 := ti_ne h27041
        replace hi27040 := hi27040.resolve_left (by omega)
        refine g_iload C dX12_comes_27 4 rfl ?_
        refine g_iconst (v := 1) C dX12_comes_29 (by decide) ?_
        refine g_iconst (v := 3) C dX12_comes_30 (by decide) ?_
        refine g_callSI (b := 0) (ci := 0) (rest := []) C ms_X12_178 [.int a4, .int 1, .int 3] (s_X12_within Iy27016.1) rfl rfl (by decide) (Nat.le_of_ble_eq_true rfl) (by decide) dX12_comes_31 (fun r27042 Y27043 h27044 => ?_)
        obtain ⟨rfl, h27044⟩ := h27044
        obtain ⟨h27044, hi27045⟩ := h27044
        have hi27045 : r27042.toInt = 0 ∨ (1 ≤ a4.toInt ∧ a4.toInt ≤ 3) := hi27045
        have h27044 : 0 ≤ r27042.toInt ∧ r27042.toInt ≤ 1 := h27044
        refine b_if_eq C 48 dX12_comes_34 (by decide) (fun h27046 => ?_) (fun h27046 => ?_)
        · have h27046 : r27042.toInt = 0 := congrArg Int32.toInt h27046
          clear hi27045
          refine g_lv (lv' := []) [] rfl ?_
          exact J48 Y27015 Iy27016 Xz27020 W27019 (by omega)
        · have h27046 : r27042.toInt ≠ 0 := ti_ne h27046
          replace hi27045 := hi27045.resolve_left (by omega)
          refine g_aload_n C dX12_comes_37 rfl 0 rfl ?_
          obtain ⟨b27047, e27048, h27049⟩ := Iy27016.fld (h27021) 20 13 20 rfl
          refine g_getR C fi_X12_69 rfl e27048 (h27021).1 (h27021).2 dX12_comes_38 ?_
          refine g_iload_n C dX12_comes_41 rfl 1 rfl ?_
          refine g_iald (j := (a1.toInt.toNat)) C h27049.1 h27049.2.1 (ix_in h27049.2.2 (by omega)) dX12_comes_42 ?_
          have h27050 := Iy27016.arr e27048 rfl (a1.toInt.toNat)
          refine g_bipush (v := 40) C dX12_comes_43 (by decide) ?_
          refine b_icmp_ne C 50 dX12_comes_45 (by decide) (fun h27051 => ?_) (fun h27051 => ?_)
          · have h27051 : (pI Y27015 b27047 (a1.toInt.toNat)).toInt ≠ 40 := ti_ne h27051
            refine g_aload_n C dX12_comes_50 rfl 0 rfl ?_
            refine g_iload_n C dX12_comes_51 rfl 2 rfl ?_
            refine g_aload_n C dX12_comes_52 rfl 0 rfl ?_
            refine g_iload_n C dX12_comes_53 rfl 2 rfl ?_
            refine g_iload_n C dX12_comes_54 rfl 3 rfl ?_
            refine g_callVI (rest := [.int a2, .ref a0]) C mv_X12_261 [.int a2, .int a3] (s_X12_setOf Iy27016 (by omega) (fun b9 e9 => by rw [e27034] at e9; cases e9; show 1 ≤ (pI Y27015 b27033 (a2.toInt.toNat)).toInt ∧ (pI Y27015 b27033 (a2.toInt.toNat)).toInt ≤ 16; omega) W27019) (h27021).1 (h27021).2 rfl rfl (by decide) (Nat.le_of_ble_eq_true rfl) (by decide) dX12_comes_55 (fun r27052 Y27053 h27054 => ?_)
            obtain ⟨Iy27055, Xy27056, W27057, h27054⟩ := h27054
            have q27058 := Xy27056.keepF 0 (by decide)
            have q27059 := Xy27056.keepA e27034 (by decide) rfl (a2.toInt.toNat)
            have q27060 := Xy27056.keepA e27048 (by decide) rfl (a1.toInt.toNat)
            have Xz27061 : EM [0, 20, 21, 22, 23, 24, 25] a0 P Y27053 := EM.tr ha0 Xz27020 (Xy27056.mono (by decide))
            have e27062 := Xy27056.ref h27021 (by decide) e27034
            have e27063 := Xy27056.ref h27021 (by decide) e27048
            have h27064 := Xy27056.at h27021
            have h27065 := Xy27056.ar h27035
            have h27066 := Xy27056.ar h27049
            have h27054 : True := h27054
            refine g_callVI (rest := []) C mv_X12_223 [.int a2, .int r27052] (s_X12_sumOf Iy27055 (by omega) W27057) (h27064).1 (h27064).2 rfl rfl (by decide) (Nat.le_of_ble_eq_true rfl) (by decide) dX12_comes_58 (fun r27067 Y27068 h27069 => ?_)
            obtain ⟨rfl, h27069⟩ := h27069
            have h27069 : True := h27069
            refine g_istore (lv' := [(5, .int r27067), (0, .ref a0), (1, .int a1), (2, .int a2), (3, .int a3), (4, .int a4)]) C dX12_comes_61 (by decide) rfl ?_
            refine g_aload_n C dX12_comes_63 rfl 1 rfl ?_
            refine g_iload_n C dX12_comes_64 rfl 2 rfl ?_
            refine g_iload_n C dX12_comes_65 rfl 3 rfl ?_
            refine g_iload_n C dX12_comes_66 rfl 4 rfl ?_
            refine g_iload C dX12_comes_67 0 rfl ?_
            refine g_iload C dX12_comes_69 5 rfl ?_
            refine g_callSI (b := 0) (ci := 0) (rest := [.int a3, .int a2, .int a1, .ref a0]) C ms_X12_281 [.int r27067, .int a4] (s_X12_cutTo Iy27055.1) rfl rfl (by decide) (Nat.le_of_ble_eq_true rfl) (by decide) dX12_comes_71 (fun r27070 Y27071 h27072 => ?_)
            obtain ⟨rfl, h27072⟩ := h27072
            have h27072 : 0 ≤ r27070.toInt ∧ r27070.toInt ≤ 65535 := h27072
            refine g_iload C dX12_comes_74 5 rfl ?_
            refine g_aload_n C dX12_comes_76 rfl 1 rfl ?_
            refine g_iload_n C dX12_comes_77 rfl 3 rfl ?_
            refine g_iload_n C dX12_comes_78 rfl 4 rfl ?_
            refine g_iload C dX12_comes_79 0 rfl ?_
            refine g_callVI (rest := [.int a4, .int r27070, .int a3, .int a2, .int a1, .ref a0]) C mv_X12_267 [.int a2, .int a3, .int r27067] (s_X12_sealOf Iy27055 (by omega) W27057) (h27064).1 (h27064).2 rfl rfl (by decide) (Nat.le_of_ble_eq_true rfl) (by decide) dX12_comes_81 (fun r27073 Y27074 h27075 => ?_)
            obtain ⟨rfl, h27075⟩ := h27075
            have h27075 : True := h27075
            refine g_callVI (rest := []) C mv_X12_284 [.int a1, .int a2, .int a3, .int r27070, .int a4, .int r27073] (s_X12_lays Iy27055 (by omega) (by omega) (fun b9 e9 => by rw [e27063] at e9; cases e9; show 0 ≤ (pI Y27053 b27047 (a1.toInt.toNat)).toInt ∧ (pI Y27053 b27047 (a1.toInt.toNat)).toInt ≤ 39; omega) W27057 (fun c9 f9 _ => by rw [e27062] at f9; cases f9; show 0 < (pI Y27053 b27033 (a2.toInt.toNat)).toInt; omega)) (h27064).1 (h27064).2 rfl rfl (by decide) (Nat.le_of_ble_eq_true rfl) (by decide) dX12_comes_84 (fun r27076 Y27077 h27078 => ?_)
            obtain ⟨Iy27079, Xy27080, W27081, p27082, h27078⟩ := h27078
            have p27082 := p27082 b27047 e27063
            have p27082 : (pI Y27077 b27047 (a1.toInt.toNat)).toInt = (pI Y27053 b27047 (a1.toInt.toNat)).toInt + 1 := p27082
            have q27083 := Xy27080.keepF 0 (by decide)
            have q27084 := Xy27080.keepA e27062 (by decide) rfl (a2.toInt.toNat)
            have Xz27085 : EM [0, 20, 21, 22, 23, 24, 25] a0 P Y27077 := EM.tr ha0 Xz27061 (Xy27080.mono (by decide))
            have e27086 := Xy27080.ref h27064 (by decide) e27062
            have e27087 := Xy27080.ref h27064 (by decide) e27063
            have h27088 := Xy27080.at h27064
            have h27089 := Xy27080.ar h27065
            have h27090 := Xy27080.ar h27066
            have h27078 : 0 ≤ r27076.toInt ∧ r27076.toInt ≤ 39 := h27078
            exact ret _ _ _ _ _ _ dX12_comes_87 rfl (by decide) (by decide) ⟨Iy27079, Xz27085, W27081, (by omega)⟩
          · have h27051 : (pI Y27015 b27047 (a1.toInt.toNat)).toInt = 40 := congrArg Int32.toInt h27051
            refine g_lv (lv' := []) [] rfl ?_
            exact J48 Y27015 Iy27016 Xz27020 W27019 (by omega)
theorem dX12_comesTo_0 : decode cX12_comesTo 0 = .ok (.aload_n 0, 1) := by decide +kernel
theorem dX12_comesTo_1 : decode cX12_comesTo 1 = .ok (.getfield 94, 3) := by decide +kernel
theorem dX12_comesTo_4 : decode cX12_comesTo 4 = .ok (.iload_n 1, 1) := by decide +kernel
theorem dX12_comesTo_5 : decode cX12_comesTo 5 = .ok (.iaload, 1) := by decide +kernel
theorem dX12_comesTo_6 : decode cX12_comesTo 6 = .ok (.istore_n 2, 1) := by decide +kernel
theorem dX12_comesTo_7 : decode cX12_comesTo 7 = .ok (.iconst 0, 1) := by decide +kernel
theorem dX12_comesTo_8 : decode cX12_comesTo 8 = .ok (.istore_n 3, 1) := by decide +kernel
theorem dX12_comesTo_9 : decode cX12_comesTo 9 = .ok (.iload_n 3, 1) := by decide +kernel
theorem dX12_comesTo_10 : decode cX12_comesTo 10 = .ok (.bipush 20, 2) := by decide +kernel
theorem dX12_comesTo_12 : decode cX12_comesTo 12 = .ok (.if_icmp .ge 40, 3) := by decide +kernel
theorem dX12_comesTo_15 : decode cX12_comesTo 15 = .ok (.iload_n 2, 1) := by decide +kernel
theorem dX12_comesTo_16 : decode cX12_comesTo 16 = .ok (.aload_n 0, 1) := by decide +kernel
theorem dX12_comesTo_17 : decode cX12_comesTo 17 = .ok (.getfield 91, 3) := by decide +kernel
theorem dX12_comesTo_20 : decode cX12_comesTo 20 = .ok (.iload_n 1, 1) := by decide +kernel
theorem dX12_comesTo_21 : decode cX12_comesTo 21 = .ok (.iaload, 1) := by decide +kernel
theorem dX12_comesTo_22 : decode cX12_comesTo 22 = .ok (.aload_n 0, 1) := by decide +kernel
theorem dX12_comesTo_23 : decode cX12_comesTo 23 = .ok (.getfield 318, 3) := by decide +kernel
theorem dX12_comesTo_26 : decode cX12_comesTo 26 = .ok (.iand, 1) := by decide +kernel
theorem dX12_comesTo_27 : decode cX12_comesTo 27 = .ok (.iconst 1, 1) := by decide +kernel
theorem dX12_comesTo_28 : decode cX12_comesTo 28 = .ok (.iload_n 3, 1) := by decide +kernel
theorem dX12_comesTo_29 : decode cX12_comesTo 29 = .ok (.ishl, 1) := by decide +kernel
theorem dX12_comesTo_30 : decode cX12_comesTo 30 = .ok (.iand, 1) := by decide +kernel
theorem dX12_comesTo_31 : decode cX12_comesTo 31 = .ok (.ifCond .eq 12, 3) := by decide +kernel
theorem dX12_comesTo_34 : decode cX12_comesTo 34 = .ok (.aload_n 0, 1) := by decide +kernel
theorem dX12_comesTo_35 : decode cX12_comesTo 35 = .ok (.getfield 103, 3) := by decide +kernel
theorem dX12_comesTo_38 : decode cX12_comesTo 38 = .ok (.iload_n 3, 1) := by decide +kernel
theorem dX12_comesTo_39 : decode cX12_comesTo 39 = .ok (.iaload, 1) := by decide +kernel
theorem dX12_comesTo_40 : decode cX12_comesTo 40 = .ok (.goto 4, 3) := by decide +kernel
theorem dX12_comesTo_43 : decode cX12_comesTo 43 = .ok (.iconst 0, 1) := by decide +kernel
theorem dX12_comesTo_44 : decode cX12_comesTo 44 = .ok (.ixor, 1) := by decide +kernel
theorem dX12_comesTo_45 : decode cX12_comesTo 45 = .ok (.istore_n 2, 1) := by decide +kernel
theorem dX12_comesTo_46 : decode cX12_comesTo 46 = .ok (.iinc 3 1, 3) := by decide +kernel
theorem dX12_comesTo_49 : decode cX12_comesTo 49 = .ok (.goto (-40), 3) := by decide +kernel
theorem dX12_comesTo_52 : decode cX12_comesTo 52 = .ok (.iload_n 2, 1) := by decide +kernel
theorem dX12_comesTo_53 : decode cX12_comesTo 53 = .ok (.ireturn, 1) := by decide +kernel
set_option maxHeartbeats 4000000 in
set_option maxRecDepth 100000 in
theorem s_X12_comesTo {P : PP} {a0 : Nat} {a1 : Int32} (I : IM P a0) (ha1 : 0 ≤ a1.toInt ∧ a1.toInt ≤ 63) (hW : MW P a0) : CtrI yX12_comesTo cX12_comesTo 4 (some Jvm.ClassFile.FieldType.int) ({ frames := 1, cells := 0, slots := 0, locals := 64 } : Room) 0 0 P [.ref a0, .int a1] (fun r P2 => P = P2 ∧ (True)) := by
  refine enI (lv := [(0, .ref a0), (1, .int a1)]) (by decide) (Nat.le_of_ble_eq_true rfl) rfl (fun E D cy C Ci0 ret => ?_)
  have ha0 := I.2.1
  have J9 : ∀ (n9 : Nat) (v9_2 : Int32) (v9_3 : Int32), (20 - v9_3.toInt).toNat < n9 → (0 ≤ v9_3.toInt ∧ v9_3.toInt ≤ 20) → G E ({ frames := 1, cells := 0, slots := 0, locals := 64 } : Room) D cy 4 P 0 0 9 [(0, .ref a0), (1, .int a1), (2, .int v9_2), (3, .int v9_3)] [] := by
    intro n9
    induction n9 with
    | zero => intro v9_2 v9_3 hm9 hv9_3; omega
    | succ n9 ih9 =>
      intro v9_2 v9_3 hm9 hv9_3
      have J44 : ∀ (v44_s0 : Int32), (0 ≤ v9_3.toInt ∧ v9_3.toInt ≤ 19) → G E ({ frames := 1, cells := 0, slots := 0, locals := 64 } : Room) D cy 4 P 0 0 44 [(0, .ref a0), (1, .int a1), (3, .int v9_3)] [.int v44_s0, .int v9_2] := by
        intro v44_s0 hv44_3
        refine a_ixor C dX12_comesTo_44 (fun z27343 => ?_)
        refine g_istore_n (lv' := [(2, .int z27343), (0, .ref a0), (1, .int a1), (3, .int v9_3)]) C dX12_comesTo_45 rfl (by decide) rfl ?_
        refine s_iinc (lv0 := [(2, .int z27343), (0, .ref a0), (1, .int a1)]) (m := 1) C dX12_comesTo_46 3 rfl (by decide) rfl (by decide) (by omega) (fun z27345 h27346 => ?_)
        have h27346 : z27345.toInt = v9_3.toInt + 1 := h27346
        refine g_goto C 9 dX12_comesTo_49 (by decide) ?_
        refine g_lv (lv' := [(0, .ref a0), (1, .int a1), (2, .int z27343), (3, .int z27345)]) [2, 3, 1, 0] rfl ?_
        exact ih9 z27343 z27345 (by omega) (by omega)
      refine g_iload_n C dX12_comesTo_9 rfl 3 rfl ?_
      refine g_bipush (v := 20) C dX12_comesTo_10 (by decide) ?_
      refine b_icmp_ge C 52 dX12_comesTo_12 (by decide) (fun h27347 => ?_) (fun h27347 => ?_)
      · have h27347 : 20 ≤ v9_3.toInt := h27347
        refine g_iload_n C dX12_comesTo_52 rfl 2 rfl ?_
        exact ret _ _ _ _ _ _ dX12_comesTo_53 rfl (by decide) (by decide) ⟨rfl, trivial⟩
      · have h27347 : v9_3.toInt < 20 := h27347
        refine g_iload_n C dX12_comesTo_15 rfl 2 rfl ?_
        refine g_aload_n C dX12_comesTo_16 rfl 0 rfl ?_
        obtain ⟨b27348, e27349, h27350⟩ := I.fld (ha0) 29 13 64 rfl
        refine g_getR C fi_X12_91 rfl e27349 (ha0).1 (ha0).2 dX12_comesTo_17 ?_
        refine g_iload_n C dX12_comesTo_20 rfl 1 rfl ?_
        refine g_iald (j := (a1.toInt.toNat)) C h27350.1 h27350.2.1 (ix_in h27350.2.2 (by omega)) dX12_comesTo_21 ?_
        refine g_aload_n C dX12_comesTo_22 rfl 0 rfl ?_
        refine g_getI C fi_X12_318 (by decide) (ha0).1 (ha0).2 dX12_comesTo_23 ?_
        refine a_iand C dX12_comesTo_26 (fun z27351 => ?_)
        refine g_iconst (v := 1) C dX12_comesTo_27 (by decide) ?_
        refine g_iload_n C dX12_comesTo_28 rfl 3 rfl ?_
        refine a_ishl C dX12_comesTo_29 (fun z27353 => ?_)
        refine a_iand C dX12_comesTo_30 (fun z27355 => ?_)
        have u27358 := ti_rng z27355
        refine b_if_eq C 43 dX12_comesTo_31 (by decide) (fun h27357 => ?_) (fun h27357 => ?_)
        · have h27357 : z27355.toInt = 0 := congrArg Int32.toInt h27357
          refine g_iconst (v := 0) C dX12_comesTo_43 (by decide) ?_
          refine g_lv (lv' := [(0, .ref a0), (1, .int a1), (3, .int v9_3)]) [0, 1, 3] rfl ?_
          exact J44 0 (by omega)
        · have h27357 : z27355.toInt ≠ 0 := ti_ne h27357
          refine g_aload_n C dX12_comesTo_34 rfl 0 rfl ?_
          obtain ⟨b27359, e27360, h27361⟩ := I.fld (ha0) 34 13 20 rfl
          refine g_getR C fi_X12_103 rfl e27360 (ha0).1 (ha0).2 dX12_comesTo_35 ?_
          refine g_iload_n C dX12_comesTo_38 rfl 3 rfl ?_
          refine g_iald (j := (v9_3.toInt.toNat)) C h27361.1 h27361.2.1 (ix_in h27361.2.2 (by omega)) dX12_comesTo_39 ?_
          refine g_goto C 44 dX12_comesTo_40 (by decide) ?_
          refine g_lv (lv' := [(0, .ref a0), (1, .int a1), (3, .int v9_3)]) [0, 1, 3] rfl ?_
          exact J44 (pI P b27359 (v9_3.toInt.toNat)) (by omega)
  refine g_aload_n C dX12_comesTo_0 rfl 0 rfl ?_
  obtain ⟨b27362, e27363, h27364⟩ := I.fld (ha0) 30 13 64 rfl
  refine g_getR C fi_X12_94 rfl e27363 (ha0).1 (ha0).2 dX12_comesTo_1 ?_
  refine g_iload_n C dX12_comesTo_4 rfl 1 rfl ?_
  refine g_iald (j := (a1.toInt.toNat)) C h27364.1 h27364.2.1 (ix_in h27364.2.2 (by omega)) dX12_comesTo_5 ?_
  refine g_topi (fun z27365 h27366 => ?_)
  have h27366 : z27365.toInt = (pI P b27362 (a1.toInt.toNat)).toInt := congrArg Int32.toInt h27366
  refine g_istore_n (lv' := [(2, .int z27365), (0, .ref a0), (1, .int a1)]) C dX12_comesTo_6 rfl (by decide) rfl ?_
  refine g_iconst (v := 0) C dX12_comesTo_7 (by decide) ?_
  refine g_istore_n (lv' := [(3, .int 0), (2, .int z27365), (0, .ref a0), (1, .int a1)]) C dX12_comesTo_8 rfl (by decide) rfl ?_
  refine g_lv (lv' := [(0, .ref a0), (1, .int a1), (2, .int z27365), (3, .int 0)]) [2, 3, 1, 0] rfl ?_
  exact J9 _ z27365 0 (Nat.lt_succ_self _) (by decide)
theorem s_X12_common {P : PP} {a0 a1 : Int64} (I : IV P) : CtrL yX12_common cX12_common 10 (some .long) ({ frames := 1, cells := 0, slots := 0, locals := 64 } : Room) 0 0 P [.long a0, .long a1] (fun _ P2 => P = P2 ∧ (True)) := by
  sorry
theorem dX12_copies_0 : decode cX12_copies 0 = .ok (.aload_n 0, 1) := by decide +kernel
theorem dX12_copies_1 : decode cX12_copies 1 = .ok (.getfield 69, 3) := by decide +kernel
theorem dX12_copies_4 : decode cX12_copies 4 = .ok (.iload_n 2, 1) := by decide +kernel
theorem dX12_copies_5 : decode cX12_copies 5 = .ok (.aload_n 0, 1) := by decide +kernel
theorem dX12_copies_6 : decode cX12_copies 6 = .ok (.getfield 69, 3) := by decide +kernel
theorem dX12_copies_9 : decode cX12_copies 9 = .ok (.iload_n 1, 1) := by decide +kernel
theorem dX12_copies_10 : decode cX12_copies 10 = .ok (.iaload, 1) := by decide +kernel
theorem dX12_copies_11 : decode cX12_copies 11 = .ok (.iastore, 1) := by decide +kernel
theorem dX12_copies_12 : decode cX12_copies 12 = .ok (.iconst 0, 1) := by decide +kernel
theorem dX12_copies_13 : decode cX12_copies 13 = .ok (.istore_n 3, 1) := by decide +kernel
theorem dX12_copies_14 : decode cX12_copies 14 = .ok (.iload_n 3, 1) := by decide +kernel
theorem dX12_copies_15 : decode cX12_copies 15 = .ok (.aload_n 0, 1) := by decide +kernel
theorem dX12_copies_16 : decode cX12_copies 16 = .ok (.getfield 69, 3) := by decide +kernel
theorem dX12_copies_19 : decode cX12_copies 19 = .ok (.iload_n 1, 1) := by decide +kernel
theorem dX12_copies_20 : decode cX12_copies 20 = .ok (.iaload, 1) := by decide +kernel
theorem dX12_copies_21 : decode cX12_copies 21 = .ok (.if_icmp .ge 25, 3) := by decide +kernel
theorem dX12_copies_24 : decode cX12_copies 24 = .ok (.aload_n 0, 1) := by decide +kernel
theorem dX12_copies_25 : decode cX12_copies 25 = .ok (.bipush 40, 2) := by decide +kernel
theorem dX12_copies_27 : decode cX12_copies 27 = .ok (.iload_n 1, 1) := by decide +kernel
theorem dX12_copies_28 : decode cX12_copies 28 = .ok (.imul, 1) := by decide +kernel
theorem dX12_copies_29 : decode cX12_copies 29 = .ok (.iload_n 3, 1) := by decide +kernel
theorem dX12_copies_30 : decode cX12_copies 30 = .ok (.iadd, 1) := by decide +kernel
theorem dX12_copies_31 : decode cX12_copies 31 = .ok (.bipush 40, 2) := by decide +kernel
theorem dX12_copies_33 : decode cX12_copies 33 = .ok (.iload_n 2, 1) := by decide +kernel
theorem dX12_copies_34 : decode cX12_copies 34 = .ok (.imul, 1) := by decide +kernel
theorem dX12_copies_35 : decode cX12_copies 35 = .ok (.iload_n 3, 1) := by decide +kernel
theorem dX12_copies_36 : decode cX12_copies 36 = .ok (.iadd, 1) := by decide +kernel
theorem dX12_copies_37 : decode cX12_copies 37 = .ok (.invokevirtual 274, 3) := by decide +kernel
theorem dX12_copies_40 : decode cX12_copies 40 = .ok (.iinc 3 1, 3) := by decide +kernel
theorem dX12_copies_43 : decode cX12_copies 43 = .ok (.goto (-29), 3) := by decide +kernel
theorem dX12_copies_46 : decode cX12_copies 46 = .ok (.return_, 1) := by decide +kernel
set_option maxHeartbeats 4000000 in
set_option maxRecDepth 100000 in
theorem s_X12_copies {P : PP} {a0 : Nat} {a1 : Int32} {a2 : Int32} (I : IM P a0) (ha1 : 0 ≤ a1.toInt ∧ a1.toInt ≤ 19) (ha2 : 0 ≤ a2.toInt ∧ a2.toInt ≤ 19) (hW : MW P a0) : CtrV yX12_copies cX12_copies 4 none ({ frames := 2, cells := 0, slots := 0, locals := 128 } : Room) 0 0 P [.ref a0, .int a1, .int a2] (fun P2 => IM P2 a0 ∧ EM [20, 21, 22, 23, 24, 25] a0 P P2 ∧ MW P2 a0) := by
  refine enV (lv := [(0, .ref a0), (1, .int a1), (2, .int a2)]) (by decide) (Nat.le_of_ble_eq_true rfl) rfl (fun E D cy C Ci0 ret => ?_)
  have ha0 := I.2.1
  have J14 : ∀ (n14 : Nat) (P14 : PP) (v14_3 : Int32), (40 - v14_3.toInt).toNat < n14 → (IM P14 a0) → (EM [20, 21, 22, 23, 24, 25] a0 P P14) → (MW P14 a0) → (0 ≤ v14_3.toInt ∧ v14_3.toInt ≤ 40) → G E ({ frames := 2, cells := 0, slots := 0, locals := 128 } : Room) D cy 4 P14 0 0 14 [(0, .ref a0), (1, .int a1), (2, .int a2), (3, .int v14_3)] [] := by
    intro n14
    induction n14 with
    | zero => intro P14 v14_3 hm14 I14 X14 W14 hv14_3; omega
    | succ n14 ih14 =>
      intro P14 v14_3 hm14 I14 X14 W14 hv14_3
      have h27785 := X14.at ha0
      refine g_iload_n C dX12_copies_14 rfl 3 rfl ?_
      refine g_aload_n C dX12_copies_15 rfl 0 rfl ?_
      obtain ⟨b27786, e27787, h27788⟩ := I14.fld (h27785) 20 13 20 rfl
      refine g_getR C fi_X12_69 rfl e27787 (h27785).1 (h27785).2 dX12_copies_16 ?_
      refine g_iload_n C dX12_copies_19 rfl 1 rfl ?_
      refine g_iald (j := (a1.toInt.toNat)) C h27788.1 h27788.2.1 (ix_in h27788.2.2 (by omega)) dX12_copies_20 ?_
      have h27789 := I14.arr e27787 rfl (a1.toInt.toNat)
      refine b_icmp_ge C 46 dX12_copies_21 (by decide) (fun h27790 => ?_) (fun h27790 => ?_)
      · have h27790 : (pI P14 b27786 (a1.toInt.toNat)).toInt ≤ v14_3.toInt := h27790
        exact ret _ _ _ _ _ dX12_copies_46 (by decide) (by decide) ⟨I14, X14, W14⟩
      · have h27790 : v14_3.toInt < (pI P14 b27786 (a1.toInt.toNat)).toInt := h27790
        refine g_aload_n C dX12_copies_24 rfl 0 rfl ?_
        refine g_bipush (v := 40) C dX12_copies_25 (by decide) ?_
        refine g_iload_n C dX12_copies_27 rfl 1 rfl ?_
        refine s_imul C dX12_copies_28 (by show -2147483648 ≤ 40 * a1.toInt ∧ 40 * a1.toInt ≤ 2147483647; omega) (fun z27791 h27792 => ?_)
        have h27792 : z27791.toInt = 40 * a1.toInt := h27792
        refine g_iload_n C dX12_copies_29 rfl 3 rfl ?_
        refine s_iadd C dX12_copies_30 (by show -2147483648 ≤ z27791.toInt + v14_3.toInt ∧ z27791.toInt + v14_3.toInt ≤ 2147483647; omega) (fun z27793 h27794 => ?_)
        have h27794 : z27793.toInt = z27791.toInt + v14_3.toInt := h27794
        refine g_bipush (v := 40) C dX12_copies_31 (by decide) ?_
        refine g_iload_n C dX12_copies_33 rfl 2 rfl ?_
        refine s_imul C dX12_copies_34 (by show -2147483648 ≤ 40 * a2.toInt ∧ 40 * a2.toInt ≤ 2147483647; omega) (fun z27795 h27796 => ?_)
        have h27796 : z27795.toInt = 40 * a2.toInt := h27796
        refine g_iload_n C dX12_copies_35 rfl 3 rfl ?_
        refine s_iadd C dX12_copies_36 (by show -2147483648 ≤ z27795.toInt + v14_3.toInt ∧ z27795.toInt + v14_3.toInt ≤ 2147483647; omega) (fun z27797 h27798 => ?_)
        have h27798 : z27797.toInt = z27795.toInt + v14_3.toInt := h27798
        refine g_callVV (rest := []) C mv_X12_274 [.int z27793, .int z27797] (s_X12_moves I14 (by omega) (by omega) W14) (h27785).1 (h27785).2 rfl rfl (by decide) (Nat.le_of_ble_eq_true rfl) (by decide) dX12_copies_37 (fun Y27800 h27801 => ?_)
        obtain ⟨Iy27802, Xy27803, W27804⟩ := h27801
        have q27805 := Xy27803.keepA e27787 (by decide) rfl (a1.toInt.toNat)
        have Xz27806 : EM [20, 21, 22, 23, 24, 25] a0 P Y27800 := EM.tr ha0 X14 (Xy27803.mono (by decide))
        have e27807 := Xy27803.ref h27785 (by decide) e27787
        have h27808 := Xy27803.at h27785
        have h27809 := Xy27803.ar h27788
        refine s_iinc (lv0 := [(0, .ref a0), (1, .int a1), (2, .int a2)]) (m := 1) C dX12_copies_40 3 rfl (by decide) rfl (by decide) (by omega) (fun z27810 h27811 => ?_)
        have h27811 : z27810.toInt = v14_3.toInt + 1 := h27811
        refine g_goto C 14 dX12_copies_43 (by decide) ?_
        refine g_lv (lv' := [(0, .ref a0), (1, .int a1), (2, .int a2), (3, .int z27810)]) [1, 2, 3, 0] rfl ?_
        exact ih14 Y27800 z27810 (by omega) Iy27802 Xz27806 W27804 (by omega)
  refine g_aload_n C dX12_copies_0 rfl 0 rfl ?_
  obtain ⟨b27812, e27813, h27814⟩ := I.fld (ha0) 20 13 20 rfl
  refine g_getR C fi_X12_69 rfl e27813 (ha0).1 (ha0).2 dX12_copies_1 ?_
  refine g_iload_n C dX12_copies_4 rfl 2 rfl ?_
  refine g_aload_n C dX12_copies_5 rfl 0 rfl ?_
  refine g_getR C fi_X12_69 rfl e27813 (ha0).1 (ha0).2 dX12_copies_6 ?_
  refine g_iload_n C dX12_copies_9 rfl 1 rfl ?_
  refine g_iald (j := (a1.toInt.toNat)) C h27814.1 h27814.2.1 (ix_in h27814.2.2 (by omega)) dX12_copies_10 ?_
  have h27815 := I.arr e27813 rfl (a1.toInt.toNat)
  refine g_iast (j := (a2.toInt.toNat)) C h27814.1 h27814.2.1 (ix_in h27814.2.2 (by omega)) dX12_copies_11 ?_
  refine gqW (ks := [20]) (I.setA e27813 h27814 (by decide) (arOk.of rfl (by omega))) (EM.setA I e27813 rfl (by decide)) (fun Y27816 Iy27817 Xy27818 w27819 => ?_)
  have w27819 : (pI Y27816 b27812 (a2.toInt.toNat)).toInt = (pI P b27812 (a1.toInt.toNat)).toInt := w27819
  have W27820 := hW.keep I Xy27818 (by decide) (by decide) (by decide)
  have Xz27821 : EM [20, 21, 22, 23, 24, 25] a0 P Y27816 := Xy27818.mono (by decide)
  have e27822 := Xy27818.ref ha0 (by decide) e27813
  have h27823 := Xy27818.at ha0
  have h27824 := Xy27818.ar h27814
  refine g_iconst (v := 0) C dX12_copies_12 (by decide) ?_
  refine g_istore_n (lv' := [(3, .int 0), (0, .ref a0), (1, .int a1), (2, .int a2)]) C dX12_copies_13 rfl (by decide) rfl ?_
  refine g_lv (lv' := [(0, .ref a0), (1, .int a1), (2, .int a2), (3, .int 0)]) [1, 2, 3, 0] rfl ?_
  exact J14 _ Y27816 0 (Nat.lt_succ_self _) Iy27817 Xz27821 W27820 (by decide)
theorem dX12_count_0 : decode cX12_count 0 = .ok (.aload_n 0, 1) := by decide +kernel
theorem dX12_count_1 : decode cX12_count 1 = .ok (.iconst 0, 1) := by decide +kernel
theorem dX12_count_2 : decode cX12_count 2 = .ok (.putfield 1, 3) := by decide +kernel
theorem dX12_count_5 : decode cX12_count 5 = .ok (.iload_n 1, 1) := by decide +kernel
theorem dX12_count_6 : decode cX12_count 6 = .ok (.iconst 0, 1) := by decide +kernel
theorem dX12_count_7 : decode cX12_count 7 = .ok (.iconst 3, 1) := by decide +kernel
theorem dX12_count_8 : decode cX12_count 8 = .ok (.invokestatic 178, 3) := by decide +kernel
theorem dX12_count_11 : decode cX12_count 11 = .ok (.ifCond .eq 10, 3) := by decide +kernel
theorem dX12_count_14 : decode cX12_count 14 = .ok (.aload_n 0, 1) := by decide +kernel
theorem dX12_count_15 : decode cX12_count 15 = .ok (.getfield 69, 3) := by decide +kernel
theorem dX12_count_18 : decode cX12_count 18 = .ok (.iload_n 1, 1) := by decide +kernel
theorem dX12_count_19 : decode cX12_count 19 = .ok (.iaload, 1) := by decide +kernel
theorem dX12_count_20 : decode cX12_count 20 = .ok (.ireturn, 1) := by decide +kernel
theorem dX12_count_21 : decode cX12_count 21 = .ok (.iload_n 1, 1) := by decide +kernel
theorem dX12_count_22 : decode cX12_count 22 = .ok (.tableswitch 61 4 8 #[34, 40, 46, 51, 56], 34) := by decide +kernel
theorem dX12_count_56 : decode cX12_count 56 = .ok (.aload_n 0, 1) := by decide +kernel
theorem dX12_count_57 : decode cX12_count 57 = .ok (.iconst 0, 1) := by decide +kernel
theorem dX12_count_58 : decode cX12_count 58 = .ok (.invokevirtual 238, 3) := by decide +kernel
theorem dX12_count_61 : decode cX12_count 61 = .ok (.ireturn, 1) := by decide +kernel
theorem dX12_count_62 : decode cX12_count 62 = .ok (.aload_n 0, 1) := by decide +kernel
theorem dX12_count_63 : decode cX12_count 63 = .ok (.iconst 1, 1) := by decide +kernel
theorem dX12_count_64 : decode cX12_count 64 = .ok (.invokevirtual 238, 3) := by decide +kernel
theorem dX12_count_67 : decode cX12_count 67 = .ok (.ireturn, 1) := by decide +kernel
theorem dX12_count_68 : decode cX12_count 68 = .ok (.aload_n 0, 1) := by decide +kernel
theorem dX12_count_69 : decode cX12_count 69 = .ok (.getfield 11, 3) := by decide +kernel
theorem dX12_count_72 : decode cX12_count 72 = .ok (.ireturn, 1) := by decide +kernel
theorem dX12_count_73 : decode cX12_count 73 = .ok (.aload_n 0, 1) := by decide +kernel
theorem dX12_count_74 : decode cX12_count 74 = .ok (.getfield 288, 3) := by decide +kernel
theorem dX12_count_77 : decode cX12_count 77 = .ok (.ireturn, 1) := by decide +kernel
theorem dX12_count_78 : decode cX12_count 78 = .ok (.aload_n 0, 1) := by decide +kernel
theorem dX12_count_79 : decode cX12_count 79 = .ok (.invokevirtual 411, 3) := by decide +kernel
theorem dX12_count_82 : decode cX12_count 82 = .ok (.ireturn, 1) := by decide +kernel
theorem dX12_count_83 : decode cX12_count 83 = .ok (.iconst (-1), 1) := by decide +kernel
theorem dX12_count_84 : decode cX12_count 84 = .ok (.ireturn, 1) := by decide +kernel
set_option maxHeartbeats 4000000 in
set_option maxRecDepth 100000 in
theorem s_X12_count {P : PP} {a0 : Nat} {a1 : Int32} (I : IM P a0) (hW : MW P a0) : CtrI yX12_count cX12_count 2 (some Jvm.ClassFile.FieldType.int) ({ frames := 2, cells := 0, slots := 0, locals := 128 } : Room) 0 0 P [.ref a0, .int a1] (fun r P2 => IM P2 a0 ∧ EM [0] a0 P P2 ∧ MW P2 a0 ∧ (True)) := by
  refine enI (lv := [(0, .ref a0), (1, .int a1)]) (by decide) (Nat.le_of_ble_eq_true rfl) rfl (fun E D cy C Ci0 ret => ?_)
  have ha0 := I.2.1
  refine g_aload_n C dX12_count_0 rfl 0 rfl ?_
  refine g_iconst (v := 0) C dX12_count_1 (by decide) ?_
  refine g_putI C fi_X12_1 rfl (ha0).1 (ha0).2 dX12_count_2 ?_
  refine gqW (ks := [0]) (I.setI (rgOk.of rfl (by decide))) (EM.setI I (by decide)) (fun Y27871 Iy27872 Xy27873 w27874 => ?_)
  have w27874 : (pI Y27871 a0 0).toInt = 0 := w27874
  have W27875 := hW.keep I Xy27873 (by decide) (by decide) (by decide)
  have Xz27876 : EM [0] a0 P Y27871 := Xy27873.mono (by decide)
  have h27877 := Xy27873.at ha0
  refine g_iload_n C dX12_count_5 rfl 1 rfl ?_
  refine g_iconst (v := 0) C dX12_count_6 (by decide) ?_
  refine g_iconst (v := 3) C dX12_count_7 (by decide) ?_
  refine g_callSI (b := 0) (ci := 0) (rest := []) C ms_X12_178 [.int a1, .int 0, .int 3] (s_X12_within Iy27872.1) rfl rfl (by decide) (Nat.le_of_ble_eq_true rfl) (by decide) dX12_count_8 (fun r27878 Y27879 h27880 => ?_)
  obtain ⟨rfl, h27880⟩ := h27880
  obtain ⟨h27880, hi27881⟩ := h27880
  have hi27881 : r27878.toInt = 0 ∨ (0 ≤ a1.toInt ∧ a1.toInt ≤ 3) := hi27881
  have h27880 : 0 ≤ r27878.toInt ∧ r27878.toInt ≤ 1 := h27880
  refine b_if_eq C 21 dX12_count_11 (by decide) (fun h27882 => ?_) (fun h27882 => ?_)
  · have h27882 : r27878.toInt = 0 := congrArg Int32.toInt h27882
    clear hi27881
    refine g_iload_n C dX12_count_21 rfl 1 rfl ?_
    by_cases h27883 : a1.toInt < 4 ∨ 8 < a1.toInt
    · refine g_tableOut C 83 dX12_count_22 h27883 (by decide) ?_
      refine g_iconst (v := (-1)) C dX12_count_83 (by decide) ?_
      exact ret _ _ _ _ _ _ dX12_count_84 rfl (by decide) (by decide) ⟨Iy27872, Xz27876, W27875, trivial⟩
    · rcases (show a1.toInt = 4 ∨ a1.toInt = 5 ∨ a1.toInt = 6 ∨ a1.toInt = 7 ∨ a1.toInt = 8 by omega) with h27884 | h27884 | h27884 | h27884 | h27884
      · refine g_tableIn C 56 dX12_count_22 (by omega) (by omega) (by rw [h27884]; rfl) (by decide) ?_
        refine g_aload_n C dX12_count_56 rfl 0 rfl ?_
        refine g_iconst (v := 0) C dX12_count_57 (by decide) ?_
        refine g_callVI (rest := []) C mv_X12_238 [.int 0] (s_X12_allOf Iy27872 (by decide) W27875) (h27877).1 (h27877).2 rfl rfl (by decide) (Nat.le_of_ble_eq_true rfl) (by decide) dX12_count_58 (fun r27885 Y27886 h27887 => ?_)
        obtain ⟨rfl, h27887⟩ := h27887
        obtain ⟨h27887, hi27888⟩ := h27887
        obtain ⟨b27889, e27890, h27891⟩ := Iy27872.fld (h27877) 10 13 2 rfl
        obtain ⟨b27892, e27893, h27894⟩ := Iy27872.fld (h27877) 15 13 3 rfl
        have hi27888 : r27885.toInt = 0 ∨ r27885.toInt = (pI Y27871 b27889 0).toInt + (pI Y27871 b27892 0).toInt := hi27888.imp id (fun z9 => z9 b27889 b27892 e27890 e27893)
        have h27895 := Iy27872.arr e27890 rfl 0
        have h27896 := Iy27872.arr e27893 rfl 0
        have h27887 : 0 ≤ r27885.toInt ∧ r27885.toInt ≤ 20 := h27887
        exact ret _ _ _ _ _ _ dX12_count_61 rfl (by decide) (by decide) ⟨Iy27872, Xz27876, W27875, trivial⟩
      · refine g_tableIn C 62 dX12_count_22 (by omega) (by omega) (by rw [h27884]; rfl) (by decide) ?_
        refine g_aload_n C dX12_count_62 rfl 0 rfl ?_
        refine g_iconst (v := 1) C dX12_count_63 (by decide) ?_
        refine g_callVI (rest := []) C mv_X12_238 [.int 1] (s_X12_allOf Iy27872 (by decide) W27875) (h27877).1 (h27877).2 rfl rfl (by decide) (Nat.le_of_ble_eq_true rfl) (by decide) dX12_count_64 (fun r27897 Y27898 h27899 => ?_)
        obtain ⟨rfl, h27899⟩ := h27899
        obtain ⟨h27899, hi27900⟩ := h27899
        obtain ⟨b27901, e27902, h27903⟩ := Iy27872.fld (h27877) 10 13 2 rfl
        obtain ⟨b27904, e27905, h27906⟩ := Iy27872.fld (h27877) 15 13 3 rfl
        have hi27900 : r27897.toInt = 0 ∨ r27897.toInt = (pI Y27871 b27901 1).toInt + (pI Y27871 b27904 1).toInt := hi27900.imp id (fun z9 => z9 b27901 b27904 e27902 e27905)
        have h27907 := Iy27872.arr e27902 rfl 1
        have h27908 := Iy27872.arr e27905 rfl 1
        have h27899 : 0 ≤ r27897.toInt ∧ r27897.toInt ≤ 20 := h27899
        exact ret _ _ _ _ _ _ dX12_count_67 rfl (by decide) (by decide) ⟨Iy27872, Xz27876, W27875, trivial⟩
      · refine g_tableIn C 68 dX12_count_22 (by omega) (by omega) (by rw [h27884]; rfl) (by decide) ?_
        refine g_aload_n C dX12_count_68 rfl 0 rfl ?_
        refine g_getI C fi_X12_11 (by decide) (h27877).1 (h27877).2 dX12_count_69 ?_
        have h27909 := Iy27872.rg (h27877) 2 rfl
        exact ret _ _ _ _ _ _ dX12_count_72 rfl (by decide) (by decide) ⟨Iy27872, Xz27876, W27875, trivial⟩
      · refine g_tableIn C 73 dX12_count_22 (by omega) (by omega) (by rw [h27884]; rfl) (by decide) ?_
        refine g_aload_n C dX12_count_73 rfl 0 rfl ?_
        refine g_getI C fi_X12_288 (by decide) (h27877).1 (h27877).2 dX12_count_74 ?_
        exact ret _ _ _ _ _ _ dX12_count_77 rfl (by decide) (by decide) ⟨Iy27872, Xz27876, W27875, trivial⟩
      · refine g_tableIn C 78 dX12_count_22 (by omega) (by omega) (by rw [h27884]; rfl) (by decide) ?_
        refine g_aload_n C dX12_count_78 rfl 0 rfl ?_
        refine g_callVI (rest := []) C mv_X12_411 [] (s_X12_allHouses Iy27872 W27875) (h27877).1 (h27877).2 rfl rfl (by decide) (Nat.le_of_ble_eq_true rfl) (by decide) dX12_count_79 (fun r27910 Y27911 h27912 => ?_)
        obtain ⟨rfl, h27912⟩ := h27912
        have h27912 : True := h27912
        exact ret _ _ _ _ _ _ dX12_count_82 rfl (by decide) (by decide) ⟨Iy27872, Xz27876, W27875, trivial⟩
  · have h27882 : r27878.toInt ≠ 0 := ti_ne h27882
    replace hi27881 := hi27881.resolve_left (by omega)
    refine g_aload_n C dX12_count_14 rfl 0 rfl ?_
    obtain ⟨b27913, e27914, h27915⟩ := Iy27872.fld (h27877) 20 13 20 rfl
    refine g_getR C fi_X12_69 rfl e27914 (h27877).1 (h27877).2 dX12_count_15 ?_
    refine g_iload_n C dX12_count_18 rfl 1 rfl ?_
    refine g_iald (j := (a1.toInt.toNat)) C h27915.1 h27915.2.1 (ix_in h27915.2.2 (by omega)) dX12_count_19 ?_
    have h27916 := Iy27872.arr e27914 rfl (a1.toInt.toNat)
    exact ret _ _ _ _ _ _ dX12_count_20 rfl (by decide) (by decide) ⟨Iy27872, Xz27876, W27875, trivial⟩
theorem dX12_cutAll_0 : decode cX12_cutAll 0 = .ok (.aload_n 0, 1) := by decide +kernel
theorem dX12_cutAll_1 : decode cX12_cutAll 1 = .ok (.aload_n 0, 1) := by decide +kernel
theorem dX12_cutAll_2 : decode cX12_cutAll 2 = .ok (.getfield 11, 3) := by decide +kernel
theorem dX12_cutAll_5 : decode cX12_cutAll 5 = .ok (.putfield 140, 3) := by decide +kernel
theorem dX12_cutAll_8 : decode cX12_cutAll 8 = .ok (.aload_n 0, 1) := by decide +kernel
theorem dX12_cutAll_9 : decode cX12_cutAll 9 = .ok (.iconst 0, 1) := by decide +kernel
theorem dX12_cutAll_10 : decode cX12_cutAll 10 = .ok (.putfield 11, 3) := by decide +kernel
theorem dX12_cutAll_13 : decode cX12_cutAll 13 = .ok (.iconst 0, 1) := by decide +kernel
theorem dX12_cutAll_14 : decode cX12_cutAll 14 = .ok (.istore_n 1, 1) := by decide +kernel
theorem dX12_cutAll_15 : decode cX12_cutAll 15 = .ok (.iconst 0, 1) := by decide +kernel
theorem dX12_cutAll_16 : decode cX12_cutAll 16 = .ok (.istore_n 2, 1) := by decide +kernel
theorem dX12_cutAll_17 : decode cX12_cutAll 17 = .ok (.iload_n 2, 1) := by decide +kernel
theorem dX12_cutAll_18 : decode cX12_cutAll 18 = .ok (.aload_n 0, 1) := by decide +kernel
theorem dX12_cutAll_19 : decode cX12_cutAll 19 = .ok (.getfield 140, 3) := by decide +kernel
theorem dX12_cutAll_22 : decode cX12_cutAll 22 = .ok (.if_icmp .ge 257, 3) := by decide +kernel
theorem dX12_cutAll_25 : decode cX12_cutAll 25 = .ok (.aload_n 0, 1) := by decide +kernel
theorem dX12_cutAll_26 : decode cX12_cutAll 26 = .ok (.getfield 14, 3) := by decide +kernel
theorem dX12_cutAll_29 : decode cX12_cutAll 29 = .ok (.iload_n 2, 1) := by decide +kernel
theorem dX12_cutAll_30 : decode cX12_cutAll 30 = .ok (.iaload, 1) := by decide +kernel
theorem dX12_cutAll_31 : decode cX12_cutAll 31 = .ok (.istore_n 3, 1) := by decide +kernel
theorem dX12_cutAll_32 : decode cX12_cutAll 32 = .ok (.iload_n 3, 1) := by decide +kernel
theorem dX12_cutAll_33 : decode cX12_cutAll 33 = .ok (.bipush 10, 2) := by decide +kernel
theorem dX12_cutAll_35 : decode cX12_cutAll 35 = .ok (.if_icmp .eq 9, 3) := by decide +kernel
theorem dX12_cutAll_38 : decode cX12_cutAll 38 = .ok (.iload_n 3, 1) := by decide +kernel
theorem dX12_cutAll_39 : decode cX12_cutAll 39 = .ok (.bipush 32, 2) := by decide +kernel
theorem dX12_cutAll_41 : decode cX12_cutAll 41 = .ok (.if_icmp .ne 9, 3) := by decide +kernel
theorem dX12_cutAll_50 : decode cX12_cutAll 50 = .ok (.iload_n 2, 1) := by decide +kernel
theorem dX12_cutAll_51 : decode cX12_cutAll 51 = .ok (.istore 4, 2) := by decide +kernel
theorem dX12_cutAll_53 : decode cX12_cutAll 53 = .ok (.lconst 0, 1) := by decide +kernel
theorem dX12_cutAll_54 : decode cX12_cutAll 54 = .ok (.lstore 5, 2) := by decide +kernel
theorem dX12_cutAll_56 : decode cX12_cutAll 56 = .ok (.aload_n 0, 1) := by decide +kernel
theorem dX12_cutAll_57 : decode cX12_cutAll 57 = .ok (.getfield 27, 3) := by decide +kernel
theorem dX12_cutAll_60 : decode cX12_cutAll 60 = .ok (.iload_n 1, 1) := by decide +kernel
theorem dX12_cutAll_61 : decode cX12_cutAll 61 = .ok (.iload_n 2, 1) := by decide +kernel
theorem dX12_cutAll_62 : decode cX12_cutAll 62 = .ok (.iastore, 1) := by decide +kernel
theorem dX12_cutAll_63 : decode cX12_cutAll 63 = .ok (.iload_n 3, 1) := by decide +kernel
theorem dX12_cutAll_64 : decode cX12_cutAll 64 = .ok (.invokestatic 136, 3) := by decide +kernel
theorem dX12_cutAll_279 : decode cX12_cutAll 279 = .ok (.aload_n 0, 1) := by decide +kernel
theorem dX12_cutAll_280 : decode cX12_cutAll 280 = .ok (.getfield 24, 3) := by decide +kernel
theorem dX12_cutAll_283 : decode cX12_cutAll 283 = .ok (.iload_n 1, 1) := by decide +kernel
theorem dX12_cutAll_284 : decode cX12_cutAll 284 = .ok (.iconst 0, 1) := by decide +kernel
theorem dX12_cutAll_285 : decode cX12_cutAll 285 = .ok (.iastore, 1) := by decide +kernel
theorem dX12_cutAll_286 : decode cX12_cutAll 286 = .ok (.aload_n 0, 1) := by decide +kernel
theorem dX12_cutAll_287 : decode cX12_cutAll 287 = .ok (.getfield 27, 3) := by decide +kernel
theorem dX12_cutAll_290 : decode cX12_cutAll 290 = .ok (.iload_n 1, 1) := by decide +kernel
theorem dX12_cutAll_291 : decode cX12_cutAll 291 = .ok (.aload_n 0, 1) := by decide +kernel
theorem dX12_cutAll_292 : decode cX12_cutAll 292 = .ok (.getfield 140, 3) := by decide +kernel
theorem dX12_cutAll_295 : decode cX12_cutAll 295 = .ok (.iastore, 1) := by decide +kernel
theorem dX12_cutAll_296 : decode cX12_cutAll 296 = .ok (.aload_n 0, 1) := by decide +kernel
theorem dX12_cutAll_297 : decode cX12_cutAll 297 = .ok (.iconst 0, 1) := by decide +kernel
theorem dX12_cutAll_298 : decode cX12_cutAll 298 = .ok (.putfield 159, 3) := by decide +kernel
theorem dX12_cutAll_301 : decode cX12_cutAll 301 = .ok (.aload_n 0, 1) := by decide +kernel
theorem dX12_cutAll_302 : decode cX12_cutAll 302 = .ok (.iconst 0, 1) := by decide +kernel
theorem dX12_cutAll_303 : decode cX12_cutAll 303 = .ok (.putfield 162, 3) := by decide +kernel
theorem dX12_cutAll_306 : decode cX12_cutAll 306 = .ok (.return_, 1) := by decide +kernel
theorem dX12_isLetter_0 : decode cX12_isLetter 0 = .ok (.iload_n 0, 1) := by decide +kernel
theorem dX12_isLetter_1 : decode cX12_isLetter 1 = .ok (.bipush 97, 2) := by decide +kernel
theorem dX12_isLetter_3 : decode cX12_isLetter 3 = .ok (.if_icmp .lt 13, 3) := by decide +kernel
theorem dX12_isLetter_6 : decode cX12_isLetter 6 = .ok (.iload_n 0, 1) := by decide +kernel
theorem dX12_isLetter_7 : decode cX12_isLetter 7 = .ok (.bipush 122, 2) := by decide +kernel
theorem dX12_isLetter_9 : decode cX12_isLetter 9 = .ok (.if_icmp .gt 7, 3) := by decide +kernel
theorem dX12_isLetter_12 : decode cX12_isLetter 12 = .ok (.iconst 1, 1) := by decide +kernel
theorem dX12_isLetter_13 : decode cX12_isLetter 13 = .ok (.goto 4, 3) := by decide +kernel
theorem dX12_isLetter_16 : decode cX12_isLetter 16 = .ok (.iconst 0, 1) := by decide +kernel
theorem dX12_isLetter_17 : decode cX12_isLetter 17 = .ok (.ireturn, 1) := by decide +kernel
set_option maxHeartbeats 4000000 in
set_option maxRecDepth 100000 in
theorem s_X12_isLetter {P : PP} {a0 : Int32} (I : IV P) : CtrI yX12_isLetter cX12_isLetter 1 (some Jvm.ClassFile.FieldType.boolean) ({ frames := 1, cells := 0, slots := 0, locals := 64 } : Room) 0 0 P [.int a0] (fun r P2 => P = P2 ∧ (0 ≤ r.toInt ∧ r.toInt ≤ 1) ∧ (r.toInt = 0 ∨ (((97 : Int) ≤ a0.toInt ∧ a0.toInt ≤ (122 : Int)))) ∧ (r.toInt ≠ 0 ∨ a0.toInt < 97 ∨ 122 < a0.toInt)) := by
  refine enI (lv := [(0, .int a0)]) (by decide) (Nat.le_of_ble_eq_true rfl) rfl (fun E D cy C Ci0 ret => ?_)
  have J16 : (a0.toInt < 97 ∨ 122 < a0.toInt) → G E ({ frames := 1, cells := 0, slots := 0, locals := 64 } : Room) D cy 1 P 0 0 16 [] [] := by
    intro rel16_0
    refine g_iconst (v := 0) C dX12_isLetter_16 (by decide) ?_
    exact ret _ _ _ _ _ _ dX12_isLetter_17 rfl (by decide) (by decide) ⟨rfl, (by decide), Or.inl rfl, (by show (0 : Int) ≠ 0 ∨ a0.toInt < 97 ∨ 122 < a0.toInt; omega)⟩
  refine g_iload_n C dX12_isLetter_0 rfl 0 rfl ?_
  refine g_bipush (v := 97) C dX12_isLetter_1 (by decide) ?_
  have u28030 := ti_rng a0
  refine b_icmp_lt C 16 dX12_isLetter_3 (by decide) (fun h28029 => ?_) (fun h28029 => ?_)
  · have h28029 : a0.toInt < 97 := h28029
    refine g_lv (lv' := []) [] rfl ?_
    exact J16 (by show a0.toInt < 97 ∨ 122 < a0.toInt; omega)
  · have h28029 : 97 ≤ a0.toInt := h28029
    refine g_iload_n C dX12_isLetter_6 rfl 0 rfl ?_
    refine g_bipush (v := 122) C dX12_isLetter_7 (by decide) ?_
    have u28032 := ti_rng a0
    refine b_icmp_gt C 16 dX12_isLetter_9 (by decide) (fun h28031 => ?_) (fun h28031 => ?_)
    · have h28031 : 122 < a0.toInt := h28031
      refine g_lv (lv' := []) [] rfl ?_
      exact J16 (by show a0.toInt < 97 ∨ 122 < a0.toInt; omega)
    · have h28031 : a0.toInt ≤ 122 := h28031
      refine g_iconst (v := 1) C dX12_isLetter_12 (by decide) ?_
      refine g_goto C 17 dX12_isLetter_13 (by decide) ?_
      exact ret _ _ _ _ _ _ dX12_isLetter_17 rfl (by decide) (by decide) ⟨rfl, (by decide), Or.inr (by omega), (by show (1 : Int) ≠ 0 ∨ a0.toInt < 97 ∨ 122 < a0.toInt; omega)⟩
theorem dX12_cutAll_67 : decode cX12_cutAll 67 = .ok (.ifCond .eq 85, 3) := by decide +kernel
theorem dX12_cutAll_152 : decode cX12_cutAll 152 = .ok (.iload_n 3, 1) := by decide +kernel
theorem dX12_cutAll_153 : decode cX12_cutAll 153 = .ok (.invokestatic 149, 3) := by decide +kernel
theorem dX12_isDigit_0 : decode cX12_isDigit 0 = .ok (.iload_n 0, 1) := by decide +kernel
theorem dX12_isDigit_1 : decode cX12_isDigit 1 = .ok (.bipush 48, 2) := by decide +kernel
theorem dX12_isDigit_3 : decode cX12_isDigit 3 = .ok (.if_icmp .lt 13, 3) := by decide +kernel
theorem dX12_isDigit_6 : decode cX12_isDigit 6 = .ok (.iload_n 0, 1) := by decide +kernel
theorem dX12_isDigit_7 : decode cX12_isDigit 7 = .ok (.bipush 57, 2) := by decide +kernel
theorem dX12_isDigit_9 : decode cX12_isDigit 9 = .ok (.if_icmp .gt 7, 3) := by decide +kernel
theorem dX12_isDigit_12 : decode cX12_isDigit 12 = .ok (.iconst 1, 1) := by decide +kernel
theorem dX12_isDigit_13 : decode cX12_isDigit 13 = .ok (.goto 4, 3) := by decide +kernel
theorem dX12_isDigit_16 : decode cX12_isDigit 16 = .ok (.iconst 0, 1) := by decide +kernel
theorem dX12_isDigit_17 : decode cX12_isDigit 17 = .ok (.ireturn, 1) := by decide +kernel
set_option maxHeartbeats 4000000 in
set_option maxRecDepth 100000 in
theorem s_X12_isDigit {P : PP} {a0 : Int32} (I : IV P) : CtrI yX12_isDigit cX12_isDigit 1 (some Jvm.ClassFile.FieldType.boolean) ({ frames := 1, cells := 0, slots := 0, locals := 64 } : Room) 0 0 P [.int a0] (fun r P2 => P = P2 ∧ (0 ≤ r.toInt ∧ r.toInt ≤ 1) ∧ (r.toInt = 0 ∨ (((48 : Int) ≤ a0.toInt ∧ a0.toInt ≤ (57 : Int)))) ∧ (r.toInt ≠ 0 ∨ a0.toInt < 48 ∨ 57 < a0.toInt)) := by
  refine enI (lv := [(0, .int a0)]) (by decide) (Nat.le_of_ble_eq_true rfl) rfl (fun E D cy C Ci0 ret => ?_)
  have J16 : (a0.toInt < 48 ∨ 57 < a0.toInt) → G E ({ frames := 1, cells := 0, slots := 0, locals := 64 } : Room) D cy 1 P 0 0 16 [] [] := by
    intro rel16_0
    refine g_iconst (v := 0) C dX12_isDigit_16 (by decide) ?_
    exact ret _ _ _ _ _ _ dX12_isDigit_17 rfl (by decide) (by decide) ⟨rfl, (by decide), Or.inl rfl, (by show (0 : Int) ≠ 0 ∨ a0.toInt < 48 ∨ 57 < a0.toInt; omega)⟩
  refine g_iload_n C dX12_isDigit_0 rfl 0 rfl ?_
  refine g_bipush (v := 48) C dX12_isDigit_1 (by decide) ?_
  have u28152 := ti_rng a0
  refine b_icmp_lt C 16 dX12_isDigit_3 (by decide) (fun h28151 => ?_) (fun h28151 => ?_)
  · have h28151 : a0.toInt < 48 := h28151
    refine g_lv (lv' := []) [] rfl ?_
    exact J16 (by show a0.toInt < 48 ∨ 57 < a0.toInt; omega)
  · have h28151 : 48 ≤ a0.toInt := h28151
    refine g_iload_n C dX12_isDigit_6 rfl 0 rfl ?_
    refine g_bipush (v := 57) C dX12_isDigit_7 (by decide) ?_
    have u28154 := ti_rng a0
    refine b_icmp_gt C 16 dX12_isDigit_9 (by decide) (fun h28153 => ?_) (fun h28153 => ?_)
    · have h28153 : 57 < a0.toInt := h28153
      refine g_lv (lv' := []) [] rfl ?_
      exact J16 (by show a0.toInt < 48 ∨ 57 < a0.toInt; omega)
    · have h28153 : a0.toInt ≤ 57 := h28153
      refine g_iconst (v := 1) C dX12_isDigit_12 (by decide) ?_
      refine g_goto C 17 dX12_isDigit_13 (by decide) ?_
      exact ret _ _ _ _ _ _ dX12_isDigit_17 rfl (by decide) (by decide) ⟨rfl, (by decide), Or.inr (by omega), (by show (1 : Int) ≠ 0 ∨ a0.toInt < 48 ∨ 57 < a0.toInt; omega)⟩
theorem dX12_cutAll_156 : decode cX12_cutAll 156 = .ok (.ifCond .eq 84, 3) := by decide +kernel
theorem dX12_cutAll_240 : decode cX12_cutAll 240 = .ok (.iload_n 3, 1) := by decide +kernel
theorem dX12_cutAll_241 : decode cX12_cutAll 241 = .ok (.i2l, 1) := by decide +kernel
theorem dX12_cutAll_242 : decode cX12_cutAll 242 = .ok (.lstore 5, 2) := by decide +kernel
theorem dX12_cutAll_244 : decode cX12_cutAll 244 = .ok (.aload_n 0, 1) := by decide +kernel
theorem dX12_cutAll_245 : decode cX12_cutAll 245 = .ok (.getfield 24, 3) := by decide +kernel
theorem dX12_cutAll_248 : decode cX12_cutAll 248 = .ok (.iload_n 1, 1) := by decide +kernel
theorem dX12_cutAll_249 : decode cX12_cutAll 249 = .ok (.iload_n 3, 1) := by decide +kernel
theorem dX12_cutAll_250 : decode cX12_cutAll 250 = .ok (.invokestatic 156, 3) := by decide +kernel
theorem dX12_isSignOf_0 : decode cX12_isSignOf 0 = .ok (.iload_n 0, 1) := by decide +kernel
theorem dX12_isSignOf_1 : decode cX12_isSignOf 1 = .ok (.bipush 59, 2) := by decide +kernel
theorem dX12_isSignOf_3 : decode cX12_isSignOf 3 = .ok (.if_icmp .ne 7, 3) := by decide +kernel
theorem dX12_isSignOf_6 : decode cX12_isSignOf 6 = .ok (.iconst 1, 1) := by decide +kernel
theorem dX12_isSignOf_7 : decode cX12_isSignOf 7 = .ok (.goto 4, 3) := by decide +kernel
theorem dX12_isSignOf_10 : decode cX12_isSignOf 10 = .ok (.iconst 0, 1) := by decide +kernel
theorem dX12_isSignOf_11 : decode cX12_isSignOf 11 = .ok (.ireturn, 1) := by decide +kernel
set_option maxHeartbeats 4000000 in
set_option maxRecDepth 100000 in
theorem s_X12_isSignOf {P : PP} {a0 : Int32} (I : IV P) : CtrI yX12_isSignOf cX12_isSignOf 1 (some Jvm.ClassFile.FieldType.boolean) ({ frames := 1, cells := 0, slots := 0, locals := 64 } : Room) 0 0 P [.int a0] (fun r P2 => P = P2 ∧ (0 ≤ r.toInt ∧ r.toInt ≤ 1) ∧ (r.toInt = 0 ∨ (((59 : Int) ≤ a0.toInt ∧ a0.toInt ≤ (59 : Int))))) := by
  refine enI (lv := [(0, .int a0)]) (by decide) (Nat.le_of_ble_eq_true rfl) rfl (fun E D cy C Ci0 ret => ?_)
  refine g_iload_n C dX12_isSignOf_0 rfl 0 rfl ?_
  refine g_bipush (v := 59) C dX12_isSignOf_1 (by decide) ?_
  have u28282 := ti_rng a0
  refine b_icmp_ne C 10 dX12_isSignOf_3 (by decide) (fun h28281 => ?_) (fun h28281 => ?_)
  · have h28281 : a0.toInt ≠ 59 := ti_ne h28281
    refine g_iconst (v := 0) C dX12_isSignOf_10 (by decide) ?_
    exact ret _ _ _ _ _ _ dX12_isSignOf_11 rfl (by decide) (by decide) ⟨rfl, (by decide), Or.inl rfl⟩
  · have h28281 : a0.toInt = 59 := congrArg Int32.toInt h28281
    refine g_iconst (v := 1) C dX12_isSignOf_6 (by decide) ?_
    refine g_goto C 11 dX12_isSignOf_7 (by decide) ?_
    exact ret _ _ _ _ _ _ dX12_isSignOf_11 rfl (by decide) (by decide) ⟨rfl, (by decide), Or.inr (by omega)⟩
