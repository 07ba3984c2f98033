theorem dX12_chances_33 : decode cX12_chances 33 = .ok (.aload_n 0, 1) := by decide +kernel
theorem dX12_chances_34 : decode cX12_chances 34 = .ok (.iload_n 1, 1) := by decide +kernel
theorem dX12_chances_35 : decode cX12_chances 35 = .ok (.iload_n 2, 1) := by decide +kernel
theorem dX12_chances_36 : decode cX12_chances 36 = .ok (.iload_n 3, 1) := by decide +kernel
theorem dX12_chances_37 : decode cX12_chances 37 = .ok (.iload 4, 2) := by decide +kernel
theorem dX12_chances_39 : decode cX12_chances 39 = .ok (.invokevirtual 383, 3) := by decide +kernel
theorem dX12_chancesOf_0 : decode cX12_chancesOf 0 = .ok (.iconst 0, 1) := by decide +kernel
theorem dX12_chancesOf_1 : decode cX12_chancesOf 1 = .ok (.istore 5, 2) := by decide +kernel
theorem dX12_chancesOf_3 : decode cX12_chancesOf 3 = .ok (.iconst 0, 1) := by decide +kernel
theorem dX12_chancesOf_4 : decode cX12_chancesOf 4 = .ok (.istore 6, 2) := by decide +kernel
theorem dX12_chancesOf_6 : decode cX12_chancesOf 6 = .ok (.iload 6, 2) := by decide +kernel
theorem dX12_chancesOf_8 : decode cX12_chancesOf 8 = .ok (.iconst 1, 1) := by decide +kernel
theorem dX12_chancesOf_9 : decode cX12_chancesOf 9 = .ok (.iload_n 2, 1) := by decide +kernel
theorem dX12_chancesOf_10 : decode cX12_chancesOf 10 = .ok (.ishl, 1) := by decide +kernel
theorem dX12_chancesOf_11 : decode cX12_chancesOf 11 = .ok (.if_icmp .ge 112, 3) := by decide +kernel
theorem dX12_chancesOf_14 : decode cX12_chancesOf 14 = .ok (.iload 6, 2) := by decide +kernel
theorem dX12_chancesOf_16 : decode cX12_chancesOf 16 = .ok (.invokestatic 264, 3) := by decide +kernel
theorem dX12_chancesOf_19 : decode cX12_chancesOf 19 = .ok (.iload_n 3, 1) := by decide +kernel
theorem dX12_chancesOf_20 : decode cX12_chancesOf 20 = .ok (.if_icmp .ne 97, 3) := by decide +kernel
theorem dX12_chancesOf_23 : decode cX12_chancesOf 23 = .ok (.aload_n 0, 1) := by decide +kernel
theorem dX12_chancesOf_24 : decode cX12_chancesOf 24 = .ok (.iload_n 1, 1) := by decide +kernel
theorem dX12_chancesOf_25 : decode cX12_chancesOf 25 = .ok (.invokevirtual 312, 3) := by decide +kernel
theorem dX12_chancesOf_28 : decode cX12_chancesOf 28 = .ok (.iconst 0, 1) := by decide +kernel
theorem dX12_chancesOf_29 : decode cX12_chancesOf 29 = .ok (.istore 7, 2) := by decide +kernel
theorem dX12_chancesOf_31 : decode cX12_chancesOf 31 = .ok (.iload 7, 2) := by decide +kernel
theorem dX12_chancesOf_33 : decode cX12_chancesOf 33 = .ok (.iload_n 2, 1) := by decide +kernel
theorem dX12_chancesOf_34 : decode cX12_chancesOf 34 = .ok (.if_icmp .ge 33, 3) := by decide +kernel
theorem dX12_chancesOf_37 : decode cX12_chancesOf 37 = .ok (.iload 6, 2) := by decide +kernel
theorem dX12_chancesOf_39 : decode cX12_chancesOf 39 = .ok (.iload 7, 2) := by decide +kernel
theorem dX12_chancesOf_41 : decode cX12_chancesOf 41 = .ok (.ishr, 1) := by decide +kernel
theorem dX12_chancesOf_42 : decode cX12_chancesOf 42 = .ok (.iconst 1, 1) := by decide +kernel
theorem dX12_chancesOf_43 : decode cX12_chancesOf 43 = .ok (.iand, 1) := by decide +kernel
theorem dX12_chancesOf_44 : decode cX12_chancesOf 44 = .ok (.iconst 1, 1) := by decide +kernel
theorem dX12_chancesOf_45 : decode cX12_chancesOf 45 = .ok (.if_icmp .ne 16, 3) := by decide +kernel
theorem dX12_chancesOf_48 : decode cX12_chancesOf 48 = .ok (.aload_n 0, 1) := by decide +kernel
theorem dX12_chancesOf_49 : decode cX12_chancesOf 49 = .ok (.aload_n 0, 1) := by decide +kernel
theorem dX12_chancesOf_50 : decode cX12_chancesOf 50 = .ok (.getfield 121, 3) := by decide +kernel
theorem dX12_chancesOf_53 : decode cX12_chancesOf 53 = .ok (.iload 7, 2) := by decide +kernel
theorem dX12_chancesOf_55 : decode cX12_chancesOf 55 = .ok (.iaload, 1) := by decide +kernel
theorem dX12_chancesOf_56 : decode cX12_chancesOf 56 = .ok (.iconst 0, 1) := by decide +kernel
theorem dX12_chancesOf_57 : decode cX12_chancesOf 57 = .ok (.iconst (-1), 1) := by decide +kernel
theorem dX12_chancesOf_58 : decode cX12_chancesOf 58 = .ok (.invokevirtual 308, 3) := by decide +kernel
theorem dX12_chancesOf_61 : decode cX12_chancesOf 61 = .ok (.iinc 7 1, 3) := by decide +kernel
theorem dX12_chancesOf_64 : decode cX12_chancesOf 64 = .ok (.goto (-33), 3) := by decide +kernel
theorem dX12_chancesOf_67 : decode cX12_chancesOf 67 = .ok (.iload 4, 2) := by decide +kernel
theorem dX12_chancesOf_69 : decode cX12_chancesOf 69 = .ok (.ifCond .ne 10, 3) := by decide +kernel
theorem dX12_chancesOf_79 : decode cX12_chancesOf 79 = .ok (.aload_n 0, 1) := by decide +kernel
theorem dX12_chancesOf_80 : decode cX12_chancesOf 80 = .ok (.invokevirtual 346, 3) := by decide +kernel
theorem dX12_chancesOf_117 : decode cX12_chancesOf 117 = .ok (.iinc 6 1, 3) := by decide +kernel
theorem dX12_chancesOf_120 : decode cX12_chancesOf 120 = .ok (.goto (-114), 3) := by decide +kernel
theorem dX12_chancesOf_123 : decode cX12_chancesOf 123 = .ok (.iload 5, 2) := by decide +kernel
theorem dX12_chancesOf_125 : decode cX12_chancesOf 125 = .ok (.ireturn, 1) := by decide +kernel
theorem dX12_findSolved_0 : decode cX12_findSolved 0 = .ok (.aload_n 0, 1) := by decide +kernel
theorem dX12_findSolved_1 : decode cX12_findSolved 1 = .ok (.iconst 0, 1) := by decide +kernel
theorem dX12_findSolved_2 : decode cX12_findSolved 2 = .ok (.putfield 324, 3) := by decide +kernel
theorem dX12_findSolved_5 : decode cX12_findSolved 5 = .ok (.aload_n 0, 1) := by decide +kernel
theorem dX12_findSolved_6 : decode cX12_findSolved 6 = .ok (.iconst 1, 1) := by decide +kernel
theorem dX12_findSolved_7 : decode cX12_findSolved 7 = .ok (.putfield 326, 3) := by decide +kernel
theorem dX12_findSolved_10 : decode cX12_findSolved 10 = .ok (.iconst 0, 1) := by decide +kernel
theorem dX12_findSolved_11 : decode cX12_findSolved 11 = .ok (.istore_n 1, 1) := by decide +kernel
theorem dX12_findSolved_12 : decode cX12_findSolved 12 = .ok (.iload_n 1, 1) := by decide +kernel
theorem dX12_findSolved_13 : decode cX12_findSolved 13 = .ok (.bipush 20, 2) := by decide +kernel
theorem dX12_findSolved_15 : decode cX12_findSolved 15 = .ok (.if_icmp .ge 16, 3) := by decide +kernel
theorem dX12_findSolved_18 : decode cX12_findSolved 18 = .ok (.aload_n 0, 1) := by decide +kernel
theorem dX12_findSolved_19 : decode cX12_findSolved 19 = .ok (.getfield 106, 3) := by decide +kernel
theorem dX12_findSolved_22 : decode cX12_findSolved 22 = .ok (.iload_n 1, 1) := by decide +kernel
theorem dX12_findSolved_23 : decode cX12_findSolved 23 = .ok (.iconst 0, 1) := by decide +kernel
theorem dX12_findSolved_24 : decode cX12_findSolved 24 = .ok (.iastore, 1) := by decide +kernel
theorem dX12_findSolved_25 : decode cX12_findSolved 25 = .ok (.iinc 1 1, 3) := by decide +kernel
theorem dX12_findSolved_28 : decode cX12_findSolved 28 = .ok (.goto (-16), 3) := by decide +kernel
theorem dX12_findSolved_31 : decode cX12_findSolved 31 = .ok (.iconst 0, 1) := by decide +kernel
theorem dX12_findSolved_32 : decode cX12_findSolved 32 = .ok (.istore_n 1, 1) := by decide +kernel
theorem dX12_findSolved_33 : decode cX12_findSolved 33 = .ok (.iload_n 1, 1) := by decide +kernel
theorem dX12_findSolved_34 : decode cX12_findSolved 34 = .ok (.aload_n 0, 1) := by decide +kernel
theorem dX12_findSolved_35 : decode cX12_findSolved 35 = .ok (.getfield 305, 3) := by decide +kernel
theorem dX12_findSolved_38 : decode cX12_findSolved 38 = .ok (.if_icmp .ge 224, 3) := by decide +kernel
theorem dX12_findSolved_41 : decode cX12_findSolved 41 = .ok (.aload_n 0, 1) := by decide +kernel
theorem dX12_findSolved_42 : decode cX12_findSolved 42 = .ok (.getfield 91, 3) := by decide +kernel
theorem dX12_findSolved_45 : decode cX12_findSolved 45 = .ok (.iload_n 1, 1) := by decide +kernel
theorem dX12_findSolved_46 : decode cX12_findSolved 46 = .ok (.iaload, 1) := by decide +kernel
theorem dX12_findSolved_47 : decode cX12_findSolved 47 = .ok (.istore_n 2, 1) := by decide +kernel
theorem dX12_findSolved_48 : decode cX12_findSolved 48 = .ok (.aload_n 0, 1) := by decide +kernel
theorem dX12_findSolved_49 : decode cX12_findSolved 49 = .ok (.getfield 94, 3) := by decide +kernel
theorem dX12_findSolved_52 : decode cX12_findSolved 52 = .ok (.iload_n 1, 1) := by decide +kernel
theorem dX12_findSolved_53 : decode cX12_findSolved 53 = .ok (.iaload, 1) := by decide +kernel
theorem dX12_findSolved_54 : decode cX12_findSolved 54 = .ok (.istore_n 3, 1) := by decide +kernel
theorem dX12_findSolved_55 : decode cX12_findSolved 55 = .ok (.iconst 0, 1) := by decide +kernel
theorem dX12_findSolved_56 : decode cX12_findSolved 56 = .ok (.istore 4, 2) := by decide +kernel
theorem dX12_findSolved_58 : decode cX12_findSolved 58 = .ok (.iload 4, 2) := by decide +kernel
theorem dX12_findSolved_60 : decode cX12_findSolved 60 = .ok (.bipush 20, 2) := by decide +kernel
theorem dX12_findSolved_62 : decode cX12_findSolved 62 = .ok (.if_icmp .ge 49, 3) := by decide +kernel
theorem dX12_findSolved_65 : decode cX12_findSolved 65 = .ok (.iload_n 2, 1) := by decide +kernel
theorem dX12_findSolved_66 : decode cX12_findSolved 66 = .ok (.iload 4, 2) := by decide +kernel
theorem dX12_findSolved_68 : decode cX12_findSolved 68 = .ok (.ishr, 1) := by decide +kernel
theorem dX12_findSolved_69 : decode cX12_findSolved 69 = .ok (.iconst 1, 1) := by decide +kernel
theorem dX12_findSolved_70 : decode cX12_findSolved 70 = .ok (.iand, 1) := by decide +kernel
theorem dX12_findSolved_71 : decode cX12_findSolved 71 = .ok (.iconst 1, 1) := by decide +kernel
theorem dX12_findSolved_72 : decode cX12_findSolved 72 = .ok (.if_icmp .ne 33, 3) := by decide +kernel
theorem dX12_findSolved_75 : decode cX12_findSolved 75 = .ok (.aload_n 0, 1) := by decide +kernel
theorem dX12_findSolved_76 : decode cX12_findSolved 76 = .ok (.getfield 106, 3) := by decide +kernel
theorem dX12_findSolved_79 : decode cX12_findSolved 79 = .ok (.iload 4, 2) := by decide +kernel
theorem dX12_findSolved_81 : decode cX12_findSolved 81 = .ok (.iaload, 1) := by decide +kernel
theorem dX12_findSolved_82 : decode cX12_findSolved 82 = .ok (.ifCond .eq 23, 3) := by decide +kernel
theorem dX12_findSolved_85 : decode cX12_findSolved 85 = .ok (.iload_n 2, 1) := by decide +kernel
theorem dX12_findSolved_86 : decode cX12_findSolved 86 = .ok (.aload_n 0, 1) := by decide +kernel
theorem dX12_findSolved_87 : decode cX12_findSolved 87 = .ok (.getfield 106, 3) := by decide +kernel
theorem dX12_findSolved_90 : decode cX12_findSolved 90 = .ok (.iload 4, 2) := by decide +kernel
theorem dX12_findSolved_92 : decode cX12_findSolved 92 = .ok (.iaload, 1) := by decide +kernel
theorem dX12_findSolved_93 : decode cX12_findSolved 93 = .ok (.ixor, 1) := by decide +kernel
theorem dX12_findSolved_94 : decode cX12_findSolved 94 = .ok (.istore_n 2, 1) := by decide +kernel
theorem dX12_findSolved_95 : decode cX12_findSolved 95 = .ok (.iload_n 3, 1) := by decide +kernel
theorem dX12_findSolved_96 : decode cX12_findSolved 96 = .ok (.aload_n 0, 1) := by decide +kernel
theorem dX12_findSolved_97 : decode cX12_findSolved 97 = .ok (.getfield 109, 3) := by decide +kernel
theorem dX12_findSolved_100 : decode cX12_findSolved 100 = .ok (.iload 4, 2) := by decide +kernel
theorem dX12_findSolved_102 : decode cX12_findSolved 102 = .ok (.iaload, 1) := by decide +kernel
theorem dX12_findSolved_103 : decode cX12_findSolved 103 = .ok (.ixor, 1) := by decide +kernel
theorem dX12_findSolved_104 : decode cX12_findSolved 104 = .ok (.istore_n 3, 1) := by decide +kernel
theorem dX12_findSolved_105 : decode cX12_findSolved 105 = .ok (.iinc 4 1, 3) := by decide +kernel
theorem dX12_findSolved_108 : decode cX12_findSolved 108 = .ok (.goto (-50), 3) := by decide +kernel
theorem dX12_findSolved_111 : decode cX12_findSolved 111 = .ok (.iconst (-1), 1) := by decide +kernel
theorem dX12_findSolved_112 : decode cX12_findSolved 112 = .ok (.istore 4, 2) := by decide +kernel
theorem dX12_findSolved_114 : decode cX12_findSolved 114 = .ok (.bipush 19, 2) := by decide +kernel
theorem dX12_findSolved_116 : decode cX12_findSolved 116 = .ok (.istore 5, 2) := by decide +kernel
theorem dX12_findSolved_118 : decode cX12_findSolved 118 = .ok (.iload 5, 2) := by decide +kernel
theorem dX12_findSolved_120 : decode cX12_findSolved 120 = .ok (.ifCond .lt 28, 3) := by decide +kernel
theorem dX12_findSolved_123 : decode cX12_findSolved 123 = .ok (.iload_n 2, 1) := by decide +kernel
theorem dX12_findSolved_124 : decode cX12_findSolved 124 = .ok (.iload 5, 2) := by decide +kernel
theorem dX12_findSolved_126 : decode cX12_findSolved 126 = .ok (.ishr, 1) := by decide +kernel
theorem dX12_findSolved_127 : decode cX12_findSolved 127 = .ok (.iconst 1, 1) := by decide +kernel
theorem dX12_findSolved_128 : decode cX12_findSolved 128 = .ok (.iand, 1) := by decide +kernel
theorem dX12_findSolved_129 : decode cX12_findSolved 129 = .ok (.iconst 1, 1) := by decide +kernel
theorem dX12_findSolved_130 : decode cX12_findSolved 130 = .ok (.if_icmp .ne 8, 3) := by decide +kernel
theorem dX12_findSolved_133 : decode cX12_findSolved 133 = .ok (.iload 5, 2) := by decide +kernel
theorem dX12_findSolved_135 : decode cX12_findSolved 135 = .ok (.goto 5, 3) := by decide +kernel
theorem dX12_findSolved_138 : decode cX12_findSolved 138 = .ok (.iload 4, 2) := by decide +kernel
theorem dX12_findSolved_140 : decode cX12_findSolved 140 = .ok (.istore 4, 2) := by decide +kernel
theorem dX12_findSolved_142 : decode cX12_findSolved 142 = .ok (.iinc 5 (-1), 3) := by decide +kernel
theorem dX12_findSolved_145 : decode cX12_findSolved 145 = .ok (.goto (-27), 3) := by decide +kernel
theorem dX12_findSolved_148 : decode cX12_findSolved 148 = .ok (.iload 4, 2) := by decide +kernel
theorem dX12_findSolved_150 : decode cX12_findSolved 150 = .ok (.ifCond .ge 26, 3) := by decide +kernel
theorem dX12_findSolved_153 : decode cX12_findSolved 153 = .ok (.aload_n 0, 1) := by decide +kernel
theorem dX12_findSolved_154 : decode cX12_findSolved 154 = .ok (.aload_n 0, 1) := by decide +kernel
theorem dX12_findSolved_155 : decode cX12_findSolved 155 = .ok (.getfield 326, 3) := by decide +kernel
theorem dX12_findSolved_158 : decode cX12_findSolved 158 = .ok (.ifCond .eq 11, 3) := by decide +kernel
theorem dX12_findSolved_161 : decode cX12_findSolved 161 = .ok (.iload_n 3, 1) := by decide +kernel
theorem dX12_findSolved_162 : decode cX12_findSolved 162 = .ok (.ifCond .ne 7, 3) := by decide +kernel
theorem dX12_findSolved_165 : decode cX12_findSolved 165 = .ok (.iconst 1, 1) := by decide +kernel
theorem dX12_findSolved_166 : decode cX12_findSolved 166 = .ok (.goto 4, 3) := by decide +kernel
theorem dX12_findSolved_169 : decode cX12_findSolved 169 = .ok (.iconst 0, 1) := by decide +kernel
theorem dX12_findSolved_170 : decode cX12_findSolved 170 = .ok (.putfield 326, 3) := by decide +kernel
theorem dX12_findSolved_173 : decode cX12_findSolved 173 = .ok (.goto 83, 3) := by decide +kernel
theorem dX12_findSolved_176 : decode cX12_findSolved 176 = .ok (.iconst 0, 1) := by decide +kernel
theorem dX12_findSolved_177 : decode cX12_findSolved 177 = .ok (.istore 5, 2) := by decide +kernel
theorem dX12_findSolved_179 : decode cX12_findSolved 179 = .ok (.iload 5, 2) := by decide +kernel
theorem dX12_findSolved_181 : decode cX12_findSolved 181 = .ok (.bipush 20, 2) := by decide +kernel
theorem dX12_findSolved_183 : decode cX12_findSolved 183 = .ok (.if_icmp .ge 47, 3) := by decide +kernel
theorem dX12_findSolved_186 : decode cX12_findSolved 186 = .ok (.aload_n 0, 1) := by decide +kernel
theorem dX12_findSolved_187 : decode cX12_findSolved 187 = .ok (.getfield 106, 3) := by decide +kernel
theorem dX12_findSolved_190 : decode cX12_findSolved 190 = .ok (.iload 5, 2) := by decide +kernel
theorem dX12_findSolved_192 : decode cX12_findSolved 192 = .ok (.iaload, 1) := by decide +kernel
theorem dX12_findSolved_193 : decode cX12_findSolved 193 = .ok (.iload 4, 2) := by decide +kernel
theorem dX12_findSolved_195 : decode cX12_findSolved 195 = .ok (.ishr, 1) := by decide +kernel
theorem dX12_findSolved_196 : decode cX12_findSolved 196 = .ok (.iconst 1, 1) := by decide +kernel
theorem dX12_findSolved_197 : decode cX12_findSolved 197 = .ok (.iand, 1) := by decide +kernel
theorem dX12_findSolved_198 : decode cX12_findSolved 198 = .ok (.iconst 1, 1) := by decide +kernel
theorem dX12_findSolved_199 : decode cX12_findSolved 199 = .ok (.if_icmp .ne 25, 3) := by decide +kernel
theorem dX12_findSolved_202 : decode cX12_findSolved 202 = .ok (.aload_n 0, 1) := by decide +kernel
theorem dX12_findSolved_203 : decode cX12_findSolved 203 = .ok (.getfield 106, 3) := by decide +kernel
theorem dX12_findSolved_206 : decode cX12_findSolved 206 = .ok (.iload 5, 2) := by decide +kernel
theorem dX12_findSolved_208 : decode cX12_findSolved 208 = .ok (.dup2, 1) := by decide +kernel
theorem dX12_findSolved_209 : decode cX12_findSolved 209 = .ok (.iaload, 1) := by decide +kernel
theorem dX12_findSolved_210 : decode cX12_findSolved 210 = .ok (.iload_n 2, 1) := by decide +kernel
theorem dX12_findSolved_211 : decode cX12_findSolved 211 = .ok (.ixor, 1) := by decide +kernel
theorem dX12_findSolved_212 : decode cX12_findSolved 212 = .ok (.iastore, 1) := by decide +kernel
theorem dX12_findSolved_213 : decode cX12_findSolved 213 = .ok (.aload_n 0, 1) := by decide +kernel
theorem dX12_findSolved_214 : decode cX12_findSolved 214 = .ok (.getfield 109, 3) := by decide +kernel
theorem dX12_findSolved_217 : decode cX12_findSolved 217 = .ok (.iload 5, 2) := by decide +kernel
theorem dX12_findSolved_219 : decode cX12_findSolved 219 = .ok (.dup2, 1) := by decide +kernel
theorem dX12_findSolved_220 : decode cX12_findSolved 220 = .ok (.iaload, 1) := by decide +kernel
theorem dX12_findSolved_221 : decode cX12_findSolved 221 = .ok (.iload_n 3, 1) := by decide +kernel
theorem dX12_findSolved_222 : decode cX12_findSolved 222 = .ok (.ixor, 1) := by decide +kernel
theorem dX12_findSolved_223 : decode cX12_findSolved 223 = .ok (.iastore, 1) := by decide +kernel
theorem dX12_findSolved_224 : decode cX12_findSolved 224 = .ok (.iinc 5 1, 3) := by decide +kernel
theorem dX12_findSolved_227 : decode cX12_findSolved 227 = .ok (.goto (-48), 3) := by decide +kernel
theorem dX12_findSolved_230 : decode cX12_findSolved 230 = .ok (.aload_n 0, 1) := by decide +kernel
theorem dX12_findSolved_231 : decode cX12_findSolved 231 = .ok (.getfield 106, 3) := by decide +kernel
theorem dX12_findSolved_234 : decode cX12_findSolved 234 = .ok (.iload 4, 2) := by decide +kernel
theorem dX12_findSolved_236 : decode cX12_findSolved 236 = .ok (.iload_n 2, 1) := by decide +kernel
theorem dX12_findSolved_237 : decode cX12_findSolved 237 = .ok (.iastore, 1) := by decide +kernel
theorem dX12_findSolved_238 : decode cX12_findSolved 238 = .ok (.aload_n 0, 1) := by decide +kernel
theorem dX12_findSolved_239 : decode cX12_findSolved 239 = .ok (.getfield 109, 3) := by decide +kernel
theorem dX12_findSolved_242 : decode cX12_findSolved 242 = .ok (.iload 4, 2) := by decide +kernel
theorem dX12_findSolved_244 : decode cX12_findSolved 244 = .ok (.iload_n 3, 1) := by decide +kernel
theorem dX12_findSolved_245 : decode cX12_findSolved 245 = .ok (.iastore, 1) := by decide +kernel
theorem dX12_findSolved_246 : decode cX12_findSolved 246 = .ok (.aload_n 0, 1) := by decide +kernel
theorem dX12_findSolved_247 : decode cX12_findSolved 247 = .ok (.dup, 1) := by decide +kernel
theorem dX12_findSolved_248 : decode cX12_findSolved 248 = .ok (.getfield 324, 3) := by decide +kernel
theorem dX12_findSolved_251 : decode cX12_findSolved 251 = .ok (.iconst 1, 1) := by decide +kernel
theorem dX12_findSolved_252 : decode cX12_findSolved 252 = .ok (.iadd, 1) := by decide +kernel
theorem dX12_findSolved_253 : decode cX12_findSolved 253 = .ok (.putfield 324, 3) := by decide +kernel
theorem dX12_findSolved_256 : decode cX12_findSolved 256 = .ok (.iinc 1 1, 3) := by decide +kernel
theorem dX12_findSolved_259 : decode cX12_findSolved 259 = .ok (.goto (-226), 3) := by decide +kernel
theorem dX12_findSolved_262 : decode cX12_findSolved 262 = .ok (.return_, 1) := by decide +kernel
set_option maxHeartbeats 4000000 in
set_option maxRecDepth 100000 in
theorem s_X12_findSolved {P : PP} {a0 : Nat} (I : IM P a0) (hW : MW P a0) : CtrV yX12_findSolved cX12_findSolved 6 none ({ frames := 1, cells := 0, slots := 0, locals := 64 } : Room) 0 0 P [.ref a0] (fun P2 => IM P2 a0 ∧ EM [35, 36, 37, 38] a0 P P2 ∧ MW P2 a0) := by
  refine enV (lv := [(0, .ref a0)]) (by decide) (Nat.le_of_ble_eq_true rfl) rfl (fun E D cy C Ci0 ret => ?_)
  have ha0 := I.2.1
  have J33 : ∀ (n33 : Nat) (P33 : PP) (v33_1 : Int32), (64 - v33_1.toInt).toNat < n33 → (IM P33 a0) → (EM [35, 36, 37, 38] a0 P P33) → (MW P33 a0) → (0 ≤ v33_1.toInt ∧ v33_1.toInt ≤ 64) → G E ({ frames := 1, cells := 0, slots := 0, locals := 64 } : Room) D cy 6 P33 0 0 33 [(0, .ref a0), (1, .int v33_1)] [] := by
    intro n33
    induction n33 with
    | zero => intro P33 v33_1 hm33 I33 X33 W33 hv33_1; omega
    | succ n33 ih33 =>
      intro P33 v33_1 hm33 I33 X33 W33 hv33_1
      have h17571 := X33.at ha0
      have J256 : ∀ (P256 : PP), (IM P256 a0) → (EM [35, 36, 37, 38] a0 P P256) → (MW P256 a0) → (0 ≤ v33_1.toInt ∧ v33_1.toInt ≤ 63) → (1 ≤ (pI P256 a0 28).toInt ∧ (pI P256 a0 28).toInt ≤ 64) → G E ({ frames := 1, cells := 0, slots := 0, locals := 64 } : Room) D cy 6 P256 0 0 256 [(0, .ref a0), (1, .int v33_1)] [] := by
        intro P256 I256 X256 W256 hv256_1 hq256_0
        have h17572 := X256.at ha0
        refine s_iinc (lv0 := [(0, .ref a0)]) (m := 1) C dX12_findSolved_256 1 rfl (by decide) rfl (by decide) (by omega) (fun z17573 h17574 => ?_)
        have h17574 : z17573.toInt = v33_1.toInt + 1 := h17574
        refine g_goto C 33 dX12_findSolved_259 (by decide) ?_
        refine g_lv (lv' := [(0, .ref a0), (1, .int z17573)]) [1, 0] rfl ?_
        exact ih33 P256 z17573 (by omega) I256 X256 W256 (by omega)
      have J179 : ∀ (n179 : Nat) (P179 : PP) (v179_2 : Int32) (v179_3 : Int32) (v179_4 : Int32) (v179_5 : Int32), (20 - v179_5.toInt).toNat < n179 → (IM P179 a0) → (EM [35, 36, 37, 38] a0 P P179) → (MW P179 a0) → (0 ≤ v33_1.toInt ∧ v33_1.toInt ≤ 63) → (0 ≤ v179_4.toInt ∧ v179_4.toInt ≤ 19) → (0 ≤ v179_5.toInt ∧ v179_5.toInt ≤ 20) → (1 ≤ (pI P179 a0 28).toInt ∧ (pI P179 a0 28).toInt ≤ 64) → G E ({ frames := 1, cells := 0, slots := 0, locals := 64 } : Room) D cy 6 P179 0 0 179 [(0, .ref a0), (1, .int v33_1), (2, .int v179_2), (3, .int v179_3), (4, .int v179_4), (5, .int v179_5)] [] := by
        intro n179
        induction n179 with
        | zero => intro P179 v179_2 v179_3 v179_4 v179_5 hm179 I179 X179 W179 hv179_1 hv179_4 hv179_5 hq179_0; omega
        | succ n179 ih179 =>
          intro P179 v179_2 v179_3 v179_4 v179_5 hm179 I179 X179 W179 hv179_1 hv179_4 hv179_5 hq179_0
          have h17575 := X179.at ha0
          have J224 : ∀ (P224 : PP), (IM P224 a0) → (EM [35, 36, 37, 38] a0 P P224) → (MW P224 a0) → (0 ≤ v33_1.toInt ∧ v33_1.toInt ≤ 63) → (0 ≤ v179_5.toInt ∧ v179_5.toInt ≤ 19) → (1 ≤ (pI P224 a0 28).toInt ∧ (pI P224 a0 28).toInt ≤ 64) → G E ({ frames := 1, cells := 0, slots := 0, locals := 64 } : Room) D cy 6 P224 0 0 224 [(0, .ref a0), (1, .int v33_1), (2, .int v179_2), (3, .int v179_3), (4, .int v179_4), (5, .int v179_5)] [] := by
            intro P224 I224 X224 W224 hv224_1 hv224_5 hq224_0
            have h17576 := X224.at ha0
            refine s_iinc (lv0 := [(0, .ref a0), (1, .int v33_1), (2, .int v179_2), (3, .int v179_3), (4, .int v179_4)]) (m := 1) C dX12_findSolved_224 5 rfl (by decide) rfl (by decide) (by omega) (fun z17577 h17578 => ?_)
            have h17578 : z17577.toInt = v179_5.toInt + 1 := h17578
            refine g_goto C 179 dX12_findSolved_227 (by decide) ?_
            refine g_lv (lv' := [(0, .ref a0), (1, .int v33_1), (2, .int v179_2), (3, .int v179_3), (4, .int v179_4), (5, .int z17577)]) [1, 2, 3, 4, 5, 0] rfl ?_
            exact ih179 P224 v179_2 v179_3 v179_4 z17577 (by omega) I224 X224 W224 (by omega) (by omega) (by omega) (by omega)
          refine g_iload C dX12_findSolved_179 5 rfl ?_
          refine g_bipush (v := 20) C dX12_findSolved_181 (by decide) ?_
          refine b_icmp_ge C 230 dX12_findSolved_183 (by decide) (fun h17579 => ?_) (fun h17579 => ?_)
          · have h17579 : 20 ≤ v179_5.toInt := h17579
            refine g_aload_n C dX12_findSolved_230 rfl 0 rfl ?_
            obtain ⟨b17580, e17581, h17582⟩ := I179.fld (h17575) 37 13 20 rfl
            refine g_getR C fi_X12_106 rfl e17581 (h17575).1 (h17575).2 dX12_findSolved_231 ?_
            refine g_iload C dX12_findSolved_234 4 rfl ?_
            refine g_iload_n C dX12_findSolved_236 rfl 2 rfl ?_
            refine g_iast (j := (v179_4.toInt.toNat)) C h17582.1 h17582.2.1 (ix_in h17582.2.2 (by omega)) dX12_findSolved_237 ?_
            refine gqW (ks := [37]) (I179.setA e17581 h17582 (by decide) (arOk.none rfl)) (EM.setA I179 e17581 rfl (by decide)) (fun Y17583 Iy17584 Xy17585 w17586 => ?_)
            have w17586 : (pI Y17583 b17580 (v179_4.toInt.toNat)).toInt = v179_2.toInt := w17586
            have q17587 := Xy17585.keepF 28 (by decide)
            have W17588 := W179.keep I179 Xy17585 (by decide) (by decide) (by decide)
            have Xz17589 : EM [35, 36, 37, 38] a0 P Y17583 := EM.tr ha0 X179 (Xy17585.mono (by decide))
            have e17590 := Xy17585.ref h17575 (by decide) e17581
            have h17591 := Xy17585.at h17575
            have h17592 := Xy17585.ar h17582
            refine g_aload_n C dX12_findSolved_238 rfl 0 rfl ?_
            obtain ⟨b17593, e17594, h17595⟩ := Iy17584.fld (h17591) 38 13 20 rfl
            refine g_getR C fi_X12_109 rfl e17594 (h17591).1 (h17591).2 dX12_findSolved_239 ?_
            refine g_iload C dX12_findSolved_242 4 rfl ?_
            refine g_iload_n C dX12_findSolved_244 rfl 3 rfl ?_
            refine g_iast (j := (v179_4.toInt.toNat)) C h17595.1 h17595.2.1 (ix_in h17595.2.2 (by omega)) dX12_findSolved_245 ?_
            refine gqW (ks := [38]) (Iy17584.setA e17594 h17595 (by decide) (arOk.none rfl)) (EM.setA Iy17584 e17594 rfl (by decide)) (fun Y17596 Iy17597 Xy17598 w17599 => ?_)
            have w17599 : (pI Y17596 b17593 (v179_4.toInt.toNat)).toInt = v179_3.toInt := w17599
            have q17600 := Xy17598.keepF 28 (by decide)
            have q17601 := Xy17598.keepA e17590 (by decide) rfl (v179_4.toInt.toNat)
            have W17602 := W17588.keep Iy17584 Xy17598 (by decide) (by decide) (by decide)
            have Xz17603 : EM [35, 36, 37, 38] a0 P Y17596 := EM.tr ha0 Xz17589 (Xy17598.mono (by decide))
            have e17604 := Xy17598.ref h17591 (by decide) e17590
            have e17605 := Xy17598.ref h17591 (by decide) e17594
            have h17606 := Xy17598.at h17591
            have h17607 := Xy17598.ar h17592
            have h17608 := Xy17598.ar h17595
            refine g_aload_n C dX12_findSolved_246 rfl 0 rfl ?_
            refine g_dup C dX12_findSolved_247 rfl ?_
            refine g_getI C fi_X12_324 (by decide) (h17606).1 (h17606).2 dX12_findSolved_248 ?_
            refine g_iconst (v := 1) C dX12_findSolved_251 (by decide) ?_
            refine a_iadd C dX12_findSolved_252 (fun z17609 => ?_)
            refine g_putI C fi_X12_324 rfl (h17606).1 (h17606).2 dX12_findSolved_253 ?_
            refine gqW (ks := [35]) (Iy17597.setI (rgOk.none rfl)) (EM.setI Iy17597 (by decide)) (fun Y17611 Iy17612 Xy17613 w17614 => ?_)
            have w17614 : (pI Y17611 a0 35).toInt = z17609.toInt := w17614
            have q17615 := Xy17613.keepF 28 (by decide)
            have q17616 := Xy17613.keepA e17604 (by decide) rfl (v179_4.toInt.toNat)
            have q17617 := Xy17613.keepA e17605 (by decide) rfl (v179_4.toInt.toNat)
            have W17618 := W17602.keep Iy17597 Xy17613 (by decide) (by decide) (by decide)
            have Xz17619 : EM [35, 36, 37, 38] a0 P Y17611 := EM.tr ha0 Xz17603 (Xy17613.mono (by decide))
            have e17620 := Xy17613.ref h17606 (by decide) e17604
            have e17621 := Xy17613.ref h17606 (by decide) e17605
            have h17622 := Xy17613.at h17606
            have h17623 := Xy17613.ar h17607
            have h17624 := Xy17613.ar h17608
            refine g_lv (lv' := [(0, .ref a0), (1, .int v33_1)]) [0, 1] rfl ?_
            exact J256 Y17611 Iy17612 Xz17619 W17618 (by omega) (by omega)
          · have h17579 : v179_5.toInt < 20 := h17579
            refine g_aload_n C dX12_findSolved_186 rfl 0 rfl ?_
            obtain ⟨b17625, e17626, h17627⟩ := I179.fld (h17575) 37 13 20 rfl
            refine g_getR C fi_X12_106 rfl e17626 (h17575).1 (h17575).2 dX12_findSolved_187 ?_
            refine g_iload C dX12_findSolved_190 5 rfl ?_
            refine g_iald (j := (v179_5.toInt.toNat)) C h17627.1 h17627.2.1 (ix_in h17627.2.2 (by omega)) dX12_findSolved_192 ?_
            refine g_iload C dX12_findSolved_193 4 rfl ?_
            refine a_ishr C dX12_findSolved_195 (fun z17628 => ?_)
            refine g_iconst (v := 1) C dX12_findSolved_196 (by decide) ?_
            refine s_iand C dX12_findSolved_197 (by show 0 ≤ 1; omega) (fun z17630 h17631 => ?_)
            have h17631 : 0 ≤ z17630.toInt ∧ z17630.toInt ≤ 1 := h17631
            refine g_iconst (v := 1) C dX12_findSolved_198 (by decide) ?_
            refine b_icmp_ne C 224 dX12_findSolved_199 (by decide) (fun h17632 => ?_) (fun h17632 => ?_)
            · have h17632 : z17630.toInt ≠ 1 := ti_ne h17632
              exact J224 P179 I179 X179 W179 (by omega) (by omega) (by omega)
            · have h17632 : z17630.toInt = 1 := congrArg Int32.toInt h17632
              refine g_aload_n C dX12_findSolved_202 rfl 0 rfl ?_
              refine g_getR C fi_X12_106 rfl e17626 (h17575).1 (h17575).2 dX12_findSolved_203 ?_
              refine g_iload C dX12_findSolved_206 5 rfl ?_
              refine g_dup2_11 C dX12_findSolved_208 rfl rfl ?_
              refine g_iald (j := (v179_5.toInt.toNat)) C h17627.1 h17627.2.1 (ix_in h17627.2.2 (by omega)) dX12_findSolved_209 ?_
              refine g_iload_n C dX12_findSolved_210 rfl 2 rfl ?_
              refine a_ixor C dX12_findSolved_211 (fun z17633 => ?_)
              refine g_iast (j := (v179_5.toInt.toNat)) C h17627.1 h17627.2.1 (ix_in h17627.2.2 (by omega)) dX12_findSolved_212 ?_
              refine gqW (ks := [37]) (I179.setA e17626 h17627 (by decide) (arOk.none rfl)) (EM.setA I179 e17626 rfl (by decide)) (fun Y17635 Iy17636 Xy17637 w17638 => ?_)
              have w17638 : (pI Y17635 b17625 (v179_5.toInt.toNat)).toInt = z17633.toInt := w17638
              have q17639 := Xy17637.keepF 28 (by decide)
              have W17640 := W179.keep I179 Xy17637 (by decide) (by decide) (by decide)
              have Xz17641 : EM [35, 36, 37, 38] a0 P Y17635 := EM.tr ha0 X179 (Xy17637.mono (by decide))
              have e17642 := Xy17637.ref h17575 (by decide) e17626
              have h17643 := Xy17637.at h17575
              have h17644 := Xy17637.ar h17627
              refine g_aload_n C dX12_findSolved_213 rfl 0 rfl ?_
              obtain ⟨b17645, e17646, h17647⟩ := Iy17636.fld (h17643) 38 13 20 rfl
              refine g_getR C fi_X12_109 rfl e17646 (h17643).1 (h17643).2 dX12_findSolved_214 ?_
              refine g_iload C dX12_findSolved_217 5 rfl ?_
              refine g_dup2_11 C dX12_findSolved_219 rfl rfl ?_
              refine g_iald (j := (v179_5.toInt.toNat)) C h17647.1 h17647.2.1 (ix_in h17647.2.2 (by omega)) dX12_findSolved_220 ?_
              refine g_iload_n C dX12_findSolved_221 rfl 3 rfl ?_
              refine a_ixor C dX12_findSolved_222 (fun z17648 => ?_)
              refine g_iast (j := (v179_5.toInt.toNat)) C h17647.1 h17647.2.1 (ix_in h17647.2.2 (by omega)) dX12_findSolved_223 ?_
              refine gqW (ks := [38]) (Iy17636.setA e17646 h17647 (by decide) (arOk.none rfl)) (EM.setA Iy17636 e17646 rfl (by decide)) (fun Y17650 Iy17651 Xy17652 w17653 => ?_)
              have w17653 : (pI Y17650 b17645 (v179_5.toInt.toNat)).toInt = z17648.toInt := w17653
              have q17654 := Xy17652.keepF 28 (by decide)
              have q17655 := Xy17652.keepA e17642 (by decide) rfl (v179_5.toInt.toNat)
              have W17656 := W17640.keep Iy17636 Xy17652 (by decide) (by decide) (by decide)
              have Xz17657 : EM [35, 36, 37, 38] a0 P Y17650 := EM.tr ha0 Xz17641 (Xy17652.mono (by decide))
              have e17658 := Xy17652.ref h17643 (by decide) e17642
              have e17659 := Xy17652.ref h17643 (by decide) e17646
              have h17660 := Xy17652.at h17643
              have h17661 := Xy17652.ar h17644
              have h17662 := Xy17652.ar h17647
              exact J224 Y17650 Iy17651 Xz17657 W17656 (by omega) (by omega) (by omega)
      have J170 : ∀ (v170_s0 : Int32), (0 ≤ v33_1.toInt ∧ v33_1.toInt ≤ 63) → (0 ≤ v170_s0.toInt ∧ v170_s0.toInt ≤ 1) → (1 ≤ (pI P33 a0 28).toInt ∧ (pI P33 a0 28).toInt ≤ 64) → G E ({ frames := 1, cells := 0, slots := 0, locals := 64 } : Room) D cy 6 P33 0 0 170 [(0, .ref a0), (1, .int v33_1)] [.int v170_s0, .ref a0] := by
        intro v170_s0 hv170_1 hv170_s0 hq170_0
        have h17663 := X33.at ha0
        refine g_putZ C fi_X12_326 rfl (b01 (by omega)) (h17663).1 (h17663).2 dX12_findSolved_170 ?_
        refine gqW (ks := [36]) (I33.setI (rgOk.of rfl (by omega))) (EM.setI I33 (by decide)) (fun Y17664 Iy17665 Xy17666 w17667 => ?_)
        have w17667 : (pI Y17664 a0 36).toInt = v170_s0.toInt := w17667
        have q17668 := Xy17666.keepF 28 (by decide)
        have W17669 := W33.keep I33 Xy17666 (by decide) (by decide) (by decide)
        have Xz17670 : EM [35, 36, 37, 38] a0 P Y17664 := EM.tr ha0 X33 (Xy17666.mono (by decide))
        have h17671 := Xy17666.at h17663
        refine g_goto C 256 dX12_findSolved_173 (by decide) ?_
        exact J256 Y17664 Iy17665 Xz17670 W17669 (by omega) (by omega)
      have J169 : (0 ≤ v33_1.toInt ∧ v33_1.toInt ≤ 63) → (1 ≤ (pI P33 a0 28).toInt ∧ (pI P33 a0 28).toInt ≤ 64) → (0 ≤ (pI P33 a0 36).toInt ∧ (pI P33 a0 36).toInt ≤ 1) → G E ({ frames := 1, cells := 0, slots := 0, locals := 64 } : Room) D cy 6 P33 0 0 169 [(0, .ref a0), (1, .int v33_1)] [.ref a0] := by
        intro hv169_1 hq169_0 hq169_1
        have h17672 := X33.at ha0
        refine g_iconst (v := 0) C dX12_findSolved_169 (by decide) ?_
        exact J170 0 (by omega) (by decide) (by omega)
      have J118 : ∀ (n118 : Nat) (v118_2 : Int32) (v118_3 : Int32) (v118_4 : Int32) (v118_5 : Int32), (v118_5.toInt - (-1)).toNat < n118 → (0 ≤ v33_1.toInt ∧ v33_1.toInt ≤ 63) → (-1 ≤ v118_4.toInt ∧ v118_4.toInt ≤ 19) → (-1 ≤ v118_5.toInt ∧ v118_5.toInt ≤ 19) → (1 ≤ (pI P33 a0 28).toInt ∧ (pI P33 a0 28).toInt ≤ 64) → G E ({ frames := 1, cells := 0, slots := 0, locals := 64 } : Room) D cy 6 P33 0 0 118 [(0, .ref a0), (1, .int v33_1), (2, .int v118_2), (3, .int v118_3), (4, .int v118_4), (5, .int v118_5)] [] := by
        intro n118
        induction n118 with
        | zero => intro v118_2 v118_3 v118_4 v118_5 hm118 hv118_1 hv118_4 hv118_5 hq118_0; omega
        | succ n118 ih118 =>
          intro v118_2 v118_3 v118_4 v118_5 hm118 hv118_1 hv118_4 hv118_5 hq118_0
          have h17673 := X33.at ha0
          have J140 : ∀ (v140_s0 : Int32), (0 ≤ v33_1.toInt ∧ v33_1.toInt ≤ 63) → (0 ≤ v118_5.toInt ∧ v118_5.toInt ≤ 19) → (-1 ≤ v140_s0.toInt ∧ v140_s0.toInt ≤ 19) → (1 ≤ (pI P33 a0 28).toInt ∧ (pI P33 a0 28).toInt ≤ 64) → G E ({ frames := 1, cells := 0, slots := 0, locals := 64 } : Room) D cy 6 P33 0 0 140 [(0, .ref a0), (1, .int v33_1), (2, .int v118_2), (3, .int v118_3), (5, .int v118_5)] [.int v140_s0] := by
            intro v140_s0 hv140_1 hv140_5 hv140_s0 hq140_0
            have h17674 := X33.at ha0
            refine g_istore (lv' := [(4, .int v140_s0), (0, .ref a0), (1, .int v33_1), (2, .int v118_2), (3, .int v118_3), (5, .int v118_5)]) C dX12_findSolved_140 (by decide) rfl ?_
            refine s_iinc (lv0 := [(4, .int v140_s0), (0, .ref a0), (1, .int v33_1), (2, .int v118_2), (3, .int v118_3)]) (m := -1) C dX12_findSolved_142 5 rfl (by decide) rfl (by decide) (by omega) (fun z17675 h17676 => ?_)
            have h17676 : z17675.toInt = v118_5.toInt + (-1) := h17676
            refine g_goto C 118 dX12_findSolved_145 (by decide) ?_
            refine g_lv (lv' := [(0, .ref a0), (1, .int v33_1), (2, .int v118_2), (3, .int v118_3), (4, .int v140_s0), (5, .int z17675)]) [2, 3, 4, 5, 1, 0] rfl ?_
            exact ih118 v118_2 v118_3 v140_s0 z17675 (by omega) (by omega) (by omega) (by omega) (by omega)
          refine g_iload C dX12_findSolved_118 5 rfl ?_
          refine b_if_lt C 148 dX12_findSolved_120 (by decide) (fun h17677 => ?_) (fun h17677 => ?_)
          · have h17677 : v118_5.toInt < 0 := h17677
            refine g_iload C dX12_findSolved_148 4 rfl ?_
            refine b_if_ge C 176 dX12_findSolved_150 (by decide) (fun h17678 => ?_) (fun h17678 => ?_)
            · have h17678 : 0 ≤ v118_4.toInt := h17678
              refine g_iconst (v := 0) C dX12_findSolved_176 (by decide) ?_
              refine g_istore (lv' := [(5, .int 0), (0, .ref a0), (1, .int v33_1), (2, .int v118_2), (3, .int v118_3), (4, .int v118_4)]) C dX12_findSolved_177 (by decide) rfl ?_
              refine g_lv (lv' := [(0, .ref a0), (1, .int v33_1), (2, .int v118_2), (3, .int v118_3), (4, .int v118_4), (5, .int 0)]) [1, 2, 3, 4, 5, 0] rfl ?_
              exact J179 _ P33 v118_2 v118_3 v118_4 0 (Nat.lt_succ_self _) I33 X33 W33 (by omega) (by omega) (by decide) (by omega)
            · have h17678 : v118_4.toInt < 0 := h17678
              refine g_aload_n C dX12_findSolved_153 rfl 0 rfl ?_
              refine g_aload_n C dX12_findSolved_154 rfl 0 rfl ?_
              refine g_getI C fi_X12_326 (by decide) (h17673).1 (h17673).2 dX12_findSolved_155 ?_
              have h17679 := I33.rg (h17673) 36 rfl
              refine b_if_eq C 169 dX12_findSolved_158 (by decide) (fun h17680 => ?_) (fun h17680 => ?_)
              · have h17680 : (pI P33 a0 36).toInt = 0 := congrArg Int32.toInt h17680
                refine g_lv (lv' := [(0, .ref a0), (1, .int v33_1)]) [0, 1] rfl ?_
                exact J169 (by omega) (by omega) (by omega)
              · have h17680 : (pI P33 a0 36).toInt ≠ 0 := ti_ne h17680
                refine g_iload_n C dX12_findSolved_161 rfl 3 rfl ?_
                have u17682 := ti_rng v118_3
                refine b_if_ne C 169 dX12_findSolved_162 (by decide) (fun h17681 => ?_) (fun h17681 => ?_)
                · have h17681 : v118_3.toInt ≠ 0 := ti_ne h17681
                  refine g_lv (lv' := [(0, .ref a0), (1, .int v33_1)]) [0, 1] rfl ?_
                  exact J169 (by omega) (by omega) (by omega)
                · have h17681 : v118_3.toInt = 0 := congrArg Int32.toInt h17681
                  refine g_iconst (v := 1) C dX12_findSolved_165 (by decide) ?_
                  refine g_goto C 170 dX12_findSolved_166 (by decide) ?_
                  refine g_lv (lv' := [(0, .ref a0), (1, .int v33_1)]) [0, 1] rfl ?_
                  exact J170 1 (by omega) (by decide) (by omega)
          · have h17677 : 0 ≤ v118_5.toInt := h17677
            refine g_iload_n C dX12_findSolved_123 rfl 2 rfl ?_
            refine g_iload C dX12_findSolved_124 5 rfl ?_
            refine a_ishr C dX12_findSolved_126 (fun z17683 => ?_)
            refine g_iconst (v := 1) C dX12_findSolved_127 (by decide) ?_
            refine s_iand C dX12_findSolved_128 (by show 0 ≤ 1; omega) (fun z17685 h17686 => ?_)
            have h17686 : 0 ≤ z17685.toInt ∧ z17685.toInt ≤ 1 := h17686
            refine g_iconst (v := 1) C dX12_findSolved_129 (by decide) ?_
            refine b_icmp_ne C 138 dX12_findSolved_130 (by decide) (fun h17687 => ?_) (fun h17687 => ?_)
            · have h17687 : z17685.toInt ≠ 1 := ti_ne h17687
              refine g_iload C dX12_findSolved_138 4 rfl ?_
              refine g_lv (lv' := [(0, .ref a0), (1, .int v33_1), (2, .int v118_2), (3, .int v118_3), (5, .int v118_5)]) [0, 1, 2, 3, 5] rfl ?_
              exact J140 v118_4 (by omega) (by omega) (by omega) (by omega)
            · have h17687 : z17685.toInt = 1 := congrArg Int32.toInt h17687
              refine g_iload C dX12_findSolved_133 5 rfl ?_
              refine g_goto C 140 dX12_findSolved_135 (by decide) ?_
              refine g_lv (lv' := [(0, .ref a0), (1, .int v33_1), (2, .int v118_2), (3, .int v118_3), (5, .int v118_5)]) [0, 1, 2, 3, 5] rfl ?_
              exact J140 v118_5 (by omega) (by omega) (by omega) (by omega)
      have J58 : ∀ (n58 : Nat) (v58_2 : Int32) (v58_3 : Int32) (v58_4 : Int32), (20 - v58_4.toInt).toNat < n58 → (0 ≤ v33_1.toInt ∧ v33_1.toInt ≤ 63) → (0 ≤ v58_4.toInt ∧ v58_4.toInt ≤ 20) → (1 ≤ (pI P33 a0 28).toInt ∧ (pI P33 a0 28).toInt ≤ 64) → G E ({ frames := 1, cells := 0, slots := 0, locals := 64 } : Room) D cy 6 P33 0 0 58 [(0, .ref a0), (1, .int v33_1), (2, .int v58_2), (3, .int v58_3), (4, .int v58_4)] [] := by
        intro n58
        induction n58 with
        | zero => intro v58_2 v58_3 v58_4 hm58 hv58_1 hv58_4 hq58_0; omega
        | succ n58 ih58 =>
          intro v58_2 v58_3 v58_4 hm58 hv58_1 hv58_4 hq58_0
          have h17688 := X33.at ha0
          have J105 : ∀ (v105_2 : Int32) (v105_3 : Int32), (0 ≤ v33_1.toInt ∧ v33_1.toInt ≤ 63) → (0 ≤ v58_4.toInt ∧ v58_4.toInt ≤ 19) → (1 ≤ (pI P33 a0 28).toInt ∧ (pI P33 a0 28).toInt ≤ 64) → G E ({ frames := 1, cells := 0, slots := 0, locals := 64 } : Room) D cy 6 P33 0 0 105 [(0, .ref a0), (1, .int v33_1), (2, .int v105_2), (3, .int v105_3), (4, .int v58_4)] [] := by
            intro v105_2 v105_3 hv105_1 hv105_4 hq105_0
            have h17689 := X33.at ha0
            refine s_iinc (lv0 := [(0, .ref a0), (1, .int v33_1), (2, .int v105_2), (3, .int v105_3)]) (m := 1) C dX12_findSolved_105 4 rfl (by decide) rfl (by decide) (by omega) (fun z17690 h17691 => ?_)
            have h17691 : z17690.toInt = v58_4.toInt + 1 := h17691
            refine g_goto C 58 dX12_findSolved_108 (by decide) ?_
            refine g_lv (lv' := [(0, .ref a0), (1, .int v33_1), (2, .int v105_2), (3, .int v105_3), (4, .int z17690)]) [1, 2, 3, 4, 0] rfl ?_
            exact ih58 v105_2 v105_3 z17690 (by omega) (by omega) (by omega) (by omega)
          refine g_iload C dX12_findSolved_58 4 rfl ?_
          refine g_bipush (v := 20) C dX12_findSolved_60 (by decide) ?_
          refine b_icmp_ge C 111 dX12_findSolved_62 (by decide) (fun h17692 => ?_) (fun h17692 => ?_)
          · have h17692 : 20 ≤ v58_4.toInt := h17692
            refine g_iconst (v := (-1)) C dX12_findSolved_111 (by decide) ?_
            refine g_istore (lv' := [(4, .int (-1)), (0, .ref a0), (1, .int v33_1), (2, .int v58_2), (3, .int v58_3)]) C dX12_findSolved_112 (by decide) rfl ?_
            refine g_bipush (v := 19) C dX12_findSolved_114 (by decide) ?_
            refine g_istore (lv' := [(5, .int 19), (4, .int (-1)), (0, .ref a0), (1, .int v33_1), (2, .int v58_2), (3, .int v58_3)]) C dX12_findSolved_116 (by decide) rfl ?_
            refine g_lv (lv' := [(0, .ref a0), (1, .int v33_1), (2, .int v58_2), (3, .int v58_3), (4, .int (-1)), (5, .int 19)]) [2, 3, 4, 5, 1, 0] rfl ?_
            exact J118 _ v58_2 v58_3 (-1) 19 (Nat.lt_succ_self _) (by omega) (by decide) (by decide) (by omega)
          · have h17692 : v58_4.toInt < 20 := h17692
            refine g_iload_n C dX12_findSolved_65 rfl 2 rfl ?_
            refine g_iload C dX12_findSolved_66 4 rfl ?_
            refine a_ishr C dX12_findSolved_68 (fun z17693 => ?_)
            refine g_iconst (v := 1) C dX12_findSolved_69 (by decide) ?_
            refine s_iand C dX12_findSolved_70 (by show 0 ≤ 1; omega) (fun z17695 h17696 => ?_)
            have h17696 : 0 ≤ z17695.toInt ∧ z17695.toInt ≤ 1 := h17696
            refine g_iconst (v := 1) C dX12_findSolved_71 (by decide) ?_
            refine b_icmp_ne C 105 dX12_findSolved_72 (by decide) (fun h17697 => ?_) (fun h17697 => ?_)
            · have h17697 : z17695.toInt ≠ 1 := ti_ne h17697
              exact J105 v58_2 v58_3 (by omega) (by omega) (by omega)
            · have h17697 : z17695.toInt = 1 := congrArg Int32.toInt h17697
              refine g_aload_n C dX12_findSolved_75 rfl 0 rfl ?_
              obtain ⟨b17698, e17699, h17700⟩ := I33.fld (h17688) 37 13 20 rfl
              refine g_getR C fi_X12_106 rfl e17699 (h17688).1 (h17688).2 dX12_findSolved_76 ?_
              refine g_iload C dX12_findSolved_79 4 rfl ?_
              refine g_iald (j := (v58_4.toInt.toNat)) C h17700.1 h17700.2.1 (ix_in h17700.2.2 (by omega)) dX12_findSolved_81 ?_
              have u17702 := ti_rng (pI P33 b17698 (v58_4.toInt.toNat))
              refine b_if_eq C 105 dX12_findSolved_82 (by decide) (fun h17701 => ?_) (fun h17701 => ?_)
              · have h17701 : (pI P33 b17698 (v58_4.toInt.toNat)).toInt = 0 := congrArg Int32.toInt h17701
                exact J105 v58_2 v58_3 (by omega) (by omega) (by omega)
              · have h17701 : (pI P33 b17698 (v58_4.toInt.toNat)).toInt ≠ 0 := ti_ne h17701
                refine g_iload_n C dX12_findSolved_85 rfl 2 rfl ?_
                refine g_aload_n C dX12_findSolved_86 rfl 0 rfl ?_
                refine g_getR C fi_X12_106 rfl e17699 (h17688).1 (h17688).2 dX12_findSolved_87 ?_
                refine g_iload C dX12_findSolved_90 4 rfl ?_
                refine g_iald (j := (v58_4.toInt.toNat)) C h17700.1 h17700.2.1 (ix_in h17700.2.2 (by omega)) dX12_findSolved_92 ?_
                refine a_ixor C dX12_findSolved_93 (fun z17703 => ?_)
                refine g_istore_n (lv' := [(2, .int z17703), (0, .ref a0), (1, .int v33_1), (3, .int v58_3), (4, .int v58_4)]) C dX12_findSolved_94 rfl (by decide) rfl ?_
                refine g_iload_n C dX12_findSolved_95 rfl 3 rfl ?_
                refine g_aload_n C dX12_findSolved_96 rfl 1 rfl ?_
                obtain ⟨b17705, e17706, h17707⟩ := I33.fld (h17688) 38 13 20 rfl
                refine g_getR C fi_X12_109 rfl e17706 (h17688).1 (h17688).2 dX12_findSolved_97 ?_
                refine g_iload C dX12_findSolved_100 4 rfl ?_
                refine g_iald (j := (v58_4.toInt.toNat)) C h17707.1 h17707.2.1 (ix_in h17707.2.2 (by omega)) dX12_findSolved_102 ?_
                refine a_ixor C dX12_findSolved_103 (fun z17708 => ?_)
                refine g_istore_n (lv' := [(3, .int z17708), (2, .int z17703), (0, .ref a0), (1, .int v33_1), (4, .int v58_4)]) C dX12_findSolved_104 rfl (by decide) rfl ?_
                refine g_lv (lv' := [(0, .ref a0), (1, .int v33_1), (2, .int z17703), (3, .int z17708), (4, .int v58_4)]) [2, 3, 1, 0, 4] rfl ?_
                exact J105 z17703 z17708 (by omega) (by omega) (by omega)
      refine g_iload_n C dX12_findSolved_33 rfl 1 rfl ?_
      refine g_aload_n C dX12_findSolved_34 rfl 0 rfl ?_
      refine g_getI C fi_X12_305 (by decide) (h17571).1 (h17571).2 dX12_findSolved_35 ?_
      have h17710 := I33.rg (h17571) 28 rfl
      refine b_icmp_ge C 262 dX12_findSolved_38 (by decide) (fun h17711 => ?_) (fun h17711 => ?_)
      · have h17711 : (pI P33 a0 28).toInt ≤ v33_1.toInt := h17711
        exact ret _ _ _ _ _ dX12_findSolved_262 (by decide) (by decide) ⟨I33, X33, W33⟩
      · have h17711 : v33_1.toInt < (pI P33 a0 28).toInt := h17711
        refine g_aload_n C dX12_findSolved_41 rfl 0 rfl ?_
        obtain ⟨b17712, e17713, h17714⟩ := I33.fld (h17571) 29 13 64 rfl
        refine g_getR C fi_X12_91 rfl e17713 (h17571).1 (h17571).2 dX12_findSolved_42 ?_
        refine g_iload_n C dX12_findSolved_45 rfl 1 rfl ?_
        refine g_iald (j := (v33_1.toInt.toNat)) C h17714.1 h17714.2.1 (ix_in h17714.2.2 (by omega)) dX12_findSolved_46 ?_
        refine g_topi (fun z17715 h17716 => ?_)
        have h17716 : z17715.toInt = (pI P33 b17712 (v33_1.toInt.toNat)).toInt := congrArg Int32.toInt h17716
        refine g_istore_n (lv' := [(2, .int z17715), (0, .ref a0), (1, .int v33_1)]) C dX12_findSolved_47 rfl (by decide) rfl ?_
        refine g_aload_n C dX12_findSolved_48 rfl 1 rfl ?_
        obtain ⟨b17717, e17718, h17719⟩ := I33.fld (h17571) 30 13 64 rfl
        refine g_getR C fi_X12_94 rfl e17718 (h17571).1 (h17571).2 dX12_findSolved_49 ?_
        refine g_iload_n C dX12_findSolved_52 rfl 2 rfl ?_
        refine g_iald (j := (v33_1.toInt.toNat)) C h17719.1 h17719.2.1 (ix_in h17719.2.2 (by omega)) dX12_findSolved_53 ?_
        refine g_topi (fun z17720 h17721 => ?_)
        have h17721 : z17720.toInt = (pI P33 b17717 (v33_1.toInt.toNat)).toInt := congrArg Int32.toInt h17721
        refine g_istore_n (lv' := [(3, .int z17720), (2, .int z17715), (0, .ref a0), (1, .int v33_1)]) C dX12_findSolved_54 rfl (by decide) rfl ?_
        refine g_iconst (v := 0) C dX12_findSolved_55 (by decide) ?_
        refine g_istore (lv' := [(4, .int 0), (3, .int z17720), (2, .int z17715), (0, .ref a0), (1, .int v33_1)]) C dX12_findSolved_56 (by decide) rfl ?_
        refine g_lv (lv' := [(0, .ref a0), (1, .int v33_1), (2, .int z17715), (3, .int z17720), (4, .int 0)]) [3, 4, 2, 1, 0] rfl ?_
        exact J58 _ z17715 z17720 0 (Nat.lt_succ_self _) (by omega) (by decide) (by omega)
  have J12 : ∀ (n12 : Nat) (P12 : PP) (v12_1 : Int32), (20 - v12_1.toInt).toNat < n12 → (IM P12 a0) → (EM [35, 36, 37, 38] a0 P P12) → (MW P12 a0) → (0 ≤ v12_1.toInt ∧ v12_1.toInt ≤ 20) → (0 ≤ (pI P12 a0 35).toInt ∧ (pI P12 a0 35).toInt ≤ 0) → (1 ≤ (pI P12 a0 36).toInt ∧ (pI P12 a0 36).toInt ≤ 1) → G E ({ frames := 1, cells := 0, slots := 0, locals := 64 } : Room) D cy 6 P12 0 0 12 [(0, .ref a0), (1, .int v12_1)] [] := by
    intro n12
    induction n12 with
    | zero => intro P12 v12_1 hm12 I12 X12 W12 hv12_1 hq12_0 hq12_1; omega
    | succ n12 ih12 =>
      intro P12 v12_1 hm12 I12 X12 W12 hv12_1 hq12_0 hq12_1
      have h17722 := X12.at ha0
      refine g_iload_n C dX12_findSolved_12 rfl 1 rfl ?_
      refine g_bipush (v := 20) C dX12_findSolved_13 (by decide) ?_
      refine b_icmp_ge C 31 dX12_findSolved_15 (by decide) (fun h17723 => ?_) (fun h17723 => ?_)
      · have h17723 : 20 ≤ v12_1.toInt := h17723
        refine g_iconst (v := 0) C dX12_findSolved_31 (by decide) ?_
        refine g_istore_n (lv' := [(1, .int 0), (0, .ref a0)]) C dX12_findSolved_32 rfl (by decide) rfl ?_
        refine g_lv (lv' := [(0, .ref a0), (1, .int 0)]) [1, 0] rfl ?_
        exact J33 _ P12 0 (Nat.lt_succ_self _) I12 X12 W12 (by decide)
      · have h17723 : v12_1.toInt < 20 := h17723
        refine g_aload_n C dX12_findSolved_18 rfl 0 rfl ?_
        obtain ⟨b17724, e17725, h17726⟩ := I12.fld (h17722) 37 13 20 rfl
        refine g_getR C fi_X12_106 rfl e17725 (h17722).1 (h17722).2 dX12_findSolved_19 ?_
        refine g_iload_n C dX12_findSolved_22 rfl 1 rfl ?_
        refine g_iconst (v := 0) C dX12_findSolved_23 (by decide) ?_
        refine g_iast (j := (v12_1.toInt.toNat)) C h17726.1 h17726.2.1 (ix_in h17726.2.2 (by omega)) dX12_findSolved_24 ?_
        refine gqW (ks := [37]) (I12.setA e17725 h17726 (by decide) (arOk.none rfl)) (EM.setA I12 e17725 rfl (by decide)) (fun Y17727 Iy17728 Xy17729 w17730 => ?_)
        have w17730 : (pI Y17727 b17724 (v12_1.toInt.toNat)).toInt = 0 := w17730
        have q17731 := Xy17729.keepF 35 (by decide)
        have q17732 := Xy17729.keepF 36 (by decide)
        have W17733 := W12.keep I12 Xy17729 (by decide) (by decide) (by decide)
        have Xz17734 : EM [35, 36, 37, 38] a0 P Y17727 := EM.tr ha0 X12 (Xy17729.mono (by decide))
        have e17735 := Xy17729.ref h17722 (by decide) e17725
        have h17736 := Xy17729.at h17722
        have h17737 := Xy17729.ar h17726
        refine s_iinc (lv0 := [(0, .ref a0)]) (m := 1) C dX12_findSolved_25 1 rfl (by decide) rfl (by decide) (by omega) (fun z17738 h17739 => ?_)
        have h17739 : z17738.toInt = v12_1.toInt + 1 := h17739
        refine g_goto C 12 dX12_findSolved_28 (by decide) ?_
        refine g_lv (lv' := [(0, .ref a0), (1, .int z17738)]) [1, 0] rfl ?_
        exact ih12 Y17727 z17738 (by omega) Iy17728 Xz17734 W17733 (by omega) (by omega) (by omega)
  refine g_aload_n C dX12_findSolved_0 rfl 0 rfl ?_
  refine g_iconst (v := 0) C dX12_findSolved_1 (by decide) ?_
  refine g_putI C fi_X12_324 rfl (ha0).1 (ha0).2 dX12_findSolved_2 ?_
  refine gqW (ks := [35]) (I.setI (rgOk.none rfl)) (EM.setI I (by decide)) (fun Y17740 Iy17741 Xy17742 w17743 => ?_)
  have w17743 : (pI Y17740 a0 35).toInt = 0 := w17743
  have W17744 := hW.keep I Xy17742 (by decide) (by decide) (by decide)
  have Xz17745 : EM [35, 36, 37, 38] a0 P Y17740 := Xy17742.mono (by decide)
  have h17746 := Xy17742.at ha0
  refine g_aload_n C dX12_findSolved_5 rfl 0 rfl ?_
  refine g_iconst (v := 1) C dX12_findSolved_6 (by decide) ?_
  refine g_putZ C fi_X12_326 rfl (Or.inr rfl) (h17746).1 (h17746).2 dX12_findSolved_7 ?_
  refine gqW (ks := [36]) (Iy17741.setI (rgOk.of rfl (by decide))) (EM.setI Iy17741 (by decide)) (fun Y17747 Iy17748 Xy17749 w17750 => ?_)
  have w17750 : (pI Y17747 a0 36).toInt = 1 := w17750
  have q17751 := Xy17749.keepF 35 (by decide)
  have W17752 := W17744.keep Iy17741 Xy17749 (by decide) (by decide) (by decide)
  have Xz17753 : EM [35, 36, 37, 38] a0 P Y17747 := EM.tr ha0 Xz17745 (Xy17749.mono (by decide))
  have h17754 := Xy17749.at h17746
  refine g_iconst (v := 0) C dX12_findSolved_10 (by decide) ?_
  refine g_istore_n (lv' := [(1, .int 0), (0, .ref a0)]) C dX12_findSolved_11 rfl (by decide) rfl ?_
  refine g_lv (lv' := [(0, .ref a0), (1, .int 0)]) [1, 0] rfl ?_
  exact J12 _ Y17747 0 (Nat.lt_succ_self _) Iy17748 Xz17753 W17752 (by decide) (by omega) (by omega)
theorem dX12_chancesOf_72 : decode cX12_chancesOf 72 = .ok (.aload_n 0, 1) := by decide +kernel
theorem dX12_chancesOf_73 : decode cX12_chancesOf 73 = .ok (.invokevirtual 343, 3) := by decide +kernel
theorem dX12_findPeeled_0 : decode cX12_findPeeled 0 = .ok (.aload_n 0, 1) := by decide +kernel
theorem dX12_findPeeled_1 : decode cX12_findPeeled 1 = .ok (.iconst 0, 1) := by decide +kernel
theorem dX12_findPeeled_2 : decode cX12_findPeeled 2 = .ok (.putfield 318, 3) := by decide +kernel
theorem dX12_findPeeled_5 : decode cX12_findPeeled 5 = .ok (.iconst 1, 1) := by decide +kernel
theorem dX12_findPeeled_6 : decode cX12_findPeeled 6 = .ok (.istore_n 1, 1) := by decide +kernel
theorem dX12_findPeeled_7 : decode cX12_findPeeled 7 = .ok (.iload_n 1, 1) := by decide +kernel
theorem dX12_findPeeled_8 : decode cX12_findPeeled 8 = .ok (.ifCond .eq 112, 3) := by decide +kernel
theorem dX12_findPeeled_11 : decode cX12_findPeeled 11 = .ok (.iconst 0, 1) := by decide +kernel
theorem dX12_findPeeled_12 : decode cX12_findPeeled 12 = .ok (.istore_n 1, 1) := by decide +kernel
theorem dX12_findPeeled_13 : decode cX12_findPeeled 13 = .ok (.iconst 0, 1) := by decide +kernel
theorem dX12_findPeeled_14 : decode cX12_findPeeled 14 = .ok (.istore_n 2, 1) := by decide +kernel
theorem dX12_findPeeled_15 : decode cX12_findPeeled 15 = .ok (.iload_n 2, 1) := by decide +kernel
theorem dX12_findPeeled_16 : decode cX12_findPeeled 16 = .ok (.aload_n 0, 1) := by decide +kernel
theorem dX12_findPeeled_17 : decode cX12_findPeeled 17 = .ok (.getfield 305, 3) := by decide +kernel
theorem dX12_findPeeled_20 : decode cX12_findPeeled 20 = .ok (.if_icmp .ge 97, 3) := by decide +kernel
theorem dX12_findPeeled_23 : decode cX12_findPeeled 23 = .ok (.iload_n 1, 1) := by decide +kernel
theorem dX12_findPeeled_24 : decode cX12_findPeeled 24 = .ok (.ifCond .ne 93, 3) := by decide +kernel
theorem dX12_findPeeled_27 : decode cX12_findPeeled 27 = .ok (.aload_n 0, 1) := by decide +kernel
theorem dX12_findPeeled_28 : decode cX12_findPeeled 28 = .ok (.getfield 91, 3) := by decide +kernel
theorem dX12_findPeeled_31 : decode cX12_findPeeled 31 = .ok (.iload_n 2, 1) := by decide +kernel
theorem dX12_findPeeled_32 : decode cX12_findPeeled 32 = .ok (.iaload, 1) := by decide +kernel
theorem dX12_findPeeled_33 : decode cX12_findPeeled 33 = .ok (.aload_n 0, 1) := by decide +kernel
theorem dX12_findPeeled_34 : decode cX12_findPeeled 34 = .ok (.getfield 318, 3) := by decide +kernel
theorem dX12_findPeeled_37 : decode cX12_findPeeled 37 = .ok (.iconst (-1), 1) := by decide +kernel
theorem dX12_findPeeled_38 : decode cX12_findPeeled 38 = .ok (.ixor, 1) := by decide +kernel
theorem dX12_findPeeled_39 : decode cX12_findPeeled 39 = .ok (.iand, 1) := by decide +kernel
theorem dX12_findPeeled_40 : decode cX12_findPeeled 40 = .ok (.istore_n 3, 1) := by decide +kernel
theorem dX12_findPeeled_41 : decode cX12_findPeeled 41 = .ok (.iload_n 3, 1) := by decide +kernel
theorem dX12_findPeeled_42 : decode cX12_findPeeled 42 = .ok (.invokestatic 264, 3) := by decide +kernel
theorem dX12_findPeeled_45 : decode cX12_findPeeled 45 = .ok (.iconst 1, 1) := by decide +kernel
theorem dX12_findPeeled_46 : decode cX12_findPeeled 46 = .ok (.if_icmp .ne 65, 3) := by decide +kernel
theorem dX12_findPeeled_49 : decode cX12_findPeeled 49 = .ok (.iconst 1, 1) := by decide +kernel
theorem dX12_findPeeled_50 : decode cX12_findPeeled 50 = .ok (.istore_n 1, 1) := by decide +kernel
theorem dX12_findPeeled_51 : decode cX12_findPeeled 51 = .ok (.aload_n 0, 1) := by decide +kernel
theorem dX12_findPeeled_52 : decode cX12_findPeeled 52 = .ok (.iload_n 2, 1) := by decide +kernel
theorem dX12_findPeeled_53 : decode cX12_findPeeled 53 = .ok (.invokevirtual 321, 3) := by decide +kernel
theorem dX12_comesTo_0 : decode cX12_comesTo 0 = .ok (.aload_n 0, 1) := by decide +kernel
theorem dX12_comesTo_1 : decode cX12_comesTo 1 = .ok (.getfield 94, 3) := by decide +kernel
theorem dX12_comesTo_4 : decode cX12_comesTo 4 = .ok (.iload_n 1, 1) := by decide +kernel
theorem dX12_comesTo_5 : decode cX12_comesTo 5 = .ok (.iaload, 1) := by decide +kernel
theorem dX12_comesTo_6 : decode cX12_comesTo 6 = .ok (.istore_n 2, 1) := by decide +kernel
theorem dX12_comesTo_7 : decode cX12_comesTo 7 = .ok (.iconst 0, 1) := by decide +kernel
theorem dX12_comesTo_8 : decode cX12_comesTo 8 = .ok (.istore_n 3, 1) := by decide +kernel
theorem dX12_comesTo_9 : decode cX12_comesTo 9 = .ok (.iload_n 3, 1) := by decide +kernel
theorem dX12_comesTo_10 : decode cX12_comesTo 10 = .ok (.bipush 20, 2) := by decide +kernel
theorem dX12_comesTo_12 : decode cX12_comesTo 12 = .ok (.if_icmp .ge 40, 3) := by decide +kernel
theorem dX12_comesTo_15 : decode cX12_comesTo 15 = .ok (.iload_n 2, 1) := by decide +kernel
theorem dX12_comesTo_16 : decode cX12_comesTo 16 = .ok (.aload_n 0, 1) := by decide +kernel
theorem dX12_comesTo_17 : decode cX12_comesTo 17 = .ok (.getfield 91, 3) := by decide +kernel
theorem dX12_comesTo_20 : decode cX12_comesTo 20 = .ok (.iload_n 1, 1) := by decide +kernel
theorem dX12_comesTo_21 : decode cX12_comesTo 21 = .ok (.iaload, 1) := by decide +kernel
theorem dX12_comesTo_22 : decode cX12_comesTo 22 = .ok (.aload_n 0, 1) := by decide +kernel
theorem dX12_comesTo_23 : decode cX12_comesTo 23 = .ok (.getfield 318, 3) := by decide +kernel
theorem dX12_comesTo_26 : decode cX12_comesTo 26 = .ok (.iand, 1) := by decide +kernel
theorem dX12_comesTo_27 : decode cX12_comesTo 27 = .ok (.iconst 1, 1) := by decide +kernel
theorem dX12_comesTo_28 : decode cX12_comesTo 28 = .ok (.iload_n 3, 1) := by decide +kernel
theorem dX12_comesTo_29 : decode cX12_comesTo 29 = .ok (.ishl, 1) := by decide +kernel
theorem dX12_comesTo_30 : decode cX12_comesTo 30 = .ok (.iand, 1) := by decide +kernel
theorem dX12_comesTo_31 : decode cX12_comesTo 31 = .ok (.ifCond .eq 12, 3) := by decide +kernel
theorem dX12_comesTo_34 : decode cX12_comesTo 34 = .ok (.aload_n 0, 1) := by decide +kernel
theorem dX12_comesTo_35 : decode cX12_comesTo 35 = .ok (.getfield 103, 3) := by decide +kernel
theorem dX12_comesTo_38 : decode cX12_comesTo 38 = .ok (.iload_n 3, 1) := by decide +kernel
theorem dX12_comesTo_39 : decode cX12_comesTo 39 = .ok (.iaload, 1) := by decide +kernel
theorem dX12_comesTo_40 : decode cX12_comesTo 40 = .ok (.goto 4, 3) := by decide +kernel
theorem dX12_comesTo_43 : decode cX12_comesTo 43 = .ok (.iconst 0, 1) := by decide +kernel
theorem dX12_comesTo_44 : decode cX12_comesTo 44 = .ok (.ixor, 1) := by decide +kernel
theorem dX12_comesTo_45 : decode cX12_comesTo 45 = .ok (.istore_n 2, 1) := by decide +kernel
theorem dX12_comesTo_46 : decode cX12_comesTo 46 = .ok (.iinc 3 1, 3) := by decide +kernel
theorem dX12_comesTo_49 : decode cX12_comesTo 49 = .ok (.goto (-40), 3) := by decide +kernel
theorem dX12_comesTo_52 : decode cX12_comesTo 52 = .ok (.iload_n 2, 1) := by decide +kernel
theorem dX12_comesTo_53 : decode cX12_comesTo 53 = .ok (.ireturn, 1) := by decide +kernel
set_option maxHeartbeats 4000000 in
set_option maxRecDepth 100000 in
theorem s_X12_comesTo {P : PP} {a0 : Nat} {a1 : Int32} (I : IM P a0) (ha1 : 0 ≤ a1.toInt ∧ a1.toInt ≤ 63) (hW : MW P a0) : CtrI yX12_comesTo cX12_comesTo 4 (some Jvm.ClassFile.FieldType.int) ({ frames := 1, cells := 0, slots := 0, locals := 64 } : Room) 0 0 P [.ref a0, .int a1] (fun r P2 => P = P2 ∧ (True)) := by
  refine enI (lv := [(0, .ref a0), (1, .int a1)]) (by decide) (Nat.le_of_ble_eq_true rfl) rfl (fun E D cy C Ci0 ret => ?_)
  have ha0 := I.2.1
  have J9 : ∀ (n9 : Nat) (v9_2 : Int32) (v9_3 : Int32), (20 - v9_3.toInt).toNat < n9 → (0 ≤ v9_3.toInt ∧ v9_3.toInt ≤ 20) → G E ({ frames := 1, cells := 0, slots := 0, locals := 64 } : Room) D cy 4 P 0 0 9 [(0, .ref a0), (1, .int a1), (2, .int v9_2), (3, .int v9_3)] [] := by
    intro n9
    induction n9 with
    | zero => intro v9_2 v9_3 hm9 hv9_3; omega
    | succ n9 ih9 =>
      intro v9_2 v9_3 hm9 hv9_3
      have J44 : ∀ (v44_s0 : Int32), (0 ≤ v9_3.toInt ∧ v9_3.toInt ≤ 19) → G E ({ frames := 1, cells := 0, slots := 0, locals := 64 } : Room) D cy 4 P 0 0 44 [(0, .ref a0), (1, .int a1), (3, .int v9_3)] [.int v44_s0, .int v9_2] := by
        intro v44_s0 hv44_3
        refine a_ixor C dX12_comesTo_44 (fun z18148 => ?_)
        refine g_istore_n (lv' := [(2, .int z18148), (0, .ref a0), (1, .int a1), (3, .int v9_3)]) C dX12_comesTo_45 rfl (by decide) rfl ?_
        refine s_iinc (lv0 := [(2, .int z18148), (0, .ref a0), (1, .int a1)]) (m := 1) C dX12_comesTo_46 3 rfl (by decide) rfl (by decide) (by omega) (fun z18150 h18151 => ?_)
        have h18151 : z18150.toInt = v9_3.toInt + 1 := h18151
        refine g_goto C 9 dX12_comesTo_49 (by decide) ?_
        refine g_lv (lv' := [(0, .ref a0), (1, .int a1), (2, .int z18148), (3, .int z18150)]) [2, 3, 1, 0] rfl ?_
        exact ih9 z18148 z18150 (by omega) (by omega)
      refine g_iload_n C dX12_comesTo_9 rfl 3 rfl ?_
      refine g_bipush (v := 20) C dX12_comesTo_10 (by decide) ?_
      refine b_icmp_ge C 52 dX12_comesTo_12 (by decide) (fun h18152 => ?_) (fun h18152 => ?_)
      · have h18152 : 20 ≤ v9_3.toInt := h18152
        refine g_iload_n C dX12_comesTo_52 rfl 2 rfl ?_
        exact ret _ _ _ _ _ _ dX12_comesTo_53 rfl (by decide) (by decide) ⟨rfl, trivial⟩
      · have h18152 : v9_3.toInt < 20 := h18152
        refine g_iload_n C dX12_comesTo_15 rfl 2 rfl ?_
        refine g_aload_n C dX12_comesTo_16 rfl 0 rfl ?_
        obtain ⟨b18153, e18154, h18155⟩ := I.fld (ha0) 29 13 64 rfl
        refine g_getR C fi_X12_91 rfl e18154 (ha0).1 (ha0).2 dX12_comesTo_17 ?_
        refine g_iload_n C dX12_comesTo_20 rfl 1 rfl ?_
        refine g_iald (j := (a1.toInt.toNat)) C h18155.1 h18155.2.1 (ix_in h18155.2.2 (by omega)) dX12_comesTo_21 ?_
        refine g_aload_n C dX12_comesTo_22 rfl 0 rfl ?_
        refine g_getI C fi_X12_318 (by decide) (ha0).1 (ha0).2 dX12_comesTo_23 ?_
        refine a_iand C dX12_comesTo_26 (fun z18156 => ?_)
        refine g_iconst (v := 1) C dX12_comesTo_27 (by decide) ?_
        refine g_iload_n C dX12_comesTo_28 rfl 3 rfl ?_
        refine a_ishl C dX12_comesTo_29 (fun z18158 => ?_)
        refine a_iand C dX12_comesTo_30 (fun z18160 => ?_)
        have u18163 := ti_rng z18160
        refine b_if_eq C 43 dX12_comesTo_31 (by decide) (fun h18162 => ?_) (fun h18162 => ?_)
        · have h18162 : z18160.toInt = 0 := congrArg Int32.toInt h18162
          refine g_iconst (v := 0) C dX12_comesTo_43 (by decide) ?_
          refine g_lv (lv' := [(0, .ref a0), (1, .int a1), (3, .int v9_3)]) [0, 1, 3] rfl ?_
          exact J44 0 (by omega)
        · have h18162 : z18160.toInt ≠ 0 := ti_ne h18162
          refine g_aload_n C dX12_comesTo_34 rfl 0 rfl ?_
          obtain ⟨b18164, e18165, h18166⟩ := I.fld (ha0) 34 13 20 rfl
          refine g_getR C fi_X12_103 rfl e18165 (ha0).1 (ha0).2 dX12_comesTo_35 ?_
          refine g_iload_n C dX12_comesTo_38 rfl 3 rfl ?_
          refine g_iald (j := (v9_3.toInt.toNat)) C h18166.1 h18166.2.1 (ix_in h18166.2.2 (by omega)) dX12_comesTo_39 ?_
          refine g_goto C 44 dX12_comesTo_40 (by decide) ?_
          refine g_lv (lv' := [(0, .ref a0), (1, .int a1), (3, .int v9_3)]) [0, 1, 3] rfl ?_
          exact J44 (pI P b18164 (v9_3.toInt.toNat)) (by omega)
  refine g_aload_n C dX12_comesTo_0 rfl 0 rfl ?_
  obtain ⟨b18167, e18168, h18169⟩ := I.fld (ha0) 30 13 64 rfl
  refine g_getR C fi_X12_94 rfl e18168 (ha0).1 (ha0).2 dX12_comesTo_1 ?_
  refine g_iload_n C dX12_comesTo_4 rfl 1 rfl ?_
  refine g_iald (j := (a1.toInt.toNat)) C h18169.1 h18169.2.1 (ix_in h18169.2.2 (by omega)) dX12_comesTo_5 ?_
  refine g_topi (fun z18170 h18171 => ?_)
  have h18171 : z18170.toInt = (pI P b18167 (a1.toInt.toNat)).toInt := congrArg Int32.toInt h18171
  refine g_istore_n (lv' := [(2, .int z18170), (0, .ref a0), (1, .int a1)]) C dX12_comesTo_6 rfl (by decide) rfl ?_
  refine g_iconst (v := 0) C dX12_comesTo_7 (by decide) ?_
  refine g_istore_n (lv' := [(3, .int 0), (2, .int z18170), (0, .ref a0), (1, .int a1)]) C dX12_comesTo_8 rfl (by decide) rfl ?_
  refine g_lv (lv' := [(0, .ref a0), (1, .int a1), (2, .int z18170), (3, .int 0)]) [2, 3, 1, 0] rfl ?_
  exact J9 _ z18170 0 (Nat.lt_succ_self _) (by decide)
theorem dX12_findPeeled_56 : decode cX12_findPeeled 56 = .ok (.istore 4, 2) := by decide +kernel
theorem dX12_findPeeled_58 : decode cX12_findPeeled 58 = .ok (.iconst 0, 1) := by decide +kernel
theorem dX12_findPeeled_59 : decode cX12_findPeeled 59 = .ok (.istore 5, 2) := by decide +kernel
theorem dX12_findPeeled_61 : decode cX12_findPeeled 61 = .ok (.iload 5, 2) := by decide +kernel
theorem dX12_findPeeled_63 : decode cX12_findPeeled 63 = .ok (.bipush 20, 2) := by decide +kernel
theorem dX12_findPeeled_65 : decode cX12_findPeeled 65 = .ok (.if_icmp .ge 36, 3) := by decide +kernel
theorem dX12_findPeeled_68 : decode cX12_findPeeled 68 = .ok (.aload_n 0, 1) := by decide +kernel
theorem dX12_findPeeled_69 : decode cX12_findPeeled 69 = .ok (.getfield 103, 3) := by decide +kernel
theorem dX12_findPeeled_72 : decode cX12_findPeeled 72 = .ok (.iload 5, 2) := by decide +kernel
theorem dX12_findPeeled_74 : decode cX12_findPeeled 74 = .ok (.iload_n 3, 1) := by decide +kernel
theorem dX12_findPeeled_75 : decode cX12_findPeeled 75 = .ok (.iconst 1, 1) := by decide +kernel
theorem dX12_findPeeled_76 : decode cX12_findPeeled 76 = .ok (.iload 5, 2) := by decide +kernel
theorem dX12_findPeeled_78 : decode cX12_findPeeled 78 = .ok (.ishl, 1) := by decide +kernel
theorem dX12_findPeeled_79 : decode cX12_findPeeled 79 = .ok (.if_icmp .ne 8, 3) := by decide +kernel
theorem dX12_findPeeled_82 : decode cX12_findPeeled 82 = .ok (.iload 4, 2) := by decide +kernel
theorem dX12_findPeeled_84 : decode cX12_findPeeled 84 = .ok (.goto 10, 3) := by decide +kernel
theorem dX12_findPeeled_87 : decode cX12_findPeeled 87 = .ok (.aload_n 0, 1) := by decide +kernel
theorem dX12_findPeeled_88 : decode cX12_findPeeled 88 = .ok (.getfield 103, 3) := by decide +kernel
theorem dX12_findPeeled_91 : decode cX12_findPeeled 91 = .ok (.iload 5, 2) := by decide +kernel
theorem dX12_findPeeled_93 : decode cX12_findPeeled 93 = .ok (.iaload, 1) := by decide +kernel
theorem dX12_findPeeled_94 : decode cX12_findPeeled 94 = .ok (.iastore, 1) := by decide +kernel
theorem dX12_findPeeled_95 : decode cX12_findPeeled 95 = .ok (.iinc 5 1, 3) := by decide +kernel
theorem dX12_findPeeled_98 : decode cX12_findPeeled 98 = .ok (.goto (-37), 3) := by decide +kernel
theorem dX12_findPeeled_101 : decode cX12_findPeeled 101 = .ok (.aload_n 0, 1) := by decide +kernel
theorem dX12_findPeeled_102 : decode cX12_findPeeled 102 = .ok (.dup, 1) := by decide +kernel
theorem dX12_findPeeled_103 : decode cX12_findPeeled 103 = .ok (.getfield 318, 3) := by decide +kernel
theorem dX12_findPeeled_106 : decode cX12_findPeeled 106 = .ok (.iload_n 3, 1) := by decide +kernel
theorem dX12_findPeeled_107 : decode cX12_findPeeled 107 = .ok (.ior, 1) := by decide +kernel
theorem dX12_findPeeled_108 : decode cX12_findPeeled 108 = .ok (.putfield 318, 3) := by decide +kernel
theorem dX12_findPeeled_111 : decode cX12_findPeeled 111 = .ok (.iinc 2 1, 3) := by decide +kernel
theorem dX12_findPeeled_114 : decode cX12_findPeeled 114 = .ok (.goto (-99), 3) := by decide +kernel
theorem dX12_findPeeled_117 : decode cX12_findPeeled 117 = .ok (.goto (-110), 3) := by decide +kernel
theorem dX12_findPeeled_120 : decode cX12_findPeeled 120 = .ok (.return_, 1) := by decide +kernel
set_option maxHeartbeats 4000000 in
set_option maxRecDepth 100000 in
theorem s_X12_findPeeled {P : PP} {a0 : Nat} (I : IM P a0) (hW : MW P a0) : CtrV yX12_findPeeled cX12_findPeeled 6 none ({ frames := 2, cells := 0, slots := 0, locals := 128 } : Room) 0 0 P [.ref a0] (fun P2 => IM P2 a0 ∧ EM [33, 34] a0 P P2 ∧ MW P2 a0) := by
  refine enV (lv := [(0, .ref a0)]) (by decide) (Nat.le_of_ble_eq_true rfl) rfl (fun E D cy C Ci0 ret => ?_)
  have ha0 := I.2.1
  have J7 : ∀ (n7 : Nat) (P7 : PP) (v7_1 : Int32), (2 * (nf_M (pI P7 a0 33) : Int) + v7_1.toInt).toNat < n7 → (IM P7 a0) → (EM [33, 34] a0 P P7) → (MW P7 a0) → (0 ≤ v7_1.toInt ∧ v7_1.toInt ≤ 1) → G E ({ frames := 2, cells := 0, slots := 0, locals := 128 } : Room) D cy 6 P7 0 0 7 [(0, .ref a0), (1, .int v7_1)] [] := by
    intro n7
    induction n7 with
    | zero => intro P7 v7_1 hm7 I7 X7 W7 hv7_1; omega
    | succ n7 ih7 =>
      intro P7 v7_1 hm7 I7 X7 W7 hv7_1
      have h19357 := X7.at ha0
      have J117 : ∀ (P117 : PP) (v117_1 : Int32), (IM P117 a0) → (EM [33, 34] a0 P P117) → (MW P117 a0) → (0 ≤ v117_1.toInt ∧ v117_1.toInt ≤ 1) → ((v117_1.toInt = 0 ∧ nf_M (pI P117 a0 33) = nf_M (pI P7 a0 33)) ∨ (v117_1.toInt = 1 ∧ nf_M (pI P117 a0 33) < nf_M (pI P7 a0 33))) → (v7_1.toInt = 1) → G E ({ frames := 2, cells := 0, slots := 0, locals := 128 } : Room) D cy 6 P117 0 0 117 [(0, .ref a0), (1, .int v117_1)] [] := by
        intro P117 v117_1 I117 X117 W117 hv117_1 rel117_0 rel117_1
        have h19358 := X117.at ha0
        refine g_goto C 7 dX12_findPeeled_117 (by decide) ?_
        exact ih7 P117 v117_1 (by omega) I117 X117 W117 (by omega)
      have J15 : ∀ (n15 : Nat) (P15 : PP) (v15_1 : Int32) (v15_2 : Int32), (64 - v15_2.toInt).toNat < n15 → (IM P15 a0) → (EM [33, 34] a0 P P15) → (MW P15 a0) → (0 ≤ v15_1.toInt ∧ v15_1.toInt ≤ 1) → (0 ≤ v15_2.toInt ∧ v15_2.toInt ≤ 64) → ((v15_1.toInt = 0 ∧ nf_M (pI P15 a0 33) = nf_M (pI P7 a0 33)) ∨ (v15_1.toInt = 1 ∧ nf_M (pI P15 a0 33) < nf_M (pI P7 a0 33))) → (v7_1.toInt = 1) → G E ({ frames := 2, cells := 0, slots := 0, locals := 128 } : Room) D cy 6 P15 0 0 15 [(0, .ref a0), (1, .int v15_1), (2, .int v15_2)] [] := by
        intro n15
        induction n15 with
        | zero => intro P15 v15_1 v15_2 hm15 I15 X15 W15 hv15_1 hv15_2 rel15_0 rel15_1; omega
        | succ n15 ih15 =>
          intro P15 v15_1 v15_2 hm15 I15 X15 W15 hv15_1 hv15_2 rel15_0 rel15_1
          have h19359 := X15.at ha0
          have J111 : ∀ (P111 : PP) (v111_1 : Int32), (IM P111 a0) → (EM [33, 34] a0 P P111) → (MW P111 a0) → (0 ≤ v111_1.toInt ∧ v111_1.toInt ≤ 1) → (0 ≤ v15_2.toInt ∧ v15_2.toInt ≤ 63) → (1 ≤ (pI P111 a0 28).toInt ∧ (pI P111 a0 28).toInt ≤ 64) → ((v111_1.toInt = 0 ∧ nf_M (pI P111 a0 33) = nf_M (pI P7 a0 33)) ∨ (v111_1.toInt = 1 ∧ nf_M (pI P111 a0 33) < nf_M (pI P7 a0 33))) → (v7_1.toInt = 1) → G E ({ frames := 2, cells := 0, slots := 0, locals := 128 } : Room) D cy 6 P111 0 0 111 [(0, .ref a0), (1, .int v111_1), (2, .int v15_2)] [] := by
            intro P111 v111_1 I111 X111 W111 hv111_1 hv111_2 hq111_0 rel111_0 rel111_1
            have h19360 := X111.at ha0
            refine s_iinc (lv0 := [(0, .ref a0), (1, .int v111_1)]) (m := 1) C dX12_findPeeled_111 2 rfl (by decide) rfl (by decide) (by omega) (fun z19361 h19362 => ?_)
            have h19362 : z19361.toInt = v15_2.toInt + 1 := h19362
            refine g_goto C 15 dX12_findPeeled_114 (by decide) ?_
            refine g_lv (lv' := [(0, .ref a0), (1, .int v111_1), (2, .int z19361)]) [1, 2, 0] rfl ?_
            exact ih15 P111 v111_1 z19361 (by omega) I111 X111 W111 (by omega) (by omega) (by show (v111_1.toInt = 0 ∧ nf_M (pI P111 a0 33) = nf_M (pI P7 a0 33)) ∨ (v111_1.toInt = 1 ∧ nf_M (pI P111 a0 33) < nf_M (pI P7 a0 33)); omega) (by show v7_1.toInt = 1; omega)
          have J61 : ∀ (n61 : Nat) (P61 : PP) (v61_3 : Int32) (v61_4 : Int32) (v61_5 : Int32), (20 - v61_5.toInt).toNat < n61 → (IM P61 a0) → (EM [33, 34] a0 P P61) → (MW P61 a0) → (0 ≤ v15_2.toInt ∧ v15_2.toInt ≤ 63) → (0 ≤ v61_5.toInt ∧ v61_5.toInt ≤ 20) → (1 ≤ (pI P61 a0 28).toInt ∧ (pI P61 a0 28).toInt ≤ 64) → (nf_M (pI P61 a0 33) = nf_M (pI P7 a0 33)) → (nf_M (pI P61 a0 33 ||| v61_3) < nf_M (pI P61 a0 33)) → (v7_1.toInt = 1) → G E ({ frames := 2, cells := 0, slots := 0, locals := 128 } : Room) D cy 6 P61 0 0 61 [(0, .ref a0), (1, .int 1), (2, .int v15_2), (3, .int v61_3), (4, .int v61_4), (5, .int v61_5)] [] := by
            intro n61
            induction n61 with
            | zero => intro P61 v61_3 v61_4 v61_5 hm61 I61 X61 W61 hv61_2 hv61_5 hq61_0 rel61_0 rel61_1 rel61_2; omega
            | succ n61 ih61 =>
              intro P61 v61_3 v61_4 v61_5 hm61 I61 X61 W61 hv61_2 hv61_5 hq61_0 rel61_0 rel61_1 rel61_2
              have h19363 := X61.at ha0
              have J94 : ∀ (v94_s0 : Int32) (b94_s2 : Nat), (0 ≤ v15_2.toInt ∧ v15_2.toInt ≤ 63) → (0 ≤ v61_5.toInt ∧ v61_5.toInt ≤ 19) → (Ar P61 b94_s2 13 20) → (pR P61 a0 34 = some b94_s2) → (1 ≤ (pI P61 a0 28).toInt ∧ (pI P61 a0 28).toInt ≤ 64) → (nf_M (pI P61 a0 33) = nf_M (pI P7 a0 33)) → (nf_M (pI P61 a0 33 ||| v61_3) < nf_M (pI P61 a0 33)) → (v7_1.toInt = 1) → G E ({ frames := 2, cells := 0, slots := 0, locals := 128 } : Room) D cy 6 P61 0 0 94 [(0, .ref a0), (1, .int 1), (2, .int v15_2), (3, .int v61_3), (4, .int v61_4), (5, .int v61_5)] [.int v94_s0, .int v61_5, .ref b94_s2] := by
                intro v94_s0 b94_s2 hv94_2 hv94_5 hb94_s2 eb94_s2 hq94_0 rel94_0 rel94_1 rel94_2
                have h19364 := X61.at ha0
                refine g_iast (j := (v61_5.toInt.toNat)) C hb94_s2.1 hb94_s2.2.1 (ix_in hb94_s2.2.2 (by omega)) dX12_findPeeled_94 ?_
                refine gqW (ks := [34]) (I61.setA eb94_s2 hb94_s2 (by decide) (arOk.none rfl)) (EM.setA I61 eb94_s2 rfl (by decide)) (fun Y19365 Iy19366 Xy19367 w19368 => ?_)
                have w19368 : (pI Y19365 b94_s2 (v61_5.toInt.toNat)).toInt = v94_s0.toInt := w19368
                have q19369 := Xy19367.keepF 28 (by decide)
                have W19370 := W61.keep I61 Xy19367 (by decide) (by decide) (by decide)
                have Xz19371 : EM [33, 34] a0 P Y19365 := EM.tr ha0 X61 (Xy19367.mono (by decide))
                have e19372 := Xy19367.ref h19364 (by decide) eb94_s2
                have h19373 := Xy19367.at h19364
                have h19374 := Xy19367.ar hb94_s2
                have m19375 : nf_M (pI Y19365 a0 33) = nf_M (pI P61 a0 33) := by rw [Xy19367.2.2.1 33 (by decide)]
                have m19376 : nf_M (pI Y19365 a0 33 ||| v61_3) = nf_M (pI P61 a0 33 ||| v61_3) := by rw [Xy19367.2.2.1 33 (by decide)]
                refine s_iinc (lv0 := [(0, .ref a0), (1, .int 1), (2, .int v15_2), (3, .int v61_3), (4, .int v61_4)]) (m := 1) C dX12_findPeeled_95 5 rfl (by decide) rfl (by decide) (by omega) (fun z19377 h19378 => ?_)
                have h19378 : z19377.toInt = v61_5.toInt + 1 := h19378
                refine g_goto C 61 dX12_findPeeled_98 (by decide) ?_
                refine g_lv (lv' := [(0, .ref a0), (1, .int 1), (2, .int v15_2), (3, .int v61_3), (4, .int v61_4), (5, .int z19377)]) [1, 2, 3, 4, 5, 0] rfl ?_
                exact ih61 Y19365 v61_3 v61_4 z19377 (by omega) Iy19366 Xz19371 W19370 (by omega) (by omega) (by omega) (by show nf_M (pI Y19365 a0 33) = nf_M (pI P7 a0 33); omega) (by show nf_M (pI Y19365 a0 33 ||| v61_3) < nf_M (pI Y19365 a0 33); omega) (by show v7_1.toInt = 1; omega)
              refine g_iload C dX12_findPeeled_61 5 rfl ?_
              refine g_bipush (v := 20) C dX12_findPeeled_63 (by decide) ?_
              refine b_icmp_ge C 101 dX12_findPeeled_65 (by decide) (fun h19379 => ?_) (fun h19379 => ?_)
              · have h19379 : 20 ≤ v61_5.toInt := h19379
                refine g_aload_n C dX12_findPeeled_101 rfl 0 rfl ?_
                refine g_dup C dX12_findPeeled_102 rfl ?_
                refine g_getI C fi_X12_318 (by decide) (h19363).1 (h19363).2 dX12_findPeeled_103 ?_
                refine g_iload_n C dX12_findPeeled_106 rfl 3 rfl ?_
                refine g_ior C dX12_findPeeled_107 ?_
                refine g_topi (fun z19380 h19381 => ?_)
                refine g_putI C fi_X12_318 rfl (h19363).1 (h19363).2 dX12_findPeeled_108 ?_
                refine gqW (ks := [33]) (I61.setI (rgOk.none rfl)) (EM.setI I61 (by decide)) (fun Y19382 Iy19383 Xy19384 w19385 => ?_)
                have w19385 : (pI Y19382 a0 33).toInt = z19380.toInt := w19385
                have q19386 := Xy19384.keepF 28 (by decide)
                have W19387 := W61.keep I61 Xy19384 (by decide) (by decide) (by decide)
                have Xz19388 : EM [33, 34] a0 P Y19382 := EM.tr ha0 X61 (Xy19384.mono (by decide))
                have h19389 := Xy19384.at h19363
                have m19390 : nf_M (pI Y19382 a0 33) = nf_M (pI P61 a0 33 ||| v61_3) := by rw [Int32.toInt_inj.mp (show (pI Y19382 a0 33).toInt = z19380.toInt by omega), h19381]
                refine g_lv (lv' := [(0, .ref a0), (1, .int 1), (2, .int v15_2)]) [0, 1, 2] rfl ?_
                exact J111 Y19382 1 Iy19383 Xz19388 W19387 (by decide) (by omega) (by omega) (by show (1 = 0 ∧ nf_M (pI Y19382 a0 33) = nf_M (pI P7 a0 33)) ∨ (1 = 1 ∧ nf_M (pI Y19382 a0 33) < nf_M (pI P7 a0 33)); omega) (by show v7_1.toInt = 1; omega)
              · have h19379 : v61_5.toInt < 20 := h19379
                refine g_aload_n C dX12_findPeeled_68 rfl 0 rfl ?_
                obtain ⟨b19391, e19392, h19393⟩ := I61.fld (h19363) 34 13 20 rfl
                refine g_getR C fi_X12_103 rfl e19392 (h19363).1 (h19363).2 dX12_findPeeled_69 ?_
                refine g_iload C dX12_findPeeled_72 5 rfl ?_
                refine g_iload_n C dX12_findPeeled_74 rfl 3 rfl ?_
                refine g_iconst (v := 1) C dX12_findPeeled_75 (by decide) ?_
                refine g_iload C dX12_findPeeled_76 5 rfl ?_
                refine a_ishl C dX12_findPeeled_78 (fun z19394 => ?_)
                have u19397 := ti_rng v61_3
                have u19398 := ti_rng z19394
                refine b_icmp_ne C 87 dX12_findPeeled_79 (by decide) (fun h19396 => ?_) (fun h19396 => ?_)
                · have h19396 : v61_3.toInt ≠ z19394.toInt := ti_ne h19396
                  refine g_aload_n C dX12_findPeeled_87 rfl 0 rfl ?_
                  refine g_getR C fi_X12_103 rfl e19392 (h19363).1 (h19363).2 dX12_findPeeled_88 ?_
                  refine g_iload C dX12_findPeeled_91 5 rfl ?_
                  refine g_iald (j := (v61_5.toInt.toNat)) C h19393.1 h19393.2.1 (ix_in h19393.2.2 (by omega)) dX12_findPeeled_93 ?_
                  exact J94 (pI P61 b19391 (v61_5.toInt.toNat)) b19391 (by omega) (by omega) h19393 e19392 (by omega) (by show nf_M (pI P61 a0 33) = nf_M (pI P7 a0 33); omega) (by show nf_M (pI P61 a0 33 ||| v61_3) < nf_M (pI P61 a0 33); omega) (by show v7_1.toInt = 1; omega)
                · have h19396 : v61_3.toInt = z19394.toInt := congrArg Int32.toInt h19396
                  refine g_iload C dX12_findPeeled_82 4 rfl ?_
                  refine g_goto C 94 dX12_findPeeled_84 (by decide) ?_
                  exact J94 v61_4 b19391 (by omega) (by omega) h19393 e19392 (by omega) (by show nf_M (pI P61 a0 33) = nf_M (pI P7 a0 33); omega) (by show nf_M (pI P61 a0 33 ||| v61_3) < nf_M (pI P61 a0 33); omega) (by show v7_1.toInt = 1; omega)
          refine g_iload_n C dX12_findPeeled_15 rfl 2 rfl ?_
          refine g_aload_n C dX12_findPeeled_16 rfl 0 rfl ?_
          refine g_getI C fi_X12_305 (by decide) (h19359).1 (h19359).2 dX12_findPeeled_17 ?_
          have h19399 := I15.rg (h19359) 28 rfl
          refine b_icmp_ge C 117 dX12_findPeeled_20 (by decide) (fun h19400 => ?_) (fun h19400 => ?_)
          · have h19400 : (pI P15 a0 28).toInt ≤ v15_2.toInt := h19400
            refine g_lv (lv' := [(0, .ref a0), (1, .int v15_1)]) [0, 1] rfl ?_
            exact J117 P15 v15_1 I15 X15 W15 (by omega) (by show (v15_1.toInt = 0 ∧ nf_M (pI P15 a0 33) = nf_M (pI P7 a0 33)) ∨ (v15_1.toInt = 1 ∧ nf_M (pI P15 a0 33) < nf_M (pI P7 a0 33)); omega) (by show v7_1.toInt = 1; omega)
          · have h19400 : v15_2.toInt < (pI P15 a0 28).toInt := h19400
            refine g_iload_n C dX12_findPeeled_23 rfl 1 rfl ?_
            refine b_if_ne C 117 dX12_findPeeled_24 (by decide) (fun h19401 => ?_) (fun h19401 => ?_)
            · have h19401 : v15_1.toInt ≠ 0 := ti_ne h19401
              refine g_lv (lv' := [(0, .ref a0), (1, .int v15_1)]) [0, 1] rfl ?_
              exact J117 P15 v15_1 I15 X15 W15 (by omega) (by show (v15_1.toInt = 0 ∧ nf_M (pI P15 a0 33) = nf_M (pI P7 a0 33)) ∨ (v15_1.toInt = 1 ∧ nf_M (pI P15 a0 33) < nf_M (pI P7 a0 33)); omega) (by show v7_1.toInt = 1; omega)
            · have h19401 : v15_1.toInt = 0 := congrArg Int32.toInt h19401
              refine g_aload_n C dX12_findPeeled_27 rfl 0 rfl ?_
              obtain ⟨b19402, e19403, h19404⟩ := I15.fld (h19359) 29 13 64 rfl
              refine g_getR C fi_X12_91 rfl e19403 (h19359).1 (h19359).2 dX12_findPeeled_28 ?_
              refine g_iload_n C dX12_findPeeled_31 rfl 2 rfl ?_
              refine g_iald (j := (v15_2.toInt.toNat)) C h19404.1 h19404.2.1 (ix_in h19404.2.2 (by omega)) dX12_findPeeled_32 ?_
              refine g_aload_n C dX12_findPeeled_33 rfl 0 rfl ?_
              refine g_getI C fi_X12_318 (by decide) (h19359).1 (h19359).2 dX12_findPeeled_34 ?_
              refine g_iconst (v := (-1)) C dX12_findPeeled_37 (by decide) ?_
              refine g_ixor C dX12_findPeeled_38 ?_
              refine g_topi (fun z19405 h19406 => ?_)
              refine g_iand C dX12_findPeeled_39 ?_
              refine g_topi (fun z19407 h19408 => ?_)
              refine g_istore_n (lv' := [(3, .int z19407), (0, .ref a0), (1, .int v15_1), (2, .int v15_2)]) C dX12_findPeeled_40 rfl (by decide) rfl ?_
              refine g_iload_n C dX12_findPeeled_41 rfl 0 rfl ?_
              refine g_callSI (b := 0) (ci := 0) (rest := []) C ms_X12_264 [.int z19407] (s_X12_bits I15.1) rfl rfl (by decide) (Nat.le_of_ble_eq_true rfl) (by decide) dX12_findPeeled_42 (fun r19409 Y19410 h19411 => ?_)
              obtain ⟨rfl, h19411⟩ := h19411
              obtain ⟨h19411, hi19412⟩ := h19411
              have hi19412 : r19409.toInt = 0 ∨ z19407.toInt ≠ 0 := hi19412
              have h19411 : 0 ≤ r19409.toInt ∧ r19409.toInt ≤ 20 := h19411
              refine g_iconst (v := 1) C dX12_findPeeled_45 (by decide) ?_
              refine b_icmp_ne C 111 dX12_findPeeled_46 (by decide) (fun h19413 => ?_) (fun h19413 => ?_)
              · have h19413 : r19409.toInt ≠ 1 := ti_ne h19413
                refine g_lv (lv' := [(0, .ref a0), (1, .int v15_1), (2, .int v15_2)]) [1, 2, 3] rfl ?_
                exact J111 P15 v15_1 I15 X15 W15 (by omega) (by omega) (by omega) (by show (v15_1.toInt = 0 ∧ nf_M (pI P15 a0 33) = nf_M (pI P7 a0 33)) ∨ (v15_1.toInt = 1 ∧ nf_M (pI P15 a0 33) < nf_M (pI P7 a0 33)); omega) (by show v7_1.toInt = 1; omega)
              · have h19413 : r19409.toInt = 1 := congrArg Int32.toInt h19413
                have hne : ¬ z19407 = 0 := fun h9 => by have h8 : z19407.toInt = 0 := congrArg Int32.toInt h9; omega
                have hdi : (pI P15 a0 33) &&& z19407 = 0 := by rw [h19408, h19406]; exact and_rest _ _
                have hgr := nf_gr (pI P15 a0 33) z19407 hdi hne
                refine g_iconst (v := 1) C dX12_findPeeled_49 (by decide) ?_
                refine g_istore_n (lv' := [(1, .int 1), (3, .int z19407), (0, .ref a0), (2, .int v15_2)]) C dX12_findPeeled_50 rfl (by decide) rfl ?_
                refine g_aload_n C dX12_findPeeled_51 rfl 2 rfl ?_
                refine g_iload_n C dX12_findPeeled_52 rfl 3 rfl ?_
                refine g_callVI (rest := []) C mv_X12_321 [.int v15_2] (s_X12_comesTo I15 (by omega) W15) (h19359).1 (h19359).2 rfl rfl (by decide) (Nat.le_of_ble_eq_true rfl) (by decide) dX12_findPeeled_53 (fun r19414 Y19415 h19416 => ?_)
                obtain ⟨rfl, h19416⟩ := h19416
                have h19416 : True := h19416
                refine g_istore (lv' := [(4, .int r19414), (1, .int 1), (3, .int z19407), (0, .ref a0), (2, .int v15_2)]) C dX12_findPeeled_56 (by decide) rfl ?_
                refine g_iconst (v := 0) C dX12_findPeeled_58 (by decide) ?_
                refine g_istore (lv' := [(5, .int 0), (4, .int r19414), (1, .int 1), (3, .int z19407), (0, .ref a0), (2, .int v15_2)]) C dX12_findPeeled_59 (by decide) rfl ?_
                refine g_lv (lv' := [(0, .ref a0), (1, .int 1), (2, .int v15_2), (3, .int z19407), (4, .int r19414), (5, .int 0)]) [4, 2, 5, 3, 1, 0] rfl ?_
                exact J61 _ P15 z19407 r19414 0 (Nat.lt_succ_self _) I15 X15 W15 (by omega) (by decide) (by omega) (by show nf_M (pI P15 a0 33) = nf_M (pI P7 a0 33); omega) (by show nf_M (pI P15 a0 33 ||| z19407) < nf_M (pI P15 a0 33); omega) (by show v7_1.toInt = 1; omega)
      refine g_iload_n C dX12_findPeeled_7 rfl 1 rfl ?_
      refine b_if_eq C 120 dX12_findPeeled_8 (by decide) (fun h19417 => ?_) (fun h19417 => ?_)
      · have h19417 : v7_1.toInt = 0 := congrArg Int32.toInt h19417
        exact ret _ _ _ _ _ dX12_findPeeled_120 (by decide) (by decide) ⟨I7, X7, W7⟩
      · have h19417 : v7_1.toInt ≠ 0 := ti_ne h19417
        refine g_iconst (v := 0) C dX12_findPeeled_11 (by decide) ?_
        refine g_istore_n (lv' := [(1, .int 0), (0, .ref a0)]) C dX12_findPeeled_12 rfl (by decide) rfl ?_
        refine g_iconst (v := 0) C dX12_findPeeled_13 (by decide) ?_
        refine g_istore_n (lv' := [(2, .int 0), (1, .int 0), (0, .ref a0)]) C dX12_findPeeled_14 rfl (by decide) rfl ?_
        refine g_lv (lv' := [(0, .ref a0), (1, .int 0), (2, .int 0)]) [2, 1, 0] rfl ?_
        exact J15 _ P7 0 0 (Nat.lt_succ_self _) I7 X7 W7 (by decide) (by decide) (by show (0 = 0 ∧ nf_M (pI P7 a0 33) = nf_M (pI P7 a0 33)) ∨ (0 = 1 ∧ nf_M (pI P7 a0 33) < nf_M (pI P7 a0 33)); omega) (by show v7_1.toInt = 1; omega)
  refine g_aload_n C dX12_findPeeled_0 rfl 0 rfl ?_
  refine g_iconst (v := 0) C dX12_findPeeled_1 (by decide) ?_
  refine g_putI C fi_X12_318 rfl (ha0).1 (ha0).2 dX12_findPeeled_2 ?_
  refine gqW (ks := [33]) (I.setI (rgOk.none rfl)) (EM.setI I (by decide)) (fun Y19418 Iy19419 Xy19420 w19421 => ?_)
  have w19421 : (pI Y19418 a0 33).toInt = 0 := w19421
  have W19422 := hW.keep I Xy19420 (by decide) (by decide) (by decide)
  have Xz19423 : EM [33, 34] a0 P Y19418 := Xy19420.mono (by decide)
  have h19424 := Xy19420.at ha0
  refine g_iconst (v := 1) C dX12_findPeeled_5 (by decide) ?_
  refine g_istore_n (lv' := [(1, .int 1), (0, .ref a0)]) C dX12_findPeeled_6 rfl (by decide) rfl ?_
  refine g_lv (lv' := [(0, .ref a0), (1, .int 1)]) [1, 0] rfl ?_
  exact J7 _ Y19418 1 (Nat.lt_succ_self _) Iy19419 Xz19423 W19422 (by decide)
theorem dX12_chancesOf_76 : decode cX12_chancesOf 76 = .ok (.goto 7, 3) := by decide +kernel
theorem dX12_chancesOf_83 : decode cX12_chancesOf 83 = .ok (.iload 5, 2) := by decide +kernel
theorem dX12_chancesOf_85 : decode cX12_chancesOf 85 = .ok (.aload_n 0, 1) := by decide +kernel
theorem dX12_chancesOf_86 : decode cX12_chancesOf 86 = .ok (.iload_n 1, 1) := by decide +kernel
theorem dX12_chancesOf_87 : decode cX12_chancesOf 87 = .ok (.iload 4, 2) := by decide +kernel
theorem dX12_chancesOf_89 : decode cX12_chancesOf 89 = .ok (.ifCond .ne 10, 3) := by decide +kernel
theorem dX12_chancesOf_99 : decode cX12_chancesOf 99 = .ok (.aload_n 0, 1) := by decide +kernel
theorem dX12_chancesOf_100 : decode cX12_chancesOf 100 = .ok (.invokevirtual 349, 3) := by decide +kernel
theorem dX12_fixedSet_0 : decode cX12_fixedSet 0 = .ok (.iconst 0, 1) := by decide +kernel
theorem dX12_fixedSet_1 : decode cX12_fixedSet 1 = .ok (.istore_n 1, 1) := by decide +kernel
theorem dX12_fixedSet_2 : decode cX12_fixedSet 2 = .ok (.iconst 0, 1) := by decide +kernel
theorem dX12_fixedSet_3 : decode cX12_fixedSet 3 = .ok (.istore_n 2, 1) := by decide +kernel
theorem dX12_fixedSet_4 : decode cX12_fixedSet 4 = .ok (.iload_n 2, 1) := by decide +kernel
theorem dX12_fixedSet_5 : decode cX12_fixedSet 5 = .ok (.bipush 20, 2) := by decide +kernel
theorem dX12_fixedSet_7 : decode cX12_fixedSet 7 = .ok (.if_icmp .ge 27, 3) := by decide +kernel
theorem dX12_fixedSet_10 : decode cX12_fixedSet 10 = .ok (.iload_n 1, 1) := by decide +kernel
theorem dX12_fixedSet_11 : decode cX12_fixedSet 11 = .ok (.aload_n 0, 1) := by decide +kernel
theorem dX12_fixedSet_12 : decode cX12_fixedSet 12 = .ok (.iload_n 2, 1) := by decide +kernel
theorem dX12_fixedSet_13 : decode cX12_fixedSet 13 = .ok (.invokevirtual 330, 3) := by decide +kernel
theorem dX12_isFixed_0 : decode cX12_isFixed 0 = .ok (.aload_n 0, 1) := by decide +kernel
theorem dX12_isFixed_1 : decode cX12_isFixed 1 = .ok (.getfield 326, 3) := by decide +kernel
theorem dX12_isFixed_4 : decode cX12_isFixed 4 = .ok (.ifCond .eq 19, 3) := by decide +kernel
theorem dX12_isFixed_7 : decode cX12_isFixed 7 = .ok (.aload_n 0, 1) := by decide +kernel
theorem dX12_isFixed_8 : decode cX12_isFixed 8 = .ok (.getfield 106, 3) := by decide +kernel
theorem dX12_isFixed_11 : decode cX12_isFixed 11 = .ok (.iload_n 1, 1) := by decide +kernel
theorem dX12_isFixed_12 : decode cX12_isFixed 12 = .ok (.iaload, 1) := by decide +kernel
theorem dX12_isFixed_13 : decode cX12_isFixed 13 = .ok (.iconst 1, 1) := by decide +kernel
theorem dX12_isFixed_14 : decode cX12_isFixed 14 = .ok (.iload_n 1, 1) := by decide +kernel
theorem dX12_isFixed_15 : decode cX12_isFixed 15 = .ok (.ishl, 1) := by decide +kernel
theorem dX12_isFixed_16 : decode cX12_isFixed 16 = .ok (.if_icmp .ne 7, 3) := by decide +kernel
theorem dX12_isFixed_19 : decode cX12_isFixed 19 = .ok (.iconst 1, 1) := by decide +kernel
theorem dX12_isFixed_20 : decode cX12_isFixed 20 = .ok (.goto 4, 3) := by decide +kernel
theorem dX12_isFixed_23 : decode cX12_isFixed 23 = .ok (.iconst 0, 1) := by decide +kernel
theorem dX12_isFixed_24 : decode cX12_isFixed 24 = .ok (.ireturn, 1) := by decide +kernel
set_option maxHeartbeats 4000000 in
set_option maxRecDepth 100000 in
theorem s_X12_isFixed {P : PP} {a0 : Nat} {a1 : Int32} (I : IM P a0) (ha1 : 0 ≤ a1.toInt ∧ a1.toInt ≤ 19) (hW : MW P a0) : CtrI yX12_isFixed cX12_isFixed 2 (some Jvm.ClassFile.FieldType.boolean) ({ frames := 1, cells := 0, slots := 0, locals := 64 } : Room) 0 0 P [.ref a0, .int a1] (fun r P2 => P = P2 ∧ (0 ≤ r.toInt ∧ r.toInt ≤ 1)) := by
  refine enI (lv := [(0, .ref a0), (1, .int a1)]) (by decide) (Nat.le_of_ble_eq_true rfl) rfl (fun E D cy C Ci0 ret => ?_)
  have ha0 := I.2.1
  have J23 : (0 ≤ (pI P a0 36).toInt ∧ (pI P a0 36).toInt ≤ 1) → G E ({ frames := 1, cells := 0, slots := 0, locals := 64 } : Room) D cy 2 P 0 0 23 [] [] := by
    intro hq23_0
    refine g_iconst (v := 0) C dX12_isFixed_23 (by decide) ?_
    exact ret _ _ _ _ _ _ dX12_isFixed_24 rfl (by decide) (by decide) ⟨rfl, (by decide)⟩
  refine g_aload_n C dX12_isFixed_0 rfl 0 rfl ?_
  refine g_getI C fi_X12_326 (by decide) (ha0).1 (ha0).2 dX12_isFixed_1 ?_
  have h19617 := I.rg (ha0) 36 rfl
  refine b_if_eq C 23 dX12_isFixed_4 (by decide) (fun h19618 => ?_) (fun h19618 => ?_)
  · have h19618 : (pI P a0 36).toInt = 0 := congrArg Int32.toInt h19618
    refine g_lv (lv' := []) [] rfl ?_
    exact J23 (by omega)
  · have h19618 : (pI P a0 36).toInt ≠ 0 := ti_ne h19618
    refine g_aload_n C dX12_isFixed_7 rfl 0 rfl ?_
    obtain ⟨b19619, e19620, h19621⟩ := I.fld (ha0) 37 13 20 rfl
    refine g_getR C fi_X12_106 rfl e19620 (ha0).1 (ha0).2 dX12_isFixed_8 ?_
    refine g_iload_n C dX12_isFixed_11 rfl 1 rfl ?_
    refine g_iald (j := (a1.toInt.toNat)) C h19621.1 h19621.2.1 (ix_in h19621.2.2 (by omega)) dX12_isFixed_12 ?_
    refine g_iconst (v := 1) C dX12_isFixed_13 (by decide) ?_
    refine g_iload_n C dX12_isFixed_14 rfl 1 rfl ?_
    refine a_ishl C dX12_isFixed_15 (fun z19622 => ?_)
    have u19625 := ti_rng (pI P b19619 (a1.toInt.toNat))
    have u19626 := ti_rng z19622
    refine b_icmp_ne C 23 dX12_isFixed_16 (by decide) (fun h19624 => ?_) (fun h19624 => ?_)
    · have h19624 : (pI P b19619 (a1.toInt.toNat)).toInt ≠ z19622.toInt := ti_ne h19624
      refine g_lv (lv' := []) [] rfl ?_
      exact J23 (by omega)
    · have h19624 : (pI P b19619 (a1.toInt.toNat)).toInt = z19622.toInt := congrArg Int32.toInt h19624
      refine g_iconst (v := 1) C dX12_isFixed_19 (by decide) ?_
      refine g_goto C 24 dX12_isFixed_20 (by decide) ?_
      exact ret _ _ _ _ _ _ dX12_isFixed_24 rfl (by decide) (by decide) ⟨rfl, (by decide)⟩
theorem dX12_fixedSet_16 : decode cX12_fixedSet 16 = .ok (.ifCond .eq 9, 3) := by decide +kernel
theorem dX12_fixedSet_19 : decode cX12_fixedSet 19 = .ok (.iconst 1, 1) := by decide +kernel
theorem dX12_fixedSet_20 : decode cX12_fixedSet 20 = .ok (.iload_n 2, 1) := by decide +kernel
theorem dX12_fixedSet_21 : decode cX12_fixedSet 21 = .ok (.ishl, 1) := by decide +kernel
theorem dX12_fixedSet_22 : decode cX12_fixedSet 22 = .ok (.goto 4, 3) := by decide +kernel
theorem dX12_fixedSet_25 : decode cX12_fixedSet 25 = .ok (.iconst 0, 1) := by decide +kernel
theorem dX12_fixedSet_26 : decode cX12_fixedSet 26 = .ok (.ior, 1) := by decide +kernel
theorem dX12_fixedSet_27 : decode cX12_fixedSet 27 = .ok (.istore_n 1, 1) := by decide +kernel
theorem dX12_fixedSet_28 : decode cX12_fixedSet 28 = .ok (.iinc 2 1, 3) := by decide +kernel
theorem dX12_fixedSet_31 : decode cX12_fixedSet 31 = .ok (.goto (-27), 3) := by decide +kernel
theorem dX12_fixedSet_34 : decode cX12_fixedSet 34 = .ok (.iload_n 1, 1) := by decide +kernel
theorem dX12_fixedSet_35 : decode cX12_fixedSet 35 = .ok (.ireturn, 1) := by decide +kernel
set_option maxHeartbeats 4000000 in
set_option maxRecDepth 100000 in
theorem s_X12_fixedSet {P : PP} {a0 : Nat} (I : IM P a0) (hW : MW P a0) : CtrI yX12_fixedSet cX12_fixedSet 3 (some Jvm.ClassFile.FieldType.int) ({ frames := 2, cells := 0, slots := 0, locals := 128 } : Room) 0 0 P [.ref a0] (fun r P2 => P = P2 ∧ (True)) := by
  refine enI (lv := [(0, .ref a0)]) (by decide) (Nat.le_of_ble_eq_true rfl) rfl (fun E D cy C Ci0 ret => ?_)
  have ha0 := I.2.1
  have J4 : ∀ (n4 : Nat) (v4_1 : Int32) (v4_2 : Int32), (20 - v4_2.toInt).toNat < n4 → (0 ≤ v4_2.toInt ∧ v4_2.toInt ≤ 20) → G E ({ frames := 2, cells := 0, slots := 0, locals := 128 } : Room) D cy 3 P 0 0 4 [(0, .ref a0), (1, .int v4_1), (2, .int v4_2)] [] := by
    intro n4
    induction n4 with
    | zero => intro v4_1 v4_2 hm4 hv4_2; omega
    | succ n4 ih4 =>
      intro v4_1 v4_2 hm4 hv4_2
      have J26 : ∀ (v26_s0 : Int32), (0 ≤ v4_2.toInt ∧ v4_2.toInt ≤ 19) → G E ({ frames := 2, cells := 0, slots := 0, locals := 128 } : Room) D cy 3 P 0 0 26 [(0, .ref a0), (2, .int v4_2)] [.int v26_s0, .int v4_1] := by
        intro v26_s0 hv26_2
        refine a_ior C dX12_fixedSet_26 (fun z19770 => ?_)
        refine g_istore_n (lv' := [(1, .int z19770), (0, .ref a0), (2, .int v4_2)]) C dX12_fixedSet_27 rfl (by decide) rfl ?_
        refine s_iinc (lv0 := [(1, .int z19770), (0, .ref a0)]) (m := 1) C dX12_fixedSet_28 2 rfl (by decide) rfl (by decide) (by omega) (fun z19772 h19773 => ?_)
        have h19773 : z19772.toInt = v4_2.toInt + 1 := h19773
        refine g_goto C 4 dX12_fixedSet_31 (by decide) ?_
        refine g_lv (lv' := [(0, .ref a0), (1, .int z19770), (2, .int z19772)]) [2, 1, 0] rfl ?_
        exact ih4 z19770 z19772 (by omega) (by omega)
      refine g_iload_n C dX12_fixedSet_4 rfl 2 rfl ?_
      refine g_bipush (v := 20) C dX12_fixedSet_5 (by decide) ?_
      refine b_icmp_ge C 34 dX12_fixedSet_7 (by decide) (fun h19774 => ?_) (fun h19774 => ?_)
      · have h19774 : 20 ≤ v4_2.toInt := h19774
        refine g_iload_n C dX12_fixedSet_34 rfl 1 rfl ?_
        exact ret _ _ _ _ _ _ dX12_fixedSet_35 rfl (by decide) (by decide) ⟨rfl, trivial⟩
      · have h19774 : v4_2.toInt < 20 := h19774
        refine g_iload_n C dX12_fixedSet_10 rfl 1 rfl ?_
        refine g_aload_n C dX12_fixedSet_11 rfl 0 rfl ?_
        refine g_iload_n C dX12_fixedSet_12 rfl 2 rfl ?_
        refine g_callVI (rest := [.int v4_1]) C mv_X12_330 [.int v4_2] (s_X12_isFixed I (by omega) hW) (ha0).1 (ha0).2 rfl rfl (by decide) (Nat.le_of_ble_eq_true rfl) (by decide) dX12_fixedSet_13 (fun r19775 Y19776 h19777 => ?_)
        obtain ⟨rfl, h19777⟩ := h19777
        have h19777 : 0 ≤ r19775.toInt ∧ r19775.toInt ≤ 1 := h19777
        refine b_if_eq C 25 dX12_fixedSet_16 (by decide) (fun h19778 => ?_) (fun h19778 => ?_)
        · have h19778 : r19775.toInt = 0 := congrArg Int32.toInt h19778
          refine g_iconst (v := 0) C dX12_fixedSet_25 (by decide) ?_
          refine g_lv (lv' := [(0, .ref a0), (2, .int v4_2)]) [0, 2] rfl ?_
          exact J26 0 (by omega)
        · have h19778 : r19775.toInt ≠ 0 := ti_ne h19778
          refine g_iconst (v := 1) C dX12_fixedSet_19 (by decide) ?_
          refine g_iload_n C dX12_fixedSet_20 rfl 2 rfl ?_
          refine a_ishl C dX12_fixedSet_21 (fun z19779 => ?_)
          refine g_goto C 26 dX12_fixedSet_22 (by decide) ?_
          refine g_lv (lv' := [(0, .ref a0), (2, .int v4_2)]) [0, 2] rfl ?_
          exact J26 z19779 (by omega)
  refine g_iconst (v := 0) C dX12_fixedSet_0 (by decide) ?_
  refine g_istore_n (lv' := [(1, .int 0), (0, .ref a0)]) C dX12_fixedSet_1 rfl (by decide) rfl ?_
  refine g_iconst (v := 0) C dX12_fixedSet_2 (by decide) ?_
  refine g_istore_n (lv' := [(2, .int 0), (1, .int 0), (0, .ref a0)]) C dX12_fixedSet_3 rfl (by decide) rfl ?_
  refine g_lv (lv' := [(0, .ref a0), (1, .int 0), (2, .int 0)]) [2, 1, 0] rfl ?_
  exact J4 _ 0 0 (Nat.lt_succ_self _) (by decide)
theorem dX12_chancesOf_92 : decode cX12_chancesOf 92 = .ok (.aload_n 0, 1) := by decide +kernel
theorem dX12_chancesOf_93 : decode cX12_chancesOf 93 = .ok (.getfield 318, 3) := by decide +kernel
theorem dX12_chancesOf_96 : decode cX12_chancesOf 96 = .ok (.goto 7, 3) := by decide +kernel
theorem dX12_chancesOf_103 : decode cX12_chancesOf 103 = .ok (.invokevirtual 371, 3) := by decide +kernel
theorem dX12_givesAll_0 : decode cX12_givesAll 0 = .ok (.iload_n 2, 1) := by decide +kernel
theorem dX12_givesAll_1 : decode cX12_givesAll 1 = .ok (.iconst (-1), 1) := by decide +kernel
theorem dX12_givesAll_2 : decode cX12_givesAll 2 = .ok (.ixor, 1) := by decide +kernel
theorem dX12_givesAll_3 : decode cX12_givesAll 3 = .ok (.iconst 1, 1) := by decide +kernel
theorem dX12_givesAll_4 : decode cX12_givesAll 4 = .ok (.aload_n 0, 1) := by decide +kernel
theorem dX12_givesAll_5 : decode cX12_givesAll 5 = .ok (.getfield 45, 3) := by decide +kernel
theorem dX12_givesAll_8 : decode cX12_givesAll 8 = .ok (.iload_n 1, 1) := by decide +kernel
theorem dX12_givesAll_9 : decode cX12_givesAll 9 = .ok (.iaload, 1) := by decide +kernel
theorem dX12_givesAll_10 : decode cX12_givesAll 10 = .ok (.ishl, 1) := by decide +kernel
theorem dX12_givesAll_11 : decode cX12_givesAll 11 = .ok (.iconst 1, 1) := by decide +kernel
theorem dX12_givesAll_12 : decode cX12_givesAll 12 = .ok (.isub, 1) := by decide +kernel
theorem dX12_givesAll_13 : decode cX12_givesAll 13 = .ok (.iand, 1) := by decide +kernel
theorem dX12_givesAll_14 : decode cX12_givesAll 14 = .ok (.ifCond .ne 7, 3) := by decide +kernel
theorem dX12_givesAll_17 : decode cX12_givesAll 17 = .ok (.iconst 1, 1) := by decide +kernel
theorem dX12_givesAll_18 : decode cX12_givesAll 18 = .ok (.goto 4, 3) := by decide +kernel
theorem dX12_givesAll_21 : decode cX12_givesAll 21 = .ok (.iconst 0, 1) := by decide +kernel
theorem dX12_givesAll_22 : decode cX12_givesAll 22 = .ok (.ireturn, 1) := by decide +kernel
set_option maxHeartbeats 4000000 in
set_option maxRecDepth 100000 in
theorem s_X12_givesAll {P : PP} {a0 : Nat} {a1 : Int32} {a2 : Int32} (I : IM P a0) (ha1 : 0 ≤ a1.toInt ∧ a1.toInt ≤ 1) (hW : MW P a0) : CtrI yX12_givesAll cX12_givesAll 3 (some Jvm.ClassFile.FieldType.boolean) ({ frames := 1, cells := 0, slots := 0, locals := 64 } : Room) 0 0 P [.ref a0, .int a1, .int a2] (fun r P2 => P = P2 ∧ (0 ≤ r.toInt ∧ r.toInt ≤ 1)) := by
  refine enI (lv := [(0, .ref a0), (1, .int a1), (2, .int a2)]) (by decide) (Nat.le_of_ble_eq_true rfl) rfl (fun E D cy C Ci0 ret => ?_)
  have ha0 := I.2.1
  refine g_iload_n C dX12_givesAll_0 rfl 2 rfl ?_
  refine g_iconst (v := (-1)) C dX12_givesAll_1 (by decide) ?_
  refine a_ixor C dX12_givesAll_2 (fun z20046 => ?_)
  refine g_iconst (v := 1) C dX12_givesAll_3 (by decide) ?_
  refine g_aload_n C dX12_givesAll_4 rfl 0 rfl ?_
  obtain ⟨b20048, e20049, h20050⟩ := I.fld (ha0) 10 13 2 rfl
  refine g_getR C fi_X12_45 rfl e20049 (ha0).1 (ha0).2 dX12_givesAll_5 ?_
  refine g_iload_n C dX12_givesAll_8 rfl 1 rfl ?_
  refine g_iald (j := (a1.toInt.toNat)) C h20050.1 h20050.2.1 (ix_in h20050.2.2 (by omega)) dX12_givesAll_9 ?_
  have h20051 := I.arr e20049 rfl (a1.toInt.toNat)
  refine a_ishl C dX12_givesAll_10 (fun z20052 => ?_)
  refine g_iconst (v := 1) C dX12_givesAll_11 (by decide) ?_
  refine a_isub C dX12_givesAll_12 (fun z20054 => ?_)
  refine a_iand C dX12_givesAll_13 (fun z20056 => ?_)
  have u20059 := ti_rng z20056
  refine b_if_ne C 21 dX12_givesAll_14 (by decide) (fun h20058 => ?_) (fun h20058 => ?_)
  · have h20058 : z20056.toInt ≠ 0 := ti_ne h20058
    refine g_iconst (v := 0) C dX12_givesAll_21 (by decide) ?_
    exact ret _ _ _ _ _ _ dX12_givesAll_22 rfl (by decide) (by decide) ⟨rfl, (by decide)⟩
  · have h20058 : z20056.toInt = 0 := congrArg Int32.toInt h20058
    refine g_iconst (v := 1) C dX12_givesAll_17 (by decide) ?_
    refine g_goto C 22 dX12_givesAll_18 (by decide) ?_
    exact ret _ _ _ _ _ _ dX12_givesAll_22 rfl (by decide) (by decide) ⟨rfl, (by decide)⟩
theorem dX12_chancesOf_106 : decode cX12_chancesOf 106 = .ok (.ifCond .eq 7, 3) := by decide +kernel
theorem dX12_chancesOf_109 : decode cX12_chancesOf 109 = .ok (.iconst 1, 1) := by decide +kernel
theorem dX12_chancesOf_110 : decode cX12_chancesOf 110 = .ok (.goto 4, 3) := by decide +kernel
theorem dX12_chancesOf_113 : decode cX12_chancesOf 113 = .ok (.iconst 0, 1) := by decide +kernel
theorem dX12_chancesOf_114 : decode cX12_chancesOf 114 = .ok (.iadd, 1) := by decide +kernel
theorem dX12_chancesOf_115 : decode cX12_chancesOf 115 = .ok (.istore 5, 2) := by decide +kernel
set_option maxHeartbeats 4000000 in
set_option maxRecDepth 100000 in
theorem s_X12_chancesOf {P : PP} {a0 : Nat} {a1 : Int32} {a2 : Int32} {a3 : Int32} {a4 : Int32} (I : IM P a0) (ha1 : 0 ≤ a1.toInt ∧ a1.toInt ≤ 1) (ha2 : 1 ≤ a2.toInt ∧ a2.toInt ≤ 11) (hf0 : ∀ b, pR P a0 10 = some b → 1 ≤ (pI P b (a1.toInt.toNat)).toInt ∧ (pI P b (a1.toInt.toNat)).toInt ≤ 16) (hW : MW P a0) : CtrI yX12_chancesOf cX12_chancesOf 8 (some Jvm.ClassFile.FieldType.int) ({ frames := 3, cells := 0, slots := 0, locals := 192 } : Room) 0 0 P [.ref a0, .int a1, .int a2, .int a3, .int a4] (fun r P2 => IM P2 a0 ∧ EM [28, 29, 30, 31, 33, 34, 35, 36, 37, 38] a0 P P2 ∧ MW P2 a0 ∧ (True)) := by
  refine enI (lv := [(0, .ref a0), (1, .int a1), (2, .int a2), (3, .int a3), (4, .int a4)]) (by decide) (Nat.le_of_ble_eq_true rfl) rfl (fun E D cy C Ci0 ret => ?_)
  have ha0 := I.2.1
  have J6 : ∀ (n6 : Nat) (P6 : PP) (v6_5 : Int32) (v6_6 : Int32), (2147483647 - v6_6.toInt).toNat < n6 → (IM P6 a0) → (EM [28, 29, 30, 31, 33, 34, 35, 36, 37, 38] a0 P P6) → (MW P6 a0) → (0 ≤ v6_6.toInt) → (∀ b, pR P6 a0 10 = some b → 1 ≤ (pI P6 b (a1.toInt.toNat)).toInt ∧ (pI P6 b (a1.toInt.toNat)).toInt ≤ 16) → G E ({ frames := 3, cells := 0, slots := 0, locals := 192 } : Room) D cy 8 P6 0 0 6 [(0, .ref a0), (1, .int a1), (2, .int a2), (3, .int a3), (4, .int a4), (5, .int v6_5), (6, .int v6_6)] [] := by
    intro n6
    induction n6 with
    | zero => intro P6 v6_5 v6_6 hm6 I6 X6 W6 hv6_6 hq6_0; omega
    | succ n6 ih6 =>
      intro P6 v6_5 v6_6 hm6 I6 X6 W6 hv6_6 hq6_0
      have h26418 := X6.at ha0
      obtain ⟨b26419, e26420, h26421⟩ := I6.fld (h26418) 10 13 2 rfl
      have hq6_0 := hq6_0 b26419 e26420
      have J117 : ∀ (P117 : PP) (v117_5 : Int32), (IM P117 a0) → (EM [28, 29, 30, 31, 33, 34, 35, 36, 37, 38] a0 P P117) → (MW P117 a0) → (0 ≤ v6_6.toInt ∧ v6_6.toInt ≤ 2147483646) → (∀ b, pR P117 a0 10 = some b → 1 ≤ (pI P117 b (a1.toInt.toNat)).toInt ∧ (pI P117 b (a1.toInt.toNat)).toInt ≤ 16) → G E ({ frames := 3, cells := 0, slots := 0, locals := 192 } : Room) D cy 8 P117 0 0 117 [(0, .ref a0), (1, .int a1), (2, .int a2), (3, .int a3), (4, .int a4), (5, .int v117_5), (6, .int v6_6)] [] := by
        intro P117 v117_5 I117 X117 W117 hv117_6 hq117_0
        have h26422 := X117.at ha0
        obtain ⟨b26423, e26424, h26425⟩ := I117.fld (h26422) 10 13 2 rfl
        have hq117_0 := hq117_0 b26423 e26424
        refine s_iinc (lv0 := [(0, .ref a0), (1, .int a1), (2, .int a2), (3, .int a3), (4, .int a4), (5, .int v117_5)]) (m := 1) C dX12_chancesOf_117 6 rfl (by decide) rfl (by decide) (by omega) (fun z26426 h26427 => ?_)
        have h26427 : z26426.toInt = v6_6.toInt + 1 := h26427
        refine g_goto C 6 dX12_chancesOf_120 (by decide) ?_
        refine g_lv (lv' := [(0, .ref a0), (1, .int a1), (2, .int a2), (3, .int a3), (4, .int a4), (5, .int v117_5), (6, .int z26426)]) [1, 2, 3, 4, 5, 6, 0] rfl ?_
        exact ih6 P117 v117_5 z26426 (by omega) I117 X117 W117 (by omega) (fun b9 e9 => by rw [e26424] at e9; cases e9; omega)
      have J114 : ∀ (P114 : PP) (v114_s0 : Int32), (IM P114 a0) → (EM [28, 29, 30, 31, 33, 34, 35, 36, 37, 38] a0 P P114) → (MW P114 a0) → (0 ≤ a3.toInt ∧ a3.toInt ≤ 20) → (0 ≤ v6_6.toInt ∧ v6_6.toInt ≤ 2147483646) → (0 ≤ v114_s0.toInt ∧ v114_s0.toInt ≤ 1) → (∀ b, pR P114 a0 10 = some b → 1 ≤ (pI P114 b (a1.toInt.toNat)).toInt ∧ (pI P114 b (a1.toInt.toNat)).toInt ≤ 16) → G E ({ frames := 3, cells := 0, slots := 0, locals := 192 } : Room) D cy 8 P114 0 0 114 [(0, .ref a0), (1, .int a1), (2, .int a2), (3, .int a3), (4, .int a4), (6, .int v6_6)] [.int v114_s0, .int v6_5] := by
        intro P114 v114_s0 I114 X114 W114 hv114_3 hv114_6 hv114_s0 hq114_0
        have h26428 := X114.at ha0
        obtain ⟨b26429, e26430, h26431⟩ := I114.fld (h26428) 10 13 2 rfl
        have hq114_0 := hq114_0 b26429 e26430
        refine a_iadd C dX12_chancesOf_114 (fun z26432 => ?_)
        refine g_istore (lv' := [(5, .int z26432), (0, .ref a0), (1, .int a1), (2, .int a2), (3, .int a3), (4, .int a4), (6, .int v6_6)]) C dX12_chancesOf_115 (by decide) rfl ?_
        refine g_lv (lv' := [(0, .ref a0), (1, .int a1), (2, .int a2), (3, .int a3), (4, .int a4), (5, .int z26432), (6, .int v6_6)]) [1, 2, 3, 4, 5, 0, 6] rfl ?_
        exact J117 P114 z26432 I114 X114 W114 (by omega) (fun b9 e9 => by rw [e26430] at e9; cases e9; omega)
      have J103 : ∀ (P103 : PP) (v103_s0 : Int32), (IM P103 a0) → (EM [28, 29, 30, 31, 33, 34, 35, 36, 37, 38] a0 P P103) → (MW P103 a0) → (0 ≤ a3.toInt ∧ a3.toInt ≤ 20) → (0 ≤ v6_6.toInt ∧ v6_6.toInt ≤ 2147483646) → (∀ b, pR P103 a0 10 = some b → 1 ≤ (pI P103 b (a1.toInt.toNat)).toInt ∧ (pI P103 b (a1.toInt.toNat)).toInt ≤ 16) → G E ({ frames := 3, cells := 0, slots := 0, locals := 192 } : Room) D cy 8 P103 0 0 103 [(0, .ref a0), (1, .int a1), (2, .int a2), (3, .int a3), (4, .int a4), (6, .int v6_6)] [.int v103_s0, .int a1, .ref a0, .int v6_5] := by
        intro P103 v103_s0 I103 X103 W103 hv103_3 hv103_6 hq103_0
        have h26434 := X103.at ha0
        obtain ⟨b26435, e26436, h26437⟩ := I103.fld (h26434) 10 13 2 rfl
        have hq103_0 := hq103_0 b26435 e26436
        refine g_callVI (rest := [.int v6_5]) C mv_X12_371 [.int a1, .int v103_s0] (s_X12_givesAll I103 (by omega) W103) (h26434).1 (h26434).2 rfl rfl (by decide) (Nat.le_of_ble_eq_true rfl) (by decide) dX12_chancesOf_103 (fun r26438 Y26439 h26440 => ?_)
        obtain ⟨rfl, h26440⟩ := h26440
        have h26440 : 0 ≤ r26438.toInt ∧ r26438.toInt ≤ 1 := h26440
        refine b_if_eq C 113 dX12_chancesOf_106 (by decide) (fun h26441 => ?_) (fun h26441 => ?_)
        · have h26441 : r26438.toInt = 0 := congrArg Int32.toInt h26441
          refine g_iconst (v := 0) C dX12_chancesOf_113 (by decide) ?_
          exact J114 P103 0 I103 X103 W103 (by omega) (by omega) (by decide) (fun b9 e9 => by rw [e26436] at e9; cases e9; omega)
        · have h26441 : r26438.toInt ≠ 0 := ti_ne h26441
          refine g_iconst (v := 1) C dX12_chancesOf_109 (by decide) ?_
          refine g_goto C 114 dX12_chancesOf_110 (by decide) ?_
          exact J114 P103 1 I103 X103 W103 (by omega) (by omega) (by decide) (fun b9 e9 => by rw [e26436] at e9; cases e9; omega)
      have J83 : ∀ (P83 : PP), (IM P83 a0) → (EM [28, 29, 30, 31, 33, 34, 35, 36, 37, 38] a0 P P83) → (MW P83 a0) → (0 ≤ a3.toInt ∧ a3.toInt ≤ 20) → (0 ≤ v6_6.toInt ∧ v6_6.toInt ≤ 2147483646) → (∀ b, pR P83 a0 10 = some b → 1 ≤ (pI P83 b (a1.toInt.toNat)).toInt ∧ (pI P83 b (a1.toInt.toNat)).toInt ≤ 16) → G E ({ frames := 3, cells := 0, slots := 0, locals := 192 } : Room) D cy 8 P83 0 0 83 [(0, .ref a0), (1, .int a1), (2, .int a2), (3, .int a3), (4, .int a4), (5, .int v6_5), (6, .int v6_6)] [] := by
        intro P83 I83 X83 W83 hv83_3 hv83_6 hq83_0
        have h26442 := X83.at ha0
        obtain ⟨b26443, e26444, h26445⟩ := I83.fld (h26442) 10 13 2 rfl
        have hq83_0 := hq83_0 b26443 e26444
        refine g_iload C dX12_chancesOf_83 5 rfl ?_
        refine g_aload_n C dX12_chancesOf_85 rfl 0 rfl ?_
        refine g_iload_n C dX12_chancesOf_86 rfl 1 rfl ?_
        refine g_iload C dX12_chancesOf_87 4 rfl ?_
        have u26447 := ti_rng a4
        refine b_if_ne C 99 dX12_chancesOf_89 (by decide) (fun h26446 => ?_) (fun h26446 => ?_)
        · have h26446 : a4.toInt ≠ 0 := ti_ne h26446
          refine g_aload_n C dX12_chancesOf_99 rfl 0 rfl ?_
          refine g_callVI (rest := [.int a1, .ref a0, .int v6_5]) C mv_X12_349 [] (s_X12_fixedSet I83 W83) (h26442).1 (h26442).2 rfl rfl (by decide) (Nat.le_of_ble_eq_true rfl) (by decide) dX12_chancesOf_100 (fun r26448 Y26449 h26450 => ?_)
          obtain ⟨rfl, h26450⟩ := h26450
          have h26450 : True := h26450
          refine g_lv (lv' := [(0, .ref a0), (1, .int a1), (2, .int a2), (3, .int a3), (4, .int a4), (6, .int v6_6)]) [0, 1, 2, 3, 4, 6] rfl ?_
          exact J103 P83 r26448 I83 X83 W83 (by omega) (by omega) (fun b9 e9 => by rw [e26444] at e9; cases e9; omega)
        · have h26446 : a4.toInt = 0 := congrArg Int32.toInt h26446
          refine g_aload_n C dX12_chancesOf_92 rfl 0 rfl ?_
          refine g_getI C fi_X12_318 (by decide) (h26442).1 (h26442).2 dX12_chancesOf_93 ?_
          refine g_goto C 103 dX12_chancesOf_96 (by decide) ?_
          refine g_lv (lv' := [(0, .ref a0), (1, .int a1), (2, .int a2), (3, .int a3), (4, .int a4), (6, .int v6_6)]) [0, 1, 2, 3, 4, 6] rfl ?_
          exact J103 P83 (pI P83 a0 33) I83 X83 W83 (by omega) (by omega) (fun b9 e9 => by rw [e26444] at e9; cases e9; omega)
      have J31 : ∀ (n31 : Nat) (P31 : PP) (v31_7 : Int32), (11 - v31_7.toInt).toNat < n31 → (IM P31 a0) → (EM [28, 29, 30, 31, 33, 34, 35, 36, 37, 38] a0 P P31) → (MW P31 a0) → (0 ≤ a3.toInt ∧ a3.toInt ≤ 20) → (0 ≤ v6_6.toInt ∧ v6_6.toInt ≤ 2147483646) → (0 ≤ v31_7.toInt ∧ v31_7.toInt ≤ 11) → (∀ b, pR P31 a0 10 = some b → 1 ≤ (pI P31 b (a1.toInt.toNat)).toInt ∧ (pI P31 b (a1.toInt.toNat)).toInt ≤ 16) → ((pI P31 a0 28).toInt ≤ 4 + v31_7.toInt) → G E ({ frames := 3, cells := 0, slots := 0, locals := 192 } : Room) D cy 8 P31 0 0 31 [(0, .ref a0), (1, .int a1), (2, .int a2), (3, .int a3), (4, .int a4), (5, .int v6_5), (6, .int v6_6), (7, .int v31_7)] [] := by
        intro n31
        induction n31 with
        | zero => intro P31 v31_7 hm31 I31 X31 W31 hv31_3 hv31_6 hv31_7 hq31_0 rel31_0; omega
        | succ n31 ih31 =>
          intro P31 v31_7 hm31 I31 X31 W31 hv31_3 hv31_6 hv31_7 hq31_0 rel31_0
          have h26451 := X31.at ha0
          obtain ⟨b26452, e26453, h26454⟩ := I31.fld (h26451) 10 13 2 rfl
          have hq31_0 := hq31_0 b26452 e26453
          have h26455 := I31.rg h26451 28 rfl
          have J61 : ∀ (P61 : PP), (IM P61 a0) → (EM [28, 29, 30, 31, 33, 34, 35, 36, 37, 38] a0 P P61) → (MW P61 a0) → (0 ≤ a3.toInt ∧ a3.toInt ≤ 20) → (0 ≤ v6_6.toInt ∧ v6_6.toInt ≤ 2147483646) → (0 ≤ v31_7.toInt ∧ v31_7.toInt ≤ 10) → (∀ b, pR P61 a0 10 = some b → 1 ≤ (pI P61 b (a1.toInt.toNat)).toInt ∧ (pI P61 b (a1.toInt.toNat)).toInt ≤ 16) → ((pI P61 a0 28).toInt ≤ 5 + v31_7.toInt) → G E ({ frames := 3, cells := 0, slots := 0, locals := 192 } : Room) D cy 8 P61 0 0 61 [(0, .ref a0), (1, .int a1), (2, .int a2), (3, .int a3), (4, .int a4), (5, .int v6_5), (6, .int v6_6), (7, .int v31_7)] [] := by
            intro P61 I61 X61 W61 hv61_3 hv61_6 hv61_7 hq61_0 rel61_0
            have h26456 := X61.at ha0
            obtain ⟨b26457, e26458, h26459⟩ := I61.fld (h26456) 10 13 2 rfl
            have hq61_0 := hq61_0 b26457 e26458
            have h26460 := I61.rg h26456 28 rfl
            refine s_iinc (lv0 := [(0, .ref a0), (1, .int a1), (2, .int a2), (3, .int a3), (4, .int a4), (5, .int v6_5), (6, .int v6_6)]) (m := 1) C dX12_chancesOf_61 7 rfl (by decide) rfl (by decide) (by omega) (fun z26461 h26462 => ?_)
            have h26462 : z26461.toInt = v31_7.toInt + 1 := h26462
            refine g_goto C 31 dX12_chancesOf_64 (by decide) ?_
            refine g_lv (lv' := [(0, .ref a0), (1, .int a1), (2, .int a2), (3, .int a3), (4, .int a4), (5, .int v6_5), (6, .int v6_6), (7, .int z26461)]) [1, 2, 3, 4, 5, 6, 7, 0] rfl ?_
            exact ih31 P61 z26461 (by omega) I61 X61 W61 (by omega) (by omega) (by omega) (fun b9 e9 => by rw [e26458] at e9; cases e9; omega) (by show (pI P61 a0 28).toInt ≤ 4 + z26461.toInt; omega)
          refine g_iload C dX12_chancesOf_31 7 rfl ?_
          refine g_iload_n C dX12_chancesOf_33 rfl 2 rfl ?_
          refine b_icmp_ge C 67 dX12_chancesOf_34 (by decide) (fun h26463 => ?_) (fun h26463 => ?_)
          · have h26463 : a2.toInt ≤ v31_7.toInt := h26463
            refine g_iload C dX12_chancesOf_67 4 rfl ?_
            have u26465 := ti_rng a4
            refine b_if_ne C 79 dX12_chancesOf_69 (by decide) (fun h26464 => ?_) (fun h26464 => ?_)
            · have h26464 : a4.toInt ≠ 0 := ti_ne h26464
              refine g_aload_n C dX12_chancesOf_79 rfl 0 rfl ?_
              refine g_callVV (rest := []) C mv_X12_346 [] (s_X12_findSolved I31 W31) (h26451).1 (h26451).2 rfl rfl (by decide) (Nat.le_of_ble_eq_true rfl) (by decide) dX12_chancesOf_80 (fun Y26467 h26468 => ?_)
              obtain ⟨Iy26469, Xy26470, W26471⟩ := h26468
              have q26472 := Xy26470.keepA e26453 (by decide) rfl (a1.toInt.toNat)
              have q26473 := Xy26470.keepF 28 (by decide)
              have Xz26474 : EM [28, 29, 30, 31, 33, 34, 35, 36, 37, 38] a0 P Y26467 := EM.tr ha0 X31 (Xy26470.mono (by decide))
              have e26475 := Xy26470.ref h26451 (by decide) e26453
              have h26476 := Xy26470.at h26451
              have h26477 := Xy26470.ar h26454
              refine g_lv (lv' := [(0, .ref a0), (1, .int a1), (2, .int a2), (3, .int a3), (4, .int a4), (5, .int v6_5), (6, .int v6_6)]) [0, 1, 2, 3, 4, 5, 6] rfl ?_
              exact J83 Y26467 Iy26469 Xz26474 W26471 (by omega) (by omega) (fun b9 e9 => by rw [e26475] at e9; cases e9; omega)
            · have h26464 : a4.toInt = 0 := congrArg Int32.toInt h26464
              refine g_aload_n C dX12_chancesOf_72 rfl 0 rfl ?_
              refine g_callVV (rest := []) C mv_X12_343 [] (s_X12_findPeeled I31 W31) (h26451).1 (h26451).2 rfl rfl (by decide) (Nat.le_of_ble_eq_true rfl) (by decide) dX12_chancesOf_73 (fun Y26479 h26480 => ?_)
              obtain ⟨Iy26481, Xy26482, W26483⟩ := h26480
              have q26484 := Xy26482.keepA e26453 (by decide) rfl (a1.toInt.toNat)
              have q26485 := Xy26482.keepF 28 (by decide)
              have Xz26486 : EM [28, 29, 30, 31, 33, 34, 35, 36, 37, 38] a0 P Y26479 := EM.tr ha0 X31 (Xy26482.mono (by decide))
              have e26487 := Xy26482.ref h26451 (by decide) e26453
              have h26488 := Xy26482.at h26451
              have h26489 := Xy26482.ar h26454
              refine g_goto C 83 dX12_chancesOf_76 (by decide) ?_
              refine g_lv (lv' := [(0, .ref a0), (1, .int a1), (2, .int a2), (3, .int a3), (4, .int a4), (5, .int v6_5), (6, .int v6_6)]) [0, 1, 2, 3, 4, 5, 6] rfl ?_
              exact J83 Y26479 Iy26481 Xz26486 W26483 (by omega) (by omega) (fun b9 e9 => by rw [e26487] at e9; cases e9; omega)
          · have h26463 : v31_7.toInt < a2.toInt := h26463
            refine g_iload C dX12_chancesOf_37 6 rfl ?_
            refine g_iload C dX12_chancesOf_39 7 rfl ?_
            refine a_ishr C dX12_chancesOf_41 (fun z26490 => ?_)
            refine g_iconst (v := 1) C dX12_chancesOf_42 (by decide) ?_
            refine s_iand C dX12_chancesOf_43 (by show 0 ≤ 1; omega) (fun z26492 h26493 => ?_)
            have h26493 : 0 ≤ z26492.toInt ∧ z26492.toInt ≤ 1 := h26493
            refine g_iconst (v := 1) C dX12_chancesOf_44 (by decide) ?_
            refine b_icmp_ne C 61 dX12_chancesOf_45 (by decide) (fun h26494 => ?_) (fun h26494 => ?_)
            · have h26494 : z26492.toInt ≠ 1 := ti_ne h26494
              exact J61 P31 I31 X31 W31 (by omega) (by omega) (by omega) (fun b9 e9 => by rw [e26453] at e9; cases e9; omega) (by show (pI P31 a0 28).toInt ≤ 5 + v31_7.toInt; omega)
            · have h26494 : z26492.toInt = 1 := congrArg Int32.toInt h26494
              refine g_aload_n C dX12_chancesOf_48 rfl 0 rfl ?_
              refine g_aload_n C dX12_chancesOf_49 rfl 0 rfl ?_
              obtain ⟨b26495, e26496, h26497⟩ := I31.fld (h26451) 43 13 60 rfl
              refine g_getR C fi_X12_121 rfl e26496 (h26451).1 (h26451).2 dX12_chancesOf_50 ?_
              refine g_iload C dX12_chancesOf_53 7 rfl ?_
              refine g_iald (j := (v31_7.toInt.toNat)) C h26497.1 h26497.2.1 (ix_in h26497.2.2 (by omega)) dX12_chancesOf_55 ?_
              refine g_iconst (v := 0) C dX12_chancesOf_56 (by decide) ?_
              refine g_iconst (v := (-1)) C dX12_chancesOf_57 (by decide) ?_
              refine g_callVV (rest := []) C mv_X12_308 [.int (pI P31 b26495 (v31_7.toInt.toNat)), .int 0, .int (-1)] (s_X12_adds I31 (by omega) W31) (h26451).1 (h26451).2 rfl rfl (by decide) (Nat.le_of_ble_eq_true rfl) (by decide) dX12_chancesOf_58 (fun Y26499 h26500 => ?_)
              obtain ⟨Iy26501, Xy26502, W26503, p26504⟩ := h26500
              have p26504 : (pI Y26499 a0 28).toInt = (pI P31 a0 28).toInt + 1 := p26504
              have q26505 := Xy26502.keepA e26453 (by decide) rfl (a1.toInt.toNat)
              have Xz26506 : EM [28, 29, 30, 31, 33, 34, 35, 36, 37, 38] a0 P Y26499 := EM.tr ha0 X31 (Xy26502.mono (by decide))
              have e26507 := Xy26502.ref h26451 (by decide) e26453
              have h26508 := Xy26502.at h26451
              have h26509 := Xy26502.ar h26454
              have h26510 := Iy26501.rg h26508 28 rfl
              exact J61 Y26499 Iy26501 Xz26506 W26503 (by omega) (by omega) (by omega) (fun b9 e9 => by rw [e26507] at e9; cases e9; omega) (by show (pI Y26499 a0 28).toInt ≤ 5 + v31_7.toInt; omega)
      refine g_iload C dX12_chancesOf_6 6 rfl ?_
      refine g_iconst (v := 1) C dX12_chancesOf_8 (by decide) ?_
      refine g_iload_n C dX12_chancesOf_9 rfl 2 rfl ?_
      refine a_ishl C dX12_chancesOf_10 (fun z26511 => ?_)
      have u26514 := ti_rng v6_6
      have u26515 := ti_rng z26511
      refine b_icmp_ge C 123 dX12_chancesOf_11 (by decide) (fun h26513 => ?_) (fun h26513 => ?_)
      · have h26513 : z26511.toInt ≤ v6_6.toInt := h26513
        refine g_iload C dX12_chancesOf_123 5 rfl ?_
        exact ret _ _ _ _ _ _ dX12_chancesOf_125 rfl (by decide) (by decide) ⟨I6, X6, W6, trivial⟩
      · have h26513 : v6_6.toInt < z26511.toInt := h26513
        refine g_iload C dX12_chancesOf_14 6 rfl ?_
        refine g_callSI (b := 0) (ci := 0) (rest := []) C ms_X12_264 [.int v6_6] (s_X12_bits I6.1) rfl rfl (by decide) (Nat.le_of_ble_eq_true rfl) (by decide) dX12_chancesOf_16 (fun r26516 Y26517 h26518 => ?_)
        obtain ⟨rfl, h26518⟩ := h26518
        obtain ⟨h26518, hi26519⟩ := h26518
        have hi26519 : r26516.toInt = 0 ∨ v6_6.toInt ≠ 0 := hi26519
        have h26518 : 0 ≤ r26516.toInt ∧ r26516.toInt ≤ 20 := h26518
        refine g_iload_n C dX12_chancesOf_19 rfl 3 rfl ?_
        have u26521 := ti_rng a3
        refine b_icmp_ne C 117 dX12_chancesOf_20 (by decide) (fun h26520 => ?_) (fun h26520 => ?_)
        · have h26520 : r26516.toInt ≠ a3.toInt := ti_ne h26520
          exact J117 P6 v6_5 I6 X6 W6 (by omega) (fun b9 e9 => by rw [e26420] at e9; cases e9; omega)
        · have h26520 : r26516.toInt = a3.toInt := congrArg Int32.toInt h26520
          refine g_aload_n C dX12_chancesOf_23 rfl 0 rfl ?_
          refine g_iload_n C dX12_chancesOf_24 rfl 1 rfl ?_
          refine g_callVV (rest := []) C mv_X12_312 [.int a1] (s_X12_begins I6 (by omega) W6) (h26418).1 (h26418).2 rfl rfl (by decide) (Nat.le_of_ble_eq_true rfl) (by decide) dX12_chancesOf_25 (fun Y26523 h26524 => ?_)
          obtain ⟨Iy26525, Xy26526, W26527, p26528⟩ := h26524
          have p26528 : (pI Y26523 a0 28).toInt ≤ 4 := p26528
          have q26529 := Xy26526.keepA e26420 (by decide) rfl (a1.toInt.toNat)
          have Xz26530 : EM [28, 29, 30, 31, 33, 34, 35, 36, 37, 38] a0 P Y26523 := EM.tr ha0 X6 (Xy26526.mono (by decide))
          have e26531 := Xy26526.ref h26418 (by decide) e26420
          have h26532 := Xy26526.at h26418
          have h26533 := Xy26526.ar h26421
          have h26534 := Iy26525.rg h26532 28 rfl
          refine g_iconst (v := 0) C dX12_chancesOf_28 (by decide) ?_
          refine g_istore (lv' := [(7, .int 0), (0, .ref a0), (1, .int a1), (2, .int a2), (3, .int a3), (4, .int a4), (5, .int v6_5), (6, .int v6_6)]) C dX12_chancesOf_29 (by decide) rfl ?_
          refine g_lv (lv' := [(0, .ref a0), (1, .int a1), (2, .int a2), (3, .int a3), (4, .int a4), (5, .int v6_5), (6, .int v6_6), (7, .int 0)]) [1, 2, 3, 4, 5, 6, 7, 0] rfl ?_
          exact J31 _ Y26523 0 (Nat.lt_succ_self _) Iy26525 Xz26530 W26527 (by omega) (by omega) (by decide) (fun b9 e9 => by rw [e26531] at e9; cases e9; omega) (by show (pI Y26523 a0 28).toInt ≤ 4 + 0; omega)
  obtain ⟨b26535, e26536, h26537⟩ := I.fld (ha0) 10 13 2 rfl
  have hf0 := hf0 b26535 e26536
  refine g_iconst (v := 0) C dX12_chancesOf_0 (by decide) ?_
  refine g_istore (lv' := [(5, .int 0), (0, .ref a0), (1, .int a1), (2, .int a2), (3, .int a3), (4, .int a4)]) C dX12_chancesOf_1 (by decide) rfl ?_
  refine g_iconst (v := 0) C dX12_chancesOf_3 (by decide) ?_
  refine g_istore (lv' := [(6, .int 0), (5, .int 0), (0, .ref a0), (1, .int a1), (2, .int a2), (3, .int a3), (4, .int a4)]) C dX12_chancesOf_4 (by decide) rfl ?_
  refine g_lv (lv' := [(0, .ref a0), (1, .int a1), (2, .int a2), (3, .int a3), (4, .int a4), (5, .int 0), (6, .int 0)]) [2, 3, 4, 5, 6, 1, 0] rfl ?_
  exact J6 _ P 0 0 (Nat.lt_succ_self _) I EM.rf hW (by decide) (fun b9 e9 => by rw [e26536] at e9; cases e9; omega)
theorem dX12_chances_25 : decode cX12_chances 25 = .ok (.iconst (-1), 1) := by decide +kernel
theorem dX12_chances_26 : decode cX12_chances 26 = .ok (.ireturn, 1) := by decide +kernel
theorem dX12_chances_42 : decode cX12_chances 42 = .ok (.ireturn, 1) := by decide +kernel
set_option maxHeartbeats 4000000 in
set_option maxRecDepth 100000 in
theorem s_X12_chances {P : PP} {a0 : Nat} {a1 : Int32} {a2 : Int32} {a3 : Int32} {a4 : Int32} (I : IM P a0) (hW : MW P a0) : CtrI yX12_chances cX12_chances 5 (some Jvm.ClassFile.FieldType.int) ({ frames := 7, cells := 0, slots := 0, locals := 448 } : Room) 0 0 P [.ref a0, .int a1, .int a2, .int a3, .int a4] (fun r P2 => IM P2 a0 ∧ EM [0, 28, 29, 30, 31, 33, 34, 35, 36, 37, 38, 43] a0 P P2 ∧ MW P2 a0 ∧ (True)) := by
  refine enI (lv := [(0, .ref a0), (1, .int a1), (2, .int a2), (3, .int a3), (4, .int a4)]) (by decide) (Nat.le_of_ble_eq_true rfl) rfl (fun E D cy C Ci0 ret => ?_)
  have ha0 := I.2.1
  have J25 : ∀ (P25 : PP), (IM P25 a0) → (EM [0, 28, 29, 30, 31, 33, 34, 35, 36, 37, 38, 43] a0 P P25) → (MW P25 a0) → (0 ≤ (pI P25 a0 0).toInt ∧ (pI P25 a0 0).toInt ≤ 0) → G E ({ frames := 7, cells := 0, slots := 0, locals := 448 } : Room) D cy 5 P25 0 0 25 [] [] := by
    intro P25 I25 X25 W25 hq25_0
    have h26585 := X25.at ha0
    refine g_iconst (v := (-1)) C dX12_chances_25 (by decide) ?_
    exact ret _ _ _ _ _ _ dX12_chances_26 rfl (by decide) (by decide) ⟨I25, X25, W25, trivial⟩
  refine g_aload_n C dX12_chances_0 rfl 0 rfl ?_
  refine g_iconst (v := 0) C dX12_chances_1 (by decide) ?_
  refine g_putI C fi_X12_1 rfl (ha0).1 (ha0).2 dX12_chances_2 ?_
  refine gqW (ks := [0]) (I.setI (rgOk.of rfl (by decide))) (EM.setI I (by decide)) (fun Y26586 Iy26587 Xy26588 w26589 => ?_)
  have w26589 : (pI Y26586 a0 0).toInt = 0 := w26589
  have W26590 := hW.keep I Xy26588 (by decide) (by decide) (by decide)
  have Xz26591 : EM [0, 28, 29, 30, 31, 33, 34, 35, 36, 37, 38, 43] a0 P Y26586 := Xy26588.mono (by decide)
  have h26592 := Xy26588.at ha0
  refine g_aload_n C dX12_chances_5 rfl 0 rfl ?_
  refine g_iload_n C dX12_chances_6 rfl 1 rfl ?_
  refine g_iload_n C dX12_chances_7 rfl 2 rfl ?_
  refine g_iload C dX12_chances_8 4 rfl ?_
  refine g_callVI (rest := []) C mv_X12_377 [.int a1, .int a2, .int a4] (s_X12_areChances Iy26587 W26590) (h26592).1 (h26592).2 rfl rfl (by decide) (Nat.le_of_ble_eq_true rfl) (by decide) dX12_chances_10 (fun r26593 Y26594 h26595 => ?_)
  obtain ⟨rfl, h26595⟩ := h26595
  obtain ⟨h26595, hi26596, hi26597⟩ := h26595
  have hi26596 : r26593.toInt = 0 ∨ (((0 : Int) ≤ a1.toInt ∧ a1.toInt ≤ (1 : Int)) ∧ ((1 : Int) ≤ a2.toInt ∧ a2.toInt ≤ (11 : Int)) ∧ ((0 : Int) ≤ a4.toInt ∧ a4.toInt ≤ (1 : Int))) := hi26596
  have h26595 : 0 ≤ r26593.toInt ∧ r26593.toInt ≤ 1 := h26595
  refine b_if_eq C 25 dX12_chances_13 (by decide) (fun h26598 => ?_) (fun h26598 => ?_)
  · have h26598 : r26593.toInt = 0 := congrArg Int32.toInt h26598
    clear hi26596
    refine g_lv (lv' := []) [] rfl ?_
    exact J25 Y26586 Iy26587 Xz26591 W26590 (by omega)
  · have h26598 : r26593.toInt ≠ 0 := ti_ne h26598
    replace hi26596 := hi26596.resolve_left (by omega)
    obtain ⟨b26599, e26600, h26601⟩ := Iy26587.fld (h26592) 10 13 2 rfl
    have hi26597 := (hi26597.resolve_left (by omega)) b26599 e26600
    have hi26597 : 0 < (pI Y26586 b26599 (a1.toInt.toNat)).toInt := hi26597
    have h26602 := Iy26587.arr e26600 rfl (a1.toInt.toNat)
    refine g_iload_n C dX12_chances_16 rfl 3 rfl ?_
    refine g_iconst (v := 0) C dX12_chances_17 (by decide) ?_
    refine g_iload_n C dX12_chances_18 rfl 2 rfl ?_
    refine g_callSI (b := 0) (ci := 0) (rest := []) C ms_X12_178 [.int a3, .int 0, .int a2] (s_X12_within Iy26587.1) rfl rfl (by decide) (Nat.le_of_ble_eq_true rfl) (by decide) dX12_chances_19 (fun r26603 Y26604 h26605 => ?_)
    obtain ⟨rfl, h26605⟩ := h26605
    obtain ⟨h26605, hi26606⟩ := h26605
    have hi26606 : r26603.toInt = 0 ∨ (0 ≤ a3.toInt ∧ a3.toInt ≤ a2.toInt) := hi26606
    have h26605 : 0 ≤ r26603.toInt ∧ r26603.toInt ≤ 1 := h26605
    refine b_if_ne C 27 dX12_chances_22 (by decide) (fun h26607 => ?_) (fun h26607 => ?_)
    · have h26607 : r26603.toInt ≠ 0 := ti_ne h26607
      replace hi26606 := hi26606.resolve_left (by omega)
      refine g_aload_n C dX12_chances_27 rfl 0 rfl ?_
      refine g_iload_n C dX12_chances_28 rfl 1 rfl ?_
      refine g_iload_n C dX12_chances_29 rfl 2 rfl ?_
      refine g_callVV (rest := []) C mv_X12_380 [.int a1, .int a2] (s_X12_keepsSets Iy26587 (by omega) (by omega) (fun b9 e9 => by rw [e26600] at e9; cases e9; show 1 ≤ (pI Y26586 b26599 (a1.toInt.toNat)).toInt ∧ (pI Y26586 b26599 (a1.toInt.toNat)).toInt ≤ 16; omega) W26590) (h26592).1 (h26592).2 rfl rfl (by decide) (Nat.le_of_ble_eq_true rfl) (by decide) dX12_chances_30 (fun Y26609 h26610 => ?_)
      obtain ⟨Iy26611, Xy26612, W26613⟩ := h26610
      have q26614 := Xy26612.keepF 0 (by decide)
      have q26615 := Xy26612.keepA e26600 (by decide) rfl (a1.toInt.toNat)
      have Xz26616 : EM [0, 28, 29, 30, 31, 33, 34, 35, 36, 37, 38, 43] a0 P Y26609 := EM.tr ha0 Xz26591 (Xy26612.mono (by decide))
      have e26617 := Xy26612.ref h26592 (by decide) e26600
      have h26618 := Xy26612.at h26592
      have h26619 := Xy26612.ar h26601
      refine g_aload_n C dX12_chances_33 rfl 0 rfl ?_
      refine g_iload_n C dX12_chances_34 rfl 1 rfl ?_
      refine g_iload_n C dX12_chances_35 rfl 2 rfl ?_
      refine g_iload_n C dX12_chances_36 rfl 3 rfl ?_
      refine g_iload C dX12_chances_37 4 rfl ?_
      refine g_callVI (rest := []) C mv_X12_383 [.int a1, .int a2, .int a3, .int a4] (s_X12_chancesOf Iy26611 (by omega) (by omega) (fun b9 e9 => by rw [e26617] at e9; cases e9; show 1 ≤ (pI Y26609 b26599 (a1.toInt.toNat)).toInt ∧ (pI Y26609 b26599 (a1.toInt.toNat)).toInt ≤ 16; omega) W26613) (h26618).1 (h26618).2 rfl rfl (by decide) (Nat.le_of_ble_eq_true rfl) (by decide) dX12_chances_39 (fun r26620 Y26621 h26622 => ?_)
      obtain ⟨Iy26623, Xy26624, W26625, h26622⟩ := h26622
      have q26626 := Xy26624.keepF 0 (by decide)
      have q26627 := Xy26624.keepA e26617 (by decide) rfl (a1.toInt.toNat)
      have Xz26628 : EM [0, 28, 29, 30, 31, 33, 34, 35, 36, 37, 38, 43] a0 P Y26621 := EM.tr ha0 Xz26616 (Xy26624.mono (by decide))
      have e26629 := Xy26624.ref h26618 (by decide) e26617
      have h26630 := Xy26624.at h26618
      have h26631 := Xy26624.ar h26619
      have h26622 : True := h26622
      exact ret _ _ _ _ _ _ dX12_chances_42 rfl (by decide) (by decide) ⟨Iy26623, Xz26628, W26625, trivial⟩
    · have h26607 : r26603.toInt = 0 := congrArg Int32.toInt h26607
      clear hi26606
      refine g_lv (lv' := []) [] rfl ?_
      exact J25 Y26586 Iy26587 Xz26591 W26590 (by omega)
theorem dX12_choices_0 : decode cX12_choices 0 = .ok (.iconst 1, 1) := by decide +kernel
theorem dX12_choices_1 : decode cX12_choices 1 = .ok (.istore_n 2, 1) := by decide +kernel
theorem dX12_choices_2 : decode cX12_choices 2 = .ok (.iconst 0, 1) := by decide +kernel
theorem dX12_choices_3 : decode cX12_choices 3 = .ok (.istore_n 3, 1) := by decide +kernel
theorem dX12_choices_4 : decode cX12_choices 4 = .ok (.iload_n 3, 1) := by decide +kernel
theorem dX12_choices_5 : decode cX12_choices 5 = .ok (.iload_n 1, 1) := by decide +kernel
theorem dX12_choices_6 : decode cX12_choices 6 = .ok (.if_icmp .ge 19, 3) := by decide +kernel
theorem dX12_choices_9 : decode cX12_choices 9 = .ok (.iload_n 2, 1) := by decide +kernel
theorem dX12_choices_10 : decode cX12_choices 10 = .ok (.iload_n 0, 1) := by decide +kernel
theorem dX12_choices_11 : decode cX12_choices 11 = .ok (.iload_n 3, 1) := by decide +kernel
theorem dX12_choices_12 : decode cX12_choices 12 = .ok (.isub, 1) := by decide +kernel
theorem dX12_choices_13 : decode cX12_choices 13 = .ok (.imul, 1) := by decide +kernel
theorem dX12_choices_14 : decode cX12_choices 14 = .ok (.iload_n 3, 1) := by decide +kernel
theorem dX12_choices_15 : decode cX12_choices 15 = .ok (.iconst 1, 1) := by decide +kernel
theorem dX12_choices_16 : decode cX12_choices 16 = .ok (.iadd, 1) := by decide +kernel
theorem dX12_choices_17 : decode cX12_choices 17 = .ok (.idiv, 1) := by decide +kernel
theorem dX12_choices_18 : decode cX12_choices 18 = .ok (.istore_n 2, 1) := by decide +kernel
theorem dX12_choices_19 : decode cX12_choices 19 = .ok (.iinc 3 1, 3) := by decide +kernel
theorem dX12_choices_22 : decode cX12_choices 22 = .ok (.goto (-18), 3) := by decide +kernel
theorem dX12_choices_25 : decode cX12_choices 25 = .ok (.iload_n 2, 1) := by decide +kernel
theorem dX12_choices_26 : decode cX12_choices 26 = .ok (.ireturn, 1) := by decide +kernel
set_option maxHeartbeats 4000000 in
set_option maxRecDepth 100000 in
theorem s_X12_choices {P : PP} {a0 : Int32} {a1 : Int32} (I : IV P) (ha0 : 0 ≤ a0.toInt ∧ a0.toInt ≤ 11) (ha1 : 0 ≤ a1.toInt ∧ a1.toInt ≤ 11) : CtrI yX12_choices cX12_choices 4 (some Jvm.ClassFile.FieldType.int) ({ frames := 1, cells := 0, slots := 0, locals := 64 } : Room) 0 0 P [.int a0, .int a1] (fun r P2 => P = P2 ∧ (True)) := by
  refine enI (lv := [(0, .int a0), (1, .int a1)]) (by decide) (Nat.le_of_ble_eq_true rfl) rfl (fun E D cy C Ci0 ret => ?_)
  have J4 : ∀ (n4 : Nat) (v4_2 : Int32) (v4_3 : Int32), (11 - v4_3.toInt).toNat < n4 → (0 ≤ v4_3.toInt ∧ v4_3.toInt ≤ 11) → G E ({ frames := 1, cells := 0, slots := 0, locals := 64 } : Room) D cy 4 P 0 0 4 [(0, .int a0), (1, .int a1), (2, .int v4_2), (3, .int v4_3)] [] := by
    intro n4
    induction n4 with
    | zero => intro v4_2 v4_3 hm4 hv4_3; omega
    | succ n4 ih4 =>
      intro v4_2 v4_3 hm4 hv4_3
      refine g_iload_n C dX12_choices_4 rfl 3 rfl ?_
      refine g_iload_n C dX12_choices_5 rfl 1 rfl ?_
      refine b_icmp_ge C 25 dX12_choices_6 (by decide) (fun h26731 => ?_) (fun h26731 => ?_)
      · have h26731 : a1.toInt ≤ v4_3.toInt := h26731
        refine g_iload_n C dX12_choices_25 rfl 2 rfl ?_
        exact ret _ _ _ _ _ _ dX12_choices_26 rfl (by decide) (by decide) ⟨rfl, trivial⟩
      · have h26731 : v4_3.toInt < a1.toInt := h26731
        refine g_iload_n C dX12_choices_9 rfl 2 rfl ?_
        refine g_iload_n C dX12_choices_10 rfl 0 rfl ?_
        refine g_iload_n C dX12_choices_11 rfl 3 rfl ?_
        refine s_isub C dX12_choices_12 (by show -2147483648 ≤ a0.toInt - v4_3.toInt ∧ a0.toInt - v4_3.toInt ≤ 2147483647; omega) (fun z26732 h26733 => ?_)
        have h26733 : z26732.toInt = a0.toInt - v4_3.toInt := h26733
        refine a_imul C dX12_choices_13 (fun z26734 => ?_)
        refine g_iload_n C dX12_choices_14 rfl 3 rfl ?_
        refine g_iconst (v := 1) C dX12_choices_15 (by decide) ?_
        refine s_iadd C dX12_choices_16 (by show -2147483648 ≤ v4_3.toInt + 1 ∧ v4_3.toInt + 1 ≤ 2147483647; omega) (fun z26736 h26737 => ?_)
        have h26737 : z26736.toInt = v4_3.toInt + 1 := h26737
        refine a_idiv C dX12_choices_17 (by show z26736.toInt ≠ 0; omega) (fun z26738 => ?_)
        refine g_istore_n (lv' := [(2, .int z26738), (0, .int a0), (1, .int a1), (3, .int v4_3)]) C dX12_choices_18 rfl (by decide) rfl ?_
        refine s_iinc (lv0 := [(2, .int z26738), (0, .int a0), (1, .int a1)]) (m := 1) C dX12_choices_19 3 rfl (by decide) rfl (by decide) (by omega) (fun z26740 h26741 => ?_)
        have h26741 : z26740.toInt = v4_3.toInt + 1 := h26741
        refine g_goto C 4 dX12_choices_22 (by decide) ?_
        refine g_lv (lv' := [(0, .int a0), (1, .int a1), (2, .int z26738), (3, .int z26740)]) [2, 3, 1, 0] rfl ?_
        exact ih4 z26738 z26740 (by omega) (by omega)
  refine g_iconst (v := 1) C dX12_choices_0 (by decide) ?_
  refine g_istore_n (lv' := [(2, .int 1), (0, .int a0), (1, .int a1)]) C dX12_choices_1 rfl (by decide) rfl ?_
  refine g_iconst (v := 0) C dX12_choices_2 (by decide) ?_
  refine g_istore_n (lv' := [(3, .int 0), (2, .int 1), (0, .int a0), (1, .int a1)]) C dX12_choices_3 rfl (by decide) rfl ?_
  refine g_lv (lv' := [(0, .int a0), (1, .int a1), (2, .int 1), (3, .int 0)]) [2, 3, 1, 0] rfl ?_
  exact J4 _ 1 0 (Nat.lt_succ_self _) (by decide)
theorem dX12_comes_0 : decode cX12_comes 0 = .ok (.aload_n 0, 1) := by decide +kernel
theorem dX12_comes_1 : decode cX12_comes 1 = .ok (.iconst 0, 1) := by decide +kernel
theorem dX12_comes_2 : decode cX12_comes 2 = .ok (.putfield 1, 3) := by decide +kernel
theorem dX12_comes_5 : decode cX12_comes 5 = .ok (.iload_n 1, 1) := by decide +kernel
theorem dX12_comes_6 : decode cX12_comes 6 = .ok (.invokestatic 278, 3) := by decide +kernel
theorem dX12_comes_9 : decode cX12_comes 9 = .ok (.ifCond .eq 39, 3) := by decide +kernel
theorem dX12_comes_12 : decode cX12_comes 12 = .ok (.aload_n 0, 1) := by decide +kernel
theorem dX12_comes_13 : decode cX12_comes 13 = .ok (.iload_n 2, 1) := by decide +kernel
theorem dX12_comes_14 : decode cX12_comes 14 = .ok (.invokevirtual 192, 3) := by decide +kernel
theorem dX12_comes_17 : decode cX12_comes 17 = .ok (.ifCond .eq 31, 3) := by decide +kernel
theorem dX12_comes_20 : decode cX12_comes 20 = .ok (.iload_n 3, 1) := by decide +kernel
theorem dX12_comes_21 : decode cX12_comes 21 = .ok (.invokestatic 258, 3) := by decide +kernel
theorem dX12_isNumber_0 : decode cX12_isNumber 0 = .ok (.iload_n 0, 1) := by decide +kernel
theorem dX12_isNumber_1 : decode cX12_isNumber 1 = .ok (.iconst 0, 1) := by decide +kernel
theorem dX12_isNumber_2 : decode cX12_isNumber 2 = .ok (.sipush 9999, 3) := by decide +kernel
theorem dX12_isNumber_5 : decode cX12_isNumber 5 = .ok (.invokestatic 178, 3) := by decide +kernel
theorem dX12_isNumber_8 : decode cX12_isNumber 8 = .ok (.ireturn, 1) := by decide +kernel
set_option maxHeartbeats 4000000 in
set_option maxRecDepth 100000 in
theorem s_X12_isNumber {P : PP} {a0 : Int32} (I : IV P) : CtrI yX12_isNumber cX12_isNumber 1 (some Jvm.ClassFile.FieldType.boolean) ({ frames := 2, cells := 0, slots := 0, locals := 128 } : Room) 0 0 P [.int a0] (fun r P2 => P = P2 ∧ (0 ≤ r.toInt ∧ r.toInt ≤ 1) ∧ (r.toInt = 0 ∨ (((0 : Int) ≤ a0.toInt ∧ a0.toInt ≤ (9999 : Int))))) := by
  refine enI (lv := [(0, .int a0)]) (by decide) (Nat.le_of_ble_eq_true rfl) rfl (fun E D cy C Ci0 ret => ?_)
  refine g_iload_n C dX12_isNumber_0 rfl 0 rfl ?_
  refine g_iconst (v := 0) C dX12_isNumber_1 (by decide) ?_
  refine g_sipush (v := 9999) C dX12_isNumber_2 (by decide) ?_
  refine g_callSI (b := 0) (ci := 0) (rest := []) C ms_X12_178 [.int a0, .int 0, .int 9999] (s_X12_within I) rfl rfl (by decide) (Nat.le_of_ble_eq_true rfl) (by decide) dX12_isNumber_5 (fun r26768 Y26769 h26770 => ?_)
  obtain ⟨rfl, h26770⟩ := h26770
  obtain ⟨h26770, hi26771⟩ := h26770
  have hi26771 : r26768.toInt = 0 ∨ (0 ≤ a0.toInt ∧ a0.toInt ≤ 9999) := hi26771
  have h26770 : 0 ≤ r26768.toInt ∧ r26768.toInt ≤ 1 := h26770
  exact ret _ _ _ _ _ _ dX12_isNumber_8 (nar_b (b01 (by omega))) (by decide) (by decide) ⟨rfl, (by omega), hi26771.imp id (fun h9 => by omega)⟩
theorem dX12_comes_24 : decode cX12_comes 24 = .ok (.ifCond .eq 24, 3) := by decide +kernel
theorem dX12_comes_27 : decode cX12_comes 27 = .ok (.iload 4, 2) := by decide +kernel
theorem dX12_comes_29 : decode cX12_comes 29 = .ok (.iconst 1, 1) := by decide +kernel
theorem dX12_comes_30 : decode cX12_comes 30 = .ok (.iconst 3, 1) := by decide +kernel
theorem dX12_comes_31 : decode cX12_comes 31 = .ok (.invokestatic 178, 3) := by decide +kernel
theorem dX12_comes_34 : decode cX12_comes 34 = .ok (.ifCond .eq 14, 3) := by decide +kernel
theorem dX12_comes_37 : decode cX12_comes 37 = .ok (.aload_n 0, 1) := by decide +kernel
theorem dX12_comes_38 : decode cX12_comes 38 = .ok (.getfield 69, 3) := by decide +kernel
theorem dX12_comes_41 : decode cX12_comes 41 = .ok (.iload_n 1, 1) := by decide +kernel
theorem dX12_comes_42 : decode cX12_comes 42 = .ok (.iaload, 1) := by decide +kernel
theorem dX12_comes_43 : decode cX12_comes 43 = .ok (.bipush 40, 2) := by decide +kernel
theorem dX12_comes_45 : decode cX12_comes 45 = .ok (.if_icmp .ne 5, 3) := by decide +kernel
theorem dX12_comes_50 : decode cX12_comes 50 = .ok (.aload_n 0, 1) := by decide +kernel
theorem dX12_comes_51 : decode cX12_comes 51 = .ok (.iload_n 2, 1) := by decide +kernel
theorem dX12_comes_52 : decode cX12_comes 52 = .ok (.aload_n 0, 1) := by decide +kernel
theorem dX12_comes_53 : decode cX12_comes 53 = .ok (.iload_n 2, 1) := by decide +kernel
theorem dX12_comes_54 : decode cX12_comes 54 = .ok (.iload_n 3, 1) := by decide +kernel
theorem dX12_comes_55 : decode cX12_comes 55 = .ok (.invokevirtual 261, 3) := by decide +kernel
theorem dX12_comes_58 : decode cX12_comes 58 = .ok (.invokevirtual 223, 3) := by decide +kernel
theorem dX12_sumOf_0 : decode cX12_sumOf 0 = .ok (.iconst 0, 1) := by decide +kernel
theorem dX12_sumOf_1 : decode cX12_sumOf 1 = .ok (.istore_n 3, 1) := by decide +kernel
theorem dX12_sumOf_2 : decode cX12_sumOf 2 = .ok (.iconst 0, 1) := by decide +kernel
theorem dX12_sumOf_3 : decode cX12_sumOf 3 = .ok (.istore 4, 2) := by decide +kernel
theorem dX12_sumOf_5 : decode cX12_sumOf 5 = .ok (.iload 4, 2) := by decide +kernel
theorem dX12_sumOf_7 : decode cX12_sumOf 7 = .ok (.aload_n 0, 1) := by decide +kernel
theorem dX12_sumOf_8 : decode cX12_sumOf 8 = .ok (.getfield 45, 3) := by decide +kernel
theorem dX12_sumOf_11 : decode cX12_sumOf 11 = .ok (.iload_n 1, 1) := by decide +kernel
theorem dX12_sumOf_12 : decode cX12_sumOf 12 = .ok (.iaload, 1) := by decide +kernel
theorem dX12_sumOf_13 : decode cX12_sumOf 13 = .ok (.if_icmp .ge 38, 3) := by decide +kernel
theorem dX12_sumOf_16 : decode cX12_sumOf 16 = .ok (.iload_n 3, 1) := by decide +kernel
theorem dX12_sumOf_17 : decode cX12_sumOf 17 = .ok (.iload_n 2, 1) := by decide +kernel
theorem dX12_sumOf_18 : decode cX12_sumOf 18 = .ok (.iload 4, 2) := by decide +kernel
theorem dX12_sumOf_20 : decode cX12_sumOf 20 = .ok (.ishr, 1) := by decide +kernel
theorem dX12_sumOf_21 : decode cX12_sumOf 21 = .ok (.iconst 1, 1) := by decide +kernel
theorem dX12_sumOf_22 : decode cX12_sumOf 22 = .ok (.iand, 1) := by decide +kernel
theorem dX12_sumOf_23 : decode cX12_sumOf 23 = .ok (.iconst 1, 1) := by decide +kernel
theorem dX12_sumOf_24 : decode cX12_sumOf 24 = .ok (.if_icmp .ne 18, 3) := by decide +kernel
theorem dX12_sumOf_27 : decode cX12_sumOf 27 = .ok (.aload_n 0, 1) := by decide +kernel
theorem dX12_sumOf_28 : decode cX12_sumOf 28 = .ok (.getfield 48, 3) := by decide +kernel
theorem dX12_sumOf_31 : decode cX12_sumOf 31 = .ok (.bipush 16, 2) := by decide +kernel
theorem dX12_sumOf_33 : decode cX12_sumOf 33 = .ok (.iload_n 1, 1) := by decide +kernel
theorem dX12_sumOf_34 : decode cX12_sumOf 34 = .ok (.imul, 1) := by decide +kernel
theorem dX12_sumOf_35 : decode cX12_sumOf 35 = .ok (.iload 4, 2) := by decide +kernel
theorem dX12_sumOf_37 : decode cX12_sumOf 37 = .ok (.iadd, 1) := by decide +kernel
theorem dX12_sumOf_38 : decode cX12_sumOf 38 = .ok (.iaload, 1) := by decide +kernel
theorem dX12_sumOf_39 : decode cX12_sumOf 39 = .ok (.goto 4, 3) := by decide +kernel
theorem dX12_sumOf_42 : decode cX12_sumOf 42 = .ok (.iconst 0, 1) := by decide +kernel
theorem dX12_sumOf_43 : decode cX12_sumOf 43 = .ok (.ixor, 1) := by decide +kernel
theorem dX12_sumOf_44 : decode cX12_sumOf 44 = .ok (.istore_n 3, 1) := by decide +kernel
theorem dX12_sumOf_45 : decode cX12_sumOf 45 = .ok (.iinc 4 1, 3) := by decide +kernel
theorem dX12_sumOf_48 : decode cX12_sumOf 48 = .ok (.goto (-43), 3) := by decide +kernel
theorem dX12_sumOf_51 : decode cX12_sumOf 51 = .ok (.iconst 0, 1) := by decide +kernel
theorem dX12_sumOf_52 : decode cX12_sumOf 52 = .ok (.istore 4, 2) := by decide +kernel
theorem dX12_sumOf_54 : decode cX12_sumOf 54 = .ok (.iload 4, 2) := by decide +kernel
theorem dX12_sumOf_56 : decode cX12_sumOf 56 = .ok (.aload_n 0, 1) := by decide +kernel
theorem dX12_sumOf_57 : decode cX12_sumOf 57 = .ok (.getfield 60, 3) := by decide +kernel
theorem dX12_sumOf_60 : decode cX12_sumOf 60 = .ok (.iload_n 1, 1) := by decide +kernel
theorem dX12_sumOf_61 : decode cX12_sumOf 61 = .ok (.iaload, 1) := by decide +kernel
theorem dX12_sumOf_62 : decode cX12_sumOf 62 = .ok (.if_icmp .ge 85, 3) := by decide +kernel
theorem dX12_sumOf_65 : decode cX12_sumOf 65 = .ok (.iconst 0, 1) := by decide +kernel
theorem dX12_sumOf_66 : decode cX12_sumOf 66 = .ok (.istore 5, 2) := by decide +kernel
theorem dX12_sumOf_68 : decode cX12_sumOf 68 = .ok (.iload 5, 2) := by decide +kernel
theorem dX12_sumOf_70 : decode cX12_sumOf 70 = .ok (.aload_n 0, 1) := by decide +kernel
theorem dX12_sumOf_71 : decode cX12_sumOf 71 = .ok (.getfield 45, 3) := by decide +kernel
theorem dX12_sumOf_74 : decode cX12_sumOf 74 = .ok (.iload_n 1, 1) := by decide +kernel
theorem dX12_sumOf_75 : decode cX12_sumOf 75 = .ok (.iaload, 1) := by decide +kernel
theorem dX12_sumOf_76 : decode cX12_sumOf 76 = .ok (.if_icmp .ge 65, 3) := by decide +kernel
theorem dX12_sumOf_79 : decode cX12_sumOf 79 = .ok (.iload_n 2, 1) := by decide +kernel
theorem dX12_sumOf_80 : decode cX12_sumOf 80 = .ok (.aload_n 0, 1) := by decide +kernel
theorem dX12_sumOf_81 : decode cX12_sumOf 81 = .ok (.getfield 45, 3) := by decide +kernel
theorem dX12_sumOf_84 : decode cX12_sumOf 84 = .ok (.iload_n 1, 1) := by decide +kernel
theorem dX12_sumOf_85 : decode cX12_sumOf 85 = .ok (.iaload, 1) := by decide +kernel
theorem dX12_sumOf_86 : decode cX12_sumOf 86 = .ok (.iload 4, 2) := by decide +kernel
theorem dX12_sumOf_88 : decode cX12_sumOf 88 = .ok (.iadd, 1) := by decide +kernel
theorem dX12_sumOf_89 : decode cX12_sumOf 89 = .ok (.ishr, 1) := by decide +kernel
theorem dX12_sumOf_90 : decode cX12_sumOf 90 = .ok (.iconst 1, 1) := by decide +kernel
theorem dX12_sumOf_91 : decode cX12_sumOf 91 = .ok (.iand, 1) := by decide +kernel
theorem dX12_sumOf_92 : decode cX12_sumOf 92 = .ok (.iconst 1, 1) := by decide +kernel
theorem dX12_sumOf_93 : decode cX12_sumOf 93 = .ok (.if_icmp .ne 48, 3) := by decide +kernel
theorem dX12_sumOf_96 : decode cX12_sumOf 96 = .ok (.iload_n 3, 1) := by decide +kernel
theorem dX12_sumOf_97 : decode cX12_sumOf 97 = .ok (.aload_n 0, 1) := by decide +kernel
theorem dX12_sumOf_98 : decode cX12_sumOf 98 = .ok (.getfield 63, 3) := by decide +kernel
theorem dX12_sumOf_101 : decode cX12_sumOf 101 = .ok (.iconst 4, 1) := by decide +kernel
theorem dX12_sumOf_102 : decode cX12_sumOf 102 = .ok (.iload_n 1, 1) := by decide +kernel
theorem dX12_sumOf_103 : decode cX12_sumOf 103 = .ok (.imul, 1) := by decide +kernel
theorem dX12_sumOf_104 : decode cX12_sumOf 104 = .ok (.iload 4, 2) := by decide +kernel
theorem dX12_sumOf_106 : decode cX12_sumOf 106 = .ok (.iadd, 1) := by decide +kernel
theorem dX12_sumOf_107 : decode cX12_sumOf 107 = .ok (.iaload, 1) := by decide +kernel
theorem dX12_sumOf_108 : decode cX12_sumOf 108 = .ok (.iload 5, 2) := by decide +kernel
theorem dX12_sumOf_110 : decode cX12_sumOf 110 = .ok (.ishr, 1) := by decide +kernel
theorem dX12_sumOf_111 : decode cX12_sumOf 111 = .ok (.iconst 1, 1) := by decide +kernel
theorem dX12_sumOf_112 : decode cX12_sumOf 112 = .ok (.iand, 1) := by decide +kernel
theorem dX12_sumOf_113 : decode cX12_sumOf 113 = .ok (.iconst 1, 1) := by decide +kernel
theorem dX12_sumOf_114 : decode cX12_sumOf 114 = .ok (.if_icmp .ne 18, 3) := by decide +kernel
theorem dX12_sumOf_117 : decode cX12_sumOf 117 = .ok (.aload_n 0, 1) := by decide +kernel
theorem dX12_sumOf_118 : decode cX12_sumOf 118 = .ok (.getfield 48, 3) := by decide +kernel
theorem dX12_sumOf_121 : decode cX12_sumOf 121 = .ok (.bipush 16, 2) := by decide +kernel
theorem dX12_sumOf_123 : decode cX12_sumOf 123 = .ok (.iload_n 1, 1) := by decide +kernel
theorem dX12_sumOf_124 : decode cX12_sumOf 124 = .ok (.imul, 1) := by decide +kernel
theorem dX12_sumOf_125 : decode cX12_sumOf 125 = .ok (.iload 5, 2) := by decide +kernel
theorem dX12_sumOf_127 : decode cX12_sumOf 127 = .ok (.iadd, 1) := by decide +kernel
theorem dX12_sumOf_128 : decode cX12_sumOf 128 = .ok (.iaload, 1) := by decide +kernel
theorem dX12_sumOf_129 : decode cX12_sumOf 129 = .ok (.goto 4, 3) := by decide +kernel
theorem dX12_sumOf_132 : decode cX12_sumOf 132 = .ok (.iconst 0, 1) := by decide +kernel
theorem dX12_sumOf_133 : decode cX12_sumOf 133 = .ok (.ixor, 1) := by decide +kernel
theorem dX12_sumOf_134 : decode cX12_sumOf 134 = .ok (.istore_n 3, 1) := by decide +kernel
theorem dX12_sumOf_135 : decode cX12_sumOf 135 = .ok (.iinc 5 1, 3) := by decide +kernel
theorem dX12_sumOf_138 : decode cX12_sumOf 138 = .ok (.goto (-70), 3) := by decide +kernel
theorem dX12_sumOf_141 : decode cX12_sumOf 141 = .ok (.iinc 4 1, 3) := by decide +kernel
theorem dX12_sumOf_144 : decode cX12_sumOf 144 = .ok (.goto (-90), 3) := by decide +kernel
theorem dX12_sumOf_147 : decode cX12_sumOf 147 = .ok (.iload_n 3, 1) := by decide +kernel
theorem dX12_sumOf_148 : decode cX12_sumOf 148 = .ok (.ireturn, 1) := by decide +kernel
set_option maxHeartbeats 4000000 in
set_option maxRecDepth 100000 in
theorem s_X12_sumOf {P : PP} {a0 : Nat} {a1 : Int32} {a2 : Int32} (I : IM P a0) (ha1 : 0 ≤ a1.toInt ∧ a1.toInt ≤ 1) (hW : MW P a0) : CtrI yX12_sumOf cX12_sumOf 6 (some Jvm.ClassFile.FieldType.int) ({ frames := 1, cells := 0, slots := 0, locals := 64 } : Room) 0 0 P [.ref a0, .int a1, .int a2] (fun r P2 => P = P2 ∧ (True)) := by
  refine enI (lv := [(0, .ref a0), (1, .int a1), (2, .int a2)]) (by decide) (Nat.le_of_ble_eq_true rfl) rfl (fun E D cy C Ci0 ret => ?_)
  have ha0 := I.2.1
  have J54 : ∀ (n54 : Nat) (v54_3 : Int32) (v54_4 : Int32), (4 - v54_4.toInt).toNat < n54 → (0 ≤ v54_4.toInt ∧ v54_4.toInt ≤ 4) → G E ({ frames := 1, cells := 0, slots := 0, locals := 64 } : Room) D cy 6 P 0 0 54 [(0, .ref a0), (1, .int a1), (2, .int a2), (3, .int v54_3), (4, .int v54_4)] [] := by
    intro n54
    induction n54 with
    | zero => intro v54_3 v54_4 hm54 hv54_4; omega
    | succ n54 ih54 =>
      intro v54_3 v54_4 hm54 hv54_4
      have J141 : ∀ (v141_3 : Int32), (0 ≤ v54_4.toInt ∧ v54_4.toInt ≤ 3) → (∀ b, pR P a0 15 = some b → 1 ≤ (pI P b (a1.toInt.toNat)).toInt ∧ (pI P b (a1.toInt.toNat)).toInt ≤ 4) → G E ({ frames := 1, cells := 0, slots := 0, locals := 64 } : Room) D cy 6 P 0 0 141 [(0, .ref a0), (1, .int a1), (2, .int a2), (3, .int v141_3), (4, .int v54_4)] [] := by
        intro v141_3 hv141_4 hq141_0
        obtain ⟨b27748, e27749, h27750⟩ := I.fld (ha0) 15 13 3 rfl
        have hq141_0 := hq141_0 b27748 e27749
        refine s_iinc (lv0 := [(0, .ref a0), (1, .int a1), (2, .int a2), (3, .int v141_3)]) (m := 1) C dX12_sumOf_141 4 rfl (by decide) rfl (by decide) (by omega) (fun z27751 h27752 => ?_)
        have h27752 : z27751.toInt = v54_4.toInt + 1 := h27752
        refine g_goto C 54 dX12_sumOf_144 (by decide) ?_
        refine g_lv (lv' := [(0, .ref a0), (1, .int a1), (2, .int a2), (3, .int v141_3), (4, .int z27751)]) [1, 2, 3, 4, 0] rfl ?_
        exact ih54 v141_3 z27751 (by omega) (by omega)
      have J68 : ∀ (n68 : Nat) (v68_3 : Int32) (v68_5 : Int32), (16 - v68_5.toInt).toNat < n68 → (0 ≤ v54_4.toInt ∧ v54_4.toInt ≤ 3) → (0 ≤ v68_5.toInt ∧ v68_5.toInt ≤ 16) → (∀ b, pR P a0 15 = some b → 1 ≤ (pI P b (a1.toInt.toNat)).toInt ∧ (pI P b (a1.toInt.toNat)).toInt ≤ 4) → G E ({ frames := 1, cells := 0, slots := 0, locals := 64 } : Room) D cy 6 P 0 0 68 [(0, .ref a0), (1, .int a1), (2, .int a2), (3, .int v68_3), (4, .int v54_4), (5, .int v68_5)] [] := by
        intro n68
        induction n68 with
        | zero => intro v68_3 v68_5 hm68 hv68_4 hv68_5 hq68_0; omega
        | succ n68 ih68 =>
          intro v68_3 v68_5 hm68 hv68_4 hv68_5 hq68_0
          obtain ⟨b27753, e27754, h27755⟩ := I.fld (ha0) 15 13 3 rfl
          have hq68_0 := hq68_0 b27753 e27754
          have J133 : ∀ (v133_s0 : Int32), (0 ≤ v54_4.toInt ∧ v54_4.toInt ≤ 3) → (0 ≤ v68_5.toInt ∧ v68_5.toInt ≤ 15) → (∀ b, pR P a0 10 = some b → 1 ≤ (pI P b (a1.toInt.toNat)).toInt ∧ (pI P b (a1.toInt.toNat)).toInt ≤ 16) → (∀ b, pR P a0 15 = some b → 1 ≤ (pI P b (a1.toInt.toNat)).toInt ∧ (pI P b (a1.toInt.toNat)).toInt ≤ 4) → G E ({ frames := 1, cells := 0, slots := 0, locals := 64 } : Room) D cy 6 P 0 0 133 [(0, .ref a0), (1, .int a1), (2, .int a2), (4, .int v54_4), (5, .int v68_5)] [.int v133_s0, .int v68_3] := by
            intro v133_s0 hv133_4 hv133_5 hq133_0 hq133_1
            obtain ⟨b27756, e27757, h27758⟩ := I.fld (ha0) 10 13 2 rfl
            have hq133_0 := hq133_0 b27756 e27757
            obtain ⟨b27759, e27760, h27761⟩ := I.fld (ha0) 15 13 3 rfl
            have hq133_1 := hq133_1 b27759 e27760
            refine a_ixor C dX12_sumOf_133 (fun z27762 => ?_)
            refine g_istore_n (lv' := [(3, .int z27762), (0, .ref a0), (1, .int a1), (2, .int a2), (4, .int v54_4), (5, .int v68_5)]) C dX12_sumOf_134 rfl (by decide) rfl ?_
            refine s_iinc (lv0 := [(3, .int z27762), (0, .ref a0), (1, .int a1), (2, .int a2), (4, .int v54_4)]) (m := 1) C dX12_sumOf_135 5 rfl (by decide) rfl (by decide) (by omega) (fun z27764 h27765 => ?_)
            have h27765 : z27764.toInt = v68_5.toInt + 1 := h27765
            refine g_goto C 68 dX12_sumOf_138 (by decide) ?_
            refine g_lv (lv' := [(0, .ref a0), (1, .int a1), (2, .int a2), (3, .int z27762), (4, .int v54_4), (5, .int z27764)]) [2, 3, 4, 1, 5, 0] rfl ?_
            exact ih68 z27762 z27764 (by omega) (by omega) (by omega) (fun b9 e9 => by rw [e27760] at e9; cases e9; omega)
          refine g_iload C dX12_sumOf_68 5 rfl ?_
          refine g_aload_n C dX12_sumOf_70 rfl 0 rfl ?_
          obtain ⟨b27766, e27767, h27768⟩ := I.fld (ha0) 10 13 2 rfl
          refine g_getR C fi_X12_45 rfl e27767 (ha0).1 (ha0).2 dX12_sumOf_71 ?_
          refine g_iload_n C dX12_sumOf_74 rfl 1 rfl ?_
          refine g_iald (j := (a1.toInt.toNat)) C h27768.1 h27768.2.1 (ix_in h27768.2.2 (by omega)) dX12_sumOf_75 ?_
          have h27769 := I.arr e27767 rfl (a1.toInt.toNat)
          refine b_icmp_ge C 141 dX12_sumOf_76 (by decide) (fun h27770 => ?_) (fun h27770 => ?_)
          · have h27770 : (pI P b27766 (a1.toInt.toNat)).toInt ≤ v68_5.toInt := h27770
            refine g_lv (lv' := [(0, .ref a0), (1, .int a1), (2, .int a2), (3, .int v68_3), (4, .int v54_4)]) [0, 1, 2, 3, 4] rfl ?_
            exact J141 v68_3 (by omega) (fun b9 e9 => by rw [e27754] at e9; cases e9; omega)
          · have h27770 : v68_5.toInt < (pI P b27766 (a1.toInt.toNat)).toInt := h27770
            refine g_iload_n C dX12_sumOf_79 rfl 2 rfl ?_
            refine g_aload_n C dX12_sumOf_80 rfl 0 rfl ?_
            refine g_getR C fi_X12_45 rfl e27767 (ha0).1 (ha0).2 dX12_sumOf_81 ?_
            refine g_iload_n C dX12_sumOf_84 rfl 1 rfl ?_
            refine g_iald (j := (a1.toInt.toNat)) C h27768.1 h27768.2.1 (ix_in h27768.2.2 (by omega)) dX12_sumOf_85 ?_
            refine g_iload C dX12_sumOf_86 4 rfl ?_
            refine s_iadd C dX12_sumOf_88 (by show -2147483648 ≤ (pI P b27766 (a1.toInt.toNat)).toInt + v54_4.toInt ∧ (pI P b27766 (a1.toInt.toNat)).toInt + v54_4.toInt ≤ 2147483647; omega) (fun z27771 h27772 => ?_)
            have h27772 : z27771.toInt = (pI P b27766 (a1.toInt.toNat)).toInt + v54_4.toInt := h27772
            refine a_ishr C dX12_sumOf_89 (fun z27773 => ?_)
            refine g_iconst (v := 1) C dX12_sumOf_90 (by decide) ?_
            refine s_iand C dX12_sumOf_91 (by show 0 ≤ 1; omega) (fun z27775 h27776 => ?_)
            have h27776 : 0 ≤ z27775.toInt ∧ z27775.toInt ≤ 1 := h27776
            refine g_iconst (v := 1) C dX12_sumOf_92 (by decide) ?_
            refine b_icmp_ne C 141 dX12_sumOf_93 (by decide) (fun h27777 => ?_) (fun h27777 => ?_)
            · have h27777 : z27775.toInt ≠ 1 := ti_ne h27777
              refine g_lv (lv' := [(0, .ref a0), (1, .int a1), (2, .int a2), (3, .int v68_3), (4, .int v54_4)]) [0, 1, 2, 3, 4] rfl ?_
              exact J141 v68_3 (by omega) (fun b9 e9 => by rw [e27754] at e9; cases e9; omega)
            · have h27777 : z27775.toInt = 1 := congrArg Int32.toInt h27777
              refine g_iload_n C dX12_sumOf_96 rfl 3 rfl ?_
              refine g_aload_n C dX12_sumOf_97 rfl 0 rfl ?_
              obtain ⟨b27778, e27779, h27780⟩ := I.fld (ha0) 16 13 12 rfl
              refine g_getR C fi_X12_63 rfl e27779 (ha0).1 (ha0).2 dX12_sumOf_98 ?_
              refine g_iconst (v := 4) C dX12_sumOf_101 (by decide) ?_
              refine g_iload_n C dX12_sumOf_102 rfl 1 rfl ?_
              refine s_imul C dX12_sumOf_103 (by show -2147483648 ≤ 4 * a1.toInt ∧ 4 * a1.toInt ≤ 2147483647; omega) (fun z27781 h27782 => ?_)
              have h27782 : z27781.toInt = 4 * a1.toInt := h27782
              refine g_iload C dX12_sumOf_104 4 rfl ?_
              refine s_iadd C dX12_sumOf_106 (by show -2147483648 ≤ z27781.toInt + v54_4.toInt ∧ z27781.toInt + v54_4.toInt ≤ 2147483647; omega) (fun z27783 h27784 => ?_)
              have h27784 : z27783.toInt = z27781.toInt + v54_4.toInt := h27784
              refine g_iald (j := (z27783.toInt.toNat)) C h27780.1 h27780.2.1 (ix_in h27780.2.2 (by omega)) dX12_sumOf_107 ?_
              refine g_iload C dX12_sumOf_108 5 rfl ?_
              refine a_ishr C dX12_sumOf_110 (fun z27785 => ?_)
              refine g_iconst (v := 1) C dX12_sumOf_111 (by decide) ?_
              refine s_iand C dX12_sumOf_112 (by show 0 ≤ 1; omega) (fun z27787 h27788 => ?_)
              have h27788 : 0 ≤ z27787.toInt ∧ z27787.toInt ≤ 1 := h27788
              refine g_iconst (v := 1) C dX12_sumOf_113 (by decide) ?_
              refine b_icmp_ne C 132 dX12_sumOf_114 (by decide) (fun h27789 => ?_) (fun h27789 => ?_)
              · have h27789 : z27787.toInt ≠ 1 := ti_ne h27789
                refine g_iconst (v := 0) C dX12_sumOf_132 (by decide) ?_
                refine g_lv (lv' := [(0, .ref a0), (1, .int a1), (2, .int a2), (4, .int v54_4), (5, .int v68_5)]) [0, 1, 2, 4, 5] rfl ?_
                exact J133 0 (by omega) (by omega) (fun b9 e9 => by rw [e27767] at e9; cases e9; omega) (fun b9 e9 => by rw [e27754] at e9; cases e9; omega)
              · have h27789 : z27787.toInt = 1 := congrArg Int32.toInt h27789
                refine g_aload_n C dX12_sumOf_117 rfl 0 rfl ?_
                obtain ⟨b27790, e27791, h27792⟩ := I.fld (ha0) 11 13 32 rfl
                refine g_getR C fi_X12_48 rfl e27791 (ha0).1 (ha0).2 dX12_sumOf_118 ?_
                refine g_bipush (v := 16) C dX12_sumOf_121 (by decide) ?_
                refine g_iload_n C dX12_sumOf_123 rfl 1 rfl ?_
                refine s_imul C dX12_sumOf_124 (by show -2147483648 ≤ 16 * a1.toInt ∧ 16 * a1.toInt ≤ 2147483647; omega) (fun z27793 h27794 => ?_)
                have h27794 : z27793.toInt = 16 * a1.toInt := h27794
                refine g_iload C dX12_sumOf_125 5 rfl ?_
                refine s_iadd C dX12_sumOf_127 (by show -2147483648 ≤ z27793.toInt + v68_5.toInt ∧ z27793.toInt + v68_5.toInt ≤ 2147483647; omega) (fun z27795 h27796 => ?_)
                have h27796 : z27795.toInt = z27793.toInt + v68_5.toInt := h27796
                refine g_iald (j := (z27795.toInt.toNat)) C h27792.1 h27792.2.1 (ix_in h27792.2.2 (by omega)) dX12_sumOf_128 ?_
                refine g_goto C 133 dX12_sumOf_129 (by decide) ?_
                refine g_lv (lv' := [(0, .ref a0), (1, .int a1), (2, .int a2), (4, .int v54_4), (5, .int v68_5)]) [0, 1, 2, 4, 5] rfl ?_
                exact J133 (pI P b27790 (z27795.toInt.toNat)) (by omega) (by omega) (fun b9 e9 => by rw [e27767] at e9; cases e9; omega) (fun b9 e9 => by rw [e27754] at e9; cases e9; omega)
      refine g_iload C dX12_sumOf_54 4 rfl ?_
      refine g_aload_n C dX12_sumOf_56 rfl 0 rfl ?_
      obtain ⟨b27797, e27798, h27799⟩ := I.fld (ha0) 15 13 3 rfl
      refine g_getR C fi_X12_60 rfl e27798 (ha0).1 (ha0).2 dX12_sumOf_57 ?_
      refine g_iload_n C dX12_sumOf_60 rfl 1 rfl ?_
      refine g_iald (j := (a1.toInt.toNat)) C h27799.1 h27799.2.1 (ix_in h27799.2.2 (by omega)) dX12_sumOf_61 ?_
      have h27800 := I.arr e27798 rfl (a1.toInt.toNat)
      refine b_icmp_ge C 147 dX12_sumOf_62 (by decide) (fun h27801 => ?_) (fun h27801 => ?_)
      · have h27801 : (pI P b27797 (a1.toInt.toNat)).toInt ≤ v54_4.toInt := h27801
        refine g_iload_n C dX12_sumOf_147 rfl 3 rfl ?_
        exact ret _ _ _ _ _ _ dX12_sumOf_148 rfl (by decide) (by decide) ⟨rfl, trivial⟩
      · have h27801 : v54_4.toInt < (pI P b27797 (a1.toInt.toNat)).toInt := h27801
        refine g_iconst (v := 0) C dX12_sumOf_65 (by decide) ?_
        refine g_istore (lv' := [(5, .int 0), (0, .ref a0), (1, .int a1), (2, .int a2), (3, .int v54_3), (4, .int v54_4)]) C dX12_sumOf_66 (by decide) rfl ?_
        refine g_lv (lv' := [(0, .ref a0), (1, .int a1), (2, .int a2), (3, .int v54_3), (4, .int v54_4), (5, .int 0)]) [1, 2, 3, 4, 5, 0] rfl ?_
        exact J68 _ v54_3 0 (Nat.lt_succ_self _) (by omega) (by decide) (fun b9 e9 => by rw [e27798] at e9; cases e9; omega)
  have J5 : ∀ (n5 : Nat) (v5_3 : Int32) (v5_4 : Int32), (16 - v5_4.toInt).toNat < n5 → (0 ≤ v5_4.toInt ∧ v5_4.toInt ≤ 16) → G E ({ frames := 1, cells := 0, slots := 0, locals := 64 } : Room) D cy 6 P 0 0 5 [(0, .ref a0), (1, .int a1), (2, .int a2), (3, .int v5_3), (4, .int v5_4)] [] := by
    intro n5
    induction n5 with
    | zero => intro v5_3 v5_4 hm5 hv5_4; omega
    | succ n5 ih5 =>
      intro v5_3 v5_4 hm5 hv5_4
      have J43 : ∀ (v43_s0 : Int32), (0 ≤ v5_4.toInt ∧ v5_4.toInt ≤ 15) → (∀ b, pR P a0 10 = some b → 1 ≤ (pI P b (a1.toInt.toNat)).toInt ∧ (pI P b (a1.toInt.toNat)).toInt ≤ 16) → G E ({ frames := 1, cells := 0, slots := 0, locals := 64 } : Room) D cy 6 P 0 0 43 [(0, .ref a0), (1, .int a1), (2, .int a2), (4, .int v5_4)] [.int v43_s0, .int v5_3] := by
        intro v43_s0 hv43_4 hq43_0
        obtain ⟨b27802, e27803, h27804⟩ := I.fld (ha0) 10 13 2 rfl
        have hq43_0 := hq43_0 b27802 e27803
        refine a_ixor C dX12_sumOf_43 (fun z27805 => ?_)
        refine g_istore_n (lv' := [(3, .int z27805), (0, .ref a0), (1, .int a1), (2, .int a2), (4, .int v5_4)]) C dX12_sumOf_44 rfl (by decide) rfl ?_
        refine s_iinc (lv0 := [(3, .int z27805), (0, .ref a0), (1, .int a1), (2, .int a2)]) (m := 1) C dX12_sumOf_45 4 rfl (by decide) rfl (by decide) (by omega) (fun z27807 h27808 => ?_)
        have h27808 : z27807.toInt = v5_4.toInt + 1 := h27808
        refine g_goto C 5 dX12_sumOf_48 (by decide) ?_
        refine g_lv (lv' := [(0, .ref a0), (1, .int a1), (2, .int a2), (3, .int z27805), (4, .int z27807)]) [2, 3, 4, 1, 0] rfl ?_
        exact ih5 z27805 z27807 (by omega) (by omega)
      refine g_iload C dX12_sumOf_5 4 rfl ?_
      refine g_aload_n C dX12_sumOf_7 rfl 0 rfl ?_
      obtain ⟨b27809, e27810, h27811⟩ := I.fld (ha0) 10 13 2 rfl
      refine g_getR C fi_X12_45 rfl e27810 (ha0).1 (ha0).2 dX12_sumOf_8 ?_
      refine g_iload_n C dX12_sumOf_11 rfl 1 rfl ?_
      refine g_iald (j := (a1.toInt.toNat)) C h27811.1 h27811.2.1 (ix_in h27811.2.2 (by omega)) dX12_sumOf_12 ?_
      have h27812 := I.arr e27810 rfl (a1.toInt.toNat)
      refine b_icmp_ge C 51 dX12_sumOf_13 (by decide) (fun h27813 => ?_) (fun h27813 => ?_)
      · have h27813 : (pI P b27809 (a1.toInt.toNat)).toInt ≤ v5_4.toInt := h27813
        refine g_iconst (v := 0) C dX12_sumOf_51 (by decide) ?_
        refine g_istore (lv' := [(4, .int 0), (0, .ref a0), (1, .int a1), (2, .int a2), (3, .int v5_3)]) C dX12_sumOf_52 (by decide) rfl ?_
        refine g_lv (lv' := [(0, .ref a0), (1, .int a1), (2, .int a2), (3, .int v5_3), (4, .int 0)]) [1, 2, 3, 4, 0] rfl ?_
        exact J54 _ v5_3 0 (Nat.lt_succ_self _) (by decide)
      · have h27813 : v5_4.toInt < (pI P b27809 (a1.toInt.toNat)).toInt := h27813
        refine g_iload_n C dX12_sumOf_16 rfl 3 rfl ?_
        refine g_iload_n C dX12_sumOf_17 rfl 2 rfl ?_
        refine g_iload C dX12_sumOf_18 4 rfl ?_
        refine a_ishr C dX12_sumOf_20 (fun z27814 => ?_)
        refine g_iconst (v := 1) C dX12_sumOf_21 (by decide) ?_
        refine s_iand C dX12_sumOf_22 (by show 0 ≤ 1; omega) (fun z27816 h27817 => ?_)
        have h27817 : 0 ≤ z27816.toInt ∧ z27816.toInt ≤ 1 := h27817
        refine g_iconst (v := 1) C dX12_sumOf_23 (by decide) ?_
        refine b_icmp_ne C 42 dX12_sumOf_24 (by decide) (fun h27818 => ?_) (fun h27818 => ?_)
        · have h27818 : z27816.toInt ≠ 1 := ti_ne h27818
          refine g_iconst (v := 0) C dX12_sumOf_42 (by decide) ?_
          refine g_lv (lv' := [(0, .ref a0), (1, .int a1), (2, .int a2), (4, .int v5_4)]) [0, 1, 2, 4] rfl ?_
          exact J43 0 (by omega) (fun b9 e9 => by rw [e27810] at e9; cases e9; omega)
        · have h27818 : z27816.toInt = 1 := congrArg Int32.toInt h27818
          refine g_aload_n C dX12_sumOf_27 rfl 0 rfl ?_
          obtain ⟨b27819, e27820, h27821⟩ := I.fld (ha0) 11 13 32 rfl
          refine g_getR C fi_X12_48 rfl e27820 (ha0).1 (ha0).2 dX12_sumOf_28 ?_
          refine g_bipush (v := 16) C dX12_sumOf_31 (by decide) ?_
          refine g_iload_n C dX12_sumOf_33 rfl 1 rfl ?_
          refine s_imul C dX12_sumOf_34 (by show -2147483648 ≤ 16 * a1.toInt ∧ 16 * a1.toInt ≤ 2147483647; omega) (fun z27822 h27823 => ?_)
          have h27823 : z27822.toInt = 16 * a1.toInt := h27823
          refine g_iload C dX12_sumOf_35 4 rfl ?_
          refine s_iadd C dX12_sumOf_37 (by show -2147483648 ≤ z27822.toInt + v5_4.toInt ∧ z27822.toInt + v5_4.toInt ≤ 2147483647; omega) (fun z27824 h27825 => ?_)
          have h27825 : z27824.toInt = z27822.toInt + v5_4.toInt := h27825
          refine g_iald (j := (z27824.toInt.toNat)) C h27821.1 h27821.2.1 (ix_in h27821.2.2 (by omega)) dX12_sumOf_38 ?_
          refine g_goto C 43 dX12_sumOf_39 (by decide) ?_
          refine g_lv (lv' := [(0, .ref a0), (1, .int a1), (2, .int a2), (4, .int v5_4)]) [0, 1, 2, 4] rfl ?_
          exact J43 (pI P b27819 (z27824.toInt.toNat)) (by omega) (fun b9 e9 => by rw [e27810] at e9; cases e9; omega)
  refine g_iconst (v := 0) C dX12_sumOf_0 (by decide) ?_
  refine g_istore_n (lv' := [(3, .int 0), (0, .ref a0), (1, .int a1), (2, .int a2)]) C dX12_sumOf_1 rfl (by decide) rfl ?_
  refine g_iconst (v := 0) C dX12_sumOf_2 (by decide) ?_
  refine g_istore (lv' := [(4, .int 0), (3, .int 0), (0, .ref a0), (1, .int a1), (2, .int a2)]) C dX12_sumOf_3 (by decide) rfl ?_
  refine g_lv (lv' := [(0, .ref a0), (1, .int a1), (2, .int a2), (3, .int 0), (4, .int 0)]) [2, 3, 4, 1, 0] rfl ?_
  exact J5 _ 0 0 (Nat.lt_succ_self _) (by decide)
theorem dX12_comes_61 : decode cX12_comes 61 = .ok (.istore 5, 2) := by decide +kernel
theorem dX12_comes_63 : decode cX12_comes 63 = .ok (.aload_n 0, 1) := by decide +kernel
theorem dX12_comes_64 : decode cX12_comes 64 = .ok (.iload_n 1, 1) := by decide +kernel
theorem dX12_comes_65 : decode cX12_comes 65 = .ok (.iload_n 2, 1) := by decide +kernel
theorem dX12_comes_66 : decode cX12_comes 66 = .ok (.iload_n 3, 1) := by decide +kernel
theorem dX12_comes_67 : decode cX12_comes 67 = .ok (.iload 5, 2) := by decide +kernel
theorem dX12_comes_69 : decode cX12_comes 69 = .ok (.iload 4, 2) := by decide +kernel
theorem dX12_comes_71 : decode cX12_comes 71 = .ok (.invokestatic 281, 3) := by decide +kernel
theorem dX12_cutTo_0 : decode cX12_cutTo 0 = .ok (.iload_n 0, 1) := by decide +kernel
theorem dX12_cutTo_1 : decode cX12_cutTo 1 = .ok (.iload_n 1, 1) := by decide +kernel
theorem dX12_cutTo_2 : decode cX12_cutTo 2 = .ok (.iconst 1, 1) := by decide +kernel
theorem dX12_cutTo_3 : decode cX12_cutTo 3 = .ok (.iand, 1) := by decide +kernel
theorem dX12_cutTo_4 : decode cX12_cutTo 4 = .ok (.iconst 1, 1) := by decide +kernel
theorem dX12_cutTo_5 : decode cX12_cutTo 5 = .ok (.if_icmp .ne 9, 3) := by decide +kernel
theorem dX12_cutTo_8 : decode cX12_cutTo 8 = .ok (.sipush 255, 3) := by decide +kernel
theorem dX12_cutTo_11 : decode cX12_cutTo 11 = .ok (.goto 4, 3) := by decide +kernel
theorem dX12_cutTo_14 : decode cX12_cutTo 14 = .ok (.iconst 0, 1) := by decide +kernel
theorem dX12_cutTo_15 : decode cX12_cutTo 15 = .ok (.iload_n 1, 1) := by decide +kernel
theorem dX12_cutTo_16 : decode cX12_cutTo 16 = .ok (.iconst 2, 1) := by decide +kernel
theorem dX12_cutTo_17 : decode cX12_cutTo 17 = .ok (.iand, 1) := by decide +kernel
theorem dX12_cutTo_18 : decode cX12_cutTo 18 = .ok (.iconst 2, 1) := by decide +kernel
theorem dX12_cutTo_19 : decode cX12_cutTo 19 = .ok (.if_icmp .ne 9, 3) := by decide +kernel
theorem dX12_cutTo_22 : decode cX12_cutTo 22 = .ok (.ldc_w 277, 3) := by decide +kernel
theorem dX12_cutTo_25 : decode cX12_cutTo 25 = .ok (.goto 4, 3) := by decide +kernel
theorem dX12_cutTo_28 : decode cX12_cutTo 28 = .ok (.iconst 0, 1) := by decide +kernel
theorem dX12_cutTo_29 : decode cX12_cutTo 29 = .ok (.iadd, 1) := by decide +kernel
theorem dX12_cutTo_30 : decode cX12_cutTo 30 = .ok (.iand, 1) := by decide +kernel
theorem dX12_cutTo_31 : decode cX12_cutTo 31 = .ok (.ireturn, 1) := by decide +kernel
set_option maxHeartbeats 4000000 in
set_option maxRecDepth 100000 in
theorem s_X12_cutTo {P : PP} {a0 : Int32} {a1 : Int32} (I : IV P) : CtrI yX12_cutTo cX12_cutTo 2 (some Jvm.ClassFile.FieldType.int) ({ frames := 1, cells := 0, slots := 0, locals := 64 } : Room) 0 0 P [.int a0, .int a1] (fun r P2 => P = P2 ∧ (0 ≤ r.toInt ∧ r.toInt ≤ 65535)) := by
  refine enI (lv := [(0, .int a0), (1, .int a1)]) (by decide) (Nat.le_of_ble_eq_true rfl) rfl (fun E D cy C Ci0 ret => ?_)
  have J29 : ∀ (v29_s0 : Int32) (v29_s1 : Int32), (0 ≤ v29_s0.toInt ∧ v29_s0.toInt ≤ 65280) → (0 ≤ v29_s1.toInt ∧ v29_s1.toInt ≤ 255) → G E ({ frames := 1, cells := 0, slots := 0, locals := 64 } : Room) D cy 2 P 0 0 29 [] [.int v29_s0, .int v29_s1, .int a0] := by
    intro v29_s0 v29_s1 hv29_s0 hv29_s1
    refine s_iadd C dX12_cutTo_29 (by show -2147483648 ≤ v29_s1.toInt + v29_s0.toInt ∧ v29_s1.toInt + v29_s0.toInt ≤ 2147483647; omega) (fun z27891 h27892 => ?_)
    have h27892 : z27891.toInt = v29_s1.toInt + v29_s0.toInt := h27892
    refine s_iand C dX12_cutTo_30 (by show 0 ≤ z27891.toInt; omega) (fun z27893 h27894 => ?_)
    have h27894 : 0 ≤ z27893.toInt ∧ z27893.toInt ≤ z27891.toInt := h27894
    exact ret _ _ _ _ _ _ dX12_cutTo_31 rfl (by decide) (by decide) ⟨rfl, (by omega)⟩
  have J15 : ∀ (v15_s0 : Int32), (0 ≤ v15_s0.toInt ∧ v15_s0.toInt ≤ 255) → G E ({ frames := 1, cells := 0, slots := 0, locals := 64 } : Room) D cy 2 P 0 0 15 [(1, .int a1)] [.int v15_s0, .int a0] := by
    intro v15_s0 hv15_s0
    refine g_iload_n C dX12_cutTo_15 rfl 0 rfl ?_
    refine g_iconst (v := 2) C dX12_cutTo_16 (by decide) ?_
    refine s_iand C dX12_cutTo_17 (by show 0 ≤ 2; omega) (fun z27895 h27896 => ?_)
    have h27896 : 0 ≤ z27895.toInt ∧ z27895.toInt ≤ 2 := h27896
    refine g_iconst (v := 2) C dX12_cutTo_18 (by decide) ?_
    refine b_icmp_ne C 28 dX12_cutTo_19 (by decide) (fun h27897 => ?_) (fun h27897 => ?_)
    · have h27897 : z27895.toInt ≠ 2 := ti_ne h27897
      refine g_iconst (v := 0) C dX12_cutTo_28 (by decide) ?_
      refine g_lv (lv' := []) [] rfl ?_
      exact J29 0 v15_s0 (by decide) (by omega)
    · have h27897 : z27895.toInt = 2 := congrArg Int32.toInt h27897
      refine g_ldcw (v := 65280) C kc_X12_277 dX12_cutTo_22 ?_
      refine g_goto C 29 dX12_cutTo_25 (by decide) ?_
      refine g_lv (lv' := []) [] rfl ?_
      exact J29 65280 v15_s0 (by decide) (by omega)
  refine g_iload_n C dX12_cutTo_0 rfl 0 rfl ?_
  refine g_iload_n C dX12_cutTo_1 rfl 1 rfl ?_
  refine g_iconst (v := 1) C dX12_cutTo_2 (by decide) ?_
  refine s_iand C dX12_cutTo_3 (by show 0 ≤ 1; omega) (fun z27898 h27899 => ?_)
  have h27899 : 0 ≤ z27898.toInt ∧ z27898.toInt ≤ 1 := h27899
  refine g_iconst (v := 1) C dX12_cutTo_4 (by decide) ?_
  refine b_icmp_ne C 14 dX12_cutTo_5 (by decide) (fun h27900 => ?_) (fun h27900 => ?_)
  · have h27900 : z27898.toInt ≠ 1 := ti_ne h27900
    refine g_iconst (v := 0) C dX12_cutTo_14 (by decide) ?_
    refine g_lv (lv' := [(1, .int a1)]) [1] rfl ?_
    exact J15 0 (by decide)
  · have h27900 : z27898.toInt = 1 := congrArg Int32.toInt h27900
    refine g_sipush (v := 255) C dX12_cutTo_8 (by decide) ?_
    refine g_goto C 15 dX12_cutTo_11 (by decide) ?_
    refine g_lv (lv' := [(1, .int a1)]) [1] rfl ?_
    exact J15 255 (by decide)
theorem dX12_comes_74 : decode cX12_comes 74 = .ok (.iload 4, 2) := by decide +kernel
theorem dX12_comes_76 : decode cX12_comes 76 = .ok (.aload_n 0, 1) := by decide +kernel
theorem dX12_comes_77 : decode cX12_comes 77 = .ok (.iload_n 2, 1) := by decide +kernel
theorem dX12_comes_78 : decode cX12_comes 78 = .ok (.iload_n 3, 1) := by decide +kernel
theorem dX12_comes_79 : decode cX12_comes 79 = .ok (.iload 5, 2) := by decide +kernel
theorem dX12_comes_81 : decode cX12_comes 81 = .ok (.invokevirtual 267, 3) := by decide +kernel
theorem dX12_sealOf_0 : decode cX12_sealOf 0 = .ok (.aload_n 0, 1) := by decide +kernel
theorem dX12_sealOf_1 : decode cX12_sealOf 1 = .ok (.getfield 66, 3) := by decide +kernel
theorem dX12_sealOf_4 : decode cX12_sealOf 4 = .ok (.iload_n 1, 1) := by decide +kernel
theorem dX12_sealOf_5 : decode cX12_sealOf 5 = .ok (.iaload, 1) := by decide +kernel
theorem dX12_sealOf_6 : decode cX12_sealOf 6 = .ok (.ifCond .ne 7, 3) := by decide +kernel
theorem dX12_sealOf_9 : decode cX12_sealOf 9 = .ok (.iconst 0, 1) := by decide +kernel
theorem dX12_sealOf_10 : decode cX12_sealOf 10 = .ok (.goto 22, 3) := by decide +kernel
theorem dX12_sealOf_13 : decode cX12_sealOf 13 = .ok (.iload_n 2, 1) := by decide +kernel
theorem dX12_sealOf_14 : decode cX12_sealOf 14 = .ok (.iconst 1, 1) := by decide +kernel
theorem dX12_sealOf_15 : decode cX12_sealOf 15 = .ok (.iadd, 1) := by decide +kernel
theorem dX12_sealOf_16 : decode cX12_sealOf 16 = .ok (.aload_n 0, 1) := by decide +kernel
theorem dX12_sealOf_17 : decode cX12_sealOf 17 = .ok (.getfield 66, 3) := by decide +kernel
theorem dX12_sealOf_20 : decode cX12_sealOf 20 = .ok (.iload_n 1, 1) := by decide +kernel
theorem dX12_sealOf_21 : decode cX12_sealOf 21 = .ok (.iaload, 1) := by decide +kernel
theorem dX12_sealOf_22 : decode cX12_sealOf 22 = .ok (.imul, 1) := by decide +kernel
theorem dX12_sealOf_23 : decode cX12_sealOf 23 = .ok (.bipush 31, 2) := by decide +kernel
theorem dX12_sealOf_25 : decode cX12_sealOf 25 = .ok (.iload_n 3, 1) := by decide +kernel
theorem dX12_sealOf_26 : decode cX12_sealOf 26 = .ok (.imul, 1) := by decide +kernel
theorem dX12_sealOf_27 : decode cX12_sealOf 27 = .ok (.iadd, 1) := by decide +kernel
theorem dX12_sealOf_28 : decode cX12_sealOf 28 = .ok (.sipush 997, 3) := by decide +kernel
theorem dX12_sealOf_31 : decode cX12_sealOf 31 = .ok (.irem, 1) := by decide +kernel
theorem dX12_sealOf_32 : decode cX12_sealOf 32 = .ok (.ireturn, 1) := by decide +kernel
set_option maxHeartbeats 4000000 in
set_option maxRecDepth 100000 in
theorem s_X12_sealOf {P : PP} {a0 : Nat} {a1 : Int32} {a2 : Int32} {a3 : Int32} (I : IM P a0) (ha1 : 0 ≤ a1.toInt ∧ a1.toInt ≤ 1) (hW : MW P a0) : CtrI yX12_sealOf cX12_sealOf 4 (some Jvm.ClassFile.FieldType.int) ({ frames := 1, cells := 0, slots := 0, locals := 64 } : Room) 0 0 P [.ref a0, .int a1, .int a2, .int a3] (fun r P2 => P = P2 ∧ (True)) := by
  refine enI (lv := [(0, .ref a0), (1, .int a1), (2, .int a2), (3, .int a3)]) (by decide) (Nat.le_of_ble_eq_true rfl) rfl (fun E D cy C Ci0 ret => ?_)
  have ha0 := I.2.1
  refine g_aload_n C dX12_sealOf_0 rfl 0 rfl ?_
  obtain ⟨b27974, e27975, h27976⟩ := I.fld (ha0) 17 13 3 rfl
  refine g_getR C fi_X12_66 rfl e27975 (ha0).1 (ha0).2 dX12_sealOf_1 ?_
  refine g_iload_n C dX12_sealOf_4 rfl 1 rfl ?_
  refine g_iald (j := (a1.toInt.toNat)) C h27976.1 h27976.2.1 (ix_in h27976.2.2 (by omega)) dX12_sealOf_5 ?_
  have u27978 := ti_rng (pI P b27974 (a1.toInt.toNat))
  refine b_if_ne C 13 dX12_sealOf_6 (by decide) (fun h27977 => ?_) (fun h27977 => ?_)
  · have h27977 : (pI P b27974 (a1.toInt.toNat)).toInt ≠ 0 := ti_ne h27977
    refine g_iload_n C dX12_sealOf_13 rfl 2 rfl ?_
    refine g_iconst (v := 1) C dX12_sealOf_14 (by decide) ?_
    refine a_iadd C dX12_sealOf_15 (fun z27979 => ?_)
    refine g_aload_n C dX12_sealOf_16 rfl 0 rfl ?_
    refine g_getR C fi_X12_66 rfl e27975 (ha0).1 (ha0).2 dX12_sealOf_17 ?_
    refine g_iload_n C dX12_sealOf_20 rfl 1 rfl ?_
    refine g_iald (j := (a1.toInt.toNat)) C h27976.1 h27976.2.1 (ix_in h27976.2.2 (by omega)) dX12_sealOf_21 ?_
    refine a_imul C dX12_sealOf_22 (fun z27981 => ?_)
    refine g_bipush (v := 31) C dX12_sealOf_23 (by decide) ?_
    refine g_iload_n C dX12_sealOf_25 rfl 3 rfl ?_
    refine a_imul C dX12_sealOf_26 (fun z27983 => ?_)
    refine a_iadd C dX12_sealOf_27 (fun z27985 => ?_)
    refine g_sipush (v := 997) C dX12_sealOf_28 (by decide) ?_
    refine a_irem C dX12_sealOf_31 (by show 997 ≠ 0; omega) (fun z27987 => ?_)
    exact ret _ _ _ _ _ _ dX12_sealOf_32 rfl (by decide) (by decide) ⟨rfl, trivial⟩
  · have h27977 : (pI P b27974 (a1.toInt.toNat)).toInt = 0 := congrArg Int32.toInt h27977
    refine g_iconst (v := 0) C dX12_sealOf_9 (by decide) ?_
    refine g_goto C 32 dX12_sealOf_10 (by decide) ?_
    exact ret _ _ _ _ _ _ dX12_sealOf_32 rfl (by decide) (by decide) ⟨rfl, trivial⟩
theorem dX12_comes_84 : decode cX12_comes 84 = .ok (.invokevirtual 284, 3) := by decide +kernel
theorem dX12_lays_0 : decode cX12_lays 0 = .ok (.bipush 40, 2) := by decide +kernel
theorem dX12_lays_2 : decode cX12_lays 2 = .ok (.iload_n 1, 1) := by decide +kernel
theorem dX12_lays_3 : decode cX12_lays 3 = .ok (.imul, 1) := by decide +kernel
theorem dX12_lays_4 : decode cX12_lays 4 = .ok (.aload_n 0, 1) := by decide +kernel
theorem dX12_lays_5 : decode cX12_lays 5 = .ok (.getfield 69, 3) := by decide +kernel
theorem dX12_lays_8 : decode cX12_lays 8 = .ok (.iload_n 1, 1) := by decide +kernel
theorem dX12_lays_9 : decode cX12_lays 9 = .ok (.iaload, 1) := by decide +kernel
theorem dX12_lays_10 : decode cX12_lays 10 = .ok (.iadd, 1) := by decide +kernel
theorem dX12_lays_11 : decode cX12_lays 11 = .ok (.istore 7, 2) := by decide +kernel
theorem dX12_lays_13 : decode cX12_lays 13 = .ok (.aload_n 0, 1) := by decide +kernel
theorem dX12_lays_14 : decode cX12_lays 14 = .ok (.getfield 72, 3) := by decide +kernel
theorem dX12_lays_17 : decode cX12_lays 17 = .ok (.iload 7, 2) := by decide +kernel
theorem dX12_lays_19 : decode cX12_lays 19 = .ok (.iload_n 3, 1) := by decide +kernel
theorem dX12_lays_20 : decode cX12_lays 20 = .ok (.iastore, 1) := by decide +kernel
theorem dX12_lays_21 : decode cX12_lays 21 = .ok (.aload_n 0, 1) := by decide +kernel
theorem dX12_lays_22 : decode cX12_lays 22 = .ok (.getfield 75, 3) := by decide +kernel
theorem dX12_lays_25 : decode cX12_lays 25 = .ok (.iload 7, 2) := by decide +kernel
theorem dX12_lays_27 : decode cX12_lays 27 = .ok (.iload_n 2, 1) := by decide +kernel
theorem dX12_lays_28 : decode cX12_lays 28 = .ok (.iastore, 1) := by decide +kernel
theorem dX12_lays_29 : decode cX12_lays 29 = .ok (.aload_n 0, 1) := by decide +kernel
theorem dX12_lays_30 : decode cX12_lays 30 = .ok (.getfield 78, 3) := by decide +kernel
theorem dX12_lays_33 : decode cX12_lays 33 = .ok (.iload 7, 2) := by decide +kernel
theorem dX12_lays_35 : decode cX12_lays 35 = .ok (.iload 4, 2) := by decide +kernel
theorem dX12_lays_37 : decode cX12_lays 37 = .ok (.iastore, 1) := by decide +kernel
theorem dX12_lays_38 : decode cX12_lays 38 = .ok (.aload_n 0, 1) := by decide +kernel
theorem dX12_lays_39 : decode cX12_lays 39 = .ok (.getfield 81, 3) := by decide +kernel
theorem dX12_lays_42 : decode cX12_lays 42 = .ok (.iload 7, 2) := by decide +kernel
theorem dX12_lays_44 : decode cX12_lays 44 = .ok (.iload 5, 2) := by decide +kernel
theorem dX12_lays_46 : decode cX12_lays 46 = .ok (.iastore, 1) := by decide +kernel
theorem dX12_lays_47 : decode cX12_lays 47 = .ok (.aload_n 0, 1) := by decide +kernel
theorem dX12_lays_48 : decode cX12_lays 48 = .ok (.getfield 84, 3) := by decide +kernel
theorem dX12_lays_51 : decode cX12_lays 51 = .ok (.iload 7, 2) := by decide +kernel
theorem dX12_lays_53 : decode cX12_lays 53 = .ok (.iload 6, 2) := by decide +kernel
theorem dX12_lays_55 : decode cX12_lays 55 = .ok (.iastore, 1) := by decide +kernel
theorem dX12_lays_56 : decode cX12_lays 56 = .ok (.aload_n 0, 1) := by decide +kernel
theorem dX12_lays_57 : decode cX12_lays 57 = .ok (.getfield 69, 3) := by decide +kernel
theorem dX12_lays_60 : decode cX12_lays 60 = .ok (.iload_n 1, 1) := by decide +kernel
theorem dX12_lays_61 : decode cX12_lays 61 = .ok (.dup2, 1) := by decide +kernel
theorem dX12_lays_62 : decode cX12_lays 62 = .ok (.iaload, 1) := by decide +kernel
theorem dX12_lays_63 : decode cX12_lays 63 = .ok (.iconst 1, 1) := by decide +kernel
theorem dX12_lays_64 : decode cX12_lays 64 = .ok (.iadd, 1) := by decide +kernel
theorem dX12_lays_65 : decode cX12_lays 65 = .ok (.iastore, 1) := by decide +kernel
theorem dX12_lays_66 : decode cX12_lays 66 = .ok (.aload_n 0, 1) := by decide +kernel
theorem dX12_lays_67 : decode cX12_lays 67 = .ok (.getfield 69, 3) := by decide +kernel
theorem dX12_lays_70 : decode cX12_lays 70 = .ok (.iload_n 1, 1) := by decide +kernel
theorem dX12_lays_71 : decode cX12_lays 71 = .ok (.iaload, 1) := by decide +kernel
theorem dX12_lays_72 : decode cX12_lays 72 = .ok (.iconst 1, 1) := by decide +kernel
theorem dX12_lays_73 : decode cX12_lays 73 = .ok (.isub, 1) := by decide +kernel
theorem dX12_lays_74 : decode cX12_lays 74 = .ok (.ireturn, 1) := by decide +kernel
set_option maxHeartbeats 4000000 in
set_option maxRecDepth 100000 in
theorem s_X12_lays {P : PP} {a0 : Nat} {a1 : Int32} {a2 : Int32} {a3 : Int32} {a4 : Int32} {a5 : Int32} {a6 : Int32} (I : IM P a0) (ha1 : 0 ≤ a1.toInt ∧ a1.toInt ≤ 3) (ha2 : -1 ≤ a2.toInt ∧ a2.toInt ≤ 1) (hf0 : ∀ b, pR P a0 20 = some b → 0 ≤ (pI P b (a1.toInt.toNat)).toInt ∧ (pI P b (a1.toInt.toNat)).toInt ≤ 39) (hW : MW P a0) (hl : ∀ c, pR P a0 10 = some c → 0 ≤ a2.toInt → 0 < (pI P c (a2.toInt.toNat)).toInt) : CtrI yX12_lays cX12_lays 8 (some Jvm.ClassFile.FieldType.int) ({ frames := 1, cells := 0, slots := 0, locals := 64 } : Room) 0 0 P [.ref a0, .int a1, .int a2, .int a3, .int a4, .int a5, .int a6] (fun r P2 => IM P2 a0 ∧ EM [20, 21, 22, 23, 24, 25] a0 P P2 ∧ MW P2 a0 ∧ (∀ b, pR P a0 20 = some b → (pI P2 b (a1.toInt.toNat)).toInt = (pI P b (a1.toInt.toNat)).toInt + 1) ∧ (0 ≤ r.toInt ∧ r.toInt ≤ 39)) := by
  refine enI (lv := [(0, .ref a0), (1, .int a1), (2, .int a2), (3, .int a3), (4, .int a4), (5, .int a5), (6, .int a6)]) (by decide) (Nat.le_of_ble_eq_true rfl) rfl (fun E D cy C Ci0 ret => ?_)
  have ha0 := I.2.1
  obtain ⟨b28190, e28191, h28192⟩ := I.fld (ha0) 20 13 20 rfl
  have hf0 := hf0 b28190 e28191
  refine g_bipush (v := 40) C dX12_lays_0 (by decide) ?_
  refine g_iload_n C dX12_lays_2 rfl 1 rfl ?_
  refine s_imul C dX12_lays_3 (by show -2147483648 ≤ 40 * a1.toInt ∧ 40 * a1.toInt ≤ 2147483647; omega) (fun z28193 h28194 => ?_)
  have h28194 : z28193.toInt = 40 * a1.toInt := h28194
  refine g_aload_n C dX12_lays_4 rfl 0 rfl ?_
  refine g_getR C fi_X12_69 rfl e28191 (ha0).1 (ha0).2 dX12_lays_5 ?_
  refine g_iload_n C dX12_lays_8 rfl 1 rfl ?_
  refine g_iald (j := (a1.toInt.toNat)) C h28192.1 h28192.2.1 (ix_in h28192.2.2 (by omega)) dX12_lays_9 ?_
  refine s_iadd C dX12_lays_10 (by show -2147483648 ≤ z28193.toInt + (pI P b28190 (a1.toInt.toNat)).toInt ∧ z28193.toInt + (pI P b28190 (a1.toInt.toNat)).toInt ≤ 2147483647; omega) (fun z28195 h28196 => ?_)
  have h28196 : z28195.toInt = z28193.toInt + (pI P b28190 (a1.toInt.toNat)).toInt := h28196
  refine g_istore (lv' := [(7, .int z28195), (0, .ref a0), (1, .int a1), (2, .int a2), (3, .int a3), (4, .int a4), (5, .int a5), (6, .int a6)]) C dX12_lays_11 (by decide) rfl ?_
  refine g_aload_n C dX12_lays_13 rfl 1 rfl ?_
  obtain ⟨b28197, e28198, h28199⟩ := I.fld (ha0) 21 13 800 rfl
  refine g_getR C fi_X12_72 rfl e28198 (ha0).1 (ha0).2 dX12_lays_14 ?_
  refine g_iload C dX12_lays_17 0 rfl ?_
  refine g_iload_n C dX12_lays_19 rfl 4 rfl ?_
  refine g_iast (j := (z28195.toInt.toNat)) C h28199.1 h28199.2.1 (ix_in h28199.2.2 (by omega)) dX12_lays_20 ?_
  refine gqW (ks := [21]) (I.setA e28198 h28199 (by decide) (arOk.none rfl)) (EM.setA I e28198 rfl (by decide)) (fun Y28200 Iy28201 Xy28202 w28203 => ?_)
  have w28203 : (pI Y28200 b28197 (z28195.toInt.toNat)).toInt = a3.toInt := w28203
  have q28204 := Xy28202.keepA e28191 (by decide) rfl (a1.toInt.toNat)
  have W28205 := hW.keep I Xy28202 (by decide) (by decide) (by decide)
  have Xz28206 : EM [20, 21, 22, 23, 24, 25] a0 P Y28200 := Xy28202.mono (by decide)
  have e28207 := Xy28202.ref ha0 (by decide) e28191
  have e28208 := Xy28202.ref ha0 (by decide) e28198
  have h28209 := Xy28202.at ha0
  have h28210 := Xy28202.ar h28192
  have h28211 := Xy28202.ar h28199
  refine g_aload_n C dX12_lays_21 rfl 1 rfl ?_
  obtain ⟨b28212, e28213, h28214⟩ := Iy28201.fld (h28209) 22 13 800 rfl
  refine g_getR C fi_X12_75 rfl e28213 (h28209).1 (h28209).2 dX12_lays_22 ?_
  refine g_iload C dX12_lays_25 0 rfl ?_
  refine g_iload_n C dX12_lays_27 rfl 3 rfl ?_
  refine g_iast (j := (z28195.toInt.toNat)) C h28214.1 h28214.2.1 (ix_in h28214.2.2 (by omega)) dX12_lays_28 ?_
  refine gqX (ks := [22]) (W := (fun P => MW P a0)) (Iy28201.setA e28213 h28214 (by decide) (arOk.of rfl (by omega))) (EM.setA Iy28201 e28213 rfl (by decide)) (W28205.set22 Iy28201 e28213 (fun c9 f9 h9 => by have f8 := EM.refB Xz28206 ha0 f9; have q9 := Xz28206.keepA f8 (by decide) rfl (a2.toInt.toNat); have h8 := hl c9 f8 h9; omega)) (fun Y28215 Iy28216 Xy28217 w28218 W28219 => ?_)
  have w28218 : (pI Y28215 b28212 (z28195.toInt.toNat)).toInt = a2.toInt := w28218
  have q28220 := Xy28217.keepA e28207 (by decide) rfl (a1.toInt.toNat)
  have q28221 := Xy28217.keepA e28208 (by decide) rfl (z28195.toInt.toNat)
  have Xz28222 : EM [20, 21, 22, 23, 24, 25] a0 P Y28215 := EM.tr ha0 Xz28206 (Xy28217.mono (by decide))
  have e28223 := Xy28217.ref h28209 (by decide) e28207
  have e28224 := Xy28217.ref h28209 (by decide) e28208
  have e28225 := Xy28217.ref h28209 (by decide) e28213
  have h28226 := Xy28217.at h28209
  have h28227 := Xy28217.ar h28210
  have h28228 := Xy28217.ar h28211
  have h28229 := Xy28217.ar h28214
  refine g_aload_n C dX12_lays_29 rfl 1 rfl ?_
  obtain ⟨b28230, e28231, h28232⟩ := Iy28216.fld (h28226) 23 13 800 rfl
  refine g_getR C fi_X12_78 rfl e28231 (h28226).1 (h28226).2 dX12_lays_30 ?_
  refine g_iload C dX12_lays_33 0 rfl ?_
  refine g_iload C dX12_lays_35 5 rfl ?_
  refine g_iast (j := (z28195.toInt.toNat)) C h28232.1 h28232.2.1 (ix_in h28232.2.2 (by omega)) dX12_lays_37 ?_
  refine gqW (ks := [23]) (Iy28216.setA e28231 h28232 (by decide) (arOk.none rfl)) (EM.setA Iy28216 e28231 rfl (by decide)) (fun Y28233 Iy28234 Xy28235 w28236 => ?_)
  have w28236 : (pI Y28233 b28230 (z28195.toInt.toNat)).toInt = a4.toInt := w28236
  have q28237 := Xy28235.keepA e28223 (by decide) rfl (a1.toInt.toNat)
  have q28238 := Xy28235.keepA e28224 (by decide) rfl (z28195.toInt.toNat)
  have q28239 := Xy28235.keepA e28225 (by decide) rfl (z28195.toInt.toNat)
  have W28240 := W28219.keep Iy28216 Xy28235 (by decide) (by decide) (by decide)
  have Xz28241 : EM [20, 21, 22, 23, 24, 25] a0 P Y28233 := EM.tr ha0 Xz28222 (Xy28235.mono (by decide))
  have e28242 := Xy28235.ref h28226 (by decide) e28223
  have e28243 := Xy28235.ref h28226 (by decide) e28224
  have e28244 := Xy28235.ref h28226 (by decide) e28225
  have e28245 := Xy28235.ref h28226 (by decide) e28231
  have h28246 := Xy28235.at h28226
  have h28247 := Xy28235.ar h28227
  have h28248 := Xy28235.ar h28228
  have h28249 := Xy28235.ar h28229
  have h28250 := Xy28235.ar h28232
  refine g_aload_n C dX12_lays_38 rfl 1 rfl ?_
  obtain ⟨b28251, e28252, h28253⟩ := Iy28234.fld (h28246) 24 13 800 rfl
  refine g_getR C fi_X12_81 rfl e28252 (h28246).1 (h28246).2 dX12_lays_39 ?_
  refine g_iload C dX12_lays_42 0 rfl ?_
  refine g_iload C dX12_lays_44 6 rfl ?_
  refine g_iast (j := (z28195.toInt.toNat)) C h28253.1 h28253.2.1 (ix_in h28253.2.2 (by omega)) dX12_lays_46 ?_
  refine gqW (ks := [24]) (Iy28234.setA e28252 h28253 (by decide) (arOk.none rfl)) (EM.setA Iy28234 e28252 rfl (by decide)) (fun Y28254 Iy28255 Xy28256 w28257 => ?_)
  have w28257 : (pI Y28254 b28251 (z28195.toInt.toNat)).toInt = a5.toInt := w28257
  have q28258 := Xy28256.keepA e28242 (by decide) rfl (a1.toInt.toNat)
  have q28259 := Xy28256.keepA e28243 (by decide) rfl (z28195.toInt.toNat)
  have q28260 := Xy28256.keepA e28244 (by decide) rfl (z28195.toInt.toNat)
  have q28261 := Xy28256.keepA e28245 (by decide) rfl (z28195.toInt.toNat)
  have W28262 := W28240.keep Iy28234 Xy28256 (by decide) (by decide) (by decide)
  have Xz28263 : EM [20, 21, 22, 23, 24, 25] a0 P Y28254 := EM.tr ha0 Xz28241 (Xy28256.mono (by decide))
  have e28264 := Xy28256.ref h28246 (by decide) e28242
  have e28265 := Xy28256.ref h28246 (by decide) e28243
  have e28266 := Xy28256.ref h28246 (by decide) e28244
  have e28267 := Xy28256.ref h28246 (by decide) e28245
  have e28268 := Xy28256.ref h28246 (by decide) e28252
  have h28269 := Xy28256.at h28246
  have h28270 := Xy28256.ar h28247
  have h28271 := Xy28256.ar h28248
  have h28272 := Xy28256.ar h28249
  have h28273 := Xy28256.ar h28250
  have h28274 := Xy28256.ar h28253
  refine g_aload_n C dX12_lays_47 rfl 1 rfl ?_
  obtain ⟨b28275, e28276, h28277⟩ := Iy28255.fld (h28269) 25 13 800 rfl
  refine g_getR C fi_X12_84 rfl e28276 (h28269).1 (h28269).2 dX12_lays_48 ?_
  refine g_iload C dX12_lays_51 0 rfl ?_
  refine g_iload C dX12_lays_53 7 rfl ?_
  refine g_iast (j := (z28195.toInt.toNat)) C h28277.1 h28277.2.1 (ix_in h28277.2.2 (by omega)) dX12_lays_55 ?_
  refine gqW (ks := [25]) (Iy28255.setA e28276 h28277 (by decide) (arOk.none rfl)) (EM.setA Iy28255 e28276 rfl (by decide)) (fun Y28278 Iy28279 Xy28280 w28281 => ?_)
  have w28281 : (pI Y28278 b28275 (z28195.toInt.toNat)).toInt = a6.toInt := w28281
  have q28282 := Xy28280.keepA e28264 (by decide) rfl (a1.toInt.toNat)
  have q28283 := Xy28280.keepA e28265 (by decide) rfl (z28195.toInt.toNat)
  have q28284 := Xy28280.keepA e28266 (by decide) rfl (z28195.toInt.toNat)
  have q28285 := Xy28280.keepA e28267 (by decide) rfl (z28195.toInt.toNat)
  have q28286 := Xy28280.keepA e28268 (by decide) rfl (z28195.toInt.toNat)
  have W28287 := W28262.keep Iy28255 Xy28280 (by decide) (by decide) (by decide)
  have Xz28288 : EM [20, 21, 22, 23, 24, 25] a0 P Y28278 := EM.tr ha0 Xz28263 (Xy28280.mono (by decide))
  have e28289 := Xy28280.ref h28269 (by decide) e28264
  have e28290 := Xy28280.ref h28269 (by decide) e28265
  have e28291 := Xy28280.ref h28269 (by decide) e28266
  have e28292 := Xy28280.ref h28269 (by decide) e28267
  have e28293 := Xy28280.ref h28269 (by decide) e28268
  have e28294 := Xy28280.ref h28269 (by decide) e28276
  have h28295 := Xy28280.at h28269
  have h28296 := Xy28280.ar h28270
  have h28297 := Xy28280.ar h28271
  have h28298 := Xy28280.ar h28272
  have h28299 := Xy28280.ar h28273
  have h28300 := Xy28280.ar h28274
  have h28301 := Xy28280.ar h28277
  refine g_aload_n C dX12_lays_56 rfl 1 rfl ?_
  refine g_getR C fi_X12_69 rfl e28289 (h28295).1 (h28295).2 dX12_lays_57 ?_
  refine g_iload_n C dX12_lays_60 rfl 2 rfl ?_
  refine g_dup2_11 C dX12_lays_61 rfl rfl ?_
  refine g_iald (j := (a1.toInt.toNat)) C h28296.1 h28296.2.1 (ix_in h28296.2.2 (by omega)) dX12_lays_62 ?_
  refine g_iconst (v := 1) C dX12_lays_63 (by decide) ?_
  refine s_iadd C dX12_lays_64 (by show -2147483648 ≤ (pI Y28278 b28190 (a1.toInt.toNat)).toInt + 1 ∧ (pI Y28278 b28190 (a1.toInt.toNat)).toInt + 1 ≤ 2147483647; omega) (fun z28302 h28303 => ?_)
  have h28303 : z28302.toInt = (pI Y28278 b28190 (a1.toInt.toNat)).toInt + 1 := h28303
  refine g_iast (j := (a1.toInt.toNat)) C h28296.1 h28296.2.1 (ix_in h28296.2.2 (by omega)) dX12_lays_65 ?_
  refine gqW (ks := [20]) (Iy28279.setA e28289 h28296 (by decide) (arOk.of rfl (by omega))) (EM.setA Iy28279 e28289 rfl (by decide)) (fun Y28304 Iy28305 Xy28306 w28307 => ?_)
  have w28307 : (pI Y28304 b28190 (a1.toInt.toNat)).toInt = z28302.toInt := w28307
  have q28308 := Xy28306.keepA e28290 (by decide) rfl (z28195.toInt.toNat)
  have q28309 := Xy28306.keepA e28291 (by decide) rfl (z28195.toInt.toNat)
  have q28310 := Xy28306.keepA e28292 (by decide) rfl (z28195.toInt.toNat)
  have q28311 := Xy28306.keepA e28293 (by decide) rfl (z28195.toInt.toNat)
  have q28312 := Xy28306.keepA e28294 (by decide) rfl (z28195.toInt.toNat)
  have W28313 := W28287.keep Iy28279 Xy28306 (by decide) (by decide) (by decide)
  have Xz28314 : EM [20, 21, 22, 23, 24, 25] a0 P Y28304 := EM.tr ha0 Xz28288 (Xy28306.mono (by decide))
  have e28315 := Xy28306.ref h28295 (by decide) e28289
  have e28316 := Xy28306.ref h28295 (by decide) e28290
  have e28317 := Xy28306.ref h28295 (by decide) e28291
  have e28318 := Xy28306.ref h28295 (by decide) e28292
  have e28319 := Xy28306.ref h28295 (by decide) e28293
  have e28320 := Xy28306.ref h28295 (by decide) e28294
  have h28321 := Xy28306.at h28295
  have h28322 := Xy28306.ar h28296
  have h28323 := Xy28306.ar h28297
  have h28324 := Xy28306.ar h28298
  have h28325 := Xy28306.ar h28299
  have h28326 := Xy28306.ar h28300
  have h28327 := Xy28306.ar h28301
  refine g_aload_n C dX12_lays_66 rfl 1 rfl ?_
  refine g_getR C fi_X12_69 rfl e28315 (h28321).1 (h28321).2 dX12_lays_67 ?_
  refine g_iload_n C dX12_lays_70 rfl 2 rfl ?_
  refine g_iald (j := (a1.toInt.toNat)) C h28322.1 h28322.2.1 (ix_in h28322.2.2 (by omega)) dX12_lays_71 ?_
  refine g_iconst (v := 1) C dX12_lays_72 (by decide) ?_
  refine s_isub C dX12_lays_73 (by show -2147483648 ≤ (pI Y28304 b28190 (a1.toInt.toNat)).toInt - 1 ∧ (pI Y28304 b28190 (a1.toInt.toNat)).toInt - 1 ≤ 2147483647; omega) (fun z28328 h28329 => ?_)
  have h28329 : z28328.toInt = (pI Y28304 b28190 (a1.toInt.toNat)).toInt - 1 := h28329
  exact ret _ _ _ _ _ _ dX12_lays_74 rfl (by decide) (by decide) ⟨Iy28305, Xz28314, W28313, (fun b9 e9 => by have e8 := EM.ref Xz28314 ha0 (by decide) e9; rw [e28315] at e8; cases e8; show (pI Y28304 b28190 (a1.toInt.toNat)).toInt = (pI P b28190 (a1.toInt.toNat)).toInt + 1; omega), (by omega)⟩
theorem dX12_comes_48 : decode cX12_comes 48 = .ok (.iconst (-1), 1) := by decide +kernel
theorem dX12_comes_49 : decode cX12_comes 49 = .ok (.ireturn, 1) := by decide +kernel
theorem dX12_comes_87 : decode cX12_comes 87 = .ok (.ireturn, 1) := by decide +kernel
set_option maxHeartbeats 4000000 in
set_option maxRecDepth 100000 in
theorem s_X12_comes {P : PP} {a0 : Nat} {a1 : Int32} {a2 : Int32} {a3 : Int32} {a4 : Int32} (I : IM P a0) (hW : MW P a0) : CtrI yX12_comes cX12_comes 6 (some Jvm.ClassFile.FieldType.int) ({ frames := 6, cells := 0, slots := 0, locals := 384 } : Room) 0 0 P [.ref a0, .int a1, .int a2, .int a3, .int a4] (fun r P2 => IM P2 a0 ∧ EM [0, 20, 21, 22, 23, 24, 25] a0 P P2 ∧ MW P2 a0 ∧ (-1 ≤ r.toInt ∧ r.toInt ≤ 39)) := by
  refine enI (lv := [(0, .ref a0), (1, .int a1), (2, .int a2), (3, .int a3), (4, .int a4)]) (by decide) (Nat.le_of_ble_eq_true rfl) rfl (fun E D cy C Ci0 ret => ?_)
  have ha0 := I.2.1
  have J48 : ∀ (P48 : PP), (IM P48 a0) → (EM [0, 20, 21, 22, 23, 24, 25] a0 P P48) → (MW P48 a0) → (0 ≤ (pI P48 a0 0).toInt ∧ (pI P48 a0 0).toInt ≤ 0) → G E ({ frames := 6, cells := 0, slots := 0, locals := 384 } : Room) D cy 6 P48 0 0 48 [] [] := by
    intro P48 I48 X48 W48 hq48_0
    have h28407 := X48.at ha0
    refine g_iconst (v := (-1)) C dX12_comes_48 (by decide) ?_
    exact ret _ _ _ _ _ _ dX12_comes_49 rfl (by decide) (by decide) ⟨I48, X48, W48, (by decide)⟩
  refine g_aload_n C dX12_comes_0 rfl 0 rfl ?_
  refine g_iconst (v := 0) C dX12_comes_1 (by decide) ?_
  refine g_putI C fi_X12_1 rfl (ha0).1 (ha0).2 dX12_comes_2 ?_
  refine gqW (ks := [0]) (I.setI (rgOk.of rfl (by decide))) (EM.setI I (by decide)) (fun Y28408 Iy28409 Xy28410 w28411 => ?_)
  have w28411 : (pI Y28408 a0 0).toInt = 0 := w28411
  have W28412 := hW.keep I Xy28410 (by decide) (by decide) (by decide)
  have Xz28413 : EM [0, 20, 21, 22, 23, 24, 25] a0 P Y28408 := Xy28410.mono (by decide)
  have h28414 := Xy28410.at ha0
  refine g_iload_n C dX12_comes_5 rfl 1 rfl ?_
  refine g_callSI (b := 0) (ci := 0) (rest := []) C ms_X12_278 [.int a1] (s_X12_isQuarter Iy28409.1) rfl rfl (by decide) (Nat.le_of_ble_eq_true rfl) (by decide) dX12_comes_6 (fun r28415 Y28416 h28417 => ?_)
  obtain ⟨rfl, h28417⟩ := h28417
  obtain ⟨h28417, hi28418⟩ := h28417
  have hi28418 : r28415.toInt = 0 ∨ (((0 : Int) ≤ a1.toInt ∧ a1.toInt ≤ (3 : Int))) := hi28418
  have h28417 : 0 ≤ r28415.toInt ∧ r28415.toInt ≤ 1 := h28417
  refine b_if_eq C 48 dX12_comes_9 (by decide) (fun h28419 => ?_) (fun h28419 => ?_)
  · have h28419 : r28415.toInt = 0 := congrArg Int32.toInt h28419
    clear hi28418
    refine g_lv (lv' := []) [] rfl ?_
    exact J48 Y28408 Iy28409 Xz28413 W28412 (by omega)
  · have h28419 : r28415.toInt ≠ 0 := ti_ne h28419
    replace hi28418 := hi28418.resolve_left (by omega)
    refine g_aload_n C dX12_comes_12 rfl 0 rfl ?_
    refine g_iload_n C dX12_comes_13 rfl 2 rfl ?_
    refine g_callVI (rest := []) C mv_X12_192 [.int a2] (s_X12_isBook Iy28409 W28412) (h28414).1 (h28414).2 rfl rfl (by decide) (Nat.le_of_ble_eq_true rfl) (by decide) dX12_comes_14 (fun r28420 Y28421 h28422 => ?_)
    obtain ⟨rfl, h28422⟩ := h28422
    obtain ⟨h28422, hi28423, hi28424⟩ := h28422
    have hi28423 : r28420.toInt = 0 ∨ (((0 : Int) ≤ a2.toInt ∧ a2.toInt ≤ (1 : Int))) := hi28423
    have h28422 : 0 ≤ r28420.toInt ∧ r28420.toInt ≤ 1 := h28422
    refine b_if_eq C 48 dX12_comes_17 (by decide) (fun h28425 => ?_) (fun h28425 => ?_)
    · have h28425 : r28420.toInt = 0 := congrArg Int32.toInt h28425
      clear hi28423
      refine g_lv (lv' := []) [] rfl ?_
      exact J48 Y28408 Iy28409 Xz28413 W28412 (by omega)
    · have h28425 : r28420.toInt ≠ 0 := ti_ne h28425
      replace hi28423 := hi28423.resolve_left (by omega)
      obtain ⟨b28426, e28427, h28428⟩ := Iy28409.fld (h28414) 10 13 2 rfl
      have hi28424 := (hi28424.resolve_left (by omega)) b28426 e28427
      have hi28424 : 0 < (pI Y28408 b28426 (a2.toInt.toNat)).toInt := hi28424
      have h28429 := Iy28409.arr e28427 rfl (a2.toInt.toNat)
      refine g_iload_n C dX12_comes_20 rfl 3 rfl ?_
      refine g_callSI (b := 0) (ci := 0) (rest := []) C ms_X12_258 [.int a3] (s_X12_isNumber Iy28409.1) rfl rfl (by decide) (Nat.le_of_ble_eq_true rfl) (by decide) dX12_comes_21 (fun r28430 Y28431 h28432 => ?_)
      obtain ⟨rfl, h28432⟩ := h28432
      obtain ⟨h28432, hi28433⟩ := h28432
      have hi28433 : r28430.toInt = 0 ∨ (((0 : Int) ≤ a3.toInt ∧ a3.toInt ≤ (9999 : Int))) := hi28433
      have h28432 : 0 ≤ r28430.toInt ∧ r28430.toInt ≤ 1 := h28432
      refine b_if_eq C 48 dX12_comes_24 (by decide) (fun h28434 => ?_) (fun h28434 => ?_)
      · have h28434 : r28430.toInt = 0 := congrArg Int32.toInt h28434
        clear hi28433
        refine g_lv (lv' := []) [] rfl ?_
        exact J48 Y28408 Iy28409 Xz28413 W28412 (by omega)
      · have h28434 : r28430.toInt ≠ 0 := ti_ne h28434
        replace hi28433 := hi28433.resolve_left (by omega)
        refine g_iload C dX12_comes_27 4 rfl ?_
        refine g_iconst (v := 1) C dX12_comes_29 (by decide) ?_
        refine g_iconst (v := 3) C dX12_comes_30 (by decide) ?_
        refine g_callSI (b := 0) (ci := 0) (rest := []) C ms_X12_178 [.int a4, .int 1, .int 3] (s_X12_within Iy28409.1) rfl rfl (by decide) (Nat.le_of_ble_eq_true rfl) (by decide) dX12_comes_31 (fun r28435 Y28436 h28437 => ?_)
        obtain ⟨rfl, h28437⟩ := h28437
        obtain ⟨h28437, hi28438⟩ := h28437
        have hi28438 : r28435.toInt = 0 ∨ (1 ≤ a4.toInt ∧ a4.toInt ≤ 3) := hi28438
        have h28437 : 0 ≤ r28435.toInt ∧ r28435.toInt ≤ 1 := h28437
        refine b_if_eq C 48 dX12_comes_34 (by decide) (fun h28439 => ?_) (fun h28439 => ?_)
        · have h28439 : r28435.toInt = 0 := congrArg Int32.toInt h28439
          clear hi28438
          refine g_lv (lv' := []) [] rfl ?_
          exact J48 Y28408 Iy28409 Xz28413 W28412 (by omega)
        · have h28439 : r28435.toInt ≠ 0 := ti_ne h28439
          replace hi28438 := hi28438.resolve_left (by omega)
          refine g_aload_n C dX12_comes_37 rfl 0 rfl ?_
          obtain ⟨b28440, e28441, h28442⟩ := Iy28409.fld (h28414) 20 13 20 rfl
          refine g_getR C fi_X12_69 rfl e28441 (h28414).1 (h28414).2 dX12_comes_38 ?_
          refine g_iload_n C dX12_comes_41 rfl 1 rfl ?_
          refine g_iald (j := (a1.toInt.toNat)) C h28442.1 h28442.2.1 (ix_in h28442.2.2 (by omega)) dX12_comes_42 ?_
          have h28443 := Iy28409.arr e28441 rfl (a1.toInt.toNat)
          refine g_bipush (v := 40) C dX12_comes_43 (by decide) ?_
          refine b_icmp_ne C 50 dX12_comes_45 (by decide) (fun h28444 => ?_) (fun h28444 => ?_)
          · have h28444 : (pI Y28408 b28440 (a1.toInt.toNat)).toInt ≠ 40 := ti_ne h28444
            refine g_aload_n C dX12_comes_50 rfl 0 rfl ?_
            refine g_iload_n C dX12_comes_51 rfl 2 rfl ?_
            refine g_aload_n C dX12_comes_52 rfl 0 rfl ?_
            refine g_iload_n C dX12_comes_53 rfl 2 rfl ?_
            refine g_iload_n C dX12_comes_54 rfl 3 rfl ?_
            refine g_callVI (rest := [.int a2, .ref a0]) C mv_X12_261 [.int a2, .int a3] (s_X12_setOf Iy28409 (by omega) (fun b9 e9 => by rw [e28427] at e9; cases e9; show 1 ≤ (pI Y28408 b28426 (a2.toInt.toNat)).toInt ∧ (pI Y28408 b28426 (a2.toInt.toNat)).toInt ≤ 16; omega) W28412) (h28414).1 (h28414).2 rfl rfl (by decide) (Nat.le_of_ble_eq_true rfl) (by decide) dX12_comes_55 (fun r28445 Y28446 h28447 => ?_)
            obtain ⟨Iy28448, Xy28449, W28450, h28447⟩ := h28447
            have q28451 := Xy28449.keepF 0 (by decide)
            have q28452 := Xy28449.keepA e28427 (by decide) rfl (a2.toInt.toNat)
            have q28453 := Xy28449.keepA e28441 (by decide) rfl (a1.toInt.toNat)
            have Xz28454 : EM [0, 20, 21, 22, 23, 24, 25] a0 P Y28446 := EM.tr ha0 Xz28413 (Xy28449.mono (by decide))
            have e28455 := Xy28449.ref h28414 (by decide) e28427
            have e28456 := Xy28449.ref h28414 (by decide) e28441
            have h28457 := Xy28449.at h28414
            have h28458 := Xy28449.ar h28428
            have h28459 := Xy28449.ar h28442
            have h28447 : True := h28447
            refine g_callVI (rest := []) C mv_X12_223 [.int a2, .int r28445] (s_X12_sumOf Iy28448 (by omega) W28450) (h28457).1 (h28457).2 rfl rfl (by decide) (Nat.le_of_ble_eq_true rfl) (by decide) dX12_comes_58 (fun r28460 Y28461 h28462 => ?_)
            obtain ⟨rfl, h28462⟩ := h28462
            have h28462 : True := h28462
            refine g_istore (lv' := [(5, .int r28460), (0, .ref a0), (1, .int a1), (2, .int a2), (3, .int a3), (4, .int a4)]) C dX12_comes_61 (by decide) rfl ?_
            refine g_aload_n C dX12_comes_63 rfl 1 rfl ?_
            refine g_iload_n C dX12_comes_64 rfl 2 rfl ?_
            refine g_iload_n C dX12_comes_65 rfl 3 rfl ?_
            refine g_iload_n C dX12_comes_66 rfl 4 rfl ?_
            refine g_iload C dX12_comes_67 0 rfl ?_
            refine g_iload C dX12_comes_69 5 rfl ?_
            refine g_callSI (b := 0) (ci := 0) (rest := [.int a3, .int a2, .int a1, .ref a0]) C ms_X12_281 [.int r28460, .int a4] (s_X12_cutTo Iy28448.1) rfl rfl (by decide) (Nat.le_of_ble_eq_true rfl) (by decide) dX12_comes_71 (fun r28463 Y28464 h28465 => ?_)
            obtain ⟨rfl, h28465⟩ := h28465
            have h28465 : 0 ≤ r28463.toInt ∧ r28463.toInt ≤ 65535 := h28465
            refine g_iload C dX12_comes_74 5 rfl ?_
            refine g_aload_n C dX12_comes_76 rfl 1 rfl ?_
            refine g_iload_n C dX12_comes_77 rfl 3 rfl ?_
            refine g_iload_n C dX12_comes_78 rfl 4 rfl ?_
            refine g_iload C dX12_comes_79 0 rfl ?_
            refine g_callVI (rest := [.int a4, .int r28463, .int a3, .int a2, .int a1, .ref a0]) C mv_X12_267 [.int a2, .int a3, .int r28460] (s_X12_sealOf Iy28448 (by omega) W28450) (h28457).1 (h28457).2 rfl rfl (by decide) (Nat.le_of_ble_eq_true rfl) (by decide) dX12_comes_81 (fun r28466 Y28467 h28468 => ?_)
            obtain ⟨rfl, h28468⟩ := h28468
            have h28468 : True := h28468
            refine g_callVI (rest := []) C mv_X12_284 [.int a1, .int a2, .int a3, .int r28463, .int a4, .int r28466] (s_X12_lays Iy28448 (by omega) (by omega) (fun b9 e9 => by rw [e28456] at e9; cases e9; show 0 ≤ (pI Y28446 b28440 (a1.toInt.toNat)).toInt ∧ (pI Y28446 b28440 (a1.toInt.toNat)).toInt ≤ 39; omega) W28450 (fun c9 f9 _ => by rw [e28455] at f9; cases f9; show 0 < (pI Y28446 b28426 (a2.toInt.toNat)).toInt; omega)) (h28457).1 (h28457).2 rfl rfl (by decide) (Nat.le_of_ble_eq_true rfl) (by decide) dX12_comes_84 (fun r28469 Y28470 h28471 => ?_)
            obtain ⟨Iy28472, Xy28473, W28474, p28475, h28471⟩ := h28471
            have p28475 := p28475 b28440 e28456
            have p28475 : (pI Y28470 b28440 (a1.toInt.toNat)).toInt = (pI Y28446 b28440 (a1.toInt.toNat)).toInt + 1 := p28475
            have q28476 := Xy28473.keepF 0 (by decide)
            have q28477 := Xy28473.keepA e28455 (by decide) rfl (a2.toInt.toNat)
            have Xz28478 : EM [0, 20, 21, 22, 23, 24, 25] a0 P Y28470 := EM.tr ha0 Xz28454 (Xy28473.mono (by decide))
            have e28479 := Xy28473.ref h28457 (by decide) e28455
            have e28480 := Xy28473.ref h28457 (by decide) e28456
            have h28481 := Xy28473.at h28457
            have h28482 := Xy28473.ar h28458
            have h28483 := Xy28473.ar h28459
            have h28471 : 0 ≤ r28469.toInt ∧ r28469.toInt ≤ 39 := h28471
            exact ret _ _ _ _ _ _ dX12_comes_87 rfl (by decide) (by decide) ⟨Iy28472, Xz28478, W28474, (by omega)⟩
          · have h28444 : (pI Y28408 b28440 (a1.toInt.toNat)).toInt = 40 := congrArg Int32.toInt h28444
            refine g_lv (lv' := []) [] rfl ?_
            exact J48 Y28408 Iy28409 Xz28413 W28412 (by omega)
theorem s_X12_common {P : PP} {a0 a1 : Int64} (I : IV P) : CtrL yX12_common cX12_common 10 (some .long) ({ frames := 1, cells := 0, slots := 0, locals := 64 } : Room) 0 0 P [.long a0, .long a1] (fun _ P2 => P = P2 ∧ (True)) := by
  sorry
theorem dX12_copies_0 : decode cX12_copies 0 = .ok (.aload_n 0, 1) := by decide +kernel
theorem dX12_copies_1 : decode cX12_copies 1 = .ok (.getfield 69, 3) := by decide +kernel
theorem dX12_copies_4 : decode cX12_copies 4 = .ok (.iload_n 2, 1) := by decide +kernel
theorem dX12_copies_5 : decode cX12_copies 5 = .ok (.aload_n 0, 1) := by decide +kernel
theorem dX12_copies_6 : decode cX12_copies 6 = .ok (.getfield 69, 3) := by decide +kernel
theorem dX12_copies_9 : decode cX12_copies 9 = .ok (.iload_n 1, 1) := by decide +kernel
theorem dX12_copies_10 : decode cX12_copies 10 = .ok (.iaload, 1) := by decide +kernel
theorem dX12_copies_11 : decode cX12_copies 11 = .ok (.iastore, 1) := by decide +kernel
theorem dX12_copies_12 : decode cX12_copies 12 = .ok (.iconst 0, 1) := by decide +kernel
theorem dX12_copies_13 : decode cX12_copies 13 = .ok (.istore_n 3, 1) := by decide +kernel
theorem dX12_copies_14 : decode cX12_copies 14 = .ok (.iload_n 3, 1) := by decide +kernel
theorem dX12_copies_15 : decode cX12_copies 15 = .ok (.aload_n 0, 1) := by decide +kernel
theorem dX12_copies_16 : decode cX12_copies 16 = .ok (.getfield 69, 3) := by decide +kernel
theorem dX12_copies_19 : decode cX12_copies 19 = .ok (.iload_n 1, 1) := by decide +kernel
theorem dX12_copies_20 : decode cX12_copies 20 = .ok (.iaload, 1) := by decide +kernel
theorem dX12_copies_21 : decode cX12_copies 21 = .ok (.if_icmp .ge 25, 3) := by decide +kernel
theorem dX12_copies_24 : decode cX12_copies 24 = .ok (.aload_n 0, 1) := by decide +kernel
theorem dX12_copies_25 : decode cX12_copies 25 = .ok (.bipush 40, 2) := by decide +kernel
theorem dX12_copies_27 : decode cX12_copies 27 = .ok (.iload_n 1, 1) := by decide +kernel
theorem dX12_copies_28 : decode cX12_copies 28 = .ok (.imul, 1) := by decide +kernel
theorem dX12_copies_29 : decode cX12_copies 29 = .ok (.iload_n 3, 1) := by decide +kernel
theorem dX12_copies_30 : decode cX12_copies 30 = .ok (.iadd, 1) := by decide +kernel
theorem dX12_copies_31 : decode cX12_copies 31 = .ok (.bipush 40, 2) := by decide +kernel
theorem dX12_copies_33 : decode cX12_copies 33 = .ok (.iload_n 2, 1) := by decide +kernel
theorem dX12_copies_34 : decode cX12_copies 34 = .ok (.imul, 1) := by decide +kernel
theorem dX12_copies_35 : decode cX12_copies 35 = .ok (.iload_n 3, 1) := by decide +kernel
theorem dX12_copies_36 : decode cX12_copies 36 = .ok (.iadd, 1) := by decide +kernel
theorem dX12_copies_37 : decode cX12_copies 37 = .ok (.invokevirtual 274, 3) := by decide +kernel
theorem dX12_copies_40 : decode cX12_copies 40 = .ok (.iinc 3 1, 3) := by decide +kernel
theorem dX12_copies_43 : decode cX12_copies 43 = .ok (.goto (-29), 3) := by decide +kernel
theorem dX12_copies_46 : decode cX12_copies 46 = .ok (.return_, 1) := by decide +kernel
set_option maxHeartbeats 4000000 in
set_option maxRecDepth 100000 in
theorem s_X12_copies {P : PP} {a0 : Nat} {a1 : Int32} {a2 : Int32} (I : IM P a0) (ha1 : 0 ≤ a1.toInt ∧ a1.toInt ≤ 19) (ha2 : 0 ≤ a2.toInt ∧ a2.toInt ≤ 19) (hW : MW P a0) : CtrV yX12_copies cX12_copies 4 none ({ frames := 2, cells := 0, slots := 0, locals := 128 } : Room) 0 0 P [.ref a0, .int a1, .int a2] (fun P2 => IM P2 a0 ∧ EM [20, 21, 22, 23, 24, 25] a0 P P2 ∧ MW P2 a0) := by
  refine enV (lv := [(0, .ref a0), (1, .int a1), (2, .int a2)]) (by decide) (Nat.le_of_ble_eq_true rfl) rfl (fun E D cy C Ci0 ret => ?_)
  have ha0 := I.2.1
  have J14 : ∀ (n14 : Nat) (P14 : PP) (v14_3 : Int32), (40 - v14_3.toInt).toNat < n14 → (IM P14 a0) → (EM [20, 21, 22, 23, 24, 25] a0 P P14) → (MW P14 a0) → (0 ≤ v14_3.toInt ∧ v14_3.toInt ≤ 40) → G E ({ frames := 2, cells := 0, slots := 0, locals := 128 } : Room) D cy 4 P14 0 0 14 [(0, .ref a0), (1, .int a1), (2, .int a2), (3, .int v14_3)] [] := by
    intro n14
    induction n14 with
    | zero => intro P14 v14_3 hm14 I14 X14 W14 hv14_3; omega
    | succ n14 ih14 =>
      intro P14 v14_3 hm14 I14 X14 W14 hv14_3
      have h28902 := X14.at ha0
      refine g_iload_n C dX12_copies_14 rfl 3 rfl ?_
      refine g_aload_n C dX12_copies_15 rfl 0 rfl ?_
      obtain ⟨b28903, e28904, h28905⟩ := I14.fld (h28902) 20 13 20 rfl
      refine g_getR C fi_X12_69 rfl e28904 (h28902).1 (h28902).2 dX12_copies_16 ?_
      refine g_iload_n C dX12_copies_19 rfl 1 rfl ?_
      refine g_iald (j := (a1.toInt.toNat)) C h28905.1 h28905.2.1 (ix_in h28905.2.2 (by omega)) dX12_copies_20 ?_
      have h28906 := I14.arr e28904 rfl (a1.toInt.toNat)
      refine b_icmp_ge C 46 dX12_copies_21 (by decide) (fun h28907 => ?_) (fun h28907 => ?_)
      · have h28907 : (pI P14 b28903 (a1.toInt.toNat)).toInt ≤ v14_3.toInt := h28907
        exact ret _ _ _ _ _ dX12_copies_46 (by decide) (by decide) ⟨I14, X14, W14⟩
      · have h28907 : v14_3.toInt < (pI P14 b28903 (a1.toInt.toNat)).toInt := h28907
        refine g_aload_n C dX12_copies_24 rfl 0 rfl ?_
        refine g_bipush (v := 40) C dX12_copies_25 (by decide) ?_
        refine g_iload_n C dX12_copies_27 rfl 1 rfl ?_
        refine s_imul C dX12_copies_28 (by show -2147483648 ≤ 40 * a1.toInt ∧ 40 * a1.toInt ≤ 2147483647; omega) (fun z28908 h28909 => ?_)
        have h28909 : z28908.toInt = 40 * a1.toInt := h28909
        refine g_iload_n C dX12_copies_29 rfl 3 rfl ?_
        refine s_iadd C dX12_copies_30 (by show -2147483648 ≤ z28908.toInt + v14_3.toInt ∧ z28908.toInt + v14_3.toInt ≤ 2147483647; omega) (fun z28910 h28911 => ?_)
        have h28911 : z28910.toInt = z28908.toInt + v14_3.toInt := h28911
        refine g_bipush (v := 40) C dX12_copies_31 (by decide) ?_
        refine g_iload_n C dX12_copies_33 rfl 2 rfl ?_
        refine s_imul C dX12_copies_34 (by show -2147483648 ≤ 40 * a2.toInt ∧ 40 * a2.toInt ≤ 2147483647; omega) (fun z28912 h28913 => ?_)
        have h28913 : z28912.toInt = 40 * a2.toInt := h28913
        refine g_iload_n C dX12_copies_35 rfl 3 rfl ?_
        refine s_iadd C dX12_copies_36 (by show -2147483648 ≤ z28912.toInt + v14_3.toInt ∧ z28912.toInt + v14_3.toInt ≤ 2147483647; omega) (fun z28914 h28915 => ?_)
        have h28915 : z28914.toInt = z28912.toInt + v14_3.toInt := h28915
        refine g_callVV (rest := []) C mv_X12_274 [.int z28910, .int z28914] (s_X12_moves I14 (by omega) (by omega) W14) (h28902).1 (h28902).2 rfl rfl (by decide) (Nat.le_of_ble_eq_true rfl) (by decide) dX12_copies_37 (fun Y28917 h28918 => ?_)
        obtain ⟨Iy28919, Xy28920, W28921⟩ := h28918
        have q28922 := Xy28920.keepA e28904 (by decide) rfl (a1.toInt.toNat)
        have Xz28923 : EM [20, 21, 22, 23, 24, 25] a0 P Y28917 := EM.tr ha0 X14 (Xy28920.mono (by decide))
        have e28924 := Xy28920.ref h28902 (by decide) e28904
        have h28925 := Xy28920.at h28902
        have h28926 := Xy28920.ar h28905
        refine s_iinc (lv0 := [(0, .ref a0), (1, .int a1), (2, .int a2)]) (m := 1) C dX12_copies_40 3 rfl (by decide) rfl (by decide) (by omega) (fun z28927 h28928 => ?_)
        have h28928 : z28927.toInt = v14_3.toInt + 1 := h28928
        refine g_goto C 14 dX12_copies_43 (by decide) ?_
        refine g_lv (lv' := [(0, .ref a0), (1, .int a1), (2, .int a2), (3, .int z28927)]) [1, 2, 3, 0] rfl ?_
        exact ih14 Y28917 z28927 (by omega) Iy28919 Xz28923 W28921 (by omega)
  refine g_aload_n C dX12_copies_0 rfl 0 rfl ?_
  obtain ⟨b28929, e28930, h28931⟩ := I.fld (ha0) 20 13 20 rfl
  refine g_getR C fi_X12_69 rfl e28930 (ha0).1 (ha0).2 dX12_copies_1 ?_
  refine g_iload_n C dX12_copies_4 rfl 2 rfl ?_
  refine g_aload_n C dX12_copies_5 rfl 0 rfl ?_
  refine g_getR C fi_X12_69 rfl e28930 (ha0).1 (ha0).2 dX12_copies_6 ?_
  refine g_iload_n C dX12_copies_9 rfl 1 rfl ?_
  refine g_iald (j := (a1.toInt.toNat)) C h28931.1 h28931.2.1 (ix_in h28931.2.2 (by omega)) dX12_copies_10 ?_
  have h28932 := I.arr e28930 rfl (a1.toInt.toNat)
  refine g_iast (j := (a2.toInt.toNat)) C h28931.1 h28931.2.1 (ix_in h28931.2.2 (by omega)) dX12_copies_11 ?_
  refine gqW (ks := [20]) (I.setA e28930 h28931 (by decide) (arOk.of rfl (by omega))) (EM.setA I e28930 rfl (by decide)) (fun Y28933 Iy28934 Xy28935 w28936 => ?_)
  have w28936 : (pI Y28933 b28929 (a2.toInt.toNat)).toInt = (pI P b28929 (a1.toInt.toNat)).toInt := w28936
  have W28937 := hW.keep I Xy28935 (by decide) (by decide) (by decide)
  have Xz28938 : EM [20, 21, 22, 23, 24, 25] a0 P Y28933 := Xy28935.mono (by decide)
  have e28939 := Xy28935.ref ha0 (by decide) e28930
  have h28940 := Xy28935.at ha0
  have h28941 := Xy28935.ar h28931
  refine g_iconst (v := 0) C dX12_copies_12 (by decide) ?_
  refine g_istore_n (lv' := [(3, .int 0), (0, .ref a0), (1, .int a1), (2, .int a2)]) C dX12_copies_13 rfl (by decide) rfl ?_
  refine g_lv (lv' := [(0, .ref a0), (1, .int a1), (2, .int a2), (3, .int 0)]) [1, 2, 3, 0] rfl ?_
  exact J14 _ Y28933 0 (Nat.lt_succ_self _) Iy28934 Xz28938 W28937 (by decide)
