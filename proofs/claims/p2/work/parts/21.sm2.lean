theorem dX12_chances_0 : decode cX12_chances 0 = .ok (.aload_n 0, 1) := by decide +kernel
theorem dX12_chances_1 : decode cX12_chances 1 = .ok (.iconst 0, 1) := by decide +kernel
theorem dX12_chances_2 : decode cX12_chances 2 = .ok (.putfield 1, 3) := by decide +kernel
theorem dX12_chances_5 : decode cX12_chances 5 = .ok (.aload_n 0, 1) := by decide +kernel
theorem dX12_chances_6 : decode cX12_chances 6 = .ok (.iload_n 1, 1) := by decide +kernel
theorem dX12_chances_7 : decode cX12_chances 7 = .ok (.iload_n 2, 1) := by decide +kernel
theorem dX12_chances_8 : decode cX12_chances 8 = .ok (.iload 4, 2) := by decide +kernel
theorem dX12_chances_10 : decode cX12_chances 10 = .ok (.invokevirtual 377, 3) := by decide +kernel
theorem dX12_chances_13 : decode cX12_chances 13 = .ok (.ifCond .eq 12, 3) := by decide +kernel
theorem dX12_chances_16 : decode cX12_chances 16 = .ok (.iload_n 3, 1) := by decide +kernel
theorem dX12_chances_17 : decode cX12_chances 17 = .ok (.iconst 0, 1) := by decide +kernel
theorem dX12_chances_18 : decode cX12_chances 18 = .ok (.iload_n 2, 1) := by decide +kernel
theorem dX12_chances_19 : decode cX12_chances 19 = .ok (.invokestatic 178, 3) := by decide +kernel
theorem dX12_chances_22 : decode cX12_chances 22 = .ok (.ifCond .ne 5, 3) := by decide +kernel
theorem dX12_chances_27 : decode cX12_chances 27 = .ok (.aload_n 0, 1) := by decide +kernel
theorem dX12_chances_28 : decode cX12_chances 28 = .ok (.iload_n 1, 1) := by decide +kernel
theorem dX12_chances_29 : decode cX12_chances 29 = .ok (.iload_n 2, 1) := by decide +kernel
theorem dX12_chances_30 : decode cX12_chances 30 = .ok (.invokevirtual 380, 3) := by decide +kernel
theorem dX12_chancesOf_0 : decode cX12_chancesOf 0 = .ok (.iconst 0, 1) := by decide +kernel
theorem dX12_chancesOf_1 : decode cX12_chancesOf 1 = .ok (.istore 5, 2) := by decide +kernel
theorem dX12_chancesOf_3 : decode cX12_chancesOf 3 = .ok (.iconst 0, 1) := by decide +kernel
theorem dX12_chancesOf_4 : decode cX12_chancesOf 4 = .ok (.istore 6, 2) := by decide +kernel
theorem dX12_chancesOf_6 : decode cX12_chancesOf 6 = .ok (.iload 6, 2) := by decide +kernel
theorem dX12_chancesOf_8 : decode cX12_chancesOf 8 = .ok (.iconst 1, 1) := by decide +kernel
theorem dX12_chancesOf_9 : decode cX12_chancesOf 9 = .ok (.iload_n 2, 1) := by decide +kernel
theorem dX12_chancesOf_10 : decode cX12_chancesOf 10 = .ok (.ishl, 1) := by decide +kernel
theorem dX12_chancesOf_11 : decode cX12_chancesOf 11 = .ok (.if_icmp .ge 112, 3) := by decide +kernel
theorem dX12_chancesOf_14 : decode cX12_chancesOf 14 = .ok (.iload 6, 2) := by decide +kernel
theorem dX12_chancesOf_16 : decode cX12_chancesOf 16 = .ok (.invokestatic 264, 3) := by decide +kernel
theorem dX12_chancesOf_19 : decode cX12_chancesOf 19 = .ok (.iload_n 3, 1) := by decide +kernel
theorem dX12_chancesOf_20 : decode cX12_chancesOf 20 = .ok (.if_icmp .ne 97, 3) := by decide +kernel
theorem dX12_chancesOf_23 : decode cX12_chancesOf 23 = .ok (.aload_n 0, 1) := by decide +kernel
theorem dX12_chancesOf_24 : decode cX12_chancesOf 24 = .ok (.iload_n 1, 1) := by decide +kernel
theorem dX12_chancesOf_25 : decode cX12_chancesOf 25 = .ok (.invokevirtual 312, 3) := by decide +kernel
theorem dX12_chancesOf_28 : decode cX12_chancesOf 28 = .ok (.iconst 0, 1) := by decide +kernel
theorem dX12_chancesOf_29 : decode cX12_chancesOf 29 = .ok (.istore 7, 2) := by decide +kernel
theorem dX12_chancesOf_31 : decode cX12_chancesOf 31 = .ok (.iload 7, 2) := by decide +kernel
theorem dX12_chancesOf_33 : decode cX12_chancesOf 33 = .ok (.iload_n 2, 1) := by decide +kernel
theorem dX12_chancesOf_34 : decode cX12_chancesOf 34 = .ok (.if_icmp .ge 33, 3) := by decide +kernel
theorem dX12_chancesOf_37 : decode cX12_chancesOf 37 = .ok (.iload 6, 2) := by decide +kernel
theorem dX12_chancesOf_39 : decode cX12_chancesOf 39 = .ok (.iload 7, 2) := by decide +kernel
theorem dX12_chancesOf_41 : decode cX12_chancesOf 41 = .ok (.ishr, 1) := by decide +kernel
theorem dX12_chancesOf_42 : decode cX12_chancesOf 42 = .ok (.iconst 1, 1) := by decide +kernel
theorem dX12_chancesOf_43 : decode cX12_chancesOf 43 = .ok (.iand, 1) := by decide +kernel
theorem dX12_chancesOf_44 : decode cX12_chancesOf 44 = .ok (.iconst 1, 1) := by decide +kernel
theorem dX12_chancesOf_45 : decode cX12_chancesOf 45 = .ok (.if_icmp .ne 16, 3) := by decide +kernel
theorem dX12_chancesOf_48 : decode cX12_chancesOf 48 = .ok (.aload_n 0, 1) := by decide +kernel
theorem dX12_chancesOf_49 : decode cX12_chancesOf 49 = .ok (.aload_n 0, 1) := by decide +kernel
theorem dX12_chancesOf_50 : decode cX12_chancesOf 50 = .ok (.getfield 121, 3) := by decide +kernel
theorem dX12_chancesOf_53 : decode cX12_chancesOf 53 = .ok (.iload 7, 2) := by decide +kernel
theorem dX12_chancesOf_55 : decode cX12_chancesOf 55 = .ok (.iaload, 1) := by decide +kernel
theorem dX12_chancesOf_56 : decode cX12_chancesOf 56 = .ok (.iconst 0, 1) := by decide +kernel
theorem dX12_chancesOf_57 : decode cX12_chancesOf 57 = .ok (.iconst (-1), 1) := by decide +kernel
theorem dX12_chancesOf_58 : decode cX12_chancesOf 58 = .ok (.invokevirtual 308, 3) := by decide +kernel
theorem dX12_chancesOf_61 : decode cX12_chancesOf 61 = .ok (.iinc 7 1, 3) := by decide +kernel
theorem dX12_chancesOf_64 : decode cX12_chancesOf 64 = .ok (.goto (-33), 3) := by decide +kernel
theorem dX12_chancesOf_67 : decode cX12_chancesOf 67 = .ok (.iload 4, 2) := by decide +kernel
theorem dX12_chancesOf_69 : decode cX12_chancesOf 69 = .ok (.ifCond .ne 10, 3) := by decide +kernel
theorem dX12_chancesOf_79 : decode cX12_chancesOf 79 = .ok (.aload_n 0, 1) := by decide +kernel
theorem dX12_chancesOf_80 : decode cX12_chancesOf 80 = .ok (.invokevirtual 346, 3) := by decide +kernel
theorem dX12_chancesOf_117 : decode cX12_chancesOf 117 = .ok (.iinc 6 1, 3) := by decide +kernel
theorem dX12_chancesOf_120 : decode cX12_chancesOf 120 = .ok (.goto (-114), 3) := by decide +kernel
theorem dX12_chancesOf_123 : decode cX12_chancesOf 123 = .ok (.iload 5, 2) := by decide +kernel
theorem dX12_chancesOf_125 : decode cX12_chancesOf 125 = .ok (.ireturn, 1) := by decide +kernel
theorem dX12_findSolved_0 : decode cX12_findSolved 0 = .ok (.aload_n 0, 1) := by decide +kernel
theorem dX12_findSolved_1 : decode cX12_findSolved 1 = .ok (.iconst 0, 1) := by decide +kernel
theorem dX12_findSolved_2 : decode cX12_findSolved 2 = .ok (.putfield 324, 3) := by decide +kernel
theorem dX12_findSolved_5 : decode cX12_findSolved 5 = .ok (.aload_n 0, 1) := by decide +kernel
theorem dX12_findSolved_6 : decode cX12_findSolved 6 = .ok (.iconst 1, 1) := by decide +kernel
theorem dX12_findSolved_7 : decode cX12_findSolved 7 = .ok (.putfield 326, 3) := by decide +kernel
theorem dX12_findSolved_10 : decode cX12_findSolved 10 = .ok (.iconst 0, 1) := by decide +kernel
theorem dX12_findSolved_11 : decode cX12_findSolved 11 = .ok (.istore_n 1, 1) := by decide +kernel
theorem dX12_findSolved_12 : decode cX12_findSolved 12 = .ok (.iload_n 1, 1) := by decide +kernel
theorem dX12_findSolved_13 : decode cX12_findSolved 13 = .ok (.bipush 20, 2) := by decide +kernel
theorem dX12_findSolved_15 : decode cX12_findSolved 15 = .ok (.if_icmp .ge 16, 3) := by decide +kernel
theorem dX12_findSolved_18 : decode cX12_findSolved 18 = .ok (.aload_n 0, 1) := by decide +kernel
theorem dX12_findSolved_19 : decode cX12_findSolved 19 = .ok (.getfield 106, 3) := by decide +kernel
theorem dX12_findSolved_22 : decode cX12_findSolved 22 = .ok (.iload_n 1, 1) := by decide +kernel
theorem dX12_findSolved_23 : decode cX12_findSolved 23 = .ok (.iconst 0, 1) := by decide +kernel
theorem dX12_findSolved_24 : decode cX12_findSolved 24 = .ok (.iastore, 1) := by decide +kernel
theorem dX12_findSolved_25 : decode cX12_findSolved 25 = .ok (.iinc 1 1, 3) := by decide +kernel
theorem dX12_findSolved_28 : decode cX12_findSolved 28 = .ok (.goto (-16), 3) := by decide +kernel
theorem dX12_findSolved_31 : decode cX12_findSolved 31 = .ok (.iconst 0, 1) := by decide +kernel
theorem dX12_findSolved_32 : decode cX12_findSolved 32 = .ok (.istore_n 1, 1) := by decide +kernel
theorem dX12_findSolved_33 : decode cX12_findSolved 33 = .ok (.iload_n 1, 1) := by decide +kernel
theorem dX12_findSolved_34 : decode cX12_findSolved 34 = .ok (.aload_n 0, 1) := by decide +kernel
theorem dX12_findSolved_35 : decode cX12_findSolved 35 = .ok (.getfield 305, 3) := by decide +kernel
theorem dX12_findSolved_38 : decode cX12_findSolved 38 = .ok (.if_icmp .ge 224, 3) := by decide +kernel
theorem dX12_findSolved_41 : decode cX12_findSolved 41 = .ok (.aload_n 0, 1) := by decide +kernel
theorem dX12_findSolved_42 : decode cX12_findSolved 42 = .ok (.getfield 91, 3) := by decide +kernel
theorem dX12_findSolved_45 : decode cX12_findSolved 45 = .ok (.iload_n 1, 1) := by decide +kernel
theorem dX12_findSolved_46 : decode cX12_findSolved 46 = .ok (.iaload, 1) := by decide +kernel
theorem dX12_findSolved_47 : decode cX12_findSolved 47 = .ok (.istore_n 2, 1) := by decide +kernel
theorem dX12_findSolved_48 : decode cX12_findSolved 48 = .ok (.aload_n 0, 1) := by decide +kernel
theorem dX12_findSolved_49 : decode cX12_findSolved 49 = .ok (.getfield 94, 3) := by decide +kernel
theorem dX12_findSolved_52 : decode cX12_findSolved 52 = .ok (.iload_n 1, 1) := by decide +kernel
theorem dX12_findSolved_53 : decode cX12_findSolved 53 = .ok (.iaload, 1) := by decide +kernel
theorem dX12_findSolved_54 : decode cX12_findSolved 54 = .ok (.istore_n 3, 1) := by decide +kernel
theorem dX12_findSolved_55 : decode cX12_findSolved 55 = .ok (.iconst 0, 1) := by decide +kernel
theorem dX12_findSolved_56 : decode cX12_findSolved 56 = .ok (.istore 4, 2) := by decide +kernel
theorem dX12_findSolved_58 : decode cX12_findSolved 58 = .ok (.iload 4, 2) := by decide +kernel
theorem dX12_findSolved_60 : decode cX12_findSolved 60 = .ok (.bipush 20, 2) := by decide +kernel
theorem dX12_findSolved_62 : decode cX12_findSolved 62 = .ok (.if_icmp .ge 49, 3) := by decide +kernel
theorem dX12_findSolved_65 : decode cX12_findSolved 65 = .ok (.iload_n 2, 1) := by decide +kernel
theorem dX12_findSolved_66 : decode cX12_findSolved 66 = .ok (.iload 4, 2) := by decide +kernel
theorem dX12_findSolved_68 : decode cX12_findSolved 68 = .ok (.ishr, 1) := by decide +kernel
theorem dX12_findSolved_69 : decode cX12_findSolved 69 = .ok (.iconst 1, 1) := by decide +kernel
theorem dX12_findSolved_70 : decode cX12_findSolved 70 = .ok (.iand, 1) := by decide +kernel
theorem dX12_findSolved_71 : decode cX12_findSolved 71 = .ok (.iconst 1, 1) := by decide +kernel
theorem dX12_findSolved_72 : decode cX12_findSolved 72 = .ok (.if_icmp .ne 33, 3) := by decide +kernel
theorem dX12_findSolved_75 : decode cX12_findSolved 75 = .ok (.aload_n 0, 1) := by decide +kernel
theorem dX12_findSolved_76 : decode cX12_findSolved 76 = .ok (.getfield 106, 3) := by decide +kernel
theorem dX12_findSolved_79 : decode cX12_findSolved 79 = .ok (.iload 4, 2) := by decide +kernel
theorem dX12_findSolved_81 : decode cX12_findSolved 81 = .ok (.iaload, 1) := by decide +kernel
theorem dX12_findSolved_82 : decode cX12_findSolved 82 = .ok (.ifCond .eq 23, 3) := by decide +kernel
theorem dX12_findSolved_85 : decode cX12_findSolved 85 = .ok (.iload_n 2, 1) := by decide +kernel
theorem dX12_findSolved_86 : decode cX12_findSolved 86 = .ok (.aload_n 0, 1) := by decide +kernel
theorem dX12_findSolved_87 : decode cX12_findSolved 87 = .ok (.getfield 106, 3) := by decide +kernel
theorem dX12_findSolved_90 : decode cX12_findSolved 90 = .ok (.iload 4, 2) := by decide +kernel
theorem dX12_findSolved_92 : decode cX12_findSolved 92 = .ok (.iaload, 1) := by decide +kernel
theorem dX12_findSolved_93 : decode cX12_findSolved 93 = .ok (.ixor, 1) := by decide +kernel
theorem dX12_findSolved_94 : decode cX12_findSolved 94 = .ok (.istore_n 2, 1) := by decide +kernel
theorem dX12_findSolved_95 : decode cX12_findSolved 95 = .ok (.iload_n 3, 1) := by decide +kernel
theorem dX12_findSolved_96 : decode cX12_findSolved 96 = .ok (.aload_n 0, 1) := by decide +kernel
theorem dX12_findSolved_97 : decode cX12_findSolved 97 = .ok (.getfield 109, 3) := by decide +kernel
theorem dX12_findSolved_100 : decode cX12_findSolved 100 = .ok (.iload 4, 2) := by decide +kernel
theorem dX12_findSolved_102 : decode cX12_findSolved 102 = .ok (.iaload, 1) := by decide +kernel
theorem dX12_findSolved_103 : decode cX12_findSolved 103 = .ok (.ixor, 1) := by decide +kernel
theorem dX12_findSolved_104 : decode cX12_findSolved 104 = .ok (.istore_n 3, 1) := by decide +kernel
theorem dX12_findSolved_105 : decode cX12_findSolved 105 = .ok (.iinc 4 1, 3) := by decide +kernel
theorem dX12_findSolved_108 : decode cX12_findSolved 108 = .ok (.goto (-50), 3) := by decide +kernel
theorem dX12_findSolved_111 : decode cX12_findSolved 111 = .ok (.iconst (-1), 1) := by decide +kernel
theorem dX12_findSolved_112 : decode cX12_findSolved 112 = .ok (.istore 4, 2) := by decide +kernel
theorem dX12_findSolved_114 : decode cX12_findSolved 114 = .ok (.bipush 19, 2) := by decide +kernel
theorem dX12_findSolved_116 : decode cX12_findSolved 116 = .ok (.istore 5, 2) := by decide +kernel
theorem dX12_findSolved_118 : decode cX12_findSolved 118 = .ok (.iload 5, 2) := by decide +kernel
theorem dX12_findSolved_120 : decode cX12_findSolved 120 = .ok (.ifCond .lt 28, 3) := by decide +kernel
theorem dX12_findSolved_123 : decode cX12_findSolved 123 = .ok (.iload_n 2, 1) := by decide +kernel
theorem dX12_findSolved_124 : decode cX12_findSolved 124 = .ok (.iload 5, 2) := by decide +kernel
theorem dX12_findSolved_126 : decode cX12_findSolved 126 = .ok (.ishr, 1) := by decide +kernel
theorem dX12_findSolved_127 : decode cX12_findSolved 127 = .ok (.iconst 1, 1) := by decide +kernel
theorem dX12_findSolved_128 : decode cX12_findSolved 128 = .ok (.iand, 1) := by decide +kernel
theorem dX12_findSolved_129 : decode cX12_findSolved 129 = .ok (.iconst 1, 1) := by decide +kernel
theorem dX12_findSolved_130 : decode cX12_findSolved 130 = .ok (.if_icmp .ne 8, 3) := by decide +kernel
theorem dX12_findSolved_133 : decode cX12_findSolved 133 = .ok (.iload 5, 2) := by decide +kernel
theorem dX12_findSolved_135 : decode cX12_findSolved 135 = .ok (.goto 5, 3) := by decide +kernel
theorem dX12_findSolved_138 : decode cX12_findSolved 138 = .ok (.iload 4, 2) := by decide +kernel
theorem dX12_findSolved_140 : decode cX12_findSolved 140 = .ok (.istore 4, 2) := by decide +kernel
theorem dX12_findSolved_142 : decode cX12_findSolved 142 = .ok (.iinc 5 (-1), 3) := by decide +kernel
theorem dX12_findSolved_145 : decode cX12_findSolved 145 = .ok (.goto (-27), 3) := by decide +kernel
theorem dX12_findSolved_148 : decode cX12_findSolved 148 = .ok (.iload 4, 2) := by decide +kernel
theorem dX12_findSolved_150 : decode cX12_findSolved 150 = .ok (.ifCond .ge 26, 3) := by decide +kernel
theorem dX12_findSolved_153 : decode cX12_findSolved 153 = .ok (.aload_n 0, 1) := by decide +kernel
theorem dX12_findSolved_154 : decode cX12_findSolved 154 = .ok (.aload_n 0, 1) := by decide +kernel
theorem dX12_findSolved_155 : decode cX12_findSolved 155 = .ok (.getfield 326, 3) := by decide +kernel
theorem dX12_findSolved_158 : decode cX12_findSolved 158 = .ok (.ifCond .eq 11, 3) := by decide +kernel
theorem dX12_findSolved_161 : decode cX12_findSolved 161 = .ok (.iload_n 3, 1) := by decide +kernel
theorem dX12_findSolved_162 : decode cX12_findSolved 162 = .ok (.ifCond .ne 7, 3) := by decide +kernel
theorem dX12_findSolved_165 : decode cX12_findSolved 165 = .ok (.iconst 1, 1) := by decide +kernel
theorem dX12_findSolved_166 : decode cX12_findSolved 166 = .ok (.goto 4, 3) := by decide +kernel
theorem dX12_findSolved_169 : decode cX12_findSolved 169 = .ok (.iconst 0, 1) := by decide +kernel
theorem dX12_findSolved_170 : decode cX12_findSolved 170 = .ok (.putfield 326, 3) := by decide +kernel
theorem dX12_findSolved_173 : decode cX12_findSolved 173 = .ok (.goto 83, 3) := by decide +kernel
theorem dX12_findSolved_176 : decode cX12_findSolved 176 = .ok (.iconst 0, 1) := by decide +kernel
theorem dX12_findSolved_177 : decode cX12_findSolved 177 = .ok (.istore 5, 2) := by decide +kernel
theorem dX12_findSolved_179 : decode cX12_findSolved 179 = .ok (.iload 5, 2) := by decide +kernel
theorem dX12_findSolved_181 : decode cX12_findSolved 181 = .ok (.bipush 20, 2) := by decide +kernel
theorem dX12_findSolved_183 : decode cX12_findSolved 183 = .ok (.if_icmp .ge 47, 3) := by decide +kernel
theorem dX12_findSolved_186 : decode cX12_findSolved 186 = .ok (.aload_n 0, 1) := by decide +kernel
theorem dX12_findSolved_187 : decode cX12_findSolved 187 = .ok (.getfield 106, 3) := by decide +kernel
theorem dX12_findSolved_190 : decode cX12_findSolved 190 = .ok (.iload 5, 2) := by decide +kernel
theorem dX12_findSolved_192 : decode cX12_findSolved 192 = .ok (.iaload, 1) := by decide +kernel
theorem dX12_findSolved_193 : decode cX12_findSolved 193 = .ok (.iload 4, 2) := by decide +kernel
theorem dX12_findSolved_195 : decode cX12_findSolved 195 = .ok (.ishr, 1) := by decide +kernel
theorem dX12_findSolved_196 : decode cX12_findSolved 196 = .ok (.iconst 1, 1) := by decide +kernel
theorem dX12_findSolved_197 : decode cX12_findSolved 197 = .ok (.iand, 1) := by decide +kernel
theorem dX12_findSolved_198 : decode cX12_findSolved 198 = .ok (.iconst 1, 1) := by decide +kernel
theorem dX12_findSolved_199 : decode cX12_findSolved 199 = .ok (.if_icmp .ne 25, 3) := by decide +kernel
theorem dX12_findSolved_202 : decode cX12_findSolved 202 = .ok (.aload_n 0, 1) := by decide +kernel
theorem dX12_findSolved_203 : decode cX12_findSolved 203 = .ok (.getfield 106, 3) := by decide +kernel
theorem dX12_findSolved_206 : decode cX12_findSolved 206 = .ok (.iload 5, 2) := by decide +kernel
theorem dX12_findSolved_208 : decode cX12_findSolved 208 = .ok (.dup2, 1) := by decide +kernel
theorem dX12_findSolved_209 : decode cX12_findSolved 209 = .ok (.iaload, 1) := by decide +kernel
theorem dX12_findSolved_210 : decode cX12_findSolved 210 = .ok (.iload_n 2, 1) := by decide +kernel
theorem dX12_findSolved_211 : decode cX12_findSolved 211 = .ok (.ixor, 1) := by decide +kernel
theorem dX12_findSolved_212 : decode cX12_findSolved 212 = .ok (.iastore, 1) := by decide +kernel
theorem dX12_findSolved_213 : decode cX12_findSolved 213 = .ok (.aload_n 0, 1) := by decide +kernel
theorem dX12_findSolved_214 : decode cX12_findSolved 214 = .ok (.getfield 109, 3) := by decide +kernel
theorem dX12_findSolved_217 : decode cX12_findSolved 217 = .ok (.iload 5, 2) := by decide +kernel
theorem dX12_findSolved_219 : decode cX12_findSolved 219 = .ok (.dup2, 1) := by decide +kernel
theorem dX12_findSolved_220 : decode cX12_findSolved 220 = .ok (.iaload, 1) := by decide +kernel
theorem dX12_findSolved_221 : decode cX12_findSolved 221 = .ok (.iload_n 3, 1) := by decide +kernel
theorem dX12_findSolved_222 : decode cX12_findSolved 222 = .ok (.ixor, 1) := by decide +kernel
theorem dX12_findSolved_223 : decode cX12_findSolved 223 = .ok (.iastore, 1) := by decide +kernel
theorem dX12_findSolved_224 : decode cX12_findSolved 224 = .ok (.iinc 5 1, 3) := by decide +kernel
theorem dX12_findSolved_227 : decode cX12_findSolved 227 = .ok (.goto (-48), 3) := by decide +kernel
theorem dX12_findSolved_230 : decode cX12_findSolved 230 = .ok (.aload_n 0, 1) := by decide +kernel
theorem dX12_findSolved_231 : decode cX12_findSolved 231 = .ok (.getfield 106, 3) := by decide +kernel
theorem dX12_findSolved_234 : decode cX12_findSolved 234 = .ok (.iload 4, 2) := by decide +kernel
theorem dX12_findSolved_236 : decode cX12_findSolved 236 = .ok (.iload_n 2, 1) := by decide +kernel
theorem dX12_findSolved_237 : decode cX12_findSolved 237 = .ok (.iastore, 1) := by decide +kernel
theorem dX12_findSolved_238 : decode cX12_findSolved 238 = .ok (.aload_n 0, 1) := by decide +kernel
theorem dX12_findSolved_239 : decode cX12_findSolved 239 = .ok (.getfield 109, 3) := by decide +kernel
theorem dX12_findSolved_242 : decode cX12_findSolved 242 = .ok (.iload 4, 2) := by decide +kernel
theorem dX12_findSolved_244 : decode cX12_findSolved 244 = .ok (.iload_n 3, 1) := by decide +kernel
theorem dX12_findSolved_245 : decode cX12_findSolved 245 = .ok (.iastore, 1) := by decide +kernel
theorem dX12_findSolved_246 : decode cX12_findSolved 246 = .ok (.aload_n 0, 1) := by decide +kernel
theorem dX12_findSolved_247 : decode cX12_findSolved 247 = .ok (.dup, 1) := by decide +kernel
theorem dX12_findSolved_248 : decode cX12_findSolved 248 = .ok (.getfield 324, 3) := by decide +kernel
theorem dX12_findSolved_251 : decode cX12_findSolved 251 = .ok (.iconst 1, 1) := by decide +kernel
theorem dX12_findSolved_252 : decode cX12_findSolved 252 = .ok (.iadd, 1) := by decide +kernel
theorem dX12_findSolved_253 : decode cX12_findSolved 253 = .ok (.putfield 324, 3) := by decide +kernel
theorem dX12_findSolved_256 : decode cX12_findSolved 256 = .ok (.iinc 1 1, 3) := by decide +kernel
theorem dX12_findSolved_259 : decode cX12_findSolved 259 = .ok (.goto (-226), 3) := by decide +kernel
theorem dX12_findSolved_262 : decode cX12_findSolved 262 = .ok (.return_, 1) := by decide +kernel
set_option maxHeartbeats 4000000 in
set_option maxRecDepth 100000 in
theorem s_X12_findSolved {P : PP} {a0 : Nat} (I : IM P a0) : CtrV yX12_findSolved cX12_findSolved 6 none ({ frames := 1, cells := 0, slots := 0, locals := 64 } : Room) 0 0 P [.ref a0] (fun P2 => IM P2 a0 ∧ EM [35, 36, 37, 38] a0 P P2) := by
  refine enV (lv := [(0, .ref a0)]) (by decide) (Nat.le_of_ble_eq_true rfl) rfl (fun E D cy C Ci0 ret => ?_)
  have ha0 := I.2.1
  have J33 : ∀ (n33 : Nat) (P33 : PP) (v33_1 : Int32), (100 - v33_1.toInt).toNat < n33 → (IM P33 a0) → (EM [35, 36, 37, 38] a0 P P33) → (0 ≤ v33_1.toInt ∧ v33_1.toInt ≤ 100) → G E ({ frames := 1, cells := 0, slots := 0, locals := 64 } : Room) D cy 6 P33 0 0 33 [(0, .ref a0), (1, .int v33_1)] [] := by
    intro n33
    induction n33 with
    | zero => intro P33 v33_1 hm33 I33 X33 hv33_1; omega
    | succ n33 ih33 =>
      intro P33 v33_1 hm33 I33 X33 hv33_1
      have h12970 := X33.at ha0
      have J256 : ∀ (P256 : PP), (IM P256 a0) → (EM [35, 36, 37, 38] a0 P P256) → (0 ≤ v33_1.toInt ∧ v33_1.toInt ≤ 64) → (1 ≤ (pI P256 a0 28).toInt ∧ (pI P256 a0 28).toInt ≤ 64) → G E ({ frames := 1, cells := 0, slots := 0, locals := 64 } : Room) D cy 6 P256 0 0 256 [(0, .ref a0), (1, .int v33_1)] [] := by
        intro P256 I256 X256 hv256_1 hq256_0
        have h12971 := X256.at ha0
        refine s_iinc (lv0 := [(0, .ref a0)]) (m := 1) C dX12_findSolved_256 1 rfl (by decide) rfl (by decide) (by omega) (fun z12972 h12973 => ?_)
        have h12973 : z12972.toInt = v33_1.toInt + 1 := h12973
        refine g_goto C 33 dX12_findSolved_259 (by decide) ?_
        refine g_lv (lv' := [(0, .ref a0), (1, .int z12972)]) [1, 0] rfl ?_
        exact ih33 P256 z12972 (by omega) I256 X256 (by omega)
      have J179 : ∀ (n179 : Nat) (P179 : PP) (v179_2 : Int32) (v179_3 : Int32) (v179_4 : Int32) (v179_5 : Int32), (20 - v179_5.toInt).toNat < n179 → (IM P179 a0) → (EM [35, 36, 37, 38] a0 P P179) → (0 ≤ v33_1.toInt ∧ v33_1.toInt ≤ 64) → (0 ≤ v179_4.toInt ∧ v179_4.toInt ≤ 19) → (0 ≤ v179_5.toInt ∧ v179_5.toInt ≤ 20) → (1 ≤ (pI P179 a0 28).toInt ∧ (pI P179 a0 28).toInt ≤ 64) → G E ({ frames := 1, cells := 0, slots := 0, locals := 64 } : Room) D cy 6 P179 0 0 179 [(0, .ref a0), (1, .int v33_1), (2, .int v179_2), (3, .int v179_3), (4, .int v179_4), (5, .int v179_5)] [] := by
        intro n179
        induction n179 with
        | zero => intro P179 v179_2 v179_3 v179_4 v179_5 hm179 I179 X179 hv179_1 hv179_4 hv179_5 hq179_0; omega
        | succ n179 ih179 =>
          intro P179 v179_2 v179_3 v179_4 v179_5 hm179 I179 X179 hv179_1 hv179_4 hv179_5 hq179_0
          have h12974 := X179.at ha0
          have J224 : ∀ (P224 : PP), (IM P224 a0) → (EM [35, 36, 37, 38] a0 P P224) → (0 ≤ v33_1.toInt ∧ v33_1.toInt ≤ 64) → (0 ≤ v179_5.toInt ∧ v179_5.toInt ≤ 19) → (1 ≤ (pI P224 a0 28).toInt ∧ (pI P224 a0 28).toInt ≤ 64) → G E ({ frames := 1, cells := 0, slots := 0, locals := 64 } : Room) D cy 6 P224 0 0 224 [(0, .ref a0), (1, .int v33_1), (2, .int v179_2), (3, .int v179_3), (4, .int v179_4), (5, .int v179_5)] [] := by
            intro P224 I224 X224 hv224_1 hv224_5 hq224_0
            have h12975 := X224.at ha0
            refine s_iinc (lv0 := [(0, .ref a0), (1, .int v33_1), (2, .int v179_2), (3, .int v179_3), (4, .int v179_4)]) (m := 1) C dX12_findSolved_224 5 rfl (by decide) rfl (by decide) (by omega) (fun z12976 h12977 => ?_)
            have h12977 : z12976.toInt = v179_5.toInt + 1 := h12977
            refine g_goto C 179 dX12_findSolved_227 (by decide) ?_
            refine g_lv (lv' := [(0, .ref a0), (1, .int v33_1), (2, .int v179_2), (3, .int v179_3), (4, .int v179_4), (5, .int z12976)]) [1, 2, 3, 4, 5, 0] rfl ?_
            exact ih179 P224 v179_2 v179_3 v179_4 z12976 (by omega) I224 X224 (by omega) (by omega) (by omega) (by omega)
          refine g_iload C dX12_findSolved_179 5 rfl ?_
          refine g_bipush (v := 20) C dX12_findSolved_181 (by decide) ?_
          refine b_icmp_ge C 230 dX12_findSolved_183 (by decide) (fun h12978 => ?_) (fun h12978 => ?_)
          · have h12978 : 20 ≤ v179_5.toInt := h12978
            refine g_aload_n C dX12_findSolved_230 rfl 0 rfl ?_
            obtain ⟨b12979, e12980, h12981⟩ := I179.fld (h12974) 37 13 20 rfl
            refine g_getR C fi_X12_106 rfl e12980 (h12974).1 (h12974).2 dX12_findSolved_231 ?_
            refine g_iload C dX12_findSolved_234 4 rfl ?_
            refine g_iload_n C dX12_findSolved_236 rfl 2 rfl ?_
            refine g_iast (j := (v179_4.toInt.toNat)) C h12981.1 h12981.2.1 (ix_in h12981.2.2 (by omega)) dX12_findSolved_237 ?_
            refine gqW (ks := [37]) (I179.setA e12980 h12981 (by decide) (arOk.none rfl)) (EM.setA I179 e12980 rfl (by decide)) (fun Y12982 Iy12983 Xy12984 w12985 => ?_)
            have w12985 : (pI Y12982 b12979 (v179_4.toInt.toNat)).toInt = v179_2.toInt := w12985
            have q12986 := Xy12984.keepF 28 (by decide)
            have Xz12987 : EM [35, 36, 37, 38] a0 P Y12982 := EM.tr ha0 X179 (Xy12984.mono (by decide))
            have e12988 := Xy12984.ref h12974 (by decide) e12980
            have h12989 := Xy12984.at h12974
            have h12990 := Xy12984.ar h12981
            refine g_aload_n C dX12_findSolved_238 rfl 0 rfl ?_
            obtain ⟨b12991, e12992, h12993⟩ := Iy12983.fld (h12989) 38 13 20 rfl
            refine g_getR C fi_X12_109 rfl e12992 (h12989).1 (h12989).2 dX12_findSolved_239 ?_
            refine g_iload C dX12_findSolved_242 4 rfl ?_
            refine g_iload_n C dX12_findSolved_244 rfl 3 rfl ?_
            refine g_iast (j := (v179_4.toInt.toNat)) C h12993.1 h12993.2.1 (ix_in h12993.2.2 (by omega)) dX12_findSolved_245 ?_
            refine gqW (ks := [38]) (Iy12983.setA e12992 h12993 (by decide) (arOk.none rfl)) (EM.setA Iy12983 e12992 rfl (by decide)) (fun Y12994 Iy12995 Xy12996 w12997 => ?_)
            have w12997 : (pI Y12994 b12991 (v179_4.toInt.toNat)).toInt = v179_3.toInt := w12997
            have q12998 := Xy12996.keepF 28 (by decide)
            have q12999 := Xy12996.keepA e12988 (by decide) rfl (v179_4.toInt.toNat)
            have Xz13000 : EM [35, 36, 37, 38] a0 P Y12994 := EM.tr ha0 Xz12987 (Xy12996.mono (by decide))
            have e13001 := Xy12996.ref h12989 (by decide) e12988
            have e13002 := Xy12996.ref h12989 (by decide) e12992
            have h13003 := Xy12996.at h12989
            have h13004 := Xy12996.ar h12990
            have h13005 := Xy12996.ar h12993
            refine g_aload_n C dX12_findSolved_246 rfl 0 rfl ?_
            refine g_dup C dX12_findSolved_247 rfl ?_
            refine g_getI C fi_X12_324 (by decide) (h13003).1 (h13003).2 dX12_findSolved_248 ?_
            refine g_iconst (v := 1) C dX12_findSolved_251 (by decide) ?_
            refine a_iadd C dX12_findSolved_252 (fun z13006 => ?_)
            refine g_putI C fi_X12_324 rfl (h13003).1 (h13003).2 dX12_findSolved_253 ?_
            refine gqW (ks := [35]) (Iy12995.setI (rgOk.none rfl)) (EM.setI Iy12995 (by decide)) (fun Y13008 Iy13009 Xy13010 w13011 => ?_)
            have w13011 : (pI Y13008 a0 35).toInt = z13006.toInt := w13011
            have q13012 := Xy13010.keepF 28 (by decide)
            have q13013 := Xy13010.keepA e13001 (by decide) rfl (v179_4.toInt.toNat)
            have q13014 := Xy13010.keepA e13002 (by decide) rfl (v179_4.toInt.toNat)
            have Xz13015 : EM [35, 36, 37, 38] a0 P Y13008 := EM.tr ha0 Xz13000 (Xy13010.mono (by decide))
            have e13016 := Xy13010.ref h13003 (by decide) e13001
            have e13017 := Xy13010.ref h13003 (by decide) e13002
            have h13018 := Xy13010.at h13003
            have h13019 := Xy13010.ar h13004
            have h13020 := Xy13010.ar h13005
            refine g_lv (lv' := [(0, .ref a0), (1, .int v33_1)]) [0, 1] rfl ?_
            exact J256 Y13008 Iy13009 Xz13015 (by omega) (by omega)
          · have h12978 : v179_5.toInt < 20 := h12978
            refine g_aload_n C dX12_findSolved_186 rfl 0 rfl ?_
            obtain ⟨b13021, e13022, h13023⟩ := I179.fld (h12974) 37 13 20 rfl
            refine g_getR C fi_X12_106 rfl e13022 (h12974).1 (h12974).2 dX12_findSolved_187 ?_
            refine g_iload C dX12_findSolved_190 5 rfl ?_
            refine g_iald (j := (v179_5.toInt.toNat)) C h13023.1 h13023.2.1 (ix_in h13023.2.2 (by omega)) dX12_findSolved_192 ?_
            refine g_iload C dX12_findSolved_193 4 rfl ?_
            refine a_ishr C dX12_findSolved_195 (fun z13024 => ?_)
            refine g_iconst (v := 1) C dX12_findSolved_196 (by decide) ?_
            refine s_iand C dX12_findSolved_197 (by show 0 ≤ 1; omega) (fun z13026 h13027 => ?_)
            have h13027 : 0 ≤ z13026.toInt ∧ z13026.toInt ≤ 1 := h13027
            refine g_iconst (v := 1) C dX12_findSolved_198 (by decide) ?_
            refine b_icmp_ne C 224 dX12_findSolved_199 (by decide) (fun h13028 => ?_) (fun h13028 => ?_)
            · have h13028 : z13026.toInt ≠ 1 := ti_ne h13028
              exact J224 P179 I179 X179 (by omega) (by omega) (by omega)
            · have h13028 : z13026.toInt = 1 := congrArg Int32.toInt h13028
              refine g_aload_n C dX12_findSolved_202 rfl 0 rfl ?_
              refine g_getR C fi_X12_106 rfl e13022 (h12974).1 (h12974).2 dX12_findSolved_203 ?_
              refine g_iload C dX12_findSolved_206 5 rfl ?_
              refine g_dup2_11 C dX12_findSolved_208 rfl rfl ?_
              refine g_iald (j := (v179_5.toInt.toNat)) C h13023.1 h13023.2.1 (ix_in h13023.2.2 (by omega)) dX12_findSolved_209 ?_
              refine g_iload_n C dX12_findSolved_210 rfl 2 rfl ?_
              refine a_ixor C dX12_findSolved_211 (fun z13029 => ?_)
              refine g_iast (j := (v179_5.toInt.toNat)) C h13023.1 h13023.2.1 (ix_in h13023.2.2 (by omega)) dX12_findSolved_212 ?_
              refine gqW (ks := [37]) (I179.setA e13022 h13023 (by decide) (arOk.none rfl)) (EM.setA I179 e13022 rfl (by decide)) (fun Y13031 Iy13032 Xy13033 w13034 => ?_)
              have w13034 : (pI Y13031 b13021 (v179_5.toInt.toNat)).toInt = z13029.toInt := w13034
              have q13035 := Xy13033.keepF 28 (by decide)
              have Xz13036 : EM [35, 36, 37, 38] a0 P Y13031 := EM.tr ha0 X179 (Xy13033.mono (by decide))
              have e13037 := Xy13033.ref h12974 (by decide) e13022
              have h13038 := Xy13033.at h12974
              have h13039 := Xy13033.ar h13023
              refine g_aload_n C dX12_findSolved_213 rfl 0 rfl ?_
              obtain ⟨b13040, e13041, h13042⟩ := Iy13032.fld (h13038) 38 13 20 rfl
              refine g_getR C fi_X12_109 rfl e13041 (h13038).1 (h13038).2 dX12_findSolved_214 ?_
              refine g_iload C dX12_findSolved_217 5 rfl ?_
              refine g_dup2_11 C dX12_findSolved_219 rfl rfl ?_
              refine g_iald (j := (v179_5.toInt.toNat)) C h13042.1 h13042.2.1 (ix_in h13042.2.2 (by omega)) dX12_findSolved_220 ?_
              refine g_iload_n C dX12_findSolved_221 rfl 3 rfl ?_
              refine a_ixor C dX12_findSolved_222 (fun z13043 => ?_)
              refine g_iast (j := (v179_5.toInt.toNat)) C h13042.1 h13042.2.1 (ix_in h13042.2.2 (by omega)) dX12_findSolved_223 ?_
              refine gqW (ks := [38]) (Iy13032.setA e13041 h13042 (by decide) (arOk.none rfl)) (EM.setA Iy13032 e13041 rfl (by decide)) (fun Y13045 Iy13046 Xy13047 w13048 => ?_)
              have w13048 : (pI Y13045 b13040 (v179_5.toInt.toNat)).toInt = z13043.toInt := w13048
              have q13049 := Xy13047.keepF 28 (by decide)
              have q13050 := Xy13047.keepA e13037 (by decide) rfl (v179_5.toInt.toNat)
              have Xz13051 : EM [35, 36, 37, 38] a0 P Y13045 := EM.tr ha0 Xz13036 (Xy13047.mono (by decide))
              have e13052 := Xy13047.ref h13038 (by decide) e13037
              have e13053 := Xy13047.ref h13038 (by decide) e13041
              have h13054 := Xy13047.at h13038
              have h13055 := Xy13047.ar h13039
              have h13056 := Xy13047.ar h13042
              exact J224 Y13045 Iy13046 Xz13051 (by omega) (by omega) (by omega)
      have J170 : ∀ (v170_s0 : Int32), (0 ≤ v33_1.toInt ∧ v33_1.toInt ≤ 64) → (0 ≤ v170_s0.toInt ∧ v170_s0.toInt ≤ 1) → (1 ≤ (pI P33 a0 28).toInt ∧ (pI P33 a0 28).toInt ≤ 64) → G E ({ frames := 1, cells := 0, slots := 0, locals := 64 } : Room) D cy 6 P33 0 0 170 [(0, .ref a0), (1, .int v33_1)] [.int v170_s0, .ref a0] := by
        intro v170_s0 hv170_1 hv170_s0 hq170_0
        have h13057 := X33.at ha0
        refine g_putZ C fi_X12_326 rfl (b01 (by omega)) (h13057).1 (h13057).2 dX12_findSolved_170 ?_
        refine gqW (ks := [36]) (I33.setI (rgOk.of rfl (by omega))) (EM.setI I33 (by decide)) (fun Y13058 Iy13059 Xy13060 w13061 => ?_)
        have w13061 : (pI Y13058 a0 36).toInt = v170_s0.toInt := w13061
        have q13062 := Xy13060.keepF 28 (by decide)
        have Xz13063 : EM [35, 36, 37, 38] a0 P Y13058 := EM.tr ha0 X33 (Xy13060.mono (by decide))
        have h13064 := Xy13060.at h13057
        refine g_goto C 256 dX12_findSolved_173 (by decide) ?_
        exact J256 Y13058 Iy13059 Xz13063 (by omega) (by omega)
      have J169 : (0 ≤ v33_1.toInt ∧ v33_1.toInt ≤ 64) → (1 ≤ (pI P33 a0 28).toInt ∧ (pI P33 a0 28).toInt ≤ 64) → (0 ≤ (pI P33 a0 36).toInt ∧ (pI P33 a0 36).toInt ≤ 1) → G E ({ frames := 1, cells := 0, slots := 0, locals := 64 } : Room) D cy 6 P33 0 0 169 [(0, .ref a0), (1, .int v33_1)] [.ref a0] := by
        intro hv169_1 hq169_0 hq169_1
        have h13065 := X33.at ha0
        refine g_iconst (v := 0) C dX12_findSolved_169 (by decide) ?_
        exact J170 0 (by omega) (by decide) (by omega)
      have J118 : ∀ (n118 : Nat) (v118_2 : Int32) (v118_3 : Int32) (v118_4 : Int32) (v118_5 : Int32), (v118_5.toInt - (-1)).toNat < n118 → (0 ≤ v33_1.toInt ∧ v33_1.toInt ≤ 64) → (-1 ≤ v118_4.toInt ∧ v118_4.toInt ≤ 19) → (-1 ≤ v118_5.toInt ∧ v118_5.toInt ≤ 19) → (1 ≤ (pI P33 a0 28).toInt ∧ (pI P33 a0 28).toInt ≤ 64) → G E ({ frames := 1, cells := 0, slots := 0, locals := 64 } : Room) D cy 6 P33 0 0 118 [(0, .ref a0), (1, .int v33_1), (2, .int v118_2), (3, .int v118_3), (4, .int v118_4), (5, .int v118_5)] [] := by
        intro n118
        induction n118 with
        | zero => intro v118_2 v118_3 v118_4 v118_5 hm118 hv118_1 hv118_4 hv118_5 hq118_0; omega
        | succ n118 ih118 =>
          intro v118_2 v118_3 v118_4 v118_5 hm118 hv118_1 hv118_4 hv118_5 hq118_0
          have h13066 := X33.at ha0
          have J140 : ∀ (v140_s0 : Int32), (0 ≤ v33_1.toInt ∧ v33_1.toInt ≤ 64) → (0 ≤ v118_5.toInt ∧ v118_5.toInt ≤ 19) → (-1 ≤ v140_s0.toInt ∧ v140_s0.toInt ≤ 19) → (1 ≤ (pI P33 a0 28).toInt ∧ (pI P33 a0 28).toInt ≤ 64) → G E ({ frames := 1, cells := 0, slots := 0, locals := 64 } : Room) D cy 6 P33 0 0 140 [(0, .ref a0), (1, .int v33_1), (2, .int v118_2), (3, .int v118_3), (5, .int v118_5)] [.int v140_s0] := by
            intro v140_s0 hv140_1 hv140_5 hv140_s0 hq140_0
            have h13067 := X33.at ha0
            refine g_istore (lv' := [(4, .int v140_s0), (0, .ref a0), (1, .int v33_1), (2, .int v118_2), (3, .int v118_3), (5, .int v118_5)]) C dX12_findSolved_140 (by decide) rfl ?_
            refine s_iinc (lv0 := [(4, .int v140_s0), (0, .ref a0), (1, .int v33_1), (2, .int v118_2), (3, .int v118_3)]) (m := -1) C dX12_findSolved_142 5 rfl (by decide) rfl (by decide) (by omega) (fun z13068 h13069 => ?_)
            have h13069 : z13068.toInt = v118_5.toInt + (-1) := h13069
            refine g_goto C 118 dX12_findSolved_145 (by decide) ?_
            refine g_lv (lv' := [(0, .ref a0), (1, .int v33_1), (2, .int v118_2), (3, .int v118_3), (4, .int v140_s0), (5, .int z13068)]) [2, 3, 4, 5, 1, 0] rfl ?_
            exact ih118 v118_2 v118_3 v140_s0 z13068 (by omega) (by omega) (by omega) (by omega) (by omega)
          refine g_iload C dX12_findSolved_118 5 rfl ?_
          refine b_if_lt C 148 dX12_findSolved_120 (by decide) (fun h13070 => ?_) (fun h13070 => ?_)
          · have h13070 : v118_5.toInt < 0 := h13070
            refine g_iload C dX12_findSolved_148 4 rfl ?_
            refine b_if_ge C 176 dX12_findSolved_150 (by decide) (fun h13071 => ?_) (fun h13071 => ?_)
            · have h13071 : 0 ≤ v118_4.toInt := h13071
              refine g_iconst (v := 0) C dX12_findSolved_176 (by decide) ?_
              refine g_istore (lv' := [(5, .int 0), (0, .ref a0), (1, .int v33_1), (2, .int v118_2), (3, .int v118_3), (4, .int v118_4)]) C dX12_findSolved_177 (by decide) rfl ?_
              refine g_lv (lv' := [(0, .ref a0), (1, .int v33_1), (2, .int v118_2), (3, .int v118_3), (4, .int v118_4), (5, .int 0)]) [1, 2, 3, 4, 5, 0] rfl ?_
              exact J179 _ P33 v118_2 v118_3 v118_4 0 (Nat.lt_succ_self _) I33 X33 (by omega) (by omega) (by decide) (by omega)
            · have h13071 : v118_4.toInt < 0 := h13071
              refine g_aload_n C dX12_findSolved_153 rfl 0 rfl ?_
              refine g_aload_n C dX12_findSolved_154 rfl 0 rfl ?_
              refine g_getI C fi_X12_326 (by decide) (h13066).1 (h13066).2 dX12_findSolved_155 ?_
              have h13072 := I33.rg (h13066) 36 rfl
              refine b_if_eq C 169 dX12_findSolved_158 (by decide) (fun h13073 => ?_) (fun h13073 => ?_)
              · have h13073 : (pI P33 a0 36).toInt = 0 := congrArg Int32.toInt h13073
                refine g_lv (lv' := [(0, .ref a0), (1, .int v33_1)]) [0, 1] rfl ?_
                exact J169 (by omega) (by omega) (by omega)
              · have h13073 : (pI P33 a0 36).toInt ≠ 0 := ti_ne h13073
                refine g_iload_n C dX12_findSolved_161 rfl 3 rfl ?_
                have u13075 := ti_rng v118_3
                refine b_if_ne C 169 dX12_findSolved_162 (by decide) (fun h13074 => ?_) (fun h13074 => ?_)
                · have h13074 : v118_3.toInt ≠ 0 := ti_ne h13074
                  refine g_lv (lv' := [(0, .ref a0), (1, .int v33_1)]) [0, 1] rfl ?_
                  exact J169 (by omega) (by omega) (by omega)
                · have h13074 : v118_3.toInt = 0 := congrArg Int32.toInt h13074
                  refine g_iconst (v := 1) C dX12_findSolved_165 (by decide) ?_
                  refine g_goto C 170 dX12_findSolved_166 (by decide) ?_
                  refine g_lv (lv' := [(0, .ref a0), (1, .int v33_1)]) [0, 1] rfl ?_
                  exact J170 1 (by omega) (by decide) (by omega)
          · have h13070 : 0 ≤ v118_5.toInt := h13070
            refine g_iload_n C dX12_findSolved_123 rfl 2 rfl ?_
            refine g_iload C dX12_findSolved_124 5 rfl ?_
            refine a_ishr C dX12_findSolved_126 (fun z13076 => ?_)
            refine g_iconst (v := 1) C dX12_findSolved_127 (by decide) ?_
            refine s_iand C dX12_findSolved_128 (by show 0 ≤ 1; omega) (fun z13078 h13079 => ?_)
            have h13079 : 0 ≤ z13078.toInt ∧ z13078.toInt ≤ 1 := h13079
            refine g_iconst (v := 1) C dX12_findSolved_129 (by decide) ?_
            refine b_icmp_ne C 138 dX12_findSolved_130 (by decide) (fun h13080 => ?_) (fun h13080 => ?_)
            · have h13080 : z13078.toInt ≠ 1 := ti_ne h13080
              refine g_iload C dX12_findSolved_138 4 rfl ?_
              refine g_lv (lv' := [(0, .ref a0), (1, .int v33_1), (2, .int v118_2), (3, .int v118_3), (5, .int v118_5)]) [0, 1, 2, 3, 5] rfl ?_
              exact J140 v118_4 (by omega) (by omega) (by omega) (by omega)
            · have h13080 : z13078.toInt = 1 := congrArg Int32.toInt h13080
              refine g_iload C dX12_findSolved_133 5 rfl ?_
              refine g_goto C 140 dX12_findSolved_135 (by decide) ?_
              refine g_lv (lv' := [(0, .ref a0), (1, .int v33_1), (2, .int v118_2), (3, .int v118_3), (5, .int v118_5)]) [0, 1, 2, 3, 5] rfl ?_
              exact J140 v118_5 (by omega) (by omega) (by omega) (by omega)
      have J58 : ∀ (n58 : Nat) (v58_2 : Int32) (v58_3 : Int32) (v58_4 : Int32), (20 - v58_4.toInt).toNat < n58 → (0 ≤ v33_1.toInt ∧ v33_1.toInt ≤ 64) → (0 ≤ v58_4.toInt ∧ v58_4.toInt ≤ 20) → (1 ≤ (pI P33 a0 28).toInt ∧ (pI P33 a0 28).toInt ≤ 64) → G E ({ frames := 1, cells := 0, slots := 0, locals := 64 } : Room) D cy 6 P33 0 0 58 [(0, .ref a0), (1, .int v33_1), (2, .int v58_2), (3, .int v58_3), (4, .int v58_4)] [] := by
        intro n58
        induction n58 with
        | zero => intro v58_2 v58_3 v58_4 hm58 hv58_1 hv58_4 hq58_0; omega
        | succ n58 ih58 =>
          intro v58_2 v58_3 v58_4 hm58 hv58_1 hv58_4 hq58_0
          have h13081 := X33.at ha0
          have J105 : ∀ (v105_2 : Int32) (v105_3 : Int32), (0 ≤ v33_1.toInt ∧ v33_1.toInt ≤ 64) → (0 ≤ v58_4.toInt ∧ v58_4.toInt ≤ 19) → (1 ≤ (pI P33 a0 28).toInt ∧ (pI P33 a0 28).toInt ≤ 64) → G E ({ frames := 1, cells := 0, slots := 0, locals := 64 } : Room) D cy 6 P33 0 0 105 [(0, .ref a0), (1, .int v33_1), (2, .int v105_2), (3, .int v105_3), (4, .int v58_4)] [] := by
            intro v105_2 v105_3 hv105_1 hv105_4 hq105_0
            have h13082 := X33.at ha0
            refine s_iinc (lv0 := [(0, .ref a0), (1, .int v33_1), (2, .int v105_2), (3, .int v105_3)]) (m := 1) C dX12_findSolved_105 4 rfl (by decide) rfl (by decide) (by omega) (fun z13083 h13084 => ?_)
            have h13084 : z13083.toInt = v58_4.toInt + 1 := h13084
            refine g_goto C 58 dX12_findSolved_108 (by decide) ?_
            refine g_lv (lv' := [(0, .ref a0), (1, .int v33_1), (2, .int v105_2), (3, .int v105_3), (4, .int z13083)]) [1, 2, 3, 4, 0] rfl ?_
            exact ih58 v105_2 v105_3 z13083 (by omega) (by omega) (by omega) (by omega)
          refine g_iload C dX12_findSolved_58 4 rfl ?_
          refine g_bipush (v := 20) C dX12_findSolved_60 (by decide) ?_
          refine b_icmp_ge C 111 dX12_findSolved_62 (by decide) (fun h13085 => ?_) (fun h13085 => ?_)
          · have h13085 : 20 ≤ v58_4.toInt := h13085
            refine g_iconst (v := (-1)) C dX12_findSolved_111 (by decide) ?_
            refine g_istore (lv' := [(4, .int (-1)), (0, .ref a0), (1, .int v33_1), (2, .int v58_2), (3, .int v58_3)]) C dX12_findSolved_112 (by decide) rfl ?_
            refine g_bipush (v := 19) C dX12_findSolved_114 (by decide) ?_
            refine g_istore (lv' := [(5, .int 19), (4, .int (-1)), (0, .ref a0), (1, .int v33_1), (2, .int v58_2), (3, .int v58_3)]) C dX12_findSolved_116 (by decide) rfl ?_
            refine g_lv (lv' := [(0, .ref a0), (1, .int v33_1), (2, .int v58_2), (3, .int v58_3), (4, .int (-1)), (5, .int 19)]) [2, 3, 4, 5, 1, 0] rfl ?_
            exact J118 _ v58_2 v58_3 (-1) 19 (Nat.lt_succ_self _) (by omega) (by decide) (by decide) (by omega)
          · have h13085 : v58_4.toInt < 20 := h13085
            refine g_iload_n C dX12_findSolved_65 rfl 2 rfl ?_
            refine g_iload C dX12_findSolved_66 4 rfl ?_
            refine a_ishr C dX12_findSolved_68 (fun z13086 => ?_)
            refine g_iconst (v := 1) C dX12_findSolved_69 (by decide) ?_
            refine s_iand C dX12_findSolved_70 (by show 0 ≤ 1; omega) (fun z13088 h13089 => ?_)
            have h13089 : 0 ≤ z13088.toInt ∧ z13088.toInt ≤ 1 := h13089
            refine g_iconst (v := 1) C dX12_findSolved_71 (by decide) ?_
            refine b_icmp_ne C 105 dX12_findSolved_72 (by decide) (fun h13090 => ?_) (fun h13090 => ?_)
            · have h13090 : z13088.toInt ≠ 1 := ti_ne h13090
              exact J105 v58_2 v58_3 (by omega) (by omega) (by omega)
            · have h13090 : z13088.toInt = 1 := congrArg Int32.toInt h13090
              refine g_aload_n C dX12_findSolved_75 rfl 0 rfl ?_
              obtain ⟨b13091, e13092, h13093⟩ := I33.fld (h13081) 37 13 20 rfl
              refine g_getR C fi_X12_106 rfl e13092 (h13081).1 (h13081).2 dX12_findSolved_76 ?_
              refine g_iload C dX12_findSolved_79 4 rfl ?_
              refine g_iald (j := (v58_4.toInt.toNat)) C h13093.1 h13093.2.1 (ix_in h13093.2.2 (by omega)) dX12_findSolved_81 ?_
              have u13095 := ti_rng (pI P33 b13091 (v58_4.toInt.toNat))
              refine b_if_eq C 105 dX12_findSolved_82 (by decide) (fun h13094 => ?_) (fun h13094 => ?_)
              · have h13094 : (pI P33 b13091 (v58_4.toInt.toNat)).toInt = 0 := congrArg Int32.toInt h13094
                exact J105 v58_2 v58_3 (by omega) (by omega) (by omega)
              · have h13094 : (pI P33 b13091 (v58_4.toInt.toNat)).toInt ≠ 0 := ti_ne h13094
                refine g_iload_n C dX12_findSolved_85 rfl 2 rfl ?_
                refine g_aload_n C dX12_findSolved_86 rfl 0 rfl ?_
                refine g_getR C fi_X12_106 rfl e13092 (h13081).1 (h13081).2 dX12_findSolved_87 ?_
                refine g_iload C dX12_findSolved_90 4 rfl ?_
                refine g_iald (j := (v58_4.toInt.toNat)) C h13093.1 h13093.2.1 (ix_in h13093.2.2 (by omega)) dX12_findSolved_92 ?_
                refine a_ixor C dX12_findSolved_93 (fun z13096 => ?_)
                refine g_istore_n (lv' := [(2, .int z13096), (0, .ref a0), (1, .int v33_1), (3, .int v58_3), (4, .int v58_4)]) C dX12_findSolved_94 rfl (by decide) rfl ?_
                refine g_iload_n C dX12_findSolved_95 rfl 3 rfl ?_
                refine g_aload_n C dX12_findSolved_96 rfl 1 rfl ?_
                obtain ⟨b13098, e13099, h13100⟩ := I33.fld (h13081) 38 13 20 rfl
                refine g_getR C fi_X12_109 rfl e13099 (h13081).1 (h13081).2 dX12_findSolved_97 ?_
                refine g_iload C dX12_findSolved_100 4 rfl ?_
                refine g_iald (j := (v58_4.toInt.toNat)) C h13100.1 h13100.2.1 (ix_in h13100.2.2 (by omega)) dX12_findSolved_102 ?_
                refine a_ixor C dX12_findSolved_103 (fun z13101 => ?_)
                refine g_istore_n (lv' := [(3, .int z13101), (2, .int z13096), (0, .ref a0), (1, .int v33_1), (4, .int v58_4)]) C dX12_findSolved_104 rfl (by decide) rfl ?_
                refine g_lv (lv' := [(0, .ref a0), (1, .int v33_1), (2, .int z13096), (3, .int z13101), (4, .int v58_4)]) [2, 3, 1, 0, 4] rfl ?_
                exact J105 z13096 z13101 (by omega) (by omega) (by omega)
      refine g_iload_n C dX12_findSolved_33 rfl 1 rfl ?_
      refine g_aload_n C dX12_findSolved_34 rfl 0 rfl ?_
      refine g_getI C fi_X12_305 (by decide) (h12970).1 (h12970).2 dX12_findSolved_35 ?_
      have h13103 := I33.rg (h12970) 28 rfl
      refine b_icmp_ge C 262 dX12_findSolved_38 (by decide) (fun h13104 => ?_) (fun h13104 => ?_)
      · have h13104 : (pI P33 a0 28).toInt ≤ v33_1.toInt := h13104
        exact ret _ _ _ _ _ dX12_findSolved_262 (by decide) (by decide) ⟨I33, X33⟩
      · have h13104 : v33_1.toInt < (pI P33 a0 28).toInt := h13104
        refine g_aload_n C dX12_findSolved_41 rfl 0 rfl ?_
        obtain ⟨b13105, e13106, h13107⟩ := I33.fld (h12970) 29 13 64 rfl
        refine g_getR C fi_X12_91 rfl e13106 (h12970).1 (h12970).2 dX12_findSolved_42 ?_
        refine g_iload_n C dX12_findSolved_45 rfl 1 rfl ?_
        refine g_iald (j := (v33_1.toInt.toNat)) C h13107.1 h13107.2.1 (ix_in h13107.2.2 (by omega)) dX12_findSolved_46 ?_
        refine g_topi (fun z13108 h13109 => ?_)
        have h13109 : z13108.toInt = (pI P33 b13105 (v33_1.toInt.toNat)).toInt := congrArg Int32.toInt h13109
        refine g_istore_n (lv' := [(2, .int z13108), (0, .ref a0), (1, .int v33_1)]) C dX12_findSolved_47 rfl (by decide) rfl ?_
        refine g_aload_n C dX12_findSolved_48 rfl 1 rfl ?_
        obtain ⟨b13110, e13111, h13112⟩ := I33.fld (h12970) 30 13 64 rfl
        refine g_getR C fi_X12_94 rfl e13111 (h12970).1 (h12970).2 dX12_findSolved_49 ?_
        refine g_iload_n C dX12_findSolved_52 rfl 2 rfl ?_
        refine g_iald (j := (v33_1.toInt.toNat)) C h13112.1 h13112.2.1 (ix_in h13112.2.2 (by omega)) dX12_findSolved_53 ?_
        refine g_topi (fun z13113 h13114 => ?_)
        have h13114 : z13113.toInt = (pI P33 b13110 (v33_1.toInt.toNat)).toInt := congrArg Int32.toInt h13114
        refine g_istore_n (lv' := [(3, .int z13113), (2, .int z13108), (0, .ref a0), (1, .int v33_1)]) C dX12_findSolved_54 rfl (by decide) rfl ?_
        refine g_iconst (v := 0) C dX12_findSolved_55 (by decide) ?_
        refine g_istore (lv' := [(4, .int 0), (3, .int z13113), (2, .int z13108), (0, .ref a0), (1, .int v33_1)]) C dX12_findSolved_56 (by decide) rfl ?_
        refine g_lv (lv' := [(0, .ref a0), (1, .int v33_1), (2, .int z13108), (3, .int z13113), (4, .int 0)]) [3, 4, 2, 1, 0] rfl ?_
        exact J58 _ z13108 z13113 0 (Nat.lt_succ_self _) (by omega) (by decide) (by omega)
  have J12 : ∀ (n12 : Nat) (P12 : PP) (v12_1 : Int32), (20 - v12_1.toInt).toNat < n12 → (IM P12 a0) → (EM [35, 36, 37, 38] a0 P P12) → (0 ≤ v12_1.toInt ∧ v12_1.toInt ≤ 20) → (0 ≤ (pI P12 a0 35).toInt ∧ (pI P12 a0 35).toInt ≤ 0) → (1 ≤ (pI P12 a0 36).toInt ∧ (pI P12 a0 36).toInt ≤ 1) → G E ({ frames := 1, cells := 0, slots := 0, locals := 64 } : Room) D cy 6 P12 0 0 12 [(0, .ref a0), (1, .int v12_1)] [] := by
    intro n12
    induction n12 with
    | zero => intro P12 v12_1 hm12 I12 X12 hv12_1 hq12_0 hq12_1; omega
    | succ n12 ih12 =>
      intro P12 v12_1 hm12 I12 X12 hv12_1 hq12_0 hq12_1
      have h13115 := X12.at ha0
      refine g_iload_n C dX12_findSolved_12 rfl 1 rfl ?_
      refine g_bipush (v := 20) C dX12_findSolved_13 (by decide) ?_
      refine b_icmp_ge C 31 dX12_findSolved_15 (by decide) (fun h13116 => ?_) (fun h13116 => ?_)
      · have h13116 : 20 ≤ v12_1.toInt := h13116
        refine g_iconst (v := 0) C dX12_findSolved_31 (by decide) ?_
        refine g_istore_n (lv' := [(1, .int 0), (0, .ref a0)]) C dX12_findSolved_32 rfl (by decide) rfl ?_
        refine g_lv (lv' := [(0, .ref a0), (1, .int 0)]) [1, 0] rfl ?_
        exact J33 _ P12 0 (Nat.lt_succ_self _) I12 X12 (by decide)
      · have h13116 : v12_1.toInt < 20 := h13116
        refine g_aload_n C dX12_findSolved_18 rfl 0 rfl ?_
        obtain ⟨b13117, e13118, h13119⟩ := I12.fld (h13115) 37 13 20 rfl
        refine g_getR C fi_X12_106 rfl e13118 (h13115).1 (h13115).2 dX12_findSolved_19 ?_
        refine g_iload_n C dX12_findSolved_22 rfl 1 rfl ?_
        refine g_iconst (v := 0) C dX12_findSolved_23 (by decide) ?_
        refine g_iast (j := (v12_1.toInt.toNat)) C h13119.1 h13119.2.1 (ix_in h13119.2.2 (by omega)) dX12_findSolved_24 ?_
        refine gqW (ks := [37]) (I12.setA e13118 h13119 (by decide) (arOk.none rfl)) (EM.setA I12 e13118 rfl (by decide)) (fun Y13120 Iy13121 Xy13122 w13123 => ?_)
        have w13123 : (pI Y13120 b13117 (v12_1.toInt.toNat)).toInt = 0 := w13123
        have q13124 := Xy13122.keepF 35 (by decide)
        have q13125 := Xy13122.keepF 36 (by decide)
        have Xz13126 : EM [35, 36, 37, 38] a0 P Y13120 := EM.tr ha0 X12 (Xy13122.mono (by decide))
        have e13127 := Xy13122.ref h13115 (by decide) e13118
        have h13128 := Xy13122.at h13115
        have h13129 := Xy13122.ar h13119
        refine s_iinc (lv0 := [(0, .ref a0)]) (m := 1) C dX12_findSolved_25 1 rfl (by decide) rfl (by decide) (by omega) (fun z13130 h13131 => ?_)
        have h13131 : z13130.toInt = v12_1.toInt + 1 := h13131
        refine g_goto C 12 dX12_findSolved_28 (by decide) ?_
        refine g_lv (lv' := [(0, .ref a0), (1, .int z13130)]) [1, 0] rfl ?_
        exact ih12 Y13120 z13130 (by omega) Iy13121 Xz13126 (by omega) (by omega) (by omega)
  refine g_aload_n C dX12_findSolved_0 rfl 0 rfl ?_
  refine g_iconst (v := 0) C dX12_findSolved_1 (by decide) ?_
  refine g_putI C fi_X12_324 rfl (ha0).1 (ha0).2 dX12_findSolved_2 ?_
  refine gqW (ks := [35]) (I.setI (rgOk.none rfl)) (EM.setI I (by decide)) (fun Y13132 Iy13133 Xy13134 w13135 => ?_)
  have w13135 : (pI Y13132 a0 35).toInt = 0 := w13135
  have Xz13136 : EM [35, 36, 37, 38] a0 P Y13132 := Xy13134.mono (by decide)
  have h13137 := Xy13134.at ha0
  refine g_aload_n C dX12_findSolved_5 rfl 0 rfl ?_
  refine g_iconst (v := 1) C dX12_findSolved_6 (by decide) ?_
  refine g_putZ C fi_X12_326 rfl (Or.inr rfl) (h13137).1 (h13137).2 dX12_findSolved_7 ?_
  refine gqW (ks := [36]) (Iy13133.setI (rgOk.of rfl (by decide))) (EM.setI Iy13133 (by decide)) (fun Y13138 Iy13139 Xy13140 w13141 => ?_)
  have w13141 : (pI Y13138 a0 36).toInt = 1 := w13141
  have q13142 := Xy13140.keepF 35 (by decide)
  have Xz13143 : EM [35, 36, 37, 38] a0 P Y13138 := EM.tr ha0 Xz13136 (Xy13140.mono (by decide))
  have h13144 := Xy13140.at h13137
  refine g_iconst (v := 0) C dX12_findSolved_10 (by decide) ?_
  refine g_istore_n (lv' := [(1, .int 0), (0, .ref a0)]) C dX12_findSolved_11 rfl (by decide) rfl ?_
  refine g_lv (lv' := [(0, .ref a0), (1, .int 0)]) [1, 0] rfl ?_
  exact J12 _ Y13138 0 (Nat.lt_succ_self _) Iy13139 Xz13143 (by decide) (by omega) (by omega)
theorem dX12_chancesOf_72 : decode cX12_chancesOf 72 = .ok (.aload_n 0, 1) := by decide +kernel
theorem dX12_chancesOf_73 : decode cX12_chancesOf 73 = .ok (.invokevirtual 343, 3) := by decide +kernel
theorem dX12_findPeeled_0 : decode cX12_findPeeled 0 = .ok (.aload_n 0, 1) := by decide +kernel
theorem dX12_findPeeled_1 : decode cX12_findPeeled 1 = .ok (.iconst 0, 1) := by decide +kernel
theorem dX12_findPeeled_2 : decode cX12_findPeeled 2 = .ok (.putfield 318, 3) := by decide +kernel
theorem dX12_findPeeled_5 : decode cX12_findPeeled 5 = .ok (.iconst 1, 1) := by decide +kernel
theorem dX12_findPeeled_6 : decode cX12_findPeeled 6 = .ok (.istore_n 1, 1) := by decide +kernel
theorem dX12_findPeeled_7 : decode cX12_findPeeled 7 = .ok (.iload_n 1, 1) := by decide +kernel
theorem dX12_findPeeled_8 : decode cX12_findPeeled 8 = .ok (.ifCond .eq 112, 3) := by decide +kernel
theorem dX12_findPeeled_11 : decode cX12_findPeeled 11 = .ok (.iconst 0, 1) := by decide +kernel
theorem dX12_findPeeled_12 : decode cX12_findPeeled 12 = .ok (.istore_n 1, 1) := by decide +kernel
theorem dX12_findPeeled_13 : decode cX12_findPeeled 13 = .ok (.iconst 0, 1) := by decide +kernel
theorem dX12_findPeeled_14 : decode cX12_findPeeled 14 = .ok (.istore_n 2, 1) := by decide +kernel
theorem dX12_findPeeled_15 : decode cX12_findPeeled 15 = .ok (.iload_n 2, 1) := by decide +kernel
theorem dX12_findPeeled_16 : decode cX12_findPeeled 16 = .ok (.aload_n 0, 1) := by decide +kernel
theorem dX12_findPeeled_17 : decode cX12_findPeeled 17 = .ok (.getfield 305, 3) := by decide +kernel
theorem dX12_findPeeled_20 : decode cX12_findPeeled 20 = .ok (.if_icmp .ge 97, 3) := by decide +kernel
theorem dX12_findPeeled_23 : decode cX12_findPeeled 23 = .ok (.iload_n 1, 1) := by decide +kernel
theorem dX12_findPeeled_24 : decode cX12_findPeeled 24 = .ok (.ifCond .ne 93, 3) := by decide +kernel
theorem dX12_findPeeled_27 : decode cX12_findPeeled 27 = .ok (.aload_n 0, 1) := by decide +kernel
theorem dX12_findPeeled_28 : decode cX12_findPeeled 28 = .ok (.getfield 91, 3) := by decide +kernel
theorem dX12_findPeeled_31 : decode cX12_findPeeled 31 = .ok (.iload_n 2, 1) := by decide +kernel
theorem dX12_findPeeled_32 : decode cX12_findPeeled 32 = .ok (.iaload, 1) := by decide +kernel
theorem dX12_findPeeled_33 : decode cX12_findPeeled 33 = .ok (.aload_n 0, 1) := by decide +kernel
theorem dX12_findPeeled_34 : decode cX12_findPeeled 34 = .ok (.getfield 318, 3) := by decide +kernel
theorem dX12_findPeeled_37 : decode cX12_findPeeled 37 = .ok (.iconst (-1), 1) := by decide +kernel
theorem dX12_findPeeled_38 : decode cX12_findPeeled 38 = .ok (.ixor, 1) := by decide +kernel
theorem dX12_findPeeled_39 : decode cX12_findPeeled 39 = .ok (.iand, 1) := by decide +kernel
theorem dX12_findPeeled_40 : decode cX12_findPeeled 40 = .ok (.istore_n 3, 1) := by decide +kernel
theorem dX12_findPeeled_41 : decode cX12_findPeeled 41 = .ok (.iload_n 3, 1) := by decide +kernel
theorem dX12_findPeeled_42 : decode cX12_findPeeled 42 = .ok (.invokestatic 264, 3) := by decide +kernel
theorem dX12_findPeeled_45 : decode cX12_findPeeled 45 = .ok (.iconst 1, 1) := by decide +kernel
theorem dX12_findPeeled_46 : decode cX12_findPeeled 46 = .ok (.if_icmp .ne 65, 3) := by decide +kernel
theorem dX12_findPeeled_49 : decode cX12_findPeeled 49 = .ok (.iconst 1, 1) := by decide +kernel
theorem dX12_findPeeled_50 : decode cX12_findPeeled 50 = .ok (.istore_n 1, 1) := by decide +kernel
theorem dX12_findPeeled_51 : decode cX12_findPeeled 51 = .ok (.aload_n 0, 1) := by decide +kernel
theorem dX12_findPeeled_52 : decode cX12_findPeeled 52 = .ok (.iload_n 2, 1) := by decide +kernel
theorem dX12_findPeeled_53 : decode cX12_findPeeled 53 = .ok (.invokevirtual 321, 3) := by decide +kernel
theorem dX12_comesTo_0 : decode cX12_comesTo 0 = .ok (.aload_n 0, 1) := by decide +kernel
theorem dX12_comesTo_1 : decode cX12_comesTo 1 = .ok (.getfield 94, 3) := by decide +kernel
theorem dX12_comesTo_4 : decode cX12_comesTo 4 = .ok (.iload_n 1, 1) := by decide +kernel
theorem dX12_comesTo_5 : decode cX12_comesTo 5 = .ok (.iaload, 1) := by decide +kernel
theorem dX12_comesTo_6 : decode cX12_comesTo 6 = .ok (.istore_n 2, 1) := by decide +kernel
theorem dX12_comesTo_7 : decode cX12_comesTo 7 = .ok (.iconst 0, 1) := by decide +kernel
theorem dX12_comesTo_8 : decode cX12_comesTo 8 = .ok (.istore_n 3, 1) := by decide +kernel
theorem dX12_comesTo_9 : decode cX12_comesTo 9 = .ok (.iload_n 3, 1) := by decide +kernel
theorem dX12_comesTo_10 : decode cX12_comesTo 10 = .ok (.bipush 20, 2) := by decide +kernel
theorem dX12_comesTo_12 : decode cX12_comesTo 12 = .ok (.if_icmp .ge 40, 3) := by decide +kernel
theorem dX12_comesTo_15 : decode cX12_comesTo 15 = .ok (.iload_n 2, 1) := by decide +kernel
theorem dX12_comesTo_16 : decode cX12_comesTo 16 = .ok (.aload_n 0, 1) := by decide +kernel
theorem dX12_comesTo_17 : decode cX12_comesTo 17 = .ok (.getfield 91, 3) := by decide +kernel
theorem dX12_comesTo_20 : decode cX12_comesTo 20 = .ok (.iload_n 1, 1) := by decide +kernel
theorem dX12_comesTo_21 : decode cX12_comesTo 21 = .ok (.iaload, 1) := by decide +kernel
theorem dX12_comesTo_22 : decode cX12_comesTo 22 = .ok (.aload_n 0, 1) := by decide +kernel
theorem dX12_comesTo_23 : decode cX12_comesTo 23 = .ok (.getfield 318, 3) := by decide +kernel
theorem dX12_comesTo_26 : decode cX12_comesTo 26 = .ok (.iand, 1) := by decide +kernel
theorem dX12_comesTo_27 : decode cX12_comesTo 27 = .ok (.iconst 1, 1) := by decide +kernel
theorem dX12_comesTo_28 : decode cX12_comesTo 28 = .ok (.iload_n 3, 1) := by decide +kernel
theorem dX12_comesTo_29 : decode cX12_comesTo 29 = .ok (.ishl, 1) := by decide +kernel
theorem dX12_comesTo_30 : decode cX12_comesTo 30 = .ok (.iand, 1) := by decide +kernel
theorem dX12_comesTo_31 : decode cX12_comesTo 31 = .ok (.ifCond .eq 12, 3) := by decide +kernel
theorem dX12_comesTo_34 : decode cX12_comesTo 34 = .ok (.aload_n 0, 1) := by decide +kernel
theorem dX12_comesTo_35 : decode cX12_comesTo 35 = .ok (.getfield 103, 3) := by decide +kernel
theorem dX12_comesTo_38 : decode cX12_comesTo 38 = .ok (.iload_n 3, 1) := by decide +kernel
theorem dX12_comesTo_39 : decode cX12_comesTo 39 = .ok (.iaload, 1) := by decide +kernel
theorem dX12_comesTo_40 : decode cX12_comesTo 40 = .ok (.goto 4, 3) := by decide +kernel
theorem dX12_comesTo_43 : decode cX12_comesTo 43 = .ok (.iconst 0, 1) := by decide +kernel
theorem dX12_comesTo_44 : decode cX12_comesTo 44 = .ok (.ixor, 1) := by decide +kernel
theorem dX12_comesTo_45 : decode cX12_comesTo 45 = .ok (.istore_n 2, 1) := by decide +kernel
theorem dX12_comesTo_46 : decode cX12_comesTo 46 = .ok (.iinc 3 1, 3) := by decide +kernel
theorem dX12_comesTo_49 : decode cX12_comesTo 49 = .ok (.goto (-40), 3) := by decide +kernel
theorem dX12_comesTo_52 : decode cX12_comesTo 52 = .ok (.iload_n 2, 1) := by decide +kernel
theorem dX12_comesTo_53 : decode cX12_comesTo 53 = .ok (.ireturn, 1) := by decide +kernel
set_option maxHeartbeats 4000000 in
set_option maxRecDepth 100000 in
theorem s_X12_comesTo {P : PP} {a0 : Nat} {a1 : Int32} (I : IM P a0) (ha1 : 0 ≤ a1.toInt ∧ a1.toInt ≤ 63) : CtrI yX12_comesTo cX12_comesTo 4 (some Jvm.ClassFile.FieldType.int) ({ frames := 1, cells := 0, slots := 0, locals := 64 } : Room) 0 0 P [.ref a0, .int a1] (fun r P2 => P = P2 ∧ (True)) := by
  refine enI (lv := [(0, .ref a0), (1, .int a1)]) (by decide) (Nat.le_of_ble_eq_true rfl) rfl (fun E D cy C Ci0 ret => ?_)
  have ha0 := I.2.1
  have J9 : ∀ (n9 : Nat) (v9_2 : Int32) (v9_3 : Int32), (20 - v9_3.toInt).toNat < n9 → (0 ≤ v9_3.toInt ∧ v9_3.toInt ≤ 20) → G E ({ frames := 1, cells := 0, slots := 0, locals := 64 } : Room) D cy 4 P 0 0 9 [(0, .ref a0), (1, .int a1), (2, .int v9_2), (3, .int v9_3)] [] := by
    intro n9
    induction n9 with
    | zero => intro v9_2 v9_3 hm9 hv9_3; omega
    | succ n9 ih9 =>
      intro v9_2 v9_3 hm9 hv9_3
      have J44 : ∀ (v44_s0 : Int32), (0 ≤ v9_3.toInt ∧ v9_3.toInt ≤ 19) → G E ({ frames := 1, cells := 0, slots := 0, locals := 64 } : Room) D cy 4 P 0 0 44 [(0, .ref a0), (1, .int a1), (3, .int v9_3)] [.int v44_s0, .int v9_2] := by
        intro v44_s0 hv44_3
        refine a_ixor C dX12_comesTo_44 (fun z13494 => ?_)
        refine g_istore_n (lv' := [(2, .int z13494), (0, .ref a0), (1, .int a1), (3, .int v9_3)]) C dX12_comesTo_45 rfl (by decide) rfl ?_
        refine s_iinc (lv0 := [(2, .int z13494), (0, .ref a0), (1, .int a1)]) (m := 1) C dX12_comesTo_46 3 rfl (by decide) rfl (by decide) (by omega) (fun z13496 h13497 => ?_)
        have h13497 : z13496.toInt = v9_3.toInt + 1 := h13497
        refine g_goto C 9 dX12_comesTo_49 (by decide) ?_
        refine g_lv (lv' := [(0, .ref a0), (1, .int a1), (2, .int z13494), (3, .int z13496)]) [2, 3, 1, 0] rfl ?_
        exact ih9 z13494 z13496 (by omega) (by omega)
      refine g_iload_n C dX12_comesTo_9 rfl 3 rfl ?_
      refine g_bipush (v := 20) C dX12_comesTo_10 (by decide) ?_
      refine b_icmp_ge C 52 dX12_comesTo_12 (by decide) (fun h13498 => ?_) (fun h13498 => ?_)
      · have h13498 : 20 ≤ v9_3.toInt := h13498
        refine g_iload_n C dX12_comesTo_52 rfl 2 rfl ?_
        exact ret _ _ _ _ _ _ dX12_comesTo_53 rfl (by decide) (by decide) ⟨rfl, trivial⟩
      · have h13498 : v9_3.toInt < 20 := h13498
        refine g_iload_n C dX12_comesTo_15 rfl 2 rfl ?_
        refine g_aload_n C dX12_comesTo_16 rfl 0 rfl ?_
        obtain ⟨b13499, e13500, h13501⟩ := I.fld (ha0) 29 13 64 rfl
        refine g_getR C fi_X12_91 rfl e13500 (ha0).1 (ha0).2 dX12_comesTo_17 ?_
        refine g_iload_n C dX12_comesTo_20 rfl 1 rfl ?_
        refine g_iald (j := (a1.toInt.toNat)) C h13501.1 h13501.2.1 (ix_in h13501.2.2 (by omega)) dX12_comesTo_21 ?_
        refine g_aload_n C dX12_comesTo_22 rfl 0 rfl ?_
        refine g_getI C fi_X12_318 (by decide) (ha0).1 (ha0).2 dX12_comesTo_23 ?_
        refine a_iand C dX12_comesTo_26 (fun z13502 => ?_)
        refine g_iconst (v := 1) C dX12_comesTo_27 (by decide) ?_
        refine g_iload_n C dX12_comesTo_28 rfl 3 rfl ?_
        refine a_ishl C dX12_comesTo_29 (fun z13504 => ?_)
        refine a_iand C dX12_comesTo_30 (fun z13506 => ?_)
        have u13509 := ti_rng z13506
        refine b_if_eq C 43 dX12_comesTo_31 (by decide) (fun h13508 => ?_) (fun h13508 => ?_)
        · have h13508 : z13506.toInt = 0 := congrArg Int32.toInt h13508
          refine g_iconst (v := 0) C dX12_comesTo_43 (by decide) ?_
          refine g_lv (lv' := [(0, .ref a0), (1, .int a1), (3, .int v9_3)]) [0, 1, 3] rfl ?_
          exact J44 0 (by omega)
        · have h13508 : z13506.toInt ≠ 0 := ti_ne h13508
          refine g_aload_n C dX12_comesTo_34 rfl 0 rfl ?_
          obtain ⟨b13510, e13511, h13512⟩ := I.fld (ha0) 34 13 20 rfl
          refine g_getR C fi_X12_103 rfl e13511 (ha0).1 (ha0).2 dX12_comesTo_35 ?_
          refine g_iload_n C dX12_comesTo_38 rfl 3 rfl ?_
          refine g_iald (j := (v9_3.toInt.toNat)) C h13512.1 h13512.2.1 (ix_in h13512.2.2 (by omega)) dX12_comesTo_39 ?_
          refine g_goto C 44 dX12_comesTo_40 (by decide) ?_
          refine g_lv (lv' := [(0, .ref a0), (1, .int a1), (3, .int v9_3)]) [0, 1, 3] rfl ?_
          exact J44 (pI P b13510 (v9_3.toInt.toNat)) (by omega)
  refine g_aload_n C dX12_comesTo_0 rfl 0 rfl ?_
  obtain ⟨b13513, e13514, h13515⟩ := I.fld (ha0) 30 13 64 rfl
  refine g_getR C fi_X12_94 rfl e13514 (ha0).1 (ha0).2 dX12_comesTo_1 ?_
  refine g_iload_n C dX12_comesTo_4 rfl 1 rfl ?_
  refine g_iald (j := (a1.toInt.toNat)) C h13515.1 h13515.2.1 (ix_in h13515.2.2 (by omega)) dX12_comesTo_5 ?_
  refine g_topi (fun z13516 h13517 => ?_)
  have h13517 : z13516.toInt = (pI P b13513 (a1.toInt.toNat)).toInt := congrArg Int32.toInt h13517
  refine g_istore_n (lv' := [(2, .int z13516), (0, .ref a0), (1, .int a1)]) C dX12_comesTo_6 rfl (by decide) rfl ?_
  refine g_iconst (v := 0) C dX12_comesTo_7 (by decide) ?_
  refine g_istore_n (lv' := [(3, .int 0), (2, .int z13516), (0, .ref a0), (1, .int a1)]) C dX12_comesTo_8 rfl (by decide) rfl ?_
  refine g_lv (lv' := [(0, .ref a0), (1, .int a1), (2, .int z13516), (3, .int 0)]) [2, 3, 1, 0] rfl ?_
  exact J9 _ z13516 0 (Nat.lt_succ_self _) (by decide)
theorem dX12_findPeeled_56 : decode cX12_findPeeled 56 = .ok (.istore 4, 2) := by decide +kernel
theorem dX12_findPeeled_58 : decode cX12_findPeeled 58 = .ok (.iconst 0, 1) := by decide +kernel
theorem dX12_findPeeled_59 : decode cX12_findPeeled 59 = .ok (.istore 5, 2) := by decide +kernel
theorem dX12_findPeeled_61 : decode cX12_findPeeled 61 = .ok (.iload 5, 2) := by decide +kernel
theorem dX12_findPeeled_63 : decode cX12_findPeeled 63 = .ok (.bipush 20, 2) := by decide +kernel
theorem dX12_findPeeled_65 : decode cX12_findPeeled 65 = .ok (.if_icmp .ge 36, 3) := by decide +kernel
theorem dX12_findPeeled_68 : decode cX12_findPeeled 68 = .ok (.aload_n 0, 1) := by decide +kernel
theorem dX12_findPeeled_69 : decode cX12_findPeeled 69 = .ok (.getfield 103, 3) := by decide +kernel
theorem dX12_findPeeled_72 : decode cX12_findPeeled 72 = .ok (.iload 5, 2) := by decide +kernel
theorem dX12_findPeeled_74 : decode cX12_findPeeled 74 = .ok (.iload_n 3, 1) := by decide +kernel
theorem dX12_findPeeled_75 : decode cX12_findPeeled 75 = .ok (.iconst 1, 1) := by decide +kernel
theorem dX12_findPeeled_76 : decode cX12_findPeeled 76 = .ok (.iload 5, 2) := by decide +kernel
theorem dX12_findPeeled_78 : decode cX12_findPeeled 78 = .ok (.ishl, 1) := by decide +kernel
theorem dX12_findPeeled_79 : decode cX12_findPeeled 79 = .ok (.if_icmp .ne 8, 3) := by decide +kernel
theorem dX12_findPeeled_82 : decode cX12_findPeeled 82 = .ok (.iload 4, 2) := by decide +kernel
theorem dX12_findPeeled_84 : decode cX12_findPeeled 84 = .ok (.goto 10, 3) := by decide +kernel
theorem dX12_findPeeled_87 : decode cX12_findPeeled 87 = .ok (.aload_n 0, 1) := by decide +kernel
theorem dX12_findPeeled_88 : decode cX12_findPeeled 88 = .ok (.getfield 103, 3) := by decide +kernel
theorem dX12_findPeeled_91 : decode cX12_findPeeled 91 = .ok (.iload 5, 2) := by decide +kernel
theorem dX12_findPeeled_93 : decode cX12_findPeeled 93 = .ok (.iaload, 1) := by decide +kernel
theorem dX12_findPeeled_94 : decode cX12_findPeeled 94 = .ok (.iastore, 1) := by decide +kernel
theorem dX12_findPeeled_95 : decode cX12_findPeeled 95 = .ok (.iinc 5 1, 3) := by decide +kernel
theorem dX12_findPeeled_98 : decode cX12_findPeeled 98 = .ok (.goto (-37), 3) := by decide +kernel
theorem dX12_findPeeled_101 : decode cX12_findPeeled 101 = .ok (.aload_n 0, 1) := by decide +kernel
theorem dX12_findPeeled_102 : decode cX12_findPeeled 102 = .ok (.dup, 1) := by decide +kernel
theorem dX12_findPeeled_103 : decode cX12_findPeeled 103 = .ok (.getfield 318, 3) := by decide +kernel
theorem dX12_findPeeled_106 : decode cX12_findPeeled 106 = .ok (.iload_n 3, 1) := by decide +kernel
theorem dX12_findPeeled_107 : decode cX12_findPeeled 107 = .ok (.ior, 1) := by decide +kernel
theorem dX12_findPeeled_108 : decode cX12_findPeeled 108 = .ok (.putfield 318, 3) := by decide +kernel
theorem dX12_findPeeled_111 : decode cX12_findPeeled 111 = .ok (.iinc 2 1, 3) := by decide +kernel
theorem dX12_findPeeled_114 : decode cX12_findPeeled 114 = .ok (.goto (-99), 3) := by decide +kernel
theorem dX12_findPeeled_117 : decode cX12_findPeeled 117 = .ok (.goto (-110), 3) := by decide +kernel
theorem dX12_findPeeled_120 : decode cX12_findPeeled 120 = .ok (.return_, 1) := by decide +kernel
theorem dX12_choices_0 : decode cX12_choices 0 = .ok (.iconst 1, 1) := by decide +kernel
theorem dX12_choices_1 : decode cX12_choices 1 = .ok (.istore_n 2, 1) := by decide +kernel
theorem dX12_choices_2 : decode cX12_choices 2 = .ok (.iconst 0, 1) := by decide +kernel
theorem dX12_choices_3 : decode cX12_choices 3 = .ok (.istore_n 3, 1) := by decide +kernel
theorem dX12_choices_4 : decode cX12_choices 4 = .ok (.iload_n 3, 1) := by decide +kernel
theorem dX12_choices_5 : decode cX12_choices 5 = .ok (.iload_n 1, 1) := by decide +kernel
theorem dX12_choices_6 : decode cX12_choices 6 = .ok (.if_icmp .ge 19, 3) := by decide +kernel
theorem dX12_choices_9 : decode cX12_choices 9 = .ok (.iload_n 2, 1) := by decide +kernel
theorem dX12_choices_10 : decode cX12_choices 10 = .ok (.iload_n 0, 1) := by decide +kernel
theorem dX12_choices_11 : decode cX12_choices 11 = .ok (.iload_n 3, 1) := by decide +kernel
theorem dX12_choices_12 : decode cX12_choices 12 = .ok (.isub, 1) := by decide +kernel
theorem dX12_choices_13 : decode cX12_choices 13 = .ok (.imul, 1) := by decide +kernel
theorem dX12_choices_14 : decode cX12_choices 14 = .ok (.iload_n 3, 1) := by decide +kernel
theorem dX12_choices_15 : decode cX12_choices 15 = .ok (.iconst 1, 1) := by decide +kernel
theorem dX12_choices_16 : decode cX12_choices 16 = .ok (.iadd, 1) := by decide +kernel
theorem dX12_choices_17 : decode cX12_choices 17 = .ok (.idiv, 1) := by decide +kernel
theorem dX12_choices_18 : decode cX12_choices 18 = .ok (.istore_n 2, 1) := by decide +kernel
theorem dX12_choices_19 : decode cX12_choices 19 = .ok (.iinc 3 1, 3) := by decide +kernel
theorem dX12_choices_22 : decode cX12_choices 22 = .ok (.goto (-18), 3) := by decide +kernel
theorem dX12_choices_25 : decode cX12_choices 25 = .ok (.iload_n 2, 1) := by decide +kernel
theorem dX12_choices_26 : decode cX12_choices 26 = .ok (.ireturn, 1) := by decide +kernel
set_option maxHeartbeats 4000000 in
set_option maxRecDepth 100000 in
theorem s_X12_choices {P : PP} {a0 : Int32} {a1 : Int32} (I : IV P) (ha0 : 0 ≤ a0.toInt ∧ a0.toInt ≤ 11) (ha1 : 0 ≤ a1.toInt ∧ a1.toInt ≤ 11) : CtrI yX12_choices cX12_choices 4 (some Jvm.ClassFile.FieldType.int) ({ frames := 1, cells := 0, slots := 0, locals := 64 } : Room) 0 0 P [.int a0, .int a1] (fun r P2 => P = P2 ∧ (True)) := by
  refine enI (lv := [(0, .int a0), (1, .int a1)]) (by decide) (Nat.le_of_ble_eq_true rfl) rfl (fun E D cy C Ci0 ret => ?_)
  have J4 : ∀ (n4 : Nat) (v4_2 : Int32) (v4_3 : Int32), (11 - v4_3.toInt).toNat < n4 → (0 ≤ v4_3.toInt ∧ v4_3.toInt ≤ 11) → G E ({ frames := 1, cells := 0, slots := 0, locals := 64 } : Room) D cy 4 P 0 0 4 [(0, .int a0), (1, .int a1), (2, .int v4_2), (3, .int v4_3)] [] := by
    intro n4
    induction n4 with
    | zero => intro v4_2 v4_3 hm4 hv4_3; omega
    | succ n4 ih4 =>
      intro v4_2 v4_3 hm4 hv4_3
      refine g_iload_n C dX12_choices_4 rfl 3 rfl ?_
      refine g_iload_n C dX12_choices_5 rfl 1 rfl ?_
      refine b_icmp_ge C 25 dX12_choices_6 (by decide) (fun h14741 => ?_) (fun h14741 => ?_)
      · have h14741 : a1.toInt ≤ v4_3.toInt := h14741
        refine g_iload_n C dX12_choices_25 rfl 2 rfl ?_
        exact ret _ _ _ _ _ _ dX12_choices_26 rfl (by decide) (by decide) ⟨rfl, trivial⟩
      · have h14741 : v4_3.toInt < a1.toInt := h14741
        refine g_iload_n C dX12_choices_9 rfl 2 rfl ?_
        refine g_iload_n C dX12_choices_10 rfl 0 rfl ?_
        refine g_iload_n C dX12_choices_11 rfl 3 rfl ?_
        refine s_isub C dX12_choices_12 (by show -2147483648 ≤ a0.toInt - v4_3.toInt ∧ a0.toInt - v4_3.toInt ≤ 2147483647; omega) (fun z14742 h14743 => ?_)
        have h14743 : z14742.toInt = a0.toInt - v4_3.toInt := h14743
        refine a_imul C dX12_choices_13 (fun z14744 => ?_)
        refine g_iload_n C dX12_choices_14 rfl 3 rfl ?_
        refine g_iconst (v := 1) C dX12_choices_15 (by decide) ?_
        refine s_iadd C dX12_choices_16 (by show -2147483648 ≤ v4_3.toInt + 1 ∧ v4_3.toInt + 1 ≤ 2147483647; omega) (fun z14746 h14747 => ?_)
        have h14747 : z14746.toInt = v4_3.toInt + 1 := h14747
        refine a_idiv C dX12_choices_17 (by show z14746.toInt ≠ 0; omega) (fun z14748 => ?_)
        refine g_istore_n (lv' := [(2, .int z14748), (0, .int a0), (1, .int a1), (3, .int v4_3)]) C dX12_choices_18 rfl (by decide) rfl ?_
        refine s_iinc (lv0 := [(2, .int z14748), (0, .int a0), (1, .int a1)]) (m := 1) C dX12_choices_19 3 rfl (by decide) rfl (by decide) (by omega) (fun z14750 h14751 => ?_)
        have h14751 : z14750.toInt = v4_3.toInt + 1 := h14751
        refine g_goto C 4 dX12_choices_22 (by decide) ?_
        refine g_lv (lv' := [(0, .int a0), (1, .int a1), (2, .int z14748), (3, .int z14750)]) [2, 3, 1, 0] rfl ?_
        exact ih4 z14748 z14750 (by omega) (by omega)
  refine g_iconst (v := 1) C dX12_choices_0 (by decide) ?_
  refine g_istore_n (lv' := [(2, .int 1), (0, .int a0), (1, .int a1)]) C dX12_choices_1 rfl (by decide) rfl ?_
  refine g_iconst (v := 0) C dX12_choices_2 (by decide) ?_
  refine g_istore_n (lv' := [(3, .int 0), (2, .int 1), (0, .int a0), (1, .int a1)]) C dX12_choices_3 rfl (by decide) rfl ?_
  refine g_lv (lv' := [(0, .int a0), (1, .int a1), (2, .int 1), (3, .int 0)]) [2, 3, 1, 0] rfl ?_
  exact J4 _ 1 0 (Nat.lt_succ_self _) (by decide)
theorem dX12_comes_0 : decode cX12_comes 0 = .ok (.aload_n 0, 1) := by decide +kernel
theorem dX12_comes_1 : decode cX12_comes 1 = .ok (.iconst 0, 1) := by decide +kernel
theorem dX12_comes_2 : decode cX12_comes 2 = .ok (.putfield 1, 3) := by decide +kernel
theorem dX12_comes_5 : decode cX12_comes 5 = .ok (.iload_n 1, 1) := by decide +kernel
theorem dX12_comes_6 : decode cX12_comes 6 = .ok (.invokestatic 278, 3) := by decide +kernel
theorem dX12_comes_9 : decode cX12_comes 9 = .ok (.ifCond .eq 39, 3) := by decide +kernel
theorem dX12_comes_12 : decode cX12_comes 12 = .ok (.aload_n 0, 1) := by decide +kernel
theorem dX12_comes_13 : decode cX12_comes 13 = .ok (.iload_n 2, 1) := by decide +kernel
theorem dX12_comes_14 : decode cX12_comes 14 = .ok (.invokevirtual 192, 3) := by decide +kernel
theorem dX12_comes_17 : decode cX12_comes 17 = .ok (.ifCond .eq 31, 3) := by decide +kernel
theorem dX12_comes_20 : decode cX12_comes 20 = .ok (.iload_n 3, 1) := by decide +kernel
theorem dX12_comes_21 : decode cX12_comes 21 = .ok (.invokestatic 258, 3) := by decide +kernel
theorem dX12_isNumber_0 : decode cX12_isNumber 0 = .ok (.iload_n 0, 1) := by decide +kernel
theorem dX12_isNumber_1 : decode cX12_isNumber 1 = .ok (.iconst 0, 1) := by decide +kernel
theorem dX12_isNumber_2 : decode cX12_isNumber 2 = .ok (.sipush 9999, 3) := by decide +kernel
theorem dX12_isNumber_5 : decode cX12_isNumber 5 = .ok (.invokestatic 178, 3) := by decide +kernel
theorem dX12_isNumber_8 : decode cX12_isNumber 8 = .ok (.ireturn, 1) := by decide +kernel
set_option maxHeartbeats 4000000 in
set_option maxRecDepth 100000 in
theorem s_X12_isNumber {P : PP} {a0 : Int32} (I : IV P) : CtrI yX12_isNumber cX12_isNumber 1 (some Jvm.ClassFile.FieldType.boolean) ({ frames := 2, cells := 0, slots := 0, locals := 128 } : Room) 0 0 P [.int a0] (fun r P2 => P = P2 ∧ (0 ≤ r.toInt ∧ r.toInt ≤ 1) ∧ (r.toInt = 0 ∨ (((0 : Int) ≤ a0.toInt ∧ a0.toInt ≤ (9999 : Int))))) := by
  refine enI (lv := [(0, .int a0)]) (by decide) (Nat.le_of_ble_eq_true rfl) rfl (fun E D cy C Ci0 ret => ?_)
  refine g_iload_n C dX12_isNumber_0 rfl 0 rfl ?_
  refine g_iconst (v := 0) C dX12_isNumber_1 (by decide) ?_
  refine g_sipush (v := 9999) C dX12_isNumber_2 (by decide) ?_
  refine g_callSI (b := 0) (ci := 0) (rest := []) C ms_X12_178 [.int a0, .int 0, .int 9999] (s_X12_within I) rfl rfl (by decide) (Nat.le_of_ble_eq_true rfl) (by decide) dX12_isNumber_5 (fun r14772 Y14773 h14774 => ?_)
  obtain ⟨rfl, h14774⟩ := h14774
  obtain ⟨h14774, hi14775⟩ := h14774
  have hi14775 : r14772.toInt = 0 ∨ (0 ≤ a0.toInt ∧ a0.toInt ≤ 9999) := hi14775
  have h14774 : 0 ≤ r14772.toInt ∧ r14772.toInt ≤ 1 := h14774
  exact ret _ _ _ _ _ _ dX12_isNumber_8 (nar_b (b01 (by omega))) (by decide) (by decide) ⟨rfl, (by omega), hi14775.imp id (fun h9 => by omega)⟩
theorem dX12_comes_24 : decode cX12_comes 24 = .ok (.ifCond .eq 24, 3) := by decide +kernel
theorem dX12_comes_27 : decode cX12_comes 27 = .ok (.iload 4, 2) := by decide +kernel
theorem dX12_comes_29 : decode cX12_comes 29 = .ok (.iconst 1, 1) := by decide +kernel
theorem dX12_comes_30 : decode cX12_comes 30 = .ok (.iconst 3, 1) := by decide +kernel
theorem dX12_comes_31 : decode cX12_comes 31 = .ok (.invokestatic 178, 3) := by decide +kernel
theorem dX12_comes_34 : decode cX12_comes 34 = .ok (.ifCond .eq 14, 3) := by decide +kernel
theorem dX12_comes_37 : decode cX12_comes 37 = .ok (.aload_n 0, 1) := by decide +kernel
theorem dX12_comes_38 : decode cX12_comes 38 = .ok (.getfield 69, 3) := by decide +kernel
theorem dX12_comes_41 : decode cX12_comes 41 = .ok (.iload_n 1, 1) := by decide +kernel
theorem dX12_comes_42 : decode cX12_comes 42 = .ok (.iaload, 1) := by decide +kernel
theorem dX12_comes_43 : decode cX12_comes 43 = .ok (.bipush 40, 2) := by decide +kernel
theorem dX12_comes_45 : decode cX12_comes 45 = .ok (.if_icmp .ne 5, 3) := by decide +kernel
theorem dX12_comes_50 : decode cX12_comes 50 = .ok (.aload_n 0, 1) := by decide +kernel
theorem dX12_comes_51 : decode cX12_comes 51 = .ok (.iload_n 2, 1) := by decide +kernel
theorem dX12_comes_52 : decode cX12_comes 52 = .ok (.aload_n 0, 1) := by decide +kernel
theorem dX12_comes_53 : decode cX12_comes 53 = .ok (.iload_n 2, 1) := by decide +kernel
theorem dX12_comes_54 : decode cX12_comes 54 = .ok (.iload_n 3, 1) := by decide +kernel
theorem dX12_comes_55 : decode cX12_comes 55 = .ok (.invokevirtual 261, 3) := by decide +kernel
theorem dX12_common_0 : decode cX12_common 0 = .ok (.lload_n 0, 1) := by decide +kernel
theorem dX12_common_1 : decode cX12_common 1 = .ok (.lstore 4, 2) := by decide +kernel
theorem dX12_common_3 : decode cX12_common 3 = .ok (.lload_n 2, 1) := by decide +kernel
theorem dX12_common_4 : decode cX12_common 4 = .ok (.lstore 6, 2) := by decide +kernel
theorem dX12_common_6 : decode cX12_common 6 = .ok (.lload 6, 2) := by decide +kernel
theorem dX12_common_8 : decode cX12_common 8 = .ok (.lconst 0, 1) := by decide +kernel
theorem dX12_common_9 : decode cX12_common 9 = .ok (.lcmp, 1) := by decide +kernel
theorem dX12_common_10 : decode cX12_common 10 = .ok (.ifCond .eq 21, 3) := by decide +kernel
theorem dX12_common_13 : decode cX12_common 13 = .ok (.lload 4, 2) := by decide +kernel
theorem dX12_common_15 : decode cX12_common 15 = .ok (.lload 6, 2) := by decide +kernel
theorem dX12_common_17 : decode cX12_common 17 = .ok (.lrem, 1) := by decide +kernel
theorem dX12_common_18 : decode cX12_common 18 = .ok (.lstore 8, 2) := by decide +kernel
theorem dX12_common_20 : decode cX12_common 20 = .ok (.lload 6, 2) := by decide +kernel
theorem dX12_common_22 : decode cX12_common 22 = .ok (.lstore 4, 2) := by decide +kernel
theorem dX12_common_24 : decode cX12_common 24 = .ok (.lload 8, 2) := by decide +kernel
theorem dX12_common_26 : decode cX12_common 26 = .ok (.lstore 6, 2) := by decide +kernel
theorem dX12_common_28 : decode cX12_common 28 = .ok (.goto (-22), 3) := by decide +kernel
theorem dX12_common_31 : decode cX12_common 31 = .ok (.lload 4, 2) := by decide +kernel
theorem dX12_common_33 : decode cX12_common 33 = .ok (.lreturn, 1) := by decide +kernel
theorem dX12_copies_0 : decode cX12_copies 0 = .ok (.aload_n 0, 1) := by decide +kernel
theorem dX12_copies_1 : decode cX12_copies 1 = .ok (.getfield 69, 3) := by decide +kernel
theorem dX12_copies_4 : decode cX12_copies 4 = .ok (.iload_n 2, 1) := by decide +kernel
theorem dX12_copies_5 : decode cX12_copies 5 = .ok (.aload_n 0, 1) := by decide +kernel
theorem dX12_copies_6 : decode cX12_copies 6 = .ok (.getfield 69, 3) := by decide +kernel
theorem dX12_copies_9 : decode cX12_copies 9 = .ok (.iload_n 1, 1) := by decide +kernel
theorem dX12_copies_10 : decode cX12_copies 10 = .ok (.iaload, 1) := by decide +kernel
theorem dX12_copies_11 : decode cX12_copies 11 = .ok (.iastore, 1) := by decide +kernel
theorem dX12_copies_12 : decode cX12_copies 12 = .ok (.iconst 0, 1) := by decide +kernel
theorem dX12_copies_13 : decode cX12_copies 13 = .ok (.istore_n 3, 1) := by decide +kernel
theorem dX12_copies_14 : decode cX12_copies 14 = .ok (.iload_n 3, 1) := by decide +kernel
theorem dX12_copies_15 : decode cX12_copies 15 = .ok (.aload_n 0, 1) := by decide +kernel
theorem dX12_copies_16 : decode cX12_copies 16 = .ok (.getfield 69, 3) := by decide +kernel
theorem dX12_copies_19 : decode cX12_copies 19 = .ok (.iload_n 1, 1) := by decide +kernel
theorem dX12_copies_20 : decode cX12_copies 20 = .ok (.iaload, 1) := by decide +kernel
theorem dX12_copies_21 : decode cX12_copies 21 = .ok (.if_icmp .ge 25, 3) := by decide +kernel
theorem dX12_copies_24 : decode cX12_copies 24 = .ok (.aload_n 0, 1) := by decide +kernel
theorem dX12_copies_25 : decode cX12_copies 25 = .ok (.bipush 40, 2) := by decide +kernel
theorem dX12_copies_27 : decode cX12_copies 27 = .ok (.iload_n 1, 1) := by decide +kernel
theorem dX12_copies_28 : decode cX12_copies 28 = .ok (.imul, 1) := by decide +kernel
theorem dX12_copies_29 : decode cX12_copies 29 = .ok (.iload_n 3, 1) := by decide +kernel
theorem dX12_copies_30 : decode cX12_copies 30 = .ok (.iadd, 1) := by decide +kernel
theorem dX12_copies_31 : decode cX12_copies 31 = .ok (.bipush 40, 2) := by decide +kernel
theorem dX12_copies_33 : decode cX12_copies 33 = .ok (.iload_n 2, 1) := by decide +kernel
theorem dX12_copies_34 : decode cX12_copies 34 = .ok (.imul, 1) := by decide +kernel
theorem dX12_copies_35 : decode cX12_copies 35 = .ok (.iload_n 3, 1) := by decide +kernel
theorem dX12_copies_36 : decode cX12_copies 36 = .ok (.iadd, 1) := by decide +kernel
theorem dX12_copies_37 : decode cX12_copies 37 = .ok (.invokevirtual 274, 3) := by decide +kernel
theorem dX12_copies_40 : decode cX12_copies 40 = .ok (.iinc 3 1, 3) := by decide +kernel
theorem dX12_copies_43 : decode cX12_copies 43 = .ok (.goto (-29), 3) := by decide +kernel
theorem dX12_copies_46 : decode cX12_copies 46 = .ok (.return_, 1) := by decide +kernel
set_option maxHeartbeats 4000000 in
set_option maxRecDepth 100000 in
theorem s_X12_copies {P : PP} {a0 : Nat} {a1 : Int32} {a2 : Int32} (I : IM P a0) (ha1 : 0 ≤ a1.toInt ∧ a1.toInt ≤ 19) (ha2 : 0 ≤ a2.toInt ∧ a2.toInt ≤ 19) : CtrV yX12_copies cX12_copies 4 none ({ frames := 2, cells := 0, slots := 0, locals := 128 } : Room) 0 0 P [.ref a0, .int a1, .int a2] (fun P2 => IM P2 a0 ∧ EM [20, 21, 22, 23, 24, 25] a0 P P2) := by
  refine enV (lv := [(0, .ref a0), (1, .int a1), (2, .int a2)]) (by decide) (Nat.le_of_ble_eq_true rfl) rfl (fun E D cy C Ci0 ret => ?_)
  have ha0 := I.2.1
  have J14 : ∀ (n14 : Nat) (P14 : PP) (v14_3 : Int32), (40 - v14_3.toInt).toNat < n14 → (IM P14 a0) → (EM [20, 21, 22, 23, 24, 25] a0 P P14) → (0 ≤ v14_3.toInt ∧ v14_3.toInt ≤ 40) → G E ({ frames := 2, cells := 0, slots := 0, locals := 128 } : Room) D cy 4 P14 0 0 14 [(0, .ref a0), (1, .int a1), (2, .int a2), (3, .int v14_3)] [] := by
    intro n14
    induction n14 with
    | zero => intro P14 v14_3 hm14 I14 X14 hv14_3; omega
    | succ n14 ih14 =>
      intro P14 v14_3 hm14 I14 X14 hv14_3
      have h15214 := X14.at ha0
      refine g_iload_n C dX12_copies_14 rfl 3 rfl ?_
      refine g_aload_n C dX12_copies_15 rfl 0 rfl ?_
      obtain ⟨b15215, e15216, h15217⟩ := I14.fld (h15214) 20 13 20 rfl
      refine g_getR C fi_X12_69 rfl e15216 (h15214).1 (h15214).2 dX12_copies_16 ?_
      refine g_iload_n C dX12_copies_19 rfl 1 rfl ?_
      refine g_iald (j := (a1.toInt.toNat)) C h15217.1 h15217.2.1 (ix_in h15217.2.2 (by omega)) dX12_copies_20 ?_
      have h15218 := I14.arr e15216 rfl (a1.toInt.toNat)
      refine b_icmp_ge C 46 dX12_copies_21 (by decide) (fun h15219 => ?_) (fun h15219 => ?_)
      · have h15219 : (pI P14 b15215 (a1.toInt.toNat)).toInt ≤ v14_3.toInt := h15219
        exact ret _ _ _ _ _ dX12_copies_46 (by decide) (by decide) ⟨I14, X14⟩
      · have h15219 : v14_3.toInt < (pI P14 b15215 (a1.toInt.toNat)).toInt := h15219
        refine g_aload_n C dX12_copies_24 rfl 0 rfl ?_
        refine g_bipush (v := 40) C dX12_copies_25 (by decide) ?_
        refine g_iload_n C dX12_copies_27 rfl 1 rfl ?_
        refine s_imul C dX12_copies_28 (by show -2147483648 ≤ 40 * a1.toInt ∧ 40 * a1.toInt ≤ 2147483647; omega) (fun z15220 h15221 => ?_)
        have h15221 : z15220.toInt = 40 * a1.toInt := h15221
        refine g_iload_n C dX12_copies_29 rfl 3 rfl ?_
        refine s_iadd C dX12_copies_30 (by show -2147483648 ≤ z15220.toInt + v14_3.toInt ∧ z15220.toInt + v14_3.toInt ≤ 2147483647; omega) (fun z15222 h15223 => ?_)
        have h15223 : z15222.toInt = z15220.toInt + v14_3.toInt := h15223
        refine g_bipush (v := 40) C dX12_copies_31 (by decide) ?_
        refine g_iload_n C dX12_copies_33 rfl 2 rfl ?_
        refine s_imul C dX12_copies_34 (by show -2147483648 ≤ 40 * a2.toInt ∧ 40 * a2.toInt ≤ 2147483647; omega) (fun z15224 h15225 => ?_)
        have h15225 : z15224.toInt = 40 * a2.toInt := h15225
        refine g_iload_n C dX12_copies_35 rfl 3 rfl ?_
        refine s_iadd C dX12_copies_36 (by show -2147483648 ≤ z15224.toInt + v14_3.toInt ∧ z15224.toInt + v14_3.toInt ≤ 2147483647; omega) (fun z15226 h15227 => ?_)
        have h15227 : z15226.toInt = z15224.toInt + v14_3.toInt := h15227
        refine g_callVV (rest := []) C mv_X12_274 [.int z15222, .int z15226] (s_X12_moves I14 (by omega) (by omega)) (h15214).1 (h15214).2 rfl rfl (by decide) (Nat.le_of_ble_eq_true rfl) (by decide) dX12_copies_37 (fun Y15229 h15230 => ?_)
        obtain ⟨Iy15231, Xy15232⟩ := h15230
        have q15233 := Xy15232.keepA e15216 (by decide) rfl (a1.toInt.toNat)
        have Xz15234 : EM [20, 21, 22, 23, 24, 25] a0 P Y15229 := EM.tr ha0 X14 (Xy15232.mono (by decide))
        have e15235 := Xy15232.ref h15214 (by decide) e15216
        have h15236 := Xy15232.at h15214
        have h15237 := Xy15232.ar h15217
        refine s_iinc (lv0 := [(0, .ref a0), (1, .int a1), (2, .int a2)]) (m := 1) C dX12_copies_40 3 rfl (by decide) rfl (by decide) (by omega) (fun z15238 h15239 => ?_)
        have h15239 : z15238.toInt = v14_3.toInt + 1 := h15239
        refine g_goto C 14 dX12_copies_43 (by decide) ?_
        refine g_lv (lv' := [(0, .ref a0), (1, .int a1), (2, .int a2), (3, .int z15238)]) [1, 2, 3, 0] rfl ?_
        exact ih14 Y15229 z15238 (by omega) Iy15231 Xz15234 (by omega)
  refine g_aload_n C dX12_copies_0 rfl 0 rfl ?_
  obtain ⟨b15240, e15241, h15242⟩ := I.fld (ha0) 20 13 20 rfl
  refine g_getR C fi_X12_69 rfl e15241 (ha0).1 (ha0).2 dX12_copies_1 ?_
  refine g_iload_n C dX12_copies_4 rfl 2 rfl ?_
  refine g_aload_n C dX12_copies_5 rfl 0 rfl ?_
  refine g_getR C fi_X12_69 rfl e15241 (ha0).1 (ha0).2 dX12_copies_6 ?_
  refine g_iload_n C dX12_copies_9 rfl 1 rfl ?_
  refine g_iald (j := (a1.toInt.toNat)) C h15242.1 h15242.2.1 (ix_in h15242.2.2 (by omega)) dX12_copies_10 ?_
  have h15243 := I.arr e15241 rfl (a1.toInt.toNat)
  refine g_iast (j := (a2.toInt.toNat)) C h15242.1 h15242.2.1 (ix_in h15242.2.2 (by omega)) dX12_copies_11 ?_
  refine gqW (ks := [20]) (I.setA e15241 h15242 (by decide) (arOk.of rfl (by omega))) (EM.setA I e15241 rfl (by decide)) (fun Y15244 Iy15245 Xy15246 w15247 => ?_)
  have w15247 : (pI Y15244 b15240 (a2.toInt.toNat)).toInt = (pI P b15240 (a1.toInt.toNat)).toInt := w15247
  have Xz15248 : EM [20, 21, 22, 23, 24, 25] a0 P Y15244 := Xy15246.mono (by decide)
  have e15249 := Xy15246.ref ha0 (by decide) e15241
  have h15250 := Xy15246.at ha0
  have h15251 := Xy15246.ar h15242
  refine g_iconst (v := 0) C dX12_copies_12 (by decide) ?_
  refine g_istore_n (lv' := [(3, .int 0), (0, .ref a0), (1, .int a1), (2, .int a2)]) C dX12_copies_13 rfl (by decide) rfl ?_
  refine g_lv (lv' := [(0, .ref a0), (1, .int a1), (2, .int a2), (3, .int 0)]) [1, 2, 3, 0] rfl ?_
  exact J14 _ Y15244 0 (Nat.lt_succ_self _) Iy15245 Xz15248 (by decide)
theorem dX12_count_0 : decode cX12_count 0 = .ok (.aload_n 0, 1) := by decide +kernel
theorem dX12_count_1 : decode cX12_count 1 = .ok (.iconst 0, 1) := by decide +kernel
theorem dX12_count_2 : decode cX12_count 2 = .ok (.putfield 1, 3) := by decide +kernel
theorem dX12_count_5 : decode cX12_count 5 = .ok (.iload_n 1, 1) := by decide +kernel
theorem dX12_count_6 : decode cX12_count 6 = .ok (.iconst 0, 1) := by decide +kernel
theorem dX12_count_7 : decode cX12_count 7 = .ok (.iconst 3, 1) := by decide +kernel
theorem dX12_count_8 : decode cX12_count 8 = .ok (.invokestatic 178, 3) := by decide +kernel
theorem dX12_count_11 : decode cX12_count 11 = .ok (.ifCond .eq 10, 3) := by decide +kernel
theorem dX12_count_14 : decode cX12_count 14 = .ok (.aload_n 0, 1) := by decide +kernel
theorem dX12_count_15 : decode cX12_count 15 = .ok (.getfield 69, 3) := by decide +kernel
theorem dX12_count_18 : decode cX12_count 18 = .ok (.iload_n 1, 1) := by decide +kernel
theorem dX12_count_19 : decode cX12_count 19 = .ok (.iaload, 1) := by decide +kernel
theorem dX12_count_20 : decode cX12_count 20 = .ok (.ireturn, 1) := by decide +kernel
theorem dX12_count_21 : decode cX12_count 21 = .ok (.iload_n 1, 1) := by decide +kernel
theorem dX12_count_22 : decode cX12_count 22 = .ok (.tableswitch 61 4 8 #[34, 40, 46, 51, 56], 34) := by decide +kernel
theorem dX12_count_56 : decode cX12_count 56 = .ok (.aload_n 0, 1) := by decide +kernel
theorem dX12_count_57 : decode cX12_count 57 = .ok (.iconst 0, 1) := by decide +kernel
theorem dX12_count_58 : decode cX12_count 58 = .ok (.invokevirtual 238, 3) := by decide +kernel
theorem dX12_count_61 : decode cX12_count 61 = .ok (.ireturn, 1) := by decide +kernel
theorem dX12_count_62 : decode cX12_count 62 = .ok (.aload_n 0, 1) := by decide +kernel
theorem dX12_count_63 : decode cX12_count 63 = .ok (.iconst 1, 1) := by decide +kernel
theorem dX12_count_64 : decode cX12_count 64 = .ok (.invokevirtual 238, 3) := by decide +kernel
theorem dX12_count_67 : decode cX12_count 67 = .ok (.ireturn, 1) := by decide +kernel
theorem dX12_count_68 : decode cX12_count 68 = .ok (.aload_n 0, 1) := by decide +kernel
theorem dX12_count_69 : decode cX12_count 69 = .ok (.getfield 11, 3) := by decide +kernel
theorem dX12_count_72 : decode cX12_count 72 = .ok (.ireturn, 1) := by decide +kernel
theorem dX12_count_73 : decode cX12_count 73 = .ok (.aload_n 0, 1) := by decide +kernel
theorem dX12_count_74 : decode cX12_count 74 = .ok (.getfield 288, 3) := by decide +kernel
theorem dX12_count_77 : decode cX12_count 77 = .ok (.ireturn, 1) := by decide +kernel
theorem dX12_count_78 : decode cX12_count 78 = .ok (.aload_n 0, 1) := by decide +kernel
theorem dX12_count_79 : decode cX12_count 79 = .ok (.invokevirtual 411, 3) := by decide +kernel
theorem dX12_count_82 : decode cX12_count 82 = .ok (.ireturn, 1) := by decide +kernel
theorem dX12_count_83 : decode cX12_count 83 = .ok (.iconst (-1), 1) := by decide +kernel
theorem dX12_count_84 : decode cX12_count 84 = .ok (.ireturn, 1) := by decide +kernel
set_option maxHeartbeats 4000000 in
set_option maxRecDepth 100000 in
theorem s_X12_count {P : PP} {a0 : Nat} {a1 : Int32} (I : IM P a0) : CtrI yX12_count cX12_count 2 (some Jvm.ClassFile.FieldType.int) ({ frames := 2, cells := 0, slots := 0, locals := 128 } : Room) 0 0 P [.ref a0, .int a1] (fun r P2 => IM P2 a0 ∧ EM [0] a0 P P2 ∧ (True)) := by
  refine enI (lv := [(0, .ref a0), (1, .int a1)]) (by decide) (Nat.le_of_ble_eq_true rfl) rfl (fun E D cy C Ci0 ret => ?_)
  have ha0 := I.2.1
  refine g_aload_n C dX12_count_0 rfl 0 rfl ?_
  refine g_iconst (v := 0) C dX12_count_1 (by decide) ?_
  refine g_putI C fi_X12_1 rfl (ha0).1 (ha0).2 dX12_count_2 ?_
  refine gqW (ks := [0]) (I.setI (rgOk.of rfl (by decide))) (EM.setI I (by decide)) (fun Y15297 Iy15298 Xy15299 w15300 => ?_)
  have w15300 : (pI Y15297 a0 0).toInt = 0 := w15300
  have Xz15301 : EM [0] a0 P Y15297 := Xy15299.mono (by decide)
  have h15302 := Xy15299.at ha0
  refine g_iload_n C dX12_count_5 rfl 1 rfl ?_
  refine g_iconst (v := 0) C dX12_count_6 (by decide) ?_
  refine g_iconst (v := 3) C dX12_count_7 (by decide) ?_
  refine g_callSI (b := 0) (ci := 0) (rest := []) C ms_X12_178 [.int a1, .int 0, .int 3] (s_X12_within Iy15298.1) rfl rfl (by decide) (Nat.le_of_ble_eq_true rfl) (by decide) dX12_count_8 (fun r15303 Y15304 h15305 => ?_)
  obtain ⟨rfl, h15305⟩ := h15305
  obtain ⟨h15305, hi15306⟩ := h15305
  have hi15306 : r15303.toInt = 0 ∨ (0 ≤ a1.toInt ∧ a1.toInt ≤ 3) := hi15306
  have h15305 : 0 ≤ r15303.toInt ∧ r15303.toInt ≤ 1 := h15305
  refine b_if_eq C 21 dX12_count_11 (by decide) (fun h15307 => ?_) (fun h15307 => ?_)
  · have h15307 : r15303.toInt = 0 := congrArg Int32.toInt h15307
    clear hi15306
    refine g_iload_n C dX12_count_21 rfl 1 rfl ?_
    by_cases h15308 : a1.toInt < 4 ∨ 8 < a1.toInt
    · refine g_tableOut C 83 dX12_count_22 h15308 (by decide) ?_
      refine g_iconst (v := (-1)) C dX12_count_83 (by decide) ?_
      exact ret _ _ _ _ _ _ dX12_count_84 rfl (by decide) (by decide) ⟨Iy15298, Xz15301, trivial⟩
    · rcases (show a1.toInt = 4 ∨ a1.toInt = 5 ∨ a1.toInt = 6 ∨ a1.toInt = 7 ∨ a1.toInt = 8 by omega) with h15309 | h15309 | h15309 | h15309 | h15309
      · refine g_tableIn C 56 dX12_count_22 (by omega) (by omega) (by rw [h15309]; rfl) (by decide) ?_
        refine g_aload_n C dX12_count_56 rfl 0 rfl ?_
        refine g_iconst (v := 0) C dX12_count_57 (by decide) ?_
        refine g_callVI (rest := []) C mv_X12_238 [.int 0] (s_X12_allOf Iy15298 (by decide)) (h15302).1 (h15302).2 rfl rfl (by decide) (Nat.le_of_ble_eq_true rfl) (by decide) dX12_count_58 (fun r15310 Y15311 h15312 => ?_)
        obtain ⟨rfl, h15312⟩ := h15312
        obtain ⟨h15312, hi15313⟩ := h15312
        obtain ⟨b15314, e15315, h15316⟩ := Iy15298.fld (h15302) 10 13 2 rfl
        obtain ⟨b15317, e15318, h15319⟩ := Iy15298.fld (h15302) 15 13 3 rfl
        have hi15313 : r15310.toInt = 0 ∨ r15310.toInt = (pI Y15297 b15314 0).toInt + (pI Y15297 b15317 0).toInt := hi15313.imp id (fun z9 => z9 b15314 b15317 e15315 e15318)
        have h15320 := Iy15298.arr e15315 rfl 0
        have h15321 := Iy15298.arr e15318 rfl 0
        have h15312 : 0 ≤ r15310.toInt ∧ r15310.toInt ≤ 20 := h15312
        exact ret _ _ _ _ _ _ dX12_count_61 rfl (by decide) (by decide) ⟨Iy15298, Xz15301, trivial⟩
      · refine g_tableIn C 62 dX12_count_22 (by omega) (by omega) (by rw [h15309]; rfl) (by decide) ?_
        refine g_aload_n C dX12_count_62 rfl 0 rfl ?_
        refine g_iconst (v := 1) C dX12_count_63 (by decide) ?_
        refine g_callVI (rest := []) C mv_X12_238 [.int 1] (s_X12_allOf Iy15298 (by decide)) (h15302).1 (h15302).2 rfl rfl (by decide) (Nat.le_of_ble_eq_true rfl) (by decide) dX12_count_64 (fun r15322 Y15323 h15324 => ?_)
        obtain ⟨rfl, h15324⟩ := h15324
        obtain ⟨h15324, hi15325⟩ := h15324
        obtain ⟨b15326, e15327, h15328⟩ := Iy15298.fld (h15302) 10 13 2 rfl
        obtain ⟨b15329, e15330, h15331⟩ := Iy15298.fld (h15302) 15 13 3 rfl
        have hi15325 : r15322.toInt = 0 ∨ r15322.toInt = (pI Y15297 b15326 1).toInt + (pI Y15297 b15329 1).toInt := hi15325.imp id (fun z9 => z9 b15326 b15329 e15327 e15330)
        have h15332 := Iy15298.arr e15327 rfl 1
        have h15333 := Iy15298.arr e15330 rfl 1
        have h15324 : 0 ≤ r15322.toInt ∧ r15322.toInt ≤ 20 := h15324
        exact ret _ _ _ _ _ _ dX12_count_67 rfl (by decide) (by decide) ⟨Iy15298, Xz15301, trivial⟩
      · refine g_tableIn C 68 dX12_count_22 (by omega) (by omega) (by rw [h15309]; rfl) (by decide) ?_
        refine g_aload_n C dX12_count_68 rfl 0 rfl ?_
        refine g_getI C fi_X12_11 (by decide) (h15302).1 (h15302).2 dX12_count_69 ?_
        have h15334 := Iy15298.rg (h15302) 2 rfl
        exact ret _ _ _ _ _ _ dX12_count_72 rfl (by decide) (by decide) ⟨Iy15298, Xz15301, trivial⟩
      · refine g_tableIn C 73 dX12_count_22 (by omega) (by omega) (by rw [h15309]; rfl) (by decide) ?_
        refine g_aload_n C dX12_count_73 rfl 0 rfl ?_
        refine g_getI C fi_X12_288 (by decide) (h15302).1 (h15302).2 dX12_count_74 ?_
        exact ret _ _ _ _ _ _ dX12_count_77 rfl (by decide) (by decide) ⟨Iy15298, Xz15301, trivial⟩
      · refine g_tableIn C 78 dX12_count_22 (by omega) (by omega) (by rw [h15309]; rfl) (by decide) ?_
        refine g_aload_n C dX12_count_78 rfl 0 rfl ?_
        refine g_callVI (rest := []) C mv_X12_411 [] (s_X12_allHouses Iy15298) (h15302).1 (h15302).2 rfl rfl (by decide) (Nat.le_of_ble_eq_true rfl) (by decide) dX12_count_79 (fun r15335 Y15336 h15337 => ?_)
        obtain ⟨rfl, h15337⟩ := h15337
        have h15337 : True := h15337
        exact ret _ _ _ _ _ _ dX12_count_82 rfl (by decide) (by decide) ⟨Iy15298, Xz15301, trivial⟩
  · have h15307 : r15303.toInt ≠ 0 := ti_ne h15307
    replace hi15306 := hi15306.resolve_left (by omega)
    refine g_aload_n C dX12_count_14 rfl 0 rfl ?_
    obtain ⟨b15338, e15339, h15340⟩ := Iy15298.fld (h15302) 20 13 20 rfl
    refine g_getR C fi_X12_69 rfl e15339 (h15302).1 (h15302).2 dX12_count_15 ?_
    refine g_iload_n C dX12_count_18 rfl 1 rfl ?_
    refine g_iald (j := (a1.toInt.toNat)) C h15340.1 h15340.2.1 (ix_in h15340.2.2 (by omega)) dX12_count_19 ?_
    have h15341 := Iy15298.arr e15339 rfl (a1.toInt.toNat)
    exact ret _ _ _ _ _ _ dX12_count_20 rfl (by decide) (by decide) ⟨Iy15298, Xz15301, trivial⟩
theorem dX12_cutAll_0 : decode cX12_cutAll 0 = .ok (.aload_n 0, 1) := by decide +kernel
theorem dX12_cutAll_1 : decode cX12_cutAll 1 = .ok (.aload_n 0, 1) := by decide +kernel
theorem dX12_cutAll_2 : decode cX12_cutAll 2 = .ok (.getfield 11, 3) := by decide +kernel
theorem dX12_cutAll_5 : decode cX12_cutAll 5 = .ok (.putfield 140, 3) := by decide +kernel
theorem dX12_cutAll_8 : decode cX12_cutAll 8 = .ok (.aload_n 0, 1) := by decide +kernel
theorem dX12_cutAll_9 : decode cX12_cutAll 9 = .ok (.iconst 0, 1) := by decide +kernel
theorem dX12_cutAll_10 : decode cX12_cutAll 10 = .ok (.putfield 11, 3) := by decide +kernel
theorem dX12_cutAll_13 : decode cX12_cutAll 13 = .ok (.iconst 0, 1) := by decide +kernel
theorem dX12_cutAll_14 : decode cX12_cutAll 14 = .ok (.istore_n 1, 1) := by decide +kernel
theorem dX12_cutAll_15 : decode cX12_cutAll 15 = .ok (.iconst 0, 1) := by decide +kernel
theorem dX12_cutAll_16 : decode cX12_cutAll 16 = .ok (.istore_n 2, 1) := by decide +kernel
theorem dX12_cutAll_17 : decode cX12_cutAll 17 = .ok (.iload_n 2, 1) := by decide +kernel
theorem dX12_cutAll_18 : decode cX12_cutAll 18 = .ok (.aload_n 0, 1) := by decide +kernel
theorem dX12_cutAll_19 : decode cX12_cutAll 19 = .ok (.getfield 140, 3) := by decide +kernel
theorem dX12_cutAll_22 : decode cX12_cutAll 22 = .ok (.if_icmp .ge 257, 3) := by decide +kernel
theorem dX12_cutAll_25 : decode cX12_cutAll 25 = .ok (.aload_n 0, 1) := by decide +kernel
theorem dX12_cutAll_26 : decode cX12_cutAll 26 = .ok (.getfield 14, 3) := by decide +kernel
theorem dX12_cutAll_29 : decode cX12_cutAll 29 = .ok (.iload_n 2, 1) := by decide +kernel
theorem dX12_cutAll_30 : decode cX12_cutAll 30 = .ok (.iaload, 1) := by decide +kernel
theorem dX12_cutAll_31 : decode cX12_cutAll 31 = .ok (.istore_n 3, 1) := by decide +kernel
theorem dX12_cutAll_32 : decode cX12_cutAll 32 = .ok (.iload_n 3, 1) := by decide +kernel
theorem dX12_cutAll_33 : decode cX12_cutAll 33 = .ok (.bipush 10, 2) := by decide +kernel
theorem dX12_cutAll_35 : decode cX12_cutAll 35 = .ok (.if_icmp .eq 9, 3) := by decide +kernel
theorem dX12_cutAll_38 : decode cX12_cutAll 38 = .ok (.iload_n 3, 1) := by decide +kernel
theorem dX12_cutAll_39 : decode cX12_cutAll 39 = .ok (.bipush 32, 2) := by decide +kernel
theorem dX12_cutAll_41 : decode cX12_cutAll 41 = .ok (.if_icmp .ne 9, 3) := by decide +kernel
theorem dX12_cutAll_50 : decode cX12_cutAll 50 = .ok (.iload_n 2, 1) := by decide +kernel
theorem dX12_cutAll_51 : decode cX12_cutAll 51 = .ok (.istore 4, 2) := by decide +kernel
theorem dX12_cutAll_53 : decode cX12_cutAll 53 = .ok (.lconst 0, 1) := by decide +kernel
theorem dX12_cutAll_54 : decode cX12_cutAll 54 = .ok (.lstore 5, 2) := by decide +kernel
theorem dX12_cutAll_56 : decode cX12_cutAll 56 = .ok (.aload_n 0, 1) := by decide +kernel
theorem dX12_cutAll_57 : decode cX12_cutAll 57 = .ok (.getfield 27, 3) := by decide +kernel
theorem dX12_cutAll_60 : decode cX12_cutAll 60 = .ok (.iload_n 1, 1) := by decide +kernel
theorem dX12_cutAll_61 : decode cX12_cutAll 61 = .ok (.iload_n 2, 1) := by decide +kernel
theorem dX12_cutAll_62 : decode cX12_cutAll 62 = .ok (.iastore, 1) := by decide +kernel
theorem dX12_cutAll_63 : decode cX12_cutAll 63 = .ok (.iload_n 3, 1) := by decide +kernel
theorem dX12_cutAll_64 : decode cX12_cutAll 64 = .ok (.invokestatic 136, 3) := by decide +kernel
theorem dX12_cutAll_279 : decode cX12_cutAll 279 = .ok (.aload_n 0, 1) := by decide +kernel
theorem dX12_cutAll_280 : decode cX12_cutAll 280 = .ok (.getfield 24, 3) := by decide +kernel
theorem dX12_cutAll_283 : decode cX12_cutAll 283 = .ok (.iload_n 1, 1) := by decide +kernel
theorem dX12_cutAll_284 : decode cX12_cutAll 284 = .ok (.iconst 0, 1) := by decide +kernel
theorem dX12_cutAll_285 : decode cX12_cutAll 285 = .ok (.iastore, 1) := by decide +kernel
theorem dX12_cutAll_286 : decode cX12_cutAll 286 = .ok (.aload_n 0, 1) := by decide +kernel
theorem dX12_cutAll_287 : decode cX12_cutAll 287 = .ok (.getfield 27, 3) := by decide +kernel
theorem dX12_cutAll_290 : decode cX12_cutAll 290 = .ok (.iload_n 1, 1) := by decide +kernel
theorem dX12_cutAll_291 : decode cX12_cutAll 291 = .ok (.aload_n 0, 1) := by decide +kernel
theorem dX12_cutAll_292 : decode cX12_cutAll 292 = .ok (.getfield 140, 3) := by decide +kernel
theorem dX12_cutAll_295 : decode cX12_cutAll 295 = .ok (.iastore, 1) := by decide +kernel
theorem dX12_cutAll_296 : decode cX12_cutAll 296 = .ok (.aload_n 0, 1) := by decide +kernel
theorem dX12_cutAll_297 : decode cX12_cutAll 297 = .ok (.iconst 0, 1) := by decide +kernel
theorem dX12_cutAll_298 : decode cX12_cutAll 298 = .ok (.putfield 159, 3) := by decide +kernel
theorem dX12_cutAll_301 : decode cX12_cutAll 301 = .ok (.aload_n 0, 1) := by decide +kernel
theorem dX12_cutAll_302 : decode cX12_cutAll 302 = .ok (.iconst 0, 1) := by decide +kernel
theorem dX12_cutAll_303 : decode cX12_cutAll 303 = .ok (.putfield 162, 3) := by decide +kernel
theorem dX12_cutAll_306 : decode cX12_cutAll 306 = .ok (.return_, 1) := by decide +kernel
theorem dX12_isLetter_0 : decode cX12_isLetter 0 = .ok (.iload_n 0, 1) := by decide +kernel
theorem dX12_isLetter_1 : decode cX12_isLetter 1 = .ok (.bipush 97, 2) := by decide +kernel
theorem dX12_isLetter_3 : decode cX12_isLetter 3 = .ok (.if_icmp .lt 13, 3) := by decide +kernel
theorem dX12_isLetter_6 : decode cX12_isLetter 6 = .ok (.iload_n 0, 1) := by decide +kernel
theorem dX12_isLetter_7 : decode cX12_isLetter 7 = .ok (.bipush 122, 2) := by decide +kernel
theorem dX12_isLetter_9 : decode cX12_isLetter 9 = .ok (.if_icmp .gt 7, 3) := by decide +kernel
theorem dX12_isLetter_12 : decode cX12_isLetter 12 = .ok (.iconst 1, 1) := by decide +kernel
theorem dX12_isLetter_13 : decode cX12_isLetter 13 = .ok (.goto 4, 3) := by decide +kernel
theorem dX12_isLetter_16 : decode cX12_isLetter 16 = .ok (.iconst 0, 1) := by decide +kernel
theorem dX12_isLetter_17 : decode cX12_isLetter 17 = .ok (.ireturn, 1) := by decide +kernel
theorem dX12_cutTo_0 : decode cX12_cutTo 0 = .ok (.iload_n 0, 1) := by decide +kernel
theorem dX12_cutTo_1 : decode cX12_cutTo 1 = .ok (.iload_n 1, 1) := by decide +kernel
theorem dX12_cutTo_2 : decode cX12_cutTo 2 = .ok (.iconst 1, 1) := by decide +kernel
theorem dX12_cutTo_3 : decode cX12_cutTo 3 = .ok (.iand, 1) := by decide +kernel
theorem dX12_cutTo_4 : decode cX12_cutTo 4 = .ok (.iconst 1, 1) := by decide +kernel
theorem dX12_cutTo_5 : decode cX12_cutTo 5 = .ok (.if_icmp .ne 9, 3) := by decide +kernel
theorem dX12_cutTo_8 : decode cX12_cutTo 8 = .ok (.sipush 255, 3) := by decide +kernel
theorem dX12_cutTo_11 : decode cX12_cutTo 11 = .ok (.goto 4, 3) := by decide +kernel
theorem dX12_cutTo_14 : decode cX12_cutTo 14 = .ok (.iconst 0, 1) := by decide +kernel
theorem dX12_cutTo_15 : decode cX12_cutTo 15 = .ok (.iload_n 1, 1) := by decide +kernel
theorem dX12_cutTo_16 : decode cX12_cutTo 16 = .ok (.iconst 2, 1) := by decide +kernel
theorem dX12_cutTo_17 : decode cX12_cutTo 17 = .ok (.iand, 1) := by decide +kernel
theorem dX12_cutTo_18 : decode cX12_cutTo 18 = .ok (.iconst 2, 1) := by decide +kernel
theorem dX12_cutTo_19 : decode cX12_cutTo 19 = .ok (.if_icmp .ne 9, 3) := by decide +kernel
theorem dX12_cutTo_22 : decode cX12_cutTo 22 = .ok (.ldc_w 277, 3) := by decide +kernel
theorem dX12_cutTo_25 : decode cX12_cutTo 25 = .ok (.goto 4, 3) := by decide +kernel
theorem dX12_cutTo_28 : decode cX12_cutTo 28 = .ok (.iconst 0, 1) := by decide +kernel
theorem dX12_cutTo_29 : decode cX12_cutTo 29 = .ok (.iadd, 1) := by decide +kernel
theorem dX12_cutTo_30 : decode cX12_cutTo 30 = .ok (.iand, 1) := by decide +kernel
theorem dX12_cutTo_31 : decode cX12_cutTo 31 = .ok (.ireturn, 1) := by decide +kernel
set_option maxHeartbeats 4000000 in
set_option maxRecDepth 100000 in
theorem s_X12_cutTo {P : PP} {a0 : Int32} {a1 : Int32} (I : IV P) : CtrI yX12_cutTo cX12_cutTo 2 (some Jvm.ClassFile.FieldType.int) ({ frames := 1, cells := 0, slots := 0, locals := 64 } : Room) 0 0 P [.int a0, .int a1] (fun r P2 => P = P2 ∧ (0 ≤ r.toInt ∧ r.toInt ≤ 65535)) := by
  refine enI (lv := [(0, .int a0), (1, .int a1)]) (by decide) (Nat.le_of_ble_eq_true rfl) rfl (fun E D cy C Ci0 ret => ?_)
  have J29 : ∀ (v29_s0 : Int32) (v29_s1 : Int32), (0 ≤ v29_s0.toInt ∧ v29_s0.toInt ≤ 65280) → (0 ≤ v29_s1.toInt ∧ v29_s1.toInt ≤ 255) → G E ({ frames := 1, cells := 0, slots := 0, locals := 64 } : Room) D cy 2 P 0 0 29 [] [.int v29_s0, .int v29_s1, .int a0] := by
    intro v29_s0 v29_s1 hv29_s0 hv29_s1
    refine s_iadd C dX12_cutTo_29 (by show -2147483648 ≤ v29_s1.toInt + v29_s0.toInt ∧ v29_s1.toInt + v29_s0.toInt ≤ 2147483647; omega) (fun z15457 h15458 => ?_)
    have h15458 : z15457.toInt = v29_s1.toInt + v29_s0.toInt := h15458
    refine s_iand C dX12_cutTo_30 (by show 0 ≤ z15457.toInt; omega) (fun z15459 h15460 => ?_)
    have h15460 : 0 ≤ z15459.toInt ∧ z15459.toInt ≤ z15457.toInt := h15460
    exact ret _ _ _ _ _ _ dX12_cutTo_31 rfl (by decide) (by decide) ⟨rfl, (by omega)⟩
  have J15 : ∀ (v15_s0 : Int32), (0 ≤ v15_s0.toInt ∧ v15_s0.toInt ≤ 255) → G E ({ frames := 1, cells := 0, slots := 0, locals := 64 } : Room) D cy 2 P 0 0 15 [(1, .int a1)] [.int v15_s0, .int a0] := by
    intro v15_s0 hv15_s0
    refine g_iload_n C dX12_cutTo_15 rfl 0 rfl ?_
    refine g_iconst (v := 2) C dX12_cutTo_16 (by decide) ?_
    refine s_iand C dX12_cutTo_17 (by show 0 ≤ 2; omega) (fun z15461 h15462 => ?_)
    have h15462 : 0 ≤ z15461.toInt ∧ z15461.toInt ≤ 2 := h15462
    refine g_iconst (v := 2) C dX12_cutTo_18 (by decide) ?_
    refine b_icmp_ne C 28 dX12_cutTo_19 (by decide) (fun h15463 => ?_) (fun h15463 => ?_)
    · have h15463 : z15461.toInt ≠ 2 := ti_ne h15463
      refine g_iconst (v := 0) C dX12_cutTo_28 (by decide) ?_
      refine g_lv (lv' := []) [] rfl ?_
      exact J29 0 v15_s0 (by decide) (by omega)
    · have h15463 : z15461.toInt = 2 := congrArg Int32.toInt h15463
      refine g_ldcw (v := 65280) C kc_X12_277 dX12_cutTo_22 ?_
      refine g_goto C 29 dX12_cutTo_25 (by decide) ?_
      refine g_lv (lv' := []) [] rfl ?_
      exact J29 65280 v15_s0 (by decide) (by omega)
  refine g_iload_n C dX12_cutTo_0 rfl 0 rfl ?_
  refine g_iload_n C dX12_cutTo_1 rfl 1 rfl ?_
  refine g_iconst (v := 1) C dX12_cutTo_2 (by decide) ?_
  refine s_iand C dX12_cutTo_3 (by show 0 ≤ 1; omega) (fun z15464 h15465 => ?_)
  have h15465 : 0 ≤ z15464.toInt ∧ z15464.toInt ≤ 1 := h15465
  refine g_iconst (v := 1) C dX12_cutTo_4 (by decide) ?_
  refine b_icmp_ne C 14 dX12_cutTo_5 (by decide) (fun h15466 => ?_) (fun h15466 => ?_)
  · have h15466 : z15464.toInt ≠ 1 := ti_ne h15466
    refine g_iconst (v := 0) C dX12_cutTo_14 (by decide) ?_
    refine g_lv (lv' := [(1, .int a1)]) [1] rfl ?_
    exact J15 0 (by decide)
  · have h15466 : z15464.toInt = 1 := congrArg Int32.toInt h15466
    refine g_sipush (v := 255) C dX12_cutTo_8 (by decide) ?_
    refine g_goto C 15 dX12_cutTo_11 (by decide) ?_
    refine g_lv (lv' := [(1, .int a1)]) [1] rfl ?_
    exact J15 255 (by decide)
theorem dX12_degree_0 : decode cX12_degree 0 = .ok (.aload_n 0, 1) := by decide +kernel
theorem dX12_degree_1 : decode cX12_degree 1 = .ok (.iconst 0, 1) := by decide +kernel
theorem dX12_degree_2 : decode cX12_degree 2 = .ok (.putfield 1, 3) := by decide +kernel
theorem dX12_degree_5 : decode cX12_degree 5 = .ok (.aload_n 0, 1) := by decide +kernel
theorem dX12_degree_6 : decode cX12_degree 6 = .ok (.iload_n 1, 1) := by decide +kernel
theorem dX12_degree_7 : decode cX12_degree 7 = .ok (.iload_n 2, 1) := by decide +kernel
theorem dX12_degree_8 : decode cX12_degree 8 = .ok (.iload 4, 2) := by decide +kernel
theorem dX12_degree_10 : decode cX12_degree 10 = .ok (.invokevirtual 377, 3) := by decide +kernel
theorem dX12_degree_13 : decode cX12_degree 13 = .ok (.ifCond .eq 12, 3) := by decide +kernel
theorem dX12_degree_16 : decode cX12_degree 16 = .ok (.iload_n 3, 1) := by decide +kernel
theorem dX12_degree_17 : decode cX12_degree 17 = .ok (.iconst 0, 1) := by decide +kernel
theorem dX12_degree_18 : decode cX12_degree 18 = .ok (.iload_n 2, 1) := by decide +kernel
theorem dX12_degree_19 : decode cX12_degree 19 = .ok (.invokestatic 178, 3) := by decide +kernel
theorem dX12_degree_22 : decode cX12_degree 22 = .ok (.ifCond .ne 5, 3) := by decide +kernel
theorem dX12_degree_25 : decode cX12_degree 25 = .ok (.iconst (-1), 1) := by decide +kernel
theorem dX12_degree_26 : decode cX12_degree 26 = .ok (.ireturn, 1) := by decide +kernel
theorem dX12_degree_27 : decode cX12_degree 27 = .ok (.iconst 0, 1) := by decide +kernel
theorem dX12_degree_28 : decode cX12_degree 28 = .ok (.istore 5, 2) := by decide +kernel
theorem dX12_degree_30 : decode cX12_degree 30 = .ok (.iload 5, 2) := by decide +kernel
theorem dX12_degree_32 : decode cX12_degree 32 = .ok (.bipush 21, 2) := by decide +kernel
theorem dX12_degree_34 : decode cX12_degree 34 = .ok (.if_icmp .ge 41, 3) := by decide +kernel
theorem dX12_degree_37 : decode cX12_degree 37 = .ok (.aload_n 0, 1) := by decide +kernel
theorem dX12_degree_38 : decode cX12_degree 38 = .ok (.getfield 124, 3) := by decide +kernel
theorem dX12_degree_41 : decode cX12_degree 41 = .ok (.iload 5, 2) := by decide +kernel
theorem dX12_degree_43 : decode cX12_degree 43 = .ok (.aload_n 0, 1) := by decide +kernel
theorem dX12_degree_44 : decode cX12_degree 44 = .ok (.getfield 51, 3) := by decide +kernel
theorem dX12_degree_47 : decode cX12_degree 47 = .ok (.bipush 21, 2) := by decide +kernel
theorem dX12_degree_49 : decode cX12_degree 49 = .ok (.iload_n 1, 1) := by decide +kernel
theorem dX12_degree_50 : decode cX12_degree 50 = .ok (.imul, 1) := by decide +kernel
theorem dX12_degree_51 : decode cX12_degree 51 = .ok (.iload 5, 2) := by decide +kernel
theorem dX12_degree_53 : decode cX12_degree 53 = .ok (.iadd, 1) := by decide +kernel
theorem dX12_degree_54 : decode cX12_degree 54 = .ok (.iaload, 1) := by decide +kernel
theorem dX12_degree_55 : decode cX12_degree 55 = .ok (.iastore, 1) := by decide +kernel
theorem dX12_degree_56 : decode cX12_degree 56 = .ok (.aload_n 0, 1) := by decide +kernel
theorem dX12_degree_57 : decode cX12_degree 57 = .ok (.getfield 51, 3) := by decide +kernel
theorem dX12_degree_60 : decode cX12_degree 60 = .ok (.bipush 21, 2) := by decide +kernel
theorem dX12_degree_62 : decode cX12_degree 62 = .ok (.iload_n 1, 1) := by decide +kernel
theorem dX12_degree_63 : decode cX12_degree 63 = .ok (.imul, 1) := by decide +kernel
theorem dX12_degree_64 : decode cX12_degree 64 = .ok (.iload 5, 2) := by decide +kernel
theorem dX12_degree_66 : decode cX12_degree 66 = .ok (.iadd, 1) := by decide +kernel
theorem dX12_degree_67 : decode cX12_degree 67 = .ok (.iconst (-1), 1) := by decide +kernel
theorem dX12_degree_68 : decode cX12_degree 68 = .ok (.iastore, 1) := by decide +kernel
theorem dX12_degree_69 : decode cX12_degree 69 = .ok (.iinc 5 1, 3) := by decide +kernel
theorem dX12_degree_72 : decode cX12_degree 72 = .ok (.goto (-42), 3) := by decide +kernel
theorem dX12_degree_75 : decode cX12_degree 75 = .ok (.iconst (-1), 1) := by decide +kernel
theorem dX12_degree_76 : decode cX12_degree 76 = .ok (.istore 5, 2) := by decide +kernel
theorem dX12_degree_78 : decode cX12_degree 78 = .ok (.iconst (-1), 1) := by decide +kernel
theorem dX12_degree_79 : decode cX12_degree 79 = .ok (.istore 6, 2) := by decide +kernel
theorem dX12_degree_81 : decode cX12_degree 81 = .ok (.iconst 1, 1) := by decide +kernel
theorem dX12_degree_82 : decode cX12_degree 82 = .ok (.istore 7, 2) := by decide +kernel
theorem dX12_degree_84 : decode cX12_degree 84 = .ok (.iload 7, 2) := by decide +kernel
theorem dX12_degree_86 : decode cX12_degree 86 = .ok (.aload_n 0, 1) := by decide +kernel
theorem dX12_degree_87 : decode cX12_degree 87 = .ok (.iload_n 1, 1) := by decide +kernel
theorem dX12_degree_88 : decode cX12_degree 88 = .ok (.invokevirtual 238, 3) := by decide +kernel
theorem dX12_degree_91 : decode cX12_degree 91 = .ok (.if_icmp .gt 67, 3) := by decide +kernel
theorem dX12_degree_94 : decode cX12_degree 94 = .ok (.aload_n 0, 1) := by decide +kernel
theorem dX12_degree_95 : decode cX12_degree 95 = .ok (.getfield 51, 3) := by decide +kernel
theorem dX12_degree_98 : decode cX12_degree 98 = .ok (.bipush 21, 2) := by decide +kernel
theorem dX12_degree_100 : decode cX12_degree 100 = .ok (.iload_n 1, 1) := by decide +kernel
theorem dX12_degree_101 : decode cX12_degree 101 = .ok (.imul, 1) := by decide +kernel
theorem dX12_degree_102 : decode cX12_degree 102 = .ok (.iload 7, 2) := by decide +kernel
theorem dX12_degree_104 : decode cX12_degree 104 = .ok (.iadd, 1) := by decide +kernel
theorem dX12_degree_105 : decode cX12_degree 105 = .ok (.iconst 1, 1) := by decide +kernel
theorem dX12_degree_106 : decode cX12_degree 106 = .ok (.iastore, 1) := by decide +kernel
theorem dX12_degree_107 : decode cX12_degree 107 = .ok (.aload_n 0, 1) := by decide +kernel
theorem dX12_degree_108 : decode cX12_degree 108 = .ok (.iload_n 1, 1) := by decide +kernel
theorem dX12_degree_109 : decode cX12_degree 109 = .ok (.iload_n 2, 1) := by decide +kernel
theorem dX12_degree_110 : decode cX12_degree 110 = .ok (.invokevirtual 380, 3) := by decide +kernel
theorem dX12_degree_158 : decode cX12_degree 158 = .ok (.iconst 0, 1) := by decide +kernel
theorem dX12_degree_159 : decode cX12_degree 159 = .ok (.istore 7, 2) := by decide +kernel
theorem dX12_doubles_0 : decode cX12_doubles 0 = .ok (.aload_n 0, 1) := by decide +kernel
theorem dX12_doubles_1 : decode cX12_doubles 1 = .ok (.iconst 0, 1) := by decide +kernel
theorem dX12_doubles_2 : decode cX12_doubles 2 = .ok (.putfield 1, 3) := by decide +kernel
theorem dX12_doubles_5 : decode cX12_doubles 5 = .ok (.aload_n 0, 1) := by decide +kernel
theorem dX12_doubles_6 : decode cX12_doubles 6 = .ok (.iload_n 1, 1) := by decide +kernel
theorem dX12_doubles_7 : decode cX12_doubles 7 = .ok (.iload_n 2, 1) := by decide +kernel
theorem dX12_doubles_8 : decode cX12_doubles 8 = .ok (.iload_n 3, 1) := by decide +kernel
theorem dX12_doubles_9 : decode cX12_doubles 9 = .ok (.invokevirtual 333, 3) := by decide +kernel
theorem dX12_isAsked_0 : decode cX12_isAsked 0 = .ok (.iload_n 1, 1) := by decide +kernel
theorem dX12_isAsked_1 : decode cX12_isAsked 1 = .ok (.invokestatic 278, 3) := by decide +kernel
theorem dX12_isAsked_4 : decode cX12_isAsked 4 = .ok (.ifCond .eq 24, 3) := by decide +kernel
theorem dX12_isAsked_7 : decode cX12_isAsked 7 = .ok (.aload_n 0, 1) := by decide +kernel
theorem dX12_isAsked_8 : decode cX12_isAsked 8 = .ok (.iload_n 2, 1) := by decide +kernel
theorem dX12_isAsked_9 : decode cX12_isAsked 9 = .ok (.invokevirtual 192, 3) := by decide +kernel
theorem dX12_isAsked_12 : decode cX12_isAsked 12 = .ok (.ifCond .eq 16, 3) := by decide +kernel
theorem dX12_isAsked_15 : decode cX12_isAsked 15 = .ok (.iload_n 3, 1) := by decide +kernel
theorem dX12_isAsked_16 : decode cX12_isAsked 16 = .ok (.iconst 0, 1) := by decide +kernel
theorem dX12_isAsked_17 : decode cX12_isAsked 17 = .ok (.iconst 1, 1) := by decide +kernel
theorem dX12_isAsked_18 : decode cX12_isAsked 18 = .ok (.invokestatic 178, 3) := by decide +kernel
theorem dX12_isAsked_21 : decode cX12_isAsked 21 = .ok (.ifCond .eq 7, 3) := by decide +kernel
theorem dX12_isAsked_24 : decode cX12_isAsked 24 = .ok (.iconst 1, 1) := by decide +kernel
theorem dX12_isAsked_25 : decode cX12_isAsked 25 = .ok (.goto 4, 3) := by decide +kernel
theorem dX12_isAsked_28 : decode cX12_isAsked 28 = .ok (.iconst 0, 1) := by decide +kernel
theorem dX12_isAsked_29 : decode cX12_isAsked 29 = .ok (.ireturn, 1) := by decide +kernel
set_option maxHeartbeats 4000000 in
set_option maxRecDepth 100000 in
theorem s_X12_isAsked {P : PP} {a0 : Nat} {a1 : Int32} {a2 : Int32} {a3 : Int32} (I : IM P a0) : CtrI yX12_isAsked cX12_isAsked 4 (some Jvm.ClassFile.FieldType.boolean) ({ frames := 3, cells := 0, slots := 0, locals := 192 } : Room) 0 0 P [.ref a0, .int a1, .int a2, .int a3] (fun r P2 => P = P2 ∧ (0 ≤ r.toInt ∧ r.toInt ≤ 1) ∧ (r.toInt = 0 ∨ (((0 : Int) ≤ a1.toInt ∧ a1.toInt ≤ (3 : Int)) ∧ ((0 : Int) ≤ a2.toInt ∧ a2.toInt ≤ (1 : Int)) ∧ ((0 : Int) ≤ a3.toInt ∧ a3.toInt ≤ (1 : Int))))) := by
  refine enI (lv := [(0, .ref a0), (1, .int a1), (2, .int a2), (3, .int a3)]) (by decide) (Nat.le_of_ble_eq_true rfl) rfl (fun E D cy C Ci0 ret => ?_)
  have ha0 := I.2.1
  have J28 : G E ({ frames := 3, cells := 0, slots := 0, locals := 192 } : Room) D cy 4 P 0 0 28 [] [] := by
    refine g_iconst (v := 0) C dX12_isAsked_28 (by decide) ?_
    exact ret _ _ _ _ _ _ dX12_isAsked_29 rfl (by decide) (by decide) ⟨rfl, (by decide), Or.inl rfl⟩
  refine g_iload_n C dX12_isAsked_0 rfl 1 rfl ?_
  refine g_callSI (b := 0) (ci := 0) (rest := []) C ms_X12_278 [.int a1] (s_X12_isQuarter I.1) rfl rfl (by decide) (Nat.le_of_ble_eq_true rfl) (by decide) dX12_isAsked_1 (fun r16129 Y16130 h16131 => ?_)
  obtain ⟨rfl, h16131⟩ := h16131
  obtain ⟨h16131, hi16132⟩ := h16131
  have hi16132 : r16129.toInt = 0 ∨ (((0 : Int) ≤ a1.toInt ∧ a1.toInt ≤ (3 : Int))) := hi16132
  have h16131 : 0 ≤ r16129.toInt ∧ r16129.toInt ≤ 1 := h16131
  refine b_if_eq C 28 dX12_isAsked_4 (by decide) (fun h16133 => ?_) (fun h16133 => ?_)
  · have h16133 : r16129.toInt = 0 := congrArg Int32.toInt h16133
    clear hi16132
    refine g_lv (lv' := []) [] rfl ?_
    exact J28 
  · have h16133 : r16129.toInt ≠ 0 := ti_ne h16133
    replace hi16132 := hi16132.resolve_left (by omega)
    refine g_aload_n C dX12_isAsked_7 rfl 0 rfl ?_
    refine g_iload_n C dX12_isAsked_8 rfl 2 rfl ?_
    refine g_callVI (rest := []) C mv_X12_192 [.int a2] (s_X12_isBook I) (ha0).1 (ha0).2 rfl rfl (by decide) (Nat.le_of_ble_eq_true rfl) (by decide) dX12_isAsked_9 (fun r16134 Y16135 h16136 => ?_)
    obtain ⟨rfl, h16136⟩ := h16136
    obtain ⟨h16136, hi16137⟩ := h16136
    have hi16137 : r16134.toInt = 0 ∨ (((0 : Int) ≤ a2.toInt ∧ a2.toInt ≤ (1 : Int))) := hi16137
    have h16136 : 0 ≤ r16134.toInt ∧ r16134.toInt ≤ 1 := h16136
    refine b_if_eq C 28 dX12_isAsked_12 (by decide) (fun h16138 => ?_) (fun h16138 => ?_)
    · have h16138 : r16134.toInt = 0 := congrArg Int32.toInt h16138
      clear hi16137
      refine g_lv (lv' := []) [] rfl ?_
      exact J28 
    · have h16138 : r16134.toInt ≠ 0 := ti_ne h16138
      replace hi16137 := hi16137.resolve_left (by omega)
      refine g_iload_n C dX12_isAsked_15 rfl 3 rfl ?_
      refine g_iconst (v := 0) C dX12_isAsked_16 (by decide) ?_
      refine g_iconst (v := 1) C dX12_isAsked_17 (by decide) ?_
      refine g_callSI (b := 0) (ci := 0) (rest := []) C ms_X12_178 [.int a3, .int 0, .int 1] (s_X12_within I.1) rfl rfl (by decide) (Nat.le_of_ble_eq_true rfl) (by decide) dX12_isAsked_18 (fun r16139 Y16140 h16141 => ?_)
      obtain ⟨rfl, h16141⟩ := h16141
      obtain ⟨h16141, hi16142⟩ := h16141
      have hi16142 : r16139.toInt = 0 ∨ (0 ≤ a3.toInt ∧ a3.toInt ≤ 1) := hi16142
      have h16141 : 0 ≤ r16139.toInt ∧ r16139.toInt ≤ 1 := h16141
      refine b_if_eq C 28 dX12_isAsked_21 (by decide) (fun h16143 => ?_) (fun h16143 => ?_)
      · have h16143 : r16139.toInt = 0 := congrArg Int32.toInt h16143
        clear hi16142
        refine g_lv (lv' := []) [] rfl ?_
        exact J28 
      · have h16143 : r16139.toInt ≠ 0 := ti_ne h16143
        replace hi16142 := hi16142.resolve_left (by omega)
        refine g_iconst (v := 1) C dX12_isAsked_24 (by decide) ?_
        refine g_goto C 29 dX12_isAsked_25 (by decide) ?_
        exact ret _ _ _ _ _ _ dX12_isAsked_29 rfl (by decide) (by decide) ⟨rfl, (by decide), Or.inr (by omega)⟩
theorem dX12_doubles_12 : decode cX12_doubles 12 = .ok (.ifCond .ne 5, 3) := by decide +kernel
theorem dX12_doubles_17 : decode cX12_doubles 17 = .ok (.aload_n 0, 1) := by decide +kernel
theorem dX12_doubles_18 : decode cX12_doubles 18 = .ok (.invokevirtual 336, 3) := by decide +kernel
theorem dX12_doubles_21 : decode cX12_doubles 21 = .ok (.aload_n 0, 1) := by decide +kernel
theorem dX12_doubles_22 : decode cX12_doubles 22 = .ok (.iload_n 1, 1) := by decide +kernel
theorem dX12_doubles_23 : decode cX12_doubles 23 = .ok (.iload_n 2, 1) := by decide +kernel
theorem dX12_doubles_24 : decode cX12_doubles 24 = .ok (.iload_n 3, 1) := by decide +kernel
theorem dX12_doubles_25 : decode cX12_doubles 25 = .ok (.aload_n 0, 1) := by decide +kernel
theorem dX12_doubles_26 : decode cX12_doubles 26 = .ok (.getfield 69, 3) := by decide +kernel
theorem dX12_doubles_29 : decode cX12_doubles 29 = .ok (.iload_n 1, 1) := by decide +kernel
theorem dX12_doubles_30 : decode cX12_doubles 30 = .ok (.iaload, 1) := by decide +kernel
theorem dX12_doubles_31 : decode cX12_doubles 31 = .ok (.invokevirtual 339, 3) := by decide +kernel
theorem dX12_draw_0 : decode cX12_draw 0 = .ok (.aload_n 0, 1) := by decide +kernel
theorem dX12_draw_1 : decode cX12_draw 1 = .ok (.iconst 0, 1) := by decide +kernel
theorem dX12_draw_2 : decode cX12_draw 2 = .ok (.putfield 1, 3) := by decide +kernel
theorem dX12_draw_5 : decode cX12_draw 5 = .ok (.aload_n 0, 1) := by decide +kernel
theorem dX12_draw_6 : decode cX12_draw 6 = .ok (.iload_n 1, 1) := by decide +kernel
theorem dX12_draw_7 : decode cX12_draw 7 = .ok (.invokevirtual 192, 3) := by decide +kernel
theorem dX12_draw_10 : decode cX12_draw 10 = .ok (.ifCond .eq 11, 3) := by decide +kernel
theorem dX12_draw_13 : decode cX12_draw 13 = .ok (.aload_n 0, 1) := by decide +kernel
theorem dX12_draw_14 : decode cX12_draw 14 = .ok (.iload_n 1, 1) := by decide +kernel
theorem dX12_draw_15 : decode cX12_draw 15 = .ok (.invokevirtual 196, 3) := by decide +kernel
theorem dX12_isOut_0 : decode cX12_isOut 0 = .ok (.iconst 0, 1) := by decide +kernel
theorem dX12_isOut_1 : decode cX12_isOut 1 = .ok (.istore_n 2, 1) := by decide +kernel
theorem dX12_isOut_2 : decode cX12_isOut 2 = .ok (.iconst 0, 1) := by decide +kernel
theorem dX12_isOut_3 : decode cX12_isOut 3 = .ok (.istore_n 3, 1) := by decide +kernel
theorem dX12_isOut_4 : decode cX12_isOut 4 = .ok (.iload_n 3, 1) := by decide +kernel
theorem dX12_isOut_5 : decode cX12_isOut 5 = .ok (.iconst 4, 1) := by decide +kernel
theorem dX12_isOut_6 : decode cX12_isOut 6 = .ok (.if_icmp .ge 70, 3) := by decide +kernel
theorem dX12_isOut_9 : decode cX12_isOut 9 = .ok (.iconst 0, 1) := by decide +kernel
theorem dX12_isOut_10 : decode cX12_isOut 10 = .ok (.istore 4, 2) := by decide +kernel
theorem dX12_isOut_12 : decode cX12_isOut 12 = .ok (.iload 4, 2) := by decide +kernel
theorem dX12_isOut_14 : decode cX12_isOut 14 = .ok (.aload_n 0, 1) := by decide +kernel
theorem dX12_isOut_15 : decode cX12_isOut 15 = .ok (.getfield 69, 3) := by decide +kernel
theorem dX12_isOut_18 : decode cX12_isOut 18 = .ok (.iload_n 3, 1) := by decide +kernel
theorem dX12_isOut_19 : decode cX12_isOut 19 = .ok (.iaload, 1) := by decide +kernel
theorem dX12_isOut_20 : decode cX12_isOut 20 = .ok (.if_icmp .ge 50, 3) := by decide +kernel
theorem dX12_isOut_23 : decode cX12_isOut 23 = .ok (.iload_n 2, 1) := by decide +kernel
theorem dX12_isOut_24 : decode cX12_isOut 24 = .ok (.ifCond .ne 34, 3) := by decide +kernel
theorem dX12_isOut_27 : decode cX12_isOut 27 = .ok (.aload_n 0, 1) := by decide +kernel
theorem dX12_isOut_28 : decode cX12_isOut 28 = .ok (.getfield 75, 3) := by decide +kernel
theorem dX12_isOut_31 : decode cX12_isOut 31 = .ok (.bipush 40, 2) := by decide +kernel
theorem dX12_isOut_33 : decode cX12_isOut 33 = .ok (.iload_n 3, 1) := by decide +kernel
theorem dX12_isOut_34 : decode cX12_isOut 34 = .ok (.imul, 1) := by decide +kernel
theorem dX12_isOut_35 : decode cX12_isOut 35 = .ok (.iload 4, 2) := by decide +kernel
theorem dX12_isOut_37 : decode cX12_isOut 37 = .ok (.iadd, 1) := by decide +kernel
theorem dX12_isOut_38 : decode cX12_isOut 38 = .ok (.iaload, 1) := by decide +kernel
theorem dX12_isOut_39 : decode cX12_isOut 39 = .ok (.iload_n 1, 1) := by decide +kernel
theorem dX12_isOut_40 : decode cX12_isOut 40 = .ok (.if_icmp .eq 18, 3) := by decide +kernel
theorem dX12_isOut_43 : decode cX12_isOut 43 = .ok (.aload_n 0, 1) := by decide +kernel
theorem dX12_isOut_44 : decode cX12_isOut 44 = .ok (.getfield 75, 3) := by decide +kernel
theorem dX12_isOut_47 : decode cX12_isOut 47 = .ok (.bipush 40, 2) := by decide +kernel
theorem dX12_isOut_49 : decode cX12_isOut 49 = .ok (.iload_n 3, 1) := by decide +kernel
theorem dX12_isOut_50 : decode cX12_isOut 50 = .ok (.imul, 1) := by decide +kernel
theorem dX12_isOut_51 : decode cX12_isOut 51 = .ok (.iload 4, 2) := by decide +kernel
theorem dX12_isOut_53 : decode cX12_isOut 53 = .ok (.iadd, 1) := by decide +kernel
theorem dX12_isOut_54 : decode cX12_isOut 54 = .ok (.iaload, 1) := by decide +kernel
theorem dX12_isOut_55 : decode cX12_isOut 55 = .ok (.ifCond .ge 7, 3) := by decide +kernel
theorem dX12_isOut_58 : decode cX12_isOut 58 = .ok (.iconst 1, 1) := by decide +kernel
theorem dX12_isOut_59 : decode cX12_isOut 59 = .ok (.goto 4, 3) := by decide +kernel
theorem dX12_isOut_62 : decode cX12_isOut 62 = .ok (.iconst 0, 1) := by decide +kernel
theorem dX12_isOut_63 : decode cX12_isOut 63 = .ok (.istore_n 2, 1) := by decide +kernel
theorem dX12_isOut_64 : decode cX12_isOut 64 = .ok (.iinc 4 1, 3) := by decide +kernel
theorem dX12_isOut_67 : decode cX12_isOut 67 = .ok (.goto (-55), 3) := by decide +kernel
theorem dX12_isOut_70 : decode cX12_isOut 70 = .ok (.iinc 3 1, 3) := by decide +kernel
theorem dX12_isOut_73 : decode cX12_isOut 73 = .ok (.goto (-69), 3) := by decide +kernel
theorem dX12_isOut_76 : decode cX12_isOut 76 = .ok (.iload_n 2, 1) := by decide +kernel
theorem dX12_isOut_77 : decode cX12_isOut 77 = .ok (.ireturn, 1) := by decide +kernel
set_option maxHeartbeats 4000000 in
set_option maxRecDepth 100000 in
theorem s_X12_isOut {P : PP} {a0 : Nat} {a1 : Int32} (I : IM P a0) : CtrI yX12_isOut cX12_isOut 5 (some Jvm.ClassFile.FieldType.boolean) ({ frames := 1, cells := 0, slots := 0, locals := 64 } : Room) 0 0 P [.ref a0, .int a1] (fun r P2 => P = P2 ∧ (0 ≤ r.toInt ∧ r.toInt ≤ 1)) := by
  refine enI (lv := [(0, .ref a0), (1, .int a1)]) (by decide) (Nat.le_of_ble_eq_true rfl) rfl (fun E D cy C Ci0 ret => ?_)
  have ha0 := I.2.1
  have J4 : ∀ (n4 : Nat) (v4_2 : Int32) (v4_3 : Int32), (4 - v4_3.toInt).toNat < n4 → (0 ≤ v4_2.toInt ∧ v4_2.toInt ≤ 1) → (0 ≤ v4_3.toInt ∧ v4_3.toInt ≤ 4) → G E ({ frames := 1, cells := 0, slots := 0, locals := 64 } : Room) D cy 5 P 0 0 4 [(0, .ref a0), (1, .int a1), (2, .int v4_2), (3, .int v4_3)] [] := by
    intro n4
    induction n4 with
    | zero => intro v4_2 v4_3 hm4 hv4_2 hv4_3; omega
    | succ n4 ih4 =>
      intro v4_2 v4_3 hm4 hv4_2 hv4_3
      have J12 : ∀ (n12 : Nat) (v12_2 : Int32) (v12_4 : Int32), (40 - v12_4.toInt).toNat < n12 → (0 ≤ v12_2.toInt ∧ v12_2.toInt ≤ 1) → (0 ≤ v4_3.toInt ∧ v4_3.toInt ≤ 3) → (0 ≤ v12_4.toInt ∧ v12_4.toInt ≤ 40) → G E ({ frames := 1, cells := 0, slots := 0, locals := 64 } : Room) D cy 5 P 0 0 12 [(0, .ref a0), (1, .int a1), (2, .int v12_2), (3, .int v4_3), (4, .int v12_4)] [] := by
        intro n12
        induction n12 with
        | zero => intro v12_2 v12_4 hm12 hv12_2 hv12_3 hv12_4; omega
        | succ n12 ih12 =>
          intro v12_2 v12_4 hm12 hv12_2 hv12_3 hv12_4
          have J63 : ∀ (v63_s0 : Int32), (0 ≤ v4_3.toInt ∧ v4_3.toInt ≤ 3) → (0 ≤ v12_4.toInt ∧ v12_4.toInt ≤ 39) → (0 ≤ v63_s0.toInt ∧ v63_s0.toInt ≤ 1) → (∀ b, pR P a0 20 = some b → 1 ≤ (pI P b (v4_3.toInt.toNat)).toInt ∧ (pI P b (v4_3.toInt.toNat)).toInt ≤ 40) → G E ({ frames := 1, cells := 0, slots := 0, locals := 64 } : Room) D cy 5 P 0 0 63 [(0, .ref a0), (1, .int a1), (3, .int v4_3), (4, .int v12_4)] [.int v63_s0] := by
            intro v63_s0 hv63_3 hv63_4 hv63_s0 hq63_0
            obtain ⟨b16663, e16664, h16665⟩ := I.fld (ha0) 20 13 20 rfl
            have hq63_0 := hq63_0 b16663 e16664
            refine g_istore_n (lv' := [(2, .int v63_s0), (0, .ref a0), (1, .int a1), (3, .int v4_3), (4, .int v12_4)]) C dX12_isOut_63 rfl (by decide) rfl ?_
            refine s_iinc (lv0 := [(2, .int v63_s0), (0, .ref a0), (1, .int a1), (3, .int v4_3)]) (m := 1) C dX12_isOut_64 4 rfl (by decide) rfl (by decide) (by omega) (fun z16666 h16667 => ?_)
            have h16667 : z16666.toInt = v12_4.toInt + 1 := h16667
            refine g_goto C 12 dX12_isOut_67 (by decide) ?_
            refine g_lv (lv' := [(0, .ref a0), (1, .int a1), (2, .int v63_s0), (3, .int v4_3), (4, .int z16666)]) [2, 3, 1, 4, 0] rfl ?_
            exact ih12 v63_s0 z16666 (by omega) (by omega) (by omega) (by omega)
          have J58 : (0 ≤ v4_3.toInt ∧ v4_3.toInt ≤ 3) → (0 ≤ v12_4.toInt ∧ v12_4.toInt ≤ 39) → (∀ b, pR P a0 20 = some b → 1 ≤ (pI P b (v4_3.toInt.toNat)).toInt ∧ (pI P b (v4_3.toInt.toNat)).toInt ≤ 40) → G E ({ frames := 1, cells := 0, slots := 0, locals := 64 } : Room) D cy 5 P 0 0 58 [(0, .ref a0), (1, .int a1), (3, .int v4_3), (4, .int v12_4)] [] := by
            intro hv58_3 hv58_4 hq58_0
            obtain ⟨b16668, e16669, h16670⟩ := I.fld (ha0) 20 13 20 rfl
            have hq58_0 := hq58_0 b16668 e16669
            refine g_iconst (v := 1) C dX12_isOut_58 (by decide) ?_
            refine g_goto C 63 dX12_isOut_59 (by decide) ?_
            exact J63 1 (by omega) (by omega) (by decide) (fun b9 e9 => by rw [e16669] at e9; cases e9; omega)
          refine g_iload C dX12_isOut_12 4 rfl ?_
          refine g_aload_n C dX12_isOut_14 rfl 0 rfl ?_
          obtain ⟨b16671, e16672, h16673⟩ := I.fld (ha0) 20 13 20 rfl
          refine g_getR C fi_X12_69 rfl e16672 (ha0).1 (ha0).2 dX12_isOut_15 ?_
          refine g_iload_n C dX12_isOut_18 rfl 3 rfl ?_
          refine g_iald (j := (v4_3.toInt.toNat)) C h16673.1 h16673.2.1 (ix_in h16673.2.2 (by omega)) dX12_isOut_19 ?_
          have h16674 := I.arr e16672 rfl (v4_3.toInt.toNat)
          refine b_icmp_ge C 70 dX12_isOut_20 (by decide) (fun h16675 => ?_) (fun h16675 => ?_)
          · have h16675 : (pI P b16671 (v4_3.toInt.toNat)).toInt ≤ v12_4.toInt := h16675
            refine s_iinc (lv0 := [(0, .ref a0), (1, .int a1), (2, .int v12_2), (4, .int v12_4)]) (m := 1) C dX12_isOut_70 3 rfl (by decide) rfl (by decide) (by omega) (fun z16676 h16677 => ?_)
            have h16677 : z16676.toInt = v4_3.toInt + 1 := h16677
            refine g_goto C 4 dX12_isOut_73 (by decide) ?_
            refine g_lv (lv' := [(0, .ref a0), (1, .int a1), (2, .int v12_2), (3, .int z16676)]) [1, 2, 3, 0] rfl ?_
            exact ih4 v12_2 z16676 (by omega) (by omega) (by omega)
          · have h16675 : v12_4.toInt < (pI P b16671 (v4_3.toInt.toNat)).toInt := h16675
            refine g_iload_n C dX12_isOut_23 rfl 2 rfl ?_
            refine b_if_ne C 58 dX12_isOut_24 (by decide) (fun h16678 => ?_) (fun h16678 => ?_)
            · have h16678 : v12_2.toInt ≠ 0 := ti_ne h16678
              refine g_lv (lv' := [(0, .ref a0), (1, .int a1), (3, .int v4_3), (4, .int v12_4)]) [0, 1, 3, 4] rfl ?_
              exact J58 (by omega) (by omega) (fun b9 e9 => by rw [e16672] at e9; cases e9; omega)
            · have h16678 : v12_2.toInt = 0 := congrArg Int32.toInt h16678
              refine g_aload_n C dX12_isOut_27 rfl 0 rfl ?_
              obtain ⟨b16679, e16680, h16681⟩ := I.fld (ha0) 22 13 800 rfl
              refine g_getR C fi_X12_75 rfl e16680 (ha0).1 (ha0).2 dX12_isOut_28 ?_
              refine g_bipush (v := 40) C dX12_isOut_31 (by decide) ?_
              refine g_iload_n C dX12_isOut_33 rfl 3 rfl ?_
              refine s_imul C dX12_isOut_34 (by show -2147483648 ≤ 40 * v4_3.toInt ∧ 40 * v4_3.toInt ≤ 2147483647; omega) (fun z16682 h16683 => ?_)
              have h16683 : z16682.toInt = 40 * v4_3.toInt := h16683
              refine g_iload C dX12_isOut_35 4 rfl ?_
              refine s_iadd C dX12_isOut_37 (by show -2147483648 ≤ z16682.toInt + v12_4.toInt ∧ z16682.toInt + v12_4.toInt ≤ 2147483647; omega) (fun z16684 h16685 => ?_)
              have h16685 : z16684.toInt = z16682.toInt + v12_4.toInt := h16685
              refine g_iald (j := (z16684.toInt.toNat)) C h16681.1 h16681.2.1 (ix_in h16681.2.2 (by omega)) dX12_isOut_38 ?_
              have h16686 := I.arr e16680 rfl (z16684.toInt.toNat)
              refine g_iload_n C dX12_isOut_39 rfl 1 rfl ?_
              have u16688 := ti_rng a1
              refine b_icmp_eq C 58 dX12_isOut_40 (by decide) (fun h16687 => ?_) (fun h16687 => ?_)
              · have h16687 : (pI P b16679 (z16684.toInt.toNat)).toInt = a1.toInt := congrArg Int32.toInt h16687
                refine g_lv (lv' := [(0, .ref a0), (1, .int a1), (3, .int v4_3), (4, .int v12_4)]) [0, 1, 3, 4] rfl ?_
                exact J58 (by omega) (by omega) (fun b9 e9 => by rw [e16672] at e9; cases e9; omega)
              · have h16687 : (pI P b16679 (z16684.toInt.toNat)).toInt ≠ a1.toInt := ti_ne h16687
                refine g_aload_n C dX12_isOut_43 rfl 0 rfl ?_
                refine g_getR C fi_X12_75 rfl e16680 (ha0).1 (ha0).2 dX12_isOut_44 ?_
                refine g_bipush (v := 40) C dX12_isOut_47 (by decide) ?_
                refine g_iload_n C dX12_isOut_49 rfl 3 rfl ?_
                refine s_imul C dX12_isOut_50 (by show -2147483648 ≤ 40 * v4_3.toInt ∧ 40 * v4_3.toInt ≤ 2147483647; omega) (fun z16689 h16690 => ?_)
                have h16690 : z16689.toInt = 40 * v4_3.toInt := h16690
                refine g_iload C dX12_isOut_51 4 rfl ?_
                refine s_iadd C dX12_isOut_53 (by show -2147483648 ≤ z16689.toInt + v12_4.toInt ∧ z16689.toInt + v12_4.toInt ≤ 2147483647; omega) (fun z16691 h16692 => ?_)
                have h16692 : z16691.toInt = z16689.toInt + v12_4.toInt := h16692
                refine g_iald (j := (z16691.toInt.toNat)) C h16681.1 h16681.2.1 (ix_in h16681.2.2 (by omega)) dX12_isOut_54 ?_
                have h16693 := I.arr e16680 rfl (z16691.toInt.toNat)
                refine b_if_ge C 62 dX12_isOut_55 (by decide) (fun h16694 => ?_) (fun h16694 => ?_)
                · have h16694 : 0 ≤ (pI P b16679 (z16691.toInt.toNat)).toInt := h16694
                  refine g_iconst (v := 0) C dX12_isOut_62 (by decide) ?_
                  refine g_lv (lv' := [(0, .ref a0), (1, .int a1), (3, .int v4_3), (4, .int v12_4)]) [0, 1, 3, 4] rfl ?_
                  exact J63 0 (by omega) (by omega) (by decide) (fun b9 e9 => by rw [e16672] at e9; cases e9; omega)
                · have h16694 : (pI P b16679 (z16691.toInt.toNat)).toInt < 0 := h16694
                  refine g_lv (lv' := [(0, .ref a0), (1, .int a1), (3, .int v4_3), (4, .int v12_4)]) [0, 1, 3, 4] rfl ?_
                  exact J58 (by omega) (by omega) (fun b9 e9 => by rw [e16672] at e9; cases e9; omega)
      refine g_iload_n C dX12_isOut_4 rfl 3 rfl ?_
      refine g_iconst (v := 4) C dX12_isOut_5 (by decide) ?_
      refine b_icmp_ge C 76 dX12_isOut_6 (by decide) (fun h16695 => ?_) (fun h16695 => ?_)
      · have h16695 : 4 ≤ v4_3.toInt := h16695
        refine g_iload_n C dX12_isOut_76 rfl 2 rfl ?_
        exact ret _ _ _ _ _ _ dX12_isOut_77 (nar_b (b01 (by omega))) (by decide) (by decide) ⟨rfl, (by omega)⟩
      · have h16695 : v4_3.toInt < 4 := h16695
        refine g_iconst (v := 0) C dX12_isOut_9 (by decide) ?_
        refine g_istore (lv' := [(4, .int 0), (0, .ref a0), (1, .int a1), (2, .int v4_2), (3, .int v4_3)]) C dX12_isOut_10 (by decide) rfl ?_
        refine g_lv (lv' := [(0, .ref a0), (1, .int a1), (2, .int v4_2), (3, .int v4_3), (4, .int 0)]) [1, 2, 3, 4, 0] rfl ?_
        exact J12 _ v4_2 0 (Nat.lt_succ_self _) (by omega) (by omega) (by decide)
  refine g_iconst (v := 0) C dX12_isOut_0 (by decide) ?_
  refine g_istore_n (lv' := [(2, .int 0), (0, .ref a0), (1, .int a1)]) C dX12_isOut_1 rfl (by decide) rfl ?_
  refine g_iconst (v := 0) C dX12_isOut_2 (by decide) ?_
  refine g_istore_n (lv' := [(3, .int 0), (2, .int 0), (0, .ref a0), (1, .int a1)]) C dX12_isOut_3 rfl (by decide) rfl ?_
  refine g_lv (lv' := [(0, .ref a0), (1, .int a1), (2, .int 0), (3, .int 0)]) [2, 3, 1, 0] rfl ?_
  exact J4 _ 0 0 (Nat.lt_succ_self _) (by decide) (by decide)
theorem dX12_draw_18 : decode cX12_draw 18 = .ok (.ifCond .eq 10, 3) := by decide +kernel
theorem dX12_draw_28 : decode cX12_draw 28 = .ok (.aload_n 0, 1) := by decide +kernel
theorem dX12_draw_29 : decode cX12_draw 29 = .ok (.invokevirtual 199, 3) := by decide +kernel
theorem dX12_enough_0 : decode cX12_enough 0 = .ok (.aload_n 0, 1) := by decide +kernel
theorem dX12_enough_1 : decode cX12_enough 1 = .ok (.iconst 0, 1) := by decide +kernel
theorem dX12_enough_2 : decode cX12_enough 2 = .ok (.putfield 1, 3) := by decide +kernel
theorem dX12_enough_5 : decode cX12_enough 5 = .ok (.aload_n 0, 1) := by decide +kernel
theorem dX12_enough_6 : decode cX12_enough 6 = .ok (.iload_n 1, 1) := by decide +kernel
theorem dX12_enough_7 : decode cX12_enough 7 = .ok (.iload_n 2, 1) := by decide +kernel
theorem dX12_enough_8 : decode cX12_enough 8 = .ok (.iload_n 3, 1) := by decide +kernel
theorem dX12_enough_9 : decode cX12_enough 9 = .ok (.invokevirtual 377, 3) := by decide +kernel
theorem dX12_enough_12 : decode cX12_enough 12 = .ok (.ifCond .ne 5, 3) := by decide +kernel
theorem dX12_enough_17 : decode cX12_enough 17 = .ok (.aload_n 0, 1) := by decide +kernel
theorem dX12_enough_18 : decode cX12_enough 18 = .ok (.iload_n 1, 1) := by decide +kernel
theorem dX12_enough_19 : decode cX12_enough 19 = .ok (.iload_n 2, 1) := by decide +kernel
theorem dX12_enough_20 : decode cX12_enough 20 = .ok (.invokevirtual 380, 3) := by decide +kernel
theorem dX12_falls_0 : decode cX12_falls 0 = .ok (.iload_n 3, 1) := by decide +kernel
theorem dX12_falls_1 : decode cX12_falls 1 = .ok (.bipush 37, 2) := by decide +kernel
theorem dX12_falls_3 : decode cX12_falls 3 = .ok (.imul, 1) := by decide +kernel
theorem dX12_falls_4 : decode cX12_falls 4 = .ok (.bipush 11, 2) := by decide +kernel
theorem dX12_falls_6 : decode cX12_falls 6 = .ok (.iload_n 2, 1) := by decide +kernel
theorem dX12_falls_7 : decode cX12_falls 7 = .ok (.imul, 1) := by decide +kernel
theorem dX12_falls_8 : decode cX12_falls 8 = .ok (.iadd, 1) := by decide +kernel
theorem dX12_falls_9 : decode cX12_falls 9 = .ok (.bipush 101, 2) := by decide +kernel
theorem dX12_falls_11 : decode cX12_falls 11 = .ok (.iload_n 1, 1) := by decide +kernel
theorem dX12_falls_12 : decode cX12_falls 12 = .ok (.imul, 1) := by decide +kernel
theorem dX12_falls_13 : decode cX12_falls 13 = .ok (.iadd, 1) := by decide +kernel
theorem dX12_falls_14 : decode cX12_falls 14 = .ok (.bipush 13, 2) := by decide +kernel
theorem dX12_falls_16 : decode cX12_falls 16 = .ok (.iadd, 1) := by decide +kernel
theorem dX12_falls_17 : decode cX12_falls 17 = .ok (.bipush 7, 2) := by decide +kernel
theorem dX12_falls_19 : decode cX12_falls 19 = .ok (.imul, 1) := by decide +kernel
theorem dX12_falls_20 : decode cX12_falls 20 = .ok (.bipush 100, 2) := by decide +kernel
theorem dX12_falls_22 : decode cX12_falls 22 = .ok (.irem, 1) := by decide +kernel
theorem dX12_falls_23 : decode cX12_falls 23 = .ok (.aload_n 0, 1) := by decide +kernel
theorem dX12_falls_24 : decode cX12_falls 24 = .ok (.getfield 127, 3) := by decide +kernel
theorem dX12_falls_27 : decode cX12_falls 27 = .ok (.iload_n 1, 1) := by decide +kernel
theorem dX12_falls_28 : decode cX12_falls 28 = .ok (.iaload, 1) := by decide +kernel
theorem dX12_falls_29 : decode cX12_falls 29 = .ok (.if_icmp .lt 7, 3) := by decide +kernel
theorem dX12_falls_32 : decode cX12_falls 32 = .ok (.iconst 1, 1) := by decide +kernel
theorem dX12_falls_33 : decode cX12_falls 33 = .ok (.goto 4, 3) := by decide +kernel
theorem dX12_falls_36 : decode cX12_falls 36 = .ok (.iconst 0, 1) := by decide +kernel
theorem dX12_falls_37 : decode cX12_falls 37 = .ok (.ireturn, 1) := by decide +kernel
set_option maxHeartbeats 4000000 in
set_option maxRecDepth 100000 in
theorem s_X12_falls {P : PP} {a0 : Nat} {a1 : Int32} {a2 : Int32} {a3 : Int32} (I : IM P a0) (ha1 : 0 ≤ a1.toInt ∧ a1.toInt ≤ 3) : CtrI yX12_falls cX12_falls 4 (some Jvm.ClassFile.FieldType.boolean) ({ frames := 1, cells := 0, slots := 0, locals := 64 } : Room) 0 0 P [.ref a0, .int a1, .int a2, .int a3] (fun r P2 => P = P2 ∧ (0 ≤ r.toInt ∧ r.toInt ≤ 1)) := by
  refine enI (lv := [(0, .ref a0), (1, .int a1), (2, .int a2), (3, .int a3)]) (by decide) (Nat.le_of_ble_eq_true rfl) rfl (fun E D cy C Ci0 ret => ?_)
  have ha0 := I.2.1
  refine g_iload_n C dX12_falls_0 rfl 3 rfl ?_
  refine g_bipush (v := 37) C dX12_falls_1 (by decide) ?_
  refine a_imul C dX12_falls_3 (fun z16744 => ?_)
  refine g_bipush (v := 11) C dX12_falls_4 (by decide) ?_
  refine g_iload_n C dX12_falls_6 rfl 2 rfl ?_
  refine a_imul C dX12_falls_7 (fun z16746 => ?_)
  refine a_iadd C dX12_falls_8 (fun z16748 => ?_)
  refine g_bipush (v := 101) C dX12_falls_9 (by decide) ?_
  refine g_iload_n C dX12_falls_11 rfl 1 rfl ?_
  refine s_imul C dX12_falls_12 (by show -2147483648 ≤ 101 * a1.toInt ∧ 101 * a1.toInt ≤ 2147483647; omega) (fun z16750 h16751 => ?_)
  have h16751 : z16750.toInt = 101 * a1.toInt := h16751
  refine a_iadd C dX12_falls_13 (fun z16752 => ?_)
  refine g_bipush (v := 13) C dX12_falls_14 (by decide) ?_
  refine a_iadd C dX12_falls_16 (fun z16754 => ?_)
  refine g_bipush (v := 7) C dX12_falls_17 (by decide) ?_
  refine a_imul C dX12_falls_19 (fun z16756 => ?_)
  refine g_bipush (v := 100) C dX12_falls_20 (by decide) ?_
  refine a_irem C dX12_falls_22 (by show 100 ≠ 0; omega) (fun z16758 => ?_)
  refine g_aload_n C dX12_falls_23 rfl 0 rfl ?_
  obtain ⟨b16760, e16761, h16762⟩ := I.fld (ha0) 45 13 4 rfl
  refine g_getR C fi_X12_127 rfl e16761 (ha0).1 (ha0).2 dX12_falls_24 ?_
  refine g_iload_n C dX12_falls_27 rfl 1 rfl ?_
  refine g_iald (j := (a1.toInt.toNat)) C h16762.1 h16762.2.1 (ix_in h16762.2.2 (by omega)) dX12_falls_28 ?_
  have u16764 := ti_rng z16758
  have u16765 := ti_rng (pI P b16760 (a1.toInt.toNat))
  refine b_icmp_lt C 36 dX12_falls_29 (by decide) (fun h16763 => ?_) (fun h16763 => ?_)
  · have h16763 : z16758.toInt < (pI P b16760 (a1.toInt.toNat)).toInt := h16763
    refine g_iconst (v := 0) C dX12_falls_36 (by decide) ?_
    exact ret _ _ _ _ _ _ dX12_falls_37 rfl (by decide) (by decide) ⟨rfl, (by decide)⟩
  · have h16763 : (pI P b16760 (a1.toInt.toNat)).toInt ≤ z16758.toInt := h16763
    refine g_iconst (v := 1) C dX12_falls_32 (by decide) ?_
    refine g_goto C 37 dX12_falls_33 (by decide) ?_
    exact ret _ _ _ _ _ _ dX12_falls_37 rfl (by decide) (by decide) ⟨rfl, (by decide)⟩
theorem dX12_feed_0 : decode cX12_feed 0 = .ok (.aload_n 0, 1) := by decide +kernel
theorem dX12_feed_1 : decode cX12_feed 1 = .ok (.iconst 0, 1) := by decide +kernel
theorem dX12_feed_2 : decode cX12_feed 2 = .ok (.putfield 1, 3) := by decide +kernel
theorem dX12_feed_5 : decode cX12_feed 5 = .ok (.aload_n 0, 1) := by decide +kernel
theorem dX12_feed_6 : decode cX12_feed 6 = .ok (.lload_n 1, 1) := by decide +kernel
theorem dX12_feed_7 : decode cX12_feed 7 = .ok (.invokevirtual 7, 3) := by decide +kernel
theorem dX12_lay_0 : decode cX12_lay 0 = .ok (.bipush 56, 2) := by decide +kernel
theorem dX12_lay_2 : decode cX12_lay 2 = .ok (.istore_n 3, 1) := by decide +kernel
theorem dX12_lay_3 : decode cX12_lay 3 = .ok (.iload_n 3, 1) := by decide +kernel
theorem dX12_lay_4 : decode cX12_lay 4 = .ok (.ifCond .lt 71, 3) := by decide +kernel
theorem dX12_lay_7 : decode cX12_lay 7 = .ok (.lload_n 1, 1) := by decide +kernel
theorem dX12_lay_8 : decode cX12_lay 8 = .ok (.iload_n 3, 1) := by decide +kernel
theorem dX12_lay_9 : decode cX12_lay 9 = .ok (.lshr, 1) := by decide +kernel
theorem dX12_lay_10 : decode cX12_lay 10 = .ok (.l2i, 1) := by decide +kernel
theorem dX12_lay_11 : decode cX12_lay 11 = .ok (.sipush 255, 3) := by decide +kernel
theorem dX12_lay_14 : decode cX12_lay 14 = .ok (.iand, 1) := by decide +kernel
theorem dX12_lay_15 : decode cX12_lay 15 = .ok (.istore 4, 2) := by decide +kernel
theorem dX12_lay_17 : decode cX12_lay 17 = .ok (.iload 4, 2) := by decide +kernel
theorem dX12_lay_19 : decode cX12_lay 19 = .ok (.bipush 10, 2) := by decide +kernel
theorem dX12_lay_21 : decode cX12_lay 21 = .ok (.if_icmp .eq 17, 3) := by decide +kernel
theorem dX12_lay_24 : decode cX12_lay 24 = .ok (.iload 4, 2) := by decide +kernel
theorem dX12_lay_26 : decode cX12_lay 26 = .ok (.bipush 32, 2) := by decide +kernel
theorem dX12_lay_28 : decode cX12_lay 28 = .ok (.if_icmp .lt 41, 3) := by decide +kernel
theorem dX12_lay_31 : decode cX12_lay 31 = .ok (.iload 4, 2) := by decide +kernel
theorem dX12_lay_33 : decode cX12_lay 33 = .ok (.bipush 126, 2) := by decide +kernel
theorem dX12_lay_35 : decode cX12_lay 35 = .ok (.if_icmp .gt 34, 3) := by decide +kernel
theorem dX12_lay_38 : decode cX12_lay 38 = .ok (.aload_n 0, 1) := by decide +kernel
theorem dX12_lay_39 : decode cX12_lay 39 = .ok (.getfield 11, 3) := by decide +kernel
theorem dX12_lay_42 : decode cX12_lay 42 = .ok (.sipush 1000, 3) := by decide +kernel
theorem dX12_lay_45 : decode cX12_lay 45 = .ok (.if_icmp .ge 24, 3) := by decide +kernel
theorem dX12_lay_48 : decode cX12_lay 48 = .ok (.aload_n 0, 1) := by decide +kernel
theorem dX12_lay_49 : decode cX12_lay 49 = .ok (.getfield 14, 3) := by decide +kernel
theorem dX12_lay_52 : decode cX12_lay 52 = .ok (.aload_n 0, 1) := by decide +kernel
theorem dX12_lay_53 : decode cX12_lay 53 = .ok (.getfield 11, 3) := by decide +kernel
theorem dX12_lay_56 : decode cX12_lay 56 = .ok (.iload 4, 2) := by decide +kernel
theorem dX12_lay_58 : decode cX12_lay 58 = .ok (.iastore, 1) := by decide +kernel
theorem dX12_lay_59 : decode cX12_lay 59 = .ok (.aload_n 0, 1) := by decide +kernel
theorem dX12_lay_60 : decode cX12_lay 60 = .ok (.dup, 1) := by decide +kernel
theorem dX12_lay_61 : decode cX12_lay 61 = .ok (.getfield 11, 3) := by decide +kernel
theorem dX12_lay_64 : decode cX12_lay 64 = .ok (.iconst 1, 1) := by decide +kernel
theorem dX12_lay_65 : decode cX12_lay 65 = .ok (.iadd, 1) := by decide +kernel
theorem dX12_lay_66 : decode cX12_lay 66 = .ok (.putfield 11, 3) := by decide +kernel
theorem dX12_lay_69 : decode cX12_lay 69 = .ok (.iinc 3 (-8), 3) := by decide +kernel
theorem dX12_lay_72 : decode cX12_lay 72 = .ok (.goto (-69), 3) := by decide +kernel
theorem dX12_lay_75 : decode cX12_lay 75 = .ok (.return_, 1) := by decide +kernel
set_option maxHeartbeats 4000000 in
set_option maxRecDepth 100000 in
theorem s_X12_lay {P : PP} {a0 : Nat} {a1 : Int64} (I : IM P a0) : CtrV yX12_lay cX12_lay 5 none ({ frames := 1, cells := 0, slots := 0, locals := 64 } : Room) 0 0 P [.ref a0, .long a1] (fun P2 => IM P2 a0 ∧ EM [1, 2] a0 P P2) := by
  refine enV (lv := [(0, .ref a0), (1, .long a1)]) (by decide) (Nat.le_of_ble_eq_true rfl) rfl (fun E D cy C Ci0 ret => ?_)
  have ha0 := I.2.1
  have J3 : ∀ (n3 : Nat) (P3 : PP) (v3_3 : Int32), (v3_3.toInt - (-8)).toNat < n3 → (IM P3 a0) → (EM [1, 2] a0 P P3) → (-8 ≤ v3_3.toInt ∧ v3_3.toInt ≤ 56) → G E ({ frames := 1, cells := 0, slots := 0, locals := 64 } : Room) D cy 5 P3 0 0 3 [(0, .ref a0), (1, .long a1), (3, .int v3_3)] [] := by
    intro n3
    induction n3 with
    | zero => intro P3 v3_3 hm3 I3 X3 hv3_3; omega
    | succ n3 ih3 =>
      intro P3 v3_3 hm3 I3 X3 hv3_3
      have h17001 := X3.at ha0
      have J69 : ∀ (P69 : PP), (IM P69 a0) → (EM [1, 2] a0 P P69) → (0 ≤ v3_3.toInt ∧ v3_3.toInt ≤ 56) → G E ({ frames := 1, cells := 0, slots := 0, locals := 64 } : Room) D cy 5 P69 0 0 69 [(0, .ref a0), (1, .long a1), (3, .int v3_3)] [] := by
        intro P69 I69 X69 hv69_3
        have h17002 := X69.at ha0
        refine s_iinc (lv0 := [(0, .ref a0), (1, .long a1)]) (m := -8) C dX12_lay_69 2 rfl (by decide) rfl (by decide) (by omega) (fun z17003 h17004 => ?_)
        have h17004 : z17003.toInt = v3_3.toInt + (-8) := h17004
        refine g_goto C 3 dX12_lay_72 (by decide) ?_
        refine g_lv (lv' := [(0, .ref a0), (1, .long a1), (3, .int z17003)]) [1, 2, 0] rfl ?_
        exact ih3 P69 z17003 (by omega) I69 X69 (by omega)
      have J38 : ∀ (v38_4 : Int32), (0 ≤ v3_3.toInt ∧ v3_3.toInt ≤ 56) → (10 ≤ v38_4.toInt ∧ v38_4.toInt ≤ 126) → G E ({ frames := 1, cells := 0, slots := 0, locals := 64 } : Room) D cy 5 P3 0 0 38 [(0, .ref a0), (1, .long a1), (3, .int v3_3), (4, .int v38_4)] [] := by
        intro v38_4 hv38_3 hv38_4
        have h17005 := X3.at ha0
        refine g_aload_n C dX12_lay_38 rfl 0 rfl ?_
        refine g_getI C fi_X12_11 (by decide) (h17005).1 (h17005).2 dX12_lay_39 ?_
        have h17006 := I3.rg (h17005) 2 rfl
        refine g_sipush (v := 1000) C dX12_lay_42 (by decide) ?_
        refine b_icmp_ge C 69 dX12_lay_45 (by decide) (fun h17007 => ?_) (fun h17007 => ?_)
        · have h17007 : 1000 ≤ (pI P3 a0 2).toInt := h17007
          refine g_lv (lv' := [(0, .ref a0), (1, .long a1), (3, .int v3_3)]) [0, 1, 2] rfl ?_
          exact J69 P3 I3 X3 (by omega)
        · have h17007 : (pI P3 a0 2).toInt < 1000 := h17007
          refine g_aload_n C dX12_lay_48 rfl 0 rfl ?_
          obtain ⟨b17008, e17009, h17010⟩ := I3.fld (h17005) 1 13 1000 rfl
          refine g_getR C fi_X12_14 rfl e17009 (h17005).1 (h17005).2 dX12_lay_49 ?_
          refine g_aload_n C dX12_lay_52 rfl 0 rfl ?_
          refine g_getI C fi_X12_11 (by decide) (h17005).1 (h17005).2 dX12_lay_53 ?_
          refine g_iload C dX12_lay_56 3 rfl ?_
          refine g_iast (j := ((pI P3 a0 2).toInt.toNat)) C h17010.1 h17010.2.1 (ix_in h17010.2.2 (by omega)) dX12_lay_58 ?_
          refine gqW (ks := [1]) (I3.setA e17009 h17010 (by decide) (arOk.none rfl)) (EM.setA I3 e17009 rfl (by decide)) (fun Y17011 Iy17012 Xy17013 w17014 => ?_)
          have w17014 : (pI Y17011 b17008 ((pI P3 a0 2).toInt.toNat)).toInt = v38_4.toInt := w17014
          have q17015 := Xy17013.keepF 2 (by decide)
          have Xz17016 : EM [1, 2] a0 P Y17011 := EM.tr ha0 X3 (Xy17013.mono (by decide))
          have h17017 := Xy17013.at h17005
          refine g_aload_n C dX12_lay_59 rfl 0 rfl ?_
          refine g_dup C dX12_lay_60 rfl ?_
          refine g_getI C fi_X12_11 (by decide) (h17017).1 (h17017).2 dX12_lay_61 ?_
          refine g_iconst (v := 1) C dX12_lay_64 (by decide) ?_
          refine s_iadd C dX12_lay_65 (by show -2147483648 ≤ (pI Y17011 a0 2).toInt + 1 ∧ (pI Y17011 a0 2).toInt + 1 ≤ 2147483647; omega) (fun z17018 h17019 => ?_)
          have h17019 : z17018.toInt = (pI Y17011 a0 2).toInt + 1 := h17019
          refine g_putI C fi_X12_11 rfl (h17017).1 (h17017).2 dX12_lay_66 ?_
          refine gqW (ks := [2]) (Iy17012.setI (rgOk.of rfl (by omega))) (EM.setI Iy17012 (by decide)) (fun Y17020 Iy17021 Xy17022 w17023 => ?_)
          have w17023 : (pI Y17020 a0 2).toInt = z17018.toInt := w17023
          have Xz17024 : EM [1, 2] a0 P Y17020 := EM.tr ha0 Xz17016 (Xy17022.mono (by decide))
          have h17025 := Xy17022.at h17017
          refine g_lv (lv' := [(0, .ref a0), (1, .long a1), (3, .int v3_3)]) [0, 1, 2] rfl ?_
          exact J69 Y17020 Iy17021 Xz17024 (by omega)
      refine g_iload_n C dX12_lay_3 rfl 2 rfl ?_
      refine b_if_lt C 75 dX12_lay_4 (by decide) (fun h17026 => ?_) (fun h17026 => ?_)
      · have h17026 : v3_3.toInt < 0 := h17026
        exact ret _ _ _ _ _ dX12_lay_75 (by decide) (by decide) ⟨I3, X3⟩
      · have h17026 : 0 ≤ v3_3.toInt := h17026
        refine g_lload_n C dX12_lay_7 rfl 1 rfl ?_
        refine g_iload_n C dX12_lay_8 rfl 2 rfl ?_
        refine a_lshr C dX12_lay_9 (fun l17027 => ?_)
        refine a_l2i C dX12_lay_10 (fun z17028 => ?_)
        refine g_sipush (v := 255) C dX12_lay_11 (by decide) ?_
        refine s_iand C dX12_lay_14 (by show 0 ≤ 255; omega) (fun z17029 h17030 => ?_)
        have h17030 : 0 ≤ z17029.toInt ∧ z17029.toInt ≤ 255 := h17030
        refine g_istore (lv' := [(4, .int z17029), (0, .ref a0), (1, .long a1), (3, .int v3_3)]) C dX12_lay_15 (by decide) rfl ?_
        refine g_iload C dX12_lay_17 0 rfl ?_
        refine g_bipush (v := 10) C dX12_lay_19 (by decide) ?_
        refine b_icmp_eq C 38 dX12_lay_21 (by decide) (fun h17031 => ?_) (fun h17031 => ?_)
        · have h17031 : z17029.toInt = 10 := congrArg Int32.toInt h17031
          refine g_lv (lv' := [(0, .ref a0), (1, .long a1), (3, .int v3_3), (4, .int z17029)]) [1, 2, 3, 0] rfl ?_
          exact J38 z17029 (by omega) (by omega)
        · have h17031 : z17029.toInt ≠ 10 := ti_ne h17031
          refine g_iload C dX12_lay_24 0 rfl ?_
          refine g_bipush (v := 32) C dX12_lay_26 (by decide) ?_
          refine b_icmp_lt C 69 dX12_lay_28 (by decide) (fun h17032 => ?_) (fun h17032 => ?_)
          · have h17032 : z17029.toInt < 32 := h17032
            refine g_lv (lv' := [(0, .ref a0), (1, .long a1), (3, .int v3_3)]) [1, 2, 3] rfl ?_
            exact J69 P3 I3 X3 (by omega)
          · have h17032 : 32 ≤ z17029.toInt := h17032
            refine g_iload C dX12_lay_31 0 rfl ?_
            refine g_bipush (v := 126) C dX12_lay_33 (by decide) ?_
            refine b_icmp_gt C 69 dX12_lay_35 (by decide) (fun h17033 => ?_) (fun h17033 => ?_)
            · have h17033 : 126 < z17029.toInt := h17033
              refine g_lv (lv' := [(0, .ref a0), (1, .long a1), (3, .int v3_3)]) [1, 2, 3] rfl ?_
              exact J69 P3 I3 X3 (by omega)
            · have h17033 : z17029.toInt ≤ 126 := h17033
              refine g_lv (lv' := [(0, .ref a0), (1, .long a1), (3, .int v3_3), (4, .int z17029)]) [1, 2, 3, 0] rfl ?_
              exact J38 z17029 (by omega) (by omega)
  refine g_bipush (v := 56) C dX12_lay_0 (by decide) ?_
  refine g_istore_n (lv' := [(3, .int 56), (0, .ref a0), (1, .long a1)]) C dX12_lay_2 rfl (by decide) rfl ?_
  refine g_lv (lv' := [(0, .ref a0), (1, .long a1), (3, .int 56)]) [1, 2, 0] rfl ?_
  exact J3 _ P 56 (Nat.lt_succ_self _) I EM.rf (by decide)
theorem dX12_feed_10 : decode cX12_feed 10 = .ok (.aload_n 0, 1) := by decide +kernel
theorem dX12_feed_11 : decode cX12_feed 11 = .ok (.lload_n 3, 1) := by decide +kernel
theorem dX12_feed_12 : decode cX12_feed 12 = .ok (.invokevirtual 7, 3) := by decide +kernel
theorem dX12_feed_15 : decode cX12_feed 15 = .ok (.aload_n 0, 1) := by decide +kernel
theorem dX12_feed_16 : decode cX12_feed 16 = .ok (.lload 5, 2) := by decide +kernel
theorem dX12_feed_18 : decode cX12_feed 18 = .ok (.invokevirtual 7, 3) := by decide +kernel
theorem dX12_feed_21 : decode cX12_feed 21 = .ok (.aload_n 0, 1) := by decide +kernel
theorem dX12_feed_22 : decode cX12_feed 22 = .ok (.getfield 11, 3) := by decide +kernel
theorem dX12_feed_25 : decode cX12_feed 25 = .ok (.ireturn, 1) := by decide +kernel
set_option maxHeartbeats 4000000 in
set_option maxRecDepth 100000 in
theorem s_X12_feed {P : PP} {a0 : Nat} {a1 : Int64} {a2 : Int64} {a3 : Int64} (I : IM P a0) : CtrI yX12_feed cX12_feed 7 (some Jvm.ClassFile.FieldType.int) ({ frames := 2, cells := 0, slots := 0, locals := 128 } : Room) 0 0 P [.ref a0, .long a1, .long a2, .long a3] (fun r P2 => IM P2 a0 ∧ EM [0, 1, 2] a0 P P2 ∧ (0 ≤ r.toInt ∧ r.toInt ≤ 1000)) := by
  refine enI (lv := [(0, .ref a0), (1, .long a1), (3, .long a2), (5, .long a3)]) (by decide) (Nat.le_of_ble_eq_true rfl) rfl (fun E D cy C Ci0 ret => ?_)
  have ha0 := I.2.1
  refine g_aload_n C dX12_feed_0 rfl 0 rfl ?_
  refine g_iconst (v := 0) C dX12_feed_1 (by decide) ?_
  refine g_putI C fi_X12_1 rfl (ha0).1 (ha0).2 dX12_feed_2 ?_
  refine gqW (ks := [0]) (I.setI (rgOk.of rfl (by decide))) (EM.setI I (by decide)) (fun Y17065 Iy17066 Xy17067 w17068 => ?_)
  have w17068 : (pI Y17065 a0 0).toInt = 0 := w17068
  have Xz17069 : EM [0, 1, 2] a0 P Y17065 := Xy17067.mono (by decide)
  have h17070 := Xy17067.at ha0
  refine g_aload_n C dX12_feed_5 rfl 0 rfl ?_
  refine g_lload_n C dX12_feed_6 rfl 1 rfl ?_
  refine g_callVV (rest := []) C mv_X12_7 [.long a1] (s_X12_lay Iy17066) (h17070).1 (h17070).2 rfl rfl (by decide) (Nat.le_of_ble_eq_true rfl) (by decide) dX12_feed_7 (fun Y17072 h17073 => ?_)
  obtain ⟨Iy17074, Xy17075⟩ := h17073
  have q17076 := Xy17075.keepF 0 (by decide)
  have Xz17077 : EM [0, 1, 2] a0 P Y17072 := EM.tr ha0 Xz17069 (Xy17075.mono (by decide))
  have h17078 := Xy17075.at h17070
  refine g_aload_n C dX12_feed_10 rfl 0 rfl ?_
  refine g_lload_n C dX12_feed_11 rfl 2 rfl ?_
  refine g_callVV (rest := []) C mv_X12_7 [.long a2] (s_X12_lay Iy17074) (h17078).1 (h17078).2 rfl rfl (by decide) (Nat.le_of_ble_eq_true rfl) (by decide) dX12_feed_12 (fun Y17080 h17081 => ?_)
  obtain ⟨Iy17082, Xy17083⟩ := h17081
  have q17084 := Xy17083.keepF 0 (by decide)
  have Xz17085 : EM [0, 1, 2] a0 P Y17080 := EM.tr ha0 Xz17077 (Xy17083.mono (by decide))
  have h17086 := Xy17083.at h17078
  refine g_aload_n C dX12_feed_15 rfl 0 rfl ?_
  refine g_lload C dX12_feed_16 3 rfl ?_
  refine g_callVV (rest := []) C mv_X12_7 [.long a3] (s_X12_lay Iy17082) (h17086).1 (h17086).2 rfl rfl (by decide) (Nat.le_of_ble_eq_true rfl) (by decide) dX12_feed_18 (fun Y17088 h17089 => ?_)
  obtain ⟨Iy17090, Xy17091⟩ := h17089
  have q17092 := Xy17091.keepF 0 (by decide)
  have Xz17093 : EM [0, 1, 2] a0 P Y17088 := EM.tr ha0 Xz17085 (Xy17091.mono (by decide))
  have h17094 := Xy17091.at h17086
  refine g_aload_n C dX12_feed_21 rfl 0 rfl ?_
  refine g_getI C fi_X12_11 (by decide) (h17094).1 (h17094).2 dX12_feed_22 ?_
  have h17095 := Iy17090.rg (h17094) 2 rfl
  exact ret _ _ _ _ _ _ dX12_feed_25 rfl (by decide) (by decide) ⟨Iy17090, Xz17093, (by omega)⟩
theorem dX12_findSlipped_0 : decode cX12_findSlipped 0 = .ok (.aload_n 0, 1) := by decide +kernel
theorem dX12_findSlipped_1 : decode cX12_findSlipped 1 = .ok (.invokevirtual 336, 3) := by decide +kernel
theorem dX12_findSlipped_4 : decode cX12_findSlipped 4 = .ok (.aload_n 0, 1) := by decide +kernel
theorem dX12_findSlipped_5 : decode cX12_findSlipped 5 = .ok (.iload_n 1, 1) := by decide +kernel
theorem dX12_findSlipped_6 : decode cX12_findSlipped 6 = .ok (.iload_n 2, 1) := by decide +kernel
theorem dX12_findSlipped_7 : decode cX12_findSlipped 7 = .ok (.iload_n 3, 1) := by decide +kernel
theorem dX12_findSlipped_8 : decode cX12_findSlipped 8 = .ok (.aload_n 0, 1) := by decide +kernel
theorem dX12_findSlipped_9 : decode cX12_findSlipped 9 = .ok (.getfield 69, 3) := by decide +kernel
theorem dX12_findSlipped_12 : decode cX12_findSlipped 12 = .ok (.iload_n 1, 1) := by decide +kernel
theorem dX12_findSlipped_13 : decode cX12_findSlipped 13 = .ok (.iaload, 1) := by decide +kernel
theorem dX12_findSlipped_14 : decode cX12_findSlipped 14 = .ok (.invokevirtual 339, 3) := by decide +kernel
theorem dX12_fixedSet_0 : decode cX12_fixedSet 0 = .ok (.iconst 0, 1) := by decide +kernel
theorem dX12_fixedSet_1 : decode cX12_fixedSet 1 = .ok (.istore_n 1, 1) := by decide +kernel
theorem dX12_fixedSet_2 : decode cX12_fixedSet 2 = .ok (.iconst 0, 1) := by decide +kernel
theorem dX12_fixedSet_3 : decode cX12_fixedSet 3 = .ok (.istore_n 2, 1) := by decide +kernel
theorem dX12_fixedSet_4 : decode cX12_fixedSet 4 = .ok (.iload_n 2, 1) := by decide +kernel
theorem dX12_fixedSet_5 : decode cX12_fixedSet 5 = .ok (.bipush 20, 2) := by decide +kernel
theorem dX12_fixedSet_7 : decode cX12_fixedSet 7 = .ok (.if_icmp .ge 27, 3) := by decide +kernel
theorem dX12_fixedSet_10 : decode cX12_fixedSet 10 = .ok (.iload_n 1, 1) := by decide +kernel
theorem dX12_fixedSet_11 : decode cX12_fixedSet 11 = .ok (.aload_n 0, 1) := by decide +kernel
theorem dX12_fixedSet_12 : decode cX12_fixedSet 12 = .ok (.iload_n 2, 1) := by decide +kernel
theorem dX12_fixedSet_13 : decode cX12_fixedSet 13 = .ok (.invokevirtual 330, 3) := by decide +kernel
theorem dX12_isFixed_0 : decode cX12_isFixed 0 = .ok (.aload_n 0, 1) := by decide +kernel
theorem dX12_isFixed_1 : decode cX12_isFixed 1 = .ok (.getfield 326, 3) := by decide +kernel
theorem dX12_isFixed_4 : decode cX12_isFixed 4 = .ok (.ifCond .eq 19, 3) := by decide +kernel
theorem dX12_isFixed_7 : decode cX12_isFixed 7 = .ok (.aload_n 0, 1) := by decide +kernel
theorem dX12_isFixed_8 : decode cX12_isFixed 8 = .ok (.getfield 106, 3) := by decide +kernel
theorem dX12_isFixed_11 : decode cX12_isFixed 11 = .ok (.iload_n 1, 1) := by decide +kernel
theorem dX12_isFixed_12 : decode cX12_isFixed 12 = .ok (.iaload, 1) := by decide +kernel
theorem dX12_isFixed_13 : decode cX12_isFixed 13 = .ok (.iconst 1, 1) := by decide +kernel
theorem dX12_isFixed_14 : decode cX12_isFixed 14 = .ok (.iload_n 1, 1) := by decide +kernel
theorem dX12_isFixed_15 : decode cX12_isFixed 15 = .ok (.ishl, 1) := by decide +kernel
theorem dX12_isFixed_16 : decode cX12_isFixed 16 = .ok (.if_icmp .ne 7, 3) := by decide +kernel
theorem dX12_isFixed_19 : decode cX12_isFixed 19 = .ok (.iconst 1, 1) := by decide +kernel
theorem dX12_isFixed_20 : decode cX12_isFixed 20 = .ok (.goto 4, 3) := by decide +kernel
theorem dX12_isFixed_23 : decode cX12_isFixed 23 = .ok (.iconst 0, 1) := by decide +kernel
theorem dX12_isFixed_24 : decode cX12_isFixed 24 = .ok (.ireturn, 1) := by decide +kernel
set_option maxHeartbeats 4000000 in
set_option maxRecDepth 100000 in
theorem s_X12_isFixed {P : PP} {a0 : Nat} {a1 : Int32} (I : IM P a0) (ha1 : 0 ≤ a1.toInt ∧ a1.toInt ≤ 19) : CtrI yX12_isFixed cX12_isFixed 2 (some Jvm.ClassFile.FieldType.boolean) ({ frames := 1, cells := 0, slots := 0, locals := 64 } : Room) 0 0 P [.ref a0, .int a1] (fun r P2 => P = P2 ∧ (0 ≤ r.toInt ∧ r.toInt ≤ 1)) := by
  refine enI (lv := [(0, .ref a0), (1, .int a1)]) (by decide) (Nat.le_of_ble_eq_true rfl) rfl (fun E D cy C Ci0 ret => ?_)
  have ha0 := I.2.1
  have J23 : (0 ≤ (pI P a0 36).toInt ∧ (pI P a0 36).toInt ≤ 1) → G E ({ frames := 1, cells := 0, slots := 0, locals := 64 } : Room) D cy 2 P 0 0 23 [] [] := by
    intro hq23_0
    refine g_iconst (v := 0) C dX12_isFixed_23 (by decide) ?_
    exact ret _ _ _ _ _ _ dX12_isFixed_24 rfl (by decide) (by decide) ⟨rfl, (by decide)⟩
  refine g_aload_n C dX12_isFixed_0 rfl 0 rfl ?_
  refine g_getI C fi_X12_326 (by decide) (ha0).1 (ha0).2 dX12_isFixed_1 ?_
  have h17118 := I.rg (ha0) 36 rfl
  refine b_if_eq C 23 dX12_isFixed_4 (by decide) (fun h17119 => ?_) (fun h17119 => ?_)
  · have h17119 : (pI P a0 36).toInt = 0 := congrArg Int32.toInt h17119
    refine g_lv (lv' := []) [] rfl ?_
    exact J23 (by omega)
  · have h17119 : (pI P a0 36).toInt ≠ 0 := ti_ne h17119
    refine g_aload_n C dX12_isFixed_7 rfl 0 rfl ?_
    obtain ⟨b17120, e17121, h17122⟩ := I.fld (ha0) 37 13 20 rfl
    refine g_getR C fi_X12_106 rfl e17121 (ha0).1 (ha0).2 dX12_isFixed_8 ?_
    refine g_iload_n C dX12_isFixed_11 rfl 1 rfl ?_
    refine g_iald (j := (a1.toInt.toNat)) C h17122.1 h17122.2.1 (ix_in h17122.2.2 (by omega)) dX12_isFixed_12 ?_
    refine g_iconst (v := 1) C dX12_isFixed_13 (by decide) ?_
    refine g_iload_n C dX12_isFixed_14 rfl 1 rfl ?_
    refine a_ishl C dX12_isFixed_15 (fun z17123 => ?_)
    have u17126 := ti_rng (pI P b17120 (a1.toInt.toNat))
    have u17127 := ti_rng z17123
    refine b_icmp_ne C 23 dX12_isFixed_16 (by decide) (fun h17125 => ?_) (fun h17125 => ?_)
    · have h17125 : (pI P b17120 (a1.toInt.toNat)).toInt ≠ z17123.toInt := ti_ne h17125
      refine g_lv (lv' := []) [] rfl ?_
      exact J23 (by omega)
    · have h17125 : (pI P b17120 (a1.toInt.toNat)).toInt = z17123.toInt := congrArg Int32.toInt h17125
      refine g_iconst (v := 1) C dX12_isFixed_19 (by decide) ?_
      refine g_goto C 24 dX12_isFixed_20 (by decide) ?_
      exact ret _ _ _ _ _ _ dX12_isFixed_24 rfl (by decide) (by decide) ⟨rfl, (by decide)⟩
theorem dX12_fixedSet_16 : decode cX12_fixedSet 16 = .ok (.ifCond .eq 9, 3) := by decide +kernel
theorem dX12_fixedSet_19 : decode cX12_fixedSet 19 = .ok (.iconst 1, 1) := by decide +kernel
theorem dX12_fixedSet_20 : decode cX12_fixedSet 20 = .ok (.iload_n 2, 1) := by decide +kernel
theorem dX12_fixedSet_21 : decode cX12_fixedSet 21 = .ok (.ishl, 1) := by decide +kernel
theorem dX12_fixedSet_22 : decode cX12_fixedSet 22 = .ok (.goto 4, 3) := by decide +kernel
theorem dX12_fixedSet_25 : decode cX12_fixedSet 25 = .ok (.iconst 0, 1) := by decide +kernel
theorem dX12_fixedSet_26 : decode cX12_fixedSet 26 = .ok (.ior, 1) := by decide +kernel
theorem dX12_fixedSet_27 : decode cX12_fixedSet 27 = .ok (.istore_n 1, 1) := by decide +kernel
theorem dX12_fixedSet_28 : decode cX12_fixedSet 28 = .ok (.iinc 2 1, 3) := by decide +kernel
theorem dX12_fixedSet_31 : decode cX12_fixedSet 31 = .ok (.goto (-27), 3) := by decide +kernel
theorem dX12_fixedSet_34 : decode cX12_fixedSet 34 = .ok (.iload_n 1, 1) := by decide +kernel
theorem dX12_fixedSet_35 : decode cX12_fixedSet 35 = .ok (.ireturn, 1) := by decide +kernel
set_option maxHeartbeats 4000000 in
set_option maxRecDepth 100000 in
theorem s_X12_fixedSet {P : PP} {a0 : Nat} (I : IM P a0) : CtrI yX12_fixedSet cX12_fixedSet 3 (some Jvm.ClassFile.FieldType.int) ({ frames := 2, cells := 0, slots := 0, locals := 128 } : Room) 0 0 P [.ref a0] (fun r P2 => P = P2 ∧ (True)) := by
  refine enI (lv := [(0, .ref a0)]) (by decide) (Nat.le_of_ble_eq_true rfl) rfl (fun E D cy C Ci0 ret => ?_)
  have ha0 := I.2.1
  have J4 : ∀ (n4 : Nat) (v4_1 : Int32) (v4_2 : Int32), (20 - v4_2.toInt).toNat < n4 → (0 ≤ v4_2.toInt ∧ v4_2.toInt ≤ 20) → G E ({ frames := 2, cells := 0, slots := 0, locals := 128 } : Room) D cy 3 P 0 0 4 [(0, .ref a0), (1, .int v4_1), (2, .int v4_2)] [] := by
    intro n4
    induction n4 with
    | zero => intro v4_1 v4_2 hm4 hv4_2; omega
    | succ n4 ih4 =>
      intro v4_1 v4_2 hm4 hv4_2
      have J26 : ∀ (v26_s0 : Int32), (0 ≤ v4_2.toInt ∧ v4_2.toInt ≤ 19) → G E ({ frames := 2, cells := 0, slots := 0, locals := 128 } : Room) D cy 3 P 0 0 26 [(0, .ref a0), (2, .int v4_2)] [.int v26_s0, .int v4_1] := by
        intro v26_s0 hv26_2
        refine a_ior C dX12_fixedSet_26 (fun z17271 => ?_)
        refine g_istore_n (lv' := [(1, .int z17271), (0, .ref a0), (2, .int v4_2)]) C dX12_fixedSet_27 rfl (by decide) rfl ?_
        refine s_iinc (lv0 := [(1, .int z17271), (0, .ref a0)]) (m := 1) C dX12_fixedSet_28 2 rfl (by decide) rfl (by decide) (by omega) (fun z17273 h17274 => ?_)
        have h17274 : z17273.toInt = v4_2.toInt + 1 := h17274
        refine g_goto C 4 dX12_fixedSet_31 (by decide) ?_
        refine g_lv (lv' := [(0, .ref a0), (1, .int z17271), (2, .int z17273)]) [2, 1, 0] rfl ?_
        exact ih4 z17271 z17273 (by omega) (by omega)
      refine g_iload_n C dX12_fixedSet_4 rfl 2 rfl ?_
      refine g_bipush (v := 20) C dX12_fixedSet_5 (by decide) ?_
      refine b_icmp_ge C 34 dX12_fixedSet_7 (by decide) (fun h17275 => ?_) (fun h17275 => ?_)
      · have h17275 : 20 ≤ v4_2.toInt := h17275
        refine g_iload_n C dX12_fixedSet_34 rfl 1 rfl ?_
        exact ret _ _ _ _ _ _ dX12_fixedSet_35 rfl (by decide) (by decide) ⟨rfl, trivial⟩
      · have h17275 : v4_2.toInt < 20 := h17275
        refine g_iload_n C dX12_fixedSet_10 rfl 1 rfl ?_
        refine g_aload_n C dX12_fixedSet_11 rfl 0 rfl ?_
        refine g_iload_n C dX12_fixedSet_12 rfl 2 rfl ?_
        refine g_callVI (rest := [.int v4_1]) C mv_X12_330 [.int v4_2] (s_X12_isFixed I (by omega)) (ha0).1 (ha0).2 rfl rfl (by decide) (Nat.le_of_ble_eq_true rfl) (by decide) dX12_fixedSet_13 (fun r17276 Y17277 h17278 => ?_)
        obtain ⟨rfl, h17278⟩ := h17278
        have h17278 : 0 ≤ r17276.toInt ∧ r17276.toInt ≤ 1 := h17278
        refine b_if_eq C 25 dX12_fixedSet_16 (by decide) (fun h17279 => ?_) (fun h17279 => ?_)
        · have h17279 : r17276.toInt = 0 := congrArg Int32.toInt h17279
          refine g_iconst (v := 0) C dX12_fixedSet_25 (by decide) ?_
          refine g_lv (lv' := [(0, .ref a0), (2, .int v4_2)]) [0, 2] rfl ?_
          exact J26 0 (by omega)
        · have h17279 : r17276.toInt ≠ 0 := ti_ne h17279
          refine g_iconst (v := 1) C dX12_fixedSet_19 (by decide) ?_
          refine g_iload_n C dX12_fixedSet_20 rfl 2 rfl ?_
          refine a_ishl C dX12_fixedSet_21 (fun z17280 => ?_)
          refine g_goto C 26 dX12_fixedSet_22 (by decide) ?_
          refine g_lv (lv' := [(0, .ref a0), (2, .int v4_2)]) [0, 2] rfl ?_
          exact J26 z17280 (by omega)
  refine g_iconst (v := 0) C dX12_fixedSet_0 (by decide) ?_
  refine g_istore_n (lv' := [(1, .int 0), (0, .ref a0)]) C dX12_fixedSet_1 rfl (by decide) rfl ?_
  refine g_iconst (v := 0) C dX12_fixedSet_2 (by decide) ?_
  refine g_istore_n (lv' := [(2, .int 0), (1, .int 0), (0, .ref a0)]) C dX12_fixedSet_3 rfl (by decide) rfl ?_
  refine g_lv (lv' := [(0, .ref a0), (1, .int 0), (2, .int 0)]) [2, 1, 0] rfl ?_
  exact J4 _ 0 0 (Nat.lt_succ_self _) (by decide)
theorem dX12_forged_0 : decode cX12_forged 0 = .ok (.aload_n 0, 1) := by decide +kernel
theorem dX12_forged_1 : decode cX12_forged 1 = .ok (.iconst 0, 1) := by decide +kernel
theorem dX12_forged_2 : decode cX12_forged 2 = .ok (.putfield 1, 3) := by decide +kernel
theorem dX12_forged_5 : decode cX12_forged 5 = .ok (.iload_n 1, 1) := by decide +kernel
theorem dX12_forged_6 : decode cX12_forged 6 = .ok (.invokestatic 278, 3) := by decide +kernel
theorem dX12_forged_9 : decode cX12_forged 9 = .ok (.ifCond .eq 45, 3) := by decide +kernel
theorem dX12_forged_12 : decode cX12_forged 12 = .ok (.aload_n 0, 1) := by decide +kernel
theorem dX12_forged_13 : decode cX12_forged 13 = .ok (.iload_n 2, 1) := by decide +kernel
theorem dX12_forged_14 : decode cX12_forged 14 = .ok (.invokevirtual 192, 3) := by decide +kernel
theorem dX12_forged_17 : decode cX12_forged 17 = .ok (.ifCond .eq 37, 3) := by decide +kernel
theorem dX12_forged_20 : decode cX12_forged 20 = .ok (.iload_n 3, 1) := by decide +kernel
theorem dX12_forged_21 : decode cX12_forged 21 = .ok (.invokestatic 258, 3) := by decide +kernel
theorem dX12_forged_24 : decode cX12_forged 24 = .ok (.ifCond .eq 30, 3) := by decide +kernel
theorem dX12_forged_27 : decode cX12_forged 27 = .ok (.iload 4, 2) := by decide +kernel
theorem dX12_forged_29 : decode cX12_forged 29 = .ok (.iconst 0, 1) := by decide +kernel
theorem dX12_forged_30 : decode cX12_forged 30 = .ok (.ldc 195, 2) := by decide +kernel
theorem dX12_forged_32 : decode cX12_forged 32 = .ok (.invokestatic 178, 3) := by decide +kernel
theorem dX12_forged_35 : decode cX12_forged 35 = .ok (.ifCond .eq 19, 3) := by decide +kernel
theorem dX12_forged_38 : decode cX12_forged 38 = .ok (.iload 5, 2) := by decide +kernel
theorem dX12_forged_40 : decode cX12_forged 40 = .ok (.iconst 0, 1) := by decide +kernel
theorem dX12_forged_41 : decode cX12_forged 41 = .ok (.sipush 996, 3) := by decide +kernel
theorem dX12_forged_44 : decode cX12_forged 44 = .ok (.invokestatic 178, 3) := by decide +kernel
theorem dX12_forged_47 : decode cX12_forged 47 = .ok (.ifCond .eq 7, 3) := by decide +kernel
theorem dX12_forged_50 : decode cX12_forged 50 = .ok (.iconst 1, 1) := by decide +kernel
theorem dX12_forged_51 : decode cX12_forged 51 = .ok (.goto 4, 3) := by decide +kernel
theorem dX12_forged_54 : decode cX12_forged 54 = .ok (.iconst 0, 1) := by decide +kernel
theorem dX12_forged_55 : decode cX12_forged 55 = .ok (.istore 6, 2) := by decide +kernel
theorem dX12_forged_57 : decode cX12_forged 57 = .ok (.iload 6, 2) := by decide +kernel
theorem dX12_forged_59 : decode cX12_forged 59 = .ok (.ifCond .eq 28, 3) := by decide +kernel
theorem dX12_forged_62 : decode cX12_forged 62 = .ok (.aload_n 0, 1) := by decide +kernel
theorem dX12_forged_63 : decode cX12_forged 63 = .ok (.getfield 69, 3) := by decide +kernel
theorem dX12_forged_66 : decode cX12_forged 66 = .ok (.iload_n 1, 1) := by decide +kernel
theorem dX12_forged_67 : decode cX12_forged 67 = .ok (.iaload, 1) := by decide +kernel
theorem dX12_forged_68 : decode cX12_forged 68 = .ok (.bipush 40, 2) := by decide +kernel
theorem dX12_forged_70 : decode cX12_forged 70 = .ok (.if_icmp .ge 17, 3) := by decide +kernel
theorem dX12_forged_73 : decode cX12_forged 73 = .ok (.aload_n 0, 1) := by decide +kernel
theorem dX12_forged_74 : decode cX12_forged 74 = .ok (.iload_n 1, 1) := by decide +kernel
theorem dX12_forged_75 : decode cX12_forged 75 = .ok (.iload_n 2, 1) := by decide +kernel
theorem dX12_forged_76 : decode cX12_forged 76 = .ok (.iload_n 3, 1) := by decide +kernel
theorem dX12_forged_77 : decode cX12_forged 77 = .ok (.iload 4, 2) := by decide +kernel
theorem dX12_forged_79 : decode cX12_forged 79 = .ok (.iload 5, 2) := by decide +kernel
theorem dX12_forged_81 : decode cX12_forged 81 = .ok (.invokevirtual 291, 3) := by decide +kernel
theorem dX12_laysIf_0 : decode cX12_laysIf 0 = .ok (.aload_n 0, 1) := by decide +kernel
theorem dX12_laysIf_1 : decode cX12_laysIf 1 = .ok (.getfield 66, 3) := by decide +kernel
theorem dX12_laysIf_4 : decode cX12_laysIf 4 = .ok (.iload_n 2, 1) := by decide +kernel
theorem dX12_laysIf_5 : decode cX12_laysIf 5 = .ok (.iaload, 1) := by decide +kernel
theorem dX12_laysIf_6 : decode cX12_laysIf 6 = .ok (.ifCond .le 28, 3) := by decide +kernel
theorem dX12_laysIf_9 : decode cX12_laysIf 9 = .ok (.iload 5, 2) := by decide +kernel
theorem dX12_laysIf_11 : decode cX12_laysIf 11 = .ok (.aload_n 0, 1) := by decide +kernel
theorem dX12_laysIf_12 : decode cX12_laysIf 12 = .ok (.iload_n 2, 1) := by decide +kernel
theorem dX12_laysIf_13 : decode cX12_laysIf 13 = .ok (.iload_n 3, 1) := by decide +kernel
theorem dX12_laysIf_14 : decode cX12_laysIf 14 = .ok (.iload 4, 2) := by decide +kernel
theorem dX12_laysIf_16 : decode cX12_laysIf 16 = .ok (.invokevirtual 267, 3) := by decide +kernel
theorem dX12_sealOf_0 : decode cX12_sealOf 0 = .ok (.aload_n 0, 1) := by decide +kernel
theorem dX12_sealOf_1 : decode cX12_sealOf 1 = .ok (.getfield 66, 3) := by decide +kernel
theorem dX12_sealOf_4 : decode cX12_sealOf 4 = .ok (.iload_n 1, 1) := by decide +kernel
theorem dX12_sealOf_5 : decode cX12_sealOf 5 = .ok (.iaload, 1) := by decide +kernel
theorem dX12_sealOf_6 : decode cX12_sealOf 6 = .ok (.ifCond .ne 7, 3) := by decide +kernel
theorem dX12_sealOf_9 : decode cX12_sealOf 9 = .ok (.iconst 0, 1) := by decide +kernel
theorem dX12_sealOf_10 : decode cX12_sealOf 10 = .ok (.goto 22, 3) := by decide +kernel
theorem dX12_sealOf_13 : decode cX12_sealOf 13 = .ok (.iload_n 2, 1) := by decide +kernel
theorem dX12_sealOf_14 : decode cX12_sealOf 14 = .ok (.iconst 1, 1) := by decide +kernel
theorem dX12_sealOf_15 : decode cX12_sealOf 15 = .ok (.iadd, 1) := by decide +kernel
theorem dX12_sealOf_16 : decode cX12_sealOf 16 = .ok (.aload_n 0, 1) := by decide +kernel
theorem dX12_sealOf_17 : decode cX12_sealOf 17 = .ok (.getfield 66, 3) := by decide +kernel
theorem dX12_sealOf_20 : decode cX12_sealOf 20 = .ok (.iload_n 1, 1) := by decide +kernel
theorem dX12_sealOf_21 : decode cX12_sealOf 21 = .ok (.iaload, 1) := by decide +kernel
theorem dX12_sealOf_22 : decode cX12_sealOf 22 = .ok (.imul, 1) := by decide +kernel
theorem dX12_sealOf_23 : decode cX12_sealOf 23 = .ok (.bipush 31, 2) := by decide +kernel
theorem dX12_sealOf_25 : decode cX12_sealOf 25 = .ok (.iload_n 3, 1) := by decide +kernel
theorem dX12_sealOf_26 : decode cX12_sealOf 26 = .ok (.imul, 1) := by decide +kernel
theorem dX12_sealOf_27 : decode cX12_sealOf 27 = .ok (.iadd, 1) := by decide +kernel
theorem dX12_sealOf_28 : decode cX12_sealOf 28 = .ok (.sipush 997, 3) := by decide +kernel
theorem dX12_sealOf_31 : decode cX12_sealOf 31 = .ok (.irem, 1) := by decide +kernel
theorem dX12_sealOf_32 : decode cX12_sealOf 32 = .ok (.ireturn, 1) := by decide +kernel
set_option maxHeartbeats 4000000 in
set_option maxRecDepth 100000 in
theorem s_X12_sealOf {P : PP} {a0 : Nat} {a1 : Int32} {a2 : Int32} {a3 : Int32} (I : IM P a0) (ha1 : 0 ≤ a1.toInt ∧ a1.toInt ≤ 1) : CtrI yX12_sealOf cX12_sealOf 4 (some Jvm.ClassFile.FieldType.int) ({ frames := 1, cells := 0, slots := 0, locals := 64 } : Room) 0 0 P [.ref a0, .int a1, .int a2, .int a3] (fun r P2 => P = P2 ∧ (True)) := by
  refine enI (lv := [(0, .ref a0), (1, .int a1), (2, .int a2), (3, .int a3)]) (by decide) (Nat.le_of_ble_eq_true rfl) rfl (fun E D cy C Ci0 ret => ?_)
  have ha0 := I.2.1
  refine g_aload_n C dX12_sealOf_0 rfl 0 rfl ?_
  obtain ⟨b17344, e17345, h17346⟩ := I.fld (ha0) 17 13 3 rfl
  refine g_getR C fi_X12_66 rfl e17345 (ha0).1 (ha0).2 dX12_sealOf_1 ?_
  refine g_iload_n C dX12_sealOf_4 rfl 1 rfl ?_
  refine g_iald (j := (a1.toInt.toNat)) C h17346.1 h17346.2.1 (ix_in h17346.2.2 (by omega)) dX12_sealOf_5 ?_
  have u17348 := ti_rng (pI P b17344 (a1.toInt.toNat))
  refine b_if_ne C 13 dX12_sealOf_6 (by decide) (fun h17347 => ?_) (fun h17347 => ?_)
  · have h17347 : (pI P b17344 (a1.toInt.toNat)).toInt ≠ 0 := ti_ne h17347
    refine g_iload_n C dX12_sealOf_13 rfl 2 rfl ?_
    refine g_iconst (v := 1) C dX12_sealOf_14 (by decide) ?_
    refine a_iadd C dX12_sealOf_15 (fun z17349 => ?_)
    refine g_aload_n C dX12_sealOf_16 rfl 0 rfl ?_
    refine g_getR C fi_X12_66 rfl e17345 (ha0).1 (ha0).2 dX12_sealOf_17 ?_
    refine g_iload_n C dX12_sealOf_20 rfl 1 rfl ?_
    refine g_iald (j := (a1.toInt.toNat)) C h17346.1 h17346.2.1 (ix_in h17346.2.2 (by omega)) dX12_sealOf_21 ?_
    refine a_imul C dX12_sealOf_22 (fun z17351 => ?_)
    refine g_bipush (v := 31) C dX12_sealOf_23 (by decide) ?_
    refine g_iload_n C dX12_sealOf_25 rfl 3 rfl ?_
    refine a_imul C dX12_sealOf_26 (fun z17353 => ?_)
    refine a_iadd C dX12_sealOf_27 (fun z17355 => ?_)
    refine g_sipush (v := 997) C dX12_sealOf_28 (by decide) ?_
    refine a_irem C dX12_sealOf_31 (by show 997 ≠ 0; omega) (fun z17357 => ?_)
    exact ret _ _ _ _ _ _ dX12_sealOf_32 rfl (by decide) (by decide) ⟨rfl, trivial⟩
  · have h17347 : (pI P b17344 (a1.toInt.toNat)).toInt = 0 := congrArg Int32.toInt h17347
    refine g_iconst (v := 0) C dX12_sealOf_9 (by decide) ?_
    refine g_goto C 32 dX12_sealOf_10 (by decide) ?_
    exact ret _ _ _ _ _ _ dX12_sealOf_32 rfl (by decide) (by decide) ⟨rfl, trivial⟩
theorem dX12_laysIf_19 : decode cX12_laysIf 19 = .ok (.if_icmp .eq 15, 3) := by decide +kernel
theorem dX12_laysIf_22 : decode cX12_laysIf 22 = .ok (.aload_n 0, 1) := by decide +kernel
theorem dX12_laysIf_23 : decode cX12_laysIf 23 = .ok (.dup, 1) := by decide +kernel
theorem dX12_laysIf_24 : decode cX12_laysIf 24 = .ok (.getfield 288, 3) := by decide +kernel
theorem dX12_laysIf_27 : decode cX12_laysIf 27 = .ok (.iconst 1, 1) := by decide +kernel
theorem dX12_laysIf_28 : decode cX12_laysIf 28 = .ok (.iadd, 1) := by decide +kernel
theorem dX12_laysIf_29 : decode cX12_laysIf 29 = .ok (.putfield 288, 3) := by decide +kernel
theorem dX12_laysIf_32 : decode cX12_laysIf 32 = .ok (.iconst (-1), 1) := by decide +kernel
theorem dX12_laysIf_33 : decode cX12_laysIf 33 = .ok (.ireturn, 1) := by decide +kernel
theorem dX12_laysIf_34 : decode cX12_laysIf 34 = .ok (.aload_n 0, 1) := by decide +kernel
theorem dX12_laysIf_35 : decode cX12_laysIf 35 = .ok (.iload_n 1, 1) := by decide +kernel
theorem dX12_laysIf_36 : decode cX12_laysIf 36 = .ok (.iload_n 2, 1) := by decide +kernel
theorem dX12_laysIf_37 : decode cX12_laysIf 37 = .ok (.iload_n 3, 1) := by decide +kernel
theorem dX12_laysIf_38 : decode cX12_laysIf 38 = .ok (.iload 4, 2) := by decide +kernel
theorem dX12_laysIf_40 : decode cX12_laysIf 40 = .ok (.iconst 3, 1) := by decide +kernel
theorem dX12_laysIf_41 : decode cX12_laysIf 41 = .ok (.iload 5, 2) := by decide +kernel
theorem dX12_laysIf_43 : decode cX12_laysIf 43 = .ok (.invokevirtual 284, 3) := by decide +kernel
theorem dX12_lays_0 : decode cX12_lays 0 = .ok (.bipush 40, 2) := by decide +kernel
theorem dX12_lays_2 : decode cX12_lays 2 = .ok (.iload_n 1, 1) := by decide +kernel
theorem dX12_lays_3 : decode cX12_lays 3 = .ok (.imul, 1) := by decide +kernel
theorem dX12_lays_4 : decode cX12_lays 4 = .ok (.aload_n 0, 1) := by decide +kernel
theorem dX12_lays_5 : decode cX12_lays 5 = .ok (.getfield 69, 3) := by decide +kernel
theorem dX12_lays_8 : decode cX12_lays 8 = .ok (.iload_n 1, 1) := by decide +kernel
theorem dX12_lays_9 : decode cX12_lays 9 = .ok (.iaload, 1) := by decide +kernel
theorem dX12_lays_10 : decode cX12_lays 10 = .ok (.iadd, 1) := by decide +kernel
theorem dX12_lays_11 : decode cX12_lays 11 = .ok (.istore 7, 2) := by decide +kernel
theorem dX12_lays_13 : decode cX12_lays 13 = .ok (.aload_n 0, 1) := by decide +kernel
theorem dX12_lays_14 : decode cX12_lays 14 = .ok (.getfield 72, 3) := by decide +kernel
theorem dX12_lays_17 : decode cX12_lays 17 = .ok (.iload 7, 2) := by decide +kernel
theorem dX12_lays_19 : decode cX12_lays 19 = .ok (.iload_n 3, 1) := by decide +kernel
theorem dX12_lays_20 : decode cX12_lays 20 = .ok (.iastore, 1) := by decide +kernel
theorem dX12_lays_21 : decode cX12_lays 21 = .ok (.aload_n 0, 1) := by decide +kernel
theorem dX12_lays_22 : decode cX12_lays 22 = .ok (.getfield 75, 3) := by decide +kernel
theorem dX12_lays_25 : decode cX12_lays 25 = .ok (.iload 7, 2) := by decide +kernel
theorem dX12_lays_27 : decode cX12_lays 27 = .ok (.iload_n 2, 1) := by decide +kernel
theorem dX12_lays_28 : decode cX12_lays 28 = .ok (.iastore, 1) := by decide +kernel
theorem dX12_lays_29 : decode cX12_lays 29 = .ok (.aload_n 0, 1) := by decide +kernel
theorem dX12_lays_30 : decode cX12_lays 30 = .ok (.getfield 78, 3) := by decide +kernel
theorem dX12_lays_33 : decode cX12_lays 33 = .ok (.iload 7, 2) := by decide +kernel
theorem dX12_lays_35 : decode cX12_lays 35 = .ok (.iload 4, 2) := by decide +kernel
theorem dX12_lays_37 : decode cX12_lays 37 = .ok (.iastore, 1) := by decide +kernel
theorem dX12_lays_38 : decode cX12_lays 38 = .ok (.aload_n 0, 1) := by decide +kernel
theorem dX12_lays_39 : decode cX12_lays 39 = .ok (.getfield 81, 3) := by decide +kernel
theorem dX12_lays_42 : decode cX12_lays 42 = .ok (.iload 7, 2) := by decide +kernel
theorem dX12_lays_44 : decode cX12_lays 44 = .ok (.iload 5, 2) := by decide +kernel
theorem dX12_lays_46 : decode cX12_lays 46 = .ok (.iastore, 1) := by decide +kernel
theorem dX12_lays_47 : decode cX12_lays 47 = .ok (.aload_n 0, 1) := by decide +kernel
theorem dX12_lays_48 : decode cX12_lays 48 = .ok (.getfield 84, 3) := by decide +kernel
theorem dX12_lays_51 : decode cX12_lays 51 = .ok (.iload 7, 2) := by decide +kernel
theorem dX12_lays_53 : decode cX12_lays 53 = .ok (.iload 6, 2) := by decide +kernel
theorem dX12_lays_55 : decode cX12_lays 55 = .ok (.iastore, 1) := by decide +kernel
theorem dX12_lays_56 : decode cX12_lays 56 = .ok (.aload_n 0, 1) := by decide +kernel
theorem dX12_lays_57 : decode cX12_lays 57 = .ok (.getfield 69, 3) := by decide +kernel
theorem dX12_lays_60 : decode cX12_lays 60 = .ok (.iload_n 1, 1) := by decide +kernel
theorem dX12_lays_61 : decode cX12_lays 61 = .ok (.dup2, 1) := by decide +kernel
theorem dX12_lays_62 : decode cX12_lays 62 = .ok (.iaload, 1) := by decide +kernel
theorem dX12_lays_63 : decode cX12_lays 63 = .ok (.iconst 1, 1) := by decide +kernel
theorem dX12_lays_64 : decode cX12_lays 64 = .ok (.iadd, 1) := by decide +kernel
theorem dX12_lays_65 : decode cX12_lays 65 = .ok (.iastore, 1) := by decide +kernel
theorem dX12_lays_66 : decode cX12_lays 66 = .ok (.aload_n 0, 1) := by decide +kernel
theorem dX12_lays_67 : decode cX12_lays 67 = .ok (.getfield 69, 3) := by decide +kernel
theorem dX12_lays_70 : decode cX12_lays 70 = .ok (.iload_n 1, 1) := by decide +kernel
theorem dX12_lays_71 : decode cX12_lays 71 = .ok (.iaload, 1) := by decide +kernel
theorem dX12_lays_72 : decode cX12_lays 72 = .ok (.iconst 1, 1) := by decide +kernel
theorem dX12_lays_73 : decode cX12_lays 73 = .ok (.isub, 1) := by decide +kernel
theorem dX12_lays_74 : decode cX12_lays 74 = .ok (.ireturn, 1) := by decide +kernel
set_option maxHeartbeats 4000000 in
set_option maxRecDepth 100000 in
theorem s_X12_lays {P : PP} {a0 : Nat} {a1 : Int32} {a2 : Int32} {a3 : Int32} {a4 : Int32} {a5 : Int32} {a6 : Int32} (I : IM P a0) (ha1 : 0 ≤ a1.toInt ∧ a1.toInt ≤ 3) (ha2 : -1 ≤ a2.toInt ∧ a2.toInt ≤ 1) (hf0 : ∀ b, pR P a0 20 = some b → 0 ≤ (pI P b (a1.toInt.toNat)).toInt ∧ (pI P b (a1.toInt.toNat)).toInt ≤ 39) : CtrI yX12_lays cX12_lays 8 (some Jvm.ClassFile.FieldType.int) ({ frames := 1, cells := 0, slots := 0, locals := 64 } : Room) 0 0 P [.ref a0, .int a1, .int a2, .int a3, .int a4, .int a5, .int a6] (fun r P2 => IM P2 a0 ∧ EM [20, 21, 22, 23, 24, 25] a0 P P2 ∧ (0 ≤ r.toInt ∧ r.toInt ≤ 39)) := by
  refine enI (lv := [(0, .ref a0), (1, .int a1), (2, .int a2), (3, .int a3), (4, .int a4), (5, .int a5), (6, .int a6)]) (by decide) (Nat.le_of_ble_eq_true rfl) rfl (fun E D cy C Ci0 ret => ?_)
  have ha0 := I.2.1
  obtain ⟨b17527, e17528, h17529⟩ := I.fld (ha0) 20 13 20 rfl
  have hf0 := hf0 b17527 e17528
  refine g_bipush (v := 40) C dX12_lays_0 (by decide) ?_
  refine g_iload_n C dX12_lays_2 rfl 1 rfl ?_
  refine s_imul C dX12_lays_3 (by show -2147483648 ≤ 40 * a1.toInt ∧ 40 * a1.toInt ≤ 2147483647; omega) (fun z17530 h17531 => ?_)
  have h17531 : z17530.toInt = 40 * a1.toInt := h17531
  refine g_aload_n C dX12_lays_4 rfl 0 rfl ?_
  refine g_getR C fi_X12_69 rfl e17528 (ha0).1 (ha0).2 dX12_lays_5 ?_
  refine g_iload_n C dX12_lays_8 rfl 1 rfl ?_
  refine g_iald (j := (a1.toInt.toNat)) C h17529.1 h17529.2.1 (ix_in h17529.2.2 (by omega)) dX12_lays_9 ?_
  refine s_iadd C dX12_lays_10 (by show -2147483648 ≤ z17530.toInt + (pI P b17527 (a1.toInt.toNat)).toInt ∧ z17530.toInt + (pI P b17527 (a1.toInt.toNat)).toInt ≤ 2147483647; omega) (fun z17532 h17533 => ?_)
  have h17533 : z17532.toInt = z17530.toInt + (pI P b17527 (a1.toInt.toNat)).toInt := h17533
  refine g_istore (lv' := [(7, .int z17532), (0, .ref a0), (1, .int a1), (2, .int a2), (3, .int a3), (4, .int a4), (5, .int a5), (6, .int a6)]) C dX12_lays_11 (by decide) rfl ?_
  refine g_aload_n C dX12_lays_13 rfl 1 rfl ?_
  obtain ⟨b17534, e17535, h17536⟩ := I.fld (ha0) 21 13 800 rfl
  refine g_getR C fi_X12_72 rfl e17535 (ha0).1 (ha0).2 dX12_lays_14 ?_
  refine g_iload C dX12_lays_17 0 rfl ?_
  refine g_iload_n C dX12_lays_19 rfl 4 rfl ?_
  refine g_iast (j := (z17532.toInt.toNat)) C h17536.1 h17536.2.1 (ix_in h17536.2.2 (by omega)) dX12_lays_20 ?_
  refine gqW (ks := [21]) (I.setA e17535 h17536 (by decide) (arOk.none rfl)) (EM.setA I e17535 rfl (by decide)) (fun Y17537 Iy17538 Xy17539 w17540 => ?_)
  have w17540 : (pI Y17537 b17534 (z17532.toInt.toNat)).toInt = a3.toInt := w17540
  have q17541 := Xy17539.keepA e17528 (by decide) rfl (a1.toInt.toNat)
  have Xz17542 : EM [20, 21, 22, 23, 24, 25] a0 P Y17537 := Xy17539.mono (by decide)
  have e17543 := Xy17539.ref ha0 (by decide) e17528
  have e17544 := Xy17539.ref ha0 (by decide) e17535
  have h17545 := Xy17539.at ha0
  have h17546 := Xy17539.ar h17529
  have h17547 := Xy17539.ar h17536
  refine g_aload_n C dX12_lays_21 rfl 1 rfl ?_
  obtain ⟨b17548, e17549, h17550⟩ := Iy17538.fld (h17545) 22 13 800 rfl
  refine g_getR C fi_X12_75 rfl e17549 (h17545).1 (h17545).2 dX12_lays_22 ?_
  refine g_iload C dX12_lays_25 0 rfl ?_
  refine g_iload_n C dX12_lays_27 rfl 3 rfl ?_
  refine g_iast (j := (z17532.toInt.toNat)) C h17550.1 h17550.2.1 (ix_in h17550.2.2 (by omega)) dX12_lays_28 ?_
  refine gqW (ks := [22]) (Iy17538.setA e17549 h17550 (by decide) (arOk.of rfl (by omega))) (EM.setA Iy17538 e17549 rfl (by decide)) (fun Y17551 Iy17552 Xy17553 w17554 => ?_)
  have w17554 : (pI Y17551 b17548 (z17532.toInt.toNat)).toInt = a2.toInt := w17554
  have q17555 := Xy17553.keepA e17543 (by decide) rfl (a1.toInt.toNat)
  have q17556 := Xy17553.keepA e17544 (by decide) rfl (z17532.toInt.toNat)
  have Xz17557 : EM [20, 21, 22, 23, 24, 25] a0 P Y17551 := EM.tr ha0 Xz17542 (Xy17553.mono (by decide))
  have e17558 := Xy17553.ref h17545 (by decide) e17543
  have e17559 := Xy17553.ref h17545 (by decide) e17544
  have e17560 := Xy17553.ref h17545 (by decide) e17549
  have h17561 := Xy17553.at h17545
  have h17562 := Xy17553.ar h17546
  have h17563 := Xy17553.ar h17547
  have h17564 := Xy17553.ar h17550
  refine g_aload_n C dX12_lays_29 rfl 1 rfl ?_
  obtain ⟨b17565, e17566, h17567⟩ := Iy17552.fld (h17561) 23 13 800 rfl
  refine g_getR C fi_X12_78 rfl e17566 (h17561).1 (h17561).2 dX12_lays_30 ?_
  refine g_iload C dX12_lays_33 0 rfl ?_
  refine g_iload C dX12_lays_35 5 rfl ?_
  refine g_iast (j := (z17532.toInt.toNat)) C h17567.1 h17567.2.1 (ix_in h17567.2.2 (by omega)) dX12_lays_37 ?_
  refine gqW (ks := [23]) (Iy17552.setA e17566 h17567 (by decide) (arOk.none rfl)) (EM.setA Iy17552 e17566 rfl (by decide)) (fun Y17568 Iy17569 Xy17570 w17571 => ?_)
  have w17571 : (pI Y17568 b17565 (z17532.toInt.toNat)).toInt = a4.toInt := w17571
  have q17572 := Xy17570.keepA e17558 (by decide) rfl (a1.toInt.toNat)
  have q17573 := Xy17570.keepA e17559 (by decide) rfl (z17532.toInt.toNat)
  have q17574 := Xy17570.keepA e17560 (by decide) rfl (z17532.toInt.toNat)
  have Xz17575 : EM [20, 21, 22, 23, 24, 25] a0 P Y17568 := EM.tr ha0 Xz17557 (Xy17570.mono (by decide))
  have e17576 := Xy17570.ref h17561 (by decide) e17558
  have e17577 := Xy17570.ref h17561 (by decide) e17559
  have e17578 := Xy17570.ref h17561 (by decide) e17560
  have e17579 := Xy17570.ref h17561 (by decide) e17566
  have h17580 := Xy17570.at h17561
  have h17581 := Xy17570.ar h17562
  have h17582 := Xy17570.ar h17563
  have h17583 := Xy17570.ar h17564
  have h17584 := Xy17570.ar h17567
  refine g_aload_n C dX12_lays_38 rfl 1 rfl ?_
  obtain ⟨b17585, e17586, h17587⟩ := Iy17569.fld (h17580) 24 13 800 rfl
  refine g_getR C fi_X12_81 rfl e17586 (h17580).1 (h17580).2 dX12_lays_39 ?_
  refine g_iload C dX12_lays_42 0 rfl ?_
  refine g_iload C dX12_lays_44 6 rfl ?_
  refine g_iast (j := (z17532.toInt.toNat)) C h17587.1 h17587.2.1 (ix_in h17587.2.2 (by omega)) dX12_lays_46 ?_
  refine gqW (ks := [24]) (Iy17569.setA e17586 h17587 (by decide) (arOk.none rfl)) (EM.setA Iy17569 e17586 rfl (by decide)) (fun Y17588 Iy17589 Xy17590 w17591 => ?_)
  have w17591 : (pI Y17588 b17585 (z17532.toInt.toNat)).toInt = a5.toInt := w17591
  have q17592 := Xy17590.keepA e17576 (by decide) rfl (a1.toInt.toNat)
  have q17593 := Xy17590.keepA e17577 (by decide) rfl (z17532.toInt.toNat)
  have q17594 := Xy17590.keepA e17578 (by decide) rfl (z17532.toInt.toNat)
  have q17595 := Xy17590.keepA e17579 (by decide) rfl (z17532.toInt.toNat)
  have Xz17596 : EM [20, 21, 22, 23, 24, 25] a0 P Y17588 := EM.tr ha0 Xz17575 (Xy17590.mono (by decide))
  have e17597 := Xy17590.ref h17580 (by decide) e17576
  have e17598 := Xy17590.ref h17580 (by decide) e17577
  have e17599 := Xy17590.ref h17580 (by decide) e17578
  have e17600 := Xy17590.ref h17580 (by decide) e17579
  have e17601 := Xy17590.ref h17580 (by decide) e17586
  have h17602 := Xy17590.at h17580
  have h17603 := Xy17590.ar h17581
  have h17604 := Xy17590.ar h17582
  have h17605 := Xy17590.ar h17583
  have h17606 := Xy17590.ar h17584
  have h17607 := Xy17590.ar h17587
  refine g_aload_n C dX12_lays_47 rfl 1 rfl ?_
  obtain ⟨b17608, e17609, h17610⟩ := Iy17589.fld (h17602) 25 13 800 rfl
  refine g_getR C fi_X12_84 rfl e17609 (h17602).1 (h17602).2 dX12_lays_48 ?_
  refine g_iload C dX12_lays_51 0 rfl ?_
  refine g_iload C dX12_lays_53 7 rfl ?_
  refine g_iast (j := (z17532.toInt.toNat)) C h17610.1 h17610.2.1 (ix_in h17610.2.2 (by omega)) dX12_lays_55 ?_
  refine gqW (ks := [25]) (Iy17589.setA e17609 h17610 (by decide) (arOk.none rfl)) (EM.setA Iy17589 e17609 rfl (by decide)) (fun Y17611 Iy17612 Xy17613 w17614 => ?_)
  have w17614 : (pI Y17611 b17608 (z17532.toInt.toNat)).toInt = a6.toInt := w17614
  have q17615 := Xy17613.keepA e17597 (by decide) rfl (a1.toInt.toNat)
  have q17616 := Xy17613.keepA e17598 (by decide) rfl (z17532.toInt.toNat)
  have q17617 := Xy17613.keepA e17599 (by decide) rfl (z17532.toInt.toNat)
  have q17618 := Xy17613.keepA e17600 (by decide) rfl (z17532.toInt.toNat)
  have q17619 := Xy17613.keepA e17601 (by decide) rfl (z17532.toInt.toNat)
  have Xz17620 : EM [20, 21, 22, 23, 24, 25] a0 P Y17611 := EM.tr ha0 Xz17596 (Xy17613.mono (by decide))
  have e17621 := Xy17613.ref h17602 (by decide) e17597
  have e17622 := Xy17613.ref h17602 (by decide) e17598
  have e17623 := Xy17613.ref h17602 (by decide) e17599
  have e17624 := Xy17613.ref h17602 (by decide) e17600
  have e17625 := Xy17613.ref h17602 (by decide) e17601
  have e17626 := Xy17613.ref h17602 (by decide) e17609
  have h17627 := Xy17613.at h17602
  have h17628 := Xy17613.ar h17603
  have h17629 := Xy17613.ar h17604
  have h17630 := Xy17613.ar h17605
  have h17631 := Xy17613.ar h17606
  have h17632 := Xy17613.ar h17607
  have h17633 := Xy17613.ar h17610
  refine g_aload_n C dX12_lays_56 rfl 1 rfl ?_
  refine g_getR C fi_X12_69 rfl e17621 (h17627).1 (h17627).2 dX12_lays_57 ?_
  refine g_iload_n C dX12_lays_60 rfl 2 rfl ?_
  refine g_dup2_11 C dX12_lays_61 rfl rfl ?_
  refine g_iald (j := (a1.toInt.toNat)) C h17628.1 h17628.2.1 (ix_in h17628.2.2 (by omega)) dX12_lays_62 ?_
  refine g_iconst (v := 1) C dX12_lays_63 (by decide) ?_
  refine s_iadd C dX12_lays_64 (by show -2147483648 ≤ (pI Y17611 b17527 (a1.toInt.toNat)).toInt + 1 ∧ (pI Y17611 b17527 (a1.toInt.toNat)).toInt + 1 ≤ 2147483647; omega) (fun z17634 h17635 => ?_)
  have h17635 : z17634.toInt = (pI Y17611 b17527 (a1.toInt.toNat)).toInt + 1 := h17635
  refine g_iast (j := (a1.toInt.toNat)) C h17628.1 h17628.2.1 (ix_in h17628.2.2 (by omega)) dX12_lays_65 ?_
  refine gqW (ks := [20]) (Iy17612.setA e17621 h17628 (by decide) (arOk.of rfl (by omega))) (EM.setA Iy17612 e17621 rfl (by decide)) (fun Y17636 Iy17637 Xy17638 w17639 => ?_)
  have w17639 : (pI Y17636 b17527 (a1.toInt.toNat)).toInt = z17634.toInt := w17639
  have q17640 := Xy17638.keepA e17622 (by decide) rfl (z17532.toInt.toNat)
  have q17641 := Xy17638.keepA e17623 (by decide) rfl (z17532.toInt.toNat)
  have q17642 := Xy17638.keepA e17624 (by decide) rfl (z17532.toInt.toNat)
  have q17643 := Xy17638.keepA e17625 (by decide) rfl (z17532.toInt.toNat)
  have q17644 := Xy17638.keepA e17626 (by decide) rfl (z17532.toInt.toNat)
  have Xz17645 : EM [20, 21, 22, 23, 24, 25] a0 P Y17636 := EM.tr ha0 Xz17620 (Xy17638.mono (by decide))
  have e17646 := Xy17638.ref h17627 (by decide) e17621
  have e17647 := Xy17638.ref h17627 (by decide) e17622
  have e17648 := Xy17638.ref h17627 (by decide) e17623
  have e17649 := Xy17638.ref h17627 (by decide) e17624
  have e17650 := Xy17638.ref h17627 (by decide) e17625
  have e17651 := Xy17638.ref h17627 (by decide) e17626
  have h17652 := Xy17638.at h17627
  have h17653 := Xy17638.ar h17628
  have h17654 := Xy17638.ar h17629
  have h17655 := Xy17638.ar h17630
  have h17656 := Xy17638.ar h17631
  have h17657 := Xy17638.ar h17632
  have h17658 := Xy17638.ar h17633
  refine g_aload_n C dX12_lays_66 rfl 1 rfl ?_
  refine g_getR C fi_X12_69 rfl e17646 (h17652).1 (h17652).2 dX12_lays_67 ?_
  refine g_iload_n C dX12_lays_70 rfl 2 rfl ?_
  refine g_iald (j := (a1.toInt.toNat)) C h17653.1 h17653.2.1 (ix_in h17653.2.2 (by omega)) dX12_lays_71 ?_
  refine g_iconst (v := 1) C dX12_lays_72 (by decide) ?_
  refine s_isub C dX12_lays_73 (by show -2147483648 ≤ (pI Y17636 b17527 (a1.toInt.toNat)).toInt - 1 ∧ (pI Y17636 b17527 (a1.toInt.toNat)).toInt - 1 ≤ 2147483647; omega) (fun z17659 h17660 => ?_)
  have h17660 : z17659.toInt = (pI Y17636 b17527 (a1.toInt.toNat)).toInt - 1 := h17660
  exact ret _ _ _ _ _ _ dX12_lays_74 rfl (by decide) (by decide) ⟨Iy17637, Xz17645, (by omega)⟩
theorem dX12_laysIf_46 : decode cX12_laysIf 46 = .ok (.ireturn, 1) := by decide +kernel
set_option maxHeartbeats 4000000 in
set_option maxRecDepth 100000 in
theorem s_X12_laysIf {P : PP} {a0 : Nat} {a1 : Int32} {a2 : Int32} {a3 : Int32} {a4 : Int32} {a5 : Int32} (I : IM P a0) (ha1 : 0 ≤ a1.toInt ∧ a1.toInt ≤ 3) (ha2 : 0 ≤ a2.toInt ∧ a2.toInt ≤ 1) (hf0 : ∀ b, pR P a0 20 = some b → 0 ≤ (pI P b (a1.toInt.toNat)).toInt ∧ (pI P b (a1.toInt.toNat)).toInt ≤ 39) : CtrI yX12_laysIf cX12_laysIf 6 (some Jvm.ClassFile.FieldType.int) ({ frames := 2, cells := 0, slots := 0, locals := 128 } : Room) 0 0 P [.ref a0, .int a1, .int a2, .int a3, .int a4, .int a5] (fun r P2 => IM P2 a0 ∧ EM [20, 21, 22, 23, 24, 25, 27] a0 P P2 ∧ (-1 ≤ r.toInt ∧ r.toInt ≤ 39)) := by
  refine enI (lv := [(0, .ref a0), (1, .int a1), (2, .int a2), (3, .int a3), (4, .int a4), (5, .int a5)]) (by decide) (Nat.le_of_ble_eq_true rfl) rfl (fun E D cy C Ci0 ret => ?_)
  have ha0 := I.2.1
  have J34 : (∀ b, pR P a0 17 = some b → (pI P b (a2.toInt.toNat)).toInt ≤ 2147483647) → (∀ b, pR P a0 20 = some b → 0 ≤ (pI P b (a1.toInt.toNat)).toInt ∧ (pI P b (a1.toInt.toNat)).toInt ≤ 39) → G E ({ frames := 2, cells := 0, slots := 0, locals := 128 } : Room) D cy 6 P 0 0 34 [(0, .ref a0), (1, .int a1), (2, .int a2), (3, .int a3), (4, .int a4), (5, .int a5)] [] := by
    intro hq34_0 hq34_1
    obtain ⟨b17705, e17706, h17707⟩ := I.fld (ha0) 17 13 3 rfl
    have hq34_0 := hq34_0 b17705 e17706
    obtain ⟨b17708, e17709, h17710⟩ := I.fld (ha0) 20 13 20 rfl
    have hq34_1 := hq34_1 b17708 e17709
    refine g_aload_n C dX12_laysIf_34 rfl 0 rfl ?_
    refine g_iload_n C dX12_laysIf_35 rfl 1 rfl ?_
    refine g_iload_n C dX12_laysIf_36 rfl 2 rfl ?_
    refine g_iload_n C dX12_laysIf_37 rfl 3 rfl ?_
    refine g_iload C dX12_laysIf_38 4 rfl ?_
    refine g_iconst (v := 3) C dX12_laysIf_40 (by decide) ?_
    refine g_iload C dX12_laysIf_41 5 rfl ?_
    refine g_callVI (rest := []) C mv_X12_284 [.int a1, .int a2, .int a3, .int a4, .int 3, .int a5] (s_X12_lays I (by omega) (by omega) (fun b9 e9 => by rw [e17709] at e9; cases e9; show 0 ≤ (pI P b17708 (a1.toInt.toNat)).toInt ∧ (pI P b17708 (a1.toInt.toNat)).toInt ≤ 39; omega)) (ha0).1 (ha0).2 rfl rfl (by decide) (Nat.le_of_ble_eq_true rfl) (by decide) dX12_laysIf_43 (fun r17711 Y17712 h17713 => ?_)
    obtain ⟨Iy17714, Xy17715, h17713⟩ := h17713
    have q17716 := Xy17715.keepA e17706 (by decide) rfl (a2.toInt.toNat)
    have Xz17717 : EM [20, 21, 22, 23, 24, 25, 27] a0 P Y17712 := Xy17715.mono (by decide)
    have e17718 := Xy17715.ref ha0 (by decide) e17706
    have h17719 := Xy17715.at ha0
    have h17720 := Xy17715.ar h17707
    have h17713 : 0 ≤ r17711.toInt ∧ r17711.toInt ≤ 39 := h17713
    exact ret _ _ _ _ _ _ dX12_laysIf_46 rfl (by decide) (by decide) ⟨Iy17714, Xz17717, (by omega)⟩
  obtain ⟨b17721, e17722, h17723⟩ := I.fld (ha0) 20 13 20 rfl
  have hf0 := hf0 b17721 e17722
  refine g_aload_n C dX12_laysIf_0 rfl 0 rfl ?_
  obtain ⟨b17724, e17725, h17726⟩ := I.fld (ha0) 17 13 3 rfl
  refine g_getR C fi_X12_66 rfl e17725 (ha0).1 (ha0).2 dX12_laysIf_1 ?_
  refine g_iload_n C dX12_laysIf_4 rfl 2 rfl ?_
  refine g_iald (j := (a2.toInt.toNat)) C h17726.1 h17726.2.1 (ix_in h17726.2.2 (by omega)) dX12_laysIf_5 ?_
  have u17728 := ti_rng (pI P b17724 (a2.toInt.toNat))
  refine b_if_le C 34 dX12_laysIf_6 (by decide) (fun h17727 => ?_) (fun h17727 => ?_)
  · have h17727 : (pI P b17724 (a2.toInt.toNat)).toInt ≤ 0 := h17727
    exact J34 (fun b9 e9 => by rw [e17725] at e9; cases e9; omega) (fun b9 e9 => by rw [e17722] at e9; cases e9; omega)
  · have h17727 : 0 < (pI P b17724 (a2.toInt.toNat)).toInt := h17727
    refine g_iload C dX12_laysIf_9 5 rfl ?_
    refine g_aload_n C dX12_laysIf_11 rfl 0 rfl ?_
    refine g_iload_n C dX12_laysIf_12 rfl 2 rfl ?_
    refine g_iload_n C dX12_laysIf_13 rfl 3 rfl ?_
    refine g_iload C dX12_laysIf_14 4 rfl ?_
    refine g_callVI (rest := [.int a5]) C mv_X12_267 [.int a2, .int a3, .int a4] (s_X12_sealOf I (by omega)) (ha0).1 (ha0).2 rfl rfl (by decide) (Nat.le_of_ble_eq_true rfl) (by decide) dX12_laysIf_16 (fun r17729 Y17730 h17731 => ?_)
    obtain ⟨rfl, h17731⟩ := h17731
    have h17731 : True := h17731
    have u17733 := ti_rng a5
    have u17734 := ti_rng r17729
    refine b_icmp_eq C 34 dX12_laysIf_19 (by decide) (fun h17732 => ?_) (fun h17732 => ?_)
    · have h17732 : a5.toInt = r17729.toInt := congrArg Int32.toInt h17732
      exact J34 (fun b9 e9 => by rw [e17725] at e9; cases e9; omega) (fun b9 e9 => by rw [e17722] at e9; cases e9; omega)
    · have h17732 : a5.toInt ≠ r17729.toInt := ti_ne h17732
      refine g_aload_n C dX12_laysIf_22 rfl 0 rfl ?_
      refine g_dup C dX12_laysIf_23 rfl ?_
      refine g_getI C fi_X12_288 (by decide) (ha0).1 (ha0).2 dX12_laysIf_24 ?_
      refine g_iconst (v := 1) C dX12_laysIf_27 (by decide) ?_
      refine a_iadd C dX12_laysIf_28 (fun z17735 => ?_)
      refine g_putI C fi_X12_288 rfl (ha0).1 (ha0).2 dX12_laysIf_29 ?_
      refine gqW (ks := [27]) (I.setI (rgOk.none rfl)) (EM.setI I (by decide)) (fun Y17737 Iy17738 Xy17739 w17740 => ?_)
      have w17740 : (pI Y17737 a0 27).toInt = z17735.toInt := w17740
      have q17741 := Xy17739.keepA e17722 (by decide) rfl (a1.toInt.toNat)
      have q17742 := Xy17739.keepA e17725 (by decide) rfl (a2.toInt.toNat)
      have Xz17743 : EM [20, 21, 22, 23, 24, 25, 27] a0 P Y17737 := Xy17739.mono (by decide)
      have e17744 := Xy17739.ref ha0 (by decide) e17722
      have e17745 := Xy17739.ref ha0 (by decide) e17725
      have h17746 := Xy17739.at ha0
      have h17747 := Xy17739.ar h17723
      have h17748 := Xy17739.ar h17726
      refine g_iconst (v := (-1)) C dX12_laysIf_32 (by decide) ?_
      exact ret _ _ _ _ _ _ dX12_laysIf_33 rfl (by decide) (by decide) ⟨Iy17738, Xz17743, (by decide)⟩
theorem dX12_forged_84 : decode cX12_forged 84 = .ok (.goto 4, 3) := by decide +kernel
theorem dX12_forged_87 : decode cX12_forged 87 = .ok (.iconst (-1), 1) := by decide +kernel
theorem dX12_forged_88 : decode cX12_forged 88 = .ok (.ireturn, 1) := by decide +kernel
set_option maxHeartbeats 4000000 in
set_option maxRecDepth 100000 in
theorem s_X12_forged {P : PP} {a0 : Nat} {a1 : Int32} {a2 : Int32} {a3 : Int32} {a4 : Int32} {a5 : Int32} (I : IM P a0) : CtrI yX12_forged cX12_forged 7 (some Jvm.ClassFile.FieldType.int) ({ frames := 3, cells := 0, slots := 0, locals := 192 } : Room) 0 0 P [.ref a0, .int a1, .int a2, .int a3, .int a4, .int a5] (fun r P2 => IM P2 a0 ∧ EM [0, 20, 21, 22, 23, 24, 25, 27] a0 P P2 ∧ (-1 ≤ r.toInt ∧ r.toInt ≤ 39)) := by
  refine enI (lv := [(0, .ref a0), (1, .int a1), (2, .int a2), (3, .int a3), (4, .int a4), (5, .int a5)]) (by decide) (Nat.le_of_ble_eq_true rfl) rfl (fun E D cy C Ci0 ret => ?_)
  have ha0 := I.2.1
  have J87 : ∀ (P87 : PP), (IM P87 a0) → (EM [0, 20, 21, 22, 23, 24, 25, 27] a0 P P87) → (0 ≤ (pI P87 a0 0).toInt ∧ (pI P87 a0 0).toInt ≤ 0) → G E ({ frames := 3, cells := 0, slots := 0, locals := 192 } : Room) D cy 7 P87 0 0 87 [] [] := by
    intro P87 I87 X87 hq87_0
    have h17797 := X87.at ha0
    refine g_iconst (v := (-1)) C dX12_forged_87 (by decide) ?_
    exact ret _ _ _ _ _ _ dX12_forged_88 rfl (by decide) (by decide) ⟨I87, X87, (by decide)⟩
  have J55 : ∀ (P55 : PP) (v55_s0 : Int32), (IM P55 a0) → (EM [0, 20, 21, 22, 23, 24, 25, 27] a0 P P55) → (0 ≤ v55_s0.toInt ∧ v55_s0.toInt ≤ 1) → (0 ≤ (pI P55 a0 0).toInt ∧ (pI P55 a0 0).toInt ≤ 0) → (v55_s0.toInt = 0 ∨ (0 ≤ a1.toInt ∧ a1.toInt ≤ 3 ∧ 0 ≤ a2.toInt ∧ a2.toInt ≤ 1)) → G E ({ frames := 3, cells := 0, slots := 0, locals := 192 } : Room) D cy 7 P55 0 0 55 [(0, .ref a0), (1, .int a1), (2, .int a2), (3, .int a3), (4, .int a4), (5, .int a5)] [.int v55_s0] := by
    intro P55 v55_s0 I55 X55 hv55_s0 hq55_0 rel55_0
    have h17798 := X55.at ha0
    refine g_istore (lv' := [(6, .int v55_s0), (0, .ref a0), (1, .int a1), (2, .int a2), (3, .int a3), (4, .int a4), (5, .int a5)]) C dX12_forged_55 (by decide) rfl ?_
    refine g_iload C dX12_forged_57 0 rfl ?_
    refine b_if_eq C 87 dX12_forged_59 (by decide) (fun h17799 => ?_) (fun h17799 => ?_)
    · have h17799 : v55_s0.toInt = 0 := congrArg Int32.toInt h17799
      clear rel55_0
      refine g_lv (lv' := []) [] rfl ?_
      exact J87 P55 I55 X55 (by omega)
    · have h17799 : v55_s0.toInt ≠ 0 := ti_ne h17799
      replace rel55_0 := rel55_0.resolve_left (by omega)
      refine g_aload_n C dX12_forged_62 rfl 1 rfl ?_
      obtain ⟨b17800, e17801, h17802⟩ := I55.fld (h17798) 20 13 20 rfl
      refine g_getR C fi_X12_69 rfl e17801 (h17798).1 (h17798).2 dX12_forged_63 ?_
      refine g_iload_n C dX12_forged_66 rfl 2 rfl ?_
      refine g_iald (j := (a1.toInt.toNat)) C h17802.1 h17802.2.1 (ix_in h17802.2.2 (by omega)) dX12_forged_67 ?_
      have h17803 := I55.arr e17801 rfl (a1.toInt.toNat)
      refine g_bipush (v := 40) C dX12_forged_68 (by decide) ?_
      refine b_icmp_ge C 87 dX12_forged_70 (by decide) (fun h17804 => ?_) (fun h17804 => ?_)
      · have h17804 : 40 ≤ (pI P55 b17800 (a1.toInt.toNat)).toInt := h17804
        refine g_lv (lv' := []) [] rfl ?_
        exact J87 P55 I55 X55 (by omega)
      · have h17804 : (pI P55 b17800 (a1.toInt.toNat)).toInt < 40 := h17804
        refine g_aload_n C dX12_forged_73 rfl 1 rfl ?_
        refine g_iload_n C dX12_forged_74 rfl 2 rfl ?_
        refine g_iload_n C dX12_forged_75 rfl 3 rfl ?_
        refine g_iload_n C dX12_forged_76 rfl 4 rfl ?_
        refine g_iload C dX12_forged_77 5 rfl ?_
        refine g_iload C dX12_forged_79 6 rfl ?_
        refine g_callVI (rest := []) C mv_X12_291 [.int a1, .int a2, .int a3, .int a4, .int a5] (s_X12_laysIf I55 (by omega) (by omega) (fun b9 e9 => by rw [e17801] at e9; cases e9; show 0 ≤ (pI P55 b17800 (a1.toInt.toNat)).toInt ∧ (pI P55 b17800 (a1.toInt.toNat)).toInt ≤ 39; omega)) (h17798).1 (h17798).2 rfl rfl (by decide) (Nat.le_of_ble_eq_true rfl) (by decide) dX12_forged_81 (fun r17805 Y17806 h17807 => ?_)
        obtain ⟨Iy17808, Xy17809, h17807⟩ := h17807
        have q17810 := Xy17809.keepF 0 (by decide)
        have Xz17811 : EM [0, 20, 21, 22, 23, 24, 25, 27] a0 P Y17806 := EM.tr ha0 X55 (Xy17809.mono (by decide))
        have h17812 := Xy17809.at h17798
        have h17807 : -1 ≤ r17805.toInt ∧ r17805.toInt ≤ 39 := h17807
        refine g_goto C 88 dX12_forged_84 (by decide) ?_
        exact ret _ _ _ _ _ _ dX12_forged_88 rfl (by decide) (by decide) ⟨Iy17808, Xz17811, (by omega)⟩
  have J54 : ∀ (P54 : PP), (IM P54 a0) → (EM [0, 20, 21, 22, 23, 24, 25, 27] a0 P P54) → (0 ≤ (pI P54 a0 0).toInt ∧ (pI P54 a0 0).toInt ≤ 0) → G E ({ frames := 3, cells := 0, slots := 0, locals := 192 } : Room) D cy 7 P54 0 0 54 [(0, .ref a0), (1, .int a1), (2, .int a2), (3, .int a3), (4, .int a4), (5, .int a5)] [] := by
    intro P54 I54 X54 hq54_0
    have h17813 := X54.at ha0
    refine g_iconst (v := 0) C dX12_forged_54 (by decide) ?_
    exact J55 P54 0 I54 X54 (by decide) (by omega) (by show 0 = 0 ∨ (0 ≤ a1.toInt ∧ a1.toInt ≤ 3 ∧ 0 ≤ a2.toInt ∧ a2.toInt ≤ 1); omega)
  refine g_aload_n C dX12_forged_0 rfl 0 rfl ?_
  refine g_iconst (v := 0) C dX12_forged_1 (by decide) ?_
  refine g_putI C fi_X12_1 rfl (ha0).1 (ha0).2 dX12_forged_2 ?_
  refine gqW (ks := [0]) (I.setI (rgOk.of rfl (by decide))) (EM.setI I (by decide)) (fun Y17814 Iy17815 Xy17816 w17817 => ?_)
  have w17817 : (pI Y17814 a0 0).toInt = 0 := w17817
  have Xz17818 : EM [0, 20, 21, 22, 23, 24, 25, 27] a0 P Y17814 := Xy17816.mono (by decide)
  have h17819 := Xy17816.at ha0
  refine g_iload_n C dX12_forged_5 rfl 1 rfl ?_
  refine g_callSI (b := 0) (ci := 0) (rest := []) C ms_X12_278 [.int a1] (s_X12_isQuarter Iy17815.1) rfl rfl (by decide) (Nat.le_of_ble_eq_true rfl) (by decide) dX12_forged_6 (fun r17820 Y17821 h17822 => ?_)
  obtain ⟨rfl, h17822⟩ := h17822
  obtain ⟨h17822, hi17823⟩ := h17822
  have hi17823 : r17820.toInt = 0 ∨ (((0 : Int) ≤ a1.toInt ∧ a1.toInt ≤ (3 : Int))) := hi17823
  have h17822 : 0 ≤ r17820.toInt ∧ r17820.toInt ≤ 1 := h17822
  refine b_if_eq C 54 dX12_forged_9 (by decide) (fun h17824 => ?_) (fun h17824 => ?_)
  · have h17824 : r17820.toInt = 0 := congrArg Int32.toInt h17824
    clear hi17823
    exact J54 Y17814 Iy17815 Xz17818 (by omega)
  · have h17824 : r17820.toInt ≠ 0 := ti_ne h17824
    replace hi17823 := hi17823.resolve_left (by omega)
    refine g_aload_n C dX12_forged_12 rfl 0 rfl ?_
    refine g_iload_n C dX12_forged_13 rfl 2 rfl ?_
    refine g_callVI (rest := []) C mv_X12_192 [.int a2] (s_X12_isBook Iy17815) (h17819).1 (h17819).2 rfl rfl (by decide) (Nat.le_of_ble_eq_true rfl) (by decide) dX12_forged_14 (fun r17825 Y17826 h17827 => ?_)
    obtain ⟨rfl, h17827⟩ := h17827
    obtain ⟨h17827, hi17828⟩ := h17827
    have hi17828 : r17825.toInt = 0 ∨ (((0 : Int) ≤ a2.toInt ∧ a2.toInt ≤ (1 : Int))) := hi17828
    have h17827 : 0 ≤ r17825.toInt ∧ r17825.toInt ≤ 1 := h17827
    refine b_if_eq C 54 dX12_forged_17 (by decide) (fun h17829 => ?_) (fun h17829 => ?_)
    · have h17829 : r17825.toInt = 0 := congrArg Int32.toInt h17829
      clear hi17828
      exact J54 Y17814 Iy17815 Xz17818 (by omega)
    · have h17829 : r17825.toInt ≠ 0 := ti_ne h17829
      replace hi17828 := hi17828.resolve_left (by omega)
      refine g_iload_n C dX12_forged_20 rfl 3 rfl ?_
      refine g_callSI (b := 0) (ci := 0) (rest := []) C ms_X12_258 [.int a3] (s_X12_isNumber Iy17815.1) rfl rfl (by decide) (Nat.le_of_ble_eq_true rfl) (by decide) dX12_forged_21 (fun r17830 Y17831 h17832 => ?_)
      obtain ⟨rfl, h17832⟩ := h17832
      obtain ⟨h17832, hi17833⟩ := h17832
      have hi17833 : r17830.toInt = 0 ∨ (((0 : Int) ≤ a3.toInt ∧ a3.toInt ≤ (9999 : Int))) := hi17833
      have h17832 : 0 ≤ r17830.toInt ∧ r17830.toInt ≤ 1 := h17832
      refine b_if_eq C 54 dX12_forged_24 (by decide) (fun h17834 => ?_) (fun h17834 => ?_)
      · have h17834 : r17830.toInt = 0 := congrArg Int32.toInt h17834
        clear hi17833
        exact J54 Y17814 Iy17815 Xz17818 (by omega)
      · have h17834 : r17830.toInt ≠ 0 := ti_ne h17834
        replace hi17833 := hi17833.resolve_left (by omega)
        refine g_iload C dX12_forged_27 4 rfl ?_
        refine g_iconst (v := 0) C dX12_forged_29 (by decide) ?_
        refine g_ldc (v := 65535) C kc_X12_195 dX12_forged_30 ?_
        refine g_callSI (b := 0) (ci := 0) (rest := []) C ms_X12_178 [.int a4, .int 0, .int 65535] (s_X12_within Iy17815.1) rfl rfl (by decide) (Nat.le_of_ble_eq_true rfl) (by decide) dX12_forged_32 (fun r17835 Y17836 h17837 => ?_)
        obtain ⟨rfl, h17837⟩ := h17837
        obtain ⟨h17837, hi17838⟩ := h17837
        have hi17838 : r17835.toInt = 0 ∨ (0 ≤ a4.toInt ∧ a4.toInt ≤ 65535) := hi17838
        have h17837 : 0 ≤ r17835.toInt ∧ r17835.toInt ≤ 1 := h17837
        refine b_if_eq C 54 dX12_forged_35 (by decide) (fun h17839 => ?_) (fun h17839 => ?_)
        · have h17839 : r17835.toInt = 0 := congrArg Int32.toInt h17839
          clear hi17838
          exact J54 Y17814 Iy17815 Xz17818 (by omega)
        · have h17839 : r17835.toInt ≠ 0 := ti_ne h17839
          replace hi17838 := hi17838.resolve_left (by omega)
          refine g_iload C dX12_forged_38 5 rfl ?_
          refine g_iconst (v := 0) C dX12_forged_40 (by decide) ?_
          refine g_sipush (v := 996) C dX12_forged_41 (by decide) ?_
          refine g_callSI (b := 0) (ci := 0) (rest := []) C ms_X12_178 [.int a5, .int 0, .int 996] (s_X12_within Iy17815.1) rfl rfl (by decide) (Nat.le_of_ble_eq_true rfl) (by decide) dX12_forged_44 (fun r17840 Y17841 h17842 => ?_)
          obtain ⟨rfl, h17842⟩ := h17842
          obtain ⟨h17842, hi17843⟩ := h17842
          have hi17843 : r17840.toInt = 0 ∨ (0 ≤ a5.toInt ∧ a5.toInt ≤ 996) := hi17843
          have h17842 : 0 ≤ r17840.toInt ∧ r17840.toInt ≤ 1 := h17842
          refine b_if_eq C 54 dX12_forged_47 (by decide) (fun h17844 => ?_) (fun h17844 => ?_)
          · have h17844 : r17840.toInt = 0 := congrArg Int32.toInt h17844
            clear hi17843
            exact J54 Y17814 Iy17815 Xz17818 (by omega)
          · have h17844 : r17840.toInt ≠ 0 := ti_ne h17844
            replace hi17843 := hi17843.resolve_left (by omega)
            refine g_iconst (v := 1) C dX12_forged_50 (by decide) ?_
            refine g_goto C 55 dX12_forged_51 (by decide) ?_
            exact J55 Y17814 1 Iy17815 Xz17818 (by decide) (by omega) (by show 1 = 0 ∨ (0 ≤ a1.toInt ∧ a1.toInt ≤ 3 ∧ 0 ≤ a2.toInt ∧ a2.toInt ≤ 1); omega)
