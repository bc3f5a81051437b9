theorem dX8_isWalker_0 : decode cX8_isWalker 0 = .ok (.iload_n 1, 1) := by decide +kernel
theorem dX8_isWalker_1 : decode cX8_isWalker 1 = .ok (.iconst 0, 1) := by decide +kernel
theorem dX8_isWalker_2 : decode cX8_isWalker 2 = .ok (.aload_n 0, 1) := by decide +kernel
theorem dX8_isWalker_3 : decode cX8_isWalker 3 = .ok (.getfield 129, 3) := by decide +kernel
theorem dX8_isWalker_6 : decode cX8_isWalker 6 = .ok (.iconst 1, 1) := by decide +kernel
theorem dX8_isWalker_7 : decode cX8_isWalker 7 = .ok (.isub, 1) := by decide +kernel
theorem dX8_isWalker_8 : decode cX8_isWalker 8 = .ok (.invokestatic 110, 3) := by decide +kernel
theorem dX8_isWalker_11 : decode cX8_isWalker 11 = .ok (.ireturn, 1) := by decide +kernel
theorem dX8_isWrongWay_0 : decode cX8_isWrongWay 0 = .ok (.aload_n 0, 1) := by decide +kernel
theorem dX8_isWrongWay_1 : decode cX8_isWrongWay 1 = .ok (.getfield 26, 3) := by decide +kernel
theorem dX8_isWrongWay_4 : decode cX8_isWrongWay 4 = .ok (.iconst 5, 1) := by decide +kernel
theorem dX8_isWrongWay_5 : decode cX8_isWrongWay 5 = .ok (.iload_n 1, 1) := by decide +kernel
theorem dX8_isWrongWay_6 : decode cX8_isWrongWay 6 = .ok (.imul, 1) := by decide +kernel
theorem dX8_isWrongWay_7 : decode cX8_isWrongWay 7 = .ok (.iconst 1, 1) := by decide +kernel
theorem dX8_isWrongWay_8 : decode cX8_isWrongWay 8 = .ok (.iadd, 1) := by decide +kernel
theorem dX8_isWrongWay_9 : decode cX8_isWrongWay 9 = .ok (.iaload, 1) := by decide +kernel
theorem dX8_isWrongWay_10 : decode cX8_isWrongWay 10 = .ok (.istore_n 2, 1) := by decide +kernel
theorem dX8_isWrongWay_11 : decode cX8_isWrongWay 11 = .ok (.aload_n 0, 1) := by decide +kernel
theorem dX8_isWrongWay_12 : decode cX8_isWrongWay 12 = .ok (.getfield 26, 3) := by decide +kernel
theorem dX8_isWrongWay_15 : decode cX8_isWrongWay 15 = .ok (.iconst 5, 1) := by decide +kernel
theorem dX8_isWrongWay_16 : decode cX8_isWrongWay 16 = .ok (.iload_n 1, 1) := by decide +kernel
theorem dX8_isWrongWay_17 : decode cX8_isWrongWay 17 = .ok (.imul, 1) := by decide +kernel
theorem dX8_isWrongWay_18 : decode cX8_isWrongWay 18 = .ok (.iconst 2, 1) := by decide +kernel
theorem dX8_isWrongWay_19 : decode cX8_isWrongWay 19 = .ok (.iadd, 1) := by decide +kernel
theorem dX8_isWrongWay_20 : decode cX8_isWrongWay 20 = .ok (.iaload, 1) := by decide +kernel
theorem dX8_isWrongWay_21 : decode cX8_isWrongWay 21 = .ok (.istore_n 3, 1) := by decide +kernel
theorem dX8_isWrongWay_22 : decode cX8_isWrongWay 22 = .ok (.aload_n 0, 1) := by decide +kernel
theorem dX8_isWrongWay_23 : decode cX8_isWrongWay 23 = .ok (.getfield 26, 3) := by decide +kernel
theorem dX8_isWrongWay_26 : decode cX8_isWrongWay 26 = .ok (.iconst 5, 1) := by decide +kernel
theorem dX8_isWrongWay_27 : decode cX8_isWrongWay 27 = .ok (.iload_n 1, 1) := by decide +kernel
theorem dX8_isWrongWay_28 : decode cX8_isWrongWay 28 = .ok (.imul, 1) := by decide +kernel
theorem dX8_isWrongWay_29 : decode cX8_isWrongWay 29 = .ok (.iconst 3, 1) := by decide +kernel
theorem dX8_isWrongWay_30 : decode cX8_isWrongWay 30 = .ok (.iadd, 1) := by decide +kernel
theorem dX8_isWrongWay_31 : decode cX8_isWrongWay 31 = .ok (.iaload, 1) := by decide +kernel
theorem dX8_isWrongWay_32 : decode cX8_isWrongWay 32 = .ok (.istore 4, 2) := by decide +kernel
theorem dX8_isWrongWay_34 : decode cX8_isWrongWay 34 = .ok (.aload_n 0, 1) := by decide +kernel
theorem dX8_isWrongWay_35 : decode cX8_isWrongWay 35 = .ok (.getfield 26, 3) := by decide +kernel
theorem dX8_isWrongWay_38 : decode cX8_isWrongWay 38 = .ok (.iconst 5, 1) := by decide +kernel
theorem dX8_isWrongWay_39 : decode cX8_isWrongWay 39 = .ok (.iload_n 1, 1) := by decide +kernel
theorem dX8_isWrongWay_40 : decode cX8_isWrongWay 40 = .ok (.imul, 1) := by decide +kernel
theorem dX8_isWrongWay_41 : decode cX8_isWrongWay 41 = .ok (.iconst 4, 1) := by decide +kernel
theorem dX8_isWrongWay_42 : decode cX8_isWrongWay 42 = .ok (.iadd, 1) := by decide +kernel
theorem dX8_isWrongWay_43 : decode cX8_isWrongWay 43 = .ok (.iaload, 1) := by decide +kernel
theorem dX8_isWrongWay_44 : decode cX8_isWrongWay 44 = .ok (.istore 5, 2) := by decide +kernel
theorem dX8_isWrongWay_46 : decode cX8_isWrongWay 46 = .ok (.iload_n 2, 1) := by decide +kernel
theorem dX8_isWrongWay_47 : decode cX8_isWrongWay 47 = .ok (.iload 4, 2) := by decide +kernel
theorem dX8_isWrongWay_49 : decode cX8_isWrongWay 49 = .ok (.if_icmp .ne 7, 3) := by decide +kernel
theorem dX8_isWrongWay_52 : decode cX8_isWrongWay 52 = .ok (.iconst 1, 1) := by decide +kernel
theorem dX8_isWrongWay_53 : decode cX8_isWrongWay 53 = .ok (.goto 4, 3) := by decide +kernel
theorem dX8_isWrongWay_56 : decode cX8_isWrongWay 56 = .ok (.iconst 0, 1) := by decide +kernel
theorem dX8_isWrongWay_57 : decode cX8_isWrongWay 57 = .ok (.istore 6, 2) := by decide +kernel
theorem dX8_isWrongWay_59 : decode cX8_isWrongWay 59 = .ok (.iload 6, 2) := by decide +kernel
theorem dX8_isWrongWay_61 : decode cX8_isWrongWay 61 = .ok (.ifCond .eq 7, 3) := by decide +kernel
theorem dX8_isWrongWay_64 : decode cX8_isWrongWay 64 = .ok (.iload_n 2, 1) := by decide +kernel
theorem dX8_isWrongWay_65 : decode cX8_isWrongWay 65 = .ok (.goto 4, 3) := by decide +kernel
theorem dX8_isWrongWay_68 : decode cX8_isWrongWay 68 = .ok (.iload_n 3, 1) := by decide +kernel
theorem dX8_isWrongWay_69 : decode cX8_isWrongWay 69 = .ok (.istore 7, 2) := by decide +kernel
theorem dX8_isWrongWay_71 : decode cX8_isWrongWay 71 = .ok (.iload 6, 2) := by decide +kernel
theorem dX8_isWrongWay_73 : decode cX8_isWrongWay 73 = .ok (.ifCond .eq 10, 3) := by decide +kernel
theorem dX8_isWrongWay_76 : decode cX8_isWrongWay 76 = .ok (.aload_n 0, 1) := by decide +kernel
theorem dX8_isWrongWay_77 : decode cX8_isWrongWay 77 = .ok (.getfield 155, 3) := by decide +kernel
theorem dX8_isWrongWay_80 : decode cX8_isWrongWay 80 = .ok (.goto 7, 3) := by decide +kernel
theorem dX8_isWrongWay_83 : decode cX8_isWrongWay 83 = .ok (.aload_n 0, 1) := by decide +kernel
theorem dX8_isWrongWay_84 : decode cX8_isWrongWay 84 = .ok (.getfield 158, 3) := by decide +kernel
theorem dX8_isWrongWay_87 : decode cX8_isWrongWay 87 = .ok (.istore 8, 2) := by decide +kernel
theorem dX8_isWrongWay_89 : decode cX8_isWrongWay 89 = .ok (.iload 6, 2) := by decide +kernel
theorem dX8_isWrongWay_91 : decode cX8_isWrongWay 91 = .ok (.ifCond .eq 10, 3) := by decide +kernel
theorem dX8_isWrongWay_94 : decode cX8_isWrongWay 94 = .ok (.aload_n 0, 1) := by decide +kernel
theorem dX8_isWrongWay_95 : decode cX8_isWrongWay 95 = .ok (.getfield 161, 3) := by decide +kernel
theorem dX8_isWrongWay_98 : decode cX8_isWrongWay 98 = .ok (.goto 7, 3) := by decide +kernel
theorem dX8_isWrongWay_101 : decode cX8_isWrongWay 101 = .ok (.aload_n 0, 1) := by decide +kernel
theorem dX8_isWrongWay_102 : decode cX8_isWrongWay 102 = .ok (.getfield 164, 3) := by decide +kernel
theorem dX8_isWrongWay_105 : decode cX8_isWrongWay 105 = .ok (.istore 9, 2) := by decide +kernel
theorem dX8_isWrongWay_107 : decode cX8_isWrongWay 107 = .ok (.iload 6, 2) := by decide +kernel
theorem dX8_isWrongWay_109 : decode cX8_isWrongWay 109 = .ok (.ifCond .eq 10, 3) := by decide +kernel
theorem dX8_isWrongWay_112 : decode cX8_isWrongWay 112 = .ok (.aload_n 0, 1) := by decide +kernel
theorem dX8_isWrongWay_113 : decode cX8_isWrongWay 113 = .ok (.getfield 158, 3) := by decide +kernel
theorem dX8_isWrongWay_116 : decode cX8_isWrongWay 116 = .ok (.goto 7, 3) := by decide +kernel
theorem dX8_isWrongWay_119 : decode cX8_isWrongWay 119 = .ok (.aload_n 0, 1) := by decide +kernel
theorem dX8_isWrongWay_120 : decode cX8_isWrongWay 120 = .ok (.getfield 155, 3) := by decide +kernel
theorem dX8_isWrongWay_123 : decode cX8_isWrongWay 123 = .ok (.istore 10, 2) := by decide +kernel
theorem dX8_isWrongWay_125 : decode cX8_isWrongWay 125 = .ok (.iload 6, 2) := by decide +kernel
theorem dX8_isWrongWay_127 : decode cX8_isWrongWay 127 = .ok (.ifCond .eq 10, 3) := by decide +kernel
theorem dX8_isWrongWay_130 : decode cX8_isWrongWay 130 = .ok (.aload_n 0, 1) := by decide +kernel
theorem dX8_isWrongWay_131 : decode cX8_isWrongWay 131 = .ok (.getfield 164, 3) := by decide +kernel
theorem dX8_isWrongWay_134 : decode cX8_isWrongWay 134 = .ok (.goto 7, 3) := by decide +kernel
theorem dX8_isWrongWay_137 : decode cX8_isWrongWay 137 = .ok (.aload_n 0, 1) := by decide +kernel
theorem dX8_isWrongWay_138 : decode cX8_isWrongWay 138 = .ok (.getfield 161, 3) := by decide +kernel
theorem dX8_isWrongWay_141 : decode cX8_isWrongWay 141 = .ok (.istore 11, 2) := by decide +kernel
theorem dX8_isWrongWay_143 : decode cX8_isWrongWay 143 = .ok (.iload 6, 2) := by decide +kernel
theorem dX8_isWrongWay_145 : decode cX8_isWrongWay 145 = .ok (.ifCond .eq 7, 3) := by decide +kernel
theorem dX8_isWrongWay_148 : decode cX8_isWrongWay 148 = .ok (.iload_n 3, 1) := by decide +kernel
theorem dX8_isWrongWay_149 : decode cX8_isWrongWay 149 = .ok (.goto 4, 3) := by decide +kernel
theorem dX8_isWrongWay_152 : decode cX8_isWrongWay 152 = .ok (.iload_n 2, 1) := by decide +kernel
theorem dX8_isWrongWay_153 : decode cX8_isWrongWay 153 = .ok (.istore 12, 2) := by decide +kernel
theorem dX8_isWrongWay_155 : decode cX8_isWrongWay 155 = .ok (.iload 6, 2) := by decide +kernel
theorem dX8_isWrongWay_157 : decode cX8_isWrongWay 157 = .ok (.ifCond .eq 8, 3) := by decide +kernel
theorem dX8_isWrongWay_160 : decode cX8_isWrongWay 160 = .ok (.iload 5, 2) := by decide +kernel
theorem dX8_isWrongWay_162 : decode cX8_isWrongWay 162 = .ok (.goto 5, 3) := by decide +kernel
theorem dX8_isWrongWay_165 : decode cX8_isWrongWay 165 = .ok (.iload 4, 2) := by decide +kernel
theorem dX8_isWrongWay_167 : decode cX8_isWrongWay 167 = .ok (.istore 13, 2) := by decide +kernel
theorem dX8_isWrongWay_169 : decode cX8_isWrongWay 169 = .ok (.iload 8, 2) := by decide +kernel
theorem dX8_isWrongWay_171 : decode cX8_isWrongWay 171 = .ok (.iload 9, 2) := by decide +kernel
theorem dX8_isWrongWay_173 : decode cX8_isWrongWay 173 = .ok (.iadd, 1) := by decide +kernel
theorem dX8_isWrongWay_174 : decode cX8_isWrongWay 174 = .ok (.istore 14, 2) := by decide +kernel
theorem dX8_isWrongWay_176 : decode cX8_isWrongWay 176 = .ok (.iload 8, 2) := by decide +kernel
theorem dX8_isWrongWay_178 : decode cX8_isWrongWay 178 = .ok (.iload 7, 2) := by decide +kernel
theorem dX8_isWrongWay_180 : decode cX8_isWrongWay 180 = .ok (.if_icmp .ge 10, 3) := by decide +kernel
theorem dX8_isWrongWay_183 : decode cX8_isWrongWay 183 = .ok (.iload 14, 2) := by decide +kernel
theorem dX8_isWrongWay_185 : decode cX8_isWrongWay 185 = .ok (.iload 7, 2) := by decide +kernel
theorem dX8_isWrongWay_187 : decode cX8_isWrongWay 187 = .ok (.if_icmp .gt 17, 3) := by decide +kernel
theorem dX8_isWrongWay_190 : decode cX8_isWrongWay 190 = .ok (.iload 8, 2) := by decide +kernel
theorem dX8_isWrongWay_192 : decode cX8_isWrongWay 192 = .ok (.iload 7, 2) := by decide +kernel
theorem dX8_isWrongWay_194 : decode cX8_isWrongWay 194 = .ok (.if_icmp .le 29, 3) := by decide +kernel
theorem dX8_isWrongWay_197 : decode cX8_isWrongWay 197 = .ok (.iload 14, 2) := by decide +kernel
theorem dX8_isWrongWay_199 : decode cX8_isWrongWay 199 = .ok (.iload 7, 2) := by decide +kernel
theorem dX8_isWrongWay_201 : decode cX8_isWrongWay 201 = .ok (.if_icmp .ge 22, 3) := by decide +kernel
theorem dX8_isWrongWay_204 : decode cX8_isWrongWay 204 = .ok (.iload 9, 2) := by decide +kernel
theorem dX8_isWrongWay_206 : decode cX8_isWrongWay 206 = .ok (.ifCond .le 7, 3) := by decide +kernel
theorem dX8_isWrongWay_209 : decode cX8_isWrongWay 209 = .ok (.iconst 1, 1) := by decide +kernel
theorem dX8_isWrongWay_210 : decode cX8_isWrongWay 210 = .ok (.goto 4, 3) := by decide +kernel
theorem dX8_isWrongWay_213 : decode cX8_isWrongWay 213 = .ok (.iconst 0, 1) := by decide +kernel
theorem dX8_isWrongWay_214 : decode cX8_isWrongWay 214 = .ok (.aload_n 0, 1) := by decide +kernel
theorem dX8_isWrongWay_215 : decode cX8_isWrongWay 215 = .ok (.getfield 29, 3) := by decide +kernel
theorem dX8_isWrongWay_218 : decode cX8_isWrongWay 218 = .ok (.iload_n 1, 1) := by decide +kernel
theorem dX8_isWrongWay_219 : decode cX8_isWrongWay 219 = .ok (.baload, 1) := by decide +kernel
theorem dX8_isWrongWay_220 : decode cX8_isWrongWay 220 = .ok (.if_icmp .ne 5, 3) := by decide +kernel
theorem dX8_isWrongWay_223 : decode cX8_isWrongWay 223 = .ok (.iconst 0, 1) := by decide +kernel
theorem dX8_isWrongWay_224 : decode cX8_isWrongWay 224 = .ok (.ireturn, 1) := by decide +kernel
theorem dX8_isWrongWay_225 : decode cX8_isWrongWay 225 = .ok (.iload 9, 2) := by decide +kernel
theorem dX8_isWrongWay_227 : decode cX8_isWrongWay 227 = .ok (.invokestatic 167, 3) := by decide +kernel
theorem dX8_isWrongWay_230 : decode cX8_isWrongWay 230 = .ok (.istore 15, 2) := by decide +kernel
theorem dX8_isWrongWay_232 : decode cX8_isWrongWay 232 = .ok (.iload 10, 2) := by decide +kernel
theorem dX8_isWrongWay_234 : decode cX8_isWrongWay 234 = .ok (.iload 15, 2) := by decide +kernel
theorem dX8_isWrongWay_236 : decode cX8_isWrongWay 236 = .ok (.imul, 1) := by decide +kernel
theorem dX8_isWrongWay_237 : decode cX8_isWrongWay 237 = .ok (.iload 11, 2) := by decide +kernel
theorem dX8_isWrongWay_239 : decode cX8_isWrongWay 239 = .ok (.iload 7, 2) := by decide +kernel
theorem dX8_isWrongWay_241 : decode cX8_isWrongWay 241 = .ok (.iload 8, 2) := by decide +kernel
theorem dX8_isWrongWay_243 : decode cX8_isWrongWay 243 = .ok (.isub, 1) := by decide +kernel
theorem dX8_isWrongWay_244 : decode cX8_isWrongWay 244 = .ok (.invokestatic 167, 3) := by decide +kernel
theorem dX8_isWrongWay_247 : decode cX8_isWrongWay 247 = .ok (.imul, 1) := by decide +kernel
theorem dX8_isWrongWay_248 : decode cX8_isWrongWay 248 = .ok (.iadd, 1) := by decide +kernel
theorem dX8_isWrongWay_249 : decode cX8_isWrongWay 249 = .ok (.istore 16, 2) := by decide +kernel
theorem dX8_isWrongWay_251 : decode cX8_isWrongWay 251 = .ok (.iload 16, 2) := by decide +kernel
theorem dX8_isWrongWay_253 : decode cX8_isWrongWay 253 = .ok (.iload 12, 2) := by decide +kernel
theorem dX8_isWrongWay_255 : decode cX8_isWrongWay 255 = .ok (.iload 15, 2) := by decide +kernel
theorem dX8_isWrongWay_257 : decode cX8_isWrongWay 257 = .ok (.imul, 1) := by decide +kernel
theorem dX8_isWrongWay_258 : decode cX8_isWrongWay 258 = .ok (.if_icmp .lt 17, 3) := by decide +kernel
theorem dX8_isWrongWay_261 : decode cX8_isWrongWay 261 = .ok (.iload 16, 2) := by decide +kernel
theorem dX8_isWrongWay_263 : decode cX8_isWrongWay 263 = .ok (.iload 13, 2) := by decide +kernel
theorem dX8_isWrongWay_265 : decode cX8_isWrongWay 265 = .ok (.iload 15, 2) := by decide +kernel
theorem dX8_isWrongWay_267 : decode cX8_isWrongWay 267 = .ok (.imul, 1) := by decide +kernel
theorem dX8_isWrongWay_268 : decode cX8_isWrongWay 268 = .ok (.if_icmp .gt 7, 3) := by decide +kernel
theorem dX8_isWrongWay_271 : decode cX8_isWrongWay 271 = .ok (.iconst 1, 1) := by decide +kernel
theorem dX8_isWrongWay_272 : decode cX8_isWrongWay 272 = .ok (.goto 4, 3) := by decide +kernel
theorem dX8_isWrongWay_275 : decode cX8_isWrongWay 275 = .ok (.iconst 0, 1) := by decide +kernel
theorem dX8_isWrongWay_276 : decode cX8_isWrongWay 276 = .ok (.ireturn, 1) := by decide +kernel
theorem dX8_ladder_0 : decode cX8_ladder 0 = .ok (.iload_n 1, 1) := by decide +kernel
theorem dX8_ladder_1 : decode cX8_ladder 1 = .ok (.iload_n 2, 1) := by decide +kernel
theorem dX8_ladder_2 : decode cX8_ladder 2 = .ok (.iload_n 3, 1) := by decide +kernel
theorem dX8_ladder_3 : decode cX8_ladder 3 = .ok (.invokestatic 114, 3) := by decide +kernel
theorem dX8_ladder_6 : decode cX8_ladder 6 = .ok (.ifCond .eq 32, 3) := by decide +kernel
theorem dX8_ladder_9 : decode cX8_ladder 9 = .ok (.iload 4, 2) := by decide +kernel
theorem dX8_ladder_11 : decode cX8_ladder 11 = .ok (.iload 5, 2) := by decide +kernel
theorem dX8_ladder_13 : decode cX8_ladder 13 = .ok (.iload 6, 2) := by decide +kernel
theorem dX8_ladder_15 : decode cX8_ladder 15 = .ok (.invokestatic 114, 3) := by decide +kernel
theorem dX8_ladder_18 : decode cX8_ladder 18 = .ok (.ifCond .eq 20, 3) := by decide +kernel
theorem dX8_ladder_21 : decode cX8_ladder 21 = .ok (.iload_n 1, 1) := by decide +kernel
theorem dX8_ladder_22 : decode cX8_ladder 22 = .ok (.iload 4, 2) := by decide +kernel
theorem dX8_ladder_24 : decode cX8_ladder 24 = .ok (.if_icmp .eq 14, 3) := by decide +kernel
theorem dX8_ladder_27 : decode cX8_ladder 27 = .ok (.iload 7, 2) := by decide +kernel
theorem dX8_ladder_29 : decode cX8_ladder 29 = .ok (.iconst 0, 1) := by decide +kernel
theorem dX8_ladder_30 : decode cX8_ladder 30 = .ok (.ldc 145, 2) := by decide +kernel
theorem dX8_ladder_32 : decode cX8_ladder 32 = .ok (.invokestatic 110, 3) := by decide +kernel
theorem dX8_ladder_35 : decode cX8_ladder 35 = .ok (.ifCond .ne 6, 3) := by decide +kernel
theorem dX8_ladder_38 : decode cX8_ladder 38 = .ok (.bipush (-2), 2) := by decide +kernel
theorem dX8_ladder_40 : decode cX8_ladder 40 = .ok (.ireturn, 1) := by decide +kernel
theorem dX8_ladder_41 : decode cX8_ladder 41 = .ok (.aload_n 0, 1) := by decide +kernel
theorem dX8_ladder_42 : decode cX8_ladder 42 = .ok (.getfield 146, 3) := by decide +kernel
theorem dX8_ladder_45 : decode cX8_ladder 45 = .ok (.bipush 6, 2) := by decide +kernel
theorem dX8_ladder_47 : decode cX8_ladder 47 = .ok (.if_icmp .ne 6, 3) := by decide +kernel
theorem dX8_ladder_50 : decode cX8_ladder 50 = .ok (.bipush (-4), 2) := by decide +kernel
theorem dX8_ladder_52 : decode cX8_ladder 52 = .ok (.ireturn, 1) := by decide +kernel
theorem dX8_ladder_53 : decode cX8_ladder 53 = .ok (.aload_n 0, 1) := by decide +kernel
theorem dX8_ladder_54 : decode cX8_ladder 54 = .ok (.getfield 32, 3) := by decide +kernel
theorem dX8_ladder_57 : decode cX8_ladder 57 = .ok (.bipush 7, 2) := by decide +kernel
theorem dX8_ladder_59 : decode cX8_ladder 59 = .ok (.aload_n 0, 1) := by decide +kernel
theorem dX8_ladder_60 : decode cX8_ladder 60 = .ok (.getfield 146, 3) := by decide +kernel
theorem dX8_ladder_63 : decode cX8_ladder 63 = .ok (.imul, 1) := by decide +kernel
theorem dX8_ladder_64 : decode cX8_ladder 64 = .ok (.iload_n 1, 1) := by decide +kernel
theorem dX8_ladder_65 : decode cX8_ladder 65 = .ok (.iastore, 1) := by decide +kernel
theorem dX8_ladder_66 : decode cX8_ladder 66 = .ok (.aload_n 0, 1) := by decide +kernel
theorem dX8_ladder_67 : decode cX8_ladder 67 = .ok (.getfield 32, 3) := by decide +kernel
theorem dX8_ladder_70 : decode cX8_ladder 70 = .ok (.bipush 7, 2) := by decide +kernel
theorem dX8_ladder_72 : decode cX8_ladder 72 = .ok (.aload_n 0, 1) := by decide +kernel
theorem dX8_ladder_73 : decode cX8_ladder 73 = .ok (.getfield 146, 3) := by decide +kernel
theorem dX8_ladder_76 : decode cX8_ladder 76 = .ok (.imul, 1) := by decide +kernel
theorem dX8_ladder_77 : decode cX8_ladder 77 = .ok (.iconst 1, 1) := by decide +kernel
theorem dX8_ladder_78 : decode cX8_ladder 78 = .ok (.iadd, 1) := by decide +kernel
theorem dX8_ladder_79 : decode cX8_ladder 79 = .ok (.iload_n 2, 1) := by decide +kernel
theorem dX8_ladder_80 : decode cX8_ladder 80 = .ok (.iastore, 1) := by decide +kernel
theorem dX8_ladder_81 : decode cX8_ladder 81 = .ok (.aload_n 0, 1) := by decide +kernel
theorem dX8_ladder_82 : decode cX8_ladder 82 = .ok (.getfield 32, 3) := by decide +kernel
theorem dX8_ladder_85 : decode cX8_ladder 85 = .ok (.bipush 7, 2) := by decide +kernel
theorem dX8_ladder_87 : decode cX8_ladder 87 = .ok (.aload_n 0, 1) := by decide +kernel
theorem dX8_ladder_88 : decode cX8_ladder 88 = .ok (.getfield 146, 3) := by decide +kernel
theorem dX8_ladder_91 : decode cX8_ladder 91 = .ok (.imul, 1) := by decide +kernel
theorem dX8_ladder_92 : decode cX8_ladder 92 = .ok (.iconst 2, 1) := by decide +kernel
theorem dX8_ladder_93 : decode cX8_ladder 93 = .ok (.iadd, 1) := by decide +kernel
theorem dX8_ladder_94 : decode cX8_ladder 94 = .ok (.iload_n 3, 1) := by decide +kernel
theorem dX8_ladder_95 : decode cX8_ladder 95 = .ok (.iastore, 1) := by decide +kernel
theorem dX8_ladder_96 : decode cX8_ladder 96 = .ok (.aload_n 0, 1) := by decide +kernel
theorem dX8_ladder_97 : decode cX8_ladder 97 = .ok (.getfield 32, 3) := by decide +kernel
theorem dX8_ladder_100 : decode cX8_ladder 100 = .ok (.bipush 7, 2) := by decide +kernel
theorem dX8_ladder_102 : decode cX8_ladder 102 = .ok (.aload_n 0, 1) := by decide +kernel
theorem dX8_ladder_103 : decode cX8_ladder 103 = .ok (.getfield 146, 3) := by decide +kernel
theorem dX8_ladder_106 : decode cX8_ladder 106 = .ok (.imul, 1) := by decide +kernel
theorem dX8_ladder_107 : decode cX8_ladder 107 = .ok (.iconst 3, 1) := by decide +kernel
theorem dX8_ladder_108 : decode cX8_ladder 108 = .ok (.iadd, 1) := by decide +kernel
theorem dX8_ladder_109 : decode cX8_ladder 109 = .ok (.iload 4, 2) := by decide +kernel
theorem dX8_ladder_111 : decode cX8_ladder 111 = .ok (.iastore, 1) := by decide +kernel
theorem dX8_ladder_112 : decode cX8_ladder 112 = .ok (.aload_n 0, 1) := by decide +kernel
theorem dX8_ladder_113 : decode cX8_ladder 113 = .ok (.getfield 32, 3) := by decide +kernel
theorem dX8_ladder_116 : decode cX8_ladder 116 = .ok (.bipush 7, 2) := by decide +kernel
theorem dX8_ladder_118 : decode cX8_ladder 118 = .ok (.aload_n 0, 1) := by decide +kernel
theorem dX8_ladder_119 : decode cX8_ladder 119 = .ok (.getfield 146, 3) := by decide +kernel
theorem dX8_ladder_122 : decode cX8_ladder 122 = .ok (.imul, 1) := by decide +kernel
theorem dX8_ladder_123 : decode cX8_ladder 123 = .ok (.iconst 4, 1) := by decide +kernel
theorem dX8_ladder_124 : decode cX8_ladder 124 = .ok (.iadd, 1) := by decide +kernel
theorem dX8_ladder_125 : decode cX8_ladder 125 = .ok (.iload 5, 2) := by decide +kernel
theorem dX8_ladder_127 : decode cX8_ladder 127 = .ok (.iastore, 1) := by decide +kernel
theorem dX8_ladder_128 : decode cX8_ladder 128 = .ok (.aload_n 0, 1) := by decide +kernel
theorem dX8_ladder_129 : decode cX8_ladder 129 = .ok (.getfield 32, 3) := by decide +kernel
theorem dX8_ladder_132 : decode cX8_ladder 132 = .ok (.bipush 7, 2) := by decide +kernel
theorem dX8_ladder_134 : decode cX8_ladder 134 = .ok (.aload_n 0, 1) := by decide +kernel
theorem dX8_ladder_135 : decode cX8_ladder 135 = .ok (.getfield 146, 3) := by decide +kernel
theorem dX8_ladder_138 : decode cX8_ladder 138 = .ok (.imul, 1) := by decide +kernel
theorem dX8_ladder_139 : decode cX8_ladder 139 = .ok (.iconst 5, 1) := by decide +kernel
theorem dX8_ladder_140 : decode cX8_ladder 140 = .ok (.iadd, 1) := by decide +kernel
theorem dX8_ladder_141 : decode cX8_ladder 141 = .ok (.iload 6, 2) := by decide +kernel
theorem dX8_ladder_143 : decode cX8_ladder 143 = .ok (.iastore, 1) := by decide +kernel
theorem dX8_ladder_144 : decode cX8_ladder 144 = .ok (.aload_n 0, 1) := by decide +kernel
theorem dX8_ladder_145 : decode cX8_ladder 145 = .ok (.getfield 32, 3) := by decide +kernel
theorem dX8_ladder_148 : decode cX8_ladder 148 = .ok (.bipush 7, 2) := by decide +kernel
theorem dX8_ladder_150 : decode cX8_ladder 150 = .ok (.aload_n 0, 1) := by decide +kernel
theorem dX8_ladder_151 : decode cX8_ladder 151 = .ok (.getfield 146, 3) := by decide +kernel
theorem dX8_ladder_154 : decode cX8_ladder 154 = .ok (.imul, 1) := by decide +kernel
theorem dX8_ladder_155 : decode cX8_ladder 155 = .ok (.bipush 6, 2) := by decide +kernel
theorem dX8_ladder_157 : decode cX8_ladder 157 = .ok (.iadd, 1) := by decide +kernel
theorem dX8_ladder_158 : decode cX8_ladder 158 = .ok (.iload 7, 2) := by decide +kernel
theorem dX8_ladder_160 : decode cX8_ladder 160 = .ok (.iastore, 1) := by decide +kernel
theorem dX8_ladder_161 : decode cX8_ladder 161 = .ok (.aload_n 0, 1) := by decide +kernel
theorem dX8_ladder_162 : decode cX8_ladder 162 = .ok (.dup, 1) := by decide +kernel
theorem dX8_ladder_163 : decode cX8_ladder 163 = .ok (.getfield 146, 3) := by decide +kernel
theorem dX8_ladder_166 : decode cX8_ladder 166 = .ok (.iconst 1, 1) := by decide +kernel
theorem dX8_ladder_167 : decode cX8_ladder 167 = .ok (.iadd, 1) := by decide +kernel
theorem dX8_ladder_168 : decode cX8_ladder 168 = .ok (.putfield 146, 3) := by decide +kernel
theorem dX8_ladder_171 : decode cX8_ladder 171 = .ok (.aload_n 0, 1) := by decide +kernel
theorem dX8_ladder_172 : decode cX8_ladder 172 = .ok (.getfield 146, 3) := by decide +kernel
theorem dX8_ladder_175 : decode cX8_ladder 175 = .ok (.iconst 1, 1) := by decide +kernel
theorem dX8_ladder_176 : decode cX8_ladder 176 = .ok (.isub, 1) := by decide +kernel
theorem dX8_ladder_177 : decode cX8_ladder 177 = .ok (.ireturn, 1) := by decide +kernel
theorem dX8_lays_0 : decode cX8_lays 0 = .ok (.aload_n 0, 1) := by decide +kernel
theorem dX8_lays_1 : decode cX8_lays 1 = .ok (.iconst 5, 1) := by decide +kernel
theorem dX8_lays_2 : decode cX8_lays 2 = .ok (.iload_n 1, 1) := by decide +kernel
theorem dX8_lays_3 : decode cX8_lays 3 = .ok (.imul, 1) := by decide +kernel
theorem dX8_lays_4 : decode cX8_lays 4 = .ok (.iload_n 2, 1) := by decide +kernel
theorem dX8_lays_5 : decode cX8_lays 5 = .ok (.iastore, 1) := by decide +kernel
theorem dX8_lays_6 : decode cX8_lays 6 = .ok (.aload_n 0, 1) := by decide +kernel
theorem dX8_lays_7 : decode cX8_lays 7 = .ok (.iconst 5, 1) := by decide +kernel
theorem dX8_lays_8 : decode cX8_lays 8 = .ok (.iload_n 1, 1) := by decide +kernel
theorem dX8_lays_9 : decode cX8_lays 9 = .ok (.imul, 1) := by decide +kernel
theorem dX8_lays_10 : decode cX8_lays 10 = .ok (.iconst 1, 1) := by decide +kernel
theorem dX8_lays_11 : decode cX8_lays 11 = .ok (.iadd, 1) := by decide +kernel
theorem dX8_lays_12 : decode cX8_lays 12 = .ok (.iload_n 3, 1) := by decide +kernel
theorem dX8_lays_13 : decode cX8_lays 13 = .ok (.iload 5, 2) := by decide +kernel
theorem dX8_lays_15 : decode cX8_lays 15 = .ok (.if_icmp .ge 7, 3) := by decide +kernel
theorem dX8_lays_18 : decode cX8_lays 18 = .ok (.iload_n 3, 1) := by decide +kernel
theorem dX8_lays_19 : decode cX8_lays 19 = .ok (.goto 5, 3) := by decide +kernel
theorem dX8_lays_22 : decode cX8_lays 22 = .ok (.iload 5, 2) := by decide +kernel
theorem dX8_lays_24 : decode cX8_lays 24 = .ok (.iastore, 1) := by decide +kernel
theorem dX8_lays_25 : decode cX8_lays 25 = .ok (.aload_n 0, 1) := by decide +kernel
theorem dX8_lays_26 : decode cX8_lays 26 = .ok (.iconst 5, 1) := by decide +kernel
theorem dX8_lays_27 : decode cX8_lays 27 = .ok (.iload_n 1, 1) := by decide +kernel
theorem dX8_lays_28 : decode cX8_lays 28 = .ok (.imul, 1) := by decide +kernel
theorem dX8_lays_29 : decode cX8_lays 29 = .ok (.iconst 2, 1) := by decide +kernel
theorem dX8_lays_30 : decode cX8_lays 30 = .ok (.iadd, 1) := by decide +kernel
theorem dX8_lays_31 : decode cX8_lays 31 = .ok (.iload 4, 2) := by decide +kernel
theorem dX8_lays_33 : decode cX8_lays 33 = .ok (.iload 6, 2) := by decide +kernel
theorem dX8_lays_35 : decode cX8_lays 35 = .ok (.if_icmp .ge 8, 3) := by decide +kernel
theorem dX8_lays_38 : decode cX8_lays 38 = .ok (.iload 4, 2) := by decide +kernel
theorem dX8_lays_40 : decode cX8_lays 40 = .ok (.goto 5, 3) := by decide +kernel
theorem dX8_lays_43 : decode cX8_lays 43 = .ok (.iload 6, 2) := by decide +kernel
theorem dX8_lays_45 : decode cX8_lays 45 = .ok (.iastore, 1) := by decide +kernel
theorem dX8_lays_46 : decode cX8_lays 46 = .ok (.aload_n 0, 1) := by decide +kernel
theorem dX8_lays_47 : decode cX8_lays 47 = .ok (.iconst 5, 1) := by decide +kernel
theorem dX8_lays_48 : decode cX8_lays 48 = .ok (.iload_n 1, 1) := by decide +kernel
theorem dX8_lays_49 : decode cX8_lays 49 = .ok (.imul, 1) := by decide +kernel
theorem dX8_lays_50 : decode cX8_lays 50 = .ok (.iconst 3, 1) := by decide +kernel
theorem dX8_lays_51 : decode cX8_lays 51 = .ok (.iadd, 1) := by decide +kernel
theorem dX8_lays_52 : decode cX8_lays 52 = .ok (.iload_n 3, 1) := by decide +kernel
theorem dX8_lays_53 : decode cX8_lays 53 = .ok (.iload 5, 2) := by decide +kernel
theorem dX8_lays_55 : decode cX8_lays 55 = .ok (.if_icmp .ge 8, 3) := by decide +kernel
theorem dX8_lays_58 : decode cX8_lays 58 = .ok (.iload 5, 2) := by decide +kernel
theorem dX8_lays_60 : decode cX8_lays 60 = .ok (.goto 4, 3) := by decide +kernel
theorem dX8_lays_63 : decode cX8_lays 63 = .ok (.iload_n 3, 1) := by decide +kernel
theorem dX8_lays_64 : decode cX8_lays 64 = .ok (.iastore, 1) := by decide +kernel
theorem dX8_lays_65 : decode cX8_lays 65 = .ok (.aload_n 0, 1) := by decide +kernel
theorem dX8_lays_66 : decode cX8_lays 66 = .ok (.iconst 5, 1) := by decide +kernel
theorem dX8_lays_67 : decode cX8_lays 67 = .ok (.iload_n 1, 1) := by decide +kernel
theorem dX8_lays_68 : decode cX8_lays 68 = .ok (.imul, 1) := by decide +kernel
theorem dX8_lays_69 : decode cX8_lays 69 = .ok (.iconst 4, 1) := by decide +kernel
theorem dX8_lays_70 : decode cX8_lays 70 = .ok (.iadd, 1) := by decide +kernel
theorem dX8_lays_71 : decode cX8_lays 71 = .ok (.iload 4, 2) := by decide +kernel
theorem dX8_lays_73 : decode cX8_lays 73 = .ok (.iload 6, 2) := by decide +kernel
theorem dX8_lays_75 : decode cX8_lays 75 = .ok (.if_icmp .ge 8, 3) := by decide +kernel
theorem dX8_lays_78 : decode cX8_lays 78 = .ok (.iload 6, 2) := by decide +kernel
theorem dX8_lays_80 : decode cX8_lays 80 = .ok (.goto 5, 3) := by decide +kernel
theorem dX8_lays_83 : decode cX8_lays 83 = .ok (.iload 4, 2) := by decide +kernel
theorem dX8_lays_85 : decode cX8_lays 85 = .ok (.iastore, 1) := by decide +kernel
theorem dX8_lays_86 : decode cX8_lays 86 = .ok (.return_, 1) := by decide +kernel
theorem dX8_ledge_0 : decode cX8_ledge 0 = .ok (.iload_n 1, 1) := by decide +kernel
theorem dX8_ledge_1 : decode cX8_ledge 1 = .ok (.iload_n 2, 1) := by decide +kernel
theorem dX8_ledge_2 : decode cX8_ledge 2 = .ok (.iload_n 3, 1) := by decide +kernel
theorem dX8_ledge_3 : decode cX8_ledge 3 = .ok (.iload 4, 2) := by decide +kernel
theorem dX8_ledge_5 : decode cX8_ledge 5 = .ok (.iload 5, 2) := by decide +kernel
theorem dX8_ledge_7 : decode cX8_ledge 7 = .ok (.invokestatic 132, 3) := by decide +kernel
theorem dX8_ledge_10 : decode cX8_ledge 10 = .ok (.ifCond .ne 6, 3) := by decide +kernel
theorem dX8_ledge_13 : decode cX8_ledge 13 = .ok (.bipush (-2), 2) := by decide +kernel
theorem dX8_ledge_15 : decode cX8_ledge 15 = .ok (.ireturn, 1) := by decide +kernel
theorem dX8_ledge_16 : decode cX8_ledge 16 = .ok (.aload_n 0, 1) := by decide +kernel
theorem dX8_ledge_17 : decode cX8_ledge 17 = .ok (.getfield 142, 3) := by decide +kernel
theorem dX8_ledge_20 : decode cX8_ledge 20 = .ok (.bipush 6, 2) := by decide +kernel
theorem dX8_ledge_22 : decode cX8_ledge 22 = .ok (.if_icmp .ne 6, 3) := by decide +kernel
theorem dX8_ledge_25 : decode cX8_ledge 25 = .ok (.bipush (-4), 2) := by decide +kernel
theorem dX8_ledge_27 : decode cX8_ledge 27 = .ok (.ireturn, 1) := by decide +kernel
theorem dX8_ledge_28 : decode cX8_ledge 28 = .ok (.aload_n 0, 1) := by decide +kernel
theorem dX8_ledge_29 : decode cX8_ledge 29 = .ok (.getfield 26, 3) := by decide +kernel
theorem dX8_ledge_32 : decode cX8_ledge 32 = .ok (.aload_n 0, 1) := by decide +kernel
theorem dX8_ledge_33 : decode cX8_ledge 33 = .ok (.getfield 142, 3) := by decide +kernel
theorem dX8_ledge_36 : decode cX8_ledge 36 = .ok (.iload_n 1, 1) := by decide +kernel
theorem dX8_ledge_37 : decode cX8_ledge 37 = .ok (.iload_n 2, 1) := by decide +kernel
theorem dX8_ledge_38 : decode cX8_ledge 38 = .ok (.iload_n 3, 1) := by decide +kernel
theorem dX8_ledge_39 : decode cX8_ledge 39 = .ok (.iload 4, 2) := by decide +kernel
theorem dX8_ledge_41 : decode cX8_ledge 41 = .ok (.iload 5, 2) := by decide +kernel
theorem dX8_ledge_43 : decode cX8_ledge 43 = .ok (.invokestatic 125, 3) := by decide +kernel
theorem dX8_ledge_46 : decode cX8_ledge 46 = .ok (.aload_n 0, 1) := by decide +kernel
theorem dX8_ledge_47 : decode cX8_ledge 47 = .ok (.getfield 29, 3) := by decide +kernel
theorem dX8_ledge_50 : decode cX8_ledge 50 = .ok (.aload_n 0, 1) := by decide +kernel
theorem dX8_ledge_51 : decode cX8_ledge 51 = .ok (.getfield 142, 3) := by decide +kernel
theorem dX8_ledge_54 : decode cX8_ledge 54 = .ok (.iload 6, 2) := by decide +kernel
theorem dX8_ledge_56 : decode cX8_ledge 56 = .ok (.bastore, 1) := by decide +kernel
theorem dX8_ledge_57 : decode cX8_ledge 57 = .ok (.aload_n 0, 1) := by decide +kernel
theorem dX8_ledge_58 : decode cX8_ledge 58 = .ok (.dup, 1) := by decide +kernel
theorem dX8_ledge_59 : decode cX8_ledge 59 = .ok (.getfield 142, 3) := by decide +kernel
theorem dX8_ledge_62 : decode cX8_ledge 62 = .ok (.iconst 1, 1) := by decide +kernel
theorem dX8_ledge_63 : decode cX8_ledge 63 = .ok (.iadd, 1) := by decide +kernel
theorem dX8_ledge_64 : decode cX8_ledge 64 = .ok (.putfield 142, 3) := by decide +kernel
theorem dX8_ledge_67 : decode cX8_ledge 67 = .ok (.aload_n 0, 1) := by decide +kernel
theorem dX8_ledge_68 : decode cX8_ledge 68 = .ok (.getfield 142, 3) := by decide +kernel
theorem dX8_ledge_71 : decode cX8_ledge 71 = .ok (.iconst 1, 1) := by decide +kernel
theorem dX8_ledge_72 : decode cX8_ledge 72 = .ok (.isub, 1) := by decide +kernel
theorem dX8_ledge_73 : decode cX8_ledge 73 = .ok (.ireturn, 1) := by decide +kernel
theorem dX8_leg_0 : decode cX8_leg 0 = .ok (.aload_n 0, 1) := by decide +kernel
theorem dX8_leg_1 : decode cX8_leg 1 = .ok (.iload_n 1, 1) := by decide +kernel
theorem dX8_leg_2 : decode cX8_leg 2 = .ok (.putfield 155, 3) := by decide +kernel
theorem dX8_leg_5 : decode cX8_leg 5 = .ok (.aload_n 0, 1) := by decide +kernel
theorem dX8_leg_6 : decode cX8_leg 6 = .ok (.iload_n 2, 1) := by decide +kernel
theorem dX8_leg_7 : decode cX8_leg 7 = .ok (.putfield 158, 3) := by decide +kernel
theorem dX8_leg_10 : decode cX8_leg 10 = .ok (.aload_n 0, 1) := by decide +kernel
theorem dX8_leg_11 : decode cX8_leg 11 = .ok (.iload_n 3, 1) := by decide +kernel
theorem dX8_leg_12 : decode cX8_leg 12 = .ok (.iload_n 1, 1) := by decide +kernel
theorem dX8_leg_13 : decode cX8_leg 13 = .ok (.isub, 1) := by decide +kernel
theorem dX8_leg_14 : decode cX8_leg 14 = .ok (.putfield 161, 3) := by decide +kernel
theorem dX8_leg_17 : decode cX8_leg 17 = .ok (.aload_n 0, 1) := by decide +kernel
theorem dX8_leg_18 : decode cX8_leg 18 = .ok (.iload 4, 2) := by decide +kernel
theorem dX8_leg_20 : decode cX8_leg 20 = .ok (.iload_n 2, 1) := by decide +kernel
theorem dX8_leg_21 : decode cX8_leg 21 = .ok (.isub, 1) := by decide +kernel
theorem dX8_leg_22 : decode cX8_leg 22 = .ok (.putfield 164, 3) := by decide +kernel
theorem dX8_leg_25 : decode cX8_leg 25 = .ok (.aload_n 0, 1) := by decide +kernel
theorem dX8_leg_26 : decode cX8_leg 26 = .ok (.aload_n 0, 1) := by decide +kernel
theorem dX8_leg_27 : decode cX8_leg 27 = .ok (.getfield 161, 3) := by decide +kernel
theorem dX8_leg_30 : decode cX8_leg 30 = .ok (.ifCond .ne 7, 3) := by decide +kernel
theorem dX8_leg_33 : decode cX8_leg 33 = .ok (.iconst 1, 1) := by decide +kernel
theorem dX8_leg_34 : decode cX8_leg 34 = .ok (.goto 10, 3) := by decide +kernel
theorem dX8_leg_37 : decode cX8_leg 37 = .ok (.aload_n 0, 1) := by decide +kernel
theorem dX8_leg_38 : decode cX8_leg 38 = .ok (.getfield 161, 3) := by decide +kernel
theorem dX8_leg_41 : decode cX8_leg 41 = .ok (.invokestatic 167, 3) := by decide +kernel
theorem dX8_leg_44 : decode cX8_leg 44 = .ok (.aload_n 0, 1) := by decide +kernel
theorem dX8_leg_45 : decode cX8_leg 45 = .ok (.getfield 164, 3) := by decide +kernel
theorem dX8_leg_48 : decode cX8_leg 48 = .ok (.ifCond .ne 7, 3) := by decide +kernel
theorem dX8_leg_51 : decode cX8_leg 51 = .ok (.iconst 1, 1) := by decide +kernel
theorem dX8_leg_52 : decode cX8_leg 52 = .ok (.goto 10, 3) := by decide +kernel
theorem dX8_leg_55 : decode cX8_leg 55 = .ok (.aload_n 0, 1) := by decide +kernel
theorem dX8_leg_56 : decode cX8_leg 56 = .ok (.getfield 164, 3) := by decide +kernel
theorem dX8_leg_59 : decode cX8_leg 59 = .ok (.invokestatic 167, 3) := by decide +kernel
theorem dX8_leg_62 : decode cX8_leg 62 = .ok (.imul, 1) := by decide +kernel
theorem dX8_leg_63 : decode cX8_leg 63 = .ok (.putfield 171, 3) := by decide +kernel
theorem dX8_leg_66 : decode cX8_leg 66 = .ok (.return_, 1) := by decide +kernel
theorem dX8_lengthOf_0 : decode cX8_lengthOf 0 = .ok (.ldc2_w 208, 3) := by decide +kernel
theorem dX8_lengthOf_3 : decode cX8_lengthOf 3 = .ok (.iload_n 2, 1) := by decide +kernel
theorem dX8_lengthOf_4 : decode cX8_lengthOf 4 = .ok (.iload_n 0, 1) := by decide +kernel
theorem dX8_lengthOf_5 : decode cX8_lengthOf 5 = .ok (.isub, 1) := by decide +kernel
theorem dX8_lengthOf_6 : decode cX8_lengthOf 6 = .ok (.iload_n 2, 1) := by decide +kernel
theorem dX8_lengthOf_7 : decode cX8_lengthOf 7 = .ok (.iload_n 0, 1) := by decide +kernel
theorem dX8_lengthOf_8 : decode cX8_lengthOf 8 = .ok (.isub, 1) := by decide +kernel
theorem dX8_lengthOf_9 : decode cX8_lengthOf 9 = .ok (.imul, 1) := by decide +kernel
theorem dX8_lengthOf_10 : decode cX8_lengthOf 10 = .ok (.iload_n 3, 1) := by decide +kernel
theorem dX8_lengthOf_11 : decode cX8_lengthOf 11 = .ok (.iload_n 1, 1) := by decide +kernel
theorem dX8_lengthOf_12 : decode cX8_lengthOf 12 = .ok (.isub, 1) := by decide +kernel
theorem dX8_lengthOf_13 : decode cX8_lengthOf 13 = .ok (.iload_n 3, 1) := by decide +kernel
theorem dX8_lengthOf_14 : decode cX8_lengthOf 14 = .ok (.iload_n 1, 1) := by decide +kernel
theorem dX8_lengthOf_15 : decode cX8_lengthOf 15 = .ok (.isub, 1) := by decide +kernel
theorem dX8_lengthOf_16 : decode cX8_lengthOf 16 = .ok (.imul, 1) := by decide +kernel
theorem dX8_lengthOf_17 : decode cX8_lengthOf 17 = .ok (.iadd, 1) := by decide +kernel
theorem dX8_lengthOf_18 : decode cX8_lengthOf 18 = .ok (.i2l, 1) := by decide +kernel
theorem dX8_lengthOf_19 : decode cX8_lengthOf 19 = .ok (.lmul, 1) := by decide +kernel
theorem dX8_lengthOf_20 : decode cX8_lengthOf 20 = .ok (.lstore 4, 2) := by decide +kernel
theorem dX8_lengthOf_22 : decode cX8_lengthOf 22 = .ok (.lconst 0, 1) := by decide +kernel
theorem dX8_lengthOf_23 : decode cX8_lengthOf 23 = .ok (.lstore 6, 2) := by decide +kernel
theorem dX8_lengthOf_25 : decode cX8_lengthOf 25 = .ok (.ldc2_w 210, 3) := by decide +kernel
theorem dX8_lengthOf_28 : decode cX8_lengthOf 28 = .ok (.lstore 8, 2) := by decide +kernel
theorem dX8_lengthOf_30 : decode cX8_lengthOf 30 = .ok (.lload 6, 2) := by decide +kernel
theorem dX8_lengthOf_32 : decode cX8_lengthOf 32 = .ok (.lload 8, 2) := by decide +kernel
theorem dX8_lengthOf_34 : decode cX8_lengthOf 34 = .ok (.lcmp, 1) := by decide +kernel
theorem dX8_lengthOf_35 : decode cX8_lengthOf 35 = .ok (.ifCond .ge 43, 3) := by decide +kernel
theorem dX8_lengthOf_38 : decode cX8_lengthOf 38 = .ok (.lload 6, 2) := by decide +kernel
theorem dX8_lengthOf_40 : decode cX8_lengthOf 40 = .ok (.lload 8, 2) := by decide +kernel
theorem dX8_lengthOf_42 : decode cX8_lengthOf 42 = .ok (.ladd, 1) := by decide +kernel
theorem dX8_lengthOf_43 : decode cX8_lengthOf 43 = .ok (.lconst 1, 1) := by decide +kernel
theorem dX8_lengthOf_44 : decode cX8_lengthOf 44 = .ok (.ladd, 1) := by decide +kernel
theorem dX8_lengthOf_45 : decode cX8_lengthOf 45 = .ok (.ldc2_w 212, 3) := by decide +kernel
theorem dX8_lengthOf_48 : decode cX8_lengthOf 48 = .ok (.ldiv, 1) := by decide +kernel
theorem dX8_lengthOf_49 : decode cX8_lengthOf 49 = .ok (.lstore 10, 2) := by decide +kernel
theorem dX8_lengthOf_51 : decode cX8_lengthOf 51 = .ok (.lload 10, 2) := by decide +kernel
theorem dX8_lengthOf_53 : decode cX8_lengthOf 53 = .ok (.lload 10, 2) := by decide +kernel
theorem dX8_lengthOf_55 : decode cX8_lengthOf 55 = .ok (.lmul, 1) := by decide +kernel
theorem dX8_lengthOf_56 : decode cX8_lengthOf 56 = .ok (.lload 4, 2) := by decide +kernel
theorem dX8_lengthOf_58 : decode cX8_lengthOf 58 = .ok (.lcmp, 1) := by decide +kernel
theorem dX8_lengthOf_59 : decode cX8_lengthOf 59 = .ok (.ifCond .gt 10, 3) := by decide +kernel
theorem dX8_lengthOf_62 : decode cX8_lengthOf 62 = .ok (.lload 10, 2) := by decide +kernel
theorem dX8_lengthOf_64 : decode cX8_lengthOf 64 = .ok (.lstore 6, 2) := by decide +kernel
theorem dX8_lengthOf_66 : decode cX8_lengthOf 66 = .ok (.goto 9, 3) := by decide +kernel
theorem dX8_lengthOf_69 : decode cX8_lengthOf 69 = .ok (.lload 10, 2) := by decide +kernel
theorem dX8_lengthOf_71 : decode cX8_lengthOf 71 = .ok (.lconst 1, 1) := by decide +kernel
theorem dX8_lengthOf_72 : decode cX8_lengthOf 72 = .ok (.lsub, 1) := by decide +kernel
theorem dX8_lengthOf_73 : decode cX8_lengthOf 73 = .ok (.lstore 8, 2) := by decide +kernel
theorem dX8_lengthOf_75 : decode cX8_lengthOf 75 = .ok (.goto (-45), 3) := by decide +kernel
theorem dX8_lengthOf_78 : decode cX8_lengthOf 78 = .ok (.lload 6, 2) := by decide +kernel
theorem dX8_lengthOf_80 : decode cX8_lengthOf 80 = .ok (.l2i, 1) := by decide +kernel
theorem dX8_lengthOf_81 : decode cX8_lengthOf 81 = .ok (.ireturn, 1) := by decide +kernel
theorem dX8_looksAnew_0 : decode cX8_looksAnew 0 = .ok (.bipush 94, 2) := by decide +kernel
theorem dX8_looksAnew_2 : decode cX8_looksAnew 2 = .ok (.iload_n 1, 1) := by decide +kernel
theorem dX8_looksAnew_3 : decode cX8_looksAnew 3 = .ok (.imul, 1) := by decide +kernel
theorem dX8_looksAnew_4 : decode cX8_looksAnew 4 = .ok (.aload_n 0, 1) := by decide +kernel
theorem dX8_looksAnew_5 : decode cX8_looksAnew 5 = .ok (.getfield 83, 3) := by decide +kernel
theorem dX8_looksAnew_8 : decode cX8_looksAnew 8 = .ok (.iload_n 1, 1) := by decide +kernel
theorem dX8_looksAnew_9 : decode cX8_looksAnew 9 = .ok (.iaload, 1) := by decide +kernel
theorem dX8_looksAnew_10 : decode cX8_looksAnew 10 = .ok (.iadd, 1) := by decide +kernel
theorem dX8_looksAnew_11 : decode cX8_looksAnew 11 = .ok (.iconst 1, 1) := by decide +kernel
theorem dX8_looksAnew_12 : decode cX8_looksAnew 12 = .ok (.isub, 1) := by decide +kernel
theorem dX8_looksAnew_13 : decode cX8_looksAnew 13 = .ok (.istore_n 2, 1) := by decide +kernel
theorem dX8_looksAnew_14 : decode cX8_looksAnew 14 = .ok (.aload_n 0, 1) := by decide +kernel
theorem dX8_looksAnew_15 : decode cX8_looksAnew 15 = .ok (.getfield 86, 3) := by decide +kernel
theorem dX8_looksAnew_18 : decode cX8_looksAnew 18 = .ok (.iload_n 2, 1) := by decide +kernel
theorem dX8_looksAnew_19 : decode cX8_looksAnew 19 = .ok (.iaload, 1) := by decide +kernel
theorem dX8_looksAnew_20 : decode cX8_looksAnew 20 = .ok (.istore_n 3, 1) := by decide +kernel
theorem dX8_looksAnew_21 : decode cX8_looksAnew 21 = .ok (.aload_n 0, 1) := by decide +kernel
theorem dX8_looksAnew_22 : decode cX8_looksAnew 22 = .ok (.getfield 89, 3) := by decide +kernel
theorem dX8_looksAnew_25 : decode cX8_looksAnew 25 = .ok (.iload_n 2, 1) := by decide +kernel
theorem dX8_looksAnew_26 : decode cX8_looksAnew 26 = .ok (.iaload, 1) := by decide +kernel
theorem dX8_looksAnew_27 : decode cX8_looksAnew 27 = .ok (.istore 4, 2) := by decide +kernel
theorem dX8_looksAnew_29 : decode cX8_looksAnew 29 = .ok (.aload_n 0, 1) := by decide +kernel
theorem dX8_looksAnew_30 : decode cX8_looksAnew 30 = .ok (.getfield 92, 3) := by decide +kernel
theorem dX8_looksAnew_33 : decode cX8_looksAnew 33 = .ok (.iload_n 2, 1) := by decide +kernel
theorem dX8_looksAnew_34 : decode cX8_looksAnew 34 = .ok (.iaload, 1) := by decide +kernel
theorem dX8_looksAnew_35 : decode cX8_looksAnew 35 = .ok (.istore 5, 2) := by decide +kernel
theorem dX8_looksAnew_37 : decode cX8_looksAnew 37 = .ok (.aload_n 0, 1) := by decide +kernel
theorem dX8_looksAnew_38 : decode cX8_looksAnew 38 = .ok (.getfield 107, 3) := by decide +kernel
theorem dX8_looksAnew_41 : decode cX8_looksAnew 41 = .ok (.iload_n 1, 1) := by decide +kernel
theorem dX8_looksAnew_42 : decode cX8_looksAnew 42 = .ok (.dup2, 1) := by decide +kernel
theorem dX8_looksAnew_43 : decode cX8_looksAnew 43 = .ok (.iaload, 1) := by decide +kernel
theorem dX8_looksAnew_44 : decode cX8_looksAnew 44 = .ok (.iconst 1, 1) := by decide +kernel
theorem dX8_looksAnew_45 : decode cX8_looksAnew 45 = .ok (.iadd, 1) := by decide +kernel
theorem dX8_looksAnew_46 : decode cX8_looksAnew 46 = .ok (.iastore, 1) := by decide +kernel
theorem dX8_looksAnew_47 : decode cX8_looksAnew 47 = .ok (.aload_n 0, 1) := by decide +kernel
theorem dX8_looksAnew_48 : decode cX8_looksAnew 48 = .ok (.aload_n 0, 1) := by decide +kernel
theorem dX8_looksAnew_49 : decode cX8_looksAnew 49 = .ok (.getfield 74, 3) := by decide +kernel
theorem dX8_looksAnew_52 : decode cX8_looksAnew 52 = .ok (.iload_n 1, 1) := by decide +kernel
theorem dX8_looksAnew_53 : decode cX8_looksAnew 53 = .ok (.iaload, 1) := by decide +kernel
theorem dX8_looksAnew_54 : decode cX8_looksAnew 54 = .ok (.aload_n 0, 1) := by decide +kernel
theorem dX8_looksAnew_55 : decode cX8_looksAnew 55 = .ok (.getfield 77, 3) := by decide +kernel
theorem dX8_looksAnew_58 : decode cX8_looksAnew 58 = .ok (.iload_n 1, 1) := by decide +kernel
theorem dX8_looksAnew_59 : decode cX8_looksAnew 59 = .ok (.iaload, 1) := by decide +kernel
theorem dX8_looksAnew_60 : decode cX8_looksAnew 60 = .ok (.aload_n 0, 1) := by decide +kernel
theorem dX8_looksAnew_61 : decode cX8_looksAnew 61 = .ok (.getfield 80, 3) := by decide +kernel
theorem dX8_looksAnew_64 : decode cX8_looksAnew 64 = .ok (.iload_n 1, 1) := by decide +kernel
theorem dX8_looksAnew_65 : decode cX8_looksAnew 65 = .ok (.iaload, 1) := by decide +kernel
theorem dX8_looksAnew_66 : decode cX8_looksAnew 66 = .ok (.iload_n 3, 1) := by decide +kernel
theorem dX8_looksAnew_67 : decode cX8_looksAnew 67 = .ok (.iload 4, 2) := by decide +kernel
theorem dX8_looksAnew_69 : decode cX8_looksAnew 69 = .ok (.iload 5, 2) := by decide +kernel
theorem dX8_looksAnew_71 : decode cX8_looksAnew 71 = .ok (.invokevirtual 240, 3) := by decide +kernel
theorem dX8_looksAnew_74 : decode cX8_looksAnew 74 = .ok (.iconst 1, 1) := by decide +kernel
theorem dX8_looksAnew_75 : decode cX8_looksAnew 75 = .ok (.istore 6, 2) := by decide +kernel
theorem dX8_looksAnew_77 : decode cX8_looksAnew 77 = .ok (.iload 6, 2) := by decide +kernel
theorem dX8_looksAnew_79 : decode cX8_looksAnew 79 = .ok (.aload_n 0, 1) := by decide +kernel
theorem dX8_looksAnew_80 : decode cX8_looksAnew 80 = .ok (.getfield 214, 3) := by decide +kernel
theorem dX8_looksAnew_83 : decode cX8_looksAnew 83 = .ok (.if_icmp .ge 107, 3) := by decide +kernel
theorem dX8_looksAnew_86 : decode cX8_looksAnew 86 = .ok (.aload_n 0, 1) := by decide +kernel
theorem dX8_looksAnew_87 : decode cX8_looksAnew 87 = .ok (.getfield 44, 3) := by decide +kernel
theorem dX8_looksAnew_90 : decode cX8_looksAnew 90 = .ok (.iload 6, 2) := by decide +kernel
theorem dX8_looksAnew_92 : decode cX8_looksAnew 92 = .ok (.iaload, 1) := by decide +kernel
theorem dX8_looksAnew_93 : decode cX8_looksAnew 93 = .ok (.iload_n 3, 1) := by decide +kernel
theorem dX8_looksAnew_94 : decode cX8_looksAnew 94 = .ok (.if_icmp .ne 31, 3) := by decide +kernel
theorem dX8_looksAnew_97 : decode cX8_looksAnew 97 = .ok (.aload_n 0, 1) := by decide +kernel
theorem dX8_looksAnew_98 : decode cX8_looksAnew 98 = .ok (.getfield 47, 3) := by decide +kernel
theorem dX8_looksAnew_101 : decode cX8_looksAnew 101 = .ok (.iload 6, 2) := by decide +kernel
theorem dX8_looksAnew_103 : decode cX8_looksAnew 103 = .ok (.iaload, 1) := by decide +kernel
theorem dX8_looksAnew_104 : decode cX8_looksAnew 104 = .ok (.iload 4, 2) := by decide +kernel
theorem dX8_looksAnew_106 : decode cX8_looksAnew 106 = .ok (.if_icmp .ne 19, 3) := by decide +kernel
theorem dX8_looksAnew_109 : decode cX8_looksAnew 109 = .ok (.aload_n 0, 1) := by decide +kernel
theorem dX8_looksAnew_110 : decode cX8_looksAnew 110 = .ok (.getfield 50, 3) := by decide +kernel
theorem dX8_looksAnew_113 : decode cX8_looksAnew 113 = .ok (.iload 6, 2) := by decide +kernel
theorem dX8_looksAnew_115 : decode cX8_looksAnew 115 = .ok (.iaload, 1) := by decide +kernel
theorem dX8_looksAnew_116 : decode cX8_looksAnew 116 = .ok (.iload 5, 2) := by decide +kernel
theorem dX8_looksAnew_118 : decode cX8_looksAnew 118 = .ok (.if_icmp .ne 7, 3) := by decide +kernel
theorem dX8_looksAnew_121 : decode cX8_looksAnew 121 = .ok (.iconst 1, 1) := by decide +kernel
theorem dX8_looksAnew_122 : decode cX8_looksAnew 122 = .ok (.goto 4, 3) := by decide +kernel
theorem dX8_looksAnew_125 : decode cX8_looksAnew 125 = .ok (.iconst 0, 1) := by decide +kernel
theorem dX8_looksAnew_126 : decode cX8_looksAnew 126 = .ok (.istore 7, 2) := by decide +kernel
theorem dX8_looksAnew_128 : decode cX8_looksAnew 128 = .ok (.aload_n 0, 1) := by decide +kernel
theorem dX8_looksAnew_129 : decode cX8_looksAnew 129 = .ok (.getfield 41, 3) := by decide +kernel
theorem dX8_looksAnew_132 : decode cX8_looksAnew 132 = .ok (.iload 6, 2) := by decide +kernel
theorem dX8_looksAnew_134 : decode cX8_looksAnew 134 = .ok (.aload_n 0, 1) := by decide +kernel
theorem dX8_looksAnew_135 : decode cX8_looksAnew 135 = .ok (.getfield 41, 3) := by decide +kernel
theorem dX8_looksAnew_138 : decode cX8_looksAnew 138 = .ok (.iload 6, 2) := by decide +kernel
theorem dX8_looksAnew_140 : decode cX8_looksAnew 140 = .ok (.baload, 1) := by decide +kernel
theorem dX8_looksAnew_141 : decode cX8_looksAnew 141 = .ok (.ifCond .eq 41, 3) := by decide +kernel
theorem dX8_looksAnew_144 : decode cX8_looksAnew 144 = .ok (.iload 7, 2) := by decide +kernel
theorem dX8_looksAnew_146 : decode cX8_looksAnew 146 = .ok (.ifCond .ne 32, 3) := by decide +kernel
theorem dX8_looksAnew_149 : decode cX8_looksAnew 149 = .ok (.aload_n 0, 1) := by decide +kernel
theorem dX8_looksAnew_150 : decode cX8_looksAnew 150 = .ok (.iload_n 1, 1) := by decide +kernel
theorem dX8_looksAnew_151 : decode cX8_looksAnew 151 = .ok (.aload_n 0, 1) := by decide +kernel
theorem dX8_looksAnew_152 : decode cX8_looksAnew 152 = .ok (.getfield 44, 3) := by decide +kernel
theorem dX8_looksAnew_155 : decode cX8_looksAnew 155 = .ok (.iload 6, 2) := by decide +kernel
theorem dX8_looksAnew_157 : decode cX8_looksAnew 157 = .ok (.iaload, 1) := by decide +kernel
theorem dX8_looksAnew_158 : decode cX8_looksAnew 158 = .ok (.aload_n 0, 1) := by decide +kernel
theorem dX8_looksAnew_159 : decode cX8_looksAnew 159 = .ok (.getfield 47, 3) := by decide +kernel
theorem dX8_looksAnew_162 : decode cX8_looksAnew 162 = .ok (.iload 6, 2) := by decide +kernel
theorem dX8_looksAnew_164 : decode cX8_looksAnew 164 = .ok (.iaload, 1) := by decide +kernel
theorem dX8_looksAnew_165 : decode cX8_looksAnew 165 = .ok (.aload_n 0, 1) := by decide +kernel
theorem dX8_looksAnew_166 : decode cX8_looksAnew 166 = .ok (.getfield 50, 3) := by decide +kernel
theorem dX8_looksAnew_169 : decode cX8_looksAnew 169 = .ok (.iload 6, 2) := by decide +kernel
theorem dX8_looksAnew_171 : decode cX8_looksAnew 171 = .ok (.iaload, 1) := by decide +kernel
theorem dX8_looksAnew_172 : decode cX8_looksAnew 172 = .ok (.invokevirtual 253, 3) := by decide +kernel
theorem dX8_looksAnew_175 : decode cX8_looksAnew 175 = .ok (.ifCond .ne 7, 3) := by decide +kernel
theorem dX8_looksAnew_178 : decode cX8_looksAnew 178 = .ok (.iconst 1, 1) := by decide +kernel
theorem dX8_looksAnew_179 : decode cX8_looksAnew 179 = .ok (.goto 4, 3) := by decide +kernel
theorem dX8_looksAnew_182 : decode cX8_looksAnew 182 = .ok (.iconst 0, 1) := by decide +kernel
theorem dX8_looksAnew_183 : decode cX8_looksAnew 183 = .ok (.bastore, 1) := by decide +kernel
theorem dX8_looksAnew_184 : decode cX8_looksAnew 184 = .ok (.iinc 6 1, 3) := by decide +kernel
theorem dX8_looksAnew_187 : decode cX8_looksAnew 187 = .ok (.goto (-110), 3) := by decide +kernel
theorem dX8_looksAnew_190 : decode cX8_looksAnew 190 = .ok (.aload_n 0, 1) := by decide +kernel
theorem dX8_looksAnew_191 : decode cX8_looksAnew 191 = .ok (.invokevirtual 244, 3) := by decide +kernel
theorem dX8_looksAnew_194 : decode cX8_looksAnew 194 = .ok (.aload_n 0, 1) := by decide +kernel
theorem dX8_looksAnew_195 : decode cX8_looksAnew 195 = .ok (.getfield 53, 3) := by decide +kernel
theorem dX8_looksAnew_198 : decode cX8_looksAnew 198 = .ok (.iconst 1, 1) := by decide +kernel
theorem dX8_looksAnew_199 : decode cX8_looksAnew 199 = .ok (.iaload, 1) := by decide +kernel
theorem dX8_looksAnew_200 : decode cX8_looksAnew 200 = .ok (.iconst (-1), 1) := by decide +kernel
theorem dX8_looksAnew_201 : decode cX8_looksAnew 201 = .ok (.if_icmp .ne 20, 3) := by decide +kernel
theorem dX8_looksAnew_204 : decode cX8_looksAnew 204 = .ok (.aload_n 0, 1) := by decide +kernel
theorem dX8_looksAnew_205 : decode cX8_looksAnew 205 = .ok (.getfield 83, 3) := by decide +kernel
theorem dX8_looksAnew_208 : decode cX8_looksAnew 208 = .ok (.iload_n 1, 1) := by decide +kernel
theorem dX8_looksAnew_209 : decode cX8_looksAnew 209 = .ok (.iconst 0, 1) := by decide +kernel
theorem dX8_looksAnew_210 : decode cX8_looksAnew 210 = .ok (.iastore, 1) := by decide +kernel
theorem dX8_looksAnew_211 : decode cX8_looksAnew 211 = .ok (.aload_n 0, 1) := by decide +kernel
theorem dX8_looksAnew_212 : decode cX8_looksAnew 212 = .ok (.getfield 98, 3) := by decide +kernel
theorem dX8_looksAnew_215 : decode cX8_looksAnew 215 = .ok (.iload_n 1, 1) := by decide +kernel
theorem dX8_looksAnew_216 : decode cX8_looksAnew 216 = .ok (.iconst 1, 1) := by decide +kernel
theorem dX8_looksAnew_217 : decode cX8_looksAnew 217 = .ok (.bastore, 1) := by decide +kernel
theorem dX8_looksAnew_218 : decode cX8_looksAnew 218 = .ok (.goto 8, 3) := by decide +kernel
theorem dX8_looksAnew_221 : decode cX8_looksAnew 221 = .ok (.aload_n 0, 1) := by decide +kernel
theorem dX8_looksAnew_222 : decode cX8_looksAnew 222 = .ok (.iload_n 1, 1) := by decide +kernel
theorem dX8_looksAnew_223 : decode cX8_looksAnew 223 = .ok (.invokevirtual 259, 3) := by decide +kernel
theorem dX8_looksAnew_226 : decode cX8_looksAnew 226 = .ok (.return_, 1) := by decide +kernel
theorem dX8_may_0 : decode cX8_may 0 = .ok (.iload_n 1, 1) := by decide +kernel
theorem dX8_may_1 : decode cX8_may 1 = .ok (.iload_n 2, 1) := by decide +kernel
theorem dX8_may_2 : decode cX8_may 2 = .ok (.iload_n 3, 1) := by decide +kernel
theorem dX8_may_3 : decode cX8_may 3 = .ok (.invokestatic 114, 3) := by decide +kernel
theorem dX8_may_6 : decode cX8_may 6 = .ok (.ifCond .ne 8, 3) := by decide +kernel
theorem dX8_may_9 : decode cX8_may 9 = .ok (.bipush (-2), 2) := by decide +kernel
theorem dX8_may_11 : decode cX8_may 11 = .ok (.goto 18, 3) := by decide +kernel
theorem dX8_may_14 : decode cX8_may 14 = .ok (.aload_n 0, 1) := by decide +kernel
theorem dX8_may_15 : decode cX8_may 15 = .ok (.iload_n 1, 1) := by decide +kernel
theorem dX8_may_16 : decode cX8_may 16 = .ok (.iload_n 2, 1) := by decide +kernel
theorem dX8_may_17 : decode cX8_may 17 = .ok (.iload_n 3, 1) := by decide +kernel
theorem dX8_may_18 : decode cX8_may 18 = .ok (.invokevirtual 152, 3) := by decide +kernel
theorem dX8_may_21 : decode cX8_may 21 = .ok (.ifCond .eq 7, 3) := by decide +kernel
theorem dX8_may_24 : decode cX8_may 24 = .ok (.iconst 1, 1) := by decide +kernel
theorem dX8_may_25 : decode cX8_may 25 = .ok (.goto 4, 3) := by decide +kernel
theorem dX8_may_28 : decode cX8_may 28 = .ok (.iconst 0, 1) := by decide +kernel
theorem dX8_may_29 : decode cX8_may 29 = .ok (.ireturn, 1) := by decide +kernel
theorem dX8_meets_0 : decode cX8_meets 0 = .ok (.aload_n 0, 1) := by decide +kernel
theorem dX8_meets_1 : decode cX8_meets 1 = .ok (.iconst 0, 1) := by decide +kernel
theorem dX8_meets_2 : decode cX8_meets 2 = .ok (.putfield 174, 3) := by decide +kernel
theorem dX8_meets_5 : decode cX8_meets 5 = .ok (.aload_n 0, 1) := by decide +kernel
theorem dX8_meets_6 : decode cX8_meets 6 = .ok (.aload_n 0, 1) := by decide +kernel
theorem dX8_meets_7 : decode cX8_meets 7 = .ok (.getfield 171, 3) := by decide +kernel
theorem dX8_meets_10 : decode cX8_meets 10 = .ok (.putfield 177, 3) := by decide +kernel
theorem dX8_meets_13 : decode cX8_meets 13 = .ok (.aload_n 0, 1) := by decide +kernel
theorem dX8_meets_14 : decode cX8_meets 14 = .ok (.aload_n 0, 1) := by decide +kernel
theorem dX8_meets_15 : decode cX8_meets 15 = .ok (.getfield 155, 3) := by decide +kernel
theorem dX8_meets_18 : decode cX8_meets 18 = .ok (.aload_n 0, 1) := by decide +kernel
theorem dX8_meets_19 : decode cX8_meets 19 = .ok (.getfield 161, 3) := by decide +kernel
theorem dX8_meets_22 : decode cX8_meets 22 = .ok (.aload_n 1, 1) := by decide +kernel
theorem dX8_meets_23 : decode cX8_meets 23 = .ok (.iconst 5, 1) := by decide +kernel
theorem dX8_meets_24 : decode cX8_meets 24 = .ok (.iload_n 2, 1) := by decide +kernel
theorem dX8_meets_25 : decode cX8_meets 25 = .ok (.imul, 1) := by decide +kernel
theorem dX8_meets_26 : decode cX8_meets 26 = .ok (.iconst 1, 1) := by decide +kernel
theorem dX8_meets_27 : decode cX8_meets 27 = .ok (.iadd, 1) := by decide +kernel
theorem dX8_meets_28 : decode cX8_meets 28 = .ok (.iaload, 1) := by decide +kernel
theorem dX8_meets_29 : decode cX8_meets 29 = .ok (.aload_n 1, 1) := by decide +kernel
theorem dX8_meets_30 : decode cX8_meets 30 = .ok (.iconst 5, 1) := by decide +kernel
theorem dX8_meets_31 : decode cX8_meets 31 = .ok (.iload_n 2, 1) := by decide +kernel
theorem dX8_meets_32 : decode cX8_meets 32 = .ok (.imul, 1) := by decide +kernel
theorem dX8_meets_33 : decode cX8_meets 33 = .ok (.iconst 3, 1) := by decide +kernel
theorem dX8_meets_34 : decode cX8_meets 34 = .ok (.iadd, 1) := by decide +kernel
theorem dX8_meets_35 : decode cX8_meets 35 = .ok (.iaload, 1) := by decide +kernel
theorem dX8_meets_36 : decode cX8_meets 36 = .ok (.invokevirtual 180, 3) := by decide +kernel
theorem dX8_meets_39 : decode cX8_meets 39 = .ok (.ifCond .eq 47, 3) := by decide +kernel
theorem dX8_meets_42 : decode cX8_meets 42 = .ok (.aload_n 0, 1) := by decide +kernel
theorem dX8_meets_43 : decode cX8_meets 43 = .ok (.aload_n 0, 1) := by decide +kernel
theorem dX8_meets_44 : decode cX8_meets 44 = .ok (.getfield 158, 3) := by decide +kernel
theorem dX8_meets_47 : decode cX8_meets 47 = .ok (.aload_n 0, 1) := by decide +kernel
theorem dX8_meets_48 : decode cX8_meets 48 = .ok (.getfield 164, 3) := by decide +kernel
theorem dX8_meets_51 : decode cX8_meets 51 = .ok (.aload_n 1, 1) := by decide +kernel
theorem dX8_meets_52 : decode cX8_meets 52 = .ok (.iconst 5, 1) := by decide +kernel
theorem dX8_meets_53 : decode cX8_meets 53 = .ok (.iload_n 2, 1) := by decide +kernel
theorem dX8_meets_54 : decode cX8_meets 54 = .ok (.imul, 1) := by decide +kernel
theorem dX8_meets_55 : decode cX8_meets 55 = .ok (.iconst 2, 1) := by decide +kernel
theorem dX8_meets_56 : decode cX8_meets 56 = .ok (.iadd, 1) := by decide +kernel
theorem dX8_meets_57 : decode cX8_meets 57 = .ok (.iaload, 1) := by decide +kernel
theorem dX8_meets_58 : decode cX8_meets 58 = .ok (.aload_n 1, 1) := by decide +kernel
theorem dX8_meets_59 : decode cX8_meets 59 = .ok (.iconst 5, 1) := by decide +kernel
theorem dX8_meets_60 : decode cX8_meets 60 = .ok (.iload_n 2, 1) := by decide +kernel
theorem dX8_meets_61 : decode cX8_meets 61 = .ok (.imul, 1) := by decide +kernel
theorem dX8_meets_62 : decode cX8_meets 62 = .ok (.iconst 4, 1) := by decide +kernel
theorem dX8_meets_63 : decode cX8_meets 63 = .ok (.iadd, 1) := by decide +kernel
theorem dX8_meets_64 : decode cX8_meets 64 = .ok (.iaload, 1) := by decide +kernel
theorem dX8_meets_65 : decode cX8_meets 65 = .ok (.invokevirtual 180, 3) := by decide +kernel
theorem dX8_meets_68 : decode cX8_meets 68 = .ok (.ifCond .eq 18, 3) := by decide +kernel
theorem dX8_meets_71 : decode cX8_meets 71 = .ok (.aload_n 0, 1) := by decide +kernel
theorem dX8_meets_72 : decode cX8_meets 72 = .ok (.getfield 174, 3) := by decide +kernel
theorem dX8_meets_75 : decode cX8_meets 75 = .ok (.aload_n 0, 1) := by decide +kernel
theorem dX8_meets_76 : decode cX8_meets 76 = .ok (.getfield 177, 3) := by decide +kernel
theorem dX8_meets_79 : decode cX8_meets 79 = .ok (.if_icmp .gt 7, 3) := by decide +kernel
theorem dX8_meets_82 : decode cX8_meets 82 = .ok (.iconst 1, 1) := by decide +kernel
theorem dX8_meets_83 : decode cX8_meets 83 = .ok (.goto 4, 3) := by decide +kernel
theorem dX8_meets_86 : decode cX8_meets 86 = .ok (.iconst 0, 1) := by decide +kernel
theorem dX8_meets_87 : decode cX8_meets 87 = .ok (.ireturn, 1) := by decide +kernel
theorem dX8_node_0 : decode cX8_node 0 = .ok (.aload_n 0, 1) := by decide +kernel
theorem dX8_node_1 : decode cX8_node 1 = .ok (.getfield 44, 3) := by decide +kernel
theorem dX8_node_4 : decode cX8_node 4 = .ok (.aload_n 0, 1) := by decide +kernel
theorem dX8_node_5 : decode cX8_node 5 = .ok (.getfield 214, 3) := by decide +kernel
theorem dX8_node_8 : decode cX8_node 8 = .ok (.iload_n 1, 1) := by decide +kernel
theorem dX8_node_9 : decode cX8_node 9 = .ok (.iastore, 1) := by decide +kernel
theorem dX8_node_10 : decode cX8_node 10 = .ok (.aload_n 0, 1) := by decide +kernel
theorem dX8_node_11 : decode cX8_node 11 = .ok (.getfield 47, 3) := by decide +kernel
theorem dX8_node_14 : decode cX8_node 14 = .ok (.aload_n 0, 1) := by decide +kernel
theorem dX8_node_15 : decode cX8_node 15 = .ok (.getfield 214, 3) := by decide +kernel
theorem dX8_node_18 : decode cX8_node 18 = .ok (.iload_n 2, 1) := by decide +kernel
theorem dX8_node_19 : decode cX8_node 19 = .ok (.iastore, 1) := by decide +kernel
theorem dX8_node_20 : decode cX8_node 20 = .ok (.aload_n 0, 1) := by decide +kernel
theorem dX8_node_21 : decode cX8_node 21 = .ok (.getfield 50, 3) := by decide +kernel
theorem dX8_node_24 : decode cX8_node 24 = .ok (.aload_n 0, 1) := by decide +kernel
theorem dX8_node_25 : decode cX8_node 25 = .ok (.getfield 214, 3) := by decide +kernel
theorem dX8_node_28 : decode cX8_node 28 = .ok (.iload_n 3, 1) := by decide +kernel
theorem dX8_node_29 : decode cX8_node 29 = .ok (.iastore, 1) := by decide +kernel
theorem dX8_node_30 : decode cX8_node 30 = .ok (.aload_n 0, 1) := by decide +kernel
theorem dX8_node_31 : decode cX8_node 31 = .ok (.getfield 41, 3) := by decide +kernel
theorem dX8_node_34 : decode cX8_node 34 = .ok (.aload_n 0, 1) := by decide +kernel
theorem dX8_node_35 : decode cX8_node 35 = .ok (.getfield 214, 3) := by decide +kernel
theorem dX8_node_38 : decode cX8_node 38 = .ok (.aload_n 0, 1) := by decide +kernel
theorem dX8_node_39 : decode cX8_node 39 = .ok (.iload_n 1, 1) := by decide +kernel
theorem dX8_node_40 : decode cX8_node 40 = .ok (.iload_n 2, 1) := by decide +kernel
theorem dX8_node_41 : decode cX8_node 41 = .ok (.iload_n 3, 1) := by decide +kernel
theorem dX8_node_42 : decode cX8_node 42 = .ok (.invokevirtual 152, 3) := by decide +kernel
theorem dX8_node_45 : decode cX8_node 45 = .ok (.bastore, 1) := by decide +kernel
theorem dX8_node_46 : decode cX8_node 46 = .ok (.aload_n 0, 1) := by decide +kernel
theorem dX8_node_47 : decode cX8_node 47 = .ok (.dup, 1) := by decide +kernel
theorem dX8_node_48 : decode cX8_node 48 = .ok (.getfield 214, 3) := by decide +kernel
theorem dX8_node_51 : decode cX8_node 51 = .ok (.iconst 1, 1) := by decide +kernel
theorem dX8_node_52 : decode cX8_node 52 = .ok (.iadd, 1) := by decide +kernel
theorem dX8_node_53 : decode cX8_node 53 = .ok (.putfield 214, 3) := by decide +kernel
theorem dX8_node_56 : decode cX8_node 56 = .ok (.return_, 1) := by decide +kernel
theorem dX8_reach_0 : decode cX8_reach 0 = .ok (.iload_n 1, 1) := by decide +kernel
theorem dX8_reach_1 : decode cX8_reach 1 = .ok (.iload_n 2, 1) := by decide +kernel
theorem dX8_reach_2 : decode cX8_reach 2 = .ok (.iload_n 3, 1) := by decide +kernel
theorem dX8_reach_3 : decode cX8_reach 3 = .ok (.invokestatic 114, 3) := by decide +kernel
theorem dX8_reach_6 : decode cX8_reach 6 = .ok (.ifCond .ne 6, 3) := by decide +kernel
theorem dX8_reach_9 : decode cX8_reach 9 = .ok (.bipush (-2), 2) := by decide +kernel
theorem dX8_reach_11 : decode cX8_reach 11 = .ok (.ireturn, 1) := by decide +kernel
theorem dX8_reach_12 : decode cX8_reach 12 = .ok (.aload_n 0, 1) := by decide +kernel
theorem dX8_reach_13 : decode cX8_reach 13 = .ok (.iload_n 1, 1) := by decide +kernel
theorem dX8_reach_14 : decode cX8_reach 14 = .ok (.iload_n 2, 1) := by decide +kernel
theorem dX8_reach_15 : decode cX8_reach 15 = .ok (.iload_n 3, 1) := by decide +kernel
theorem dX8_reach_16 : decode cX8_reach 16 = .ok (.invokevirtual 152, 3) := by decide +kernel
theorem dX8_reach_19 : decode cX8_reach 19 = .ok (.ifCond .ne 6, 3) := by decide +kernel
theorem dX8_reach_22 : decode cX8_reach 22 = .ok (.bipush (-3), 2) := by decide +kernel
theorem dX8_reach_24 : decode cX8_reach 24 = .ok (.ireturn, 1) := by decide +kernel
theorem dX8_reach_25 : decode cX8_reach 25 = .ok (.aload_n 0, 1) := by decide +kernel
theorem dX8_reach_26 : decode cX8_reach 26 = .ok (.iload_n 1, 1) := by decide +kernel
theorem dX8_reach_27 : decode cX8_reach 27 = .ok (.iload_n 2, 1) := by decide +kernel
theorem dX8_reach_28 : decode cX8_reach 28 = .ok (.iload_n 3, 1) := by decide +kernel
theorem dX8_reach_29 : decode cX8_reach 29 = .ok (.iload_n 1, 1) := by decide +kernel
theorem dX8_reach_30 : decode cX8_reach 30 = .ok (.iload_n 2, 1) := by decide +kernel
theorem dX8_reach_31 : decode cX8_reach 31 = .ok (.iload_n 3, 1) := by decide +kernel
theorem dX8_reach_32 : decode cX8_reach 32 = .ok (.invokevirtual 240, 3) := by decide +kernel
theorem dX8_reach_35 : decode cX8_reach 35 = .ok (.aload_n 0, 1) := by decide +kernel
theorem dX8_reach_36 : decode cX8_reach 36 = .ok (.invokevirtual 244, 3) := by decide +kernel
theorem dX8_reach_39 : decode cX8_reach 39 = .ok (.iconst 0, 1) := by decide +kernel
theorem dX8_reach_40 : decode cX8_reach 40 = .ok (.istore 4, 2) := by decide +kernel
theorem dX8_reach_42 : decode cX8_reach 42 = .ok (.iconst 0, 1) := by decide +kernel
theorem dX8_reach_43 : decode cX8_reach 43 = .ok (.istore 5, 2) := by decide +kernel
theorem dX8_reach_45 : decode cX8_reach 45 = .ok (.iload 5, 2) := by decide +kernel
theorem dX8_reach_47 : decode cX8_reach 47 = .ok (.iconst 4, 1) := by decide +kernel
theorem dX8_reach_48 : decode cX8_reach 48 = .ok (.aload_n 0, 1) := by decide +kernel
theorem dX8_reach_49 : decode cX8_reach 49 = .ok (.getfield 121, 3) := by decide +kernel
theorem dX8_reach_52 : decode cX8_reach 52 = .ok (.imul, 1) := by decide +kernel
theorem dX8_reach_53 : decode cX8_reach 53 = .ok (.if_icmp .ge 43, 3) := by decide +kernel
theorem dX8_reach_56 : decode cX8_reach 56 = .ok (.iload 4, 2) := by decide +kernel
theorem dX8_reach_58 : decode cX8_reach 58 = .ok (.aload_n 0, 1) := by decide +kernel
theorem dX8_reach_59 : decode cX8_reach 59 = .ok (.getfield 41, 3) := by decide +kernel
theorem dX8_reach_62 : decode cX8_reach 62 = .ok (.iconst 2, 1) := by decide +kernel
theorem dX8_reach_63 : decode cX8_reach 63 = .ok (.iload 5, 2) := by decide +kernel
theorem dX8_reach_65 : decode cX8_reach 65 = .ok (.iadd, 1) := by decide +kernel
theorem dX8_reach_66 : decode cX8_reach 66 = .ok (.baload, 1) := by decide +kernel
theorem dX8_reach_67 : decode cX8_reach 67 = .ok (.ifCond .eq 19, 3) := by decide +kernel
theorem dX8_reach_70 : decode cX8_reach 70 = .ok (.aload_n 0, 1) := by decide +kernel
theorem dX8_reach_71 : decode cX8_reach 71 = .ok (.getfield 59, 3) := by decide +kernel
theorem dX8_reach_74 : decode cX8_reach 74 = .ok (.iconst 2, 1) := by decide +kernel
theorem dX8_reach_75 : decode cX8_reach 75 = .ok (.iload 5, 2) := by decide +kernel
theorem dX8_reach_77 : decode cX8_reach 77 = .ok (.iadd, 1) := by decide +kernel
theorem dX8_reach_78 : decode cX8_reach 78 = .ok (.baload, 1) := by decide +kernel
theorem dX8_reach_79 : decode cX8_reach 79 = .ok (.ifCond .eq 7, 3) := by decide +kernel
theorem dX8_reach_82 : decode cX8_reach 82 = .ok (.iconst 1, 1) := by decide +kernel
theorem dX8_reach_83 : decode cX8_reach 83 = .ok (.goto 4, 3) := by decide +kernel
theorem dX8_reach_86 : decode cX8_reach 86 = .ok (.iconst 0, 1) := by decide +kernel
theorem dX8_reach_87 : decode cX8_reach 87 = .ok (.iadd, 1) := by decide +kernel
theorem dX8_reach_88 : decode cX8_reach 88 = .ok (.istore 4, 2) := by decide +kernel
theorem dX8_reach_90 : decode cX8_reach 90 = .ok (.iinc 5 1, 3) := by decide +kernel
theorem dX8_reach_93 : decode cX8_reach 93 = .ok (.goto (-48), 3) := by decide +kernel
theorem dX8_reach_96 : decode cX8_reach 96 = .ok (.iload 4, 2) := by decide +kernel
theorem dX8_reach_98 : decode cX8_reach 98 = .ok (.ireturn, 1) := by decide +kernel
theorem dX8_readBack_0 : decode cX8_readBack 0 = .ok (.aload_n 0, 1) := by decide +kernel
theorem dX8_readBack_1 : decode cX8_readBack 1 = .ok (.iconst 0, 1) := by decide +kernel
theorem dX8_readBack_2 : decode cX8_readBack 2 = .ok (.putfield 237, 3) := by decide +kernel
theorem dX8_readBack_5 : decode cX8_readBack 5 = .ok (.iconst 1, 1) := by decide +kernel
theorem dX8_readBack_6 : decode cX8_readBack 6 = .ok (.istore_n 1, 1) := by decide +kernel
theorem dX8_readBack_7 : decode cX8_readBack 7 = .ok (.iload_n 1, 1) := by decide +kernel
theorem dX8_readBack_8 : decode cX8_readBack 8 = .ok (.iconst (-1), 1) := by decide +kernel
theorem dX8_readBack_9 : decode cX8_readBack 9 = .ok (.if_icmp .eq 23, 3) := by decide +kernel
theorem dX8_readBack_12 : decode cX8_readBack 12 = .ok (.aload_n 0, 1) := by decide +kernel
theorem dX8_readBack_13 : decode cX8_readBack 13 = .ok (.dup, 1) := by decide +kernel
theorem dX8_readBack_14 : decode cX8_readBack 14 = .ok (.getfield 237, 3) := by decide +kernel
theorem dX8_readBack_17 : decode cX8_readBack 17 = .ok (.iconst 1, 1) := by decide +kernel
theorem dX8_readBack_18 : decode cX8_readBack 18 = .ok (.iadd, 1) := by decide +kernel
theorem dX8_readBack_19 : decode cX8_readBack 19 = .ok (.putfield 237, 3) := by decide +kernel
theorem dX8_readBack_22 : decode cX8_readBack 22 = .ok (.aload_n 0, 1) := by decide +kernel
theorem dX8_readBack_23 : decode cX8_readBack 23 = .ok (.getfield 56, 3) := by decide +kernel
theorem dX8_readBack_26 : decode cX8_readBack 26 = .ok (.iload_n 1, 1) := by decide +kernel
theorem dX8_readBack_27 : decode cX8_readBack 27 = .ok (.iaload, 1) := by decide +kernel
theorem dX8_readBack_28 : decode cX8_readBack 28 = .ok (.istore_n 1, 1) := by decide +kernel
theorem dX8_readBack_29 : decode cX8_readBack 29 = .ok (.goto (-22), 3) := by decide +kernel
theorem dX8_readBack_32 : decode cX8_readBack 32 = .ok (.aload_n 0, 1) := by decide +kernel
theorem dX8_readBack_33 : decode cX8_readBack 33 = .ok (.getfield 237, 3) := by decide +kernel
theorem dX8_readBack_36 : decode cX8_readBack 36 = .ok (.istore_n 1, 1) := by decide +kernel
theorem dX8_readBack_37 : decode cX8_readBack 37 = .ok (.iconst 1, 1) := by decide +kernel
theorem dX8_readBack_38 : decode cX8_readBack 38 = .ok (.istore_n 2, 1) := by decide +kernel
theorem dX8_readBack_39 : decode cX8_readBack 39 = .ok (.iload_n 2, 1) := by decide +kernel
theorem dX8_readBack_40 : decode cX8_readBack 40 = .ok (.iconst (-1), 1) := by decide +kernel
theorem dX8_readBack_41 : decode cX8_readBack 41 = .ok (.if_icmp .eq 23, 3) := by decide +kernel
theorem dX8_readBack_44 : decode cX8_readBack 44 = .ok (.iinc 1 (-1), 3) := by decide +kernel
theorem dX8_readBack_47 : decode cX8_readBack 47 = .ok (.aload_n 0, 1) := by decide +kernel
theorem dX8_readBack_48 : decode cX8_readBack 48 = .ok (.getfield 62, 3) := by decide +kernel
theorem dX8_readBack_51 : decode cX8_readBack 51 = .ok (.iload_n 1, 1) := by decide +kernel
theorem dX8_readBack_52 : decode cX8_readBack 52 = .ok (.iload_n 2, 1) := by decide +kernel
theorem dX8_readBack_53 : decode cX8_readBack 53 = .ok (.iastore, 1) := by decide +kernel
theorem dX8_readBack_54 : decode cX8_readBack 54 = .ok (.aload_n 0, 1) := by decide +kernel
theorem dX8_readBack_55 : decode cX8_readBack 55 = .ok (.getfield 56, 3) := by decide +kernel
theorem dX8_readBack_58 : decode cX8_readBack 58 = .ok (.iload_n 2, 1) := by decide +kernel
theorem dX8_readBack_59 : decode cX8_readBack 59 = .ok (.iaload, 1) := by decide +kernel
theorem dX8_readBack_60 : decode cX8_readBack 60 = .ok (.istore_n 2, 1) := by decide +kernel
theorem dX8_readBack_61 : decode cX8_readBack 61 = .ok (.goto (-22), 3) := by decide +kernel
theorem dX8_readBack_64 : decode cX8_readBack 64 = .ok (.return_, 1) := by decide +kernel
theorem dX8_room_0 : decode cX8_room 0 = .ok (.iload_n 1, 1) := by decide +kernel
theorem dX8_room_1 : decode cX8_room 1 = .ok (.iload_n 2, 1) := by decide +kernel
theorem dX8_room_2 : decode cX8_room 2 = .ok (.iload_n 3, 1) := by decide +kernel
theorem dX8_room_3 : decode cX8_room 3 = .ok (.iload 4, 2) := by decide +kernel
theorem dX8_room_5 : decode cX8_room 5 = .ok (.iload 5, 2) := by decide +kernel
