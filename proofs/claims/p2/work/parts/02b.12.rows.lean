set_option maxRecDepth 20000 in
theorem ggX4_lay_X7_levelOf : GoodIn wsX4_lay wsX7_levelOf := goodIn_r _ [18] (by decide +kernel) (by decide +kernel)
set_option maxRecDepth 20000 in
theorem gX4_lay_X7_levelOf_n7 : GoodIn wsX4_lay (wsX7_levelOf) := ggX4_lay_X7_levelOf
set_option maxRecDepth 20000 in
theorem ggX4_lay_X7_xOf : GoodIn wsX4_lay wsX7_xOf := goodIn_r _ [20] (by decide +kernel) (by decide +kernel)
set_option maxRecDepth 20000 in
theorem gX4_lay_X7_xOf_n19 : GoodIn wsX4_lay (wsX7_xOf) := ggX4_lay_X7_xOf
set_option maxRecDepth 20000 in
theorem ggX4_lay_X7_yOf : GoodIn wsX4_lay wsX7_yOf := goodIn_r _ [22] (by decide +kernel) (by decide +kernel)
set_option maxRecDepth 20000 in
theorem gX4_lay_X7_yOf_n25 : GoodIn wsX4_lay (wsX7_yOf) := ggX4_lay_X7_yOf
theorem dX4_lay_0 : decode cX4_lay 0 = .ok (.aload_n 0, 1) := by decide +kernel
theorem dX4_lay_1 : decode cX4_lay 1 = .ok (.iload_n 1, 1) := by decide +kernel
theorem dX4_lay_2 : decode cX4_lay 2 = .ok (.invokestatic 7, 3) := by decide +kernel
theorem dX4_lay_5 : decode cX4_lay 5 = .ok (.putfield 13, 3) := by decide +kernel
theorem dX4_lay_8 : decode cX4_lay 8 = .ok (.aload_n 0, 1) := by decide +kernel
theorem dX4_lay_9 : decode cX4_lay 9 = .ok (.iload_n 1, 1) := by decide +kernel
theorem dX4_lay_10 : decode cX4_lay 10 = .ok (.invokestatic 19, 3) := by decide +kernel
theorem dX4_lay_13 : decode cX4_lay 13 = .ok (.putfield 22, 3) := by decide +kernel
theorem dX4_lay_16 : decode cX4_lay 16 = .ok (.aload_n 0, 1) := by decide +kernel
theorem dX4_lay_17 : decode cX4_lay 17 = .ok (.iload_n 1, 1) := by decide +kernel
theorem dX4_lay_18 : decode cX4_lay 18 = .ok (.invokestatic 25, 3) := by decide +kernel
theorem dX4_lay_21 : decode cX4_lay 21 = .ok (.putfield 28, 3) := by decide +kernel
theorem dX4_lay_24 : decode cX4_lay 24 = .ok (.aload_n 0, 1) := by decide +kernel
theorem dX4_lay_25 : decode cX4_lay 25 = .ok (.iload_n 2, 1) := by decide +kernel
theorem dX4_lay_26 : decode cX4_lay 26 = .ok (.invokestatic 19, 3) := by decide +kernel
theorem dX4_lay_29 : decode cX4_lay 29 = .ok (.aload_n 0, 1) := by decide +kernel
theorem dX4_lay_30 : decode cX4_lay 30 = .ok (.getfield 22, 3) := by decide +kernel
theorem dX4_lay_33 : decode cX4_lay 33 = .ok (.isub, 1) := by decide +kernel
theorem dX4_lay_34 : decode cX4_lay 34 = .ok (.putfield 31, 3) := by decide +kernel
theorem dX4_lay_37 : decode cX4_lay 37 = .ok (.aload_n 0, 1) := by decide +kernel
theorem dX4_lay_38 : decode cX4_lay 38 = .ok (.iload_n 2, 1) := by decide +kernel
theorem dX4_lay_39 : decode cX4_lay 39 = .ok (.invokestatic 25, 3) := by decide +kernel
theorem dX4_lay_42 : decode cX4_lay 42 = .ok (.aload_n 0, 1) := by decide +kernel
theorem dX4_lay_43 : decode cX4_lay 43 = .ok (.getfield 28, 3) := by decide +kernel
theorem dX4_lay_46 : decode cX4_lay 46 = .ok (.isub, 1) := by decide +kernel
theorem dX4_lay_47 : decode cX4_lay 47 = .ok (.putfield 34, 3) := by decide +kernel
theorem dX4_lay_50 : decode cX4_lay 50 = .ok (.iconst 1, 1) := by decide +kernel
theorem dX4_lay_51 : decode cX4_lay 51 = .ok (.aload_n 0, 1) := by decide +kernel
theorem dX4_lay_52 : decode cX4_lay 52 = .ok (.getfield 31, 3) := by decide +kernel
theorem dX4_lay_55 : decode cX4_lay 55 = .ok (.invokestatic 37, 3) := by decide +kernel
theorem dX4_lay_58 : decode cX4_lay 58 = .ok (.invokestatic 42, 3) := by decide +kernel
theorem dX4_lay_61 : decode cX4_lay 61 = .ok (.istore_n 3, 1) := by decide +kernel
theorem dX4_lay_62 : decode cX4_lay 62 = .ok (.iconst 1, 1) := by decide +kernel
theorem dX4_lay_63 : decode cX4_lay 63 = .ok (.aload_n 0, 1) := by decide +kernel
theorem dX4_lay_64 : decode cX4_lay 64 = .ok (.getfield 34, 3) := by decide +kernel
theorem dX4_lay_67 : decode cX4_lay 67 = .ok (.invokestatic 37, 3) := by decide +kernel
theorem dX4_lay_70 : decode cX4_lay 70 = .ok (.invokestatic 42, 3) := by decide +kernel
theorem dX4_lay_73 : decode cX4_lay 73 = .ok (.istore 4, 2) := by decide +kernel
theorem dX4_lay_75 : decode cX4_lay 75 = .ok (.aload_n 0, 1) := by decide +kernel
theorem dX4_lay_76 : decode cX4_lay 76 = .ok (.iload_n 3, 1) := by decide +kernel
theorem dX4_lay_77 : decode cX4_lay 77 = .ok (.iload 4, 2) := by decide +kernel
theorem dX4_lay_79 : decode cX4_lay 79 = .ok (.imul, 1) := by decide +kernel
theorem dX4_lay_80 : decode cX4_lay 80 = .ok (.putfield 46, 3) := by decide +kernel
theorem dX4_lay_83 : decode cX4_lay 83 = .ok (.aload_n 0, 1) := by decide +kernel
theorem dX4_lay_84 : decode cX4_lay 84 = .ok (.aload_n 0, 1) := by decide +kernel
theorem dX4_lay_85 : decode cX4_lay 85 = .ok (.getfield 31, 3) := by decide +kernel
theorem dX4_lay_88 : decode cX4_lay 88 = .ok (.ifCond .ge 9, 3) := by decide +kernel
theorem dX4_lay_91 : decode cX4_lay 91 = .ok (.iload 4, 2) := by decide +kernel
theorem dX4_lay_93 : decode cX4_lay 93 = .ok (.ineg, 1) := by decide +kernel
theorem dX4_lay_94 : decode cX4_lay 94 = .ok (.goto 5, 3) := by decide +kernel
theorem dX4_lay_97 : decode cX4_lay 97 = .ok (.iload 4, 2) := by decide +kernel
theorem dX4_lay_99 : decode cX4_lay 99 = .ok (.putfield 49, 3) := by decide +kernel
theorem dX4_lay_102 : decode cX4_lay 102 = .ok (.aload_n 0, 1) := by decide +kernel
theorem dX4_lay_103 : decode cX4_lay 103 = .ok (.aload_n 0, 1) := by decide +kernel
theorem dX4_lay_104 : decode cX4_lay 104 = .ok (.getfield 34, 3) := by decide +kernel
theorem dX4_lay_107 : decode cX4_lay 107 = .ok (.ifCond .ge 8, 3) := by decide +kernel
theorem dX4_lay_110 : decode cX4_lay 110 = .ok (.iload_n 3, 1) := by decide +kernel
theorem dX4_lay_111 : decode cX4_lay 111 = .ok (.ineg, 1) := by decide +kernel
theorem dX4_lay_112 : decode cX4_lay 112 = .ok (.goto 4, 3) := by decide +kernel
theorem dX4_lay_115 : decode cX4_lay 115 = .ok (.iload_n 3, 1) := by decide +kernel
theorem dX4_lay_116 : decode cX4_lay 116 = .ok (.putfield 52, 3) := by decide +kernel
theorem dX4_lay_119 : decode cX4_lay 119 = .ok (.return_, 1) := by decide +kernel
theorem dX4_meets_0 : decode cX4_meets 0 = .ok (.aload_n 0, 1) := by decide +kernel
theorem dX4_meets_1 : decode cX4_meets 1 = .ok (.getfield 13, 3) := by decide +kernel
theorem dX4_meets_4 : decode cX4_meets 4 = .ok (.aload_n 1, 1) := by decide +kernel
theorem dX4_meets_5 : decode cX4_meets 5 = .ok (.getfield 55, 3) := by decide +kernel
theorem dX4_meets_8 : decode cX4_meets 8 = .ok (.if_icmp .eq 5, 3) := by decide +kernel
theorem dX4_meets_11 : decode cX4_meets 11 = .ok (.iconst 0, 1) := by decide +kernel
theorem dX4_meets_12 : decode cX4_meets 12 = .ok (.ireturn, 1) := by decide +kernel
theorem dX4_meets_13 : decode cX4_meets 13 = .ok (.aload_n 0, 1) := by decide +kernel
theorem dX4_meets_14 : decode cX4_meets 14 = .ok (.getfield 31, 3) := by decide +kernel
theorem dX4_meets_17 : decode cX4_meets 17 = .ok (.ifCond .ne 27, 3) := by decide +kernel
theorem dX4_meets_20 : decode cX4_meets 20 = .ok (.aload_n 0, 1) := by decide +kernel
theorem dX4_meets_21 : decode cX4_meets 21 = .ok (.getfield 22, 3) := by decide +kernel
theorem dX4_meets_24 : decode cX4_meets 24 = .ok (.aload_n 1, 1) := by decide +kernel
theorem dX4_meets_25 : decode cX4_meets 25 = .ok (.getfield 58, 3) := by decide +kernel
theorem dX4_meets_28 : decode cX4_meets 28 = .ok (.if_icmp .lt 14, 3) := by decide +kernel
theorem dX4_meets_31 : decode cX4_meets 31 = .ok (.aload_n 0, 1) := by decide +kernel
theorem dX4_meets_32 : decode cX4_meets 32 = .ok (.getfield 22, 3) := by decide +kernel
theorem dX4_meets_35 : decode cX4_meets 35 = .ok (.aload_n 1, 1) := by decide +kernel
theorem dX4_meets_36 : decode cX4_meets 36 = .ok (.getfield 61, 3) := by decide +kernel
theorem dX4_meets_39 : decode cX4_meets 39 = .ok (.if_icmp .le 5, 3) := by decide +kernel
theorem dX4_meets_42 : decode cX4_meets 42 = .ok (.iconst 0, 1) := by decide +kernel
theorem dX4_meets_43 : decode cX4_meets 43 = .ok (.ireturn, 1) := by decide +kernel
theorem dX4_meets_44 : decode cX4_meets 44 = .ok (.aload_n 0, 1) := by decide +kernel
theorem dX4_meets_45 : decode cX4_meets 45 = .ok (.getfield 34, 3) := by decide +kernel
theorem dX4_meets_48 : decode cX4_meets 48 = .ok (.ifCond .ne 27, 3) := by decide +kernel
theorem dX4_meets_51 : decode cX4_meets 51 = .ok (.aload_n 0, 1) := by decide +kernel
theorem dX4_meets_52 : decode cX4_meets 52 = .ok (.getfield 28, 3) := by decide +kernel
theorem dX4_meets_55 : decode cX4_meets 55 = .ok (.aload_n 1, 1) := by decide +kernel
theorem dX4_meets_56 : decode cX4_meets 56 = .ok (.getfield 64, 3) := by decide +kernel
theorem dX4_meets_59 : decode cX4_meets 59 = .ok (.if_icmp .lt 14, 3) := by decide +kernel
theorem dX4_meets_62 : decode cX4_meets 62 = .ok (.aload_n 0, 1) := by decide +kernel
theorem dX4_meets_63 : decode cX4_meets 63 = .ok (.getfield 28, 3) := by decide +kernel
theorem dX4_meets_66 : decode cX4_meets 66 = .ok (.aload_n 1, 1) := by decide +kernel
theorem dX4_meets_67 : decode cX4_meets 67 = .ok (.getfield 67, 3) := by decide +kernel
theorem dX4_meets_70 : decode cX4_meets 70 = .ok (.if_icmp .le 5, 3) := by decide +kernel
theorem dX4_meets_73 : decode cX4_meets 73 = .ok (.iconst 0, 1) := by decide +kernel
theorem dX4_meets_74 : decode cX4_meets 74 = .ok (.ireturn, 1) := by decide +kernel
theorem dX4_meets_75 : decode cX4_meets 75 = .ok (.aload_n 0, 1) := by decide +kernel
theorem dX4_meets_76 : decode cX4_meets 76 = .ok (.iconst 0, 1) := by decide +kernel
theorem dX4_meets_77 : decode cX4_meets 77 = .ok (.putfield 70, 3) := by decide +kernel
theorem dX4_meets_80 : decode cX4_meets 80 = .ok (.aload_n 0, 1) := by decide +kernel
theorem dX4_meets_81 : decode cX4_meets 81 = .ok (.aload_n 0, 1) := by decide +kernel
theorem dX4_meets_82 : decode cX4_meets 82 = .ok (.getfield 46, 3) := by decide +kernel
theorem dX4_meets_85 : decode cX4_meets 85 = .ok (.putfield 73, 3) := by decide +kernel
theorem dX4_meets_88 : decode cX4_meets 88 = .ok (.aload_n 0, 1) := by decide +kernel
theorem dX4_meets_89 : decode cX4_meets 89 = .ok (.getfield 31, 3) := by decide +kernel
theorem dX4_meets_92 : decode cX4_meets 92 = .ok (.ifCond .eq 101, 3) := by decide +kernel
theorem dX4_meets_95 : decode cX4_meets 95 = .ok (.aload_n 0, 1) := by decide +kernel
theorem dX4_meets_96 : decode cX4_meets 96 = .ok (.getfield 31, 3) := by decide +kernel
theorem dX4_meets_99 : decode cX4_meets 99 = .ok (.ifCond .le 10, 3) := by decide +kernel
theorem dX4_meets_102 : decode cX4_meets 102 = .ok (.aload_n 1, 1) := by decide +kernel
theorem dX4_meets_103 : decode cX4_meets 103 = .ok (.getfield 58, 3) := by decide +kernel
theorem dX4_meets_106 : decode cX4_meets 106 = .ok (.goto 7, 3) := by decide +kernel
theorem dX4_meets_109 : decode cX4_meets 109 = .ok (.aload_n 1, 1) := by decide +kernel
theorem dX4_meets_110 : decode cX4_meets 110 = .ok (.getfield 61, 3) := by decide +kernel
theorem dX4_meets_113 : decode cX4_meets 113 = .ok (.aload_n 0, 1) := by decide +kernel
theorem dX4_meets_114 : decode cX4_meets 114 = .ok (.getfield 22, 3) := by decide +kernel
theorem dX4_meets_117 : decode cX4_meets 117 = .ok (.isub, 1) := by decide +kernel
theorem dX4_meets_118 : decode cX4_meets 118 = .ok (.aload_n 0, 1) := by decide +kernel
theorem dX4_meets_119 : decode cX4_meets 119 = .ok (.getfield 49, 3) := by decide +kernel
theorem dX4_meets_122 : decode cX4_meets 122 = .ok (.imul, 1) := by decide +kernel
theorem dX4_meets_123 : decode cX4_meets 123 = .ok (.istore_n 2, 1) := by decide +kernel
theorem dX4_meets_124 : decode cX4_meets 124 = .ok (.aload_n 0, 1) := by decide +kernel
theorem dX4_meets_125 : decode cX4_meets 125 = .ok (.getfield 31, 3) := by decide +kernel
theorem dX4_meets_128 : decode cX4_meets 128 = .ok (.ifCond .le 10, 3) := by decide +kernel
theorem dX4_meets_131 : decode cX4_meets 131 = .ok (.aload_n 1, 1) := by decide +kernel
theorem dX4_meets_132 : decode cX4_meets 132 = .ok (.getfield 61, 3) := by decide +kernel
theorem dX4_meets_135 : decode cX4_meets 135 = .ok (.goto 7, 3) := by decide +kernel
theorem dX4_meets_138 : decode cX4_meets 138 = .ok (.aload_n 1, 1) := by decide +kernel
theorem dX4_meets_139 : decode cX4_meets 139 = .ok (.getfield 58, 3) := by decide +kernel
theorem dX4_meets_142 : decode cX4_meets 142 = .ok (.aload_n 0, 1) := by decide +kernel
theorem dX4_meets_143 : decode cX4_meets 143 = .ok (.getfield 22, 3) := by decide +kernel
theorem dX4_meets_146 : decode cX4_meets 146 = .ok (.isub, 1) := by decide +kernel
theorem dX4_meets_147 : decode cX4_meets 147 = .ok (.aload_n 0, 1) := by decide +kernel
theorem dX4_meets_148 : decode cX4_meets 148 = .ok (.getfield 49, 3) := by decide +kernel
theorem dX4_meets_151 : decode cX4_meets 151 = .ok (.imul, 1) := by decide +kernel
theorem dX4_meets_152 : decode cX4_meets 152 = .ok (.istore_n 3, 1) := by decide +kernel
theorem dX4_meets_153 : decode cX4_meets 153 = .ok (.aload_n 0, 1) := by decide +kernel
theorem dX4_meets_154 : decode cX4_meets 154 = .ok (.iload_n 2, 1) := by decide +kernel
theorem dX4_meets_155 : decode cX4_meets 155 = .ok (.aload_n 0, 1) := by decide +kernel
theorem dX4_meets_156 : decode cX4_meets 156 = .ok (.getfield 70, 3) := by decide +kernel
theorem dX4_meets_159 : decode cX4_meets 159 = .ok (.if_icmp .le 7, 3) := by decide +kernel
theorem dX4_meets_162 : decode cX4_meets 162 = .ok (.iload_n 2, 1) := by decide +kernel
theorem dX4_meets_163 : decode cX4_meets 163 = .ok (.goto 7, 3) := by decide +kernel
theorem dX4_meets_166 : decode cX4_meets 166 = .ok (.aload_n 0, 1) := by decide +kernel
theorem dX4_meets_167 : decode cX4_meets 167 = .ok (.getfield 70, 3) := by decide +kernel
theorem dX4_meets_170 : decode cX4_meets 170 = .ok (.putfield 70, 3) := by decide +kernel
theorem dX4_meets_173 : decode cX4_meets 173 = .ok (.aload_n 0, 1) := by decide +kernel
theorem dX4_meets_174 : decode cX4_meets 174 = .ok (.iload_n 3, 1) := by decide +kernel
theorem dX4_meets_175 : decode cX4_meets 175 = .ok (.aload_n 0, 1) := by decide +kernel
theorem dX4_meets_176 : decode cX4_meets 176 = .ok (.getfield 73, 3) := by decide +kernel
theorem dX4_meets_179 : decode cX4_meets 179 = .ok (.if_icmp .ge 7, 3) := by decide +kernel
theorem dX4_meets_182 : decode cX4_meets 182 = .ok (.iload_n 3, 1) := by decide +kernel
theorem dX4_meets_183 : decode cX4_meets 183 = .ok (.goto 7, 3) := by decide +kernel
theorem dX4_meets_186 : decode cX4_meets 186 = .ok (.aload_n 0, 1) := by decide +kernel
theorem dX4_meets_187 : decode cX4_meets 187 = .ok (.getfield 73, 3) := by decide +kernel
theorem dX4_meets_190 : decode cX4_meets 190 = .ok (.putfield 73, 3) := by decide +kernel
theorem dX4_meets_193 : decode cX4_meets 193 = .ok (.aload_n 0, 1) := by decide +kernel
theorem dX4_meets_194 : decode cX4_meets 194 = .ok (.getfield 34, 3) := by decide +kernel
theorem dX4_meets_197 : decode cX4_meets 197 = .ok (.ifCond .eq 101, 3) := by decide +kernel
theorem dX4_meets_200 : decode cX4_meets 200 = .ok (.aload_n 0, 1) := by decide +kernel
theorem dX4_meets_201 : decode cX4_meets 201 = .ok (.getfield 34, 3) := by decide +kernel
theorem dX4_meets_204 : decode cX4_meets 204 = .ok (.ifCond .le 10, 3) := by decide +kernel
theorem dX4_meets_207 : decode cX4_meets 207 = .ok (.aload_n 1, 1) := by decide +kernel
theorem dX4_meets_208 : decode cX4_meets 208 = .ok (.getfield 64, 3) := by decide +kernel
theorem dX4_meets_211 : decode cX4_meets 211 = .ok (.goto 7, 3) := by decide +kernel
theorem dX4_meets_214 : decode cX4_meets 214 = .ok (.aload_n 1, 1) := by decide +kernel
theorem dX4_meets_215 : decode cX4_meets 215 = .ok (.getfield 67, 3) := by decide +kernel
theorem dX4_meets_218 : decode cX4_meets 218 = .ok (.aload_n 0, 1) := by decide +kernel
theorem dX4_meets_219 : decode cX4_meets 219 = .ok (.getfield 28, 3) := by decide +kernel
theorem dX4_meets_222 : decode cX4_meets 222 = .ok (.isub, 1) := by decide +kernel
theorem dX4_meets_223 : decode cX4_meets 223 = .ok (.aload_n 0, 1) := by decide +kernel
theorem dX4_meets_224 : decode cX4_meets 224 = .ok (.getfield 52, 3) := by decide +kernel
theorem dX4_meets_227 : decode cX4_meets 227 = .ok (.imul, 1) := by decide +kernel
theorem dX4_meets_228 : decode cX4_meets 228 = .ok (.istore_n 2, 1) := by decide +kernel
theorem dX4_meets_229 : decode cX4_meets 229 = .ok (.aload_n 0, 1) := by decide +kernel
theorem dX4_meets_230 : decode cX4_meets 230 = .ok (.getfield 34, 3) := by decide +kernel
theorem dX4_meets_233 : decode cX4_meets 233 = .ok (.ifCond .le 10, 3) := by decide +kernel
theorem dX4_meets_236 : decode cX4_meets 236 = .ok (.aload_n 1, 1) := by decide +kernel
theorem dX4_meets_237 : decode cX4_meets 237 = .ok (.getfield 67, 3) := by decide +kernel
theorem dX4_meets_240 : decode cX4_meets 240 = .ok (.goto 7, 3) := by decide +kernel
theorem dX4_meets_243 : decode cX4_meets 243 = .ok (.aload_n 1, 1) := by decide +kernel
theorem dX4_meets_244 : decode cX4_meets 244 = .ok (.getfield 64, 3) := by decide +kernel
theorem dX4_meets_247 : decode cX4_meets 247 = .ok (.aload_n 0, 1) := by decide +kernel
theorem dX4_meets_248 : decode cX4_meets 248 = .ok (.getfield 28, 3) := by decide +kernel
theorem dX4_meets_251 : decode cX4_meets 251 = .ok (.isub, 1) := by decide +kernel
theorem dX4_meets_252 : decode cX4_meets 252 = .ok (.aload_n 0, 1) := by decide +kernel
theorem dX4_meets_253 : decode cX4_meets 253 = .ok (.getfield 52, 3) := by decide +kernel
theorem dX4_meets_256 : decode cX4_meets 256 = .ok (.imul, 1) := by decide +kernel
theorem dX4_meets_257 : decode cX4_meets 257 = .ok (.istore_n 3, 1) := by decide +kernel
theorem dX4_meets_258 : decode cX4_meets 258 = .ok (.aload_n 0, 1) := by decide +kernel
theorem dX4_meets_259 : decode cX4_meets 259 = .ok (.iload_n 2, 1) := by decide +kernel
theorem dX4_meets_260 : decode cX4_meets 260 = .ok (.aload_n 0, 1) := by decide +kernel
theorem dX4_meets_261 : decode cX4_meets 261 = .ok (.getfield 70, 3) := by decide +kernel
theorem dX4_meets_264 : decode cX4_meets 264 = .ok (.if_icmp .le 7, 3) := by decide +kernel
theorem dX4_meets_267 : decode cX4_meets 267 = .ok (.iload_n 2, 1) := by decide +kernel
theorem dX4_meets_268 : decode cX4_meets 268 = .ok (.goto 7, 3) := by decide +kernel
theorem dX4_meets_271 : decode cX4_meets 271 = .ok (.aload_n 0, 1) := by decide +kernel
theorem dX4_meets_272 : decode cX4_meets 272 = .ok (.getfield 70, 3) := by decide +kernel
theorem dX4_meets_275 : decode cX4_meets 275 = .ok (.putfield 70, 3) := by decide +kernel
theorem dX4_meets_278 : decode cX4_meets 278 = .ok (.aload_n 0, 1) := by decide +kernel
theorem dX4_meets_279 : decode cX4_meets 279 = .ok (.iload_n 3, 1) := by decide +kernel
theorem dX4_meets_280 : decode cX4_meets 280 = .ok (.aload_n 0, 1) := by decide +kernel
theorem dX4_meets_281 : decode cX4_meets 281 = .ok (.getfield 73, 3) := by decide +kernel
theorem dX4_meets_284 : decode cX4_meets 284 = .ok (.if_icmp .ge 7, 3) := by decide +kernel
theorem dX4_meets_287 : decode cX4_meets 287 = .ok (.iload_n 3, 1) := by decide +kernel
theorem dX4_meets_288 : decode cX4_meets 288 = .ok (.goto 7, 3) := by decide +kernel
theorem dX4_meets_291 : decode cX4_meets 291 = .ok (.aload_n 0, 1) := by decide +kernel
theorem dX4_meets_292 : decode cX4_meets 292 = .ok (.getfield 73, 3) := by decide +kernel
theorem dX4_meets_295 : decode cX4_meets 295 = .ok (.putfield 73, 3) := by decide +kernel
theorem dX4_meets_298 : decode cX4_meets 298 = .ok (.aload_n 0, 1) := by decide +kernel
theorem dX4_meets_299 : decode cX4_meets 299 = .ok (.getfield 70, 3) := by decide +kernel
theorem dX4_meets_302 : decode cX4_meets 302 = .ok (.aload_n 0, 1) := by decide +kernel
theorem dX4_meets_303 : decode cX4_meets 303 = .ok (.getfield 73, 3) := by decide +kernel
theorem dX4_meets_306 : decode cX4_meets 306 = .ok (.if_icmp .gt 7, 3) := by decide +kernel
theorem dX4_meets_309 : decode cX4_meets 309 = .ok (.iconst 1, 1) := by decide +kernel
theorem dX4_meets_310 : decode cX4_meets 310 = .ok (.goto 4, 3) := by decide +kernel
theorem dX4_meets_313 : decode cX4_meets 313 = .ok (.iconst 0, 1) := by decide +kernel
theorem dX4_meets_314 : decode cX4_meets 314 = .ok (.ireturn, 1) := by decide +kernel
theorem dX4_runsInside_0 : decode cX4_runsInside 0 = .ok (.aload_n 0, 1) := by decide +kernel
theorem dX4_runsInside_1 : decode cX4_runsInside 1 = .ok (.getfield 31, 3) := by decide +kernel
theorem dX4_runsInside_4 : decode cX4_runsInside 4 = .ok (.ifCond .ne 25, 3) := by decide +kernel
theorem dX4_runsInside_7 : decode cX4_runsInside 7 = .ok (.aload_n 1, 1) := by decide +kernel
theorem dX4_runsInside_8 : decode cX4_runsInside 8 = .ok (.getfield 58, 3) := by decide +kernel
theorem dX4_runsInside_11 : decode cX4_runsInside 11 = .ok (.aload_n 0, 1) := by decide +kernel
theorem dX4_runsInside_12 : decode cX4_runsInside 12 = .ok (.getfield 22, 3) := by decide +kernel
theorem dX4_runsInside_15 : decode cX4_runsInside 15 = .ok (.if_icmp .ge 18, 3) := by decide +kernel
theorem dX4_runsInside_18 : decode cX4_runsInside 18 = .ok (.aload_n 0, 1) := by decide +kernel
theorem dX4_runsInside_19 : decode cX4_runsInside 19 = .ok (.getfield 22, 3) := by decide +kernel
theorem dX4_runsInside_22 : decode cX4_runsInside 22 = .ok (.aload_n 1, 1) := by decide +kernel
theorem dX4_runsInside_23 : decode cX4_runsInside 23 = .ok (.getfield 61, 3) := by decide +kernel
theorem dX4_runsInside_26 : decode cX4_runsInside 26 = .ok (.if_icmp .ge 7, 3) := by decide +kernel
theorem dX4_runsInside_29 : decode cX4_runsInside 29 = .ok (.iconst 1, 1) := by decide +kernel
theorem dX4_runsInside_30 : decode cX4_runsInside 30 = .ok (.goto 4, 3) := by decide +kernel
theorem dX4_runsInside_33 : decode cX4_runsInside 33 = .ok (.iconst 0, 1) := by decide +kernel
theorem dX4_runsInside_34 : decode cX4_runsInside 34 = .ok (.istore_n 2, 1) := by decide +kernel
theorem dX4_runsInside_35 : decode cX4_runsInside 35 = .ok (.aload_n 0, 1) := by decide +kernel
theorem dX4_runsInside_36 : decode cX4_runsInside 36 = .ok (.getfield 34, 3) := by decide +kernel
theorem dX4_runsInside_39 : decode cX4_runsInside 39 = .ok (.ifCond .ne 25, 3) := by decide +kernel
theorem dX4_runsInside_42 : decode cX4_runsInside 42 = .ok (.aload_n 1, 1) := by decide +kernel
theorem dX4_runsInside_43 : decode cX4_runsInside 43 = .ok (.getfield 64, 3) := by decide +kernel
theorem dX4_runsInside_46 : decode cX4_runsInside 46 = .ok (.aload_n 0, 1) := by decide +kernel
theorem dX4_runsInside_47 : decode cX4_runsInside 47 = .ok (.getfield 28, 3) := by decide +kernel
theorem dX4_runsInside_50 : decode cX4_runsInside 50 = .ok (.if_icmp .ge 18, 3) := by decide +kernel
theorem dX4_runsInside_53 : decode cX4_runsInside 53 = .ok (.aload_n 0, 1) := by decide +kernel
theorem dX4_runsInside_54 : decode cX4_runsInside 54 = .ok (.getfield 28, 3) := by decide +kernel
theorem dX4_runsInside_57 : decode cX4_runsInside 57 = .ok (.aload_n 1, 1) := by decide +kernel
theorem dX4_runsInside_58 : decode cX4_runsInside 58 = .ok (.getfield 67, 3) := by decide +kernel
theorem dX4_runsInside_61 : decode cX4_runsInside 61 = .ok (.if_icmp .ge 7, 3) := by decide +kernel
theorem dX4_runsInside_64 : decode cX4_runsInside 64 = .ok (.iconst 1, 1) := by decide +kernel
theorem dX4_runsInside_65 : decode cX4_runsInside 65 = .ok (.goto 4, 3) := by decide +kernel
theorem dX4_runsInside_68 : decode cX4_runsInside 68 = .ok (.iconst 0, 1) := by decide +kernel
theorem dX4_runsInside_69 : decode cX4_runsInside 69 = .ok (.istore_n 3, 1) := by decide +kernel
theorem dX4_runsInside_70 : decode cX4_runsInside 70 = .ok (.aload_n 0, 1) := by decide +kernel
theorem dX4_runsInside_71 : decode cX4_runsInside 71 = .ok (.getfield 70, 3) := by decide +kernel
theorem dX4_runsInside_74 : decode cX4_runsInside 74 = .ok (.aload_n 0, 1) := by decide +kernel
theorem dX4_runsInside_75 : decode cX4_runsInside 75 = .ok (.getfield 73, 3) := by decide +kernel
theorem dX4_runsInside_78 : decode cX4_runsInside 78 = .ok (.if_icmp .ge 15, 3) := by decide +kernel
theorem dX4_runsInside_81 : decode cX4_runsInside 81 = .ok (.iload_n 2, 1) := by decide +kernel
theorem dX4_runsInside_82 : decode cX4_runsInside 82 = .ok (.ifCond .eq 11, 3) := by decide +kernel
theorem dX4_runsInside_85 : decode cX4_runsInside 85 = .ok (.iload_n 3, 1) := by decide +kernel
theorem dX4_runsInside_86 : decode cX4_runsInside 86 = .ok (.ifCond .eq 7, 3) := by decide +kernel
theorem dX4_runsInside_89 : decode cX4_runsInside 89 = .ok (.iconst 1, 1) := by decide +kernel
theorem dX4_runsInside_90 : decode cX4_runsInside 90 = .ok (.goto 4, 3) := by decide +kernel
theorem dX4_runsInside_93 : decode cX4_runsInside 93 = .ok (.iconst 0, 1) := by decide +kernel
theorem dX4_runsInside_94 : decode cX4_runsInside 94 = .ok (.ireturn, 1) := by decide +kernel
theorem dX4_goesAgainst_0 : decode cX4_goesAgainst 0 = .ok (.aload_n 1, 1) := by decide +kernel
theorem dX4_goesAgainst_1 : decode cX4_goesAgainst 1 = .ok (.getfield 58, 3) := by decide +kernel
theorem dX4_goesAgainst_4 : decode cX4_goesAgainst 4 = .ok (.aload_n 1, 1) := by decide +kernel
theorem dX4_goesAgainst_5 : decode cX4_goesAgainst 5 = .ok (.getfield 61, 3) := by decide +kernel
theorem dX4_goesAgainst_8 : decode cX4_goesAgainst 8 = .ok (.if_icmp .ne 7, 3) := by decide +kernel
theorem dX4_goesAgainst_11 : decode cX4_goesAgainst 11 = .ok (.iconst 1, 1) := by decide +kernel
theorem dX4_goesAgainst_12 : decode cX4_goesAgainst 12 = .ok (.goto 4, 3) := by decide +kernel
theorem dX4_goesAgainst_15 : decode cX4_goesAgainst 15 = .ok (.iconst 0, 1) := by decide +kernel
theorem dX4_goesAgainst_16 : decode cX4_goesAgainst 16 = .ok (.istore_n 2, 1) := by decide +kernel
theorem dX4_goesAgainst_17 : decode cX4_goesAgainst 17 = .ok (.iload_n 2, 1) := by decide +kernel
theorem dX4_goesAgainst_18 : decode cX4_goesAgainst 18 = .ok (.ifCond .eq 10, 3) := by decide +kernel
theorem dX4_goesAgainst_21 : decode cX4_goesAgainst 21 = .ok (.aload_n 0, 1) := by decide +kernel
theorem dX4_goesAgainst_22 : decode cX4_goesAgainst 22 = .ok (.getfield 22, 3) := by decide +kernel
theorem dX4_goesAgainst_25 : decode cX4_goesAgainst 25 = .ok (.goto 7, 3) := by decide +kernel
theorem dX4_goesAgainst_28 : decode cX4_goesAgainst 28 = .ok (.aload_n 0, 1) := by decide +kernel
theorem dX4_goesAgainst_29 : decode cX4_goesAgainst 29 = .ok (.getfield 28, 3) := by decide +kernel
theorem dX4_goesAgainst_32 : decode cX4_goesAgainst 32 = .ok (.istore_n 3, 1) := by decide +kernel
theorem dX4_goesAgainst_33 : decode cX4_goesAgainst 33 = .ok (.iload_n 3, 1) := by decide +kernel
theorem dX4_goesAgainst_34 : decode cX4_goesAgainst 34 = .ok (.iload_n 2, 1) := by decide +kernel
theorem dX4_goesAgainst_35 : decode cX4_goesAgainst 35 = .ok (.ifCond .eq 10, 3) := by decide +kernel
theorem dX4_goesAgainst_38 : decode cX4_goesAgainst 38 = .ok (.aload_n 0, 1) := by decide +kernel
theorem dX4_goesAgainst_39 : decode cX4_goesAgainst 39 = .ok (.getfield 31, 3) := by decide +kernel
theorem dX4_goesAgainst_42 : decode cX4_goesAgainst 42 = .ok (.goto 7, 3) := by decide +kernel
theorem dX4_goesAgainst_45 : decode cX4_goesAgainst 45 = .ok (.aload_n 0, 1) := by decide +kernel
theorem dX4_goesAgainst_46 : decode cX4_goesAgainst 46 = .ok (.getfield 34, 3) := by decide +kernel
theorem dX4_goesAgainst_49 : decode cX4_goesAgainst 49 = .ok (.iadd, 1) := by decide +kernel
theorem dX4_goesAgainst_50 : decode cX4_goesAgainst 50 = .ok (.istore 4, 2) := by decide +kernel
theorem dX4_goesAgainst_52 : decode cX4_goesAgainst 52 = .ok (.iload_n 2, 1) := by decide +kernel
theorem dX4_goesAgainst_53 : decode cX4_goesAgainst 53 = .ok (.ifCond .eq 10, 3) := by decide +kernel
theorem dX4_goesAgainst_56 : decode cX4_goesAgainst 56 = .ok (.aload_n 1, 1) := by decide +kernel
theorem dX4_goesAgainst_57 : decode cX4_goesAgainst 57 = .ok (.getfield 58, 3) := by decide +kernel
theorem dX4_goesAgainst_60 : decode cX4_goesAgainst 60 = .ok (.goto 7, 3) := by decide +kernel
theorem dX4_goesAgainst_63 : decode cX4_goesAgainst 63 = .ok (.aload_n 1, 1) := by decide +kernel
theorem dX4_goesAgainst_64 : decode cX4_goesAgainst 64 = .ok (.getfield 64, 3) := by decide +kernel
theorem dX4_goesAgainst_67 : decode cX4_goesAgainst 67 = .ok (.istore 5, 2) := by decide +kernel
theorem dX4_goesAgainst_69 : decode cX4_goesAgainst 69 = .ok (.aload_n 1, 1) := by decide +kernel
theorem dX4_goesAgainst_70 : decode cX4_goesAgainst 70 = .ok (.getfield 76, 3) := by decide +kernel
theorem dX4_goesAgainst_73 : decode cX4_goesAgainst 73 = .ok (.ifCond .eq 24, 3) := by decide +kernel
theorem dX4_goesAgainst_76 : decode cX4_goesAgainst 76 = .ok (.iload 4, 2) := by decide +kernel
theorem dX4_goesAgainst_78 : decode cX4_goesAgainst 78 = .ok (.iload 5, 2) := by decide +kernel
theorem dX4_goesAgainst_80 : decode cX4_goesAgainst 80 = .ok (.if_icmp .ge 13, 3) := by decide +kernel
theorem dX4_goesAgainst_83 : decode cX4_goesAgainst 83 = .ok (.iload 5, 2) := by decide +kernel
theorem dX4_goesAgainst_85 : decode cX4_goesAgainst 85 = .ok (.iload_n 3, 1) := by decide +kernel
theorem dX4_goesAgainst_86 : decode cX4_goesAgainst 86 = .ok (.if_icmp .ge 7, 3) := by decide +kernel
theorem dX4_goesAgainst_89 : decode cX4_goesAgainst 89 = .ok (.iconst 1, 1) := by decide +kernel
theorem dX4_goesAgainst_90 : decode cX4_goesAgainst 90 = .ok (.goto 25, 3) := by decide +kernel
theorem dX4_goesAgainst_93 : decode cX4_goesAgainst 93 = .ok (.iconst 0, 1) := by decide +kernel
theorem dX4_goesAgainst_94 : decode cX4_goesAgainst 94 = .ok (.goto 21, 3) := by decide +kernel
theorem dX4_goesAgainst_97 : decode cX4_goesAgainst 97 = .ok (.iload_n 3, 1) := by decide +kernel
theorem dX4_goesAgainst_98 : decode cX4_goesAgainst 98 = .ok (.iload 5, 2) := by decide +kernel
theorem dX4_goesAgainst_100 : decode cX4_goesAgainst 100 = .ok (.if_icmp .ge 14, 3) := by decide +kernel
theorem dX4_goesAgainst_103 : decode cX4_goesAgainst 103 = .ok (.iload 5, 2) := by decide +kernel
theorem dX4_goesAgainst_105 : decode cX4_goesAgainst 105 = .ok (.iload 4, 2) := by decide +kernel
theorem dX4_goesAgainst_107 : decode cX4_goesAgainst 107 = .ok (.if_icmp .ge 7, 3) := by decide +kernel
theorem dX4_goesAgainst_110 : decode cX4_goesAgainst 110 = .ok (.iconst 1, 1) := by decide +kernel
theorem dX4_goesAgainst_111 : decode cX4_goesAgainst 111 = .ok (.goto 4, 3) := by decide +kernel
theorem dX4_goesAgainst_114 : decode cX4_goesAgainst 114 = .ok (.iconst 0, 1) := by decide +kernel
theorem dX4_goesAgainst_115 : decode cX4_goesAgainst 115 = .ok (.ireturn, 1) := by decide +kernel
