set_option maxRecDepth 20000 in
theorem ggX8_isGround_X8_isOn : GoodIn wsX8_isGround wsX8_isOn := goodIn_r _ [8, 9, 10, 7, 11] (by decide +kernel) (by decide +kernel)
set_option maxRecDepth 20000 in
theorem gX8_isGround_X8_isOn : GoodIn wsX8_isGround (va_wsS RX8 138 yX8_isOn wsX8_isOn) := goodIn_app (goodIn_of _ (by decide +kernel)) ggX8_isGround_X8_isOn
set_option maxRecDepth 20000 in
theorem ggX8_isGround_X8_isInside : GoodIn wsX8_isGround wsX8_isInside := goodIn_r _ [14] (by decide +kernel) (by decide +kernel)
set_option maxRecDepth 20000 in
theorem gX8_isGround_X8_isInside : GoodIn wsX8_isGround (va_wsS RX8 149 yX8_isInside wsX8_isInside) := goodIn_app (goodIn_of _ (by decide +kernel)) ggX8_isGround_X8_isInside
theorem dX8_isGround_0 : decode cX8_isGround 0 = .ok (.iconst 0, 1) := by decide +kernel
theorem dX8_isGround_1 : decode cX8_isGround 1 = .ok (.istore 4, 2) := by decide +kernel
theorem dX8_isGround_3 : decode cX8_isGround 3 = .ok (.iconst 0, 1) := by decide +kernel
theorem dX8_isGround_4 : decode cX8_isGround 4 = .ok (.istore 5, 2) := by decide +kernel
theorem dX8_isGround_6 : decode cX8_isGround 6 = .ok (.iload 5, 2) := by decide +kernel
theorem dX8_isGround_8 : decode cX8_isGround 8 = .ok (.aload_n 0, 1) := by decide +kernel
theorem dX8_isGround_9 : decode cX8_isGround 9 = .ok (.getfield 121, 3) := by decide +kernel
theorem dX8_isGround_12 : decode cX8_isGround 12 = .ok (.if_icmp .ge 36, 3) := by decide +kernel
theorem dX8_isGround_15 : decode cX8_isGround 15 = .ok (.iload 4, 2) := by decide +kernel
theorem dX8_isGround_17 : decode cX8_isGround 17 = .ok (.ifCond .ne 18, 3) := by decide +kernel
theorem dX8_isGround_20 : decode cX8_isGround 20 = .ok (.aload_n 0, 1) := by decide +kernel
theorem dX8_isGround_21 : decode cX8_isGround 21 = .ok (.getfield 7, 3) := by decide +kernel
theorem dX8_isGround_24 : decode cX8_isGround 24 = .ok (.iload 5, 2) := by decide +kernel
theorem dX8_isGround_26 : decode cX8_isGround 26 = .ok (.iload_n 1, 1) := by decide +kernel
theorem dX8_isGround_27 : decode cX8_isGround 27 = .ok (.iload_n 2, 1) := by decide +kernel
theorem dX8_isGround_28 : decode cX8_isGround 28 = .ok (.iload_n 3, 1) := by decide +kernel
theorem dX8_isGround_29 : decode cX8_isGround 29 = .ok (.invokestatic 138, 3) := by decide +kernel
theorem dX8_isGround_32 : decode cX8_isGround 32 = .ok (.ifCond .eq 7, 3) := by decide +kernel
theorem dX8_isGround_35 : decode cX8_isGround 35 = .ok (.iconst 1, 1) := by decide +kernel
theorem dX8_isGround_36 : decode cX8_isGround 36 = .ok (.goto 4, 3) := by decide +kernel
theorem dX8_isGround_39 : decode cX8_isGround 39 = .ok (.iconst 0, 1) := by decide +kernel
theorem dX8_isGround_40 : decode cX8_isGround 40 = .ok (.istore 4, 2) := by decide +kernel
theorem dX8_isGround_42 : decode cX8_isGround 42 = .ok (.iinc 5 1, 3) := by decide +kernel
theorem dX8_isGround_45 : decode cX8_isGround 45 = .ok (.goto (-39), 3) := by decide +kernel
theorem dX8_isGround_48 : decode cX8_isGround 48 = .ok (.iconst 0, 1) := by decide +kernel
theorem dX8_isGround_49 : decode cX8_isGround 49 = .ok (.istore 5, 2) := by decide +kernel
theorem dX8_isGround_51 : decode cX8_isGround 51 = .ok (.iload 5, 2) := by decide +kernel
theorem dX8_isGround_53 : decode cX8_isGround 53 = .ok (.bipush 8, 2) := by decide +kernel
theorem dX8_isGround_55 : decode cX8_isGround 55 = .ok (.if_icmp .ge 46, 3) := by decide +kernel
theorem dX8_isGround_58 : decode cX8_isGround 58 = .ok (.iload 4, 2) := by decide +kernel
theorem dX8_isGround_60 : decode cX8_isGround 60 = .ok (.ifCond .eq 32, 3) := by decide +kernel
theorem dX8_isGround_63 : decode cX8_isGround 63 = .ok (.aload_n 0, 1) := by decide +kernel
theorem dX8_isGround_64 : decode cX8_isGround 64 = .ok (.getfield 13, 3) := by decide +kernel
theorem dX8_isGround_67 : decode cX8_isGround 67 = .ok (.iload 5, 2) := by decide +kernel
theorem dX8_isGround_69 : decode cX8_isGround 69 = .ok (.baload, 1) := by decide +kernel
theorem dX8_isGround_70 : decode cX8_isGround 70 = .ok (.ifCond .eq 18, 3) := by decide +kernel
theorem dX8_isGround_73 : decode cX8_isGround 73 = .ok (.aload_n 0, 1) := by decide +kernel
theorem dX8_isGround_74 : decode cX8_isGround 74 = .ok (.getfield 17, 3) := by decide +kernel
theorem dX8_isGround_77 : decode cX8_isGround 77 = .ok (.iload 5, 2) := by decide +kernel
theorem dX8_isGround_79 : decode cX8_isGround 79 = .ok (.iload_n 1, 1) := by decide +kernel
theorem dX8_isGround_80 : decode cX8_isGround 80 = .ok (.iload_n 2, 1) := by decide +kernel
theorem dX8_isGround_81 : decode cX8_isGround 81 = .ok (.iload_n 3, 1) := by decide +kernel
theorem dX8_isGround_82 : decode cX8_isGround 82 = .ok (.invokestatic 149, 3) := by decide +kernel
theorem dX8_isGround_85 : decode cX8_isGround 85 = .ok (.ifCond .ne 7, 3) := by decide +kernel
theorem dX8_isGround_88 : decode cX8_isGround 88 = .ok (.iconst 1, 1) := by decide +kernel
theorem dX8_isGround_89 : decode cX8_isGround 89 = .ok (.goto 4, 3) := by decide +kernel
theorem dX8_isGround_92 : decode cX8_isGround 92 = .ok (.iconst 0, 1) := by decide +kernel
theorem dX8_isGround_93 : decode cX8_isGround 93 = .ok (.istore 4, 2) := by decide +kernel
theorem dX8_isGround_95 : decode cX8_isGround 95 = .ok (.iinc 5 1, 3) := by decide +kernel
theorem dX8_isGround_98 : decode cX8_isGround 98 = .ok (.goto (-47), 3) := by decide +kernel
theorem dX8_isGround_101 : decode cX8_isGround 101 = .ok (.iload 4, 2) := by decide +kernel
theorem dX8_isGround_103 : decode cX8_isGround 103 = .ok (.ireturn, 1) := by decide +kernel
theorem dX8_climb_0 : decode cX8_climb 0 = .ok (.iconst (-1), 1) := by decide +kernel
theorem dX8_climb_1 : decode cX8_climb 1 = .ok (.istore 7, 2) := by decide +kernel
theorem dX8_climb_3 : decode cX8_climb 3 = .ok (.iconst 0, 1) := by decide +kernel
theorem dX8_climb_4 : decode cX8_climb 4 = .ok (.istore 8, 2) := by decide +kernel
theorem dX8_climb_6 : decode cX8_climb 6 = .ok (.iload 8, 2) := by decide +kernel
theorem dX8_climb_8 : decode cX8_climb 8 = .ok (.aload_n 0, 1) := by decide +kernel
theorem dX8_climb_9 : decode cX8_climb 9 = .ok (.getfield 146, 3) := by decide +kernel
theorem dX8_climb_12 : decode cX8_climb 12 = .ok (.if_icmp .ge 231, 3) := by decide +kernel
theorem dX8_climb_15 : decode cX8_climb 15 = .ok (.bipush 7, 2) := by decide +kernel
theorem dX8_climb_17 : decode cX8_climb 17 = .ok (.iload 8, 2) := by decide +kernel
theorem dX8_climb_19 : decode cX8_climb 19 = .ok (.imul, 1) := by decide +kernel
theorem dX8_climb_20 : decode cX8_climb 20 = .ok (.istore 9, 2) := by decide +kernel
theorem dX8_climb_22 : decode cX8_climb 22 = .ok (.aload_n 0, 1) := by decide +kernel
theorem dX8_climb_23 : decode cX8_climb 23 = .ok (.getfield 32, 3) := by decide +kernel
theorem dX8_climb_26 : decode cX8_climb 26 = .ok (.iload 9, 2) := by decide +kernel
theorem dX8_climb_28 : decode cX8_climb 28 = .ok (.iaload, 1) := by decide +kernel
theorem dX8_climb_29 : decode cX8_climb 29 = .ok (.iload_n 1, 1) := by decide +kernel
theorem dX8_climb_30 : decode cX8_climb 30 = .ok (.if_icmp .ne 75, 3) := by decide +kernel
theorem dX8_climb_33 : decode cX8_climb 33 = .ok (.aload_n 0, 1) := by decide +kernel
theorem dX8_climb_34 : decode cX8_climb 34 = .ok (.getfield 32, 3) := by decide +kernel
theorem dX8_climb_37 : decode cX8_climb 37 = .ok (.iload 9, 2) := by decide +kernel
theorem dX8_climb_39 : decode cX8_climb 39 = .ok (.iconst 1, 1) := by decide +kernel
theorem dX8_climb_40 : decode cX8_climb 40 = .ok (.iadd, 1) := by decide +kernel
theorem dX8_climb_41 : decode cX8_climb 41 = .ok (.iaload, 1) := by decide +kernel
theorem dX8_climb_42 : decode cX8_climb 42 = .ok (.iload_n 2, 1) := by decide +kernel
theorem dX8_climb_43 : decode cX8_climb 43 = .ok (.if_icmp .ne 62, 3) := by decide +kernel
theorem dX8_climb_46 : decode cX8_climb 46 = .ok (.aload_n 0, 1) := by decide +kernel
theorem dX8_climb_47 : decode cX8_climb 47 = .ok (.getfield 32, 3) := by decide +kernel
theorem dX8_climb_50 : decode cX8_climb 50 = .ok (.iload 9, 2) := by decide +kernel
theorem dX8_climb_52 : decode cX8_climb 52 = .ok (.iconst 2, 1) := by decide +kernel
theorem dX8_climb_53 : decode cX8_climb 53 = .ok (.iadd, 1) := by decide +kernel
theorem dX8_climb_54 : decode cX8_climb 54 = .ok (.iaload, 1) := by decide +kernel
theorem dX8_climb_55 : decode cX8_climb 55 = .ok (.iload_n 3, 1) := by decide +kernel
theorem dX8_climb_56 : decode cX8_climb 56 = .ok (.if_icmp .ne 49, 3) := by decide +kernel
theorem dX8_climb_59 : decode cX8_climb 59 = .ok (.aload_n 0, 1) := by decide +kernel
theorem dX8_climb_60 : decode cX8_climb 60 = .ok (.getfield 32, 3) := by decide +kernel
theorem dX8_climb_63 : decode cX8_climb 63 = .ok (.iload 9, 2) := by decide +kernel
theorem dX8_climb_65 : decode cX8_climb 65 = .ok (.iconst 3, 1) := by decide +kernel
theorem dX8_climb_66 : decode cX8_climb 66 = .ok (.iadd, 1) := by decide +kernel
theorem dX8_climb_67 : decode cX8_climb 67 = .ok (.iaload, 1) := by decide +kernel
theorem dX8_climb_68 : decode cX8_climb 68 = .ok (.iload 4, 2) := by decide +kernel
theorem dX8_climb_70 : decode cX8_climb 70 = .ok (.if_icmp .ne 35, 3) := by decide +kernel
theorem dX8_climb_73 : decode cX8_climb 73 = .ok (.aload_n 0, 1) := by decide +kernel
theorem dX8_climb_74 : decode cX8_climb 74 = .ok (.getfield 32, 3) := by decide +kernel
theorem dX8_climb_77 : decode cX8_climb 77 = .ok (.iload 9, 2) := by decide +kernel
theorem dX8_climb_79 : decode cX8_climb 79 = .ok (.iconst 4, 1) := by decide +kernel
theorem dX8_climb_80 : decode cX8_climb 80 = .ok (.iadd, 1) := by decide +kernel
theorem dX8_climb_81 : decode cX8_climb 81 = .ok (.iaload, 1) := by decide +kernel
theorem dX8_climb_82 : decode cX8_climb 82 = .ok (.iload 5, 2) := by decide +kernel
theorem dX8_climb_84 : decode cX8_climb 84 = .ok (.if_icmp .ne 21, 3) := by decide +kernel
theorem dX8_climb_87 : decode cX8_climb 87 = .ok (.aload_n 0, 1) := by decide +kernel
theorem dX8_climb_88 : decode cX8_climb 88 = .ok (.getfield 32, 3) := by decide +kernel
theorem dX8_climb_91 : decode cX8_climb 91 = .ok (.iload 9, 2) := by decide +kernel
theorem dX8_climb_93 : decode cX8_climb 93 = .ok (.iconst 5, 1) := by decide +kernel
theorem dX8_climb_94 : decode cX8_climb 94 = .ok (.iadd, 1) := by decide +kernel
theorem dX8_climb_95 : decode cX8_climb 95 = .ok (.iaload, 1) := by decide +kernel
theorem dX8_climb_96 : decode cX8_climb 96 = .ok (.iload 6, 2) := by decide +kernel
theorem dX8_climb_98 : decode cX8_climb 98 = .ok (.if_icmp .ne 7, 3) := by decide +kernel
theorem dX8_climb_101 : decode cX8_climb 101 = .ok (.iconst 1, 1) := by decide +kernel
theorem dX8_climb_102 : decode cX8_climb 102 = .ok (.goto 4, 3) := by decide +kernel
theorem dX8_climb_105 : decode cX8_climb 105 = .ok (.iconst 0, 1) := by decide +kernel
theorem dX8_climb_106 : decode cX8_climb 106 = .ok (.istore 10, 2) := by decide +kernel
theorem dX8_climb_108 : decode cX8_climb 108 = .ok (.aload_n 0, 1) := by decide +kernel
theorem dX8_climb_109 : decode cX8_climb 109 = .ok (.getfield 32, 3) := by decide +kernel
theorem dX8_climb_112 : decode cX8_climb 112 = .ok (.iload 9, 2) := by decide +kernel
theorem dX8_climb_114 : decode cX8_climb 114 = .ok (.iaload, 1) := by decide +kernel
theorem dX8_climb_115 : decode cX8_climb 115 = .ok (.iload 4, 2) := by decide +kernel
theorem dX8_climb_117 : decode cX8_climb 117 = .ok (.if_icmp .ne 74, 3) := by decide +kernel
theorem dX8_climb_120 : decode cX8_climb 120 = .ok (.aload_n 0, 1) := by decide +kernel
theorem dX8_climb_121 : decode cX8_climb 121 = .ok (.getfield 32, 3) := by decide +kernel
theorem dX8_climb_124 : decode cX8_climb 124 = .ok (.iload 9, 2) := by decide +kernel
theorem dX8_climb_126 : decode cX8_climb 126 = .ok (.iconst 1, 1) := by decide +kernel
theorem dX8_climb_127 : decode cX8_climb 127 = .ok (.iadd, 1) := by decide +kernel
theorem dX8_climb_128 : decode cX8_climb 128 = .ok (.iaload, 1) := by decide +kernel
theorem dX8_climb_129 : decode cX8_climb 129 = .ok (.iload 5, 2) := by decide +kernel
theorem dX8_climb_131 : decode cX8_climb 131 = .ok (.if_icmp .ne 60, 3) := by decide +kernel
theorem dX8_climb_134 : decode cX8_climb 134 = .ok (.aload_n 0, 1) := by decide +kernel
theorem dX8_climb_135 : decode cX8_climb 135 = .ok (.getfield 32, 3) := by decide +kernel
theorem dX8_climb_138 : decode cX8_climb 138 = .ok (.iload 9, 2) := by decide +kernel
theorem dX8_climb_140 : decode cX8_climb 140 = .ok (.iconst 2, 1) := by decide +kernel
theorem dX8_climb_141 : decode cX8_climb 141 = .ok (.iadd, 1) := by decide +kernel
theorem dX8_climb_142 : decode cX8_climb 142 = .ok (.iaload, 1) := by decide +kernel
theorem dX8_climb_143 : decode cX8_climb 143 = .ok (.iload 6, 2) := by decide +kernel
theorem dX8_climb_145 : decode cX8_climb 145 = .ok (.if_icmp .ne 46, 3) := by decide +kernel
theorem dX8_climb_148 : decode cX8_climb 148 = .ok (.aload_n 0, 1) := by decide +kernel
theorem dX8_climb_149 : decode cX8_climb 149 = .ok (.getfield 32, 3) := by decide +kernel
theorem dX8_climb_152 : decode cX8_climb 152 = .ok (.iload 9, 2) := by decide +kernel
theorem dX8_climb_154 : decode cX8_climb 154 = .ok (.iconst 3, 1) := by decide +kernel
theorem dX8_climb_155 : decode cX8_climb 155 = .ok (.iadd, 1) := by decide +kernel
theorem dX8_climb_156 : decode cX8_climb 156 = .ok (.iaload, 1) := by decide +kernel
theorem dX8_climb_157 : decode cX8_climb 157 = .ok (.iload_n 1, 1) := by decide +kernel
theorem dX8_climb_158 : decode cX8_climb 158 = .ok (.if_icmp .ne 33, 3) := by decide +kernel
theorem dX8_climb_161 : decode cX8_climb 161 = .ok (.aload_n 0, 1) := by decide +kernel
theorem dX8_climb_162 : decode cX8_climb 162 = .ok (.getfield 32, 3) := by decide +kernel
theorem dX8_climb_165 : decode cX8_climb 165 = .ok (.iload 9, 2) := by decide +kernel
theorem dX8_climb_167 : decode cX8_climb 167 = .ok (.iconst 4, 1) := by decide +kernel
theorem dX8_climb_168 : decode cX8_climb 168 = .ok (.iadd, 1) := by decide +kernel
theorem dX8_climb_169 : decode cX8_climb 169 = .ok (.iaload, 1) := by decide +kernel
theorem dX8_climb_170 : decode cX8_climb 170 = .ok (.iload_n 2, 1) := by decide +kernel
theorem dX8_climb_171 : decode cX8_climb 171 = .ok (.if_icmp .ne 20, 3) := by decide +kernel
theorem dX8_climb_174 : decode cX8_climb 174 = .ok (.aload_n 0, 1) := by decide +kernel
theorem dX8_climb_175 : decode cX8_climb 175 = .ok (.getfield 32, 3) := by decide +kernel
theorem dX8_climb_178 : decode cX8_climb 178 = .ok (.iload 9, 2) := by decide +kernel
theorem dX8_climb_180 : decode cX8_climb 180 = .ok (.iconst 5, 1) := by decide +kernel
theorem dX8_climb_181 : decode cX8_climb 181 = .ok (.iadd, 1) := by decide +kernel
theorem dX8_climb_182 : decode cX8_climb 182 = .ok (.iaload, 1) := by decide +kernel
theorem dX8_climb_183 : decode cX8_climb 183 = .ok (.iload_n 3, 1) := by decide +kernel
theorem dX8_climb_184 : decode cX8_climb 184 = .ok (.if_icmp .ne 7, 3) := by decide +kernel
theorem dX8_climb_187 : decode cX8_climb 187 = .ok (.iconst 1, 1) := by decide +kernel
theorem dX8_climb_188 : decode cX8_climb 188 = .ok (.goto 4, 3) := by decide +kernel
theorem dX8_climb_191 : decode cX8_climb 191 = .ok (.iconst 0, 1) := by decide +kernel
theorem dX8_climb_192 : decode cX8_climb 192 = .ok (.istore 11, 2) := by decide +kernel
theorem dX8_climb_194 : decode cX8_climb 194 = .ok (.iload 10, 2) := by decide +kernel
theorem dX8_climb_196 : decode cX8_climb 196 = .ok (.ifCond .ne 8, 3) := by decide +kernel
theorem dX8_climb_199 : decode cX8_climb 199 = .ok (.iload 11, 2) := by decide +kernel
theorem dX8_climb_201 : decode cX8_climb 201 = .ok (.ifCond .eq 36, 3) := by decide +kernel
theorem dX8_climb_204 : decode cX8_climb 204 = .ok (.iload 7, 2) := by decide +kernel
theorem dX8_climb_206 : decode cX8_climb 206 = .ok (.iconst (-1), 1) := by decide +kernel
theorem dX8_climb_207 : decode cX8_climb 207 = .ok (.if_icmp .eq 18, 3) := by decide +kernel
theorem dX8_climb_210 : decode cX8_climb 210 = .ok (.aload_n 0, 1) := by decide +kernel
theorem dX8_climb_211 : decode cX8_climb 211 = .ok (.getfield 32, 3) := by decide +kernel
theorem dX8_climb_214 : decode cX8_climb 214 = .ok (.iload 9, 2) := by decide +kernel
theorem dX8_climb_216 : decode cX8_climb 216 = .ok (.bipush 6, 2) := by decide +kernel
theorem dX8_climb_218 : decode cX8_climb 218 = .ok (.iadd, 1) := by decide +kernel
theorem dX8_climb_219 : decode cX8_climb 219 = .ok (.iaload, 1) := by decide +kernel
theorem dX8_climb_220 : decode cX8_climb 220 = .ok (.iload 7, 2) := by decide +kernel
theorem dX8_climb_222 : decode cX8_climb 222 = .ok (.if_icmp .ge 15, 3) := by decide +kernel
theorem dX8_climb_225 : decode cX8_climb 225 = .ok (.aload_n 0, 1) := by decide +kernel
theorem dX8_climb_226 : decode cX8_climb 226 = .ok (.getfield 32, 3) := by decide +kernel
theorem dX8_climb_229 : decode cX8_climb 229 = .ok (.iload 9, 2) := by decide +kernel
theorem dX8_climb_231 : decode cX8_climb 231 = .ok (.bipush 6, 2) := by decide +kernel
theorem dX8_climb_233 : decode cX8_climb 233 = .ok (.iadd, 1) := by decide +kernel
theorem dX8_climb_234 : decode cX8_climb 234 = .ok (.iaload, 1) := by decide +kernel
theorem dX8_climb_235 : decode cX8_climb 235 = .ok (.istore 7, 2) := by decide +kernel
theorem dX8_climb_237 : decode cX8_climb 237 = .ok (.iinc 8 1, 3) := by decide +kernel
theorem dX8_climb_240 : decode cX8_climb 240 = .ok (.goto (-234), 3) := by decide +kernel
theorem dX8_climb_243 : decode cX8_climb 243 = .ok (.iload 7, 2) := by decide +kernel
theorem dX8_climb_245 : decode cX8_climb 245 = .ok (.ireturn, 1) := by decide +kernel
set_option maxRecDepth 20000 in
theorem ggX8_node_X8_isGround : GoodIn wsX8_node wsX8_isGround := goodIn_r _ [10, 11, 12, 13, 14, 15, 16, 9, 17, 18, 19, 20, 21, 22, 23, 24, 25, 26, 27, 28, 29, 30, 31, 32, 33, 34, 35, 36, 37, 38, 39, 40, 41, 42, 43, 44, 45, 46, 47, 48, 49, 50, 51, 52, 53, 54, 55, 56, 57, 58, 59, 60, 61, 62, 63, 64, 65, 66, 67, 68, 69, 70, 71, 72] (by decide +kernel) (by decide +kernel)
set_option maxRecDepth 20000 in
theorem gX8_node_X8_isGround : GoodIn wsX8_node (wsV RX8 152 RX8 yX8_isGround wsX8_isGround) := goodIn_app (goodIn_of _ (by decide +kernel)) ggX8_node_X8_isGround
theorem dX8_node_0 : decode cX8_node 0 = .ok (.aload_n 0, 1) := by decide +kernel
theorem dX8_node_1 : decode cX8_node 1 = .ok (.getfield 44, 3) := by decide +kernel
theorem dX8_node_4 : decode cX8_node 4 = .ok (.aload_n 0, 1) := by decide +kernel
theorem dX8_node_5 : decode cX8_node 5 = .ok (.getfield 214, 3) := by decide +kernel
theorem dX8_node_8 : decode cX8_node 8 = .ok (.iload_n 1, 1) := by decide +kernel
theorem dX8_node_9 : decode cX8_node 9 = .ok (.iastore, 1) := by decide +kernel
theorem dX8_node_10 : decode cX8_node 10 = .ok (.aload_n 0, 1) := by decide +kernel
theorem dX8_node_11 : decode cX8_node 11 = .ok (.getfield 47, 3) := by decide +kernel
theorem dX8_node_14 : decode cX8_node 14 = .ok (.aload_n 0, 1) := by decide +kernel
theorem dX8_node_15 : decode cX8_node 15 = .ok (.getfield 214, 3) := by decide +kernel
theorem dX8_node_18 : decode cX8_node 18 = .ok (.iload_n 2, 1) := by decide +kernel
theorem dX8_node_19 : decode cX8_node 19 = .ok (.iastore, 1) := by decide +kernel
theorem dX8_node_20 : decode cX8_node 20 = .ok (.aload_n 0, 1) := by decide +kernel
theorem dX8_node_21 : decode cX8_node 21 = .ok (.getfield 50, 3) := by decide +kernel
theorem dX8_node_24 : decode cX8_node 24 = .ok (.aload_n 0, 1) := by decide +kernel
theorem dX8_node_25 : decode cX8_node 25 = .ok (.getfield 214, 3) := by decide +kernel
theorem dX8_node_28 : decode cX8_node 28 = .ok (.iload_n 3, 1) := by decide +kernel
theorem dX8_node_29 : decode cX8_node 29 = .ok (.iastore, 1) := by decide +kernel
theorem dX8_node_30 : decode cX8_node 30 = .ok (.aload_n 0, 1) := by decide +kernel
theorem dX8_node_31 : decode cX8_node 31 = .ok (.getfield 41, 3) := by decide +kernel
theorem dX8_node_34 : decode cX8_node 34 = .ok (.aload_n 0, 1) := by decide +kernel
theorem dX8_node_35 : decode cX8_node 35 = .ok (.getfield 214, 3) := by decide +kernel
theorem dX8_node_38 : decode cX8_node 38 = .ok (.aload_n 0, 1) := by decide +kernel
theorem dX8_node_39 : decode cX8_node 39 = .ok (.iload_n 1, 1) := by decide +kernel
theorem dX8_node_40 : decode cX8_node 40 = .ok (.iload_n 2, 1) := by decide +kernel
theorem dX8_node_41 : decode cX8_node 41 = .ok (.iload_n 3, 1) := by decide +kernel
theorem dX8_node_42 : decode cX8_node 42 = .ok (.invokevirtual 152, 3) := by decide +kernel
theorem dX8_node_45 : decode cX8_node 45 = .ok (.bastore, 1) := by decide +kernel
theorem dX8_node_46 : decode cX8_node 46 = .ok (.aload_n 0, 1) := by decide +kernel
theorem dX8_node_47 : decode cX8_node 47 = .ok (.dup, 1) := by decide +kernel
theorem dX8_node_48 : decode cX8_node 48 = .ok (.getfield 214, 3) := by decide +kernel
theorem dX8_node_51 : decode cX8_node 51 = .ok (.iconst 1, 1) := by decide +kernel
theorem dX8_node_52 : decode cX8_node 52 = .ok (.iadd, 1) := by decide +kernel
theorem dX8_node_53 : decode cX8_node 53 = .ok (.putfield 214, 3) := by decide +kernel
theorem dX8_node_56 : decode cX8_node 56 = .ok (.return_, 1) := by decide +kernel
set_option maxRecDepth 20000 in
theorem ggX8_corners_X8_node : GoodIn wsX8_corners wsX8_node := goodIn_r _ [5, 6, 7, 8, 9, 10, 11, 12, 13, 4, 14, 15, 16, 17, 18, 19, 20, 21, 22, 23, 24, 25, 26, 27, 28, 29, 30, 31, 32, 33, 34, 35, 36, 37, 38, 39, 40, 41, 42, 43, 44, 45, 46, 47, 48, 49, 50, 51, 52, 53, 54, 55, 56, 57, 58, 59, 60, 61, 62, 63, 64, 65, 66, 67, 68, 69, 70, 71, 72, 73, 74, 75, 76] (by decide +kernel) (by decide +kernel)
set_option maxRecDepth 20000 in
theorem gX8_corners_X8_node : GoodIn wsX8_corners (wsV RX8 217 RX8 yX8_node wsX8_node) := goodIn_app (goodIn_of _ (by decide +kernel)) ggX8_corners_X8_node
theorem dX8_corners_0 : decode cX8_corners 0 = .ok (.iconst 5, 1) := by decide +kernel
theorem dX8_corners_1 : decode cX8_corners 1 = .ok (.iload_n 2, 1) := by decide +kernel
theorem dX8_corners_2 : decode cX8_corners 2 = .ok (.imul, 1) := by decide +kernel
theorem dX8_corners_3 : decode cX8_corners 3 = .ok (.istore_n 3, 1) := by decide +kernel
theorem dX8_corners_4 : decode cX8_corners 4 = .ok (.aload_n 0, 1) := by decide +kernel
theorem dX8_corners_5 : decode cX8_corners 5 = .ok (.aload_n 1, 1) := by decide +kernel
theorem dX8_corners_6 : decode cX8_corners 6 = .ok (.iload_n 3, 1) := by decide +kernel
theorem dX8_corners_7 : decode cX8_corners 7 = .ok (.iaload, 1) := by decide +kernel
theorem dX8_corners_8 : decode cX8_corners 8 = .ok (.aload_n 1, 1) := by decide +kernel
theorem dX8_corners_9 : decode cX8_corners 9 = .ok (.iload_n 3, 1) := by decide +kernel
theorem dX8_corners_10 : decode cX8_corners 10 = .ok (.iconst 1, 1) := by decide +kernel
theorem dX8_corners_11 : decode cX8_corners 11 = .ok (.iadd, 1) := by decide +kernel
theorem dX8_corners_12 : decode cX8_corners 12 = .ok (.iaload, 1) := by decide +kernel
theorem dX8_corners_13 : decode cX8_corners 13 = .ok (.aload_n 1, 1) := by decide +kernel
theorem dX8_corners_14 : decode cX8_corners 14 = .ok (.iload_n 3, 1) := by decide +kernel
theorem dX8_corners_15 : decode cX8_corners 15 = .ok (.iconst 2, 1) := by decide +kernel
theorem dX8_corners_16 : decode cX8_corners 16 = .ok (.iadd, 1) := by decide +kernel
theorem dX8_corners_17 : decode cX8_corners 17 = .ok (.iaload, 1) := by decide +kernel
theorem dX8_corners_18 : decode cX8_corners 18 = .ok (.invokevirtual 217, 3) := by decide +kernel
theorem dX8_corners_21 : decode cX8_corners 21 = .ok (.aload_n 0, 1) := by decide +kernel
theorem dX8_corners_22 : decode cX8_corners 22 = .ok (.aload_n 1, 1) := by decide +kernel
theorem dX8_corners_23 : decode cX8_corners 23 = .ok (.iload_n 3, 1) := by decide +kernel
theorem dX8_corners_24 : decode cX8_corners 24 = .ok (.iaload, 1) := by decide +kernel
theorem dX8_corners_25 : decode cX8_corners 25 = .ok (.aload_n 1, 1) := by decide +kernel
theorem dX8_corners_26 : decode cX8_corners 26 = .ok (.iload_n 3, 1) := by decide +kernel
theorem dX8_corners_27 : decode cX8_corners 27 = .ok (.iconst 3, 1) := by decide +kernel
theorem dX8_corners_28 : decode cX8_corners 28 = .ok (.iadd, 1) := by decide +kernel
theorem dX8_corners_29 : decode cX8_corners 29 = .ok (.iaload, 1) := by decide +kernel
theorem dX8_corners_30 : decode cX8_corners 30 = .ok (.aload_n 1, 1) := by decide +kernel
theorem dX8_corners_31 : decode cX8_corners 31 = .ok (.iload_n 3, 1) := by decide +kernel
theorem dX8_corners_32 : decode cX8_corners 32 = .ok (.iconst 2, 1) := by decide +kernel
theorem dX8_corners_33 : decode cX8_corners 33 = .ok (.iadd, 1) := by decide +kernel
theorem dX8_corners_34 : decode cX8_corners 34 = .ok (.iaload, 1) := by decide +kernel
theorem dX8_corners_35 : decode cX8_corners 35 = .ok (.invokevirtual 217, 3) := by decide +kernel
theorem dX8_corners_38 : decode cX8_corners 38 = .ok (.aload_n 0, 1) := by decide +kernel
theorem dX8_corners_39 : decode cX8_corners 39 = .ok (.aload_n 1, 1) := by decide +kernel
theorem dX8_corners_40 : decode cX8_corners 40 = .ok (.iload_n 3, 1) := by decide +kernel
theorem dX8_corners_41 : decode cX8_corners 41 = .ok (.iaload, 1) := by decide +kernel
theorem dX8_corners_42 : decode cX8_corners 42 = .ok (.aload_n 1, 1) := by decide +kernel
theorem dX8_corners_43 : decode cX8_corners 43 = .ok (.iload_n 3, 1) := by decide +kernel
theorem dX8_corners_44 : decode cX8_corners 44 = .ok (.iconst 3, 1) := by decide +kernel
theorem dX8_corners_45 : decode cX8_corners 45 = .ok (.iadd, 1) := by decide +kernel
theorem dX8_corners_46 : decode cX8_corners 46 = .ok (.iaload, 1) := by decide +kernel
theorem dX8_corners_47 : decode cX8_corners 47 = .ok (.aload_n 1, 1) := by decide +kernel
theorem dX8_corners_48 : decode cX8_corners 48 = .ok (.iload_n 3, 1) := by decide +kernel
theorem dX8_corners_49 : decode cX8_corners 49 = .ok (.iconst 4, 1) := by decide +kernel
theorem dX8_corners_50 : decode cX8_corners 50 = .ok (.iadd, 1) := by decide +kernel
theorem dX8_corners_51 : decode cX8_corners 51 = .ok (.iaload, 1) := by decide +kernel
theorem dX8_corners_52 : decode cX8_corners 52 = .ok (.invokevirtual 217, 3) := by decide +kernel
theorem dX8_corners_55 : decode cX8_corners 55 = .ok (.aload_n 0, 1) := by decide +kernel
theorem dX8_corners_56 : decode cX8_corners 56 = .ok (.aload_n 1, 1) := by decide +kernel
theorem dX8_corners_57 : decode cX8_corners 57 = .ok (.iload_n 3, 1) := by decide +kernel
theorem dX8_corners_58 : decode cX8_corners 58 = .ok (.iaload, 1) := by decide +kernel
theorem dX8_corners_59 : decode cX8_corners 59 = .ok (.aload_n 1, 1) := by decide +kernel
theorem dX8_corners_60 : decode cX8_corners 60 = .ok (.iload_n 3, 1) := by decide +kernel
theorem dX8_corners_61 : decode cX8_corners 61 = .ok (.iconst 1, 1) := by decide +kernel
theorem dX8_corners_62 : decode cX8_corners 62 = .ok (.iadd, 1) := by decide +kernel
theorem dX8_corners_63 : decode cX8_corners 63 = .ok (.iaload, 1) := by decide +kernel
theorem dX8_corners_64 : decode cX8_corners 64 = .ok (.aload_n 1, 1) := by decide +kernel
theorem dX8_corners_65 : decode cX8_corners 65 = .ok (.iload_n 3, 1) := by decide +kernel
theorem dX8_corners_66 : decode cX8_corners 66 = .ok (.iconst 4, 1) := by decide +kernel
theorem dX8_corners_67 : decode cX8_corners 67 = .ok (.iadd, 1) := by decide +kernel
theorem dX8_corners_68 : decode cX8_corners 68 = .ok (.iaload, 1) := by decide +kernel
theorem dX8_corners_69 : decode cX8_corners 69 = .ok (.invokevirtual 217, 3) := by decide +kernel
theorem dX8_corners_72 : decode cX8_corners 72 = .ok (.return_, 1) := by decide +kernel
set_option maxRecDepth 20000 in
theorem ggX8_findNodes_X8_node : GoodIn wsX8_findNodes wsX8_node := goodIn_r _ [12, 13, 1, 14, 15, 16, 17, 18, 19, 11, 20, 2, 3, 4, 5, 21, 22, 23, 24, 25, 26, 27, 28, 29, 34, 35, 36, 37, 38, 39, 40, 41, 42, 43, 44, 45, 46, 47, 48, 49, 50, 51, 52, 53, 54, 55, 56, 57, 58, 59, 60, 61, 62, 63, 64, 65, 66, 67, 68, 69, 70, 71, 72, 73, 74, 75, 76, 77, 78, 79, 80, 81, 82] (by decide +kernel) (by decide +kernel)
set_option maxRecDepth 20000 in
theorem gX8_findNodes_X8_node : GoodIn wsX8_findNodes (wsV RX8 217 RX8 yX8_node wsX8_node) := goodIn_app (goodIn_of _ (by decide +kernel)) ggX8_findNodes_X8_node
set_option maxRecDepth 20000 in
theorem ggX8_findNodes_X8_corners : GoodIn wsX8_findNodes wsX8_corners := goodIn_r _ [33, 8, 9, 10, 11, 12, 13, 1, 14, 15, 16, 17, 18, 19, 20, 2, 3, 4, 5, 21, 22, 23, 24, 25, 26, 27, 28, 29, 34, 35, 36, 37, 38, 39, 40, 41, 42, 43, 44, 45, 46, 47, 48, 49, 50, 51, 52, 53, 54, 55, 56, 57, 58, 59, 60, 61, 62, 63, 64, 65, 66, 67, 68, 69, 70, 71, 72, 73, 74, 75, 76, 77, 78, 79, 80, 81, 82] (by decide +kernel) (by decide +kernel)
set_option maxRecDepth 20000 in
theorem gX8_findNodes_X8_corners : GoodIn wsX8_findNodes (wsV RX8 221 RX8 yX8_corners wsX8_corners) := goodIn_app (goodIn_of _ (by decide +kernel)) ggX8_findNodes_X8_corners
theorem dX8_findNodes_0 : decode cX8_findNodes 0 = .ok (.aload_n 0, 1) := by decide +kernel
theorem dX8_findNodes_1 : decode cX8_findNodes 1 = .ok (.iconst 0, 1) := by decide +kernel
theorem dX8_findNodes_2 : decode cX8_findNodes 2 = .ok (.putfield 214, 3) := by decide +kernel
theorem dX8_findNodes_5 : decode cX8_findNodes 5 = .ok (.aload_n 0, 1) := by decide +kernel
theorem dX8_findNodes_6 : decode cX8_findNodes 6 = .ok (.iload_n 1, 1) := by decide +kernel
theorem dX8_findNodes_7 : decode cX8_findNodes 7 = .ok (.iload_n 2, 1) := by decide +kernel
theorem dX8_findNodes_8 : decode cX8_findNodes 8 = .ok (.iload_n 3, 1) := by decide +kernel
theorem dX8_findNodes_9 : decode cX8_findNodes 9 = .ok (.invokevirtual 217, 3) := by decide +kernel
theorem dX8_findNodes_12 : decode cX8_findNodes 12 = .ok (.aload_n 0, 1) := by decide +kernel
theorem dX8_findNodes_13 : decode cX8_findNodes 13 = .ok (.iload 4, 2) := by decide +kernel
theorem dX8_findNodes_15 : decode cX8_findNodes 15 = .ok (.iload 5, 2) := by decide +kernel
theorem dX8_findNodes_17 : decode cX8_findNodes 17 = .ok (.iload 6, 2) := by decide +kernel
theorem dX8_findNodes_19 : decode cX8_findNodes 19 = .ok (.invokevirtual 217, 3) := by decide +kernel
theorem dX8_findNodes_22 : decode cX8_findNodes 22 = .ok (.iconst 0, 1) := by decide +kernel
theorem dX8_findNodes_23 : decode cX8_findNodes 23 = .ok (.istore 7, 2) := by decide +kernel
theorem dX8_findNodes_25 : decode cX8_findNodes 25 = .ok (.iload 7, 2) := by decide +kernel
theorem dX8_findNodes_27 : decode cX8_findNodes 27 = .ok (.aload_n 0, 1) := by decide +kernel
theorem dX8_findNodes_28 : decode cX8_findNodes 28 = .ok (.getfield 121, 3) := by decide +kernel
theorem dX8_findNodes_31 : decode cX8_findNodes 31 = .ok (.if_icmp .ge 19, 3) := by decide +kernel
theorem dX8_findNodes_34 : decode cX8_findNodes 34 = .ok (.aload_n 0, 1) := by decide +kernel
theorem dX8_findNodes_35 : decode cX8_findNodes 35 = .ok (.aload_n 0, 1) := by decide +kernel
theorem dX8_findNodes_36 : decode cX8_findNodes 36 = .ok (.getfield 7, 3) := by decide +kernel
theorem dX8_findNodes_39 : decode cX8_findNodes 39 = .ok (.iload 7, 2) := by decide +kernel
theorem dX8_findNodes_41 : decode cX8_findNodes 41 = .ok (.invokevirtual 221, 3) := by decide +kernel
theorem dX8_findNodes_44 : decode cX8_findNodes 44 = .ok (.iinc 7 1, 3) := by decide +kernel
theorem dX8_findNodes_47 : decode cX8_findNodes 47 = .ok (.goto (-22), 3) := by decide +kernel
theorem dX8_findNodes_50 : decode cX8_findNodes 50 = .ok (.iconst 0, 1) := by decide +kernel
theorem dX8_findNodes_51 : decode cX8_findNodes 51 = .ok (.istore 7, 2) := by decide +kernel
theorem dX8_findNodes_53 : decode cX8_findNodes 53 = .ok (.iload 7, 2) := by decide +kernel
theorem dX8_findNodes_55 : decode cX8_findNodes 55 = .ok (.bipush 8, 2) := by decide +kernel
theorem dX8_findNodes_57 : decode cX8_findNodes 57 = .ok (.if_icmp .ge 29, 3) := by decide +kernel
theorem dX8_findNodes_60 : decode cX8_findNodes 60 = .ok (.aload_n 0, 1) := by decide +kernel
theorem dX8_findNodes_61 : decode cX8_findNodes 61 = .ok (.getfield 13, 3) := by decide +kernel
theorem dX8_findNodes_64 : decode cX8_findNodes 64 = .ok (.iload 7, 2) := by decide +kernel
theorem dX8_findNodes_66 : decode cX8_findNodes 66 = .ok (.baload, 1) := by decide +kernel
theorem dX8_findNodes_67 : decode cX8_findNodes 67 = .ok (.ifCond .eq 13, 3) := by decide +kernel
theorem dX8_findNodes_70 : decode cX8_findNodes 70 = .ok (.aload_n 0, 1) := by decide +kernel
theorem dX8_findNodes_71 : decode cX8_findNodes 71 = .ok (.aload_n 0, 1) := by decide +kernel
theorem dX8_findNodes_72 : decode cX8_findNodes 72 = .ok (.getfield 17, 3) := by decide +kernel
theorem dX8_findNodes_75 : decode cX8_findNodes 75 = .ok (.iload 7, 2) := by decide +kernel
theorem dX8_findNodes_77 : decode cX8_findNodes 77 = .ok (.invokevirtual 221, 3) := by decide +kernel
theorem dX8_findNodes_80 : decode cX8_findNodes 80 = .ok (.iinc 7 1, 3) := by decide +kernel
theorem dX8_findNodes_83 : decode cX8_findNodes 83 = .ok (.goto (-30), 3) := by decide +kernel
theorem dX8_findNodes_86 : decode cX8_findNodes 86 = .ok (.iconst 0, 1) := by decide +kernel
theorem dX8_findNodes_87 : decode cX8_findNodes 87 = .ok (.istore 7, 2) := by decide +kernel
theorem dX8_findNodes_89 : decode cX8_findNodes 89 = .ok (.iload 7, 2) := by decide +kernel
theorem dX8_findNodes_91 : decode cX8_findNodes 91 = .ok (.aload_n 0, 1) := by decide +kernel
theorem dX8_findNodes_92 : decode cX8_findNodes 92 = .ok (.getfield 146, 3) := by decide +kernel
theorem dX8_findNodes_95 : decode cX8_findNodes 95 = .ok (.if_icmp .ge 87, 3) := by decide +kernel
theorem dX8_findNodes_98 : decode cX8_findNodes 98 = .ok (.aload_n 0, 1) := by decide +kernel
theorem dX8_findNodes_99 : decode cX8_findNodes 99 = .ok (.aload_n 0, 1) := by decide +kernel
theorem dX8_findNodes_100 : decode cX8_findNodes 100 = .ok (.getfield 32, 3) := by decide +kernel
theorem dX8_findNodes_103 : decode cX8_findNodes 103 = .ok (.bipush 7, 2) := by decide +kernel
theorem dX8_findNodes_105 : decode cX8_findNodes 105 = .ok (.iload 7, 2) := by decide +kernel
theorem dX8_findNodes_107 : decode cX8_findNodes 107 = .ok (.imul, 1) := by decide +kernel
theorem dX8_findNodes_108 : decode cX8_findNodes 108 = .ok (.iaload, 1) := by decide +kernel
theorem dX8_findNodes_109 : decode cX8_findNodes 109 = .ok (.aload_n 0, 1) := by decide +kernel
theorem dX8_findNodes_110 : decode cX8_findNodes 110 = .ok (.getfield 32, 3) := by decide +kernel
theorem dX8_findNodes_113 : decode cX8_findNodes 113 = .ok (.bipush 7, 2) := by decide +kernel
theorem dX8_findNodes_115 : decode cX8_findNodes 115 = .ok (.iload 7, 2) := by decide +kernel
theorem dX8_findNodes_117 : decode cX8_findNodes 117 = .ok (.imul, 1) := by decide +kernel
theorem dX8_findNodes_118 : decode cX8_findNodes 118 = .ok (.iconst 1, 1) := by decide +kernel
theorem dX8_findNodes_119 : decode cX8_findNodes 119 = .ok (.iadd, 1) := by decide +kernel
theorem dX8_findNodes_120 : decode cX8_findNodes 120 = .ok (.iaload, 1) := by decide +kernel
theorem dX8_findNodes_121 : decode cX8_findNodes 121 = .ok (.aload_n 0, 1) := by decide +kernel
theorem dX8_findNodes_122 : decode cX8_findNodes 122 = .ok (.getfield 32, 3) := by decide +kernel
theorem dX8_findNodes_125 : decode cX8_findNodes 125 = .ok (.bipush 7, 2) := by decide +kernel
theorem dX8_findNodes_127 : decode cX8_findNodes 127 = .ok (.iload 7, 2) := by decide +kernel
theorem dX8_findNodes_129 : decode cX8_findNodes 129 = .ok (.imul, 1) := by decide +kernel
theorem dX8_findNodes_130 : decode cX8_findNodes 130 = .ok (.iconst 2, 1) := by decide +kernel
theorem dX8_findNodes_131 : decode cX8_findNodes 131 = .ok (.iadd, 1) := by decide +kernel
theorem dX8_findNodes_132 : decode cX8_findNodes 132 = .ok (.iaload, 1) := by decide +kernel
theorem dX8_findNodes_133 : decode cX8_findNodes 133 = .ok (.invokevirtual 217, 3) := by decide +kernel
theorem dX8_findNodes_136 : decode cX8_findNodes 136 = .ok (.aload_n 0, 1) := by decide +kernel
theorem dX8_findNodes_137 : decode cX8_findNodes 137 = .ok (.aload_n 0, 1) := by decide +kernel
theorem dX8_findNodes_138 : decode cX8_findNodes 138 = .ok (.getfield 32, 3) := by decide +kernel
theorem dX8_findNodes_141 : decode cX8_findNodes 141 = .ok (.bipush 7, 2) := by decide +kernel
theorem dX8_findNodes_143 : decode cX8_findNodes 143 = .ok (.iload 7, 2) := by decide +kernel
theorem dX8_findNodes_145 : decode cX8_findNodes 145 = .ok (.imul, 1) := by decide +kernel
theorem dX8_findNodes_146 : decode cX8_findNodes 146 = .ok (.iconst 3, 1) := by decide +kernel
theorem dX8_findNodes_147 : decode cX8_findNodes 147 = .ok (.iadd, 1) := by decide +kernel
theorem dX8_findNodes_148 : decode cX8_findNodes 148 = .ok (.iaload, 1) := by decide +kernel
theorem dX8_findNodes_149 : decode cX8_findNodes 149 = .ok (.aload_n 0, 1) := by decide +kernel
theorem dX8_findNodes_150 : decode cX8_findNodes 150 = .ok (.getfield 32, 3) := by decide +kernel
theorem dX8_findNodes_153 : decode cX8_findNodes 153 = .ok (.bipush 7, 2) := by decide +kernel
theorem dX8_findNodes_155 : decode cX8_findNodes 155 = .ok (.iload 7, 2) := by decide +kernel
theorem dX8_findNodes_157 : decode cX8_findNodes 157 = .ok (.imul, 1) := by decide +kernel
theorem dX8_findNodes_158 : decode cX8_findNodes 158 = .ok (.iconst 4, 1) := by decide +kernel
theorem dX8_findNodes_159 : decode cX8_findNodes 159 = .ok (.iadd, 1) := by decide +kernel
theorem dX8_findNodes_160 : decode cX8_findNodes 160 = .ok (.iaload, 1) := by decide +kernel
theorem dX8_findNodes_161 : decode cX8_findNodes 161 = .ok (.aload_n 0, 1) := by decide +kernel
theorem dX8_findNodes_162 : decode cX8_findNodes 162 = .ok (.getfield 32, 3) := by decide +kernel
theorem dX8_findNodes_165 : decode cX8_findNodes 165 = .ok (.bipush 7, 2) := by decide +kernel
theorem dX8_findNodes_167 : decode cX8_findNodes 167 = .ok (.iload 7, 2) := by decide +kernel
theorem dX8_findNodes_169 : decode cX8_findNodes 169 = .ok (.imul, 1) := by decide +kernel
theorem dX8_findNodes_170 : decode cX8_findNodes 170 = .ok (.iconst 5, 1) := by decide +kernel
theorem dX8_findNodes_171 : decode cX8_findNodes 171 = .ok (.iadd, 1) := by decide +kernel
theorem dX8_findNodes_172 : decode cX8_findNodes 172 = .ok (.iaload, 1) := by decide +kernel
theorem dX8_findNodes_173 : decode cX8_findNodes 173 = .ok (.invokevirtual 217, 3) := by decide +kernel
theorem dX8_findNodes_176 : decode cX8_findNodes 176 = .ok (.iinc 7 1, 3) := by decide +kernel
theorem dX8_findNodes_179 : decode cX8_findNodes 179 = .ok (.goto (-90), 3) := by decide +kernel
theorem dX8_findNodes_182 : decode cX8_findNodes 182 = .ok (.return_, 1) := by decide +kernel
set_option maxRecDepth 20000 in
theorem ggX8_step_X8_seen : GoodIn wsX8_step wsX8_seen := goodIn_r _ [8, 9, 10, 11, 12, 13, 14, 15, 16, 7, 17, 18, 19, 20, 21, 22, 23, 24, 25, 26, 27, 28, 29, 30, 31, 32, 33, 34, 35, 36, 37, 38, 39, 40, 41, 42, 43, 44, 45, 46, 47, 48, 49, 50, 51, 52, 53, 54, 55, 56, 69, 70, 71, 72, 73, 74, 75, 76, 77, 78, 79, 80, 81, 82, 83, 84, 85, 86, 87, 88, 89, 90, 91, 92, 93, 94, 95, 96, 97, 98, 99, 100, 101, 102, 103, 104, 105, 106, 107, 108, 109, 110, 111, 112, 113, 114, 115, 116, 117] (by decide +kernel) (by decide +kernel)
set_option maxRecDepth 20000 in
theorem gX8_step_X8_seen : GoodIn wsX8_step (wsV RX8 204 RX8 yX8_seen wsX8_seen) := goodIn_app (goodIn_of _ (by decide +kernel)) ggX8_step_X8_seen
set_option maxRecDepth 20000 in
theorem ggX8_step_X8_lengthOf : GoodIn wsX8_step wsX8_lengthOf := goodIn_r _ [59, 60, 61, 62] (by decide +kernel) (by decide +kernel)
set_option maxRecDepth 20000 in
theorem gX8_step_X8_lengthOf : GoodIn wsX8_step (va_wsS RX8 225 yX8_lengthOf wsX8_lengthOf) := goodIn_app (goodIn_of _ (by decide +kernel)) ggX8_step_X8_lengthOf
set_option maxRecDepth 20000 in
theorem ggX8_step_X8_climb : GoodIn wsX8_step wsX8_climb := goodIn_r _ [66, 67, 68, 69, 70, 71, 72, 73, 74, 75, 76, 77, 78, 79, 80, 81, 82, 83, 84, 85, 86, 87, 88, 89, 90, 91, 92, 93, 94, 95, 96, 97, 98, 99, 100, 101, 102, 103, 104, 105, 106, 107, 108, 109, 110, 111, 112, 113, 114, 115, 116, 117] (by decide +kernel) (by decide +kernel)
set_option maxRecDepth 20000 in
theorem gX8_step_X8_climb : GoodIn wsX8_step (wsV RX8 229 RX8 yX8_climb wsX8_climb) := goodIn_app (goodIn_of _ (by decide +kernel)) ggX8_step_X8_climb
theorem dX8_step_0 : decode cX8_step 0 = .ok (.aload_n 0, 1) := by decide +kernel
theorem dX8_step_1 : decode cX8_step 1 = .ok (.getfield 44, 3) := by decide +kernel
theorem dX8_step_4 : decode cX8_step 4 = .ok (.iload_n 1, 1) := by decide +kernel
theorem dX8_step_5 : decode cX8_step 5 = .ok (.iaload, 1) := by decide +kernel
theorem dX8_step_6 : decode cX8_step 6 = .ok (.aload_n 0, 1) := by decide +kernel
theorem dX8_step_7 : decode cX8_step 7 = .ok (.getfield 44, 3) := by decide +kernel
theorem dX8_step_10 : decode cX8_step 10 = .ok (.iload_n 2, 1) := by decide +kernel
theorem dX8_step_11 : decode cX8_step 11 = .ok (.iaload, 1) := by decide +kernel
theorem dX8_step_12 : decode cX8_step 12 = .ok (.if_icmp .ne 73, 3) := by decide +kernel
theorem dX8_step_15 : decode cX8_step 15 = .ok (.aload_n 0, 1) := by decide +kernel
theorem dX8_step_16 : decode cX8_step 16 = .ok (.aload_n 0, 1) := by decide +kernel
theorem dX8_step_17 : decode cX8_step 17 = .ok (.getfield 44, 3) := by decide +kernel
theorem dX8_step_20 : decode cX8_step 20 = .ok (.iload_n 1, 1) := by decide +kernel
theorem dX8_step_21 : decode cX8_step 21 = .ok (.iaload, 1) := by decide +kernel
theorem dX8_step_22 : decode cX8_step 22 = .ok (.aload_n 0, 1) := by decide +kernel
theorem dX8_step_23 : decode cX8_step 23 = .ok (.getfield 47, 3) := by decide +kernel
theorem dX8_step_26 : decode cX8_step 26 = .ok (.iload_n 1, 1) := by decide +kernel
theorem dX8_step_27 : decode cX8_step 27 = .ok (.iaload, 1) := by decide +kernel
theorem dX8_step_28 : decode cX8_step 28 = .ok (.aload_n 0, 1) := by decide +kernel
theorem dX8_step_29 : decode cX8_step 29 = .ok (.getfield 50, 3) := by decide +kernel
theorem dX8_step_32 : decode cX8_step 32 = .ok (.iload_n 1, 1) := by decide +kernel
theorem dX8_step_33 : decode cX8_step 33 = .ok (.iaload, 1) := by decide +kernel
theorem dX8_step_34 : decode cX8_step 34 = .ok (.aload_n 0, 1) := by decide +kernel
theorem dX8_step_35 : decode cX8_step 35 = .ok (.getfield 47, 3) := by decide +kernel
theorem dX8_step_38 : decode cX8_step 38 = .ok (.iload_n 2, 1) := by decide +kernel
theorem dX8_step_39 : decode cX8_step 39 = .ok (.iaload, 1) := by decide +kernel
theorem dX8_step_40 : decode cX8_step 40 = .ok (.aload_n 0, 1) := by decide +kernel
theorem dX8_step_41 : decode cX8_step 41 = .ok (.getfield 50, 3) := by decide +kernel
theorem dX8_step_44 : decode cX8_step 44 = .ok (.iload_n 2, 1) := by decide +kernel
theorem dX8_step_45 : decode cX8_step 45 = .ok (.iaload, 1) := by decide +kernel
theorem dX8_step_46 : decode cX8_step 46 = .ok (.invokevirtual 204, 3) := by decide +kernel
theorem dX8_step_49 : decode cX8_step 49 = .ok (.iconst 1, 1) := by decide +kernel
theorem dX8_step_50 : decode cX8_step 50 = .ok (.if_icmp .ne 33, 3) := by decide +kernel
theorem dX8_step_53 : decode cX8_step 53 = .ok (.aload_n 0, 1) := by decide +kernel
theorem dX8_step_54 : decode cX8_step 54 = .ok (.getfield 47, 3) := by decide +kernel
theorem dX8_step_57 : decode cX8_step 57 = .ok (.iload_n 1, 1) := by decide +kernel
theorem dX8_step_58 : decode cX8_step 58 = .ok (.iaload, 1) := by decide +kernel
theorem dX8_step_59 : decode cX8_step 59 = .ok (.aload_n 0, 1) := by decide +kernel
theorem dX8_step_60 : decode cX8_step 60 = .ok (.getfield 50, 3) := by decide +kernel
theorem dX8_step_63 : decode cX8_step 63 = .ok (.iload_n 1, 1) := by decide +kernel
theorem dX8_step_64 : decode cX8_step 64 = .ok (.iaload, 1) := by decide +kernel
theorem dX8_step_65 : decode cX8_step 65 = .ok (.aload_n 0, 1) := by decide +kernel
theorem dX8_step_66 : decode cX8_step 66 = .ok (.getfield 47, 3) := by decide +kernel
theorem dX8_step_69 : decode cX8_step 69 = .ok (.iload_n 2, 1) := by decide +kernel
theorem dX8_step_70 : decode cX8_step 70 = .ok (.iaload, 1) := by decide +kernel
theorem dX8_step_71 : decode cX8_step 71 = .ok (.aload_n 0, 1) := by decide +kernel
theorem dX8_step_72 : decode cX8_step 72 = .ok (.getfield 50, 3) := by decide +kernel
theorem dX8_step_75 : decode cX8_step 75 = .ok (.iload_n 2, 1) := by decide +kernel
theorem dX8_step_76 : decode cX8_step 76 = .ok (.iaload, 1) := by decide +kernel
theorem dX8_step_77 : decode cX8_step 77 = .ok (.invokestatic 225, 3) := by decide +kernel
theorem dX8_step_80 : decode cX8_step 80 = .ok (.goto 4, 3) := by decide +kernel
theorem dX8_step_83 : decode cX8_step 83 = .ok (.iconst (-1), 1) := by decide +kernel
theorem dX8_step_84 : decode cX8_step 84 = .ok (.ireturn, 1) := by decide +kernel
theorem dX8_step_85 : decode cX8_step 85 = .ok (.aload_n 0, 1) := by decide +kernel
theorem dX8_step_86 : decode cX8_step 86 = .ok (.aload_n 0, 1) := by decide +kernel
theorem dX8_step_87 : decode cX8_step 87 = .ok (.getfield 44, 3) := by decide +kernel
theorem dX8_step_90 : decode cX8_step 90 = .ok (.iload_n 1, 1) := by decide +kernel
theorem dX8_step_91 : decode cX8_step 91 = .ok (.iaload, 1) := by decide +kernel
theorem dX8_step_92 : decode cX8_step 92 = .ok (.aload_n 0, 1) := by decide +kernel
theorem dX8_step_93 : decode cX8_step 93 = .ok (.getfield 47, 3) := by decide +kernel
theorem dX8_step_96 : decode cX8_step 96 = .ok (.iload_n 1, 1) := by decide +kernel
theorem dX8_step_97 : decode cX8_step 97 = .ok (.iaload, 1) := by decide +kernel
theorem dX8_step_98 : decode cX8_step 98 = .ok (.aload_n 0, 1) := by decide +kernel
theorem dX8_step_99 : decode cX8_step 99 = .ok (.getfield 50, 3) := by decide +kernel
theorem dX8_step_102 : decode cX8_step 102 = .ok (.iload_n 1, 1) := by decide +kernel
theorem dX8_step_103 : decode cX8_step 103 = .ok (.iaload, 1) := by decide +kernel
theorem dX8_step_104 : decode cX8_step 104 = .ok (.aload_n 0, 1) := by decide +kernel
theorem dX8_step_105 : decode cX8_step 105 = .ok (.getfield 44, 3) := by decide +kernel
theorem dX8_step_108 : decode cX8_step 108 = .ok (.iload_n 2, 1) := by decide +kernel
theorem dX8_step_109 : decode cX8_step 109 = .ok (.iaload, 1) := by decide +kernel
theorem dX8_step_110 : decode cX8_step 110 = .ok (.aload_n 0, 1) := by decide +kernel
theorem dX8_step_111 : decode cX8_step 111 = .ok (.getfield 47, 3) := by decide +kernel
theorem dX8_step_114 : decode cX8_step 114 = .ok (.iload_n 2, 1) := by decide +kernel
theorem dX8_step_115 : decode cX8_step 115 = .ok (.iaload, 1) := by decide +kernel
theorem dX8_step_116 : decode cX8_step 116 = .ok (.aload_n 0, 1) := by decide +kernel
theorem dX8_step_117 : decode cX8_step 117 = .ok (.getfield 50, 3) := by decide +kernel
theorem dX8_step_120 : decode cX8_step 120 = .ok (.iload_n 2, 1) := by decide +kernel
theorem dX8_step_121 : decode cX8_step 121 = .ok (.iaload, 1) := by decide +kernel
theorem dX8_step_122 : decode cX8_step 122 = .ok (.invokevirtual 229, 3) := by decide +kernel
theorem dX8_step_125 : decode cX8_step 125 = .ok (.ireturn, 1) := by decide +kernel
