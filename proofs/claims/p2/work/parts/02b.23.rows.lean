set_option maxRecDepth 20000 in
theorem ggX8_settles_X8_step : GoodIn wsX8_settles wsX8_step := goodIn_r _ [10, 11, 12, 13, 14, 15, 16, 9, 17, 18, 19, 20, 21, 22, 23, 24, 25, 26, 27, 28, 29, 30, 31, 32, 33, 34, 35, 36, 37, 38, 39, 40, 41, 42, 43, 44, 45, 46, 47, 48, 49, 50, 51, 52, 53, 54, 55, 56, 57, 58, 59, 60, 61, 62, 63, 64, 65, 66, 67, 68, 69, 70, 71, 72, 73, 74, 75, 76, 77, 78, 79, 80, 81, 82, 83, 84, 85, 86, 87, 88, 89, 90, 91, 92, 93, 94, 95, 96, 97, 98, 99, 100, 101, 102, 103, 104, 105, 106, 107, 108, 109, 110, 111, 112, 113, 114, 115, 116, 117, 118, 119, 120, 121, 122, 123, 124, 125, 126] (by decide +kernel) (by decide +kernel)
set_option maxRecDepth 20000 in
theorem gX8_settles_X8_step : GoodIn wsX8_settles (wsV RX8 233 RX8 yX8_step wsX8_step) := goodIn_app (goodIn_of _ (by decide +kernel)) ggX8_settles_X8_step
theorem dX8_settles_0 : decode cX8_settles 0 = .ok (.iconst 0, 1) := by decide +kernel
theorem dX8_settles_1 : decode cX8_settles 1 = .ok (.istore_n 1, 1) := by decide +kernel
theorem dX8_settles_2 : decode cX8_settles 2 = .ok (.iload_n 1, 1) := by decide +kernel
theorem dX8_settles_3 : decode cX8_settles 3 = .ok (.aload_n 0, 1) := by decide +kernel
theorem dX8_settles_4 : decode cX8_settles 4 = .ok (.getfield 214, 3) := by decide +kernel
theorem dX8_settles_7 : decode cX8_settles 7 = .ok (.if_icmp .ge 38, 3) := by decide +kernel
theorem dX8_settles_10 : decode cX8_settles 10 = .ok (.aload_n 0, 1) := by decide +kernel
theorem dX8_settles_11 : decode cX8_settles 11 = .ok (.getfield 53, 3) := by decide +kernel
theorem dX8_settles_14 : decode cX8_settles 14 = .ok (.iload_n 1, 1) := by decide +kernel
theorem dX8_settles_15 : decode cX8_settles 15 = .ok (.iload_n 1, 1) := by decide +kernel
theorem dX8_settles_16 : decode cX8_settles 16 = .ok (.ifCond .ne 7, 3) := by decide +kernel
theorem dX8_settles_19 : decode cX8_settles 19 = .ok (.iconst 0, 1) := by decide +kernel
theorem dX8_settles_20 : decode cX8_settles 20 = .ok (.goto 4, 3) := by decide +kernel
theorem dX8_settles_23 : decode cX8_settles 23 = .ok (.iconst (-1), 1) := by decide +kernel
theorem dX8_settles_24 : decode cX8_settles 24 = .ok (.iastore, 1) := by decide +kernel
theorem dX8_settles_25 : decode cX8_settles 25 = .ok (.aload_n 0, 1) := by decide +kernel
theorem dX8_settles_26 : decode cX8_settles 26 = .ok (.getfield 56, 3) := by decide +kernel
theorem dX8_settles_29 : decode cX8_settles 29 = .ok (.iload_n 1, 1) := by decide +kernel
theorem dX8_settles_30 : decode cX8_settles 30 = .ok (.iconst (-1), 1) := by decide +kernel
theorem dX8_settles_31 : decode cX8_settles 31 = .ok (.iastore, 1) := by decide +kernel
theorem dX8_settles_32 : decode cX8_settles 32 = .ok (.aload_n 0, 1) := by decide +kernel
theorem dX8_settles_33 : decode cX8_settles 33 = .ok (.getfield 59, 3) := by decide +kernel
theorem dX8_settles_36 : decode cX8_settles 36 = .ok (.iload_n 1, 1) := by decide +kernel
theorem dX8_settles_37 : decode cX8_settles 37 = .ok (.iconst 0, 1) := by decide +kernel
theorem dX8_settles_38 : decode cX8_settles 38 = .ok (.bastore, 1) := by decide +kernel
theorem dX8_settles_39 : decode cX8_settles 39 = .ok (.iinc 1 1, 3) := by decide +kernel
theorem dX8_settles_42 : decode cX8_settles 42 = .ok (.goto (-40), 3) := by decide +kernel
theorem dX8_settles_45 : decode cX8_settles 45 = .ok (.aload_n 0, 1) := by decide +kernel
theorem dX8_settles_46 : decode cX8_settles 46 = .ok (.getfield 41, 3) := by decide +kernel
theorem dX8_settles_49 : decode cX8_settles 49 = .ok (.iconst 0, 1) := by decide +kernel
theorem dX8_settles_50 : decode cX8_settles 50 = .ok (.baload, 1) := by decide +kernel
theorem dX8_settles_51 : decode cX8_settles 51 = .ok (.ifCond .eq 7, 3) := by decide +kernel
theorem dX8_settles_54 : decode cX8_settles 54 = .ok (.iconst 0, 1) := by decide +kernel
theorem dX8_settles_55 : decode cX8_settles 55 = .ok (.goto 4, 3) := by decide +kernel
theorem dX8_settles_58 : decode cX8_settles 58 = .ok (.iconst (-1), 1) := by decide +kernel
theorem dX8_settles_59 : decode cX8_settles 59 = .ok (.istore_n 1, 1) := by decide +kernel
theorem dX8_settles_60 : decode cX8_settles 60 = .ok (.iload_n 1, 1) := by decide +kernel
theorem dX8_settles_61 : decode cX8_settles 61 = .ok (.iconst (-1), 1) := by decide +kernel
theorem dX8_settles_62 : decode cX8_settles 62 = .ok (.if_icmp .eq 147, 3) := by decide +kernel
theorem dX8_settles_65 : decode cX8_settles 65 = .ok (.aload_n 0, 1) := by decide +kernel
theorem dX8_settles_66 : decode cX8_settles 66 = .ok (.getfield 59, 3) := by decide +kernel
theorem dX8_settles_69 : decode cX8_settles 69 = .ok (.iload_n 1, 1) := by decide +kernel
theorem dX8_settles_70 : decode cX8_settles 70 = .ok (.iconst 1, 1) := by decide +kernel
theorem dX8_settles_71 : decode cX8_settles 71 = .ok (.bastore, 1) := by decide +kernel
theorem dX8_settles_72 : decode cX8_settles 72 = .ok (.iconst (-1), 1) := by decide +kernel
theorem dX8_settles_73 : decode cX8_settles 73 = .ok (.istore_n 2, 1) := by decide +kernel
theorem dX8_settles_74 : decode cX8_settles 74 = .ok (.iconst 0, 1) := by decide +kernel
theorem dX8_settles_75 : decode cX8_settles 75 = .ok (.istore_n 3, 1) := by decide +kernel
theorem dX8_settles_76 : decode cX8_settles 76 = .ok (.iload_n 3, 1) := by decide +kernel
theorem dX8_settles_77 : decode cX8_settles 77 = .ok (.aload_n 0, 1) := by decide +kernel
theorem dX8_settles_78 : decode cX8_settles 78 = .ok (.getfield 214, 3) := by decide +kernel
theorem dX8_settles_81 : decode cX8_settles 81 = .ok (.if_icmp .ge 123, 3) := by decide +kernel
theorem dX8_settles_84 : decode cX8_settles 84 = .ok (.aload_n 0, 1) := by decide +kernel
theorem dX8_settles_85 : decode cX8_settles 85 = .ok (.getfield 41, 3) := by decide +kernel
theorem dX8_settles_88 : decode cX8_settles 88 = .ok (.iload_n 3, 1) := by decide +kernel
theorem dX8_settles_89 : decode cX8_settles 89 = .ok (.baload, 1) := by decide +kernel
theorem dX8_settles_90 : decode cX8_settles 90 = .ok (.ifCond .eq 108, 3) := by decide +kernel
theorem dX8_settles_93 : decode cX8_settles 93 = .ok (.aload_n 0, 1) := by decide +kernel
theorem dX8_settles_94 : decode cX8_settles 94 = .ok (.getfield 59, 3) := by decide +kernel
theorem dX8_settles_97 : decode cX8_settles 97 = .ok (.iload_n 3, 1) := by decide +kernel
theorem dX8_settles_98 : decode cX8_settles 98 = .ok (.baload, 1) := by decide +kernel
theorem dX8_settles_99 : decode cX8_settles 99 = .ok (.ifCond .ne 99, 3) := by decide +kernel
theorem dX8_settles_102 : decode cX8_settles 102 = .ok (.aload_n 0, 1) := by decide +kernel
theorem dX8_settles_103 : decode cX8_settles 103 = .ok (.iload_n 1, 1) := by decide +kernel
theorem dX8_settles_104 : decode cX8_settles 104 = .ok (.iload_n 3, 1) := by decide +kernel
theorem dX8_settles_105 : decode cX8_settles 105 = .ok (.invokevirtual 233, 3) := by decide +kernel
theorem dX8_settles_108 : decode cX8_settles 108 = .ok (.istore 4, 2) := by decide +kernel
theorem dX8_settles_110 : decode cX8_settles 110 = .ok (.iload 4, 2) := by decide +kernel
theorem dX8_settles_112 : decode cX8_settles 112 = .ok (.iconst (-1), 1) := by decide +kernel
theorem dX8_settles_113 : decode cX8_settles 113 = .ok (.if_icmp .eq 53, 3) := by decide +kernel
theorem dX8_settles_116 : decode cX8_settles 116 = .ok (.aload_n 0, 1) := by decide +kernel
theorem dX8_settles_117 : decode cX8_settles 117 = .ok (.getfield 53, 3) := by decide +kernel
theorem dX8_settles_120 : decode cX8_settles 120 = .ok (.iload_n 3, 1) := by decide +kernel
theorem dX8_settles_121 : decode cX8_settles 121 = .ok (.iaload, 1) := by decide +kernel
theorem dX8_settles_122 : decode cX8_settles 122 = .ok (.iconst (-1), 1) := by decide +kernel
theorem dX8_settles_123 : decode cX8_settles 123 = .ok (.if_icmp .eq 21, 3) := by decide +kernel
theorem dX8_settles_126 : decode cX8_settles 126 = .ok (.aload_n 0, 1) := by decide +kernel
theorem dX8_settles_127 : decode cX8_settles 127 = .ok (.getfield 53, 3) := by decide +kernel
theorem dX8_settles_130 : decode cX8_settles 130 = .ok (.iload_n 1, 1) := by decide +kernel
theorem dX8_settles_131 : decode cX8_settles 131 = .ok (.iaload, 1) := by decide +kernel
theorem dX8_settles_132 : decode cX8_settles 132 = .ok (.iload 4, 2) := by decide +kernel
theorem dX8_settles_134 : decode cX8_settles 134 = .ok (.iadd, 1) := by decide +kernel
theorem dX8_settles_135 : decode cX8_settles 135 = .ok (.aload_n 0, 1) := by decide +kernel
theorem dX8_settles_136 : decode cX8_settles 136 = .ok (.getfield 53, 3) := by decide +kernel
theorem dX8_settles_139 : decode cX8_settles 139 = .ok (.iload_n 3, 1) := by decide +kernel
theorem dX8_settles_140 : decode cX8_settles 140 = .ok (.iaload, 1) := by decide +kernel
theorem dX8_settles_141 : decode cX8_settles 141 = .ok (.if_icmp .ge 25, 3) := by decide +kernel
theorem dX8_settles_144 : decode cX8_settles 144 = .ok (.aload_n 0, 1) := by decide +kernel
theorem dX8_settles_145 : decode cX8_settles 145 = .ok (.getfield 53, 3) := by decide +kernel
theorem dX8_settles_148 : decode cX8_settles 148 = .ok (.iload_n 3, 1) := by decide +kernel
theorem dX8_settles_149 : decode cX8_settles 149 = .ok (.aload_n 0, 1) := by decide +kernel
theorem dX8_settles_150 : decode cX8_settles 150 = .ok (.getfield 53, 3) := by decide +kernel
theorem dX8_settles_153 : decode cX8_settles 153 = .ok (.iload_n 1, 1) := by decide +kernel
theorem dX8_settles_154 : decode cX8_settles 154 = .ok (.iaload, 1) := by decide +kernel
theorem dX8_settles_155 : decode cX8_settles 155 = .ok (.iload 4, 2) := by decide +kernel
theorem dX8_settles_157 : decode cX8_settles 157 = .ok (.iadd, 1) := by decide +kernel
theorem dX8_settles_158 : decode cX8_settles 158 = .ok (.iastore, 1) := by decide +kernel
theorem dX8_settles_159 : decode cX8_settles 159 = .ok (.aload_n 0, 1) := by decide +kernel
theorem dX8_settles_160 : decode cX8_settles 160 = .ok (.getfield 56, 3) := by decide +kernel
theorem dX8_settles_163 : decode cX8_settles 163 = .ok (.iload_n 3, 1) := by decide +kernel
theorem dX8_settles_164 : decode cX8_settles 164 = .ok (.iload_n 1, 1) := by decide +kernel
theorem dX8_settles_165 : decode cX8_settles 165 = .ok (.iastore, 1) := by decide +kernel
theorem dX8_settles_166 : decode cX8_settles 166 = .ok (.aload_n 0, 1) := by decide +kernel
theorem dX8_settles_167 : decode cX8_settles 167 = .ok (.getfield 53, 3) := by decide +kernel
theorem dX8_settles_170 : decode cX8_settles 170 = .ok (.iload_n 3, 1) := by decide +kernel
theorem dX8_settles_171 : decode cX8_settles 171 = .ok (.iaload, 1) := by decide +kernel
theorem dX8_settles_172 : decode cX8_settles 172 = .ok (.iconst (-1), 1) := by decide +kernel
theorem dX8_settles_173 : decode cX8_settles 173 = .ok (.if_icmp .eq 25, 3) := by decide +kernel
theorem dX8_settles_176 : decode cX8_settles 176 = .ok (.iload_n 2, 1) := by decide +kernel
theorem dX8_settles_177 : decode cX8_settles 177 = .ok (.iconst (-1), 1) := by decide +kernel
theorem dX8_settles_178 : decode cX8_settles 178 = .ok (.if_icmp .eq 18, 3) := by decide +kernel
theorem dX8_settles_181 : decode cX8_settles 181 = .ok (.aload_n 0, 1) := by decide +kernel
theorem dX8_settles_182 : decode cX8_settles 182 = .ok (.getfield 53, 3) := by decide +kernel
theorem dX8_settles_185 : decode cX8_settles 185 = .ok (.iload_n 3, 1) := by decide +kernel
theorem dX8_settles_186 : decode cX8_settles 186 = .ok (.iaload, 1) := by decide +kernel
theorem dX8_settles_187 : decode cX8_settles 187 = .ok (.aload_n 0, 1) := by decide +kernel
theorem dX8_settles_188 : decode cX8_settles 188 = .ok (.getfield 53, 3) := by decide +kernel
theorem dX8_settles_191 : decode cX8_settles 191 = .ok (.iload_n 2, 1) := by decide +kernel
theorem dX8_settles_192 : decode cX8_settles 192 = .ok (.iaload, 1) := by decide +kernel
theorem dX8_settles_193 : decode cX8_settles 193 = .ok (.if_icmp .ge 5, 3) := by decide +kernel
theorem dX8_settles_196 : decode cX8_settles 196 = .ok (.iload_n 3, 1) := by decide +kernel
theorem dX8_settles_197 : decode cX8_settles 197 = .ok (.istore_n 2, 1) := by decide +kernel
theorem dX8_settles_198 : decode cX8_settles 198 = .ok (.iinc 3 1, 3) := by decide +kernel
theorem dX8_settles_201 : decode cX8_settles 201 = .ok (.goto (-125), 3) := by decide +kernel
theorem dX8_settles_204 : decode cX8_settles 204 = .ok (.iload_n 2, 1) := by decide +kernel
theorem dX8_settles_205 : decode cX8_settles 205 = .ok (.istore_n 1, 1) := by decide +kernel
theorem dX8_settles_206 : decode cX8_settles 206 = .ok (.goto (-146), 3) := by decide +kernel
theorem dX8_settles_209 : decode cX8_settles 209 = .ok (.return_, 1) := by decide +kernel
theorem dX8_readBack_0 : decode cX8_readBack 0 = .ok (.aload_n 0, 1) := by decide +kernel
theorem dX8_readBack_1 : decode cX8_readBack 1 = .ok (.iconst 0, 1) := by decide +kernel
theorem dX8_readBack_2 : decode cX8_readBack 2 = .ok (.putfield 237, 3) := by decide +kernel
theorem dX8_readBack_5 : decode cX8_readBack 5 = .ok (.iconst 1, 1) := by decide +kernel
theorem dX8_readBack_6 : decode cX8_readBack 6 = .ok (.istore_n 1, 1) := by decide +kernel
theorem dX8_readBack_7 : decode cX8_readBack 7 = .ok (.iload_n 1, 1) := by decide +kernel
theorem dX8_readBack_8 : decode cX8_readBack 8 = .ok (.iconst (-1), 1) := by decide +kernel
theorem dX8_readBack_9 : decode cX8_readBack 9 = .ok (.if_icmp .eq 23, 3) := by decide +kernel
theorem dX8_readBack_12 : decode cX8_readBack 12 = .ok (.aload_n 0, 1) := by decide +kernel
theorem dX8_readBack_13 : decode cX8_readBack 13 = .ok (.dup, 1) := by decide +kernel
theorem dX8_readBack_14 : decode cX8_readBack 14 = .ok (.getfield 237, 3) := by decide +kernel
theorem dX8_readBack_17 : decode cX8_readBack 17 = .ok (.iconst 1, 1) := by decide +kernel
theorem dX8_readBack_18 : decode cX8_readBack 18 = .ok (.iadd, 1) := by decide +kernel
theorem dX8_readBack_19 : decode cX8_readBack 19 = .ok (.putfield 237, 3) := by decide +kernel
theorem dX8_readBack_22 : decode cX8_readBack 22 = .ok (.aload_n 0, 1) := by decide +kernel
theorem dX8_readBack_23 : decode cX8_readBack 23 = .ok (.getfield 56, 3) := by decide +kernel
theorem dX8_readBack_26 : decode cX8_readBack 26 = .ok (.iload_n 1, 1) := by decide +kernel
theorem dX8_readBack_27 : decode cX8_readBack 27 = .ok (.iaload, 1) := by decide +kernel
theorem dX8_readBack_28 : decode cX8_readBack 28 = .ok (.istore_n 1, 1) := by decide +kernel
theorem dX8_readBack_29 : decode cX8_readBack 29 = .ok (.goto (-22), 3) := by decide +kernel
theorem dX8_readBack_32 : decode cX8_readBack 32 = .ok (.aload_n 0, 1) := by decide +kernel
theorem dX8_readBack_33 : decode cX8_readBack 33 = .ok (.getfield 237, 3) := by decide +kernel
theorem dX8_readBack_36 : decode cX8_readBack 36 = .ok (.istore_n 1, 1) := by decide +kernel
theorem dX8_readBack_37 : decode cX8_readBack 37 = .ok (.iconst 1, 1) := by decide +kernel
theorem dX8_readBack_38 : decode cX8_readBack 38 = .ok (.istore_n 2, 1) := by decide +kernel
theorem dX8_readBack_39 : decode cX8_readBack 39 = .ok (.iload_n 2, 1) := by decide +kernel
theorem dX8_readBack_40 : decode cX8_readBack 40 = .ok (.iconst (-1), 1) := by decide +kernel
theorem dX8_readBack_41 : decode cX8_readBack 41 = .ok (.if_icmp .eq 23, 3) := by decide +kernel
theorem dX8_readBack_44 : decode cX8_readBack 44 = .ok (.iinc 1 (-1), 3) := by decide +kernel
theorem dX8_readBack_47 : decode cX8_readBack 47 = .ok (.aload_n 0, 1) := by decide +kernel
theorem dX8_readBack_48 : decode cX8_readBack 48 = .ok (.getfield 62, 3) := by decide +kernel
theorem dX8_readBack_51 : decode cX8_readBack 51 = .ok (.iload_n 1, 1) := by decide +kernel
theorem dX8_readBack_52 : decode cX8_readBack 52 = .ok (.iload_n 2, 1) := by decide +kernel
theorem dX8_readBack_53 : decode cX8_readBack 53 = .ok (.iastore, 1) := by decide +kernel
theorem dX8_readBack_54 : decode cX8_readBack 54 = .ok (.aload_n 0, 1) := by decide +kernel
theorem dX8_readBack_55 : decode cX8_readBack 55 = .ok (.getfield 56, 3) := by decide +kernel
theorem dX8_readBack_58 : decode cX8_readBack 58 = .ok (.iload_n 2, 1) := by decide +kernel
theorem dX8_readBack_59 : decode cX8_readBack 59 = .ok (.iaload, 1) := by decide +kernel
theorem dX8_readBack_60 : decode cX8_readBack 60 = .ok (.istore_n 2, 1) := by decide +kernel
theorem dX8_readBack_61 : decode cX8_readBack 61 = .ok (.goto (-22), 3) := by decide +kernel
theorem dX8_readBack_64 : decode cX8_readBack 64 = .ok (.return_, 1) := by decide +kernel
