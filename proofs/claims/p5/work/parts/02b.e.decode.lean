theorem dX8_enters_141 : decode cX8_enters 141 = .ok (.aload_n 0, 1) := by decide +kernel
theorem dX8_enters_142 : decode cX8_enters 142 = .ok (.getfield 158, 3) := by decide +kernel
theorem dX8_enters_145 : decode cX8_enters 145 = .ok (.aload_n 0, 1) := by decide +kernel
theorem dX8_enters_146 : decode cX8_enters 146 = .ok (.getfield 164, 3) := by decide +kernel
theorem dX8_enters_149 : decode cX8_enters 149 = .ok (.iload_n 3, 1) := by decide +kernel
theorem dX8_enters_150 : decode cX8_enters 150 = .ok (.iload 5, 2) := by decide +kernel
theorem dX8_enters_152 : decode cX8_enters 152 = .ok (.invokevirtual 180, 3) := by decide +kernel
theorem dX8_enters_155 : decode cX8_enters 155 = .ok (.pop, 1) := by decide +kernel
theorem dX8_enters_156 : decode cX8_enters 156 = .ok (.aload_n 0, 1) := by decide +kernel
theorem dX8_enters_157 : decode cX8_enters 157 = .ok (.getfield 174, 3) := by decide +kernel
theorem dX8_enters_160 : decode cX8_enters 160 = .ok (.aload_n 0, 1) := by decide +kernel
theorem dX8_enters_161 : decode cX8_enters 161 = .ok (.getfield 177, 3) := by decide +kernel
theorem dX8_enters_164 : decode cX8_enters 164 = .ok (.if_icmp .ge 25, 3) := by decide +kernel
theorem dX8_enters_167 : decode cX8_enters 167 = .ok (.aload_n 0, 1) := by decide +kernel
theorem dX8_enters_168 : decode cX8_enters 168 = .ok (.getfield 174, 3) := by decide +kernel
theorem dX8_enters_171 : decode cX8_enters 171 = .ok (.aload_n 0, 1) := by decide +kernel
theorem dX8_enters_172 : decode cX8_enters 172 = .ok (.getfield 171, 3) := by decide +kernel
theorem dX8_enters_175 : decode cX8_enters 175 = .ok (.if_icmp .ge 14, 3) := by decide +kernel
theorem dX8_enters_178 : decode cX8_enters 178 = .ok (.aload_n 0, 1) := by decide +kernel
theorem dX8_enters_179 : decode cX8_enters 179 = .ok (.getfield 177, 3) := by decide +kernel
theorem dX8_enters_182 : decode cX8_enters 182 = .ok (.ifCond .le 7, 3) := by decide +kernel
theorem dX8_enters_185 : decode cX8_enters 185 = .ok (.iconst 1, 1) := by decide +kernel
theorem dX8_enters_186 : decode cX8_enters 186 = .ok (.goto 4, 3) := by decide +kernel
theorem dX8_enters_189 : decode cX8_enters 189 = .ok (.iconst 0, 1) := by decide +kernel
theorem dX8_enters_190 : decode cX8_enters 190 = .ok (.ireturn, 1) := by decide +kernel
theorem dX8_findNodes_0 : decode cX8_findNodes 0 = .ok (.aload_n 0, 1) := by decide +kernel
theorem dX8_findNodes_1 : decode cX8_findNodes 1 = .ok (.iconst 0, 1) := by decide +kernel
theorem dX8_findNodes_2 : decode cX8_findNodes 2 = .ok (.putfield 214, 3) := by decide +kernel
theorem dX8_findNodes_5 : decode cX8_findNodes 5 = .ok (.aload_n 0, 1) := by decide +kernel
theorem dX8_findNodes_6 : decode cX8_findNodes 6 = .ok (.iload_n 1, 1) := by decide +kernel
theorem dX8_findNodes_7 : decode cX8_findNodes 7 = .ok (.iload_n 2, 1) := by decide +kernel
theorem dX8_findNodes_8 : decode cX8_findNodes 8 = .ok (.iload_n 3, 1) := by decide +kernel
theorem dX8_findNodes_9 : decode cX8_findNodes 9 = .ok (.invokevirtual 217, 3) := by decide +kernel
theorem dX8_findNodes_12 : decode cX8_findNodes 12 = .ok (.aload_n 0, 1) := by decide +kernel
theorem dX8_findNodes_13 : decode cX8_findNodes 13 = .ok (.iload 4, 2) := by decide +kernel
theorem dX8_findNodes_15 : decode cX8_findNodes 15 = .ok (.iload 5, 2) := by decide +kernel
theorem dX8_findNodes_17 : decode cX8_findNodes 17 = .ok (.iload 6, 2) := by decide +kernel
theorem dX8_findNodes_19 : decode cX8_findNodes 19 = .ok (.invokevirtual 217, 3) := by decide +kernel
theorem dX8_findNodes_22 : decode cX8_findNodes 22 = .ok (.iconst 0, 1) := by decide +kernel
theorem dX8_findNodes_23 : decode cX8_findNodes 23 = .ok (.istore 7, 2) := by decide +kernel
theorem dX8_findNodes_25 : decode cX8_findNodes 25 = .ok (.iload 7, 2) := by decide +kernel
theorem dX8_findNodes_27 : decode cX8_findNodes 27 = .ok (.aload_n 0, 1) := by decide +kernel
theorem dX8_findNodes_28 : decode cX8_findNodes 28 = .ok (.getfield 121, 3) := by decide +kernel
theorem dX8_findNodes_31 : decode cX8_findNodes 31 = .ok (.if_icmp .ge 19, 3) := by decide +kernel
theorem dX8_findNodes_34 : decode cX8_findNodes 34 = .ok (.aload_n 0, 1) := by decide +kernel
theorem dX8_findNodes_35 : decode cX8_findNodes 35 = .ok (.aload_n 0, 1) := by decide +kernel
theorem dX8_findNodes_36 : decode cX8_findNodes 36 = .ok (.getfield 7, 3) := by decide +kernel
theorem dX8_findNodes_39 : decode cX8_findNodes 39 = .ok (.iload 7, 2) := by decide +kernel
theorem dX8_findNodes_41 : decode cX8_findNodes 41 = .ok (.invokevirtual 221, 3) := by decide +kernel
theorem dX8_findNodes_44 : decode cX8_findNodes 44 = .ok (.iinc 7 1, 3) := by decide +kernel
theorem dX8_findNodes_47 : decode cX8_findNodes 47 = .ok (.goto (-22), 3) := by decide +kernel
theorem dX8_findNodes_50 : decode cX8_findNodes 50 = .ok (.iconst 0, 1) := by decide +kernel
theorem dX8_findNodes_51 : decode cX8_findNodes 51 = .ok (.istore 7, 2) := by decide +kernel
theorem dX8_findNodes_53 : decode cX8_findNodes 53 = .ok (.iload 7, 2) := by decide +kernel
theorem dX8_findNodes_55 : decode cX8_findNodes 55 = .ok (.bipush 8, 2) := by decide +kernel
theorem dX8_findNodes_57 : decode cX8_findNodes 57 = .ok (.if_icmp .ge 29, 3) := by decide +kernel
theorem dX8_findNodes_60 : decode cX8_findNodes 60 = .ok (.aload_n 0, 1) := by decide +kernel
theorem dX8_findNodes_61 : decode cX8_findNodes 61 = .ok (.getfield 13, 3) := by decide +kernel
theorem dX8_findNodes_64 : decode cX8_findNodes 64 = .ok (.iload 7, 2) := by decide +kernel
theorem dX8_findNodes_66 : decode cX8_findNodes 66 = .ok (.baload, 1) := by decide +kernel
theorem dX8_findNodes_67 : decode cX8_findNodes 67 = .ok (.ifCond .eq 13, 3) := by decide +kernel
theorem dX8_findNodes_70 : decode cX8_findNodes 70 = .ok (.aload_n 0, 1) := by decide +kernel
theorem dX8_findNodes_71 : decode cX8_findNodes 71 = .ok (.aload_n 0, 1) := by decide +kernel
theorem dX8_findNodes_72 : decode cX8_findNodes 72 = .ok (.getfield 17, 3) := by decide +kernel
theorem dX8_findNodes_75 : decode cX8_findNodes 75 = .ok (.iload 7, 2) := by decide +kernel
theorem dX8_findNodes_77 : decode cX8_findNodes 77 = .ok (.invokevirtual 221, 3) := by decide +kernel
theorem dX8_findNodes_80 : decode cX8_findNodes 80 = .ok (.iinc 7 1, 3) := by decide +kernel
theorem dX8_findNodes_83 : decode cX8_findNodes 83 = .ok (.goto (-30), 3) := by decide +kernel
theorem dX8_findNodes_86 : decode cX8_findNodes 86 = .ok (.iconst 0, 1) := by decide +kernel
theorem dX8_findNodes_87 : decode cX8_findNodes 87 = .ok (.istore 7, 2) := by decide +kernel
theorem dX8_findNodes_89 : decode cX8_findNodes 89 = .ok (.iload 7, 2) := by decide +kernel
theorem dX8_findNodes_91 : decode cX8_findNodes 91 = .ok (.aload_n 0, 1) := by decide +kernel
theorem dX8_findNodes_92 : decode cX8_findNodes 92 = .ok (.getfield 146, 3) := by decide +kernel
theorem dX8_findNodes_95 : decode cX8_findNodes 95 = .ok (.if_icmp .ge 87, 3) := by decide +kernel
theorem dX8_findNodes_98 : decode cX8_findNodes 98 = .ok (.aload_n 0, 1) := by decide +kernel
theorem dX8_findNodes_99 : decode cX8_findNodes 99 = .ok (.aload_n 0, 1) := by decide +kernel
theorem dX8_findNodes_100 : decode cX8_findNodes 100 = .ok (.getfield 32, 3) := by decide +kernel
theorem dX8_findNodes_103 : decode cX8_findNodes 103 = .ok (.bipush 7, 2) := by decide +kernel
theorem dX8_findNodes_105 : decode cX8_findNodes 105 = .ok (.iload 7, 2) := by decide +kernel
theorem dX8_findNodes_107 : decode cX8_findNodes 107 = .ok (.imul, 1) := by decide +kernel
theorem dX8_findNodes_108 : decode cX8_findNodes 108 = .ok (.iaload, 1) := by decide +kernel
theorem dX8_findNodes_109 : decode cX8_findNodes 109 = .ok (.aload_n 0, 1) := by decide +kernel
theorem dX8_findNodes_110 : decode cX8_findNodes 110 = .ok (.getfield 32, 3) := by decide +kernel
theorem dX8_findNodes_113 : decode cX8_findNodes 113 = .ok (.bipush 7, 2) := by decide +kernel
theorem dX8_findNodes_115 : decode cX8_findNodes 115 = .ok (.iload 7, 2) := by decide +kernel
theorem dX8_findNodes_117 : decode cX8_findNodes 117 = .ok (.imul, 1) := by decide +kernel
theorem dX8_findNodes_118 : decode cX8_findNodes 118 = .ok (.iconst 1, 1) := by decide +kernel
theorem dX8_findNodes_119 : decode cX8_findNodes 119 = .ok (.iadd, 1) := by decide +kernel
theorem dX8_findNodes_120 : decode cX8_findNodes 120 = .ok (.iaload, 1) := by decide +kernel
theorem dX8_findNodes_121 : decode cX8_findNodes 121 = .ok (.aload_n 0, 1) := by decide +kernel
theorem dX8_findNodes_122 : decode cX8_findNodes 122 = .ok (.getfield 32, 3) := by decide +kernel
theorem dX8_findNodes_125 : decode cX8_findNodes 125 = .ok (.bipush 7, 2) := by decide +kernel
theorem dX8_findNodes_127 : decode cX8_findNodes 127 = .ok (.iload 7, 2) := by decide +kernel
theorem dX8_findNodes_129 : decode cX8_findNodes 129 = .ok (.imul, 1) := by decide +kernel
theorem dX8_findNodes_130 : decode cX8_findNodes 130 = .ok (.iconst 2, 1) := by decide +kernel
theorem dX8_findNodes_131 : decode cX8_findNodes 131 = .ok (.iadd, 1) := by decide +kernel
theorem dX8_findNodes_132 : decode cX8_findNodes 132 = .ok (.iaload, 1) := by decide +kernel
theorem dX8_findNodes_133 : decode cX8_findNodes 133 = .ok (.invokevirtual 217, 3) := by decide +kernel
theorem dX8_findNodes_136 : decode cX8_findNodes 136 = .ok (.aload_n 0, 1) := by decide +kernel
theorem dX8_findNodes_137 : decode cX8_findNodes 137 = .ok (.aload_n 0, 1) := by decide +kernel
theorem dX8_findNodes_138 : decode cX8_findNodes 138 = .ok (.getfield 32, 3) := by decide +kernel
theorem dX8_findNodes_141 : decode cX8_findNodes 141 = .ok (.bipush 7, 2) := by decide +kernel
theorem dX8_findNodes_143 : decode cX8_findNodes 143 = .ok (.iload 7, 2) := by decide +kernel
theorem dX8_findNodes_145 : decode cX8_findNodes 145 = .ok (.imul, 1) := by decide +kernel
theorem dX8_findNodes_146 : decode cX8_findNodes 146 = .ok (.iconst 3, 1) := by decide +kernel
theorem dX8_findNodes_147 : decode cX8_findNodes 147 = .ok (.iadd, 1) := by decide +kernel
theorem dX8_findNodes_148 : decode cX8_findNodes 148 = .ok (.iaload, 1) := by decide +kernel
theorem dX8_findNodes_149 : decode cX8_findNodes 149 = .ok (.aload_n 0, 1) := by decide +kernel
theorem dX8_findNodes_150 : decode cX8_findNodes 150 = .ok (.getfield 32, 3) := by decide +kernel
theorem dX8_findNodes_153 : decode cX8_findNodes 153 = .ok (.bipush 7, 2) := by decide +kernel
theorem dX8_findNodes_155 : decode cX8_findNodes 155 = .ok (.iload 7, 2) := by decide +kernel
theorem dX8_findNodes_157 : decode cX8_findNodes 157 = .ok (.imul, 1) := by decide +kernel
theorem dX8_findNodes_158 : decode cX8_findNodes 158 = .ok (.iconst 4, 1) := by decide +kernel
theorem dX8_findNodes_159 : decode cX8_findNodes 159 = .ok (.iadd, 1) := by decide +kernel
theorem dX8_findNodes_160 : decode cX8_findNodes 160 = .ok (.iaload, 1) := by decide +kernel
theorem dX8_findNodes_161 : decode cX8_findNodes 161 = .ok (.aload_n 0, 1) := by decide +kernel
theorem dX8_findNodes_162 : decode cX8_findNodes 162 = .ok (.getfield 32, 3) := by decide +kernel
theorem dX8_findNodes_165 : decode cX8_findNodes 165 = .ok (.bipush 7, 2) := by decide +kernel
theorem dX8_findNodes_167 : decode cX8_findNodes 167 = .ok (.iload 7, 2) := by decide +kernel
theorem dX8_findNodes_169 : decode cX8_findNodes 169 = .ok (.imul, 1) := by decide +kernel
theorem dX8_findNodes_170 : decode cX8_findNodes 170 = .ok (.iconst 5, 1) := by decide +kernel
theorem dX8_findNodes_171 : decode cX8_findNodes 171 = .ok (.iadd, 1) := by decide +kernel
theorem dX8_findNodes_172 : decode cX8_findNodes 172 = .ok (.iaload, 1) := by decide +kernel
theorem dX8_findNodes_173 : decode cX8_findNodes 173 = .ok (.invokevirtual 217, 3) := by decide +kernel
theorem dX8_findNodes_176 : decode cX8_findNodes 176 = .ok (.iinc 7 1, 3) := by decide +kernel
theorem dX8_findNodes_179 : decode cX8_findNodes 179 = .ok (.goto (-90), 3) := by decide +kernel
theorem dX8_findNodes_182 : decode cX8_findNodes 182 = .ok (.return_, 1) := by decide +kernel
theorem dX8_follows_0 : decode cX8_follows 0 = .ok (.aload_n 0, 1) := by decide +kernel
theorem dX8_follows_1 : decode cX8_follows 1 = .ok (.invokevirtual 247, 3) := by decide +kernel
theorem dX8_follows_4 : decode cX8_follows 4 = .ok (.aload_n 0, 1) := by decide +kernel
theorem dX8_follows_5 : decode cX8_follows 5 = .ok (.getfield 83, 3) := by decide +kernel
theorem dX8_follows_8 : decode cX8_follows 8 = .ok (.iload_n 1, 1) := by decide +kernel
theorem dX8_follows_9 : decode cX8_follows 9 = .ok (.aload_n 0, 1) := by decide +kernel
theorem dX8_follows_10 : decode cX8_follows 10 = .ok (.getfield 237, 3) := by decide +kernel
theorem dX8_follows_13 : decode cX8_follows 13 = .ok (.iconst 1, 1) := by decide +kernel
theorem dX8_follows_14 : decode cX8_follows 14 = .ok (.isub, 1) := by decide +kernel
theorem dX8_follows_15 : decode cX8_follows 15 = .ok (.iastore, 1) := by decide +kernel
theorem dX8_follows_16 : decode cX8_follows 16 = .ok (.iconst 1, 1) := by decide +kernel
theorem dX8_follows_17 : decode cX8_follows 17 = .ok (.istore_n 2, 1) := by decide +kernel
theorem dX8_follows_18 : decode cX8_follows 18 = .ok (.iload_n 2, 1) := by decide +kernel
theorem dX8_follows_19 : decode cX8_follows 19 = .ok (.aload_n 0, 1) := by decide +kernel
theorem dX8_follows_20 : decode cX8_follows 20 = .ok (.getfield 237, 3) := by decide +kernel
theorem dX8_follows_23 : decode cX8_follows 23 = .ok (.if_icmp .ge 81, 3) := by decide +kernel
theorem dX8_follows_26 : decode cX8_follows 26 = .ok (.aload_n 0, 1) := by decide +kernel
theorem dX8_follows_27 : decode cX8_follows 27 = .ok (.getfield 86, 3) := by decide +kernel
theorem dX8_follows_30 : decode cX8_follows 30 = .ok (.bipush 94, 2) := by decide +kernel
theorem dX8_follows_32 : decode cX8_follows 32 = .ok (.iload_n 1, 1) := by decide +kernel
theorem dX8_follows_33 : decode cX8_follows 33 = .ok (.imul, 1) := by decide +kernel
theorem dX8_follows_34 : decode cX8_follows 34 = .ok (.iload_n 2, 1) := by decide +kernel
theorem dX8_follows_35 : decode cX8_follows 35 = .ok (.iadd, 1) := by decide +kernel
theorem dX8_follows_36 : decode cX8_follows 36 = .ok (.iconst 1, 1) := by decide +kernel
theorem dX8_follows_37 : decode cX8_follows 37 = .ok (.isub, 1) := by decide +kernel
theorem dX8_follows_38 : decode cX8_follows 38 = .ok (.aload_n 0, 1) := by decide +kernel
theorem dX8_follows_39 : decode cX8_follows 39 = .ok (.getfield 44, 3) := by decide +kernel
theorem dX8_follows_42 : decode cX8_follows 42 = .ok (.aload_n 0, 1) := by decide +kernel
theorem dX8_follows_43 : decode cX8_follows 43 = .ok (.getfield 62, 3) := by decide +kernel
theorem dX8_follows_46 : decode cX8_follows 46 = .ok (.iload_n 2, 1) := by decide +kernel
theorem dX8_follows_47 : decode cX8_follows 47 = .ok (.iaload, 1) := by decide +kernel
theorem dX8_follows_48 : decode cX8_follows 48 = .ok (.iaload, 1) := by decide +kernel
theorem dX8_follows_49 : decode cX8_follows 49 = .ok (.iastore, 1) := by decide +kernel
theorem dX8_follows_50 : decode cX8_follows 50 = .ok (.aload_n 0, 1) := by decide +kernel
theorem dX8_follows_51 : decode cX8_follows 51 = .ok (.getfield 89, 3) := by decide +kernel
theorem dX8_follows_54 : decode cX8_follows 54 = .ok (.bipush 94, 2) := by decide +kernel
theorem dX8_follows_56 : decode cX8_follows 56 = .ok (.iload_n 1, 1) := by decide +kernel
theorem dX8_follows_57 : decode cX8_follows 57 = .ok (.imul, 1) := by decide +kernel
theorem dX8_follows_58 : decode cX8_follows 58 = .ok (.iload_n 2, 1) := by decide +kernel
theorem dX8_follows_59 : decode cX8_follows 59 = .ok (.iadd, 1) := by decide +kernel
theorem dX8_follows_60 : decode cX8_follows 60 = .ok (.iconst 1, 1) := by decide +kernel
theorem dX8_follows_61 : decode cX8_follows 61 = .ok (.isub, 1) := by decide +kernel
theorem dX8_follows_62 : decode cX8_follows 62 = .ok (.aload_n 0, 1) := by decide +kernel
theorem dX8_follows_63 : decode cX8_follows 63 = .ok (.getfield 47, 3) := by decide +kernel
theorem dX8_follows_66 : decode cX8_follows 66 = .ok (.aload_n 0, 1) := by decide +kernel
theorem dX8_follows_67 : decode cX8_follows 67 = .ok (.getfield 62, 3) := by decide +kernel
theorem dX8_follows_70 : decode cX8_follows 70 = .ok (.iload_n 2, 1) := by decide +kernel
theorem dX8_follows_71 : decode cX8_follows 71 = .ok (.iaload, 1) := by decide +kernel
theorem dX8_follows_72 : decode cX8_follows 72 = .ok (.iaload, 1) := by decide +kernel
theorem dX8_follows_73 : decode cX8_follows 73 = .ok (.iastore, 1) := by decide +kernel
theorem dX8_follows_74 : decode cX8_follows 74 = .ok (.aload_n 0, 1) := by decide +kernel
theorem dX8_follows_75 : decode cX8_follows 75 = .ok (.getfield 92, 3) := by decide +kernel
theorem dX8_follows_78 : decode cX8_follows 78 = .ok (.bipush 94, 2) := by decide +kernel
theorem dX8_follows_80 : decode cX8_follows 80 = .ok (.iload_n 1, 1) := by decide +kernel
theorem dX8_follows_81 : decode cX8_follows 81 = .ok (.imul, 1) := by decide +kernel
theorem dX8_follows_82 : decode cX8_follows 82 = .ok (.iload_n 2, 1) := by decide +kernel
theorem dX8_follows_83 : decode cX8_follows 83 = .ok (.iadd, 1) := by decide +kernel
theorem dX8_follows_84 : decode cX8_follows 84 = .ok (.iconst 1, 1) := by decide +kernel
theorem dX8_follows_85 : decode cX8_follows 85 = .ok (.isub, 1) := by decide +kernel
theorem dX8_follows_86 : decode cX8_follows 86 = .ok (.aload_n 0, 1) := by decide +kernel
theorem dX8_follows_87 : decode cX8_follows 87 = .ok (.getfield 50, 3) := by decide +kernel
theorem dX8_follows_90 : decode cX8_follows 90 = .ok (.aload_n 0, 1) := by decide +kernel
theorem dX8_follows_91 : decode cX8_follows 91 = .ok (.getfield 62, 3) := by decide +kernel
theorem dX8_follows_94 : decode cX8_follows 94 = .ok (.iload_n 2, 1) := by decide +kernel
theorem dX8_follows_95 : decode cX8_follows 95 = .ok (.iaload, 1) := by decide +kernel
theorem dX8_follows_96 : decode cX8_follows 96 = .ok (.iaload, 1) := by decide +kernel
theorem dX8_follows_97 : decode cX8_follows 97 = .ok (.iastore, 1) := by decide +kernel
theorem dX8_follows_98 : decode cX8_follows 98 = .ok (.iinc 2 1, 3) := by decide +kernel
theorem dX8_follows_101 : decode cX8_follows 101 = .ok (.goto (-83), 3) := by decide +kernel
theorem dX8_follows_104 : decode cX8_follows 104 = .ok (.return_, 1) := by decide +kernel
theorem dX8_go_0 : decode cX8_go 0 = .ok (.aload_n 0, 1) := by decide +kernel
theorem dX8_go_1 : decode cX8_go 1 = .ok (.iload_n 1, 1) := by decide +kernel
theorem dX8_go_2 : decode cX8_go 2 = .ok (.invokevirtual 256, 3) := by decide +kernel
theorem dX8_go_5 : decode cX8_go 5 = .ok (.ifCond .eq 13, 3) := by decide +kernel
theorem dX8_go_8 : decode cX8_go 8 = .ok (.iload_n 2, 1) := by decide +kernel
theorem dX8_go_9 : decode cX8_go 9 = .ok (.iload_n 3, 1) := by decide +kernel
theorem dX8_go_10 : decode cX8_go 10 = .ok (.iload 4, 2) := by decide +kernel
theorem dX8_go_12 : decode cX8_go 12 = .ok (.invokestatic 114, 3) := by decide +kernel
theorem dX8_go_15 : decode cX8_go 15 = .ok (.ifCond .ne 6, 3) := by decide +kernel
theorem dX8_go_18 : decode cX8_go 18 = .ok (.bipush (-2), 2) := by decide +kernel
theorem dX8_go_20 : decode cX8_go 20 = .ok (.ireturn, 1) := by decide +kernel
theorem dX8_go_21 : decode cX8_go 21 = .ok (.aload_n 0, 1) := by decide +kernel
theorem dX8_go_22 : decode cX8_go 22 = .ok (.iload_n 2, 1) := by decide +kernel
theorem dX8_go_23 : decode cX8_go 23 = .ok (.iload_n 3, 1) := by decide +kernel
theorem dX8_go_24 : decode cX8_go 24 = .ok (.iload 4, 2) := by decide +kernel
theorem dX8_go_26 : decode cX8_go 26 = .ok (.invokevirtual 152, 3) := by decide +kernel
theorem dX8_go_29 : decode cX8_go 29 = .ok (.ifCond .ne 6, 3) := by decide +kernel
theorem dX8_go_32 : decode cX8_go 32 = .ok (.bipush (-3), 2) := by decide +kernel
theorem dX8_go_34 : decode cX8_go 34 = .ok (.ireturn, 1) := by decide +kernel
theorem dX8_go_35 : decode cX8_go 35 = .ok (.aload_n 0, 1) := by decide +kernel
theorem dX8_go_36 : decode cX8_go 36 = .ok (.getfield 98, 3) := by decide +kernel
theorem dX8_go_39 : decode cX8_go 39 = .ok (.iload_n 1, 1) := by decide +kernel
theorem dX8_go_40 : decode cX8_go 40 = .ok (.iconst 0, 1) := by decide +kernel
theorem dX8_go_41 : decode cX8_go 41 = .ok (.bastore, 1) := by decide +kernel
theorem dX8_go_42 : decode cX8_go 42 = .ok (.aload_n 0, 1) := by decide +kernel
theorem dX8_go_43 : decode cX8_go 43 = .ok (.getfield 95, 3) := by decide +kernel
theorem dX8_go_46 : decode cX8_go 46 = .ok (.iload_n 1, 1) := by decide +kernel
theorem dX8_go_47 : decode cX8_go 47 = .ok (.iconst 0, 1) := by decide +kernel
theorem dX8_go_48 : decode cX8_go 48 = .ok (.iastore, 1) := by decide +kernel
theorem dX8_go_49 : decode cX8_go 49 = .ok (.aload_n 0, 1) := by decide +kernel
theorem dX8_go_50 : decode cX8_go 50 = .ok (.getfield 83, 3) := by decide +kernel
theorem dX8_go_53 : decode cX8_go 53 = .ok (.iload_n 1, 1) := by decide +kernel
theorem dX8_go_54 : decode cX8_go 54 = .ok (.iconst 0, 1) := by decide +kernel
theorem dX8_go_55 : decode cX8_go 55 = .ok (.iastore, 1) := by decide +kernel
theorem dX8_go_56 : decode cX8_go 56 = .ok (.aload_n 0, 1) := by decide +kernel
theorem dX8_go_57 : decode cX8_go 57 = .ok (.aload_n 0, 1) := by decide +kernel
theorem dX8_go_58 : decode cX8_go 58 = .ok (.getfield 74, 3) := by decide +kernel
theorem dX8_go_61 : decode cX8_go 61 = .ok (.iload_n 1, 1) := by decide +kernel
theorem dX8_go_62 : decode cX8_go 62 = .ok (.iaload, 1) := by decide +kernel
theorem dX8_go_63 : decode cX8_go 63 = .ok (.aload_n 0, 1) := by decide +kernel
theorem dX8_go_64 : decode cX8_go 64 = .ok (.getfield 77, 3) := by decide +kernel
theorem dX8_go_67 : decode cX8_go 67 = .ok (.iload_n 1, 1) := by decide +kernel
theorem dX8_go_68 : decode cX8_go 68 = .ok (.iaload, 1) := by decide +kernel
theorem dX8_go_69 : decode cX8_go 69 = .ok (.aload_n 0, 1) := by decide +kernel
theorem dX8_go_70 : decode cX8_go 70 = .ok (.getfield 80, 3) := by decide +kernel
theorem dX8_go_73 : decode cX8_go 73 = .ok (.iload_n 1, 1) := by decide +kernel
theorem dX8_go_74 : decode cX8_go 74 = .ok (.iaload, 1) := by decide +kernel
theorem dX8_go_75 : decode cX8_go 75 = .ok (.iload_n 2, 1) := by decide +kernel
theorem dX8_go_76 : decode cX8_go 76 = .ok (.iload_n 3, 1) := by decide +kernel
theorem dX8_go_77 : decode cX8_go 77 = .ok (.iload 4, 2) := by decide +kernel
theorem dX8_go_79 : decode cX8_go 79 = .ok (.invokevirtual 240, 3) := by decide +kernel
theorem dX8_go_82 : decode cX8_go 82 = .ok (.aload_n 0, 1) := by decide +kernel
theorem dX8_go_83 : decode cX8_go 83 = .ok (.invokevirtual 244, 3) := by decide +kernel
theorem dX8_go_86 : decode cX8_go 86 = .ok (.aload_n 0, 1) := by decide +kernel
theorem dX8_go_87 : decode cX8_go 87 = .ok (.getfield 53, 3) := by decide +kernel
theorem dX8_go_90 : decode cX8_go 90 = .ok (.iconst 1, 1) := by decide +kernel
theorem dX8_go_91 : decode cX8_go 91 = .ok (.iaload, 1) := by decide +kernel
theorem dX8_go_92 : decode cX8_go 92 = .ok (.iconst (-1), 1) := by decide +kernel
theorem dX8_go_93 : decode cX8_go 93 = .ok (.if_icmp .ne 5, 3) := by decide +kernel
theorem dX8_go_96 : decode cX8_go 96 = .ok (.iconst (-1), 1) := by decide +kernel
theorem dX8_go_97 : decode cX8_go 97 = .ok (.ireturn, 1) := by decide +kernel
theorem dX8_go_98 : decode cX8_go 98 = .ok (.aload_n 0, 1) := by decide +kernel
theorem dX8_go_99 : decode cX8_go 99 = .ok (.iload_n 1, 1) := by decide +kernel
theorem dX8_go_100 : decode cX8_go 100 = .ok (.invokevirtual 259, 3) := by decide +kernel
theorem dX8_go_103 : decode cX8_go 103 = .ok (.aload_n 0, 1) := by decide +kernel
theorem dX8_go_104 : decode cX8_go 104 = .ok (.getfield 83, 3) := by decide +kernel
theorem dX8_go_107 : decode cX8_go 107 = .ok (.iload_n 1, 1) := by decide +kernel
theorem dX8_go_108 : decode cX8_go 108 = .ok (.iaload, 1) := by decide +kernel
theorem dX8_go_109 : decode cX8_go 109 = .ok (.ireturn, 1) := by decide +kernel
theorem dX8_in_0 : decode cX8_in 0 = .ok (.iload_n 0, 1) := by decide +kernel
theorem dX8_in_1 : decode cX8_in 1 = .ok (.iload_n 1, 1) := by decide +kernel
theorem dX8_in_2 : decode cX8_in 2 = .ok (.if_icmp .lt 12, 3) := by decide +kernel
theorem dX8_in_5 : decode cX8_in 5 = .ok (.iload_n 0, 1) := by decide +kernel
theorem dX8_in_6 : decode cX8_in 6 = .ok (.iload_n 2, 1) := by decide +kernel
theorem dX8_in_7 : decode cX8_in 7 = .ok (.if_icmp .gt 7, 3) := by decide +kernel
theorem dX8_in_10 : decode cX8_in 10 = .ok (.iconst 1, 1) := by decide +kernel
theorem dX8_in_11 : decode cX8_in 11 = .ok (.goto 4, 3) := by decide +kernel
theorem dX8_in_14 : decode cX8_in 14 = .ok (.iconst 0, 1) := by decide +kernel
theorem dX8_in_15 : decode cX8_in 15 = .ok (.ireturn, 1) := by decide +kernel
theorem dX8_init_0 : decode cX8_init 0 = .ok (.aload_n 0, 1) := by decide +kernel
theorem dX8_init_1 : decode cX8_init 1 = .ok (.invokespecial 1, 3) := by decide +kernel
theorem dX8_init_4 : decode cX8_init 4 = .ok (.aload_n 0, 1) := by decide +kernel
theorem dX8_init_5 : decode cX8_init 5 = .ok (.bipush 60, 2) := by decide +kernel
theorem dX8_init_7 : decode cX8_init 7 = .ok (.newarray .int, 2) := by decide +kernel
theorem dX8_init_9 : decode cX8_init 9 = .ok (.putfield 7, 3) := by decide +kernel
theorem dX8_init_12 : decode cX8_init 12 = .ok (.aload_n 0, 1) := by decide +kernel
theorem dX8_init_13 : decode cX8_init 13 = .ok (.bipush 8, 2) := by decide +kernel
theorem dX8_init_15 : decode cX8_init 15 = .ok (.newarray .boolean, 2) := by decide +kernel
theorem dX8_init_17 : decode cX8_init 17 = .ok (.putfield 13, 3) := by decide +kernel
theorem dX8_init_20 : decode cX8_init 20 = .ok (.aload_n 0, 1) := by decide +kernel
theorem dX8_init_21 : decode cX8_init 21 = .ok (.bipush 40, 2) := by decide +kernel
theorem dX8_init_23 : decode cX8_init 23 = .ok (.newarray .int, 2) := by decide +kernel
theorem dX8_init_25 : decode cX8_init 25 = .ok (.putfield 17, 3) := by decide +kernel
theorem dX8_init_28 : decode cX8_init 28 = .ok (.aload_n 0, 1) := by decide +kernel
theorem dX8_init_29 : decode cX8_init 29 = .ok (.bipush 30, 2) := by decide +kernel
theorem dX8_init_31 : decode cX8_init 31 = .ok (.newarray .int, 2) := by decide +kernel
theorem dX8_init_33 : decode cX8_init 33 = .ok (.putfield 20, 3) := by decide +kernel
theorem dX8_init_36 : decode cX8_init 36 = .ok (.aload_n 0, 1) := by decide +kernel
theorem dX8_init_37 : decode cX8_init 37 = .ok (.bipush 6, 2) := by decide +kernel
theorem dX8_init_39 : decode cX8_init 39 = .ok (.newarray .boolean, 2) := by decide +kernel
theorem dX8_init_41 : decode cX8_init 41 = .ok (.putfield 23, 3) := by decide +kernel
theorem dX8_init_44 : decode cX8_init 44 = .ok (.aload_n 0, 1) := by decide +kernel
theorem dX8_init_45 : decode cX8_init 45 = .ok (.bipush 30, 2) := by decide +kernel
theorem dX8_init_47 : decode cX8_init 47 = .ok (.newarray .int, 2) := by decide +kernel
theorem dX8_init_49 : decode cX8_init 49 = .ok (.putfield 26, 3) := by decide +kernel
theorem dX8_init_52 : decode cX8_init 52 = .ok (.aload_n 0, 1) := by decide +kernel
theorem dX8_init_53 : decode cX8_init 53 = .ok (.bipush 6, 2) := by decide +kernel
theorem dX8_init_55 : decode cX8_init 55 = .ok (.newarray .boolean, 2) := by decide +kernel
theorem dX8_init_57 : decode cX8_init 57 = .ok (.putfield 29, 3) := by decide +kernel
theorem dX8_init_60 : decode cX8_init 60 = .ok (.aload_n 0, 1) := by decide +kernel
theorem dX8_init_61 : decode cX8_init 61 = .ok (.bipush 42, 2) := by decide +kernel
theorem dX8_init_63 : decode cX8_init 63 = .ok (.newarray .int, 2) := by decide +kernel
theorem dX8_init_65 : decode cX8_init 65 = .ok (.putfield 32, 3) := by decide +kernel
theorem dX8_init_68 : decode cX8_init 68 = .ok (.aload_n 0, 1) := by decide +kernel
theorem dX8_init_69 : decode cX8_init 69 = .ok (.bipush 12, 2) := by decide +kernel
theorem dX8_init_71 : decode cX8_init 71 = .ok (.newarray .int, 2) := by decide +kernel
theorem dX8_init_73 : decode cX8_init 73 = .ok (.putfield 35, 3) := by decide +kernel
theorem dX8_init_76 : decode cX8_init 76 = .ok (.aload_n 0, 1) := by decide +kernel
theorem dX8_init_77 : decode cX8_init 77 = .ok (.bipush 12, 2) := by decide +kernel
theorem dX8_init_79 : decode cX8_init 79 = .ok (.newarray .int, 2) := by decide +kernel
theorem dX8_init_81 : decode cX8_init 81 = .ok (.putfield 38, 3) := by decide +kernel
theorem dX8_init_84 : decode cX8_init 84 = .ok (.aload_n 0, 1) := by decide +kernel
theorem dX8_init_85 : decode cX8_init 85 = .ok (.bipush 94, 2) := by decide +kernel
theorem dX8_init_87 : decode cX8_init 87 = .ok (.newarray .boolean, 2) := by decide +kernel
theorem dX8_init_89 : decode cX8_init 89 = .ok (.putfield 41, 3) := by decide +kernel
theorem dX8_init_92 : decode cX8_init 92 = .ok (.aload_n 0, 1) := by decide +kernel
theorem dX8_init_93 : decode cX8_init 93 = .ok (.bipush 94, 2) := by decide +kernel
theorem dX8_init_95 : decode cX8_init 95 = .ok (.newarray .int, 2) := by decide +kernel
theorem dX8_init_97 : decode cX8_init 97 = .ok (.putfield 44, 3) := by decide +kernel
theorem dX8_init_100 : decode cX8_init 100 = .ok (.aload_n 0, 1) := by decide +kernel
theorem dX8_init_101 : decode cX8_init 101 = .ok (.bipush 94, 2) := by decide +kernel
theorem dX8_init_103 : decode cX8_init 103 = .ok (.newarray .int, 2) := by decide +kernel
theorem dX8_init_105 : decode cX8_init 105 = .ok (.putfield 47, 3) := by decide +kernel
theorem dX8_init_108 : decode cX8_init 108 = .ok (.aload_n 0, 1) := by decide +kernel
theorem dX8_init_109 : decode cX8_init 109 = .ok (.bipush 94, 2) := by decide +kernel
theorem dX8_init_111 : decode cX8_init 111 = .ok (.newarray .int, 2) := by decide +kernel
theorem dX8_init_113 : decode cX8_init 113 = .ok (.putfield 50, 3) := by decide +kernel
theorem dX8_init_116 : decode cX8_init 116 = .ok (.aload_n 0, 1) := by decide +kernel
theorem dX8_init_117 : decode cX8_init 117 = .ok (.bipush 94, 2) := by decide +kernel
theorem dX8_init_119 : decode cX8_init 119 = .ok (.newarray .int, 2) := by decide +kernel
theorem dX8_init_121 : decode cX8_init 121 = .ok (.putfield 53, 3) := by decide +kernel
theorem dX8_init_124 : decode cX8_init 124 = .ok (.aload_n 0, 1) := by decide +kernel
theorem dX8_init_125 : decode cX8_init 125 = .ok (.bipush 94, 2) := by decide +kernel
theorem dX8_init_127 : decode cX8_init 127 = .ok (.newarray .int, 2) := by decide +kernel
theorem dX8_init_129 : decode cX8_init 129 = .ok (.putfield 56, 3) := by decide +kernel
theorem dX8_init_132 : decode cX8_init 132 = .ok (.aload_n 0, 1) := by decide +kernel
theorem dX8_init_133 : decode cX8_init 133 = .ok (.bipush 94, 2) := by decide +kernel
theorem dX8_init_135 : decode cX8_init 135 = .ok (.newarray .boolean, 2) := by decide +kernel
theorem dX8_init_137 : decode cX8_init 137 = .ok (.putfield 59, 3) := by decide +kernel
theorem dX8_init_140 : decode cX8_init 140 = .ok (.aload_n 0, 1) := by decide +kernel
theorem dX8_init_141 : decode cX8_init 141 = .ok (.bipush 94, 2) := by decide +kernel
theorem dX8_init_143 : decode cX8_init 143 = .ok (.newarray .int, 2) := by decide +kernel
theorem dX8_init_145 : decode cX8_init 145 = .ok (.putfield 62, 3) := by decide +kernel
theorem dX8_init_148 : decode cX8_init 148 = .ok (.aload_n 0, 1) := by decide +kernel
theorem dX8_init_149 : decode cX8_init 149 = .ok (.bipush 94, 2) := by decide +kernel
theorem dX8_init_151 : decode cX8_init 151 = .ok (.newarray .int, 2) := by decide +kernel
theorem dX8_init_153 : decode cX8_init 153 = .ok (.putfield 65, 3) := by decide +kernel
theorem dX8_init_156 : decode cX8_init 156 = .ok (.aload_n 0, 1) := by decide +kernel
theorem dX8_init_157 : decode cX8_init 157 = .ok (.bipush 94, 2) := by decide +kernel
theorem dX8_init_159 : decode cX8_init 159 = .ok (.newarray .int, 2) := by decide +kernel
theorem dX8_init_161 : decode cX8_init 161 = .ok (.putfield 68, 3) := by decide +kernel
theorem dX8_init_164 : decode cX8_init 164 = .ok (.aload_n 0, 1) := by decide +kernel
theorem dX8_init_165 : decode cX8_init 165 = .ok (.bipush 94, 2) := by decide +kernel
theorem dX8_init_167 : decode cX8_init 167 = .ok (.newarray .int, 2) := by decide +kernel
theorem dX8_init_169 : decode cX8_init 169 = .ok (.putfield 71, 3) := by decide +kernel
theorem dX8_init_172 : decode cX8_init 172 = .ok (.aload_n 0, 1) := by decide +kernel
theorem dX8_init_173 : decode cX8_init 173 = .ok (.bipush 6, 2) := by decide +kernel
theorem dX8_init_175 : decode cX8_init 175 = .ok (.newarray .int, 2) := by decide +kernel
theorem dX8_init_177 : decode cX8_init 177 = .ok (.putfield 74, 3) := by decide +kernel
theorem dX8_init_180 : decode cX8_init 180 = .ok (.aload_n 0, 1) := by decide +kernel
theorem dX8_init_181 : decode cX8_init 181 = .ok (.bipush 6, 2) := by decide +kernel
theorem dX8_init_183 : decode cX8_init 183 = .ok (.newarray .int, 2) := by decide +kernel
theorem dX8_init_185 : decode cX8_init 185 = .ok (.putfield 77, 3) := by decide +kernel
theorem dX8_init_188 : decode cX8_init 188 = .ok (.aload_n 0, 1) := by decide +kernel
theorem dX8_init_189 : decode cX8_init 189 = .ok (.bipush 6, 2) := by decide +kernel
theorem dX8_init_191 : decode cX8_init 191 = .ok (.newarray .int, 2) := by decide +kernel
theorem dX8_init_193 : decode cX8_init 193 = .ok (.putfield 80, 3) := by decide +kernel
theorem dX8_init_196 : decode cX8_init 196 = .ok (.aload_n 0, 1) := by decide +kernel
theorem dX8_init_197 : decode cX8_init 197 = .ok (.bipush 6, 2) := by decide +kernel
theorem dX8_init_199 : decode cX8_init 199 = .ok (.newarray .int, 2) := by decide +kernel
theorem dX8_init_201 : decode cX8_init 201 = .ok (.putfield 83, 3) := by decide +kernel
theorem dX8_init_204 : decode cX8_init 204 = .ok (.aload_n 0, 1) := by decide +kernel
theorem dX8_init_205 : decode cX8_init 205 = .ok (.sipush 564, 3) := by decide +kernel
theorem dX8_init_208 : decode cX8_init 208 = .ok (.newarray .int, 2) := by decide +kernel
theorem dX8_init_210 : decode cX8_init 210 = .ok (.putfield 86, 3) := by decide +kernel
theorem dX8_init_213 : decode cX8_init 213 = .ok (.aload_n 0, 1) := by decide +kernel
theorem dX8_init_214 : decode cX8_init 214 = .ok (.sipush 564, 3) := by decide +kernel
theorem dX8_init_217 : decode cX8_init 217 = .ok (.newarray .int, 2) := by decide +kernel
theorem dX8_init_219 : decode cX8_init 219 = .ok (.putfield 89, 3) := by decide +kernel
theorem dX8_init_222 : decode cX8_init 222 = .ok (.aload_n 0, 1) := by decide +kernel
theorem dX8_init_223 : decode cX8_init 223 = .ok (.sipush 564, 3) := by decide +kernel
theorem dX8_init_226 : decode cX8_init 226 = .ok (.newarray .int, 2) := by decide +kernel
theorem dX8_init_228 : decode cX8_init 228 = .ok (.putfield 92, 3) := by decide +kernel
theorem dX8_init_231 : decode cX8_init 231 = .ok (.aload_n 0, 1) := by decide +kernel
theorem dX8_init_232 : decode cX8_init 232 = .ok (.bipush 6, 2) := by decide +kernel
theorem dX8_init_234 : decode cX8_init 234 = .ok (.newarray .int, 2) := by decide +kernel
theorem dX8_init_236 : decode cX8_init 236 = .ok (.putfield 95, 3) := by decide +kernel
theorem dX8_init_239 : decode cX8_init 239 = .ok (.aload_n 0, 1) := by decide +kernel
theorem dX8_init_240 : decode cX8_init 240 = .ok (.bipush 6, 2) := by decide +kernel
theorem dX8_init_242 : decode cX8_init 242 = .ok (.newarray .boolean, 2) := by decide +kernel
theorem dX8_init_244 : decode cX8_init 244 = .ok (.putfield 98, 3) := by decide +kernel
theorem dX8_init_247 : decode cX8_init 247 = .ok (.aload_n 0, 1) := by decide +kernel
theorem dX8_init_248 : decode cX8_init 248 = .ok (.bipush 6, 2) := by decide +kernel
theorem dX8_init_250 : decode cX8_init 250 = .ok (.newarray .int, 2) := by decide +kernel
theorem dX8_init_252 : decode cX8_init 252 = .ok (.putfield 101, 3) := by decide +kernel
theorem dX8_init_255 : decode cX8_init 255 = .ok (.aload_n 0, 1) := by decide +kernel
theorem dX8_init_256 : decode cX8_init 256 = .ok (.bipush 6, 2) := by decide +kernel
theorem dX8_init_258 : decode cX8_init 258 = .ok (.newarray .int, 2) := by decide +kernel
theorem dX8_init_260 : decode cX8_init 260 = .ok (.putfield 104, 3) := by decide +kernel
theorem dX8_init_263 : decode cX8_init 263 = .ok (.aload_n 0, 1) := by decide +kernel
theorem dX8_init_264 : decode cX8_init 264 = .ok (.bipush 6, 2) := by decide +kernel
theorem dX8_init_266 : decode cX8_init 266 = .ok (.newarray .int, 2) := by decide +kernel
theorem dX8_init_268 : decode cX8_init 268 = .ok (.putfield 107, 3) := by decide +kernel
theorem dX8_init_271 : decode cX8_init 271 = .ok (.return_, 1) := by decide +kernel
theorem dX8_isAllGround_0 : decode cX8_isAllGround 0 = .ok (.iconst 0, 1) := by decide +kernel
theorem dX8_isAllGround_1 : decode cX8_isAllGround 1 = .ok (.istore_n 2, 1) := by decide +kernel
theorem dX8_isAllGround_2 : decode cX8_isAllGround 2 = .ok (.iconst 0, 1) := by decide +kernel
theorem dX8_isAllGround_3 : decode cX8_isAllGround 3 = .ok (.istore_n 3, 1) := by decide +kernel
theorem dX8_isAllGround_4 : decode cX8_isAllGround 4 = .ok (.iload_n 3, 1) := by decide +kernel
theorem dX8_isAllGround_5 : decode cX8_isAllGround 5 = .ok (.aload_n 0, 1) := by decide +kernel
theorem dX8_isAllGround_6 : decode cX8_isAllGround 6 = .ok (.getfield 121, 3) := by decide +kernel
theorem dX8_isAllGround_9 : decode cX8_isAllGround 9 = .ok (.if_icmp .ge 56, 3) := by decide +kernel
theorem dX8_isAllGround_12 : decode cX8_isAllGround 12 = .ok (.aload_n 0, 1) := by decide +kernel
theorem dX8_isAllGround_13 : decode cX8_isAllGround 13 = .ok (.getfield 7, 3) := by decide +kernel
theorem dX8_isAllGround_16 : decode cX8_isAllGround 16 = .ok (.iconst 5, 1) := by decide +kernel
theorem dX8_isAllGround_17 : decode cX8_isAllGround 17 = .ok (.iload_n 3, 1) := by decide +kernel
theorem dX8_isAllGround_18 : decode cX8_isAllGround 18 = .ok (.imul, 1) := by decide +kernel
theorem dX8_isAllGround_19 : decode cX8_isAllGround 19 = .ok (.iaload, 1) := by decide +kernel
theorem dX8_isAllGround_20 : decode cX8_isAllGround 20 = .ok (.iload_n 1, 1) := by decide +kernel
theorem dX8_isAllGround_21 : decode cX8_isAllGround 21 = .ok (.if_icmp .ne 38, 3) := by decide +kernel
theorem dX8_isAllGround_24 : decode cX8_isAllGround 24 = .ok (.aload_n 0, 1) := by decide +kernel
theorem dX8_isAllGround_25 : decode cX8_isAllGround 25 = .ok (.aload_n 0, 1) := by decide +kernel
theorem dX8_isAllGround_26 : decode cX8_isAllGround 26 = .ok (.getfield 7, 3) := by decide +kernel
theorem dX8_isAllGround_29 : decode cX8_isAllGround 29 = .ok (.iload_n 3, 1) := by decide +kernel
theorem dX8_isAllGround_30 : decode cX8_isAllGround 30 = .ok (.invokevirtual 186, 3) := by decide +kernel
theorem dX8_isAllGround_33 : decode cX8_isAllGround 33 = .ok (.ifCond .eq 26, 3) := by decide +kernel
theorem dX8_isAllGround_36 : decode cX8_isAllGround 36 = .ok (.aload_n 0, 1) := by decide +kernel
theorem dX8_isAllGround_37 : decode cX8_isAllGround 37 = .ok (.getfield 35, 3) := by decide +kernel
theorem dX8_isAllGround_40 : decode cX8_isAllGround 40 = .ok (.iload_n 2, 1) := by decide +kernel
theorem dX8_isAllGround_41 : decode cX8_isAllGround 41 = .ok (.aload_n 0, 1) := by decide +kernel
theorem dX8_isAllGround_42 : decode cX8_isAllGround 42 = .ok (.getfield 174, 3) := by decide +kernel
theorem dX8_isAllGround_45 : decode cX8_isAllGround 45 = .ok (.iastore, 1) := by decide +kernel
theorem dX8_isAllGround_46 : decode cX8_isAllGround 46 = .ok (.aload_n 0, 1) := by decide +kernel
theorem dX8_isAllGround_47 : decode cX8_isAllGround 47 = .ok (.getfield 38, 3) := by decide +kernel
theorem dX8_isAllGround_50 : decode cX8_isAllGround 50 = .ok (.iload_n 2, 1) := by decide +kernel
theorem dX8_isAllGround_51 : decode cX8_isAllGround 51 = .ok (.aload_n 0, 1) := by decide +kernel
theorem dX8_isAllGround_52 : decode cX8_isAllGround 52 = .ok (.getfield 177, 3) := by decide +kernel
theorem dX8_isAllGround_55 : decode cX8_isAllGround 55 = .ok (.iastore, 1) := by decide +kernel
theorem dX8_isAllGround_56 : decode cX8_isAllGround 56 = .ok (.iinc 2 1, 3) := by decide +kernel
theorem dX8_isAllGround_59 : decode cX8_isAllGround 59 = .ok (.iinc 3 1, 3) := by decide +kernel
theorem dX8_isAllGround_62 : decode cX8_isAllGround 62 = .ok (.goto (-58), 3) := by decide +kernel
theorem dX8_isAllGround_65 : decode cX8_isAllGround 65 = .ok (.iconst 0, 1) := by decide +kernel
theorem dX8_isAllGround_66 : decode cX8_isAllGround 66 = .ok (.istore_n 3, 1) := by decide +kernel
theorem dX8_isAllGround_67 : decode cX8_isAllGround 67 = .ok (.iconst 0, 1) := by decide +kernel
theorem dX8_isAllGround_68 : decode cX8_isAllGround 68 = .ok (.istore 4, 2) := by decide +kernel
theorem dX8_isAllGround_70 : decode cX8_isAllGround 70 = .ok (.iconst 1, 1) := by decide +kernel
theorem dX8_isAllGround_71 : decode cX8_isAllGround 71 = .ok (.istore 5, 2) := by decide +kernel
theorem dX8_isAllGround_73 : decode cX8_isAllGround 73 = .ok (.iload 5, 2) := by decide +kernel
theorem dX8_isAllGround_75 : decode cX8_isAllGround 75 = .ok (.ifCond .eq 102, 3) := by decide +kernel
theorem dX8_isAllGround_78 : decode cX8_isAllGround 78 = .ok (.iconst 0, 1) := by decide +kernel
theorem dX8_isAllGround_79 : decode cX8_isAllGround 79 = .ok (.istore 5, 2) := by decide +kernel
theorem dX8_isAllGround_81 : decode cX8_isAllGround 81 = .ok (.iconst 0, 1) := by decide +kernel
theorem dX8_isAllGround_82 : decode cX8_isAllGround 82 = .ok (.istore 6, 2) := by decide +kernel
theorem dX8_isAllGround_84 : decode cX8_isAllGround 84 = .ok (.iload 6, 2) := by decide +kernel
theorem dX8_isAllGround_86 : decode cX8_isAllGround 86 = .ok (.iload_n 2, 1) := by decide +kernel
theorem dX8_isAllGround_87 : decode cX8_isAllGround 87 = .ok (.if_icmp .ge 87, 3) := by decide +kernel
theorem dX8_isAllGround_90 : decode cX8_isAllGround 90 = .ok (.aload_n 0, 1) := by decide +kernel
theorem dX8_isAllGround_91 : decode cX8_isAllGround 91 = .ok (.getfield 35, 3) := by decide +kernel
theorem dX8_isAllGround_94 : decode cX8_isAllGround 94 = .ok (.iload 6, 2) := by decide +kernel
theorem dX8_isAllGround_96 : decode cX8_isAllGround 96 = .ok (.iaload, 1) := by decide +kernel
theorem dX8_isAllGround_97 : decode cX8_isAllGround 97 = .ok (.iload_n 3, 1) := by decide +kernel
theorem dX8_isAllGround_98 : decode cX8_isAllGround 98 = .ok (.if_icmp .gt 70, 3) := by decide +kernel
theorem dX8_isAllGround_101 : decode cX8_isAllGround 101 = .ok (.aload_n 0, 1) := by decide +kernel
theorem dX8_isAllGround_102 : decode cX8_isAllGround 102 = .ok (.getfield 38, 3) := by decide +kernel
theorem dX8_isAllGround_105 : decode cX8_isAllGround 105 = .ok (.iload 6, 2) := by decide +kernel
theorem dX8_isAllGround_107 : decode cX8_isAllGround 107 = .ok (.iaload, 1) := by decide +kernel
theorem dX8_isAllGround_108 : decode cX8_isAllGround 108 = .ok (.iload_n 3, 1) := by decide +kernel
theorem dX8_isAllGround_109 : decode cX8_isAllGround 109 = .ok (.if_icmp .gt 8, 3) := by decide +kernel
theorem dX8_isAllGround_112 : decode cX8_isAllGround 112 = .ok (.iload 4, 2) := by decide +kernel
theorem dX8_isAllGround_114 : decode cX8_isAllGround 114 = .ok (.ifCond .ne 54, 3) := by decide +kernel
theorem dX8_isAllGround_117 : decode cX8_isAllGround 117 = .ok (.iconst 1, 1) := by decide +kernel
theorem dX8_isAllGround_118 : decode cX8_isAllGround 118 = .ok (.istore 4, 2) := by decide +kernel
theorem dX8_isAllGround_120 : decode cX8_isAllGround 120 = .ok (.aload_n 0, 1) := by decide +kernel
theorem dX8_isAllGround_121 : decode cX8_isAllGround 121 = .ok (.getfield 38, 3) := by decide +kernel
theorem dX8_isAllGround_124 : decode cX8_isAllGround 124 = .ok (.iload 6, 2) := by decide +kernel
theorem dX8_isAllGround_126 : decode cX8_isAllGround 126 = .ok (.iaload, 1) := by decide +kernel
theorem dX8_isAllGround_127 : decode cX8_isAllGround 127 = .ok (.iload_n 3, 1) := by decide +kernel
theorem dX8_isAllGround_128 : decode cX8_isAllGround 128 = .ok (.if_icmp .le 7, 3) := by decide +kernel
theorem dX8_isAllGround_131 : decode cX8_isAllGround 131 = .ok (.iconst 1, 1) := by decide +kernel
theorem dX8_isAllGround_132 : decode cX8_isAllGround 132 = .ok (.goto 4, 3) := by decide +kernel
theorem dX8_isAllGround_135 : decode cX8_isAllGround 135 = .ok (.iconst 0, 1) := by decide +kernel
theorem dX8_isAllGround_136 : decode cX8_isAllGround 136 = .ok (.istore 5, 2) := by decide +kernel
theorem dX8_isAllGround_138 : decode cX8_isAllGround 138 = .ok (.iload 5, 2) := by decide +kernel
theorem dX8_isAllGround_140 : decode cX8_isAllGround 140 = .ok (.ifCond .eq 13, 3) := by decide +kernel
theorem dX8_isAllGround_143 : decode cX8_isAllGround 143 = .ok (.aload_n 0, 1) := by decide +kernel
theorem dX8_isAllGround_144 : decode cX8_isAllGround 144 = .ok (.getfield 38, 3) := by decide +kernel
theorem dX8_isAllGround_147 : decode cX8_isAllGround 147 = .ok (.iload 6, 2) := by decide +kernel
theorem dX8_isAllGround_149 : decode cX8_isAllGround 149 = .ok (.iaload, 1) := by decide +kernel
theorem dX8_isAllGround_150 : decode cX8_isAllGround 150 = .ok (.goto 4, 3) := by decide +kernel
theorem dX8_isAllGround_153 : decode cX8_isAllGround 153 = .ok (.iload_n 3, 1) := by decide +kernel
theorem dX8_isAllGround_154 : decode cX8_isAllGround 154 = .ok (.istore_n 3, 1) := by decide +kernel
theorem dX8_isAllGround_155 : decode cX8_isAllGround 155 = .ok (.iload 5, 2) := by decide +kernel
theorem dX8_isAllGround_157 : decode cX8_isAllGround 157 = .ok (.ifCond .eq 7, 3) := by decide +kernel
theorem dX8_isAllGround_160 : decode cX8_isAllGround 160 = .ok (.iload_n 2, 1) := by decide +kernel
theorem dX8_isAllGround_161 : decode cX8_isAllGround 161 = .ok (.goto 5, 3) := by decide +kernel
theorem dX8_isAllGround_164 : decode cX8_isAllGround 164 = .ok (.iload 6, 2) := by decide +kernel
theorem dX8_isAllGround_166 : decode cX8_isAllGround 166 = .ok (.istore 6, 2) := by decide +kernel
theorem dX8_isAllGround_168 : decode cX8_isAllGround 168 = .ok (.iinc 6 1, 3) := by decide +kernel
theorem dX8_isAllGround_171 : decode cX8_isAllGround 171 = .ok (.goto (-87), 3) := by decide +kernel
theorem dX8_isAllGround_174 : decode cX8_isAllGround 174 = .ok (.goto (-101), 3) := by decide +kernel
theorem dX8_isAllGround_177 : decode cX8_isAllGround 177 = .ok (.iload 4, 2) := by decide +kernel
theorem dX8_isAllGround_179 : decode cX8_isAllGround 179 = .ok (.ifCond .eq 33, 3) := by decide +kernel
theorem dX8_isAllGround_182 : decode cX8_isAllGround 182 = .ok (.iload_n 3, 1) := by decide +kernel
theorem dX8_isAllGround_183 : decode cX8_isAllGround 183 = .ok (.aload_n 0, 1) := by decide +kernel
theorem dX8_isAllGround_184 : decode cX8_isAllGround 184 = .ok (.getfield 161, 3) := by decide +kernel
theorem dX8_isAllGround_187 : decode cX8_isAllGround 187 = .ok (.ifCond .ne 14, 3) := by decide +kernel
theorem dX8_isAllGround_190 : decode cX8_isAllGround 190 = .ok (.aload_n 0, 1) := by decide +kernel
theorem dX8_isAllGround_191 : decode cX8_isAllGround 191 = .ok (.getfield 164, 3) := by decide +kernel
theorem dX8_isAllGround_194 : decode cX8_isAllGround 194 = .ok (.ifCond .ne 7, 3) := by decide +kernel
theorem dX8_isAllGround_197 : decode cX8_isAllGround 197 = .ok (.iconst 0, 1) := by decide +kernel
theorem dX8_isAllGround_198 : decode cX8_isAllGround 198 = .ok (.goto 7, 3) := by decide +kernel
theorem dX8_isAllGround_201 : decode cX8_isAllGround 201 = .ok (.aload_n 0, 1) := by decide +kernel
theorem dX8_isAllGround_202 : decode cX8_isAllGround 202 = .ok (.getfield 171, 3) := by decide +kernel
theorem dX8_isAllGround_205 : decode cX8_isAllGround 205 = .ok (.if_icmp .lt 7, 3) := by decide +kernel
theorem dX8_isAllGround_208 : decode cX8_isAllGround 208 = .ok (.iconst 1, 1) := by decide +kernel
theorem dX8_isAllGround_209 : decode cX8_isAllGround 209 = .ok (.goto 4, 3) := by decide +kernel
theorem dX8_isAllGround_212 : decode cX8_isAllGround 212 = .ok (.iconst 0, 1) := by decide +kernel
theorem dX8_isAllGround_213 : decode cX8_isAllGround 213 = .ok (.istore 6, 2) := by decide +kernel
theorem dX8_isAllGround_215 : decode cX8_isAllGround 215 = .ok (.iconst 0, 1) := by decide +kernel
theorem dX8_isAllGround_216 : decode cX8_isAllGround 216 = .ok (.istore 7, 2) := by decide +kernel
theorem dX8_isAllGround_218 : decode cX8_isAllGround 218 = .ok (.iload 7, 2) := by decide +kernel
theorem dX8_isAllGround_220 : decode cX8_isAllGround 220 = .ok (.bipush 8, 2) := by decide +kernel
theorem dX8_isAllGround_222 : decode cX8_isAllGround 222 = .ok (.if_icmp .ge 53, 3) := by decide +kernel
theorem dX8_isAllGround_225 : decode cX8_isAllGround 225 = .ok (.iload 6, 2) := by decide +kernel
theorem dX8_isAllGround_227 : decode cX8_isAllGround 227 = .ok (.ifCond .eq 48, 3) := by decide +kernel
theorem dX8_isAllGround_230 : decode cX8_isAllGround 230 = .ok (.aload_n 0, 1) := by decide +kernel
theorem dX8_isAllGround_231 : decode cX8_isAllGround 231 = .ok (.getfield 13, 3) := by decide +kernel
theorem dX8_isAllGround_234 : decode cX8_isAllGround 234 = .ok (.iload 7, 2) := by decide +kernel
theorem dX8_isAllGround_236 : decode cX8_isAllGround 236 = .ok (.baload, 1) := by decide +kernel
theorem dX8_isAllGround_237 : decode cX8_isAllGround 237 = .ok (.ifCond .eq 25, 3) := by decide +kernel
theorem dX8_isAllGround_240 : decode cX8_isAllGround 240 = .ok (.aload_n 0, 1) := by decide +kernel
theorem dX8_isAllGround_241 : decode cX8_isAllGround 241 = .ok (.getfield 17, 3) := by decide +kernel
theorem dX8_isAllGround_244 : decode cX8_isAllGround 244 = .ok (.iconst 5, 1) := by decide +kernel
theorem dX8_isAllGround_245 : decode cX8_isAllGround 245 = .ok (.iload 7, 2) := by decide +kernel
theorem dX8_isAllGround_247 : decode cX8_isAllGround 247 = .ok (.imul, 1) := by decide +kernel
theorem dX8_isAllGround_248 : decode cX8_isAllGround 248 = .ok (.iaload, 1) := by decide +kernel
theorem dX8_isAllGround_249 : decode cX8_isAllGround 249 = .ok (.iload_n 1, 1) := by decide +kernel
theorem dX8_isAllGround_250 : decode cX8_isAllGround 250 = .ok (.if_icmp .ne 12, 3) := by decide +kernel
theorem dX8_isAllGround_253 : decode cX8_isAllGround 253 = .ok (.aload_n 0, 1) := by decide +kernel
theorem dX8_isAllGround_254 : decode cX8_isAllGround 254 = .ok (.iload 7, 2) := by decide +kernel
theorem dX8_isAllGround_256 : decode cX8_isAllGround 256 = .ok (.invokevirtual 190, 3) := by decide +kernel
theorem dX8_isAllGround_259 : decode cX8_isAllGround 259 = .ok (.ifCond .ne 7, 3) := by decide +kernel
theorem dX8_isAllGround_262 : decode cX8_isAllGround 262 = .ok (.iconst 1, 1) := by decide +kernel
theorem dX8_isAllGround_263 : decode cX8_isAllGround 263 = .ok (.goto 4, 3) := by decide +kernel
theorem dX8_isAllGround_266 : decode cX8_isAllGround 266 = .ok (.iconst 0, 1) := by decide +kernel
theorem dX8_isAllGround_267 : decode cX8_isAllGround 267 = .ok (.istore 6, 2) := by decide +kernel
theorem dX8_isAllGround_269 : decode cX8_isAllGround 269 = .ok (.iinc 7 1, 3) := by decide +kernel
theorem dX8_isAllGround_272 : decode cX8_isAllGround 272 = .ok (.goto (-54), 3) := by decide +kernel
theorem dX8_isAllGround_275 : decode cX8_isAllGround 275 = .ok (.iload 6, 2) := by decide +kernel
theorem dX8_isAllGround_277 : decode cX8_isAllGround 277 = .ok (.ireturn, 1) := by decide +kernel
theorem dX8_isField_0 : decode cX8_isField 0 = .ok (.iload_n 0, 1) := by decide +kernel
theorem dX8_isField_1 : decode cX8_isField 1 = .ok (.iload_n 1, 1) := by decide +kernel
theorem dX8_isField_2 : decode cX8_isField 2 = .ok (.iload_n 2, 1) := by decide +kernel
theorem dX8_isField_3 : decode cX8_isField 3 = .ok (.invokestatic 114, 3) := by decide +kernel
theorem dX8_isField_6 : decode cX8_isField 6 = .ok (.ifCond .eq 28, 3) := by decide +kernel
theorem dX8_isField_9 : decode cX8_isField 9 = .ok (.iload_n 0, 1) := by decide +kernel
theorem dX8_isField_10 : decode cX8_isField 10 = .ok (.iload_n 3, 1) := by decide +kernel
theorem dX8_isField_11 : decode cX8_isField 11 = .ok (.iload 4, 2) := by decide +kernel
theorem dX8_isField_13 : decode cX8_isField 13 = .ok (.invokestatic 114, 3) := by decide +kernel
theorem dX8_isField_16 : decode cX8_isField 16 = .ok (.ifCond .eq 18, 3) := by decide +kernel
theorem dX8_isField_19 : decode cX8_isField 19 = .ok (.iload_n 1, 1) := by decide +kernel
theorem dX8_isField_20 : decode cX8_isField 20 = .ok (.iload_n 3, 1) := by decide +kernel
theorem dX8_isField_21 : decode cX8_isField 21 = .ok (.if_icmp .ge 13, 3) := by decide +kernel
theorem dX8_isField_24 : decode cX8_isField 24 = .ok (.iload_n 2, 1) := by decide +kernel
theorem dX8_isField_25 : decode cX8_isField 25 = .ok (.iload 4, 2) := by decide +kernel
theorem dX8_isField_27 : decode cX8_isField 27 = .ok (.if_icmp .ge 7, 3) := by decide +kernel
theorem dX8_isField_30 : decode cX8_isField 30 = .ok (.iconst 1, 1) := by decide +kernel
theorem dX8_isField_31 : decode cX8_isField 31 = .ok (.goto 4, 3) := by decide +kernel
theorem dX8_isField_34 : decode cX8_isField 34 = .ok (.iconst 0, 1) := by decide +kernel
theorem dX8_isField_35 : decode cX8_isField 35 = .ok (.ireturn, 1) := by decide +kernel
theorem dX8_isGround_0 : decode cX8_isGround 0 = .ok (.iconst 0, 1) := by decide +kernel
theorem dX8_isGround_1 : decode cX8_isGround 1 = .ok (.istore 4, 2) := by decide +kernel
theorem dX8_isGround_3 : decode cX8_isGround 3 = .ok (.iconst 0, 1) := by decide +kernel
theorem dX8_isGround_4 : decode cX8_isGround 4 = .ok (.istore 5, 2) := by decide +kernel
theorem dX8_isGround_6 : decode cX8_isGround 6 = .ok (.iload 5, 2) := by decide +kernel
theorem dX8_isGround_8 : decode cX8_isGround 8 = .ok (.aload_n 0, 1) := by decide +kernel
theorem dX8_isGround_9 : decode cX8_isGround 9 = .ok (.getfield 121, 3) := by decide +kernel
theorem dX8_isGround_12 : decode cX8_isGround 12 = .ok (.if_icmp .ge 36, 3) := by decide +kernel
theorem dX8_isGround_15 : decode cX8_isGround 15 = .ok (.iload 4, 2) := by decide +kernel
theorem dX8_isGround_17 : decode cX8_isGround 17 = .ok (.ifCond .ne 18, 3) := by decide +kernel
theorem dX8_isGround_20 : decode cX8_isGround 20 = .ok (.aload_n 0, 1) := by decide +kernel
theorem dX8_isGround_21 : decode cX8_isGround 21 = .ok (.getfield 7, 3) := by decide +kernel
theorem dX8_isGround_24 : decode cX8_isGround 24 = .ok (.iload 5, 2) := by decide +kernel
theorem dX8_isGround_26 : decode cX8_isGround 26 = .ok (.iload_n 1, 1) := by decide +kernel
theorem dX8_isGround_27 : decode cX8_isGround 27 = .ok (.iload_n 2, 1) := by decide +kernel
theorem dX8_isGround_28 : decode cX8_isGround 28 = .ok (.iload_n 3, 1) := by decide +kernel
theorem dX8_isGround_29 : decode cX8_isGround 29 = .ok (.invokestatic 138, 3) := by decide +kernel
theorem dX8_isGround_32 : decode cX8_isGround 32 = .ok (.ifCond .eq 7, 3) := by decide +kernel
theorem dX8_isGround_35 : decode cX8_isGround 35 = .ok (.iconst 1, 1) := by decide +kernel
theorem dX8_isGround_36 : decode cX8_isGround 36 = .ok (.goto 4, 3) := by decide +kernel
theorem dX8_isGround_39 : decode cX8_isGround 39 = .ok (.iconst 0, 1) := by decide +kernel
theorem dX8_isGround_40 : decode cX8_isGround 40 = .ok (.istore 4, 2) := by decide +kernel
theorem dX8_isGround_42 : decode cX8_isGround 42 = .ok (.iinc 5 1, 3) := by decide +kernel
theorem dX8_isGround_45 : decode cX8_isGround 45 = .ok (.goto (-39), 3) := by decide +kernel
theorem dX8_isGround_48 : decode cX8_isGround 48 = .ok (.iconst 0, 1) := by decide +kernel
theorem dX8_isGround_49 : decode cX8_isGround 49 = .ok (.istore 5, 2) := by decide +kernel
theorem dX8_isGround_51 : decode cX8_isGround 51 = .ok (.iload 5, 2) := by decide +kernel
theorem dX8_isGround_53 : decode cX8_isGround 53 = .ok (.bipush 8, 2) := by decide +kernel
theorem dX8_isGround_55 : decode cX8_isGround 55 = .ok (.if_icmp .ge 46, 3) := by decide +kernel
theorem dX8_isGround_58 : decode cX8_isGround 58 = .ok (.iload 4, 2) := by decide +kernel
theorem dX8_isGround_60 : decode cX8_isGround 60 = .ok (.ifCond .eq 32, 3) := by decide +kernel
theorem dX8_isGround_63 : decode cX8_isGround 63 = .ok (.aload_n 0, 1) := by decide +kernel
theorem dX8_isGround_64 : decode cX8_isGround 64 = .ok (.getfield 13, 3) := by decide +kernel
theorem dX8_isGround_67 : decode cX8_isGround 67 = .ok (.iload 5, 2) := by decide +kernel
theorem dX8_isGround_69 : decode cX8_isGround 69 = .ok (.baload, 1) := by decide +kernel
theorem dX8_isGround_70 : decode cX8_isGround 70 = .ok (.ifCond .eq 18, 3) := by decide +kernel
theorem dX8_isGround_73 : decode cX8_isGround 73 = .ok (.aload_n 0, 1) := by decide +kernel
theorem dX8_isGround_74 : decode cX8_isGround 74 = .ok (.getfield 17, 3) := by decide +kernel
theorem dX8_isGround_77 : decode cX8_isGround 77 = .ok (.iload 5, 2) := by decide +kernel
theorem dX8_isGround_79 : decode cX8_isGround 79 = .ok (.iload_n 1, 1) := by decide +kernel
theorem dX8_isGround_80 : decode cX8_isGround 80 = .ok (.iload_n 2, 1) := by decide +kernel
theorem dX8_isGround_81 : decode cX8_isGround 81 = .ok (.iload_n 3, 1) := by decide +kernel
theorem dX8_isGround_82 : decode cX8_isGround 82 = .ok (.invokestatic 149, 3) := by decide +kernel
theorem dX8_isGround_85 : decode cX8_isGround 85 = .ok (.ifCond .ne 7, 3) := by decide +kernel
theorem dX8_isGround_88 : decode cX8_isGround 88 = .ok (.iconst 1, 1) := by decide +kernel
theorem dX8_isGround_89 : decode cX8_isGround 89 = .ok (.goto 4, 3) := by decide +kernel
theorem dX8_isGround_92 : decode cX8_isGround 92 = .ok (.iconst 0, 1) := by decide +kernel
theorem dX8_isGround_93 : decode cX8_isGround 93 = .ok (.istore 4, 2) := by decide +kernel
theorem dX8_isGround_95 : decode cX8_isGround 95 = .ok (.iinc 5 1, 3) := by decide +kernel
theorem dX8_isGround_98 : decode cX8_isGround 98 = .ok (.goto (-47), 3) := by decide +kernel
theorem dX8_isGround_101 : decode cX8_isGround 101 = .ok (.iload 4, 2) := by decide +kernel
theorem dX8_isGround_103 : decode cX8_isGround 103 = .ok (.ireturn, 1) := by decide +kernel
theorem dX8_isInside_0 : decode cX8_isInside 0 = .ok (.aload_n 0, 1) := by decide +kernel
theorem dX8_isInside_1 : decode cX8_isInside 1 = .ok (.iconst 5, 1) := by decide +kernel
theorem dX8_isInside_2 : decode cX8_isInside 2 = .ok (.iload_n 1, 1) := by decide +kernel
theorem dX8_isInside_3 : decode cX8_isInside 3 = .ok (.imul, 1) := by decide +kernel
theorem dX8_isInside_4 : decode cX8_isInside 4 = .ok (.iaload, 1) := by decide +kernel
theorem dX8_isInside_5 : decode cX8_isInside 5 = .ok (.iload_n 2, 1) := by decide +kernel
theorem dX8_isInside_6 : decode cX8_isInside 6 = .ok (.if_icmp .ne 53, 3) := by decide +kernel
theorem dX8_isInside_9 : decode cX8_isInside 9 = .ok (.iload_n 3, 1) := by decide +kernel
theorem dX8_isInside_10 : decode cX8_isInside 10 = .ok (.aload_n 0, 1) := by decide +kernel
theorem dX8_isInside_11 : decode cX8_isInside 11 = .ok (.iconst 5, 1) := by decide +kernel
theorem dX8_isInside_12 : decode cX8_isInside 12 = .ok (.iload_n 1, 1) := by decide +kernel
theorem dX8_isInside_13 : decode cX8_isInside 13 = .ok (.imul, 1) := by decide +kernel
theorem dX8_isInside_14 : decode cX8_isInside 14 = .ok (.iconst 1, 1) := by decide +kernel
theorem dX8_isInside_15 : decode cX8_isInside 15 = .ok (.iadd, 1) := by decide +kernel
theorem dX8_isInside_16 : decode cX8_isInside 16 = .ok (.iaload, 1) := by decide +kernel
theorem dX8_isInside_17 : decode cX8_isInside 17 = .ok (.if_icmp .le 42, 3) := by decide +kernel
theorem dX8_isInside_20 : decode cX8_isInside 20 = .ok (.iload_n 3, 1) := by decide +kernel
theorem dX8_isInside_21 : decode cX8_isInside 21 = .ok (.aload_n 0, 1) := by decide +kernel
theorem dX8_isInside_22 : decode cX8_isInside 22 = .ok (.iconst 5, 1) := by decide +kernel
theorem dX8_isInside_23 : decode cX8_isInside 23 = .ok (.iload_n 1, 1) := by decide +kernel
theorem dX8_isInside_24 : decode cX8_isInside 24 = .ok (.imul, 1) := by decide +kernel
theorem dX8_isInside_25 : decode cX8_isInside 25 = .ok (.iconst 3, 1) := by decide +kernel
theorem dX8_isInside_26 : decode cX8_isInside 26 = .ok (.iadd, 1) := by decide +kernel
theorem dX8_isInside_27 : decode cX8_isInside 27 = .ok (.iaload, 1) := by decide +kernel
theorem dX8_isInside_28 : decode cX8_isInside 28 = .ok (.if_icmp .ge 31, 3) := by decide +kernel
theorem dX8_isInside_31 : decode cX8_isInside 31 = .ok (.iload 4, 2) := by decide +kernel
theorem dX8_isInside_33 : decode cX8_isInside 33 = .ok (.aload_n 0, 1) := by decide +kernel
theorem dX8_isInside_34 : decode cX8_isInside 34 = .ok (.iconst 5, 1) := by decide +kernel
theorem dX8_isInside_35 : decode cX8_isInside 35 = .ok (.iload_n 1, 1) := by decide +kernel
theorem dX8_isInside_36 : decode cX8_isInside 36 = .ok (.imul, 1) := by decide +kernel
theorem dX8_isInside_37 : decode cX8_isInside 37 = .ok (.iconst 2, 1) := by decide +kernel
theorem dX8_isInside_38 : decode cX8_isInside 38 = .ok (.iadd, 1) := by decide +kernel
theorem dX8_isInside_39 : decode cX8_isInside 39 = .ok (.iaload, 1) := by decide +kernel
theorem dX8_isInside_40 : decode cX8_isInside 40 = .ok (.if_icmp .le 19, 3) := by decide +kernel
theorem dX8_isInside_43 : decode cX8_isInside 43 = .ok (.iload 4, 2) := by decide +kernel
theorem dX8_isInside_45 : decode cX8_isInside 45 = .ok (.aload_n 0, 1) := by decide +kernel
theorem dX8_isInside_46 : decode cX8_isInside 46 = .ok (.iconst 5, 1) := by decide +kernel
theorem dX8_isInside_47 : decode cX8_isInside 47 = .ok (.iload_n 1, 1) := by decide +kernel
theorem dX8_isInside_48 : decode cX8_isInside 48 = .ok (.imul, 1) := by decide +kernel
theorem dX8_isInside_49 : decode cX8_isInside 49 = .ok (.iconst 4, 1) := by decide +kernel
theorem dX8_isInside_50 : decode cX8_isInside 50 = .ok (.iadd, 1) := by decide +kernel
theorem dX8_isInside_51 : decode cX8_isInside 51 = .ok (.iaload, 1) := by decide +kernel
theorem dX8_isInside_52 : decode cX8_isInside 52 = .ok (.if_icmp .ge 7, 3) := by decide +kernel
theorem dX8_isInside_55 : decode cX8_isInside 55 = .ok (.iconst 1, 1) := by decide +kernel
theorem dX8_isInside_56 : decode cX8_isInside 56 = .ok (.goto 4, 3) := by decide +kernel
theorem dX8_isInside_59 : decode cX8_isInside 59 = .ok (.iconst 0, 1) := by decide +kernel
theorem dX8_isInside_60 : decode cX8_isInside 60 = .ok (.ireturn, 1) := by decide +kernel
theorem dX8_isLine_0 : decode cX8_isLine 0 = .ok (.iload_n 0, 1) := by decide +kernel
theorem dX8_isLine_1 : decode cX8_isLine 1 = .ok (.iload_n 1, 1) := by decide +kernel
theorem dX8_isLine_2 : decode cX8_isLine 2 = .ok (.iload_n 2, 1) := by decide +kernel
theorem dX8_isLine_3 : decode cX8_isLine 3 = .ok (.invokestatic 114, 3) := by decide +kernel
theorem dX8_isLine_6 : decode cX8_isLine 6 = .ok (.ifCond .eq 41, 3) := by decide +kernel
theorem dX8_isLine_9 : decode cX8_isLine 9 = .ok (.iload_n 0, 1) := by decide +kernel
theorem dX8_isLine_10 : decode cX8_isLine 10 = .ok (.iload_n 3, 1) := by decide +kernel
theorem dX8_isLine_11 : decode cX8_isLine 11 = .ok (.iload 4, 2) := by decide +kernel
theorem dX8_isLine_13 : decode cX8_isLine 13 = .ok (.invokestatic 114, 3) := by decide +kernel
theorem dX8_isLine_16 : decode cX8_isLine 16 = .ok (.ifCond .eq 31, 3) := by decide +kernel
theorem dX8_isLine_19 : decode cX8_isLine 19 = .ok (.iload_n 1, 1) := by decide +kernel
theorem dX8_isLine_20 : decode cX8_isLine 20 = .ok (.iload_n 3, 1) := by decide +kernel
theorem dX8_isLine_21 : decode cX8_isLine 21 = .ok (.if_icmp .ne 7, 3) := by decide +kernel
theorem dX8_isLine_24 : decode cX8_isLine 24 = .ok (.iconst 1, 1) := by decide +kernel
theorem dX8_isLine_25 : decode cX8_isLine 25 = .ok (.goto 4, 3) := by decide +kernel
theorem dX8_isLine_28 : decode cX8_isLine 28 = .ok (.iconst 0, 1) := by decide +kernel
theorem dX8_isLine_29 : decode cX8_isLine 29 = .ok (.iload_n 2, 1) := by decide +kernel
theorem dX8_isLine_30 : decode cX8_isLine 30 = .ok (.iload 4, 2) := by decide +kernel
theorem dX8_isLine_32 : decode cX8_isLine 32 = .ok (.if_icmp .ne 7, 3) := by decide +kernel
theorem dX8_isLine_35 : decode cX8_isLine 35 = .ok (.iconst 1, 1) := by decide +kernel
theorem dX8_isLine_36 : decode cX8_isLine 36 = .ok (.goto 4, 3) := by decide +kernel
theorem dX8_isLine_39 : decode cX8_isLine 39 = .ok (.iconst 0, 1) := by decide +kernel
theorem dX8_isLine_40 : decode cX8_isLine 40 = .ok (.if_icmp .eq 7, 3) := by decide +kernel
theorem dX8_isLine_43 : decode cX8_isLine 43 = .ok (.iconst 1, 1) := by decide +kernel
theorem dX8_isLine_44 : decode cX8_isLine 44 = .ok (.goto 4, 3) := by decide +kernel
theorem dX8_isLine_47 : decode cX8_isLine 47 = .ok (.iconst 0, 1) := by decide +kernel
theorem dX8_isLine_48 : decode cX8_isLine 48 = .ok (.ireturn, 1) := by decide +kernel
theorem dX8_isOn_0 : decode cX8_isOn 0 = .ok (.aload_n 0, 1) := by decide +kernel
theorem dX8_isOn_1 : decode cX8_isOn 1 = .ok (.iconst 5, 1) := by decide +kernel
theorem dX8_isOn_2 : decode cX8_isOn 2 = .ok (.iload_n 1, 1) := by decide +kernel
theorem dX8_isOn_3 : decode cX8_isOn 3 = .ok (.imul, 1) := by decide +kernel
theorem dX8_isOn_4 : decode cX8_isOn 4 = .ok (.iaload, 1) := by decide +kernel
theorem dX8_isOn_5 : decode cX8_isOn 5 = .ok (.iload_n 2, 1) := by decide +kernel
theorem dX8_isOn_6 : decode cX8_isOn 6 = .ok (.if_icmp .ne 50, 3) := by decide +kernel
theorem dX8_isOn_9 : decode cX8_isOn 9 = .ok (.iload_n 3, 1) := by decide +kernel
theorem dX8_isOn_10 : decode cX8_isOn 10 = .ok (.aload_n 0, 1) := by decide +kernel
theorem dX8_isOn_11 : decode cX8_isOn 11 = .ok (.iconst 5, 1) := by decide +kernel
theorem dX8_isOn_12 : decode cX8_isOn 12 = .ok (.iload_n 1, 1) := by decide +kernel
theorem dX8_isOn_13 : decode cX8_isOn 13 = .ok (.imul, 1) := by decide +kernel
theorem dX8_isOn_14 : decode cX8_isOn 14 = .ok (.iconst 1, 1) := by decide +kernel
theorem dX8_isOn_15 : decode cX8_isOn 15 = .ok (.iadd, 1) := by decide +kernel
theorem dX8_isOn_16 : decode cX8_isOn 16 = .ok (.iaload, 1) := by decide +kernel
theorem dX8_isOn_17 : decode cX8_isOn 17 = .ok (.aload_n 0, 1) := by decide +kernel
theorem dX8_isOn_18 : decode cX8_isOn 18 = .ok (.iconst 5, 1) := by decide +kernel
theorem dX8_isOn_19 : decode cX8_isOn 19 = .ok (.iload_n 1, 1) := by decide +kernel
theorem dX8_isOn_20 : decode cX8_isOn 20 = .ok (.imul, 1) := by decide +kernel
theorem dX8_isOn_21 : decode cX8_isOn 21 = .ok (.iconst 3, 1) := by decide +kernel
theorem dX8_isOn_22 : decode cX8_isOn 22 = .ok (.iadd, 1) := by decide +kernel
theorem dX8_isOn_23 : decode cX8_isOn 23 = .ok (.iaload, 1) := by decide +kernel
theorem dX8_isOn_24 : decode cX8_isOn 24 = .ok (.invokestatic 110, 3) := by decide +kernel
theorem dX8_isOn_27 : decode cX8_isOn 27 = .ok (.ifCond .eq 29, 3) := by decide +kernel
theorem dX8_isOn_30 : decode cX8_isOn 30 = .ok (.iload 4, 2) := by decide +kernel
theorem dX8_isOn_32 : decode cX8_isOn 32 = .ok (.aload_n 0, 1) := by decide +kernel
theorem dX8_isOn_33 : decode cX8_isOn 33 = .ok (.iconst 5, 1) := by decide +kernel
theorem dX8_isOn_34 : decode cX8_isOn 34 = .ok (.iload_n 1, 1) := by decide +kernel
theorem dX8_isOn_35 : decode cX8_isOn 35 = .ok (.imul, 1) := by decide +kernel
theorem dX8_isOn_36 : decode cX8_isOn 36 = .ok (.iconst 2, 1) := by decide +kernel
theorem dX8_isOn_37 : decode cX8_isOn 37 = .ok (.iadd, 1) := by decide +kernel
theorem dX8_isOn_38 : decode cX8_isOn 38 = .ok (.iaload, 1) := by decide +kernel
theorem dX8_isOn_39 : decode cX8_isOn 39 = .ok (.aload_n 0, 1) := by decide +kernel
theorem dX8_isOn_40 : decode cX8_isOn 40 = .ok (.iconst 5, 1) := by decide +kernel
theorem dX8_isOn_41 : decode cX8_isOn 41 = .ok (.iload_n 1, 1) := by decide +kernel
theorem dX8_isOn_42 : decode cX8_isOn 42 = .ok (.imul, 1) := by decide +kernel
theorem dX8_isOn_43 : decode cX8_isOn 43 = .ok (.iconst 4, 1) := by decide +kernel
theorem dX8_isOn_44 : decode cX8_isOn 44 = .ok (.iadd, 1) := by decide +kernel
theorem dX8_isOn_45 : decode cX8_isOn 45 = .ok (.iaload, 1) := by decide +kernel
theorem dX8_isOn_46 : decode cX8_isOn 46 = .ok (.invokestatic 110, 3) := by decide +kernel
theorem dX8_isOn_49 : decode cX8_isOn 49 = .ok (.ifCond .eq 7, 3) := by decide +kernel
theorem dX8_isOn_52 : decode cX8_isOn 52 = .ok (.iconst 1, 1) := by decide +kernel
theorem dX8_isOn_53 : decode cX8_isOn 53 = .ok (.goto 4, 3) := by decide +kernel
theorem dX8_isOn_56 : decode cX8_isOn 56 = .ok (.iconst 0, 1) := by decide +kernel
theorem dX8_isOn_57 : decode cX8_isOn 57 = .ok (.ireturn, 1) := by decide +kernel
theorem dX8_isPlace_0 : decode cX8_isPlace 0 = .ok (.iload_n 0, 1) := by decide +kernel
theorem dX8_isPlace_1 : decode cX8_isPlace 1 = .ok (.iconst 0, 1) := by decide +kernel
theorem dX8_isPlace_2 : decode cX8_isPlace 2 = .ok (.iconst 2, 1) := by decide +kernel
theorem dX8_isPlace_3 : decode cX8_isPlace 3 = .ok (.invokestatic 110, 3) := by decide +kernel
theorem dX8_isPlace_6 : decode cX8_isPlace 6 = .ok (.ifCond .eq 27, 3) := by decide +kernel
theorem dX8_isPlace_9 : decode cX8_isPlace 9 = .ok (.iload_n 1, 1) := by decide +kernel
theorem dX8_isPlace_10 : decode cX8_isPlace 10 = .ok (.iconst 0, 1) := by decide +kernel
theorem dX8_isPlace_11 : decode cX8_isPlace 11 = .ok (.bipush 100, 2) := by decide +kernel
theorem dX8_isPlace_13 : decode cX8_isPlace 13 = .ok (.invokestatic 110, 3) := by decide +kernel
theorem dX8_isPlace_16 : decode cX8_isPlace 16 = .ok (.ifCond .eq 17, 3) := by decide +kernel
theorem dX8_isPlace_19 : decode cX8_isPlace 19 = .ok (.iload_n 2, 1) := by decide +kernel
theorem dX8_isPlace_20 : decode cX8_isPlace 20 = .ok (.iconst 0, 1) := by decide +kernel
theorem dX8_isPlace_21 : decode cX8_isPlace 21 = .ok (.bipush 100, 2) := by decide +kernel
theorem dX8_isPlace_23 : decode cX8_isPlace 23 = .ok (.invokestatic 110, 3) := by decide +kernel
theorem dX8_isPlace_26 : decode cX8_isPlace 26 = .ok (.ifCond .eq 7, 3) := by decide +kernel
theorem dX8_isPlace_29 : decode cX8_isPlace 29 = .ok (.iconst 1, 1) := by decide +kernel
theorem dX8_isPlace_30 : decode cX8_isPlace 30 = .ok (.goto 4, 3) := by decide +kernel
theorem dX8_isPlace_33 : decode cX8_isPlace 33 = .ok (.iconst 0, 1) := by decide +kernel
theorem dX8_isPlace_34 : decode cX8_isPlace 34 = .ok (.ireturn, 1) := by decide +kernel
theorem dX8_isTaken_0 : decode cX8_isTaken 0 = .ok (.iconst 0, 1) := by decide +kernel
theorem dX8_isTaken_1 : decode cX8_isTaken 1 = .ok (.istore 5, 2) := by decide +kernel
theorem dX8_isTaken_3 : decode cX8_isTaken 3 = .ok (.iload 5, 2) := by decide +kernel
theorem dX8_isTaken_5 : decode cX8_isTaken 5 = .ok (.aload_n 0, 1) := by decide +kernel
theorem dX8_isTaken_6 : decode cX8_isTaken 6 = .ok (.getfield 129, 3) := by decide +kernel
theorem dX8_isTaken_9 : decode cX8_isTaken 9 = .ok (.if_icmp .ge 51, 3) := by decide +kernel
theorem dX8_isTaken_12 : decode cX8_isTaken 12 = .ok (.iload 5, 2) := by decide +kernel
theorem dX8_isTaken_14 : decode cX8_isTaken 14 = .ok (.iload_n 1, 1) := by decide +kernel
theorem dX8_isTaken_15 : decode cX8_isTaken 15 = .ok (.if_icmp .eq 39, 3) := by decide +kernel
theorem dX8_isTaken_18 : decode cX8_isTaken 18 = .ok (.aload_n 0, 1) := by decide +kernel
theorem dX8_isTaken_19 : decode cX8_isTaken 19 = .ok (.getfield 74, 3) := by decide +kernel
theorem dX8_isTaken_22 : decode cX8_isTaken 22 = .ok (.iload 5, 2) := by decide +kernel
theorem dX8_isTaken_24 : decode cX8_isTaken 24 = .ok (.iaload, 1) := by decide +kernel
theorem dX8_isTaken_25 : decode cX8_isTaken 25 = .ok (.iload_n 2, 1) := by decide +kernel
theorem dX8_isTaken_26 : decode cX8_isTaken 26 = .ok (.if_icmp .ne 28, 3) := by decide +kernel
theorem dX8_isTaken_29 : decode cX8_isTaken 29 = .ok (.aload_n 0, 1) := by decide +kernel
theorem dX8_isTaken_30 : decode cX8_isTaken 30 = .ok (.getfield 77, 3) := by decide +kernel
theorem dX8_isTaken_33 : decode cX8_isTaken 33 = .ok (.iload 5, 2) := by decide +kernel
theorem dX8_isTaken_35 : decode cX8_isTaken 35 = .ok (.iaload, 1) := by decide +kernel
theorem dX8_isTaken_36 : decode cX8_isTaken 36 = .ok (.iload_n 3, 1) := by decide +kernel
theorem dX8_isTaken_37 : decode cX8_isTaken 37 = .ok (.if_icmp .ne 17, 3) := by decide +kernel
theorem dX8_isTaken_40 : decode cX8_isTaken 40 = .ok (.aload_n 0, 1) := by decide +kernel
theorem dX8_isTaken_41 : decode cX8_isTaken 41 = .ok (.getfield 80, 3) := by decide +kernel
theorem dX8_isTaken_44 : decode cX8_isTaken 44 = .ok (.iload 5, 2) := by decide +kernel
theorem dX8_isTaken_46 : decode cX8_isTaken 46 = .ok (.iaload, 1) := by decide +kernel
theorem dX8_isTaken_47 : decode cX8_isTaken 47 = .ok (.iload 4, 2) := by decide +kernel
theorem dX8_isTaken_49 : decode cX8_isTaken 49 = .ok (.if_icmp .ne 5, 3) := by decide +kernel
theorem dX8_isTaken_52 : decode cX8_isTaken 52 = .ok (.iconst 1, 1) := by decide +kernel
theorem dX8_isTaken_53 : decode cX8_isTaken 53 = .ok (.ireturn, 1) := by decide +kernel
theorem dX8_isTaken_54 : decode cX8_isTaken 54 = .ok (.iinc 5 1, 3) := by decide +kernel
theorem dX8_isTaken_57 : decode cX8_isTaken 57 = .ok (.goto (-54), 3) := by decide +kernel
theorem dX8_isTaken_60 : decode cX8_isTaken 60 = .ok (.iconst 0, 1) := by decide +kernel
theorem dX8_isTaken_61 : decode cX8_isTaken 61 = .ok (.ireturn, 1) := by decide +kernel
