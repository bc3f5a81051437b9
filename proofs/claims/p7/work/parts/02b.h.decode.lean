theorem dX8_way_63 : decode cX8_way 63 = .ok (.aload_n 0, 1) := by decide +kernel
theorem dX8_way_64 : decode cX8_way 64 = .ok (.invokevirtual 244, 3) := by decide +kernel
theorem dX8_way_67 : decode cX8_way 67 = .ok (.aload_n 0, 1) := by decide +kernel
theorem dX8_way_68 : decode cX8_way 68 = .ok (.getfield 53, 3) := by decide +kernel
theorem dX8_way_71 : decode cX8_way 71 = .ok (.iconst 1, 1) := by decide +kernel
theorem dX8_way_72 : decode cX8_way 72 = .ok (.iaload, 1) := by decide +kernel
theorem dX8_way_73 : decode cX8_way 73 = .ok (.iconst (-1), 1) := by decide +kernel
theorem dX8_way_74 : decode cX8_way 74 = .ok (.if_icmp .ne 5, 3) := by decide +kernel
theorem dX8_way_77 : decode cX8_way 77 = .ok (.iconst (-1), 1) := by decide +kernel
theorem dX8_way_78 : decode cX8_way 78 = .ok (.ireturn, 1) := by decide +kernel
theorem dX8_way_79 : decode cX8_way 79 = .ok (.aload_n 0, 1) := by decide +kernel
theorem dX8_way_80 : decode cX8_way 80 = .ok (.invokevirtual 247, 3) := by decide +kernel
theorem dX8_way_83 : decode cX8_way 83 = .ok (.aload_n 0, 1) := by decide +kernel
theorem dX8_way_84 : decode cX8_way 84 = .ok (.aload_n 0, 1) := by decide +kernel
theorem dX8_way_85 : decode cX8_way 85 = .ok (.getfield 237, 3) := by decide +kernel
theorem dX8_way_88 : decode cX8_way 88 = .ok (.putfield 250, 3) := by decide +kernel
theorem dX8_way_91 : decode cX8_way 91 = .ok (.iconst 0, 1) := by decide +kernel
theorem dX8_way_92 : decode cX8_way 92 = .ok (.istore 7, 2) := by decide +kernel
theorem dX8_way_94 : decode cX8_way 94 = .ok (.iload 7, 2) := by decide +kernel
theorem dX8_way_96 : decode cX8_way 96 = .ok (.aload_n 0, 1) := by decide +kernel
theorem dX8_way_97 : decode cX8_way 97 = .ok (.getfield 250, 3) := by decide +kernel
theorem dX8_way_100 : decode cX8_way 100 = .ok (.if_icmp .ge 66, 3) := by decide +kernel
theorem dX8_way_103 : decode cX8_way 103 = .ok (.aload_n 0, 1) := by decide +kernel
theorem dX8_way_104 : decode cX8_way 104 = .ok (.getfield 65, 3) := by decide +kernel
theorem dX8_way_107 : decode cX8_way 107 = .ok (.iload 7, 2) := by decide +kernel
theorem dX8_way_109 : decode cX8_way 109 = .ok (.aload_n 0, 1) := by decide +kernel
theorem dX8_way_110 : decode cX8_way 110 = .ok (.getfield 47, 3) := by decide +kernel
theorem dX8_way_113 : decode cX8_way 113 = .ok (.aload_n 0, 1) := by decide +kernel
theorem dX8_way_114 : decode cX8_way 114 = .ok (.getfield 62, 3) := by decide +kernel
theorem dX8_way_117 : decode cX8_way 117 = .ok (.iload 7, 2) := by decide +kernel
theorem dX8_way_119 : decode cX8_way 119 = .ok (.iaload, 1) := by decide +kernel
theorem dX8_way_120 : decode cX8_way 120 = .ok (.iaload, 1) := by decide +kernel
theorem dX8_way_121 : decode cX8_way 121 = .ok (.iastore, 1) := by decide +kernel
theorem dX8_way_122 : decode cX8_way 122 = .ok (.aload_n 0, 1) := by decide +kernel
theorem dX8_way_123 : decode cX8_way 123 = .ok (.getfield 68, 3) := by decide +kernel
theorem dX8_way_126 : decode cX8_way 126 = .ok (.iload 7, 2) := by decide +kernel
theorem dX8_way_128 : decode cX8_way 128 = .ok (.aload_n 0, 1) := by decide +kernel
theorem dX8_way_129 : decode cX8_way 129 = .ok (.getfield 50, 3) := by decide +kernel
theorem dX8_way_132 : decode cX8_way 132 = .ok (.aload_n 0, 1) := by decide +kernel
theorem dX8_way_133 : decode cX8_way 133 = .ok (.getfield 62, 3) := by decide +kernel
theorem dX8_way_136 : decode cX8_way 136 = .ok (.iload 7, 2) := by decide +kernel
theorem dX8_way_138 : decode cX8_way 138 = .ok (.iaload, 1) := by decide +kernel
theorem dX8_way_139 : decode cX8_way 139 = .ok (.iaload, 1) := by decide +kernel
theorem dX8_way_140 : decode cX8_way 140 = .ok (.iastore, 1) := by decide +kernel
theorem dX8_way_141 : decode cX8_way 141 = .ok (.aload_n 0, 1) := by decide +kernel
theorem dX8_way_142 : decode cX8_way 142 = .ok (.getfield 71, 3) := by decide +kernel
theorem dX8_way_145 : decode cX8_way 145 = .ok (.iload 7, 2) := by decide +kernel
theorem dX8_way_147 : decode cX8_way 147 = .ok (.aload_n 0, 1) := by decide +kernel
theorem dX8_way_148 : decode cX8_way 148 = .ok (.getfield 44, 3) := by decide +kernel
theorem dX8_way_151 : decode cX8_way 151 = .ok (.aload_n 0, 1) := by decide +kernel
theorem dX8_way_152 : decode cX8_way 152 = .ok (.getfield 62, 3) := by decide +kernel
theorem dX8_way_155 : decode cX8_way 155 = .ok (.iload 7, 2) := by decide +kernel
theorem dX8_way_157 : decode cX8_way 157 = .ok (.iaload, 1) := by decide +kernel
theorem dX8_way_158 : decode cX8_way 158 = .ok (.iaload, 1) := by decide +kernel
theorem dX8_way_159 : decode cX8_way 159 = .ok (.iastore, 1) := by decide +kernel
theorem dX8_way_160 : decode cX8_way 160 = .ok (.iinc 7 1, 3) := by decide +kernel
theorem dX8_way_163 : decode cX8_way 163 = .ok (.goto (-69), 3) := by decide +kernel
theorem dX8_way_166 : decode cX8_way 166 = .ok (.aload_n 0, 1) := by decide +kernel
theorem dX8_way_167 : decode cX8_way 167 = .ok (.getfield 53, 3) := by decide +kernel
theorem dX8_way_170 : decode cX8_way 170 = .ok (.iconst 1, 1) := by decide +kernel
theorem dX8_way_171 : decode cX8_way 171 = .ok (.iaload, 1) := by decide +kernel
theorem dX8_way_172 : decode cX8_way 172 = .ok (.ireturn, 1) := by decide +kernel
