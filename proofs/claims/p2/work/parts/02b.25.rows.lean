set_option maxRecDepth 20000 in
theorem ggX8_tick_X8_in : GoodIn wsX8_tick wsX8_in := goodIn_r _ [7] (by decide +kernel) (by decide +kernel)
set_option maxRecDepth 20000 in
theorem gX8_tick_X8_in : GoodIn wsX8_tick (va_wsS RX8 110 yX8_in wsX8_in) := goodIn_app (goodIn_of _ (by decide +kernel)) ggX8_tick_X8_in
set_option maxRecDepth 20000 in
theorem ggX8_tick_X8_turn : GoodIn wsX8_tick wsX8_turn := goodIn_r _ [11, 12, 13, 14, 15, 16, 17, 18, 19, 20, 3, 21, 22, 23, 6, 24, 25, 26, 27, 28, 29, 30, 31, 32, 33, 34, 35, 36, 37, 38, 39, 40, 41, 42, 43, 44, 45, 46, 47, 48, 49, 50, 51, 52, 53, 54, 55, 56, 57, 58, 59, 60, 61, 62, 63, 64, 65, 66, 67, 68, 69, 70, 71, 72, 73, 74, 75, 76, 77, 78, 79, 80, 81, 82, 83, 84, 85, 4, 5, 7, 86, 87, 88, 89, 90, 91, 92, 93, 94, 95, 96, 97, 98, 2, 99, 100, 101, 102, 103, 104, 105, 106, 107, 108, 109, 110, 111, 112, 113, 114, 115, 116, 117, 118, 119, 120, 121, 122, 123, 124, 125, 126, 127, 128, 129, 130, 131, 132, 133, 134, 135, 136, 137, 138, 139, 140, 141, 142, 143, 144, 145, 146, 147, 148, 149, 150, 151, 152, 153, 154, 155, 156, 157, 158, 159, 160, 161, 162, 163, 164, 165, 166, 167, 168, 169, 170, 171, 172, 173, 174, 175, 176, 177, 178, 179, 180, 181, 182, 183, 184, 185, 186, 187, 188, 189, 190, 191] (by decide +kernel) (by decide +kernel)
set_option maxRecDepth 20000 in
theorem gX8_tick_X8_turn : GoodIn wsX8_tick (wsV RX8 269 RX8 yX8_turn wsX8_turn) := goodIn_app (goodIn_of _ (by decide +kernel)) ggX8_tick_X8_turn
theorem dX8_tick_0 : decode cX8_tick 0 = .ok (.iload_n 1, 1) := by decide +kernel
theorem dX8_tick_1 : decode cX8_tick 1 = .ok (.iconst 1, 1) := by decide +kernel
theorem dX8_tick_2 : decode cX8_tick 2 = .ok (.bipush 10, 2) := by decide +kernel
theorem dX8_tick_4 : decode cX8_tick 4 = .ok (.invokestatic 110, 3) := by decide +kernel
theorem dX8_tick_7 : decode cX8_tick 7 = .ok (.ifCond .ne 6, 3) := by decide +kernel
theorem dX8_tick_10 : decode cX8_tick 10 = .ok (.bipush (-2), 2) := by decide +kernel
theorem dX8_tick_12 : decode cX8_tick 12 = .ok (.ireturn, 1) := by decide +kernel
theorem dX8_tick_13 : decode cX8_tick 13 = .ok (.iconst 0, 1) := by decide +kernel
theorem dX8_tick_14 : decode cX8_tick 14 = .ok (.istore_n 2, 1) := by decide +kernel
theorem dX8_tick_15 : decode cX8_tick 15 = .ok (.iload_n 2, 1) := by decide +kernel
theorem dX8_tick_16 : decode cX8_tick 16 = .ok (.iload_n 1, 1) := by decide +kernel
theorem dX8_tick_17 : decode cX8_tick 17 = .ok (.if_icmp .ge 49, 3) := by decide +kernel
theorem dX8_tick_20 : decode cX8_tick 20 = .ok (.aload_n 0, 1) := by decide +kernel
theorem dX8_tick_21 : decode cX8_tick 21 = .ok (.dup, 1) := by decide +kernel
theorem dX8_tick_22 : decode cX8_tick 22 = .ok (.getfield 266, 3) := by decide +kernel
theorem dX8_tick_25 : decode cX8_tick 25 = .ok (.iconst 1, 1) := by decide +kernel
theorem dX8_tick_26 : decode cX8_tick 26 = .ok (.iadd, 1) := by decide +kernel
theorem dX8_tick_27 : decode cX8_tick 27 = .ok (.putfield 266, 3) := by decide +kernel
theorem dX8_tick_30 : decode cX8_tick 30 = .ok (.iconst 0, 1) := by decide +kernel
theorem dX8_tick_31 : decode cX8_tick 31 = .ok (.istore_n 3, 1) := by decide +kernel
theorem dX8_tick_32 : decode cX8_tick 32 = .ok (.iload_n 3, 1) := by decide +kernel
theorem dX8_tick_33 : decode cX8_tick 33 = .ok (.aload_n 0, 1) := by decide +kernel
theorem dX8_tick_34 : decode cX8_tick 34 = .ok (.getfield 129, 3) := by decide +kernel
theorem dX8_tick_37 : decode cX8_tick 37 = .ok (.if_icmp .ge 23, 3) := by decide +kernel
theorem dX8_tick_40 : decode cX8_tick 40 = .ok (.aload_n 0, 1) := by decide +kernel
theorem dX8_tick_41 : decode cX8_tick 41 = .ok (.getfield 83, 3) := by decide +kernel
theorem dX8_tick_44 : decode cX8_tick 44 = .ok (.iload_n 3, 1) := by decide +kernel
theorem dX8_tick_45 : decode cX8_tick 45 = .ok (.iaload, 1) := by decide +kernel
theorem dX8_tick_46 : decode cX8_tick 46 = .ok (.ifCond .le 8, 3) := by decide +kernel
theorem dX8_tick_49 : decode cX8_tick 49 = .ok (.aload_n 0, 1) := by decide +kernel
theorem dX8_tick_50 : decode cX8_tick 50 = .ok (.iload_n 3, 1) := by decide +kernel
theorem dX8_tick_51 : decode cX8_tick 51 = .ok (.invokevirtual 269, 3) := by decide +kernel
theorem dX8_tick_54 : decode cX8_tick 54 = .ok (.iinc 3 1, 3) := by decide +kernel
theorem dX8_tick_57 : decode cX8_tick 57 = .ok (.goto (-25), 3) := by decide +kernel
theorem dX8_tick_60 : decode cX8_tick 60 = .ok (.iinc 2 1, 3) := by decide +kernel
theorem dX8_tick_63 : decode cX8_tick 63 = .ok (.goto (-48), 3) := by decide +kernel
theorem dX8_tick_66 : decode cX8_tick 66 = .ok (.iconst 0, 1) := by decide +kernel
theorem dX8_tick_67 : decode cX8_tick 67 = .ok (.istore_n 2, 1) := by decide +kernel
theorem dX8_tick_68 : decode cX8_tick 68 = .ok (.iconst 0, 1) := by decide +kernel
theorem dX8_tick_69 : decode cX8_tick 69 = .ok (.istore_n 3, 1) := by decide +kernel
theorem dX8_tick_70 : decode cX8_tick 70 = .ok (.iload_n 3, 1) := by decide +kernel
theorem dX8_tick_71 : decode cX8_tick 71 = .ok (.aload_n 0, 1) := by decide +kernel
theorem dX8_tick_72 : decode cX8_tick 72 = .ok (.getfield 129, 3) := by decide +kernel
theorem dX8_tick_75 : decode cX8_tick 75 = .ok (.if_icmp .ge 26, 3) := by decide +kernel
theorem dX8_tick_78 : decode cX8_tick 78 = .ok (.iload_n 2, 1) := by decide +kernel
theorem dX8_tick_79 : decode cX8_tick 79 = .ok (.aload_n 0, 1) := by decide +kernel
theorem dX8_tick_80 : decode cX8_tick 80 = .ok (.getfield 83, 3) := by decide +kernel
theorem dX8_tick_83 : decode cX8_tick 83 = .ok (.iload_n 3, 1) := by decide +kernel
theorem dX8_tick_84 : decode cX8_tick 84 = .ok (.iaload, 1) := by decide +kernel
theorem dX8_tick_85 : decode cX8_tick 85 = .ok (.ifCond .le 7, 3) := by decide +kernel
theorem dX8_tick_88 : decode cX8_tick 88 = .ok (.iconst 1, 1) := by decide +kernel
theorem dX8_tick_89 : decode cX8_tick 89 = .ok (.goto 4, 3) := by decide +kernel
theorem dX8_tick_92 : decode cX8_tick 92 = .ok (.iconst 0, 1) := by decide +kernel
theorem dX8_tick_93 : decode cX8_tick 93 = .ok (.iadd, 1) := by decide +kernel
theorem dX8_tick_94 : decode cX8_tick 94 = .ok (.istore_n 2, 1) := by decide +kernel
theorem dX8_tick_95 : decode cX8_tick 95 = .ok (.iinc 3 1, 3) := by decide +kernel
theorem dX8_tick_98 : decode cX8_tick 98 = .ok (.goto (-28), 3) := by decide +kernel
theorem dX8_tick_101 : decode cX8_tick 101 = .ok (.iload_n 2, 1) := by decide +kernel
theorem dX8_tick_102 : decode cX8_tick 102 = .ok (.ireturn, 1) := by decide +kernel
set_option maxRecDepth 20000 in
theorem ggX8_way_X8_isPlace : GoodIn wsX8_way wsX8_isPlace := goodIn_r _ [14, 15, 16, 13, 17] (by decide +kernel) (by decide +kernel)
set_option maxRecDepth 20000 in
theorem gX8_way_X8_isPlace : GoodIn wsX8_way (va_wsS RX8 114 yX8_isPlace wsX8_isPlace) := goodIn_app (goodIn_of _ (by decide +kernel)) ggX8_way_X8_isPlace
set_option maxRecDepth 20000 in
theorem ggX8_way_X8_isGround : GoodIn wsX8_way wsX8_isGround := goodIn_r _ [21, 22, 23, 24, 25, 26, 27, 13, 28, 15, 16, 17, 29, 30, 31, 120, 121, 122, 123, 124, 125, 126, 127, 128, 129, 130, 131, 132, 133, 134, 135, 136, 137, 138, 139, 140, 141, 142, 143, 144, 145, 146, 147, 148, 149, 150, 151, 152, 153, 154, 155, 156, 157, 158, 159, 160, 161, 162, 163, 164, 165, 166, 167, 168] (by decide +kernel) (by decide +kernel)
set_option maxRecDepth 20000 in
theorem gX8_way_X8_isGround : GoodIn wsX8_way (wsV RX8 152 RX8 yX8_isGround wsX8_isGround) := goodIn_app (goodIn_of _ (by decide +kernel)) ggX8_way_X8_isGround
set_option maxRecDepth 20000 in
theorem ggX8_way_X8_findNodes : GoodIn wsX8_way wsX8_findNodes := goodIn_r _ [35, 36, 22, 23, 24, 25, 37, 38, 39, 40, 41, 13, 42, 10, 5, 8, 43, 18, 19, 20, 21, 26, 27, 28, 15, 16, 17, 29, 30, 31, 44, 45, 46, 47, 120, 121, 122, 123, 124, 125, 126, 127, 128, 129, 130, 131, 132, 133, 134, 135, 136, 137, 138, 139, 140, 141, 142, 143, 144, 145, 146, 147, 148, 149, 150, 151, 152, 153, 154, 155, 156, 157, 158, 159, 160, 161, 162, 163, 164, 165, 166, 167, 168] (by decide +kernel) (by decide +kernel)
set_option maxRecDepth 20000 in
theorem gX8_way_X8_findNodes : GoodIn wsX8_way (wsV RX8 240 RX8 yX8_findNodes wsX8_findNodes) := goodIn_app (goodIn_of _ (by decide +kernel)) ggX8_way_X8_findNodes
set_option maxRecDepth 20000 in
theorem ggX8_way_X8_settles : GoodIn wsX8_way wsX8_settles := goodIn_r _ [51, 36, 1, 52, 53, 43, 54, 55, 56, 13, 57, 10, 5, 8, 58, 59, 60, 61, 62, 63, 64, 65, 66, 67, 68, 69, 70, 71, 72, 73, 74, 75, 76, 77, 78, 79, 80, 81, 82, 22, 23, 83, 84, 85, 86, 24, 25, 87, 88, 89, 90, 91, 92, 93, 94, 95, 96, 97, 98, 99, 100, 101, 102, 103, 104, 105, 106, 107, 108, 109, 110, 111, 112, 113, 114, 115, 37, 38, 120, 121, 122, 123, 124, 125, 126, 127, 128, 129, 130, 131, 132, 133, 134, 135, 136, 137, 138, 139, 140, 141, 142, 143, 144, 145, 146, 147, 148, 149, 150, 151, 152, 153, 154, 155, 156, 157, 158, 159, 160, 161, 162, 163, 164, 165, 166, 167, 168] (by decide +kernel) (by decide +kernel)
set_option maxRecDepth 20000 in
theorem gX8_way_X8_settles : GoodIn wsX8_way (wsV RX8 244 RX8 yX8_settles wsX8_settles) := goodIn_app (goodIn_of _ (by decide +kernel)) ggX8_way_X8_settles
set_option maxRecDepth 20000 in
theorem ggX8_way_X8_readBack : GoodIn wsX8_way wsX8_readBack := goodIn_r _ [119, 2, 52, 6, 120, 121, 122, 123, 124, 125, 126, 127, 128, 129, 130, 131, 132, 133, 134, 135, 136, 137, 138, 139, 140, 141, 142, 143, 144, 145, 146, 147, 148, 149, 150, 151, 152, 153, 154, 155, 156, 157, 158, 159, 160, 161, 162, 163, 164, 165, 166, 167, 168] (by decide +kernel) (by decide +kernel)
set_option maxRecDepth 20000 in
theorem gX8_way_X8_readBack : GoodIn wsX8_way (wsV RX8 247 RX8 yX8_readBack wsX8_readBack) := goodIn_app (goodIn_of _ (by decide +kernel)) ggX8_way_X8_readBack
theorem dX8_way_0 : decode cX8_way 0 = .ok (.iload_n 1, 1) := by decide +kernel
theorem dX8_way_1 : decode cX8_way 1 = .ok (.iload_n 2, 1) := by decide +kernel
theorem dX8_way_2 : decode cX8_way 2 = .ok (.iload_n 3, 1) := by decide +kernel
theorem dX8_way_3 : decode cX8_way 3 = .ok (.invokestatic 114, 3) := by decide +kernel
theorem dX8_way_6 : decode cX8_way 6 = .ok (.ifCond .eq 15, 3) := by decide +kernel
theorem dX8_way_9 : decode cX8_way 9 = .ok (.iload 4, 2) := by decide +kernel
theorem dX8_way_11 : decode cX8_way 11 = .ok (.iload 5, 2) := by decide +kernel
theorem dX8_way_13 : decode cX8_way 13 = .ok (.iload 6, 2) := by decide +kernel
theorem dX8_way_15 : decode cX8_way 15 = .ok (.invokestatic 114, 3) := by decide +kernel
theorem dX8_way_18 : decode cX8_way 18 = .ok (.ifCond .ne 6, 3) := by decide +kernel
theorem dX8_way_21 : decode cX8_way 21 = .ok (.bipush (-2), 2) := by decide +kernel
theorem dX8_way_23 : decode cX8_way 23 = .ok (.ireturn, 1) := by decide +kernel
theorem dX8_way_24 : decode cX8_way 24 = .ok (.aload_n 0, 1) := by decide +kernel
theorem dX8_way_25 : decode cX8_way 25 = .ok (.iload_n 1, 1) := by decide +kernel
theorem dX8_way_26 : decode cX8_way 26 = .ok (.iload_n 2, 1) := by decide +kernel
theorem dX8_way_27 : decode cX8_way 27 = .ok (.iload_n 3, 1) := by decide +kernel
theorem dX8_way_28 : decode cX8_way 28 = .ok (.invokevirtual 152, 3) := by decide +kernel
theorem dX8_way_31 : decode cX8_way 31 = .ok (.ifCond .eq 16, 3) := by decide +kernel
theorem dX8_way_34 : decode cX8_way 34 = .ok (.aload_n 0, 1) := by decide +kernel
theorem dX8_way_35 : decode cX8_way 35 = .ok (.iload 4, 2) := by decide +kernel
theorem dX8_way_37 : decode cX8_way 37 = .ok (.iload 5, 2) := by decide +kernel
theorem dX8_way_39 : decode cX8_way 39 = .ok (.iload 6, 2) := by decide +kernel
theorem dX8_way_41 : decode cX8_way 41 = .ok (.invokevirtual 152, 3) := by decide +kernel
theorem dX8_way_44 : decode cX8_way 44 = .ok (.ifCond .ne 6, 3) := by decide +kernel
theorem dX8_way_47 : decode cX8_way 47 = .ok (.bipush (-3), 2) := by decide +kernel
theorem dX8_way_49 : decode cX8_way 49 = .ok (.ireturn, 1) := by decide +kernel
theorem dX8_way_50 : decode cX8_way 50 = .ok (.aload_n 0, 1) := by decide +kernel
theorem dX8_way_51 : decode cX8_way 51 = .ok (.iload_n 1, 1) := by decide +kernel
theorem dX8_way_52 : decode cX8_way 52 = .ok (.iload_n 2, 1) := by decide +kernel
theorem dX8_way_53 : decode cX8_way 53 = .ok (.iload_n 3, 1) := by decide +kernel
theorem dX8_way_54 : decode cX8_way 54 = .ok (.iload 4, 2) := by decide +kernel
theorem dX8_way_56 : decode cX8_way 56 = .ok (.iload 5, 2) := by decide +kernel
theorem dX8_way_58 : decode cX8_way 58 = .ok (.iload 6, 2) := by decide +kernel
theorem dX8_way_60 : decode cX8_way 60 = .ok (.invokevirtual 240, 3) := by decide +kernel
theorem dX8_way_63 : decode cX8_way 63 = .ok (.aload_n 0, 1) := by decide +kernel
theorem dX8_way_64 : decode cX8_way 64 = .ok (.invokevirtual 244, 3) := by decide +kernel
theorem dX8_way_67 : decode cX8_way 67 = .ok (.aload_n 0, 1) := by decide +kernel
theorem dX8_way_68 : decode cX8_way 68 = .ok (.getfield 53, 3) := by decide +kernel
theorem dX8_way_71 : decode cX8_way 71 = .ok (.iconst 1, 1) := by decide +kernel
theorem dX8_way_72 : decode cX8_way 72 = .ok (.iaload, 1) := by decide +kernel
theorem dX8_way_73 : decode cX8_way 73 = .ok (.iconst (-1), 1) := by decide +kernel
theorem dX8_way_74 : decode cX8_way 74 = .ok (.if_icmp .ne 5, 3) := by decide +kernel
theorem dX8_way_77 : decode cX8_way 77 = .ok (.iconst (-1), 1) := by decide +kernel
theorem dX8_way_78 : decode cX8_way 78 = .ok (.ireturn, 1) := by decide +kernel
theorem dX8_way_79 : decode cX8_way 79 = .ok (.aload_n 0, 1) := by decide +kernel
theorem dX8_way_80 : decode cX8_way 80 = .ok (.invokevirtual 247, 3) := by decide +kernel
theorem dX8_way_83 : decode cX8_way 83 = .ok (.aload_n 0, 1) := by decide +kernel
theorem dX8_way_84 : decode cX8_way 84 = .ok (.aload_n 0, 1) := by decide +kernel
theorem dX8_way_85 : decode cX8_way 85 = .ok (.getfield 237, 3) := by decide +kernel
theorem dX8_way_88 : decode cX8_way 88 = .ok (.putfield 250, 3) := by decide +kernel
theorem dX8_way_91 : decode cX8_way 91 = .ok (.iconst 0, 1) := by decide +kernel
theorem dX8_way_92 : decode cX8_way 92 = .ok (.istore 7, 2) := by decide +kernel
theorem dX8_way_94 : decode cX8_way 94 = .ok (.iload 7, 2) := by decide +kernel
theorem dX8_way_96 : decode cX8_way 96 = .ok (.aload_n 0, 1) := by decide +kernel
theorem dX8_way_97 : decode cX8_way 97 = .ok (.getfield 250, 3) := by decide +kernel
theorem dX8_way_100 : decode cX8_way 100 = .ok (.if_icmp .ge 66, 3) := by decide +kernel
theorem dX8_way_103 : decode cX8_way 103 = .ok (.aload_n 0, 1) := by decide +kernel
theorem dX8_way_104 : decode cX8_way 104 = .ok (.getfield 65, 3) := by decide +kernel
theorem dX8_way_107 : decode cX8_way 107 = .ok (.iload 7, 2) := by decide +kernel
theorem dX8_way_109 : decode cX8_way 109 = .ok (.aload_n 0, 1) := by decide +kernel
theorem dX8_way_110 : decode cX8_way 110 = .ok (.getfield 47, 3) := by decide +kernel
theorem dX8_way_113 : decode cX8_way 113 = .ok (.aload_n 0, 1) := by decide +kernel
theorem dX8_way_114 : decode cX8_way 114 = .ok (.getfield 62, 3) := by decide +kernel
theorem dX8_way_117 : decode cX8_way 117 = .ok (.iload 7, 2) := by decide +kernel
theorem dX8_way_119 : decode cX8_way 119 = .ok (.iaload, 1) := by decide +kernel
theorem dX8_way_120 : decode cX8_way 120 = .ok (.iaload, 1) := by decide +kernel
theorem dX8_way_121 : decode cX8_way 121 = .ok (.iastore, 1) := by decide +kernel
theorem dX8_way_122 : decode cX8_way 122 = .ok (.aload_n 0, 1) := by decide +kernel
theorem dX8_way_123 : decode cX8_way 123 = .ok (.getfield 68, 3) := by decide +kernel
theorem dX8_way_126 : decode cX8_way 126 = .ok (.iload 7, 2) := by decide +kernel
theorem dX8_way_128 : decode cX8_way 128 = .ok (.aload_n 0, 1) := by decide +kernel
theorem dX8_way_129 : decode cX8_way 129 = .ok (.getfield 50, 3) := by decide +kernel
theorem dX8_way_132 : decode cX8_way 132 = .ok (.aload_n 0, 1) := by decide +kernel
theorem dX8_way_133 : decode cX8_way 133 = .ok (.getfield 62, 3) := by decide +kernel
theorem dX8_way_136 : decode cX8_way 136 = .ok (.iload 7, 2) := by decide +kernel
theorem dX8_way_138 : decode cX8_way 138 = .ok (.iaload, 1) := by decide +kernel
theorem dX8_way_139 : decode cX8_way 139 = .ok (.iaload, 1) := by decide +kernel
theorem dX8_way_140 : decode cX8_way 140 = .ok (.iastore, 1) := by decide +kernel
theorem dX8_way_141 : decode cX8_way 141 = .ok (.aload_n 0, 1) := by decide +kernel
theorem dX8_way_142 : decode cX8_way 142 = .ok (.getfield 71, 3) := by decide +kernel
theorem dX8_way_145 : decode cX8_way 145 = .ok (.iload 7, 2) := by decide +kernel
theorem dX8_way_147 : decode cX8_way 147 = .ok (.aload_n 0, 1) := by decide +kernel
theorem dX8_way_148 : decode cX8_way 148 = .ok (.getfield 44, 3) := by decide +kernel
theorem dX8_way_151 : decode cX8_way 151 = .ok (.aload_n 0, 1) := by decide +kernel
theorem dX8_way_152 : decode cX8_way 152 = .ok (.getfield 62, 3) := by decide +kernel
theorem dX8_way_155 : decode cX8_way 155 = .ok (.iload 7, 2) := by decide +kernel
theorem dX8_way_157 : decode cX8_way 157 = .ok (.iaload, 1) := by decide +kernel
theorem dX8_way_158 : decode cX8_way 158 = .ok (.iaload, 1) := by decide +kernel
theorem dX8_way_159 : decode cX8_way 159 = .ok (.iastore, 1) := by decide +kernel
theorem dX8_way_160 : decode cX8_way 160 = .ok (.iinc 7 1, 3) := by decide +kernel
theorem dX8_way_163 : decode cX8_way 163 = .ok (.goto (-69), 3) := by decide +kernel
theorem dX8_way_166 : decode cX8_way 166 = .ok (.aload_n 0, 1) := by decide +kernel
theorem dX8_way_167 : decode cX8_way 167 = .ok (.getfield 53, 3) := by decide +kernel
theorem dX8_way_170 : decode cX8_way 170 = .ok (.iconst 1, 1) := by decide +kernel
theorem dX8_way_171 : decode cX8_way 171 = .ok (.iaload, 1) := by decide +kernel
theorem dX8_way_172 : decode cX8_way 172 = .ok (.ireturn, 1) := by decide +kernel
set_option maxRecDepth 20000 in
theorem ggX8_reach_X8_isPlace : GoodIn wsX8_reach wsX8_isPlace := goodIn_r _ [7, 8, 9, 6, 10] (by decide +kernel) (by decide +kernel)
set_option maxRecDepth 20000 in
theorem gX8_reach_X8_isPlace : GoodIn wsX8_reach (va_wsS RX8 114 yX8_isPlace wsX8_isPlace) := goodIn_app (goodIn_of _ (by decide +kernel)) ggX8_reach_X8_isPlace
set_option maxRecDepth 20000 in
theorem ggX8_reach_X8_isGround : GoodIn wsX8_reach wsX8_isGround := goodIn_r _ [14, 1, 15, 16, 17, 18, 19, 6, 20, 8, 9, 10, 21, 22, 23, 110, 111, 112, 113, 114, 115, 116, 117, 118, 119, 120, 121, 122, 123, 124, 125, 126, 127, 128, 129, 130, 131, 132, 133, 134, 135, 136, 137, 138, 139, 140, 141, 142, 143, 144, 145, 146, 147, 148, 149, 150, 151, 152, 153, 154, 155, 156, 157, 158] (by decide +kernel) (by decide +kernel)
set_option maxRecDepth 20000 in
theorem gX8_reach_X8_isGround : GoodIn wsX8_reach (wsV RX8 152 RX8 yX8_isGround wsX8_isGround) := goodIn_app (goodIn_of _ (by decide +kernel)) ggX8_reach_X8_isGround
set_option maxRecDepth 20000 in
theorem ggX8_reach_X8_findNodes : GoodIn wsX8_reach wsX8_findNodes := goodIn_r _ [27, 28, 1, 15, 16, 17, 29, 30, 31, 32, 33, 6, 34, 35, 36, 37, 2, 11, 12, 13, 14, 18, 19, 20, 8, 9, 10, 21, 22, 23, 38, 39, 40, 41, 110, 111, 112, 113, 114, 115, 116, 117, 118, 119, 120, 121, 122, 123, 124, 125, 126, 127, 128, 129, 130, 131, 132, 133, 134, 135, 136, 137, 138, 139, 140, 141, 142, 143, 144, 145, 146, 147, 148, 149, 150, 151, 152, 153, 154, 155, 156, 157, 158] (by decide +kernel) (by decide +kernel)
set_option maxRecDepth 20000 in
theorem gX8_reach_X8_findNodes : GoodIn wsX8_reach (wsV RX8 240 RX8 yX8_findNodes wsX8_findNodes) := goodIn_app (goodIn_of _ (by decide +kernel)) ggX8_reach_X8_findNodes
set_option maxRecDepth 20000 in
theorem ggX8_reach_X8_settles : GoodIn wsX8_reach wsX8_settles := goodIn_r _ [45, 28, 46, 47, 3, 2, 48, 49, 50, 6, 51, 35, 36, 37, 52, 53, 54, 55, 56, 57, 58, 59, 60, 61, 62, 63, 64, 65, 66, 67, 68, 69, 70, 71, 72, 73, 74, 75, 76, 1, 15, 77, 78, 79, 80, 16, 17, 81, 82, 83, 84, 85, 86, 87, 88, 89, 90, 91, 92, 93, 94, 95, 96, 97, 98, 99, 100, 101, 102, 103, 104, 105, 106, 107, 108, 109, 29, 30, 110, 111, 112, 113, 114, 115, 116, 117, 118, 119, 120, 121, 122, 123, 124, 125, 126, 127, 128, 129, 130, 131, 132, 133, 134, 135, 136, 137, 138, 139, 140, 141, 142, 143, 144, 145, 146, 147, 148, 149, 150, 151, 152, 153, 154, 155, 156, 157, 158] (by decide +kernel) (by decide +kernel)
set_option maxRecDepth 20000 in
theorem gX8_reach_X8_settles : GoodIn wsX8_reach (wsV RX8 244 RX8 yX8_settles wsX8_settles) := goodIn_app (goodIn_of _ (by decide +kernel)) ggX8_reach_X8_settles
theorem dX8_reach_0 : decode cX8_reach 0 = .ok (.iload_n 1, 1) := by decide +kernel
theorem dX8_reach_1 : decode cX8_reach 1 = .ok (.iload_n 2, 1) := by decide +kernel
theorem dX8_reach_2 : decode cX8_reach 2 = .ok (.iload_n 3, 1) := by decide +kernel
theorem dX8_reach_3 : decode cX8_reach 3 = .ok (.invokestatic 114, 3) := by decide +kernel
theorem dX8_reach_6 : decode cX8_reach 6 = .ok (.ifCond .ne 6, 3) := by decide +kernel
theorem dX8_reach_9 : decode cX8_reach 9 = .ok (.bipush (-2), 2) := by decide +kernel
theorem dX8_reach_11 : decode cX8_reach 11 = .ok (.ireturn, 1) := by decide +kernel
theorem dX8_reach_12 : decode cX8_reach 12 = .ok (.aload_n 0, 1) := by decide +kernel
theorem dX8_reach_13 : decode cX8_reach 13 = .ok (.iload_n 1, 1) := by decide +kernel
theorem dX8_reach_14 : decode cX8_reach 14 = .ok (.iload_n 2, 1) := by decide +kernel
theorem dX8_reach_15 : decode cX8_reach 15 = .ok (.iload_n 3, 1) := by decide +kernel
theorem dX8_reach_16 : decode cX8_reach 16 = .ok (.invokevirtual 152, 3) := by decide +kernel
theorem dX8_reach_19 : decode cX8_reach 19 = .ok (.ifCond .ne 6, 3) := by decide +kernel
theorem dX8_reach_22 : decode cX8_reach 22 = .ok (.bipush (-3), 2) := by decide +kernel
theorem dX8_reach_24 : decode cX8_reach 24 = .ok (.ireturn, 1) := by decide +kernel
theorem dX8_reach_25 : decode cX8_reach 25 = .ok (.aload_n 0, 1) := by decide +kernel
theorem dX8_reach_26 : decode cX8_reach 26 = .ok (.iload_n 1, 1) := by decide +kernel
theorem dX8_reach_27 : decode cX8_reach 27 = .ok (.iload_n 2, 1) := by decide +kernel
theorem dX8_reach_28 : decode cX8_reach 28 = .ok (.iload_n 3, 1) := by decide +kernel
theorem dX8_reach_29 : decode cX8_reach 29 = .ok (.iload_n 1, 1) := by decide +kernel
theorem dX8_reach_30 : decode cX8_reach 30 = .ok (.iload_n 2, 1) := by decide +kernel
theorem dX8_reach_31 : decode cX8_reach 31 = .ok (.iload_n 3, 1) := by decide +kernel
theorem dX8_reach_32 : decode cX8_reach 32 = .ok (.invokevirtual 240, 3) := by decide +kernel
theorem dX8_reach_35 : decode cX8_reach 35 = .ok (.aload_n 0, 1) := by decide +kernel
theorem dX8_reach_36 : decode cX8_reach 36 = .ok (.invokevirtual 244, 3) := by decide +kernel
theorem dX8_reach_39 : decode cX8_reach 39 = .ok (.iconst 0, 1) := by decide +kernel
theorem dX8_reach_40 : decode cX8_reach 40 = .ok (.istore 4, 2) := by decide +kernel
theorem dX8_reach_42 : decode cX8_reach 42 = .ok (.iconst 0, 1) := by decide +kernel
theorem dX8_reach_43 : decode cX8_reach 43 = .ok (.istore 5, 2) := by decide +kernel
theorem dX8_reach_45 : decode cX8_reach 45 = .ok (.iload 5, 2) := by decide +kernel
theorem dX8_reach_47 : decode cX8_reach 47 = .ok (.iconst 4, 1) := by decide +kernel
theorem dX8_reach_48 : decode cX8_reach 48 = .ok (.aload_n 0, 1) := by decide +kernel
theorem dX8_reach_49 : decode cX8_reach 49 = .ok (.getfield 121, 3) := by decide +kernel
theorem dX8_reach_52 : decode cX8_reach 52 = .ok (.imul, 1) := by decide +kernel
theorem dX8_reach_53 : decode cX8_reach 53 = .ok (.if_icmp .ge 43, 3) := by decide +kernel
theorem dX8_reach_56 : decode cX8_reach 56 = .ok (.iload 4, 2) := by decide +kernel
theorem dX8_reach_58 : decode cX8_reach 58 = .ok (.aload_n 0, 1) := by decide +kernel
theorem dX8_reach_59 : decode cX8_reach 59 = .ok (.getfield 41, 3) := by decide +kernel
theorem dX8_reach_62 : decode cX8_reach 62 = .ok (.iconst 2, 1) := by decide +kernel
theorem dX8_reach_63 : decode cX8_reach 63 = .ok (.iload 5, 2) := by decide +kernel
theorem dX8_reach_65 : decode cX8_reach 65 = .ok (.iadd, 1) := by decide +kernel
theorem dX8_reach_66 : decode cX8_reach 66 = .ok (.baload, 1) := by decide +kernel
theorem dX8_reach_67 : decode cX8_reach 67 = .ok (.ifCond .eq 19, 3) := by decide +kernel
theorem dX8_reach_70 : decode cX8_reach 70 = .ok (.aload_n 0, 1) := by decide +kernel
theorem dX8_reach_71 : decode cX8_reach 71 = .ok (.getfield 59, 3) := by decide +kernel
theorem dX8_reach_74 : decode cX8_reach 74 = .ok (.iconst 2, 1) := by decide +kernel
theorem dX8_reach_75 : decode cX8_reach 75 = .ok (.iload 5, 2) := by decide +kernel
theorem dX8_reach_77 : decode cX8_reach 77 = .ok (.iadd, 1) := by decide +kernel
theorem dX8_reach_78 : decode cX8_reach 78 = .ok (.baload, 1) := by decide +kernel
theorem dX8_reach_79 : decode cX8_reach 79 = .ok (.ifCond .eq 7, 3) := by decide +kernel
theorem dX8_reach_82 : decode cX8_reach 82 = .ok (.iconst 1, 1) := by decide +kernel
theorem dX8_reach_83 : decode cX8_reach 83 = .ok (.goto 4, 3) := by decide +kernel
theorem dX8_reach_86 : decode cX8_reach 86 = .ok (.iconst 0, 1) := by decide +kernel
theorem dX8_reach_87 : decode cX8_reach 87 = .ok (.iadd, 1) := by decide +kernel
theorem dX8_reach_88 : decode cX8_reach 88 = .ok (.istore 4, 2) := by decide +kernel
theorem dX8_reach_90 : decode cX8_reach 90 = .ok (.iinc 5 1, 3) := by decide +kernel
theorem dX8_reach_93 : decode cX8_reach 93 = .ok (.goto (-48), 3) := by decide +kernel
theorem dX8_reach_96 : decode cX8_reach 96 = .ok (.iload 4, 2) := by decide +kernel
theorem dX8_reach_98 : decode cX8_reach 98 = .ok (.ireturn, 1) := by decide +kernel
set_option maxRecDepth 20000 in
theorem ggX8_go_X8_isWalker : GoodIn wsX8_go wsX8_isWalker := goodIn_r _ [12, 13, 14, 15, 11, 16, 134, 135, 136, 137, 138, 139, 140, 141, 142, 143, 144, 145, 146, 147, 148, 149, 150, 151, 152, 153, 154, 155, 156, 157, 158, 159, 160, 161, 162, 163, 164, 165, 166, 167, 168, 169, 170, 171, 172, 173, 174, 175, 176, 177, 178, 179, 180, 181, 182] (by decide +kernel) (by decide +kernel)
set_option maxRecDepth 20000 in
theorem gX8_go_X8_isWalker : GoodIn wsX8_go (wsV RX8 256 RX8 yX8_isWalker wsX8_isWalker) := goodIn_app (goodIn_of _ (by decide +kernel)) ggX8_go_X8_isWalker
set_option maxRecDepth 20000 in
theorem ggX8_go_X8_isPlace : GoodIn wsX8_go wsX8_isPlace := goodIn_r _ [19, 14, 15, 11, 16] (by decide +kernel) (by decide +kernel)
set_option maxRecDepth 20000 in
theorem gX8_go_X8_isPlace : GoodIn wsX8_go (va_wsS RX8 114 yX8_isPlace wsX8_isPlace) := goodIn_app (goodIn_of _ (by decide +kernel)) ggX8_go_X8_isPlace
set_option maxRecDepth 20000 in
theorem ggX8_go_X8_isGround : GoodIn wsX8_go wsX8_isGround := goodIn_r _ [23, 24, 25, 26, 27, 28, 29, 11, 30, 14, 15, 16, 31, 32, 33, 134, 135, 136, 137, 138, 139, 140, 141, 142, 143, 144, 145, 146, 147, 148, 149, 150, 151, 152, 153, 154, 155, 156, 157, 158, 159, 160, 161, 162, 163, 164, 165, 166, 167, 168, 169, 170, 171, 172, 173, 174, 175, 176, 177, 178, 179, 180, 181, 182] (by decide +kernel) (by decide +kernel)
set_option maxRecDepth 20000 in
theorem gX8_go_X8_isGround : GoodIn wsX8_go (wsV RX8 152 RX8 yX8_isGround wsX8_isGround) := goodIn_app (goodIn_of _ (by decide +kernel)) ggX8_go_X8_isGround
set_option maxRecDepth 20000 in
theorem ggX8_go_X8_findNodes : GoodIn wsX8_go wsX8_findNodes := goodIn_r _ [37, 38, 24, 25, 26, 27, 39, 40, 41, 42, 43, 11, 44, 45, 46, 47, 48, 20, 21, 22, 23, 28, 29, 30, 14, 15, 16, 31, 32, 33, 49, 50, 51, 52, 134, 135, 136, 137, 138, 139, 140, 141, 142, 143, 144, 145, 146, 147, 148, 149, 150, 151, 152, 153, 154, 155, 156, 157, 158, 159, 160, 161, 162, 163, 164, 165, 166, 167, 168, 169, 170, 171, 172, 173, 174, 175, 176, 177, 178, 179, 180, 181, 182] (by decide +kernel) (by decide +kernel)
set_option maxRecDepth 20000 in
theorem gX8_go_X8_findNodes : GoodIn wsX8_go (wsV RX8 240 RX8 yX8_findNodes wsX8_findNodes) := goodIn_app (goodIn_of _ (by decide +kernel)) ggX8_go_X8_findNodes
set_option maxRecDepth 20000 in
theorem ggX8_go_X8_settles : GoodIn wsX8_go wsX8_settles := goodIn_r _ [56, 38, 7, 57, 58, 48, 59, 60, 61, 11, 62, 45, 46, 47, 63, 64, 65, 66, 67, 68, 69, 70, 71, 72, 73, 74, 75, 76, 77, 78, 79, 80, 81, 82, 83, 84, 85, 86, 87, 24, 25, 88, 89, 90, 91, 26, 27, 92, 93, 94, 95, 96, 97, 98, 99, 100, 101, 102, 103, 104, 105, 106, 107, 108, 109, 110, 111, 112, 113, 114, 115, 116, 117, 118, 119, 120, 39, 40, 134, 135, 136, 137, 138, 139, 140, 141, 142, 143, 144, 145, 146, 147, 148, 149, 150, 151, 152, 153, 154, 155, 156, 157, 158, 159, 160, 161, 162, 163, 164, 165, 166, 167, 168, 169, 170, 171, 172, 173, 174, 175, 176, 177, 178, 179, 180, 181, 182] (by decide +kernel) (by decide +kernel)
set_option maxRecDepth 20000 in
theorem gX8_go_X8_settles : GoodIn wsX8_go (wsV RX8 244 RX8 yX8_settles wsX8_settles) := goodIn_app (goodIn_of _ (by decide +kernel)) ggX8_go_X8_settles
set_option maxRecDepth 20000 in
theorem ggX8_go_X8_follows : GoodIn wsX8_go wsX8_follows := goodIn_r _ [124, 3, 125, 126, 45, 127, 128, 46, 129, 47, 130, 131, 132, 11, 133, 57, 134, 135, 136, 137, 138, 139, 140, 141, 142, 143, 144, 145, 146, 147, 148, 149, 150, 151, 152, 153, 154, 155, 156, 157, 158, 159, 160, 161, 162, 163, 164, 165, 166, 167, 168, 169, 170, 171, 172, 173, 174, 175, 176, 177, 178, 179, 180, 181, 182] (by decide +kernel) (by decide +kernel)
set_option maxRecDepth 20000 in
theorem gX8_go_X8_follows : GoodIn wsX8_go (wsV RX8 259 RX8 yX8_follows wsX8_follows) := goodIn_app (goodIn_of _ (by decide +kernel)) ggX8_go_X8_follows
theorem dX8_go_0 : decode cX8_go 0 = .ok (.aload_n 0, 1) := by decide +kernel
theorem dX8_go_1 : decode cX8_go 1 = .ok (.iload_n 1, 1) := by decide +kernel
theorem dX8_go_2 : decode cX8_go 2 = .ok (.invokevirtual 256, 3) := by decide +kernel
theorem dX8_go_5 : decode cX8_go 5 = .ok (.ifCond .eq 13, 3) := by decide +kernel
theorem dX8_go_8 : decode cX8_go 8 = .ok (.iload_n 2, 1) := by decide +kernel
theorem dX8_go_9 : decode cX8_go 9 = .ok (.iload_n 3, 1) := by decide +kernel
theorem dX8_go_10 : decode cX8_go 10 = .ok (.iload 4, 2) := by decide +kernel
theorem dX8_go_12 : decode cX8_go 12 = .ok (.invokestatic 114, 3) := by decide +kernel
theorem dX8_go_15 : decode cX8_go 15 = .ok (.ifCond .ne 6, 3) := by decide +kernel
theorem dX8_go_18 : decode cX8_go 18 = .ok (.bipush (-2), 2) := by decide +kernel
theorem dX8_go_20 : decode cX8_go 20 = .ok (.ireturn, 1) := by decide +kernel
theorem dX8_go_21 : decode cX8_go 21 = .ok (.aload_n 0, 1) := by decide +kernel
theorem dX8_go_22 : decode cX8_go 22 = .ok (.iload_n 2, 1) := by decide +kernel
theorem dX8_go_23 : decode cX8_go 23 = .ok (.iload_n 3, 1) := by decide +kernel
theorem dX8_go_24 : decode cX8_go 24 = .ok (.iload 4, 2) := by decide +kernel
theorem dX8_go_26 : decode cX8_go 26 = .ok (.invokevirtual 152, 3) := by decide +kernel
theorem dX8_go_29 : decode cX8_go 29 = .ok (.ifCond .ne 6, 3) := by decide +kernel
theorem dX8_go_32 : decode cX8_go 32 = .ok (.bipush (-3), 2) := by decide +kernel
theorem dX8_go_34 : decode cX8_go 34 = .ok (.ireturn, 1) := by decide +kernel
theorem dX8_go_35 : decode cX8_go 35 = .ok (.aload_n 0, 1) := by decide +kernel
theorem dX8_go_36 : decode cX8_go 36 = .ok (.getfield 98, 3) := by decide +kernel
theorem dX8_go_39 : decode cX8_go 39 = .ok (.iload_n 1, 1) := by decide +kernel
theorem dX8_go_40 : decode cX8_go 40 = .ok (.iconst 0, 1) := by decide +kernel
theorem dX8_go_41 : decode cX8_go 41 = .ok (.bastore, 1) := by decide +kernel
theorem dX8_go_42 : decode cX8_go 42 = .ok (.aload_n 0, 1) := by decide +kernel
theorem dX8_go_43 : decode cX8_go 43 = .ok (.getfield 95, 3) := by decide +kernel
theorem dX8_go_46 : decode cX8_go 46 = .ok (.iload_n 1, 1) := by decide +kernel
theorem dX8_go_47 : decode cX8_go 47 = .ok (.iconst 0, 1) := by decide +kernel
theorem dX8_go_48 : decode cX8_go 48 = .ok (.iastore, 1) := by decide +kernel
theorem dX8_go_49 : decode cX8_go 49 = .ok (.aload_n 0, 1) := by decide +kernel
theorem dX8_go_50 : decode cX8_go 50 = .ok (.getfield 83, 3) := by decide +kernel
theorem dX8_go_53 : decode cX8_go 53 = .ok (.iload_n 1, 1) := by decide +kernel
theorem dX8_go_54 : decode cX8_go 54 = .ok (.iconst 0, 1) := by decide +kernel
theorem dX8_go_55 : decode cX8_go 55 = .ok (.iastore, 1) := by decide +kernel
theorem dX8_go_56 : decode cX8_go 56 = .ok (.aload_n 0, 1) := by decide +kernel
theorem dX8_go_57 : decode cX8_go 57 = .ok (.aload_n 0, 1) := by decide +kernel
theorem dX8_go_58 : decode cX8_go 58 = .ok (.getfield 74, 3) := by decide +kernel
theorem dX8_go_61 : decode cX8_go 61 = .ok (.iload_n 1, 1) := by decide +kernel
theorem dX8_go_62 : decode cX8_go 62 = .ok (.iaload, 1) := by decide +kernel
theorem dX8_go_63 : decode cX8_go 63 = .ok (.aload_n 0, 1) := by decide +kernel
theorem dX8_go_64 : decode cX8_go 64 = .ok (.getfield 77, 3) := by decide +kernel
theorem dX8_go_67 : decode cX8_go 67 = .ok (.iload_n 1, 1) := by decide +kernel
theorem dX8_go_68 : decode cX8_go 68 = .ok (.iaload, 1) := by decide +kernel
theorem dX8_go_69 : decode cX8_go 69 = .ok (.aload_n 0, 1) := by decide +kernel
theorem dX8_go_70 : decode cX8_go 70 = .ok (.getfield 80, 3) := by decide +kernel
theorem dX8_go_73 : decode cX8_go 73 = .ok (.iload_n 1, 1) := by decide +kernel
theorem dX8_go_74 : decode cX8_go 74 = .ok (.iaload, 1) := by decide +kernel
theorem dX8_go_75 : decode cX8_go 75 = .ok (.iload_n 2, 1) := by decide +kernel
theorem dX8_go_76 : decode cX8_go 76 = .ok (.iload_n 3, 1) := by decide +kernel
theorem dX8_go_77 : decode cX8_go 77 = .ok (.iload 4, 2) := by decide +kernel
theorem dX8_go_79 : decode cX8_go 79 = .ok (.invokevirtual 240, 3) := by decide +kernel
theorem dX8_go_82 : decode cX8_go 82 = .ok (.aload_n 0, 1) := by decide +kernel
theorem dX8_go_83 : decode cX8_go 83 = .ok (.invokevirtual 244, 3) := by decide +kernel
theorem dX8_go_86 : decode cX8_go 86 = .ok (.aload_n 0, 1) := by decide +kernel
theorem dX8_go_87 : decode cX8_go 87 = .ok (.getfield 53, 3) := by decide +kernel
theorem dX8_go_90 : decode cX8_go 90 = .ok (.iconst 1, 1) := by decide +kernel
theorem dX8_go_91 : decode cX8_go 91 = .ok (.iaload, 1) := by decide +kernel
theorem dX8_go_92 : decode cX8_go 92 = .ok (.iconst (-1), 1) := by decide +kernel
theorem dX8_go_93 : decode cX8_go 93 = .ok (.if_icmp .ne 5, 3) := by decide +kernel
theorem dX8_go_96 : decode cX8_go 96 = .ok (.iconst (-1), 1) := by decide +kernel
theorem dX8_go_97 : decode cX8_go 97 = .ok (.ireturn, 1) := by decide +kernel
theorem dX8_go_98 : decode cX8_go 98 = .ok (.aload_n 0, 1) := by decide +kernel
theorem dX8_go_99 : decode cX8_go 99 = .ok (.iload_n 1, 1) := by decide +kernel
theorem dX8_go_100 : decode cX8_go 100 = .ok (.invokevirtual 259, 3) := by decide +kernel
theorem dX8_go_103 : decode cX8_go 103 = .ok (.aload_n 0, 1) := by decide +kernel
theorem dX8_go_104 : decode cX8_go 104 = .ok (.getfield 83, 3) := by decide +kernel
theorem dX8_go_107 : decode cX8_go 107 = .ok (.iload_n 1, 1) := by decide +kernel
theorem dX8_go_108 : decode cX8_go 108 = .ok (.iaload, 1) := by decide +kernel
theorem dX8_go_109 : decode cX8_go 109 = .ok (.ireturn, 1) := by decide +kernel
set_option maxRecDepth 20000 in
theorem ggX8_may_X8_isPlace : GoodIn wsX8_may wsX8_isPlace := goodIn_r _ [4, 5, 6, 3, 7] (by decide +kernel) (by decide +kernel)
set_option maxRecDepth 20000 in
theorem gX8_may_X8_isPlace : GoodIn wsX8_may (va_wsS RX8 114 yX8_isPlace wsX8_isPlace) := goodIn_app (goodIn_of _ (by decide +kernel)) ggX8_may_X8_isPlace
set_option maxRecDepth 20000 in
theorem ggX8_may_X8_isGround : GoodIn wsX8_may wsX8_isGround := goodIn_r _ [11, 12, 13, 14, 15, 16, 17, 3, 18, 5, 6, 7, 19, 20, 21, 22, 23, 24, 25, 26, 27, 28, 29, 30, 31, 32, 33, 34, 35, 36, 37, 38, 39, 40, 41, 42, 43, 44, 45, 46, 47, 48, 49, 50, 51, 52, 53, 54, 55, 56, 57, 58, 59, 60, 61, 62, 63, 64, 65, 66, 67, 68, 69, 70] (by decide +kernel) (by decide +kernel)
set_option maxRecDepth 20000 in
theorem gX8_may_X8_isGround : GoodIn wsX8_may (wsV RX8 152 RX8 yX8_isGround wsX8_isGround) := goodIn_app (goodIn_of _ (by decide +kernel)) ggX8_may_X8_isGround
theorem dX8_may_0 : decode cX8_may 0 = .ok (.iload_n 1, 1) := by decide +kernel
theorem dX8_may_1 : decode cX8_may 1 = .ok (.iload_n 2, 1) := by decide +kernel
theorem dX8_may_2 : decode cX8_may 2 = .ok (.iload_n 3, 1) := by decide +kernel
theorem dX8_may_3 : decode cX8_may 3 = .ok (.invokestatic 114, 3) := by decide +kernel
theorem dX8_may_6 : decode cX8_may 6 = .ok (.ifCond .ne 8, 3) := by decide +kernel
theorem dX8_may_9 : decode cX8_may 9 = .ok (.bipush (-2), 2) := by decide +kernel
theorem dX8_may_11 : decode cX8_may 11 = .ok (.goto 18, 3) := by decide +kernel
theorem dX8_may_14 : decode cX8_may 14 = .ok (.aload_n 0, 1) := by decide +kernel
theorem dX8_may_15 : decode cX8_may 15 = .ok (.iload_n 1, 1) := by decide +kernel
theorem dX8_may_16 : decode cX8_may 16 = .ok (.iload_n 2, 1) := by decide +kernel
theorem dX8_may_17 : decode cX8_may 17 = .ok (.iload_n 3, 1) := by decide +kernel
theorem dX8_may_18 : decode cX8_may 18 = .ok (.invokevirtual 152, 3) := by decide +kernel
theorem dX8_may_21 : decode cX8_may 21 = .ok (.ifCond .eq 7, 3) := by decide +kernel
theorem dX8_may_24 : decode cX8_may 24 = .ok (.iconst 1, 1) := by decide +kernel
theorem dX8_may_25 : decode cX8_may 25 = .ok (.goto 4, 3) := by decide +kernel
theorem dX8_may_28 : decode cX8_may 28 = .ok (.iconst 0, 1) := by decide +kernel
theorem dX8_may_29 : decode cX8_may 29 = .ok (.ireturn, 1) := by decide +kernel
set_option maxRecDepth 20000 in
theorem ggX8_see_X8_isPlace : GoodIn wsX8_see wsX8_isPlace := goodIn_r _ [4, 5, 6, 3, 7] (by decide +kernel) (by decide +kernel)
set_option maxRecDepth 20000 in
theorem gX8_see_X8_isPlace : GoodIn wsX8_see (va_wsS RX8 114 yX8_isPlace wsX8_isPlace) := goodIn_app (goodIn_of _ (by decide +kernel)) ggX8_see_X8_isPlace
set_option maxRecDepth 20000 in
theorem ggX8_see_X8_seen : GoodIn wsX8_see wsX8_seen := goodIn_r _ [11, 12, 13, 14, 15, 16, 17, 18, 19, 3, 20, 21, 22, 23, 24, 25, 26, 27, 28, 29, 30, 31, 32, 33, 34, 35, 36, 37, 38, 39, 40, 41, 42, 43, 44, 45, 46, 47, 48, 49, 50, 51, 52, 53, 54, 55, 56, 57, 58, 59, 60, 61, 62, 63, 64, 65, 66, 67, 68, 69, 70, 71, 72, 73, 74, 75, 76, 77, 78, 79, 80, 81, 82, 83, 84, 85, 86, 87, 88, 89, 90, 91, 92, 93, 94, 95, 96, 97, 98, 99, 100, 101, 102, 103, 104, 105, 106, 107, 108] (by decide +kernel) (by decide +kernel)
set_option maxRecDepth 20000 in
theorem gX8_see_X8_seen : GoodIn wsX8_see (wsV RX8 204 RX8 yX8_seen wsX8_seen) := goodIn_app (goodIn_of _ (by decide +kernel)) ggX8_see_X8_seen
theorem dX8_see_0 : decode cX8_see 0 = .ok (.iload_n 1, 1) := by decide +kernel
theorem dX8_see_1 : decode cX8_see 1 = .ok (.iload_n 2, 1) := by decide +kernel
theorem dX8_see_2 : decode cX8_see 2 = .ok (.iload_n 3, 1) := by decide +kernel
theorem dX8_see_3 : decode cX8_see 3 = .ok (.invokestatic 114, 3) := by decide +kernel
theorem dX8_see_6 : decode cX8_see 6 = .ok (.ifCond .eq 28, 3) := by decide +kernel
theorem dX8_see_9 : decode cX8_see 9 = .ok (.iload_n 1, 1) := by decide +kernel
theorem dX8_see_10 : decode cX8_see 10 = .ok (.iload 4, 2) := by decide +kernel
theorem dX8_see_12 : decode cX8_see 12 = .ok (.iload 5, 2) := by decide +kernel
theorem dX8_see_14 : decode cX8_see 14 = .ok (.invokestatic 114, 3) := by decide +kernel
theorem dX8_see_17 : decode cX8_see 17 = .ok (.ifCond .eq 17, 3) := by decide +kernel
theorem dX8_see_20 : decode cX8_see 20 = .ok (.aload_n 0, 1) := by decide +kernel
theorem dX8_see_21 : decode cX8_see 21 = .ok (.iload_n 1, 1) := by decide +kernel
theorem dX8_see_22 : decode cX8_see 22 = .ok (.iload_n 2, 1) := by decide +kernel
theorem dX8_see_23 : decode cX8_see 23 = .ok (.iload_n 3, 1) := by decide +kernel
theorem dX8_see_24 : decode cX8_see 24 = .ok (.iload 4, 2) := by decide +kernel
theorem dX8_see_26 : decode cX8_see 26 = .ok (.iload 5, 2) := by decide +kernel
theorem dX8_see_28 : decode cX8_see 28 = .ok (.invokevirtual 204, 3) := by decide +kernel
theorem dX8_see_31 : decode cX8_see 31 = .ok (.goto 5, 3) := by decide +kernel
theorem dX8_see_34 : decode cX8_see 34 = .ok (.bipush (-2), 2) := by decide +kernel
theorem dX8_see_36 : decode cX8_see 36 = .ok (.ireturn, 1) := by decide +kernel
set_option maxRecDepth 20000 in
theorem ggX8_bend_X8_in : GoodIn wsX8_bend wsX8_in := goodIn_r _ [8] (by decide +kernel) (by decide +kernel)
set_option maxRecDepth 20000 in
theorem gX8_bend_X8_in : GoodIn wsX8_bend (va_wsS RX8 110 yX8_in wsX8_in) := goodIn_app (goodIn_of _ (by decide +kernel)) ggX8_bend_X8_in
theorem dX8_bend_0 : decode cX8_bend 0 = .ok (.iload_n 2, 1) := by decide +kernel
theorem dX8_bend_1 : decode cX8_bend 1 = .ok (.iconst 0, 1) := by decide +kernel
theorem dX8_bend_2 : decode cX8_bend 2 = .ok (.iconst 2, 1) := by decide +kernel
theorem dX8_bend_3 : decode cX8_bend 3 = .ok (.invokestatic 110, 3) := by decide +kernel
theorem dX8_bend_6 : decode cX8_bend 6 = .ok (.ifCond .ne 6, 3) := by decide +kernel
theorem dX8_bend_9 : decode cX8_bend 9 = .ok (.bipush (-2), 2) := by decide +kernel
theorem dX8_bend_11 : decode cX8_bend 11 = .ok (.ireturn, 1) := by decide +kernel
theorem dX8_bend_12 : decode cX8_bend 12 = .ok (.iload_n 1, 1) := by decide +kernel
theorem dX8_bend_13 : decode cX8_bend 13 = .ok (.iconst 0, 1) := by decide +kernel
theorem dX8_bend_14 : decode cX8_bend 14 = .ok (.aload_n 0, 1) := by decide +kernel
theorem dX8_bend_15 : decode cX8_bend 15 = .ok (.getfield 250, 3) := by decide +kernel
theorem dX8_bend_18 : decode cX8_bend 18 = .ok (.iconst 1, 1) := by decide +kernel
theorem dX8_bend_19 : decode cX8_bend 19 = .ok (.isub, 1) := by decide +kernel
theorem dX8_bend_20 : decode cX8_bend 20 = .ok (.invokestatic 110, 3) := by decide +kernel
theorem dX8_bend_23 : decode cX8_bend 23 = .ok (.ifCond .ne 7, 3) := by decide +kernel
theorem dX8_bend_26 : decode cX8_bend 26 = .ok (.iconst (-1), 1) := by decide +kernel
theorem dX8_bend_27 : decode cX8_bend 27 = .ok (.goto 36, 3) := by decide +kernel
theorem dX8_bend_30 : decode cX8_bend 30 = .ok (.iload_n 2, 1) := by decide +kernel
theorem dX8_bend_31 : decode cX8_bend 31 = .ok (.ifCond .ne 12, 3) := by decide +kernel
theorem dX8_bend_34 : decode cX8_bend 34 = .ok (.aload_n 0, 1) := by decide +kernel
theorem dX8_bend_35 : decode cX8_bend 35 = .ok (.getfield 65, 3) := by decide +kernel
theorem dX8_bend_38 : decode cX8_bend 38 = .ok (.iload_n 1, 1) := by decide +kernel
theorem dX8_bend_39 : decode cX8_bend 39 = .ok (.iaload, 1) := by decide +kernel
theorem dX8_bend_40 : decode cX8_bend 40 = .ok (.goto 23, 3) := by decide +kernel
theorem dX8_bend_43 : decode cX8_bend 43 = .ok (.iload_n 2, 1) := by decide +kernel
theorem dX8_bend_44 : decode cX8_bend 44 = .ok (.iconst 1, 1) := by decide +kernel
theorem dX8_bend_45 : decode cX8_bend 45 = .ok (.if_icmp .ne 12, 3) := by decide +kernel
theorem dX8_bend_48 : decode cX8_bend 48 = .ok (.aload_n 0, 1) := by decide +kernel
theorem dX8_bend_49 : decode cX8_bend 49 = .ok (.getfield 68, 3) := by decide +kernel
theorem dX8_bend_52 : decode cX8_bend 52 = .ok (.iload_n 1, 1) := by decide +kernel
theorem dX8_bend_53 : decode cX8_bend 53 = .ok (.iaload, 1) := by decide +kernel
theorem dX8_bend_54 : decode cX8_bend 54 = .ok (.goto 9, 3) := by decide +kernel
theorem dX8_bend_57 : decode cX8_bend 57 = .ok (.aload_n 0, 1) := by decide +kernel
theorem dX8_bend_58 : decode cX8_bend 58 = .ok (.getfield 71, 3) := by decide +kernel
theorem dX8_bend_61 : decode cX8_bend 61 = .ok (.iload_n 1, 1) := by decide +kernel
theorem dX8_bend_62 : decode cX8_bend 62 = .ok (.iaload, 1) := by decide +kernel
theorem dX8_bend_63 : decode cX8_bend 63 = .ok (.ireturn, 1) := by decide +kernel
theorem dX8_aboutOf_0 : decode cX8_aboutOf 0 = .ok (.iload_n 2, 1) := by decide +kernel
theorem dX8_aboutOf_1 : decode cX8_aboutOf 1 = .ok (.tableswitch 111 0 7 #[47, 54, 61, 68, 75, 82, 97, 104], 47) := by decide +kernel
theorem dX8_aboutOf_48 : decode cX8_aboutOf 48 = .ok (.aload_n 0, 1) := by decide +kernel
theorem dX8_aboutOf_49 : decode cX8_aboutOf 49 = .ok (.getfield 77, 3) := by decide +kernel
theorem dX8_aboutOf_52 : decode cX8_aboutOf 52 = .ok (.iload_n 1, 1) := by decide +kernel
theorem dX8_aboutOf_53 : decode cX8_aboutOf 53 = .ok (.iaload, 1) := by decide +kernel
theorem dX8_aboutOf_54 : decode cX8_aboutOf 54 = .ok (.ireturn, 1) := by decide +kernel
theorem dX8_aboutOf_55 : decode cX8_aboutOf 55 = .ok (.aload_n 0, 1) := by decide +kernel
theorem dX8_aboutOf_56 : decode cX8_aboutOf 56 = .ok (.getfield 80, 3) := by decide +kernel
theorem dX8_aboutOf_59 : decode cX8_aboutOf 59 = .ok (.iload_n 1, 1) := by decide +kernel
theorem dX8_aboutOf_60 : decode cX8_aboutOf 60 = .ok (.iaload, 1) := by decide +kernel
theorem dX8_aboutOf_61 : decode cX8_aboutOf 61 = .ok (.ireturn, 1) := by decide +kernel
theorem dX8_aboutOf_62 : decode cX8_aboutOf 62 = .ok (.aload_n 0, 1) := by decide +kernel
theorem dX8_aboutOf_63 : decode cX8_aboutOf 63 = .ok (.getfield 74, 3) := by decide +kernel
theorem dX8_aboutOf_66 : decode cX8_aboutOf 66 = .ok (.iload_n 1, 1) := by decide +kernel
theorem dX8_aboutOf_67 : decode cX8_aboutOf 67 = .ok (.iaload, 1) := by decide +kernel
theorem dX8_aboutOf_68 : decode cX8_aboutOf 68 = .ok (.ireturn, 1) := by decide +kernel
theorem dX8_aboutOf_69 : decode cX8_aboutOf 69 = .ok (.aload_n 0, 1) := by decide +kernel
theorem dX8_aboutOf_70 : decode cX8_aboutOf 70 = .ok (.getfield 83, 3) := by decide +kernel
theorem dX8_aboutOf_73 : decode cX8_aboutOf 73 = .ok (.iload_n 1, 1) := by decide +kernel
theorem dX8_aboutOf_74 : decode cX8_aboutOf 74 = .ok (.iaload, 1) := by decide +kernel
theorem dX8_aboutOf_75 : decode cX8_aboutOf 75 = .ok (.ireturn, 1) := by decide +kernel
theorem dX8_aboutOf_76 : decode cX8_aboutOf 76 = .ok (.aload_n 0, 1) := by decide +kernel
theorem dX8_aboutOf_77 : decode cX8_aboutOf 77 = .ok (.getfield 95, 3) := by decide +kernel
theorem dX8_aboutOf_80 : decode cX8_aboutOf 80 = .ok (.iload_n 1, 1) := by decide +kernel
theorem dX8_aboutOf_81 : decode cX8_aboutOf 81 = .ok (.iaload, 1) := by decide +kernel
theorem dX8_aboutOf_82 : decode cX8_aboutOf 82 = .ok (.ireturn, 1) := by decide +kernel
theorem dX8_aboutOf_83 : decode cX8_aboutOf 83 = .ok (.aload_n 0, 1) := by decide +kernel
theorem dX8_aboutOf_84 : decode cX8_aboutOf 84 = .ok (.getfield 98, 3) := by decide +kernel
theorem dX8_aboutOf_87 : decode cX8_aboutOf 87 = .ok (.iload_n 1, 1) := by decide +kernel
theorem dX8_aboutOf_88 : decode cX8_aboutOf 88 = .ok (.baload, 1) := by decide +kernel
theorem dX8_aboutOf_89 : decode cX8_aboutOf 89 = .ok (.ifCond .eq 7, 3) := by decide +kernel
theorem dX8_aboutOf_92 : decode cX8_aboutOf 92 = .ok (.iconst 1, 1) := by decide +kernel
theorem dX8_aboutOf_93 : decode cX8_aboutOf 93 = .ok (.goto 4, 3) := by decide +kernel
theorem dX8_aboutOf_96 : decode cX8_aboutOf 96 = .ok (.iconst 0, 1) := by decide +kernel
theorem dX8_aboutOf_97 : decode cX8_aboutOf 97 = .ok (.ireturn, 1) := by decide +kernel
theorem dX8_aboutOf_98 : decode cX8_aboutOf 98 = .ok (.aload_n 0, 1) := by decide +kernel
theorem dX8_aboutOf_99 : decode cX8_aboutOf 99 = .ok (.getfield 101, 3) := by decide +kernel
theorem dX8_aboutOf_102 : decode cX8_aboutOf 102 = .ok (.iload_n 1, 1) := by decide +kernel
theorem dX8_aboutOf_103 : decode cX8_aboutOf 103 = .ok (.iaload, 1) := by decide +kernel
theorem dX8_aboutOf_104 : decode cX8_aboutOf 104 = .ok (.ireturn, 1) := by decide +kernel
theorem dX8_aboutOf_105 : decode cX8_aboutOf 105 = .ok (.aload_n 0, 1) := by decide +kernel
theorem dX8_aboutOf_106 : decode cX8_aboutOf 106 = .ok (.getfield 104, 3) := by decide +kernel
theorem dX8_aboutOf_109 : decode cX8_aboutOf 109 = .ok (.iload_n 1, 1) := by decide +kernel
theorem dX8_aboutOf_110 : decode cX8_aboutOf 110 = .ok (.iaload, 1) := by decide +kernel
theorem dX8_aboutOf_111 : decode cX8_aboutOf 111 = .ok (.ireturn, 1) := by decide +kernel
theorem dX8_aboutOf_112 : decode cX8_aboutOf 112 = .ok (.aload_n 0, 1) := by decide +kernel
theorem dX8_aboutOf_113 : decode cX8_aboutOf 113 = .ok (.getfield 107, 3) := by decide +kernel
theorem dX8_aboutOf_116 : decode cX8_aboutOf 116 = .ok (.iload_n 1, 1) := by decide +kernel
theorem dX8_aboutOf_117 : decode cX8_aboutOf 117 = .ok (.iaload, 1) := by decide +kernel
theorem dX8_aboutOf_118 : decode cX8_aboutOf 118 = .ok (.ireturn, 1) := by decide +kernel
set_option maxRecDepth 20000 in
theorem ggX8_about_X8_isWalker : GoodIn wsX8_about wsX8_isWalker := goodIn_r _ [5, 6, 7, 8, 4, 9, 23, 24, 25, 26, 27, 28, 29, 30, 31, 32, 33, 34, 35, 36, 37, 38, 39, 40, 41, 42, 43, 44, 45, 46, 47, 48, 49, 50, 51, 52, 53, 54, 55, 56, 57, 58, 59, 60, 61, 62, 63, 64, 65, 66, 67, 68, 69, 70, 71] (by decide +kernel) (by decide +kernel)
set_option maxRecDepth 20000 in
theorem gX8_about_X8_isWalker : GoodIn wsX8_about (wsV RX8 256 RX8 yX8_isWalker wsX8_isWalker) := goodIn_app (goodIn_of _ (by decide +kernel)) ggX8_about_X8_isWalker
set_option maxRecDepth 20000 in
theorem ggX8_about_X8_in : GoodIn wsX8_about wsX8_in := goodIn_r _ [9] (by decide +kernel) (by decide +kernel)
set_option maxRecDepth 20000 in
theorem gX8_about_X8_in : GoodIn wsX8_about (va_wsS RX8 110 yX8_in wsX8_in) := goodIn_app (goodIn_of _ (by decide +kernel)) ggX8_about_X8_in
set_option maxRecDepth 20000 in
theorem ggX8_about_X8_aboutOf : GoodIn wsX8_about wsX8_aboutOf := goodIn_r _ [13, 14, 15, 16, 17, 18, 19, 20, 21, 22, 23, 24, 25, 26, 27, 28, 29, 30, 31, 32, 33, 34, 35, 36, 37, 38, 39, 40, 41, 42, 43, 44, 45, 46, 47, 48, 49, 50, 51, 52, 53, 54, 55, 56, 57, 58, 59, 60, 61, 62, 63, 64, 65, 66, 67, 68, 69, 70, 71] (by decide +kernel) (by decide +kernel)
set_option maxRecDepth 20000 in
theorem gX8_about_X8_aboutOf : GoodIn wsX8_about (wsV RX8 272 RX8 yX8_aboutOf wsX8_aboutOf) := goodIn_app (goodIn_of _ (by decide +kernel)) ggX8_about_X8_aboutOf
theorem dX8_about_0 : decode cX8_about 0 = .ok (.aload_n 0, 1) := by decide +kernel
theorem dX8_about_1 : decode cX8_about 1 = .ok (.iload_n 1, 1) := by decide +kernel
theorem dX8_about_2 : decode cX8_about 2 = .ok (.invokevirtual 256, 3) := by decide +kernel
theorem dX8_about_5 : decode cX8_about 5 = .ok (.ifCond .eq 22, 3) := by decide +kernel
theorem dX8_about_8 : decode cX8_about 8 = .ok (.iload_n 2, 1) := by decide +kernel
theorem dX8_about_9 : decode cX8_about 9 = .ok (.iconst 0, 1) := by decide +kernel
theorem dX8_about_10 : decode cX8_about 10 = .ok (.bipush 8, 2) := by decide +kernel
theorem dX8_about_12 : decode cX8_about 12 = .ok (.invokestatic 110, 3) := by decide +kernel
theorem dX8_about_15 : decode cX8_about 15 = .ok (.ifCond .eq 12, 3) := by decide +kernel
theorem dX8_about_18 : decode cX8_about 18 = .ok (.aload_n 0, 1) := by decide +kernel
theorem dX8_about_19 : decode cX8_about 19 = .ok (.iload_n 1, 1) := by decide +kernel
theorem dX8_about_20 : decode cX8_about 20 = .ok (.iload_n 2, 1) := by decide +kernel
theorem dX8_about_21 : decode cX8_about 21 = .ok (.invokevirtual 272, 3) := by decide +kernel
theorem dX8_about_24 : decode cX8_about 24 = .ok (.goto 5, 3) := by decide +kernel
theorem dX8_about_27 : decode cX8_about 27 = .ok (.bipush (-2), 2) := by decide +kernel
theorem dX8_about_29 : decode cX8_about 29 = .ok (.ireturn, 1) := by decide +kernel
theorem dX8_count_0 : decode cX8_count 0 = .ok (.iconst 0, 1) := by decide +kernel
theorem dX8_count_1 : decode cX8_count 1 = .ok (.istore_n 2, 1) := by decide +kernel
theorem dX8_count_2 : decode cX8_count 2 = .ok (.iload_n 1, 1) := by decide +kernel
theorem dX8_count_3 : decode cX8_count 3 = .ok (.tableswitch 143 0 7 #[45, 50, 83, 88, 123, 128, 133, 138], 45) := by decide +kernel
theorem dX8_count_48 : decode cX8_count 48 = .ok (.aload_n 0, 1) := by decide +kernel
theorem dX8_count_49 : decode cX8_count 49 = .ok (.getfield 121, 3) := by decide +kernel
theorem dX8_count_52 : decode cX8_count 52 = .ok (.ireturn, 1) := by decide +kernel
theorem dX8_count_53 : decode cX8_count 53 = .ok (.iconst 0, 1) := by decide +kernel
theorem dX8_count_54 : decode cX8_count 54 = .ok (.istore_n 3, 1) := by decide +kernel
theorem dX8_count_55 : decode cX8_count 55 = .ok (.iload_n 3, 1) := by decide +kernel
theorem dX8_count_56 : decode cX8_count 56 = .ok (.bipush 8, 2) := by decide +kernel
theorem dX8_count_58 : decode cX8_count 58 = .ok (.if_icmp .ge 26, 3) := by decide +kernel
theorem dX8_count_61 : decode cX8_count 61 = .ok (.iload_n 2, 1) := by decide +kernel
theorem dX8_count_62 : decode cX8_count 62 = .ok (.aload_n 0, 1) := by decide +kernel
theorem dX8_count_63 : decode cX8_count 63 = .ok (.getfield 13, 3) := by decide +kernel
theorem dX8_count_66 : decode cX8_count 66 = .ok (.iload_n 3, 1) := by decide +kernel
theorem dX8_count_67 : decode cX8_count 67 = .ok (.baload, 1) := by decide +kernel
theorem dX8_count_68 : decode cX8_count 68 = .ok (.ifCond .eq 7, 3) := by decide +kernel
theorem dX8_count_71 : decode cX8_count 71 = .ok (.iconst 1, 1) := by decide +kernel
theorem dX8_count_72 : decode cX8_count 72 = .ok (.goto 4, 3) := by decide +kernel
theorem dX8_count_75 : decode cX8_count 75 = .ok (.iconst 0, 1) := by decide +kernel
theorem dX8_count_76 : decode cX8_count 76 = .ok (.iadd, 1) := by decide +kernel
theorem dX8_count_77 : decode cX8_count 77 = .ok (.istore_n 2, 1) := by decide +kernel
theorem dX8_count_78 : decode cX8_count 78 = .ok (.iinc 3 1, 3) := by decide +kernel
theorem dX8_count_81 : decode cX8_count 81 = .ok (.goto (-26), 3) := by decide +kernel
theorem dX8_count_84 : decode cX8_count 84 = .ok (.iload_n 2, 1) := by decide +kernel
theorem dX8_count_85 : decode cX8_count 85 = .ok (.ireturn, 1) := by decide +kernel
theorem dX8_count_86 : decode cX8_count 86 = .ok (.aload_n 0, 1) := by decide +kernel
theorem dX8_count_87 : decode cX8_count 87 = .ok (.getfield 135, 3) := by decide +kernel
theorem dX8_count_90 : decode cX8_count 90 = .ok (.ireturn, 1) := by decide +kernel
theorem dX8_count_91 : decode cX8_count 91 = .ok (.iconst 0, 1) := by decide +kernel
theorem dX8_count_92 : decode cX8_count 92 = .ok (.istore_n 3, 1) := by decide +kernel
theorem dX8_count_93 : decode cX8_count 93 = .ok (.iload_n 3, 1) := by decide +kernel
theorem dX8_count_94 : decode cX8_count 94 = .ok (.aload_n 0, 1) := by decide +kernel
theorem dX8_count_95 : decode cX8_count 95 = .ok (.getfield 135, 3) := by decide +kernel
theorem dX8_count_98 : decode cX8_count 98 = .ok (.if_icmp .ge 26, 3) := by decide +kernel
theorem dX8_count_101 : decode cX8_count 101 = .ok (.iload_n 2, 1) := by decide +kernel
theorem dX8_count_102 : decode cX8_count 102 = .ok (.aload_n 0, 1) := by decide +kernel
theorem dX8_count_103 : decode cX8_count 103 = .ok (.getfield 23, 3) := by decide +kernel
theorem dX8_count_106 : decode cX8_count 106 = .ok (.iload_n 3, 1) := by decide +kernel
theorem dX8_count_107 : decode cX8_count 107 = .ok (.baload, 1) := by decide +kernel
theorem dX8_count_108 : decode cX8_count 108 = .ok (.ifCond .eq 7, 3) := by decide +kernel
theorem dX8_count_111 : decode cX8_count 111 = .ok (.iconst 1, 1) := by decide +kernel
theorem dX8_count_112 : decode cX8_count 112 = .ok (.goto 4, 3) := by decide +kernel
theorem dX8_count_115 : decode cX8_count 115 = .ok (.iconst 0, 1) := by decide +kernel
theorem dX8_count_116 : decode cX8_count 116 = .ok (.iadd, 1) := by decide +kernel
theorem dX8_count_117 : decode cX8_count 117 = .ok (.istore_n 2, 1) := by decide +kernel
theorem dX8_count_118 : decode cX8_count 118 = .ok (.iinc 3 1, 3) := by decide +kernel
theorem dX8_count_121 : decode cX8_count 121 = .ok (.goto (-28), 3) := by decide +kernel
theorem dX8_count_124 : decode cX8_count 124 = .ok (.iload_n 2, 1) := by decide +kernel
theorem dX8_count_125 : decode cX8_count 125 = .ok (.ireturn, 1) := by decide +kernel
theorem dX8_count_126 : decode cX8_count 126 = .ok (.aload_n 0, 1) := by decide +kernel
theorem dX8_count_127 : decode cX8_count 127 = .ok (.getfield 142, 3) := by decide +kernel
theorem dX8_count_130 : decode cX8_count 130 = .ok (.ireturn, 1) := by decide +kernel
theorem dX8_count_131 : decode cX8_count 131 = .ok (.aload_n 0, 1) := by decide +kernel
theorem dX8_count_132 : decode cX8_count 132 = .ok (.getfield 146, 3) := by decide +kernel
theorem dX8_count_135 : decode cX8_count 135 = .ok (.ireturn, 1) := by decide +kernel
theorem dX8_count_136 : decode cX8_count 136 = .ok (.aload_n 0, 1) := by decide +kernel
theorem dX8_count_137 : decode cX8_count 137 = .ok (.getfield 129, 3) := by decide +kernel
theorem dX8_count_140 : decode cX8_count 140 = .ok (.ireturn, 1) := by decide +kernel
theorem dX8_count_141 : decode cX8_count 141 = .ok (.aload_n 0, 1) := by decide +kernel
theorem dX8_count_142 : decode cX8_count 142 = .ok (.getfield 266, 3) := by decide +kernel
theorem dX8_count_145 : decode cX8_count 145 = .ok (.ireturn, 1) := by decide +kernel
theorem dX8_count_146 : decode cX8_count 146 = .ok (.bipush (-2), 2) := by decide +kernel
theorem dX8_count_148 : decode cX8_count 148 = .ok (.ireturn, 1) := by decide +kernel
set_option maxRecDepth 20000 in
theorem ggX8_digest_X8_count : GoodIn wsX8_digest wsX8_count := goodIn_r _ [8, 9, 10, 11, 12, 13, 14, 3, 15, 29, 30, 31, 32, 33, 34, 35, 36, 37, 38, 39, 40, 41, 42, 43, 44, 45, 46, 47, 48, 49, 50, 51, 52, 53, 54, 55, 56, 57, 58, 59, 60, 61, 62, 63, 64, 65, 66, 67, 68, 69, 70, 71, 72, 73, 74, 75, 76, 77] (by decide +kernel) (by decide +kernel)
set_option maxRecDepth 20000 in
theorem gX8_digest_X8_count : GoodIn wsX8_digest (wsV RX8 279 RX8 yX8_count wsX8_count) := goodIn_app (goodIn_of _ (by decide +kernel)) ggX8_digest_X8_count
set_option maxRecDepth 20000 in
theorem ggX8_digest_X8_aboutOf : GoodIn wsX8_digest wsX8_aboutOf := goodIn_r _ [19, 20, 21, 22, 23, 24, 25, 26, 27, 28, 29, 30, 31, 32, 33, 34, 35, 36, 37, 38, 39, 40, 41, 42, 43, 44, 45, 46, 47, 48, 49, 50, 51, 52, 53, 54, 55, 56, 57, 58, 59, 60, 61, 62, 63, 64, 65, 66, 67, 68, 69, 70, 71, 72, 73, 74, 75, 76, 77] (by decide +kernel) (by decide +kernel)
set_option maxRecDepth 20000 in
theorem gX8_digest_X8_aboutOf : GoodIn wsX8_digest (wsV RX8 272 RX8 yX8_aboutOf wsX8_aboutOf) := goodIn_app (goodIn_of _ (by decide +kernel)) ggX8_digest_X8_aboutOf
theorem dX8_digest_0 : decode cX8_digest 0 = .ok (.ldc2_w 275, 3) := by decide +kernel
theorem dX8_digest_3 : decode cX8_digest 3 = .ok (.lstore_n 1, 1) := by decide +kernel
theorem dX8_digest_4 : decode cX8_digest 4 = .ok (.iconst 0, 1) := by decide +kernel
theorem dX8_digest_5 : decode cX8_digest 5 = .ok (.istore_n 3, 1) := by decide +kernel
theorem dX8_digest_6 : decode cX8_digest 6 = .ok (.iload_n 3, 1) := by decide +kernel
theorem dX8_digest_7 : decode cX8_digest 7 = .ok (.bipush 8, 2) := by decide +kernel
theorem dX8_digest_9 : decode cX8_digest 9 = .ok (.if_icmp .ge 22, 3) := by decide +kernel
theorem dX8_digest_12 : decode cX8_digest 12 = .ok (.ldc2_w 277, 3) := by decide +kernel
theorem dX8_digest_15 : decode cX8_digest 15 = .ok (.lload_n 1, 1) := by decide +kernel
theorem dX8_digest_16 : decode cX8_digest 16 = .ok (.lmul, 1) := by decide +kernel
theorem dX8_digest_17 : decode cX8_digest 17 = .ok (.aload_n 0, 1) := by decide +kernel
theorem dX8_digest_18 : decode cX8_digest 18 = .ok (.iload_n 3, 1) := by decide +kernel
theorem dX8_digest_19 : decode cX8_digest 19 = .ok (.invokevirtual 279, 3) := by decide +kernel
theorem dX8_digest_22 : decode cX8_digest 22 = .ok (.i2l, 1) := by decide +kernel
theorem dX8_digest_23 : decode cX8_digest 23 = .ok (.ladd, 1) := by decide +kernel
theorem dX8_digest_24 : decode cX8_digest 24 = .ok (.lstore_n 1, 1) := by decide +kernel
theorem dX8_digest_25 : decode cX8_digest 25 = .ok (.iinc 3 1, 3) := by decide +kernel
theorem dX8_digest_28 : decode cX8_digest 28 = .ok (.goto (-22), 3) := by decide +kernel
theorem dX8_digest_31 : decode cX8_digest 31 = .ok (.iconst 0, 1) := by decide +kernel
theorem dX8_digest_32 : decode cX8_digest 32 = .ok (.istore_n 3, 1) := by decide +kernel
theorem dX8_digest_33 : decode cX8_digest 33 = .ok (.iload_n 3, 1) := by decide +kernel
theorem dX8_digest_34 : decode cX8_digest 34 = .ok (.aload_n 0, 1) := by decide +kernel
theorem dX8_digest_35 : decode cX8_digest 35 = .ok (.getfield 129, 3) := by decide +kernel
theorem dX8_digest_38 : decode cX8_digest 38 = .ok (.if_icmp .ge 40, 3) := by decide +kernel
theorem dX8_digest_41 : decode cX8_digest 41 = .ok (.iconst 0, 1) := by decide +kernel
theorem dX8_digest_42 : decode cX8_digest 42 = .ok (.istore 4, 2) := by decide +kernel
theorem dX8_digest_44 : decode cX8_digest 44 = .ok (.iload 4, 2) := by decide +kernel
theorem dX8_digest_46 : decode cX8_digest 46 = .ok (.bipush 9, 2) := by decide +kernel
theorem dX8_digest_48 : decode cX8_digest 48 = .ok (.if_icmp .ge 24, 3) := by decide +kernel
theorem dX8_digest_51 : decode cX8_digest 51 = .ok (.ldc2_w 277, 3) := by decide +kernel
theorem dX8_digest_54 : decode cX8_digest 54 = .ok (.lload_n 1, 1) := by decide +kernel
theorem dX8_digest_55 : decode cX8_digest 55 = .ok (.lmul, 1) := by decide +kernel
theorem dX8_digest_56 : decode cX8_digest 56 = .ok (.aload_n 0, 1) := by decide +kernel
theorem dX8_digest_57 : decode cX8_digest 57 = .ok (.iload_n 3, 1) := by decide +kernel
theorem dX8_digest_58 : decode cX8_digest 58 = .ok (.iload 4, 2) := by decide +kernel
theorem dX8_digest_60 : decode cX8_digest 60 = .ok (.invokevirtual 272, 3) := by decide +kernel
theorem dX8_digest_63 : decode cX8_digest 63 = .ok (.i2l, 1) := by decide +kernel
theorem dX8_digest_64 : decode cX8_digest 64 = .ok (.ladd, 1) := by decide +kernel
theorem dX8_digest_65 : decode cX8_digest 65 = .ok (.lstore_n 1, 1) := by decide +kernel
theorem dX8_digest_66 : decode cX8_digest 66 = .ok (.iinc 4 1, 3) := by decide +kernel
theorem dX8_digest_69 : decode cX8_digest 69 = .ok (.goto (-25), 3) := by decide +kernel
theorem dX8_digest_72 : decode cX8_digest 72 = .ok (.iinc 3 1, 3) := by decide +kernel
theorem dX8_digest_75 : decode cX8_digest 75 = .ok (.goto (-42), 3) := by decide +kernel
theorem dX8_digest_78 : decode cX8_digest 78 = .ok (.lload_n 1, 1) := by decide +kernel
theorem dX8_digest_79 : decode cX8_digest 79 = .ok (.lreturn, 1) := by decide +kernel
set_option maxRecDepth 20000 in
theorem ggX8_box_X8_isField : GoodIn wsX8_box wsX8_isField := goodIn_r _ [10, 11, 12, 9, 13, 14, 15, 16] (by decide +kernel) (by decide +kernel)
set_option maxRecDepth 20000 in
theorem gX8_box_X8_isField : GoodIn wsX8_box (va_wsS RX8 117 yX8_isField wsX8_isField) := goodIn_app (goodIn_of _ (by decide +kernel)) ggX8_box_X8_isField
set_option maxRecDepth 20000 in
theorem ggX8_box_X8_lays : GoodIn wsX8_box wsX8_lays := goodIn_r _ [19] (by decide +kernel) (by decide +kernel)
set_option maxRecDepth 20000 in
theorem gX8_box_X8_lays : GoodIn wsX8_box (va_wsS RX8 125 yX8_lays wsX8_lays) := goodIn_app (goodIn_of _ (by decide +kernel)) ggX8_box_X8_lays
theorem dX8_box_0 : decode cX8_box 0 = .ok (.iload_n 1, 1) := by decide +kernel
theorem dX8_box_1 : decode cX8_box 1 = .ok (.iload_n 2, 1) := by decide +kernel
theorem dX8_box_2 : decode cX8_box 2 = .ok (.iload_n 3, 1) := by decide +kernel
theorem dX8_box_3 : decode cX8_box 3 = .ok (.iload 4, 2) := by decide +kernel
theorem dX8_box_5 : decode cX8_box 5 = .ok (.iload 5, 2) := by decide +kernel
theorem dX8_box_7 : decode cX8_box 7 = .ok (.invokestatic 117, 3) := by decide +kernel
theorem dX8_box_10 : decode cX8_box 10 = .ok (.ifCond .ne 6, 3) := by decide +kernel
theorem dX8_box_13 : decode cX8_box 13 = .ok (.bipush (-2), 2) := by decide +kernel
theorem dX8_box_15 : decode cX8_box 15 = .ok (.ireturn, 1) := by decide +kernel
theorem dX8_box_16 : decode cX8_box 16 = .ok (.iconst 0, 1) := by decide +kernel
theorem dX8_box_17 : decode cX8_box 17 = .ok (.istore 6, 2) := by decide +kernel
theorem dX8_box_19 : decode cX8_box 19 = .ok (.iload 6, 2) := by decide +kernel
theorem dX8_box_21 : decode cX8_box 21 = .ok (.aload_n 0, 1) := by decide +kernel
theorem dX8_box_22 : decode cX8_box 22 = .ok (.getfield 129, 3) := by decide +kernel
theorem dX8_box_25 : decode cX8_box 25 = .ok (.if_icmp .ge 69, 3) := by decide +kernel
theorem dX8_box_28 : decode cX8_box 28 = .ok (.aload_n 0, 1) := by decide +kernel
theorem dX8_box_29 : decode cX8_box 29 = .ok (.getfield 74, 3) := by decide +kernel
theorem dX8_box_32 : decode cX8_box 32 = .ok (.iload 6, 2) := by decide +kernel
theorem dX8_box_34 : decode cX8_box 34 = .ok (.iaload, 1) := by decide +kernel
theorem dX8_box_35 : decode cX8_box 35 = .ok (.iload_n 1, 1) := by decide +kernel
theorem dX8_box_36 : decode cX8_box 36 = .ok (.if_icmp .ne 52, 3) := by decide +kernel
theorem dX8_box_39 : decode cX8_box 39 = .ok (.aload_n 0, 1) := by decide +kernel
theorem dX8_box_40 : decode cX8_box 40 = .ok (.getfield 77, 3) := by decide +kernel
theorem dX8_box_43 : decode cX8_box 43 = .ok (.iload 6, 2) := by decide +kernel
theorem dX8_box_45 : decode cX8_box 45 = .ok (.iaload, 1) := by decide +kernel
theorem dX8_box_46 : decode cX8_box 46 = .ok (.iload_n 2, 1) := by decide +kernel
theorem dX8_box_47 : decode cX8_box 47 = .ok (.if_icmp .le 41, 3) := by decide +kernel
theorem dX8_box_50 : decode cX8_box 50 = .ok (.aload_n 0, 1) := by decide +kernel
theorem dX8_box_51 : decode cX8_box 51 = .ok (.getfield 77, 3) := by decide +kernel
theorem dX8_box_54 : decode cX8_box 54 = .ok (.iload 6, 2) := by decide +kernel
theorem dX8_box_56 : decode cX8_box 56 = .ok (.iaload, 1) := by decide +kernel
theorem dX8_box_57 : decode cX8_box 57 = .ok (.iload 4, 2) := by decide +kernel
theorem dX8_box_59 : decode cX8_box 59 = .ok (.if_icmp .ge 29, 3) := by decide +kernel
theorem dX8_box_62 : decode cX8_box 62 = .ok (.aload_n 0, 1) := by decide +kernel
theorem dX8_box_63 : decode cX8_box 63 = .ok (.getfield 80, 3) := by decide +kernel
theorem dX8_box_66 : decode cX8_box 66 = .ok (.iload 6, 2) := by decide +kernel
theorem dX8_box_68 : decode cX8_box 68 = .ok (.iaload, 1) := by decide +kernel
theorem dX8_box_69 : decode cX8_box 69 = .ok (.iload_n 3, 1) := by decide +kernel
theorem dX8_box_70 : decode cX8_box 70 = .ok (.if_icmp .le 18, 3) := by decide +kernel
theorem dX8_box_73 : decode cX8_box 73 = .ok (.aload_n 0, 1) := by decide +kernel
theorem dX8_box_74 : decode cX8_box 74 = .ok (.getfield 80, 3) := by decide +kernel
theorem dX8_box_77 : decode cX8_box 77 = .ok (.iload 6, 2) := by decide +kernel
theorem dX8_box_79 : decode cX8_box 79 = .ok (.iaload, 1) := by decide +kernel
theorem dX8_box_80 : decode cX8_box 80 = .ok (.iload 5, 2) := by decide +kernel
theorem dX8_box_82 : decode cX8_box 82 = .ok (.if_icmp .ge 6, 3) := by decide +kernel
theorem dX8_box_85 : decode cX8_box 85 = .ok (.bipush (-3), 2) := by decide +kernel
theorem dX8_box_87 : decode cX8_box 87 = .ok (.ireturn, 1) := by decide +kernel
theorem dX8_box_88 : decode cX8_box 88 = .ok (.iinc 6 1, 3) := by decide +kernel
theorem dX8_box_91 : decode cX8_box 91 = .ok (.goto (-72), 3) := by decide +kernel
theorem dX8_box_94 : decode cX8_box 94 = .ok (.iconst 0, 1) := by decide +kernel
theorem dX8_box_95 : decode cX8_box 95 = .ok (.istore 6, 2) := by decide +kernel
theorem dX8_box_97 : decode cX8_box 97 = .ok (.iload 6, 2) := by decide +kernel
theorem dX8_box_99 : decode cX8_box 99 = .ok (.bipush 8, 2) := by decide +kernel
theorem dX8_box_101 : decode cX8_box 101 = .ok (.if_icmp .ge 46, 3) := by decide +kernel
theorem dX8_box_104 : decode cX8_box 104 = .ok (.aload_n 0, 1) := by decide +kernel
theorem dX8_box_105 : decode cX8_box 105 = .ok (.getfield 13, 3) := by decide +kernel
theorem dX8_box_108 : decode cX8_box 108 = .ok (.iload 6, 2) := by decide +kernel
theorem dX8_box_110 : decode cX8_box 110 = .ok (.baload, 1) := by decide +kernel
theorem dX8_box_111 : decode cX8_box 111 = .ok (.ifCond .ne 30, 3) := by decide +kernel
theorem dX8_box_114 : decode cX8_box 114 = .ok (.aload_n 0, 1) := by decide +kernel
theorem dX8_box_115 : decode cX8_box 115 = .ok (.getfield 13, 3) := by decide +kernel
theorem dX8_box_118 : decode cX8_box 118 = .ok (.iload 6, 2) := by decide +kernel
theorem dX8_box_120 : decode cX8_box 120 = .ok (.iconst 1, 1) := by decide +kernel
theorem dX8_box_121 : decode cX8_box 121 = .ok (.bastore, 1) := by decide +kernel
theorem dX8_box_122 : decode cX8_box 122 = .ok (.aload_n 0, 1) := by decide +kernel
theorem dX8_box_123 : decode cX8_box 123 = .ok (.getfield 17, 3) := by decide +kernel
theorem dX8_box_126 : decode cX8_box 126 = .ok (.iload 6, 2) := by decide +kernel
theorem dX8_box_128 : decode cX8_box 128 = .ok (.iload_n 1, 1) := by decide +kernel
theorem dX8_box_129 : decode cX8_box 129 = .ok (.iload_n 2, 1) := by decide +kernel
theorem dX8_box_130 : decode cX8_box 130 = .ok (.iload_n 3, 1) := by decide +kernel
theorem dX8_box_131 : decode cX8_box 131 = .ok (.iload 4, 2) := by decide +kernel
theorem dX8_box_133 : decode cX8_box 133 = .ok (.iload 5, 2) := by decide +kernel
theorem dX8_box_135 : decode cX8_box 135 = .ok (.invokestatic 125, 3) := by decide +kernel
theorem dX8_box_138 : decode cX8_box 138 = .ok (.iload 6, 2) := by decide +kernel
theorem dX8_box_140 : decode cX8_box 140 = .ok (.ireturn, 1) := by decide +kernel
theorem dX8_box_141 : decode cX8_box 141 = .ok (.iinc 6 1, 3) := by decide +kernel
theorem dX8_box_144 : decode cX8_box 144 = .ok (.goto (-47), 3) := by decide +kernel
theorem dX8_box_147 : decode cX8_box 147 = .ok (.bipush (-4), 2) := by decide +kernel
theorem dX8_box_149 : decode cX8_box 149 = .ok (.ireturn, 1) := by decide +kernel
set_option maxRecDepth 20000 in
theorem ggX8_take_X8_in : GoodIn wsX8_take wsX8_in := goodIn_r _ [5] (by decide +kernel) (by decide +kernel)
set_option maxRecDepth 20000 in
theorem gX8_take_X8_in : GoodIn wsX8_take (va_wsS RX8 110 yX8_in wsX8_in) := goodIn_app (goodIn_of _ (by decide +kernel)) ggX8_take_X8_in
theorem dX8_take_0 : decode cX8_take 0 = .ok (.iload_n 1, 1) := by decide +kernel
theorem dX8_take_1 : decode cX8_take 1 = .ok (.iconst 0, 1) := by decide +kernel
theorem dX8_take_2 : decode cX8_take 2 = .ok (.bipush 7, 2) := by decide +kernel
theorem dX8_take_4 : decode cX8_take 4 = .ok (.invokestatic 110, 3) := by decide +kernel
theorem dX8_take_7 : decode cX8_take 7 = .ok (.ifCond .ne 6, 3) := by decide +kernel
theorem dX8_take_10 : decode cX8_take 10 = .ok (.bipush (-2), 2) := by decide +kernel
theorem dX8_take_12 : decode cX8_take 12 = .ok (.ireturn, 1) := by decide +kernel
theorem dX8_take_13 : decode cX8_take 13 = .ok (.aload_n 0, 1) := by decide +kernel
theorem dX8_take_14 : decode cX8_take 14 = .ok (.getfield 13, 3) := by decide +kernel
theorem dX8_take_17 : decode cX8_take 17 = .ok (.iload_n 1, 1) := by decide +kernel
theorem dX8_take_18 : decode cX8_take 18 = .ok (.baload, 1) := by decide +kernel
theorem dX8_take_19 : decode cX8_take 19 = .ok (.ifCond .ne 6, 3) := by decide +kernel
theorem dX8_take_22 : decode cX8_take 22 = .ok (.bipush (-3), 2) := by decide +kernel
theorem dX8_take_24 : decode cX8_take 24 = .ok (.ireturn, 1) := by decide +kernel
theorem dX8_take_25 : decode cX8_take 25 = .ok (.aload_n 0, 1) := by decide +kernel
theorem dX8_take_26 : decode cX8_take 26 = .ok (.getfield 13, 3) := by decide +kernel
theorem dX8_take_29 : decode cX8_take 29 = .ok (.iload_n 1, 1) := by decide +kernel
theorem dX8_take_30 : decode cX8_take 30 = .ok (.iconst 0, 1) := by decide +kernel
theorem dX8_take_31 : decode cX8_take 31 = .ok (.bastore, 1) := by decide +kernel
theorem dX8_take_32 : decode cX8_take 32 = .ok (.iconst 1, 1) := by decide +kernel
theorem dX8_take_33 : decode cX8_take 33 = .ok (.ireturn, 1) := by decide +kernel
set_option maxRecDepth 20000 in
theorem ggX8_shut_X8_in : GoodIn wsX8_shut wsX8_in := goodIn_r _ [11] (by decide +kernel) (by decide +kernel)
set_option maxRecDepth 20000 in
theorem gX8_shut_X8_in : GoodIn wsX8_shut (va_wsS RX8 110 yX8_in wsX8_in) := goodIn_app (goodIn_of _ (by decide +kernel)) ggX8_shut_X8_in
set_option maxRecDepth 20000 in
theorem ggX8_shut_X8_isOn : GoodIn wsX8_shut wsX8_isOn := goodIn_r _ [14, 8, 9, 10, 11] (by decide +kernel) (by decide +kernel)
set_option maxRecDepth 20000 in
theorem gX8_shut_X8_isOn : GoodIn wsX8_shut (va_wsS RX8 138 yX8_isOn wsX8_isOn) := goodIn_app (goodIn_of _ (by decide +kernel)) ggX8_shut_X8_isOn
theorem dX8_shut_0 : decode cX8_shut 0 = .ok (.iload_n 1, 1) := by decide +kernel
theorem dX8_shut_1 : decode cX8_shut 1 = .ok (.iconst 0, 1) := by decide +kernel
theorem dX8_shut_2 : decode cX8_shut 2 = .ok (.aload_n 0, 1) := by decide +kernel
theorem dX8_shut_3 : decode cX8_shut 3 = .ok (.getfield 135, 3) := by decide +kernel
theorem dX8_shut_6 : decode cX8_shut 6 = .ok (.iconst 1, 1) := by decide +kernel
theorem dX8_shut_7 : decode cX8_shut 7 = .ok (.isub, 1) := by decide +kernel
theorem dX8_shut_8 : decode cX8_shut 8 = .ok (.invokestatic 110, 3) := by decide +kernel
theorem dX8_shut_11 : decode cX8_shut 11 = .ok (.ifCond .ne 6, 3) := by decide +kernel
theorem dX8_shut_14 : decode cX8_shut 14 = .ok (.bipush (-2), 2) := by decide +kernel
theorem dX8_shut_16 : decode cX8_shut 16 = .ok (.ireturn, 1) := by decide +kernel
theorem dX8_shut_17 : decode cX8_shut 17 = .ok (.aload_n 0, 1) := by decide +kernel
theorem dX8_shut_18 : decode cX8_shut 18 = .ok (.getfield 23, 3) := by decide +kernel
theorem dX8_shut_21 : decode cX8_shut 21 = .ok (.iload_n 1, 1) := by decide +kernel
theorem dX8_shut_22 : decode cX8_shut 22 = .ok (.baload, 1) := by decide +kernel
theorem dX8_shut_23 : decode cX8_shut 23 = .ok (.iload_n 2, 1) := by decide +kernel
theorem dX8_shut_24 : decode cX8_shut 24 = .ok (.if_icmp .ne 6, 3) := by decide +kernel
theorem dX8_shut_27 : decode cX8_shut 27 = .ok (.bipush (-3), 2) := by decide +kernel
theorem dX8_shut_29 : decode cX8_shut 29 = .ok (.ireturn, 1) := by decide +kernel
theorem dX8_shut_30 : decode cX8_shut 30 = .ok (.iconst 0, 1) := by decide +kernel
theorem dX8_shut_31 : decode cX8_shut 31 = .ok (.istore_n 3, 1) := by decide +kernel
theorem dX8_shut_32 : decode cX8_shut 32 = .ok (.iload_n 3, 1) := by decide +kernel
theorem dX8_shut_33 : decode cX8_shut 33 = .ok (.aload_n 0, 1) := by decide +kernel
theorem dX8_shut_34 : decode cX8_shut 34 = .ok (.getfield 129, 3) := by decide +kernel
theorem dX8_shut_37 : decode cX8_shut 37 = .ok (.if_icmp .ge 45, 3) := by decide +kernel
theorem dX8_shut_40 : decode cX8_shut 40 = .ok (.iload_n 2, 1) := by decide +kernel
theorem dX8_shut_41 : decode cX8_shut 41 = .ok (.ifCond .eq 41, 3) := by decide +kernel
theorem dX8_shut_44 : decode cX8_shut 44 = .ok (.aload_n 0, 1) := by decide +kernel
theorem dX8_shut_45 : decode cX8_shut 45 = .ok (.getfield 20, 3) := by decide +kernel
theorem dX8_shut_48 : decode cX8_shut 48 = .ok (.iload_n 1, 1) := by decide +kernel
theorem dX8_shut_49 : decode cX8_shut 49 = .ok (.aload_n 0, 1) := by decide +kernel
theorem dX8_shut_50 : decode cX8_shut 50 = .ok (.getfield 74, 3) := by decide +kernel
theorem dX8_shut_53 : decode cX8_shut 53 = .ok (.iload_n 3, 1) := by decide +kernel
theorem dX8_shut_54 : decode cX8_shut 54 = .ok (.iaload, 1) := by decide +kernel
theorem dX8_shut_55 : decode cX8_shut 55 = .ok (.aload_n 0, 1) := by decide +kernel
theorem dX8_shut_56 : decode cX8_shut 56 = .ok (.getfield 77, 3) := by decide +kernel
theorem dX8_shut_59 : decode cX8_shut 59 = .ok (.iload_n 3, 1) := by decide +kernel
theorem dX8_shut_60 : decode cX8_shut 60 = .ok (.iaload, 1) := by decide +kernel
theorem dX8_shut_61 : decode cX8_shut 61 = .ok (.aload_n 0, 1) := by decide +kernel
theorem dX8_shut_62 : decode cX8_shut 62 = .ok (.getfield 80, 3) := by decide +kernel
theorem dX8_shut_65 : decode cX8_shut 65 = .ok (.iload_n 3, 1) := by decide +kernel
theorem dX8_shut_66 : decode cX8_shut 66 = .ok (.iaload, 1) := by decide +kernel
theorem dX8_shut_67 : decode cX8_shut 67 = .ok (.invokestatic 138, 3) := by decide +kernel
theorem dX8_shut_70 : decode cX8_shut 70 = .ok (.ifCond .eq 6, 3) := by decide +kernel
theorem dX8_shut_73 : decode cX8_shut 73 = .ok (.bipush (-3), 2) := by decide +kernel
theorem dX8_shut_75 : decode cX8_shut 75 = .ok (.ireturn, 1) := by decide +kernel
theorem dX8_shut_76 : decode cX8_shut 76 = .ok (.iinc 3 1, 3) := by decide +kernel
theorem dX8_shut_79 : decode cX8_shut 79 = .ok (.goto (-47), 3) := by decide +kernel
theorem dX8_shut_82 : decode cX8_shut 82 = .ok (.aload_n 0, 1) := by decide +kernel
theorem dX8_shut_83 : decode cX8_shut 83 = .ok (.getfield 23, 3) := by decide +kernel
theorem dX8_shut_86 : decode cX8_shut 86 = .ok (.iload_n 1, 1) := by decide +kernel
theorem dX8_shut_87 : decode cX8_shut 87 = .ok (.iload_n 2, 1) := by decide +kernel
theorem dX8_shut_88 : decode cX8_shut 88 = .ok (.bastore, 1) := by decide +kernel
theorem dX8_shut_89 : decode cX8_shut 89 = .ok (.iconst 1, 1) := by decide +kernel
theorem dX8_shut_90 : decode cX8_shut 90 = .ok (.ireturn, 1) := by decide +kernel
set_option maxRecDepth 20000 in
theorem ggX8_walker_X8_isPlace : GoodIn wsX8_walker wsX8_isPlace := goodIn_r _ [11, 12, 13, 10, 14] (by decide +kernel) (by decide +kernel)
set_option maxRecDepth 20000 in
theorem gX8_walker_X8_isPlace : GoodIn wsX8_walker (va_wsS RX8 114 yX8_isPlace wsX8_isPlace) := goodIn_app (goodIn_of _ (by decide +kernel)) ggX8_walker_X8_isPlace
set_option maxRecDepth 20000 in
theorem ggX8_walker_X8_isGround : GoodIn wsX8_walker wsX8_isGround := goodIn_r _ [18, 19, 20, 21, 22, 23, 24, 10, 25, 12, 13, 14, 26, 27, 28, 33, 34, 35, 36, 37, 38, 39, 40, 41, 42, 43, 44, 45, 46, 47, 48, 49, 50, 51, 52, 53, 54, 55, 56, 57, 58, 59, 60, 61, 62, 63, 64, 65, 66, 67, 68, 69, 70, 71, 72, 73, 74, 75, 76, 77, 78, 79, 80, 81] (by decide +kernel) (by decide +kernel)
set_option maxRecDepth 20000 in
theorem gX8_walker_X8_isGround : GoodIn wsX8_walker (wsV RX8 152 RX8 yX8_isGround wsX8_isGround) := goodIn_app (goodIn_of _ (by decide +kernel)) ggX8_walker_X8_isGround
set_option maxRecDepth 20000 in
theorem ggX8_walker_X8_isTaken : GoodIn wsX8_walker wsX8_isTaken := goodIn_r _ [32, 4, 5, 6, 7, 33, 34, 35, 36, 37, 38, 39, 40, 41, 42, 43, 44, 45, 46, 47, 48, 49, 50, 51, 52, 53, 54, 55, 56, 57, 58, 59, 60, 61, 62, 63, 64, 65, 66, 67, 68, 69, 70, 71, 72, 73, 74, 75, 76, 77, 78, 79, 80, 81] (by decide +kernel) (by decide +kernel)
set_option maxRecDepth 20000 in
theorem gX8_walker_X8_isTaken : GoodIn wsX8_walker (wsV RX8 253 RX8 yX8_isTaken wsX8_isTaken) := goodIn_app (goodIn_of _ (by decide +kernel)) ggX8_walker_X8_isTaken
set_option maxRecDepth 20000 in
theorem ggX8_walker_X8_isOn : GoodIn wsX8_walker wsX8_isOn := goodIn_r _ [25, 12, 13, 10, 14] (by decide +kernel) (by decide +kernel)
set_option maxRecDepth 20000 in
theorem gX8_walker_X8_isOn : GoodIn wsX8_walker (va_wsS RX8 138 yX8_isOn wsX8_isOn) := goodIn_app (goodIn_of _ (by decide +kernel)) ggX8_walker_X8_isOn
theorem dX8_walker_0 : decode cX8_walker 0 = .ok (.iload_n 1, 1) := by decide +kernel
theorem dX8_walker_1 : decode cX8_walker 1 = .ok (.iload_n 2, 1) := by decide +kernel
theorem dX8_walker_2 : decode cX8_walker 2 = .ok (.iload_n 3, 1) := by decide +kernel
theorem dX8_walker_3 : decode cX8_walker 3 = .ok (.invokestatic 114, 3) := by decide +kernel
theorem dX8_walker_6 : decode cX8_walker 6 = .ok (.ifCond .ne 6, 3) := by decide +kernel
theorem dX8_walker_9 : decode cX8_walker 9 = .ok (.bipush (-2), 2) := by decide +kernel
theorem dX8_walker_11 : decode cX8_walker 11 = .ok (.ireturn, 1) := by decide +kernel
theorem dX8_walker_12 : decode cX8_walker 12 = .ok (.aload_n 0, 1) := by decide +kernel
theorem dX8_walker_13 : decode cX8_walker 13 = .ok (.iload_n 1, 1) := by decide +kernel
theorem dX8_walker_14 : decode cX8_walker 14 = .ok (.iload_n 2, 1) := by decide +kernel
theorem dX8_walker_15 : decode cX8_walker 15 = .ok (.iload_n 3, 1) := by decide +kernel
theorem dX8_walker_16 : decode cX8_walker 16 = .ok (.invokevirtual 152, 3) := by decide +kernel
theorem dX8_walker_19 : decode cX8_walker 19 = .ok (.ifCond .eq 18, 3) := by decide +kernel
theorem dX8_walker_22 : decode cX8_walker 22 = .ok (.aload_n 0, 1) := by decide +kernel
theorem dX8_walker_23 : decode cX8_walker 23 = .ok (.iconst (-1), 1) := by decide +kernel
theorem dX8_walker_24 : decode cX8_walker 24 = .ok (.iload_n 1, 1) := by decide +kernel
theorem dX8_walker_25 : decode cX8_walker 25 = .ok (.iload_n 2, 1) := by decide +kernel
theorem dX8_walker_26 : decode cX8_walker 26 = .ok (.iload_n 3, 1) := by decide +kernel
theorem dX8_walker_27 : decode cX8_walker 27 = .ok (.invokevirtual 253, 3) := by decide +kernel
theorem dX8_walker_30 : decode cX8_walker 30 = .ok (.ifCond .ne 7, 3) := by decide +kernel
theorem dX8_walker_33 : decode cX8_walker 33 = .ok (.iconst 1, 1) := by decide +kernel
theorem dX8_walker_34 : decode cX8_walker 34 = .ok (.goto 4, 3) := by decide +kernel
theorem dX8_walker_37 : decode cX8_walker 37 = .ok (.iconst 0, 1) := by decide +kernel
theorem dX8_walker_38 : decode cX8_walker 38 = .ok (.istore 4, 2) := by decide +kernel
theorem dX8_walker_40 : decode cX8_walker 40 = .ok (.iconst 0, 1) := by decide +kernel
theorem dX8_walker_41 : decode cX8_walker 41 = .ok (.istore 5, 2) := by decide +kernel
theorem dX8_walker_43 : decode cX8_walker 43 = .ok (.iload 5, 2) := by decide +kernel
theorem dX8_walker_45 : decode cX8_walker 45 = .ok (.aload_n 0, 1) := by decide +kernel
theorem dX8_walker_46 : decode cX8_walker 46 = .ok (.getfield 135, 3) := by decide +kernel
theorem dX8_walker_49 : decode cX8_walker 49 = .ok (.if_icmp .ge 46, 3) := by decide +kernel
theorem dX8_walker_52 : decode cX8_walker 52 = .ok (.iload 4, 2) := by decide +kernel
theorem dX8_walker_54 : decode cX8_walker 54 = .ok (.ifCond .eq 32, 3) := by decide +kernel
theorem dX8_walker_57 : decode cX8_walker 57 = .ok (.aload_n 0, 1) := by decide +kernel
theorem dX8_walker_58 : decode cX8_walker 58 = .ok (.getfield 23, 3) := by decide +kernel
theorem dX8_walker_61 : decode cX8_walker 61 = .ok (.iload 5, 2) := by decide +kernel
theorem dX8_walker_63 : decode cX8_walker 63 = .ok (.baload, 1) := by decide +kernel
theorem dX8_walker_64 : decode cX8_walker 64 = .ok (.ifCond .eq 18, 3) := by decide +kernel
theorem dX8_walker_67 : decode cX8_walker 67 = .ok (.aload_n 0, 1) := by decide +kernel
theorem dX8_walker_68 : decode cX8_walker 68 = .ok (.getfield 20, 3) := by decide +kernel
theorem dX8_walker_71 : decode cX8_walker 71 = .ok (.iload 5, 2) := by decide +kernel
theorem dX8_walker_73 : decode cX8_walker 73 = .ok (.iload_n 1, 1) := by decide +kernel
theorem dX8_walker_74 : decode cX8_walker 74 = .ok (.iload_n 2, 1) := by decide +kernel
theorem dX8_walker_75 : decode cX8_walker 75 = .ok (.iload_n 3, 1) := by decide +kernel
theorem dX8_walker_76 : decode cX8_walker 76 = .ok (.invokestatic 138, 3) := by decide +kernel
theorem dX8_walker_79 : decode cX8_walker 79 = .ok (.ifCond .ne 7, 3) := by decide +kernel
theorem dX8_walker_82 : decode cX8_walker 82 = .ok (.iconst 1, 1) := by decide +kernel
theorem dX8_walker_83 : decode cX8_walker 83 = .ok (.goto 4, 3) := by decide +kernel
theorem dX8_walker_86 : decode cX8_walker 86 = .ok (.iconst 0, 1) := by decide +kernel
theorem dX8_walker_87 : decode cX8_walker 87 = .ok (.istore 4, 2) := by decide +kernel
theorem dX8_walker_89 : decode cX8_walker 89 = .ok (.iinc 5 1, 3) := by decide +kernel
theorem dX8_walker_92 : decode cX8_walker 92 = .ok (.goto (-49), 3) := by decide +kernel
theorem dX8_walker_95 : decode cX8_walker 95 = .ok (.iload 4, 2) := by decide +kernel
theorem dX8_walker_97 : decode cX8_walker 97 = .ok (.ifCond .ne 6, 3) := by decide +kernel
theorem dX8_walker_100 : decode cX8_walker 100 = .ok (.bipush (-3), 2) := by decide +kernel
theorem dX8_walker_102 : decode cX8_walker 102 = .ok (.ireturn, 1) := by decide +kernel
theorem dX8_walker_103 : decode cX8_walker 103 = .ok (.aload_n 0, 1) := by decide +kernel
theorem dX8_walker_104 : decode cX8_walker 104 = .ok (.getfield 129, 3) := by decide +kernel
theorem dX8_walker_107 : decode cX8_walker 107 = .ok (.bipush 6, 2) := by decide +kernel
theorem dX8_walker_109 : decode cX8_walker 109 = .ok (.if_icmp .ne 6, 3) := by decide +kernel
theorem dX8_walker_112 : decode cX8_walker 112 = .ok (.bipush (-4), 2) := by decide +kernel
theorem dX8_walker_114 : decode cX8_walker 114 = .ok (.ireturn, 1) := by decide +kernel
theorem dX8_walker_115 : decode cX8_walker 115 = .ok (.aload_n 0, 1) := by decide +kernel
theorem dX8_walker_116 : decode cX8_walker 116 = .ok (.getfield 74, 3) := by decide +kernel
theorem dX8_walker_119 : decode cX8_walker 119 = .ok (.aload_n 0, 1) := by decide +kernel
theorem dX8_walker_120 : decode cX8_walker 120 = .ok (.getfield 129, 3) := by decide +kernel
theorem dX8_walker_123 : decode cX8_walker 123 = .ok (.iload_n 1, 1) := by decide +kernel
theorem dX8_walker_124 : decode cX8_walker 124 = .ok (.iastore, 1) := by decide +kernel
theorem dX8_walker_125 : decode cX8_walker 125 = .ok (.aload_n 0, 1) := by decide +kernel
theorem dX8_walker_126 : decode cX8_walker 126 = .ok (.getfield 77, 3) := by decide +kernel
theorem dX8_walker_129 : decode cX8_walker 129 = .ok (.aload_n 0, 1) := by decide +kernel
theorem dX8_walker_130 : decode cX8_walker 130 = .ok (.getfield 129, 3) := by decide +kernel
theorem dX8_walker_133 : decode cX8_walker 133 = .ok (.iload_n 2, 1) := by decide +kernel
theorem dX8_walker_134 : decode cX8_walker 134 = .ok (.iastore, 1) := by decide +kernel
theorem dX8_walker_135 : decode cX8_walker 135 = .ok (.aload_n 0, 1) := by decide +kernel
theorem dX8_walker_136 : decode cX8_walker 136 = .ok (.getfield 80, 3) := by decide +kernel
theorem dX8_walker_139 : decode cX8_walker 139 = .ok (.aload_n 0, 1) := by decide +kernel
theorem dX8_walker_140 : decode cX8_walker 140 = .ok (.getfield 129, 3) := by decide +kernel
theorem dX8_walker_143 : decode cX8_walker 143 = .ok (.iload_n 3, 1) := by decide +kernel
theorem dX8_walker_144 : decode cX8_walker 144 = .ok (.iastore, 1) := by decide +kernel
theorem dX8_walker_145 : decode cX8_walker 145 = .ok (.aload_n 0, 1) := by decide +kernel
theorem dX8_walker_146 : decode cX8_walker 146 = .ok (.dup, 1) := by decide +kernel
theorem dX8_walker_147 : decode cX8_walker 147 = .ok (.getfield 129, 3) := by decide +kernel
theorem dX8_walker_150 : decode cX8_walker 150 = .ok (.iconst 1, 1) := by decide +kernel
theorem dX8_walker_151 : decode cX8_walker 151 = .ok (.iadd, 1) := by decide +kernel
theorem dX8_walker_152 : decode cX8_walker 152 = .ok (.putfield 129, 3) := by decide +kernel
theorem dX8_walker_155 : decode cX8_walker 155 = .ok (.aload_n 0, 1) := by decide +kernel
theorem dX8_walker_156 : decode cX8_walker 156 = .ok (.getfield 129, 3) := by decide +kernel
theorem dX8_walker_159 : decode cX8_walker 159 = .ok (.iconst 1, 1) := by decide +kernel
theorem dX8_walker_160 : decode cX8_walker 160 = .ok (.isub, 1) := by decide +kernel
theorem dX8_walker_161 : decode cX8_walker 161 = .ok (.ireturn, 1) := by decide +kernel
set_option maxRecDepth 20000 in
theorem ggX8_room_X8_isField : GoodIn wsX8_room wsX8_isField := goodIn_r _ [6, 7, 8, 5, 9, 10, 11, 12] (by decide +kernel) (by decide +kernel)
set_option maxRecDepth 20000 in
theorem gX8_room_X8_isField : GoodIn wsX8_room (va_wsS RX8 117 yX8_isField wsX8_isField) := goodIn_app (goodIn_of _ (by decide +kernel)) ggX8_room_X8_isField
set_option maxRecDepth 20000 in
theorem ggX8_room_X8_lays : GoodIn wsX8_room wsX8_lays := goodIn_r _ [15] (by decide +kernel) (by decide +kernel)
set_option maxRecDepth 20000 in
theorem gX8_room_X8_lays : GoodIn wsX8_room (va_wsS RX8 125 yX8_lays wsX8_lays) := goodIn_app (goodIn_of _ (by decide +kernel)) ggX8_room_X8_lays
theorem dX8_room_0 : decode cX8_room 0 = .ok (.iload_n 1, 1) := by decide +kernel
theorem dX8_room_1 : decode cX8_room 1 = .ok (.iload_n 2, 1) := by decide +kernel
theorem dX8_room_2 : decode cX8_room 2 = .ok (.iload_n 3, 1) := by decide +kernel
theorem dX8_room_3 : decode cX8_room 3 = .ok (.iload 4, 2) := by decide +kernel
theorem dX8_room_5 : decode cX8_room 5 = .ok (.iload 5, 2) := by decide +kernel
theorem dX8_room_7 : decode cX8_room 7 = .ok (.invokestatic 117, 3) := by decide +kernel
theorem dX8_room_10 : decode cX8_room 10 = .ok (.ifCond .ne 6, 3) := by decide +kernel
theorem dX8_room_13 : decode cX8_room 13 = .ok (.bipush (-2), 2) := by decide +kernel
theorem dX8_room_15 : decode cX8_room 15 = .ok (.ireturn, 1) := by decide +kernel
theorem dX8_room_16 : decode cX8_room 16 = .ok (.aload_n 0, 1) := by decide +kernel
theorem dX8_room_17 : decode cX8_room 17 = .ok (.getfield 121, 3) := by decide +kernel
theorem dX8_room_20 : decode cX8_room 20 = .ok (.bipush 12, 2) := by decide +kernel
theorem dX8_room_22 : decode cX8_room 22 = .ok (.if_icmp .ne 6, 3) := by decide +kernel
theorem dX8_room_25 : decode cX8_room 25 = .ok (.bipush (-4), 2) := by decide +kernel
theorem dX8_room_27 : decode cX8_room 27 = .ok (.ireturn, 1) := by decide +kernel
theorem dX8_room_28 : decode cX8_room 28 = .ok (.aload_n 0, 1) := by decide +kernel
theorem dX8_room_29 : decode cX8_room 29 = .ok (.getfield 7, 3) := by decide +kernel
theorem dX8_room_32 : decode cX8_room 32 = .ok (.aload_n 0, 1) := by decide +kernel
theorem dX8_room_33 : decode cX8_room 33 = .ok (.getfield 121, 3) := by decide +kernel
theorem dX8_room_36 : decode cX8_room 36 = .ok (.iload_n 1, 1) := by decide +kernel
theorem dX8_room_37 : decode cX8_room 37 = .ok (.iload_n 2, 1) := by decide +kernel
theorem dX8_room_38 : decode cX8_room 38 = .ok (.iload_n 3, 1) := by decide +kernel
theorem dX8_room_39 : decode cX8_room 39 = .ok (.iload 4, 2) := by decide +kernel
theorem dX8_room_41 : decode cX8_room 41 = .ok (.iload 5, 2) := by decide +kernel
theorem dX8_room_43 : decode cX8_room 43 = .ok (.invokestatic 125, 3) := by decide +kernel
theorem dX8_room_46 : decode cX8_room 46 = .ok (.aload_n 0, 1) := by decide +kernel
theorem dX8_room_47 : decode cX8_room 47 = .ok (.dup, 1) := by decide +kernel
theorem dX8_room_48 : decode cX8_room 48 = .ok (.getfield 121, 3) := by decide +kernel
theorem dX8_room_51 : decode cX8_room 51 = .ok (.iconst 1, 1) := by decide +kernel
theorem dX8_room_52 : decode cX8_room 52 = .ok (.iadd, 1) := by decide +kernel
theorem dX8_room_53 : decode cX8_room 53 = .ok (.putfield 121, 3) := by decide +kernel
theorem dX8_room_56 : decode cX8_room 56 = .ok (.aload_n 0, 1) := by decide +kernel
theorem dX8_room_57 : decode cX8_room 57 = .ok (.getfield 121, 3) := by decide +kernel
theorem dX8_room_60 : decode cX8_room 60 = .ok (.iconst 1, 1) := by decide +kernel
theorem dX8_room_61 : decode cX8_room 61 = .ok (.isub, 1) := by decide +kernel
theorem dX8_room_62 : decode cX8_room 62 = .ok (.ireturn, 1) := by decide +kernel
set_option maxRecDepth 20000 in
theorem ggX8_door_X8_isLine : GoodIn wsX8_door wsX8_isLine := goodIn_r _ [6, 7, 8, 5, 9, 10, 11, 12] (by decide +kernel) (by decide +kernel)
set_option maxRecDepth 20000 in
theorem gX8_door_X8_isLine : GoodIn wsX8_door (va_wsS RX8 132 yX8_isLine wsX8_isLine) := goodIn_app (goodIn_of _ (by decide +kernel)) ggX8_door_X8_isLine
set_option maxRecDepth 20000 in
theorem ggX8_door_X8_lays : GoodIn wsX8_door wsX8_lays := goodIn_r _ [15] (by decide +kernel) (by decide +kernel)
set_option maxRecDepth 20000 in
theorem gX8_door_X8_lays : GoodIn wsX8_door (va_wsS RX8 125 yX8_lays wsX8_lays) := goodIn_app (goodIn_of _ (by decide +kernel)) ggX8_door_X8_lays
theorem dX8_door_0 : decode cX8_door 0 = .ok (.iload_n 1, 1) := by decide +kernel
theorem dX8_door_1 : decode cX8_door 1 = .ok (.iload_n 2, 1) := by decide +kernel
theorem dX8_door_2 : decode cX8_door 2 = .ok (.iload_n 3, 1) := by decide +kernel
theorem dX8_door_3 : decode cX8_door 3 = .ok (.iload 4, 2) := by decide +kernel
theorem dX8_door_5 : decode cX8_door 5 = .ok (.iload 5, 2) := by decide +kernel
theorem dX8_door_7 : decode cX8_door 7 = .ok (.invokestatic 132, 3) := by decide +kernel
theorem dX8_door_10 : decode cX8_door 10 = .ok (.ifCond .ne 6, 3) := by decide +kernel
theorem dX8_door_13 : decode cX8_door 13 = .ok (.bipush (-2), 2) := by decide +kernel
theorem dX8_door_15 : decode cX8_door 15 = .ok (.ireturn, 1) := by decide +kernel
theorem dX8_door_16 : decode cX8_door 16 = .ok (.aload_n 0, 1) := by decide +kernel
theorem dX8_door_17 : decode cX8_door 17 = .ok (.getfield 135, 3) := by decide +kernel
theorem dX8_door_20 : decode cX8_door 20 = .ok (.bipush 6, 2) := by decide +kernel
theorem dX8_door_22 : decode cX8_door 22 = .ok (.if_icmp .ne 6, 3) := by decide +kernel
theorem dX8_door_25 : decode cX8_door 25 = .ok (.bipush (-4), 2) := by decide +kernel
theorem dX8_door_27 : decode cX8_door 27 = .ok (.ireturn, 1) := by decide +kernel
theorem dX8_door_28 : decode cX8_door 28 = .ok (.aload_n 0, 1) := by decide +kernel
theorem dX8_door_29 : decode cX8_door 29 = .ok (.getfield 20, 3) := by decide +kernel
theorem dX8_door_32 : decode cX8_door 32 = .ok (.aload_n 0, 1) := by decide +kernel
theorem dX8_door_33 : decode cX8_door 33 = .ok (.getfield 135, 3) := by decide +kernel
theorem dX8_door_36 : decode cX8_door 36 = .ok (.iload_n 1, 1) := by decide +kernel
theorem dX8_door_37 : decode cX8_door 37 = .ok (.iload_n 2, 1) := by decide +kernel
theorem dX8_door_38 : decode cX8_door 38 = .ok (.iload_n 3, 1) := by decide +kernel
theorem dX8_door_39 : decode cX8_door 39 = .ok (.iload 4, 2) := by decide +kernel
theorem dX8_door_41 : decode cX8_door 41 = .ok (.iload 5, 2) := by decide +kernel
theorem dX8_door_43 : decode cX8_door 43 = .ok (.invokestatic 125, 3) := by decide +kernel
theorem dX8_door_46 : decode cX8_door 46 = .ok (.aload_n 0, 1) := by decide +kernel
theorem dX8_door_47 : decode cX8_door 47 = .ok (.dup, 1) := by decide +kernel
theorem dX8_door_48 : decode cX8_door 48 = .ok (.getfield 135, 3) := by decide +kernel
theorem dX8_door_51 : decode cX8_door 51 = .ok (.iconst 1, 1) := by decide +kernel
theorem dX8_door_52 : decode cX8_door 52 = .ok (.iadd, 1) := by decide +kernel
theorem dX8_door_53 : decode cX8_door 53 = .ok (.putfield 135, 3) := by decide +kernel
theorem dX8_door_56 : decode cX8_door 56 = .ok (.aload_n 0, 1) := by decide +kernel
theorem dX8_door_57 : decode cX8_door 57 = .ok (.getfield 135, 3) := by decide +kernel
theorem dX8_door_60 : decode cX8_door 60 = .ok (.iconst 1, 1) := by decide +kernel
theorem dX8_door_61 : decode cX8_door 61 = .ok (.isub, 1) := by decide +kernel
theorem dX8_door_62 : decode cX8_door 62 = .ok (.ireturn, 1) := by decide +kernel
set_option maxRecDepth 20000 in
theorem ggX8_ledge_X8_isLine : GoodIn wsX8_ledge wsX8_isLine := goodIn_r _ [7, 8, 9, 6, 10, 11, 12, 13] (by decide +kernel) (by decide +kernel)
set_option maxRecDepth 20000 in
theorem gX8_ledge_X8_isLine : GoodIn wsX8_ledge (va_wsS RX8 132 yX8_isLine wsX8_isLine) := goodIn_app (goodIn_of _ (by decide +kernel)) ggX8_ledge_X8_isLine
set_option maxRecDepth 20000 in
theorem ggX8_ledge_X8_lays : GoodIn wsX8_ledge wsX8_lays := goodIn_r _ [16] (by decide +kernel) (by decide +kernel)
set_option maxRecDepth 20000 in
theorem gX8_ledge_X8_lays : GoodIn wsX8_ledge (va_wsS RX8 125 yX8_lays wsX8_lays) := goodIn_app (goodIn_of _ (by decide +kernel)) ggX8_ledge_X8_lays
theorem dX8_ledge_0 : decode cX8_ledge 0 = .ok (.iload_n 1, 1) := by decide +kernel
theorem dX8_ledge_1 : decode cX8_ledge 1 = .ok (.iload_n 2, 1) := by decide +kernel
theorem dX8_ledge_2 : decode cX8_ledge 2 = .ok (.iload_n 3, 1) := by decide +kernel
theorem dX8_ledge_3 : decode cX8_ledge 3 = .ok (.iload 4, 2) := by decide +kernel
theorem dX8_ledge_5 : decode cX8_ledge 5 = .ok (.iload 5, 2) := by decide +kernel
theorem dX8_ledge_7 : decode cX8_ledge 7 = .ok (.invokestatic 132, 3) := by decide +kernel
theorem dX8_ledge_10 : decode cX8_ledge 10 = .ok (.ifCond .ne 6, 3) := by decide +kernel
theorem dX8_ledge_13 : decode cX8_ledge 13 = .ok (.bipush (-2), 2) := by decide +kernel
theorem dX8_ledge_15 : decode cX8_ledge 15 = .ok (.ireturn, 1) := by decide +kernel
theorem dX8_ledge_16 : decode cX8_ledge 16 = .ok (.aload_n 0, 1) := by decide +kernel
theorem dX8_ledge_17 : decode cX8_ledge 17 = .ok (.getfield 142, 3) := by decide +kernel
theorem dX8_ledge_20 : decode cX8_ledge 20 = .ok (.bipush 6, 2) := by decide +kernel
theorem dX8_ledge_22 : decode cX8_ledge 22 = .ok (.if_icmp .ne 6, 3) := by decide +kernel
theorem dX8_ledge_25 : decode cX8_ledge 25 = .ok (.bipush (-4), 2) := by decide +kernel
theorem dX8_ledge_27 : decode cX8_ledge 27 = .ok (.ireturn, 1) := by decide +kernel
theorem dX8_ledge_28 : decode cX8_ledge 28 = .ok (.aload_n 0, 1) := by decide +kernel
theorem dX8_ledge_29 : decode cX8_ledge 29 = .ok (.getfield 26, 3) := by decide +kernel
theorem dX8_ledge_32 : decode cX8_ledge 32 = .ok (.aload_n 0, 1) := by decide +kernel
theorem dX8_ledge_33 : decode cX8_ledge 33 = .ok (.getfield 142, 3) := by decide +kernel
theorem dX8_ledge_36 : decode cX8_ledge 36 = .ok (.iload_n 1, 1) := by decide +kernel
theorem dX8_ledge_37 : decode cX8_ledge 37 = .ok (.iload_n 2, 1) := by decide +kernel
theorem dX8_ledge_38 : decode cX8_ledge 38 = .ok (.iload_n 3, 1) := by decide +kernel
theorem dX8_ledge_39 : decode cX8_ledge 39 = .ok (.iload 4, 2) := by decide +kernel
theorem dX8_ledge_41 : decode cX8_ledge 41 = .ok (.iload 5, 2) := by decide +kernel
theorem dX8_ledge_43 : decode cX8_ledge 43 = .ok (.invokestatic 125, 3) := by decide +kernel
theorem dX8_ledge_46 : decode cX8_ledge 46 = .ok (.aload_n 0, 1) := by decide +kernel
theorem dX8_ledge_47 : decode cX8_ledge 47 = .ok (.getfield 29, 3) := by decide +kernel
theorem dX8_ledge_50 : decode cX8_ledge 50 = .ok (.aload_n 0, 1) := by decide +kernel
theorem dX8_ledge_51 : decode cX8_ledge 51 = .ok (.getfield 142, 3) := by decide +kernel
theorem dX8_ledge_54 : decode cX8_ledge 54 = .ok (.iload 6, 2) := by decide +kernel
theorem dX8_ledge_56 : decode cX8_ledge 56 = .ok (.bastore, 1) := by decide +kernel
theorem dX8_ledge_57 : decode cX8_ledge 57 = .ok (.aload_n 0, 1) := by decide +kernel
theorem dX8_ledge_58 : decode cX8_ledge 58 = .ok (.dup, 1) := by decide +kernel
theorem dX8_ledge_59 : decode cX8_ledge 59 = .ok (.getfield 142, 3) := by decide +kernel
theorem dX8_ledge_62 : decode cX8_ledge 62 = .ok (.iconst 1, 1) := by decide +kernel
theorem dX8_ledge_63 : decode cX8_ledge 63 = .ok (.iadd, 1) := by decide +kernel
theorem dX8_ledge_64 : decode cX8_ledge 64 = .ok (.putfield 142, 3) := by decide +kernel
theorem dX8_ledge_67 : decode cX8_ledge 67 = .ok (.aload_n 0, 1) := by decide +kernel
theorem dX8_ledge_68 : decode cX8_ledge 68 = .ok (.getfield 142, 3) := by decide +kernel
theorem dX8_ledge_71 : decode cX8_ledge 71 = .ok (.iconst 1, 1) := by decide +kernel
theorem dX8_ledge_72 : decode cX8_ledge 72 = .ok (.isub, 1) := by decide +kernel
theorem dX8_ledge_73 : decode cX8_ledge 73 = .ok (.ireturn, 1) := by decide +kernel
set_option maxRecDepth 20000 in
theorem ggX8_ladder_X8_isPlace : GoodIn wsX8_ladder wsX8_isPlace := goodIn_r _ [7, 8, 9, 6, 10] (by decide +kernel) (by decide +kernel)
set_option maxRecDepth 20000 in
theorem gX8_ladder_X8_isPlace : GoodIn wsX8_ladder (va_wsS RX8 114 yX8_isPlace wsX8_isPlace) := goodIn_app (goodIn_of _ (by decide +kernel)) ggX8_ladder_X8_isPlace
set_option maxRecDepth 20000 in
theorem ggX8_ladder_X8_in : GoodIn wsX8_ladder wsX8_in := goodIn_r _ [10] (by decide +kernel) (by decide +kernel)
set_option maxRecDepth 20000 in
theorem gX8_ladder_X8_in : GoodIn wsX8_ladder (va_wsS RX8 110 yX8_in wsX8_in) := goodIn_app (goodIn_of _ (by decide +kernel)) ggX8_ladder_X8_in
theorem dX8_ladder_0 : decode cX8_ladder 0 = .ok (.iload_n 1, 1) := by decide +kernel
theorem dX8_ladder_1 : decode cX8_ladder 1 = .ok (.iload_n 2, 1) := by decide +kernel
theorem dX8_ladder_2 : decode cX8_ladder 2 = .ok (.iload_n 3, 1) := by decide +kernel
theorem dX8_ladder_3 : decode cX8_ladder 3 = .ok (.invokestatic 114, 3) := by decide +kernel
theorem dX8_ladder_6 : decode cX8_ladder 6 = .ok (.ifCond .eq 32, 3) := by decide +kernel
theorem dX8_ladder_9 : decode cX8_ladder 9 = .ok (.iload 4, 2) := by decide +kernel
theorem dX8_ladder_11 : decode cX8_ladder 11 = .ok (.iload 5, 2) := by decide +kernel
theorem dX8_ladder_13 : decode cX8_ladder 13 = .ok (.iload 6, 2) := by decide +kernel
theorem dX8_ladder_15 : decode cX8_ladder 15 = .ok (.invokestatic 114, 3) := by decide +kernel
theorem dX8_ladder_18 : decode cX8_ladder 18 = .ok (.ifCond .eq 20, 3) := by decide +kernel
theorem dX8_ladder_21 : decode cX8_ladder 21 = .ok (.iload_n 1, 1) := by decide +kernel
theorem dX8_ladder_22 : decode cX8_ladder 22 = .ok (.iload 4, 2) := by decide +kernel
theorem dX8_ladder_24 : decode cX8_ladder 24 = .ok (.if_icmp .eq 14, 3) := by decide +kernel
theorem dX8_ladder_27 : decode cX8_ladder 27 = .ok (.iload 7, 2) := by decide +kernel
theorem dX8_ladder_29 : decode cX8_ladder 29 = .ok (.iconst 0, 1) := by decide +kernel
theorem dX8_ladder_30 : decode cX8_ladder 30 = .ok (.ldc 145, 2) := by decide +kernel
theorem dX8_ladder_32 : decode cX8_ladder 32 = .ok (.invokestatic 110, 3) := by decide +kernel
theorem dX8_ladder_35 : decode cX8_ladder 35 = .ok (.ifCond .ne 6, 3) := by decide +kernel
theorem dX8_ladder_38 : decode cX8_ladder 38 = .ok (.bipush (-2), 2) := by decide +kernel
theorem dX8_ladder_40 : decode cX8_ladder 40 = .ok (.ireturn, 1) := by decide +kernel
theorem dX8_ladder_41 : decode cX8_ladder 41 = .ok (.aload_n 0, 1) := by decide +kernel
theorem dX8_ladder_42 : decode cX8_ladder 42 = .ok (.getfield 146, 3) := by decide +kernel
theorem dX8_ladder_45 : decode cX8_ladder 45 = .ok (.bipush 6, 2) := by decide +kernel
theorem dX8_ladder_47 : decode cX8_ladder 47 = .ok (.if_icmp .ne 6, 3) := by decide +kernel
theorem dX8_ladder_50 : decode cX8_ladder 50 = .ok (.bipush (-4), 2) := by decide +kernel
theorem dX8_ladder_52 : decode cX8_ladder 52 = .ok (.ireturn, 1) := by decide +kernel
theorem dX8_ladder_53 : decode cX8_ladder 53 = .ok (.aload_n 0, 1) := by decide +kernel
theorem dX8_ladder_54 : decode cX8_ladder 54 = .ok (.getfield 32, 3) := by decide +kernel
theorem dX8_ladder_57 : decode cX8_ladder 57 = .ok (.bipush 7, 2) := by decide +kernel
theorem dX8_ladder_59 : decode cX8_ladder 59 = .ok (.aload_n 0, 1) := by decide +kernel
theorem dX8_ladder_60 : decode cX8_ladder 60 = .ok (.getfield 146, 3) := by decide +kernel
theorem dX8_ladder_63 : decode cX8_ladder 63 = .ok (.imul, 1) := by decide +kernel
theorem dX8_ladder_64 : decode cX8_ladder 64 = .ok (.iload_n 1, 1) := by decide +kernel
theorem dX8_ladder_65 : decode cX8_ladder 65 = .ok (.iastore, 1) := by decide +kernel
theorem dX8_ladder_66 : decode cX8_ladder 66 = .ok (.aload_n 0, 1) := by decide +kernel
theorem dX8_ladder_67 : decode cX8_ladder 67 = .ok (.getfield 32, 3) := by decide +kernel
theorem dX8_ladder_70 : decode cX8_ladder 70 = .ok (.bipush 7, 2) := by decide +kernel
theorem dX8_ladder_72 : decode cX8_ladder 72 = .ok (.aload_n 0, 1) := by decide +kernel
theorem dX8_ladder_73 : decode cX8_ladder 73 = .ok (.getfield 146, 3) := by decide +kernel
theorem dX8_ladder_76 : decode cX8_ladder 76 = .ok (.imul, 1) := by decide +kernel
theorem dX8_ladder_77 : decode cX8_ladder 77 = .ok (.iconst 1, 1) := by decide +kernel
theorem dX8_ladder_78 : decode cX8_ladder 78 = .ok (.iadd, 1) := by decide +kernel
theorem dX8_ladder_79 : decode cX8_ladder 79 = .ok (.iload_n 2, 1) := by decide +kernel
theorem dX8_ladder_80 : decode cX8_ladder 80 = .ok (.iastore, 1) := by decide +kernel
theorem dX8_ladder_81 : decode cX8_ladder 81 = .ok (.aload_n 0, 1) := by decide +kernel
theorem dX8_ladder_82 : decode cX8_ladder 82 = .ok (.getfield 32, 3) := by decide +kernel
theorem dX8_ladder_85 : decode cX8_ladder 85 = .ok (.bipush 7, 2) := by decide +kernel
theorem dX8_ladder_87 : decode cX8_ladder 87 = .ok (.aload_n 0, 1) := by decide +kernel
theorem dX8_ladder_88 : decode cX8_ladder 88 = .ok (.getfield 146, 3) := by decide +kernel
theorem dX8_ladder_91 : decode cX8_ladder 91 = .ok (.imul, 1) := by decide +kernel
theorem dX8_ladder_92 : decode cX8_ladder 92 = .ok (.iconst 2, 1) := by decide +kernel
theorem dX8_ladder_93 : decode cX8_ladder 93 = .ok (.iadd, 1) := by decide +kernel
theorem dX8_ladder_94 : decode cX8_ladder 94 = .ok (.iload_n 3, 1) := by decide +kernel
theorem dX8_ladder_95 : decode cX8_ladder 95 = .ok (.iastore, 1) := by decide +kernel
theorem dX8_ladder_96 : decode cX8_ladder 96 = .ok (.aload_n 0, 1) := by decide +kernel
theorem dX8_ladder_97 : decode cX8_ladder 97 = .ok (.getfield 32, 3) := by decide +kernel
theorem dX8_ladder_100 : decode cX8_ladder 100 = .ok (.bipush 7, 2) := by decide +kernel
theorem dX8_ladder_102 : decode cX8_ladder 102 = .ok (.aload_n 0, 1) := by decide +kernel
theorem dX8_ladder_103 : decode cX8_ladder 103 = .ok (.getfield 146, 3) := by decide +kernel
theorem dX8_ladder_106 : decode cX8_ladder 106 = .ok (.imul, 1) := by decide +kernel
theorem dX8_ladder_107 : decode cX8_ladder 107 = .ok (.iconst 3, 1) := by decide +kernel
theorem dX8_ladder_108 : decode cX8_ladder 108 = .ok (.iadd, 1) := by decide +kernel
theorem dX8_ladder_109 : decode cX8_ladder 109 = .ok (.iload 4, 2) := by decide +kernel
theorem dX8_ladder_111 : decode cX8_ladder 111 = .ok (.iastore, 1) := by decide +kernel
theorem dX8_ladder_112 : decode cX8_ladder 112 = .ok (.aload_n 0, 1) := by decide +kernel
theorem dX8_ladder_113 : decode cX8_ladder 113 = .ok (.getfield 32, 3) := by decide +kernel
theorem dX8_ladder_116 : decode cX8_ladder 116 = .ok (.bipush 7, 2) := by decide +kernel
theorem dX8_ladder_118 : decode cX8_ladder 118 = .ok (.aload_n 0, 1) := by decide +kernel
theorem dX8_ladder_119 : decode cX8_ladder 119 = .ok (.getfield 146, 3) := by decide +kernel
theorem dX8_ladder_122 : decode cX8_ladder 122 = .ok (.imul, 1) := by decide +kernel
theorem dX8_ladder_123 : decode cX8_ladder 123 = .ok (.iconst 4, 1) := by decide +kernel
theorem dX8_ladder_124 : decode cX8_ladder 124 = .ok (.iadd, 1) := by decide +kernel
theorem dX8_ladder_125 : decode cX8_ladder 125 = .ok (.iload 5, 2) := by decide +kernel
theorem dX8_ladder_127 : decode cX8_ladder 127 = .ok (.iastore, 1) := by decide +kernel
theorem dX8_ladder_128 : decode cX8_ladder 128 = .ok (.aload_n 0, 1) := by decide +kernel
theorem dX8_ladder_129 : decode cX8_ladder 129 = .ok (.getfield 32, 3) := by decide +kernel
theorem dX8_ladder_132 : decode cX8_ladder 132 = .ok (.bipush 7, 2) := by decide +kernel
theorem dX8_ladder_134 : decode cX8_ladder 134 = .ok (.aload_n 0, 1) := by decide +kernel
theorem dX8_ladder_135 : decode cX8_ladder 135 = .ok (.getfield 146, 3) := by decide +kernel
theorem dX8_ladder_138 : decode cX8_ladder 138 = .ok (.imul, 1) := by decide +kernel
theorem dX8_ladder_139 : decode cX8_ladder 139 = .ok (.iconst 5, 1) := by decide +kernel
theorem dX8_ladder_140 : decode cX8_ladder 140 = .ok (.iadd, 1) := by decide +kernel
theorem dX8_ladder_141 : decode cX8_ladder 141 = .ok (.iload 6, 2) := by decide +kernel
theorem dX8_ladder_143 : decode cX8_ladder 143 = .ok (.iastore, 1) := by decide +kernel
theorem dX8_ladder_144 : decode cX8_ladder 144 = .ok (.aload_n 0, 1) := by decide +kernel
theorem dX8_ladder_145 : decode cX8_ladder 145 = .ok (.getfield 32, 3) := by decide +kernel
theorem dX8_ladder_148 : decode cX8_ladder 148 = .ok (.bipush 7, 2) := by decide +kernel
theorem dX8_ladder_150 : decode cX8_ladder 150 = .ok (.aload_n 0, 1) := by decide +kernel
theorem dX8_ladder_151 : decode cX8_ladder 151 = .ok (.getfield 146, 3) := by decide +kernel
theorem dX8_ladder_154 : decode cX8_ladder 154 = .ok (.imul, 1) := by decide +kernel
theorem dX8_ladder_155 : decode cX8_ladder 155 = .ok (.bipush 6, 2) := by decide +kernel
theorem dX8_ladder_157 : decode cX8_ladder 157 = .ok (.iadd, 1) := by decide +kernel
theorem dX8_ladder_158 : decode cX8_ladder 158 = .ok (.iload 7, 2) := by decide +kernel
theorem dX8_ladder_160 : decode cX8_ladder 160 = .ok (.iastore, 1) := by decide +kernel
theorem dX8_ladder_161 : decode cX8_ladder 161 = .ok (.aload_n 0, 1) := by decide +kernel
theorem dX8_ladder_162 : decode cX8_ladder 162 = .ok (.dup, 1) := by decide +kernel
theorem dX8_ladder_163 : decode cX8_ladder 163 = .ok (.getfield 146, 3) := by decide +kernel
theorem dX8_ladder_166 : decode cX8_ladder 166 = .ok (.iconst 1, 1) := by decide +kernel
theorem dX8_ladder_167 : decode cX8_ladder 167 = .ok (.iadd, 1) := by decide +kernel
theorem dX8_ladder_168 : decode cX8_ladder 168 = .ok (.putfield 146, 3) := by decide +kernel
theorem dX8_ladder_171 : decode cX8_ladder 171 = .ok (.aload_n 0, 1) := by decide +kernel
theorem dX8_ladder_172 : decode cX8_ladder 172 = .ok (.getfield 146, 3) := by decide +kernel
theorem dX8_ladder_175 : decode cX8_ladder 175 = .ok (.iconst 1, 1) := by decide +kernel
theorem dX8_ladder_176 : decode cX8_ladder 176 = .ok (.isub, 1) := by decide +kernel
theorem dX8_ladder_177 : decode cX8_ladder 177 = .ok (.ireturn, 1) := by decide +kernel
