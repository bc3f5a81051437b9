set_option maxRecDepth 20000 in
theorem ggX7_tick_X7_takeTurn : GoodIn wsX7_tick wsX7_takeTurn := goodIn_r _ [8, 3, 9, 10, 11, 12, 13, 14, 15, 16, 17, 18, 19, 20, 21, 22, 23, 24, 25, 26, 27, 28, 29, 30, 31, 32, 33, 34, 35, 36, 7, 37, 38, 39, 40, 41, 42, 43, 44, 45, 46, 47, 48, 49, 50, 51, 52, 53, 54, 55, 56, 57, 58, 59, 60, 61, 62, 63, 64, 65, 66, 67, 68, 69, 70, 71, 72, 73, 74, 75, 76, 77, 78, 79, 80, 81, 82, 83, 84, 85, 86, 87, 88, 89, 90, 91, 92, 93, 94, 95, 96, 97, 98, 99, 100, 101, 102, 103, 104, 105, 106, 107, 108, 109, 110, 111, 112, 113, 114, 115, 116, 117, 118, 119, 120, 121, 122, 123, 124, 125, 126, 127, 128, 129, 130, 131, 132, 133, 134, 135, 136, 137, 1, 138, 139, 140, 141, 142, 143, 144, 145, 146, 147, 148, 149, 150, 151, 152, 153, 154, 155, 156, 157, 158, 159, 160, 161, 162, 163, 164, 165, 166, 167, 168, 169, 170, 171, 172, 173, 174, 175, 176, 177, 178, 179, 180, 181, 182, 183, 184, 185, 186, 187, 188, 189, 190, 191, 192, 193, 194, 195, 196, 197, 198, 199, 200, 201, 202, 203, 204, 205, 206, 207, 208, 209, 210, 211, 212, 213, 214, 215, 216, 217, 218, 219, 220, 221, 222, 223, 224, 225, 226, 227, 228, 229, 230, 231, 232, 233, 234, 235, 236, 237, 238, 239, 240, 241, 242, 243, 244, 245, 246, 247, 248, 249, 250, 251, 252, 253, 254, 255, 256, 257, 258, 259, 260, 261, 262, 263, 264, 265, 266, 267, 268, 269, 270, 271, 272, 273, 274, 275, 276, 277, 278, 279, 280, 281, 282, 283, 284, 285, 286, 287, 288, 289] (by decide +kernel) (by decide +kernel)
set_option maxRecDepth 20000 in
theorem gX7_tick_X7_takeTurn : GoodIn wsX7_tick (wsV RX7 171 RX7 yX7_takeTurn wsX7_takeTurn) := goodIn_app (goodIn_of _ (by decide +kernel)) ggX7_tick_X7_takeTurn
set_option maxRecDepth 20000 in
theorem ggX7_tick_X6_ahead : GoodIn wsX7_tick wsX6_ahead := goodIn_r _ [20, 21, 22, 23, 244, 245, 246, 247, 248, 249, 250, 251, 252, 253] (by decide +kernel) (by decide +kernel)
set_option maxRecDepth 20000 in
theorem gX7_tick_X6_ahead : GoodIn wsX7_tick (wsV RX7 168 RX6 yX6_ahead wsX6_ahead) := goodIn_app (goodIn_of _ (by decide +kernel)) ggX7_tick_X6_ahead
theorem dX7_tick_0 : decode cX7_tick 0 = .ok (.iload_n 1, 1) := by decide +kernel
theorem dX7_tick_1 : decode cX7_tick 1 = .ok (.iconst 1, 1) := by decide +kernel
theorem dX7_tick_2 : decode cX7_tick 2 = .ok (.if_icmp .lt 9, 3) := by decide +kernel
theorem dX7_tick_5 : decode cX7_tick 5 = .ok (.iload_n 1, 1) := by decide +kernel
theorem dX7_tick_6 : decode cX7_tick 6 = .ok (.bipush 10, 2) := by decide +kernel
theorem dX7_tick_8 : decode cX7_tick 8 = .ok (.if_icmp .le 6, 3) := by decide +kernel
theorem dX7_tick_11 : decode cX7_tick 11 = .ok (.bipush (-2), 2) := by decide +kernel
theorem dX7_tick_13 : decode cX7_tick 13 = .ok (.ireturn, 1) := by decide +kernel
theorem dX7_tick_14 : decode cX7_tick 14 = .ok (.iconst 0, 1) := by decide +kernel
theorem dX7_tick_15 : decode cX7_tick 15 = .ok (.istore_n 2, 1) := by decide +kernel
theorem dX7_tick_16 : decode cX7_tick 16 = .ok (.iload_n 2, 1) := by decide +kernel
theorem dX7_tick_17 : decode cX7_tick 17 = .ok (.iload_n 1, 1) := by decide +kernel
theorem dX7_tick_18 : decode cX7_tick 18 = .ok (.if_icmp .ge 30, 3) := by decide +kernel
theorem dX7_tick_21 : decode cX7_tick 21 = .ok (.iconst 0, 1) := by decide +kernel
theorem dX7_tick_22 : decode cX7_tick 22 = .ok (.istore_n 3, 1) := by decide +kernel
theorem dX7_tick_23 : decode cX7_tick 23 = .ok (.iload_n 3, 1) := by decide +kernel
theorem dX7_tick_24 : decode cX7_tick 24 = .ok (.aload_n 0, 1) := by decide +kernel
theorem dX7_tick_25 : decode cX7_tick 25 = .ok (.getfield 53, 3) := by decide +kernel
theorem dX7_tick_28 : decode cX7_tick 28 = .ok (.if_icmp .ge 14, 3) := by decide +kernel
theorem dX7_tick_31 : decode cX7_tick 31 = .ok (.aload_n 0, 1) := by decide +kernel
theorem dX7_tick_32 : decode cX7_tick 32 = .ok (.iload_n 3, 1) := by decide +kernel
theorem dX7_tick_33 : decode cX7_tick 33 = .ok (.invokevirtual 171, 3) := by decide +kernel
theorem dX7_tick_36 : decode cX7_tick 36 = .ok (.iinc 3 1, 3) := by decide +kernel
theorem dX7_tick_39 : decode cX7_tick 39 = .ok (.goto (-16), 3) := by decide +kernel
theorem dX7_tick_42 : decode cX7_tick 42 = .ok (.iinc 2 1, 3) := by decide +kernel
theorem dX7_tick_45 : decode cX7_tick 45 = .ok (.goto (-29), 3) := by decide +kernel
theorem dX7_tick_48 : decode cX7_tick 48 = .ok (.aload_n 0, 1) := by decide +kernel
theorem dX7_tick_49 : decode cX7_tick 49 = .ok (.dup, 1) := by decide +kernel
theorem dX7_tick_50 : decode cX7_tick 50 = .ok (.getfield 175, 3) := by decide +kernel
theorem dX7_tick_53 : decode cX7_tick 53 = .ok (.iload_n 1, 1) := by decide +kernel
theorem dX7_tick_54 : decode cX7_tick 54 = .ok (.iadd, 1) := by decide +kernel
theorem dX7_tick_55 : decode cX7_tick 55 = .ok (.putfield 175, 3) := by decide +kernel
theorem dX7_tick_58 : decode cX7_tick 58 = .ok (.iconst 0, 1) := by decide +kernel
theorem dX7_tick_59 : decode cX7_tick 59 = .ok (.istore_n 2, 1) := by decide +kernel
theorem dX7_tick_60 : decode cX7_tick 60 = .ok (.iconst 0, 1) := by decide +kernel
theorem dX7_tick_61 : decode cX7_tick 61 = .ok (.istore_n 3, 1) := by decide +kernel
theorem dX7_tick_62 : decode cX7_tick 62 = .ok (.iload_n 3, 1) := by decide +kernel
theorem dX7_tick_63 : decode cX7_tick 63 = .ok (.aload_n 0, 1) := by decide +kernel
theorem dX7_tick_64 : decode cX7_tick 64 = .ok (.getfield 53, 3) := by decide +kernel
theorem dX7_tick_67 : decode cX7_tick 67 = .ok (.if_icmp .ge 24, 3) := by decide +kernel
theorem dX7_tick_70 : decode cX7_tick 70 = .ok (.aload_n 0, 1) := by decide +kernel
theorem dX7_tick_71 : decode cX7_tick 71 = .ok (.getfield 34, 3) := by decide +kernel
theorem dX7_tick_74 : decode cX7_tick 74 = .ok (.iload_n 3, 1) := by decide +kernel
theorem dX7_tick_75 : decode cX7_tick 75 = .ok (.aaload, 1) := by decide +kernel
theorem dX7_tick_76 : decode cX7_tick 76 = .ok (.invokevirtual 168, 3) := by decide +kernel
theorem dX7_tick_79 : decode cX7_tick 79 = .ok (.ifCond .le 6, 3) := by decide +kernel
theorem dX7_tick_82 : decode cX7_tick 82 = .ok (.iinc 2 1, 3) := by decide +kernel
theorem dX7_tick_85 : decode cX7_tick 85 = .ok (.iinc 3 1, 3) := by decide +kernel
theorem dX7_tick_88 : decode cX7_tick 88 = .ok (.goto (-26), 3) := by decide +kernel
theorem dX7_tick_91 : decode cX7_tick 91 = .ok (.iload_n 2, 1) := by decide +kernel
theorem dX7_tick_92 : decode cX7_tick 92 = .ok (.ireturn, 1) := by decide +kernel
set_option maxRecDepth 20000 in
theorem ggX7_may_X7_isPlace : GoodIn wsX7_may wsX7_isPlace := goodIn_r _ [5] (by decide +kernel) (by decide +kernel)
set_option maxRecDepth 20000 in
theorem gX7_may_X7_isPlace : GoodIn wsX7_may (va_wsS RX7 103 yX7_isPlace wsX7_isPlace) := goodIn_app (goodIn_of _ (by decide +kernel)) ggX7_may_X7_isPlace
set_option maxRecDepth 20000 in
theorem ggX7_may_X7_placeAt : GoodIn wsX7_may wsX7_placeAt := goodIn_r _ [8] (by decide +kernel) (by decide +kernel)
set_option maxRecDepth 20000 in
theorem gX7_may_X7_placeAt : GoodIn wsX7_may (va_wsS RX7 108 yX7_placeAt wsX7_placeAt) := goodIn_app (goodIn_of _ (by decide +kernel)) ggX7_may_X7_placeAt
set_option maxRecDepth 20000 in
theorem ggX7_may_X3_isGround : GoodIn wsX7_may wsX3_isGround := goodIn_r _ [13, 14, 15, 16, 17, 18, 19, 4, 20, 21, 22, 23, 24, 25, 26, 27, 28, 29, 30, 31, 32, 33, 34, 35, 36, 37, 38, 45, 46, 47, 48, 49, 50, 51, 52, 53, 54, 55, 56, 57, 58, 59, 60, 61] (by decide +kernel) (by decide +kernel)
set_option maxRecDepth 20000 in
theorem gX7_may_X3_isGround : GoodIn wsX7_may (wsV RX7 115 RX3 yX3_isGround wsX3_isGround) := goodIn_app (goodIn_of _ (by decide +kernel)) ggX7_may_X3_isGround
theorem dX7_may_0 : decode cX7_may 0 = .ok (.iload_n 1, 1) := by decide +kernel
theorem dX7_may_1 : decode cX7_may 1 = .ok (.iload_n 2, 1) := by decide +kernel
theorem dX7_may_2 : decode cX7_may 2 = .ok (.iload_n 3, 1) := by decide +kernel
theorem dX7_may_3 : decode cX7_may 3 = .ok (.invokestatic 103, 3) := by decide +kernel
theorem dX7_may_6 : decode cX7_may 6 = .ok (.ifCond .ne 6, 3) := by decide +kernel
theorem dX7_may_9 : decode cX7_may 9 = .ok (.bipush (-2), 2) := by decide +kernel
theorem dX7_may_11 : decode cX7_may 11 = .ok (.ireturn, 1) := by decide +kernel
theorem dX7_may_12 : decode cX7_may 12 = .ok (.aload_n 0, 1) := by decide +kernel
theorem dX7_may_13 : decode cX7_may 13 = .ok (.getfield 12, 3) := by decide +kernel
theorem dX7_may_16 : decode cX7_may 16 = .ok (.iload_n 1, 1) := by decide +kernel
theorem dX7_may_17 : decode cX7_may 17 = .ok (.iload_n 2, 1) := by decide +kernel
theorem dX7_may_18 : decode cX7_may 18 = .ok (.iload_n 3, 1) := by decide +kernel
theorem dX7_may_19 : decode cX7_may 19 = .ok (.invokestatic 108, 3) := by decide +kernel
theorem dX7_may_22 : decode cX7_may 22 = .ok (.invokevirtual 115, 3) := by decide +kernel
theorem dX7_may_25 : decode cX7_may 25 = .ok (.ifCond .eq 7, 3) := by decide +kernel
theorem dX7_may_28 : decode cX7_may 28 = .ok (.iconst 1, 1) := by decide +kernel
theorem dX7_may_29 : decode cX7_may 29 = .ok (.goto 4, 3) := by decide +kernel
theorem dX7_may_32 : decode cX7_may 32 = .ok (.iconst 0, 1) := by decide +kernel
theorem dX7_may_33 : decode cX7_may 33 = .ok (.ireturn, 1) := by decide +kernel
set_option maxRecDepth 20000 in
theorem ggX7_see_X7_isPlace : GoodIn wsX7_see wsX7_isPlace := goodIn_r _ [5] (by decide +kernel) (by decide +kernel)
set_option maxRecDepth 20000 in
theorem gX7_see_X7_isPlace : GoodIn wsX7_see (va_wsS RX7 103 yX7_isPlace wsX7_isPlace) := goodIn_app (goodIn_of _ (by decide +kernel)) ggX7_see_X7_isPlace
set_option maxRecDepth 20000 in
theorem ggX7_see_X7_placeAt : GoodIn wsX7_see wsX7_placeAt := goodIn_r _ [8] (by decide +kernel) (by decide +kernel)
set_option maxRecDepth 20000 in
theorem gX7_see_X7_placeAt : GoodIn wsX7_see (va_wsS RX7 108 yX7_placeAt wsX7_placeAt) := goodIn_app (goodIn_of _ (by decide +kernel)) ggX7_see_X7_placeAt
set_option maxRecDepth 20000 in
theorem ggX7_see_X3_judge : GoodIn wsX7_see wsX3_judge := goodIn_r _ [13, 14, 15, 4, 16, 17, 18, 19, 12, 20, 21, 22, 23, 24, 25, 26, 27, 28, 29, 30, 31, 32, 33, 34, 35, 36, 37, 38, 39, 40, 41, 42, 43, 44, 45, 46, 47, 48, 49, 50, 51, 52, 53, 54, 55, 56, 57, 58, 59, 60, 61, 62, 63, 64, 65, 66, 67, 68, 69, 70, 71, 72, 73, 74, 75, 76, 77, 78, 79, 80, 81, 82, 83, 84, 85, 86, 87, 88, 89, 90, 91, 92, 93, 94, 95, 96, 97, 98, 99, 100, 101, 102, 103, 104, 105, 106, 107, 108, 109, 110, 111, 112, 119, 120, 121, 122, 123, 124, 125, 126, 127, 128, 129, 130, 131, 132, 133, 134, 135, 136, 137, 138, 139, 140, 141, 142, 143, 144, 145] (by decide +kernel) (by decide +kernel)
set_option maxRecDepth 20000 in
theorem gX7_see_X3_judge : GoodIn wsX7_see (wsV RX7 119 RX3 yX3_judge wsX3_judge) := goodIn_app (goodIn_of _ (by decide +kernel)) ggX7_see_X3_judge
theorem dX7_see_0 : decode cX7_see 0 = .ok (.iload_n 1, 1) := by decide +kernel
theorem dX7_see_1 : decode cX7_see 1 = .ok (.iload_n 2, 1) := by decide +kernel
theorem dX7_see_2 : decode cX7_see 2 = .ok (.iload_n 3, 1) := by decide +kernel
theorem dX7_see_3 : decode cX7_see 3 = .ok (.invokestatic 103, 3) := by decide +kernel
theorem dX7_see_6 : decode cX7_see 6 = .ok (.ifCond .eq 14, 3) := by decide +kernel
theorem dX7_see_9 : decode cX7_see 9 = .ok (.iload_n 1, 1) := by decide +kernel
theorem dX7_see_10 : decode cX7_see 10 = .ok (.iload 4, 2) := by decide +kernel
theorem dX7_see_12 : decode cX7_see 12 = .ok (.iload 5, 2) := by decide +kernel
theorem dX7_see_14 : decode cX7_see 14 = .ok (.invokestatic 103, 3) := by decide +kernel
theorem dX7_see_17 : decode cX7_see 17 = .ok (.ifCond .ne 6, 3) := by decide +kernel
theorem dX7_see_20 : decode cX7_see 20 = .ok (.bipush (-2), 2) := by decide +kernel
theorem dX7_see_22 : decode cX7_see 22 = .ok (.ireturn, 1) := by decide +kernel
theorem dX7_see_23 : decode cX7_see 23 = .ok (.aload_n 0, 1) := by decide +kernel
theorem dX7_see_24 : decode cX7_see 24 = .ok (.getfield 12, 3) := by decide +kernel
theorem dX7_see_27 : decode cX7_see 27 = .ok (.iload_n 1, 1) := by decide +kernel
theorem dX7_see_28 : decode cX7_see 28 = .ok (.iload_n 2, 1) := by decide +kernel
theorem dX7_see_29 : decode cX7_see 29 = .ok (.iload_n 3, 1) := by decide +kernel
theorem dX7_see_30 : decode cX7_see 30 = .ok (.invokestatic 108, 3) := by decide +kernel
theorem dX7_see_33 : decode cX7_see 33 = .ok (.iload_n 1, 1) := by decide +kernel
theorem dX7_see_34 : decode cX7_see 34 = .ok (.iload 4, 2) := by decide +kernel
theorem dX7_see_36 : decode cX7_see 36 = .ok (.iload 5, 2) := by decide +kernel
theorem dX7_see_38 : decode cX7_see 38 = .ok (.invokestatic 108, 3) := by decide +kernel
theorem dX7_see_41 : decode cX7_see 41 = .ok (.invokevirtual 119, 3) := by decide +kernel
theorem dX7_see_44 : decode cX7_see 44 = .ok (.ireturn, 1) := by decide +kernel
set_option maxRecDepth 20000 in
theorem ggX7_bend_X7_coordinate : GoodIn wsX7_bend wsX7_coordinate := goodIn_r _ [7, 8, 9, 6, 10, 11, 12, 13, 14, 15, 16] (by decide +kernel) (by decide +kernel)
set_option maxRecDepth 20000 in
theorem gX7_bend_X7_coordinate : GoodIn wsX7_bend (va_wsS RX7 143 yX7_coordinate wsX7_coordinate) := goodIn_app (goodIn_of _ (by decide +kernel)) ggX7_bend_X7_coordinate
theorem dX7_bend_0 : decode cX7_bend 0 = .ok (.iload_n 1, 1) := by decide +kernel
theorem dX7_bend_1 : decode cX7_bend 1 = .ok (.ifCond .lt 12, 3) := by decide +kernel
theorem dX7_bend_4 : decode cX7_bend 4 = .ok (.iload_n 2, 1) := by decide +kernel
theorem dX7_bend_5 : decode cX7_bend 5 = .ok (.ifCond .lt 8, 3) := by decide +kernel
theorem dX7_bend_8 : decode cX7_bend 8 = .ok (.iload_n 2, 1) := by decide +kernel
theorem dX7_bend_9 : decode cX7_bend 9 = .ok (.iconst 2, 1) := by decide +kernel
theorem dX7_bend_10 : decode cX7_bend 10 = .ok (.if_icmp .le 6, 3) := by decide +kernel
theorem dX7_bend_13 : decode cX7_bend 13 = .ok (.bipush (-2), 2) := by decide +kernel
theorem dX7_bend_15 : decode cX7_bend 15 = .ok (.ireturn, 1) := by decide +kernel
theorem dX7_bend_16 : decode cX7_bend 16 = .ok (.iload_n 1, 1) := by decide +kernel
theorem dX7_bend_17 : decode cX7_bend 17 = .ok (.aload_n 0, 1) := by decide +kernel
theorem dX7_bend_18 : decode cX7_bend 18 = .ok (.getfield 28, 3) := by decide +kernel
theorem dX7_bend_21 : decode cX7_bend 21 = .ok (.getfield 138, 3) := by decide +kernel
theorem dX7_bend_24 : decode cX7_bend 24 = .ok (.if_icmp .lt 5, 3) := by decide +kernel
theorem dX7_bend_27 : decode cX7_bend 27 = .ok (.iconst (-1), 1) := by decide +kernel
theorem dX7_bend_28 : decode cX7_bend 28 = .ok (.ireturn, 1) := by decide +kernel
theorem dX7_bend_29 : decode cX7_bend 29 = .ok (.aload_n 0, 1) := by decide +kernel
theorem dX7_bend_30 : decode cX7_bend 30 = .ok (.getfield 28, 3) := by decide +kernel
theorem dX7_bend_33 : decode cX7_bend 33 = .ok (.getfield 139, 3) := by decide +kernel
theorem dX7_bend_36 : decode cX7_bend 36 = .ok (.iload_n 1, 1) := by decide +kernel
theorem dX7_bend_37 : decode cX7_bend 37 = .ok (.iaload, 1) := by decide +kernel
theorem dX7_bend_38 : decode cX7_bend 38 = .ok (.iload_n 2, 1) := by decide +kernel
theorem dX7_bend_39 : decode cX7_bend 39 = .ok (.invokestatic 143, 3) := by decide +kernel
theorem dX7_bend_42 : decode cX7_bend 42 = .ok (.ireturn, 1) := by decide +kernel
set_option maxRecDepth 20000 in
theorem ggX7_about_X6_ahead : GoodIn wsX7_about wsX6_ahead := goodIn_r _ [13, 14, 15, 16, 36, 37, 38, 39, 40, 41, 42, 43, 44, 45] (by decide +kernel) (by decide +kernel)
set_option maxRecDepth 20000 in
theorem gX7_about_X6_ahead : GoodIn wsX7_about (wsV RX7 168 RX6 yX6_ahead wsX6_ahead) := goodIn_app (goodIn_of _ (by decide +kernel)) ggX7_about_X6_ahead
set_option maxRecDepth 20000 in
theorem ggX7_about_X7_coordinate : GoodIn wsX7_about wsX7_coordinate := goodIn_r _ [20, 21, 22, 19, 23, 24, 25, 26, 27, 28, 29] (by decide +kernel) (by decide +kernel)
set_option maxRecDepth 20000 in
theorem gX7_about_X7_coordinate : GoodIn wsX7_about (va_wsS RX7 143 yX7_coordinate wsX7_coordinate) := goodIn_app (goodIn_of _ (by decide +kernel)) ggX7_about_X7_coordinate
theorem dX7_about_0 : decode cX7_about 0 = .ok (.iload_n 1, 1) := by decide +kernel
theorem dX7_about_1 : decode cX7_about 1 = .ok (.ifCond .lt 21, 3) := by decide +kernel
theorem dX7_about_4 : decode cX7_about 4 = .ok (.iload_n 1, 1) := by decide +kernel
theorem dX7_about_5 : decode cX7_about 5 = .ok (.aload_n 0, 1) := by decide +kernel
theorem dX7_about_6 : decode cX7_about 6 = .ok (.getfield 53, 3) := by decide +kernel
theorem dX7_about_9 : decode cX7_about 9 = .ok (.if_icmp .ge 13, 3) := by decide +kernel
theorem dX7_about_12 : decode cX7_about 12 = .ok (.iload_n 2, 1) := by decide +kernel
theorem dX7_about_13 : decode cX7_about 13 = .ok (.ifCond .lt 9, 3) := by decide +kernel
theorem dX7_about_16 : decode cX7_about 16 = .ok (.iload_n 2, 1) := by decide +kernel
theorem dX7_about_17 : decode cX7_about 17 = .ok (.bipush 9, 2) := by decide +kernel
theorem dX7_about_19 : decode cX7_about 19 = .ok (.if_icmp .lt 6, 3) := by decide +kernel
theorem dX7_about_22 : decode cX7_about 22 = .ok (.bipush (-2), 2) := by decide +kernel
theorem dX7_about_24 : decode cX7_about 24 = .ok (.ireturn, 1) := by decide +kernel
theorem dX7_about_25 : decode cX7_about 25 = .ok (.aload_n 0, 1) := by decide +kernel
theorem dX7_about_26 : decode cX7_about 26 = .ok (.getfield 34, 3) := by decide +kernel
theorem dX7_about_29 : decode cX7_about 29 = .ok (.iload_n 1, 1) := by decide +kernel
theorem dX7_about_30 : decode cX7_about 30 = .ok (.aaload, 1) := by decide +kernel
theorem dX7_about_31 : decode cX7_about 31 = .ok (.astore_n 3, 1) := by decide +kernel
theorem dX7_about_32 : decode cX7_about 32 = .ok (.iload_n 2, 1) := by decide +kernel
theorem dX7_about_33 : decode cX7_about 33 = .ok (.tableswitch 77 3 8 #[39, 44, 49, 62, 67, 72], 39) := by decide +kernel
theorem dX7_about_72 : decode cX7_about 72 = .ok (.aload_n 3, 1) := by decide +kernel
theorem dX7_about_73 : decode cX7_about 73 = .ok (.invokevirtual 168, 3) := by decide +kernel
theorem dX7_about_76 : decode cX7_about 76 = .ok (.ireturn, 1) := by decide +kernel
theorem dX7_about_77 : decode cX7_about 77 = .ok (.aload_n 3, 1) := by decide +kernel
theorem dX7_about_78 : decode cX7_about 78 = .ok (.getfield 178, 3) := by decide +kernel
theorem dX7_about_81 : decode cX7_about 81 = .ok (.ireturn, 1) := by decide +kernel
theorem dX7_about_82 : decode cX7_about 82 = .ok (.aload_n 3, 1) := by decide +kernel
theorem dX7_about_83 : decode cX7_about 83 = .ok (.getfield 156, 3) := by decide +kernel
theorem dX7_about_86 : decode cX7_about 86 = .ok (.ifCond .eq 7, 3) := by decide +kernel
theorem dX7_about_89 : decode cX7_about 89 = .ok (.iconst 1, 1) := by decide +kernel
theorem dX7_about_90 : decode cX7_about 90 = .ok (.goto 4, 3) := by decide +kernel
theorem dX7_about_93 : decode cX7_about 93 = .ok (.iconst 0, 1) := by decide +kernel
theorem dX7_about_94 : decode cX7_about 94 = .ok (.ireturn, 1) := by decide +kernel
theorem dX7_about_95 : decode cX7_about 95 = .ok (.aload_n 3, 1) := by decide +kernel
theorem dX7_about_96 : decode cX7_about 96 = .ok (.getfield 181, 3) := by decide +kernel
theorem dX7_about_99 : decode cX7_about 99 = .ok (.ireturn, 1) := by decide +kernel
theorem dX7_about_100 : decode cX7_about 100 = .ok (.aload_n 3, 1) := by decide +kernel
theorem dX7_about_101 : decode cX7_about 101 = .ok (.getfield 184, 3) := by decide +kernel
theorem dX7_about_104 : decode cX7_about 104 = .ok (.ireturn, 1) := by decide +kernel
theorem dX7_about_105 : decode cX7_about 105 = .ok (.aload_n 3, 1) := by decide +kernel
theorem dX7_about_106 : decode cX7_about 106 = .ok (.getfield 187, 3) := by decide +kernel
theorem dX7_about_109 : decode cX7_about 109 = .ok (.ireturn, 1) := by decide +kernel
theorem dX7_about_110 : decode cX7_about 110 = .ok (.aload_n 3, 1) := by decide +kernel
theorem dX7_about_111 : decode cX7_about 111 = .ok (.getfield 57, 3) := by decide +kernel
theorem dX7_about_114 : decode cX7_about 114 = .ok (.iload_n 2, 1) := by decide +kernel
theorem dX7_about_115 : decode cX7_about 115 = .ok (.invokestatic 143, 3) := by decide +kernel
theorem dX7_about_118 : decode cX7_about 118 = .ok (.ireturn, 1) := by decide +kernel
set_option maxRecDepth 20000 in
theorem ggX7_count_X1_countOn : GoodIn wsX7_count wsX1_countOn := goodIn_r _ [14, 15, 16, 32, 33, 34, 35, 36, 37, 38, 39] (by decide +kernel) (by decide +kernel)
set_option maxRecDepth 20000 in
theorem gX7_count_X1_countOn : GoodIn wsX7_count (wsV RX7 190 RX1 yX1_countOn wsX1_countOn) := goodIn_app (goodIn_of _ (by decide +kernel)) ggX7_count_X1_countOn
theorem dX7_count_0 : decode cX7_count 0 = .ok (.iload_n 1, 1) := by decide +kernel
theorem dX7_count_1 : decode cX7_count 1 = .ok (.tableswitch 120 0 7 #[47, 58, 69, 80, 91, 102, 110, 115], 47) := by decide +kernel
theorem dX7_count_48 : decode cX7_count 48 = .ok (.aload_n 0, 1) := by decide +kernel
theorem dX7_count_49 : decode cX7_count 49 = .ok (.getfield 12, 3) := by decide +kernel
theorem dX7_count_52 : decode cX7_count 52 = .ok (.getfield 43, 3) := by decide +kernel
theorem dX7_count_55 : decode cX7_count 55 = .ok (.getfield 93, 3) := by decide +kernel
theorem dX7_count_58 : decode cX7_count 58 = .ok (.ireturn, 1) := by decide +kernel
theorem dX7_count_59 : decode cX7_count 59 = .ok (.aload_n 0, 1) := by decide +kernel
theorem dX7_count_60 : decode cX7_count 60 = .ok (.getfield 12, 3) := by decide +kernel
theorem dX7_count_63 : decode cX7_count 63 = .ok (.getfield 70, 3) := by decide +kernel
theorem dX7_count_66 : decode cX7_count 66 = .ok (.invokevirtual 190, 3) := by decide +kernel
theorem dX7_count_69 : decode cX7_count 69 = .ok (.ireturn, 1) := by decide +kernel
theorem dX7_count_70 : decode cX7_count 70 = .ok (.aload_n 0, 1) := by decide +kernel
theorem dX7_count_71 : decode cX7_count 71 = .ok (.getfield 12, 3) := by decide +kernel
theorem dX7_count_74 : decode cX7_count 74 = .ok (.getfield 90, 3) := by decide +kernel
theorem dX7_count_77 : decode cX7_count 77 = .ok (.getfield 93, 3) := by decide +kernel
theorem dX7_count_80 : decode cX7_count 80 = .ok (.ireturn, 1) := by decide +kernel
theorem dX7_count_81 : decode cX7_count 81 = .ok (.aload_n 0, 1) := by decide +kernel
theorem dX7_count_82 : decode cX7_count 82 = .ok (.getfield 12, 3) := by decide +kernel
theorem dX7_count_85 : decode cX7_count 85 = .ok (.getfield 90, 3) := by decide +kernel
theorem dX7_count_88 : decode cX7_count 88 = .ok (.invokevirtual 190, 3) := by decide +kernel
theorem dX7_count_91 : decode cX7_count 91 = .ok (.ireturn, 1) := by decide +kernel
theorem dX7_count_92 : decode cX7_count 92 = .ok (.aload_n 0, 1) := by decide +kernel
theorem dX7_count_93 : decode cX7_count 93 = .ok (.getfield 12, 3) := by decide +kernel
theorem dX7_count_96 : decode cX7_count 96 = .ok (.getfield 100, 3) := by decide +kernel
theorem dX7_count_99 : decode cX7_count 99 = .ok (.getfield 93, 3) := by decide +kernel
theorem dX7_count_102 : decode cX7_count 102 = .ok (.ireturn, 1) := by decide +kernel
theorem dX7_count_103 : decode cX7_count 103 = .ok (.aload_n 0, 1) := by decide +kernel
theorem dX7_count_104 : decode cX7_count 104 = .ok (.getfield 12, 3) := by decide +kernel
theorem dX7_count_107 : decode cX7_count 107 = .ok (.getfield 193, 3) := by decide +kernel
theorem dX7_count_110 : decode cX7_count 110 = .ok (.ireturn, 1) := by decide +kernel
theorem dX7_count_111 : decode cX7_count 111 = .ok (.aload_n 0, 1) := by decide +kernel
theorem dX7_count_112 : decode cX7_count 112 = .ok (.getfield 53, 3) := by decide +kernel
theorem dX7_count_115 : decode cX7_count 115 = .ok (.ireturn, 1) := by decide +kernel
theorem dX7_count_116 : decode cX7_count 116 = .ok (.aload_n 0, 1) := by decide +kernel
theorem dX7_count_117 : decode cX7_count 117 = .ok (.getfield 175, 3) := by decide +kernel
theorem dX7_count_120 : decode cX7_count 120 = .ok (.ireturn, 1) := by decide +kernel
theorem dX7_count_121 : decode cX7_count 121 = .ok (.bipush (-2), 2) := by decide +kernel
theorem dX7_count_123 : decode cX7_count 123 = .ok (.ireturn, 1) := by decide +kernel
set_option maxRecDepth 20000 in
theorem ggX7_digest_X7_count : GoodIn wsX7_digest wsX7_count := goodIn_r _ [8, 9, 10, 11, 12, 13, 14, 15, 3, 16, 17, 18, 19, 20, 21, 22, 23, 55, 56, 57, 58, 59, 60, 61, 62, 63, 64, 65, 66, 67, 68, 69, 70, 71, 72, 73, 74, 75, 76, 77] (by decide +kernel) (by decide +kernel)
set_option maxRecDepth 20000 in
theorem gX7_digest_X7_count : GoodIn wsX7_digest (wsV RX7 200 RX7 yX7_count wsX7_count) := goodIn_app (goodIn_of _ (by decide +kernel)) ggX7_digest_X7_count
set_option maxRecDepth 20000 in
theorem ggX7_digest_X7_about : GoodIn wsX7_digest wsX7_about := goodIn_r _ [27, 3, 28, 29, 30, 31, 32, 33, 34, 35, 36, 37, 38, 39, 40, 41, 42, 43, 44, 7, 45, 46, 47, 48, 49, 50, 51, 52, 53, 54, 55, 56, 57, 58, 59, 60, 78, 79, 80, 81, 82, 83, 84, 85, 86, 87] (by decide +kernel) (by decide +kernel)
set_option maxRecDepth 20000 in
theorem gX7_digest_X7_about : GoodIn wsX7_digest (wsV RX7 203 RX7 yX7_about wsX7_about) := goodIn_app (goodIn_of _ (by decide +kernel)) ggX7_digest_X7_about
theorem dX7_digest_0 : decode cX7_digest 0 = .ok (.ldc2_w 196, 3) := by decide +kernel
theorem dX7_digest_3 : decode cX7_digest 3 = .ok (.lstore_n 1, 1) := by decide +kernel
theorem dX7_digest_4 : decode cX7_digest 4 = .ok (.iconst 0, 1) := by decide +kernel
theorem dX7_digest_5 : decode cX7_digest 5 = .ok (.istore_n 3, 1) := by decide +kernel
theorem dX7_digest_6 : decode cX7_digest 6 = .ok (.iload_n 3, 1) := by decide +kernel
theorem dX7_digest_7 : decode cX7_digest 7 = .ok (.bipush 8, 2) := by decide +kernel
theorem dX7_digest_9 : decode cX7_digest 9 = .ok (.if_icmp .ge 22, 3) := by decide +kernel
theorem dX7_digest_12 : decode cX7_digest 12 = .ok (.ldc2_w 198, 3) := by decide +kernel
theorem dX7_digest_15 : decode cX7_digest 15 = .ok (.lload_n 1, 1) := by decide +kernel
theorem dX7_digest_16 : decode cX7_digest 16 = .ok (.lmul, 1) := by decide +kernel
theorem dX7_digest_17 : decode cX7_digest 17 = .ok (.aload_n 0, 1) := by decide +kernel
theorem dX7_digest_18 : decode cX7_digest 18 = .ok (.iload_n 3, 1) := by decide +kernel
theorem dX7_digest_19 : decode cX7_digest 19 = .ok (.invokevirtual 200, 3) := by decide +kernel
theorem dX7_digest_22 : decode cX7_digest 22 = .ok (.i2l, 1) := by decide +kernel
theorem dX7_digest_23 : decode cX7_digest 23 = .ok (.ladd, 1) := by decide +kernel
theorem dX7_digest_24 : decode cX7_digest 24 = .ok (.lstore_n 1, 1) := by decide +kernel
theorem dX7_digest_25 : decode cX7_digest 25 = .ok (.iinc 3 1, 3) := by decide +kernel
theorem dX7_digest_28 : decode cX7_digest 28 = .ok (.goto (-22), 3) := by decide +kernel
theorem dX7_digest_31 : decode cX7_digest 31 = .ok (.iconst 0, 1) := by decide +kernel
theorem dX7_digest_32 : decode cX7_digest 32 = .ok (.istore_n 3, 1) := by decide +kernel
theorem dX7_digest_33 : decode cX7_digest 33 = .ok (.iload_n 3, 1) := by decide +kernel
theorem dX7_digest_34 : decode cX7_digest 34 = .ok (.aload_n 0, 1) := by decide +kernel
theorem dX7_digest_35 : decode cX7_digest 35 = .ok (.getfield 53, 3) := by decide +kernel
theorem dX7_digest_38 : decode cX7_digest 38 = .ok (.if_icmp .ge 40, 3) := by decide +kernel
theorem dX7_digest_41 : decode cX7_digest 41 = .ok (.iconst 0, 1) := by decide +kernel
theorem dX7_digest_42 : decode cX7_digest 42 = .ok (.istore 4, 2) := by decide +kernel
theorem dX7_digest_44 : decode cX7_digest 44 = .ok (.iload 4, 2) := by decide +kernel
theorem dX7_digest_46 : decode cX7_digest 46 = .ok (.bipush 9, 2) := by decide +kernel
theorem dX7_digest_48 : decode cX7_digest 48 = .ok (.if_icmp .ge 24, 3) := by decide +kernel
theorem dX7_digest_51 : decode cX7_digest 51 = .ok (.ldc2_w 198, 3) := by decide +kernel
theorem dX7_digest_54 : decode cX7_digest 54 = .ok (.lload_n 1, 1) := by decide +kernel
theorem dX7_digest_55 : decode cX7_digest 55 = .ok (.lmul, 1) := by decide +kernel
theorem dX7_digest_56 : decode cX7_digest 56 = .ok (.aload_n 0, 1) := by decide +kernel
theorem dX7_digest_57 : decode cX7_digest 57 = .ok (.iload_n 3, 1) := by decide +kernel
theorem dX7_digest_58 : decode cX7_digest 58 = .ok (.iload 4, 2) := by decide +kernel
theorem dX7_digest_60 : decode cX7_digest 60 = .ok (.invokevirtual 203, 3) := by decide +kernel
theorem dX7_digest_63 : decode cX7_digest 63 = .ok (.i2l, 1) := by decide +kernel
theorem dX7_digest_64 : decode cX7_digest 64 = .ok (.ladd, 1) := by decide +kernel
theorem dX7_digest_65 : decode cX7_digest 65 = .ok (.lstore_n 1, 1) := by decide +kernel
theorem dX7_digest_66 : decode cX7_digest 66 = .ok (.iinc 4 1, 3) := by decide +kernel
theorem dX7_digest_69 : decode cX7_digest 69 = .ok (.goto (-25), 3) := by decide +kernel
theorem dX7_digest_72 : decode cX7_digest 72 = .ok (.iinc 3 1, 3) := by decide +kernel
theorem dX7_digest_75 : decode cX7_digest 75 = .ok (.goto (-42), 3) := by decide +kernel
theorem dX7_digest_78 : decode cX7_digest 78 = .ok (.lload_n 1, 1) := by decide +kernel
theorem dX7_digest_79 : decode cX7_digest 79 = .ok (.lreturn, 1) := by decide +kernel
set_option maxRecDepth 20000 in
theorem ggX7_box_X7_isRectangle : GoodIn wsX7_box wsX7_isRectangle := goodIn_r _ [9, 10, 11, 8, 12] (by decide +kernel) (by decide +kernel)
set_option maxRecDepth 20000 in
theorem gX7_box_X7_isRectangle : GoodIn wsX7_box (va_wsS RX7 39 yX7_isRectangle wsX7_isRectangle) := goodIn_app (goodIn_of _ (by decide +kernel)) ggX7_box_X7_isRectangle
set_option maxRecDepth 20000 in
theorem ggX7_box_X7_xOf : GoodIn wsX7_box wsX7_xOf := goodIn_r _ [15] (by decide +kernel) (by decide +kernel)
set_option maxRecDepth 20000 in
theorem gX7_box_X7_xOf : GoodIn wsX7_box (va_wsS RX7 60 yX7_xOf wsX7_xOf) := goodIn_app (goodIn_of _ (by decide +kernel)) ggX7_box_X7_xOf
set_option maxRecDepth 20000 in
theorem ggX7_box_X7_yOf : GoodIn wsX7_box wsX7_yOf := goodIn_r _ [18] (by decide +kernel) (by decide +kernel)
set_option maxRecDepth 20000 in
theorem gX7_box_X7_yOf : GoodIn wsX7_box (va_wsS RX7 64 yX7_yOf wsX7_yOf) := goodIn_app (goodIn_of _ (by decide +kernel)) ggX7_box_X7_yOf
set_option maxRecDepth 20000 in
theorem ggX7_box_X7_levelOf : GoodIn wsX7_box wsX7_levelOf := goodIn_r _ [21] (by decide +kernel) (by decide +kernel)
set_option maxRecDepth 20000 in
theorem gX7_box_X7_levelOf : GoodIn wsX7_box (va_wsS RX7 67 yX7_levelOf wsX7_levelOf) := goodIn_app (goodIn_of _ (by decide +kernel)) ggX7_box_X7_levelOf
set_option maxRecDepth 20000 in
theorem ggX7_box_X1_putDown : GoodIn wsX7_box wsX1_putDown := goodIn_r _ [26, 27, 28, 29, 30, 31, 32, 33, 34, 35, 36, 37, 38, 39, 40, 41, 42, 43, 44, 45, 69, 70, 71, 72, 73, 74, 75, 76] (by decide +kernel) (by decide +kernel)
set_option maxRecDepth 20000 in
theorem gX7_box_X1_putDown : GoodIn wsX7_box (wsV RX7 73 RX1 yX1_putDown wsX1_putDown) := goodIn_app (goodIn_of _ (by decide +kernel)) ggX7_box_X1_putDown
theorem dX7_box_0 : decode cX7_box 0 = .ok (.iload_n 1, 1) := by decide +kernel
theorem dX7_box_1 : decode cX7_box 1 = .ok (.iload_n 2, 1) := by decide +kernel
theorem dX7_box_2 : decode cX7_box 2 = .ok (.iload_n 3, 1) := by decide +kernel
theorem dX7_box_3 : decode cX7_box 3 = .ok (.iload 4, 2) := by decide +kernel
theorem dX7_box_5 : decode cX7_box 5 = .ok (.iload 5, 2) := by decide +kernel
theorem dX7_box_7 : decode cX7_box 7 = .ok (.invokestatic 39, 3) := by decide +kernel
theorem dX7_box_10 : decode cX7_box 10 = .ok (.ifCond .ne 6, 3) := by decide +kernel
theorem dX7_box_13 : decode cX7_box 13 = .ok (.bipush (-2), 2) := by decide +kernel
theorem dX7_box_15 : decode cX7_box 15 = .ok (.ireturn, 1) := by decide +kernel
theorem dX7_box_16 : decode cX7_box 16 = .ok (.iconst 0, 1) := by decide +kernel
theorem dX7_box_17 : decode cX7_box 17 = .ok (.istore 6, 2) := by decide +kernel
theorem dX7_box_19 : decode cX7_box 19 = .ok (.iload 6, 2) := by decide +kernel
theorem dX7_box_21 : decode cX7_box 21 = .ok (.aload_n 0, 1) := by decide +kernel
theorem dX7_box_22 : decode cX7_box 22 = .ok (.getfield 53, 3) := by decide +kernel
theorem dX7_box_25 : decode cX7_box 25 = .ok (.if_icmp .ge 83, 3) := by decide +kernel
theorem dX7_box_28 : decode cX7_box 28 = .ok (.aload_n 0, 1) := by decide +kernel
theorem dX7_box_29 : decode cX7_box 29 = .ok (.getfield 34, 3) := by decide +kernel
theorem dX7_box_32 : decode cX7_box 32 = .ok (.iload 6, 2) := by decide +kernel
theorem dX7_box_34 : decode cX7_box 34 = .ok (.aaload, 1) := by decide +kernel
theorem dX7_box_35 : decode cX7_box 35 = .ok (.getfield 57, 3) := by decide +kernel
theorem dX7_box_38 : decode cX7_box 38 = .ok (.istore 7, 2) := by decide +kernel
theorem dX7_box_40 : decode cX7_box 40 = .ok (.iload_n 2, 1) := by decide +kernel
theorem dX7_box_41 : decode cX7_box 41 = .ok (.iload 7, 2) := by decide +kernel
theorem dX7_box_43 : decode cX7_box 43 = .ok (.invokestatic 60, 3) := by decide +kernel
theorem dX7_box_46 : decode cX7_box 46 = .ok (.if_icmp .ge 36, 3) := by decide +kernel
theorem dX7_box_49 : decode cX7_box 49 = .ok (.iload 7, 2) := by decide +kernel
theorem dX7_box_51 : decode cX7_box 51 = .ok (.invokestatic 60, 3) := by decide +kernel
theorem dX7_box_54 : decode cX7_box 54 = .ok (.iload 4, 2) := by decide +kernel
theorem dX7_box_56 : decode cX7_box 56 = .ok (.if_icmp .ge 26, 3) := by decide +kernel
theorem dX7_box_59 : decode cX7_box 59 = .ok (.iload_n 3, 1) := by decide +kernel
theorem dX7_box_60 : decode cX7_box 60 = .ok (.iload 7, 2) := by decide +kernel
theorem dX7_box_62 : decode cX7_box 62 = .ok (.invokestatic 64, 3) := by decide +kernel
theorem dX7_box_65 : decode cX7_box 65 = .ok (.if_icmp .ge 17, 3) := by decide +kernel
theorem dX7_box_68 : decode cX7_box 68 = .ok (.iload 7, 2) := by decide +kernel
theorem dX7_box_70 : decode cX7_box 70 = .ok (.invokestatic 64, 3) := by decide +kernel
theorem dX7_box_73 : decode cX7_box 73 = .ok (.iload 5, 2) := by decide +kernel
theorem dX7_box_75 : decode cX7_box 75 = .ok (.if_icmp .ge 7, 3) := by decide +kernel
theorem dX7_box_78 : decode cX7_box 78 = .ok (.iconst 1, 1) := by decide +kernel
theorem dX7_box_79 : decode cX7_box 79 = .ok (.goto 4, 3) := by decide +kernel
theorem dX7_box_82 : decode cX7_box 82 = .ok (.iconst 0, 1) := by decide +kernel
theorem dX7_box_83 : decode cX7_box 83 = .ok (.istore 8, 2) := by decide +kernel
theorem dX7_box_85 : decode cX7_box 85 = .ok (.iload 8, 2) := by decide +kernel
theorem dX7_box_87 : decode cX7_box 87 = .ok (.ifCond .eq 15, 3) := by decide +kernel
theorem dX7_box_90 : decode cX7_box 90 = .ok (.iload 7, 2) := by decide +kernel
theorem dX7_box_92 : decode cX7_box 92 = .ok (.invokestatic 67, 3) := by decide +kernel
theorem dX7_box_95 : decode cX7_box 95 = .ok (.iload_n 1, 1) := by decide +kernel
theorem dX7_box_96 : decode cX7_box 96 = .ok (.if_icmp .ne 6, 3) := by decide +kernel
theorem dX7_box_99 : decode cX7_box 99 = .ok (.bipush (-3), 2) := by decide +kernel
theorem dX7_box_101 : decode cX7_box 101 = .ok (.ireturn, 1) := by decide +kernel
theorem dX7_box_102 : decode cX7_box 102 = .ok (.iinc 6 1, 3) := by decide +kernel
theorem dX7_box_105 : decode cX7_box 105 = .ok (.goto (-86), 3) := by decide +kernel
theorem dX7_box_108 : decode cX7_box 108 = .ok (.aload_n 0, 1) := by decide +kernel
theorem dX7_box_109 : decode cX7_box 109 = .ok (.getfield 12, 3) := by decide +kernel
theorem dX7_box_112 : decode cX7_box 112 = .ok (.getfield 70, 3) := by decide +kernel
theorem dX7_box_115 : decode cX7_box 115 = .ok (.iload_n 1, 1) := by decide +kernel
theorem dX7_box_116 : decode cX7_box 116 = .ok (.iload_n 2, 1) := by decide +kernel
theorem dX7_box_117 : decode cX7_box 117 = .ok (.iload_n 3, 1) := by decide +kernel
theorem dX7_box_118 : decode cX7_box 118 = .ok (.iload 4, 2) := by decide +kernel
theorem dX7_box_120 : decode cX7_box 120 = .ok (.iload 5, 2) := by decide +kernel
theorem dX7_box_122 : decode cX7_box 122 = .ok (.invokevirtual 73, 3) := by decide +kernel
theorem dX7_box_125 : decode cX7_box 125 = .ok (.ireturn, 1) := by decide +kernel
theorem dX7_take_0 : decode cX7_take 0 = .ok (.iload_n 1, 1) := by decide +kernel
theorem dX7_take_1 : decode cX7_take 1 = .ok (.ifCond .lt 9, 3) := by decide +kernel
theorem dX7_take_4 : decode cX7_take 4 = .ok (.iload_n 1, 1) := by decide +kernel
theorem dX7_take_5 : decode cX7_take 5 = .ok (.bipush 8, 2) := by decide +kernel
theorem dX7_take_7 : decode cX7_take 7 = .ok (.if_icmp .lt 6, 3) := by decide +kernel
theorem dX7_take_10 : decode cX7_take 10 = .ok (.bipush (-2), 2) := by decide +kernel
theorem dX7_take_12 : decode cX7_take 12 = .ok (.ireturn, 1) := by decide +kernel
theorem dX7_take_13 : decode cX7_take 13 = .ok (.aload_n 0, 1) := by decide +kernel
theorem dX7_take_14 : decode cX7_take 14 = .ok (.getfield 12, 3) := by decide +kernel
theorem dX7_take_17 : decode cX7_take 17 = .ok (.getfield 70, 3) := by decide +kernel
theorem dX7_take_20 : decode cX7_take 20 = .ok (.getfield 77, 3) := by decide +kernel
theorem dX7_take_23 : decode cX7_take 23 = .ok (.iload_n 1, 1) := by decide +kernel
theorem dX7_take_24 : decode cX7_take 24 = .ok (.aaload, 1) := by decide +kernel
theorem dX7_take_25 : decode cX7_take 25 = .ok (.astore_n 2, 1) := by decide +kernel
theorem dX7_take_26 : decode cX7_take 26 = .ok (.aload_n 2, 1) := by decide +kernel
theorem dX7_take_27 : decode cX7_take 27 = .ok (.getfield 81, 3) := by decide +kernel
theorem dX7_take_30 : decode cX7_take 30 = .ok (.ifCond .ne 6, 3) := by decide +kernel
theorem dX7_take_33 : decode cX7_take 33 = .ok (.bipush (-3), 2) := by decide +kernel
theorem dX7_take_35 : decode cX7_take 35 = .ok (.ireturn, 1) := by decide +kernel
theorem dX7_take_36 : decode cX7_take 36 = .ok (.aload_n 2, 1) := by decide +kernel
theorem dX7_take_37 : decode cX7_take 37 = .ok (.iconst 0, 1) := by decide +kernel
theorem dX7_take_38 : decode cX7_take 38 = .ok (.putfield 81, 3) := by decide +kernel
theorem dX7_take_41 : decode cX7_take 41 = .ok (.iconst 1, 1) := by decide +kernel
theorem dX7_take_42 : decode cX7_take 42 = .ok (.ireturn, 1) := by decide +kernel
set_option maxRecDepth 20000 in
theorem ggX7_shut_X7_anyStandsOn : GoodIn wsX7_shut wsX7_anyStandsOn := goodIn_r _ [10, 11, 12, 13, 14, 15, 9, 16, 17, 18, 19, 20, 21, 22, 23, 24, 25, 26, 27, 28, 29, 30, 31, 32, 33, 34, 35, 36, 37, 38, 56, 57, 58, 59, 60, 61, 62, 63, 50, 51, 52, 53, 54, 55] (by decide +kernel) (by decide +kernel)
set_option maxRecDepth 20000 in
theorem gX7_shut_X7_anyStandsOn : GoodIn wsX7_shut (wsV RX7 96 RX7 yX7_anyStandsOn wsX7_anyStandsOn) := goodIn_app (goodIn_of _ (by decide +kernel)) ggX7_shut_X7_anyStandsOn
theorem dX7_shut_0 : decode cX7_shut 0 = .ok (.iload_n 1, 1) := by decide +kernel
theorem dX7_shut_1 : decode cX7_shut 1 = .ok (.ifCond .lt 17, 3) := by decide +kernel
theorem dX7_shut_4 : decode cX7_shut 4 = .ok (.iload_n 1, 1) := by decide +kernel
theorem dX7_shut_5 : decode cX7_shut 5 = .ok (.aload_n 0, 1) := by decide +kernel
theorem dX7_shut_6 : decode cX7_shut 6 = .ok (.getfield 12, 3) := by decide +kernel
theorem dX7_shut_9 : decode cX7_shut 9 = .ok (.getfield 90, 3) := by decide +kernel
theorem dX7_shut_12 : decode cX7_shut 12 = .ok (.getfield 93, 3) := by decide +kernel
theorem dX7_shut_15 : decode cX7_shut 15 = .ok (.if_icmp .lt 6, 3) := by decide +kernel
theorem dX7_shut_18 : decode cX7_shut 18 = .ok (.bipush (-2), 2) := by decide +kernel
theorem dX7_shut_20 : decode cX7_shut 20 = .ok (.ireturn, 1) := by decide +kernel
theorem dX7_shut_21 : decode cX7_shut 21 = .ok (.aload_n 0, 1) := by decide +kernel
theorem dX7_shut_22 : decode cX7_shut 22 = .ok (.getfield 12, 3) := by decide +kernel
theorem dX7_shut_25 : decode cX7_shut 25 = .ok (.getfield 90, 3) := by decide +kernel
theorem dX7_shut_28 : decode cX7_shut 28 = .ok (.getfield 77, 3) := by decide +kernel
theorem dX7_shut_31 : decode cX7_shut 31 = .ok (.iload_n 1, 1) := by decide +kernel
theorem dX7_shut_32 : decode cX7_shut 32 = .ok (.aaload, 1) := by decide +kernel
theorem dX7_shut_33 : decode cX7_shut 33 = .ok (.astore_n 3, 1) := by decide +kernel
theorem dX7_shut_34 : decode cX7_shut 34 = .ok (.aload_n 3, 1) := by decide +kernel
theorem dX7_shut_35 : decode cX7_shut 35 = .ok (.getfield 81, 3) := by decide +kernel
theorem dX7_shut_38 : decode cX7_shut 38 = .ok (.iload_n 2, 1) := by decide +kernel
theorem dX7_shut_39 : decode cX7_shut 39 = .ok (.if_icmp .eq 15, 3) := by decide +kernel
theorem dX7_shut_42 : decode cX7_shut 42 = .ok (.iload_n 2, 1) := by decide +kernel
theorem dX7_shut_43 : decode cX7_shut 43 = .ok (.ifCond .eq 14, 3) := by decide +kernel
theorem dX7_shut_46 : decode cX7_shut 46 = .ok (.aload_n 0, 1) := by decide +kernel
theorem dX7_shut_47 : decode cX7_shut 47 = .ok (.aload_n 3, 1) := by decide +kernel
theorem dX7_shut_48 : decode cX7_shut 48 = .ok (.invokevirtual 96, 3) := by decide +kernel
theorem dX7_shut_51 : decode cX7_shut 51 = .ok (.ifCond .eq 6, 3) := by decide +kernel
theorem dX7_shut_54 : decode cX7_shut 54 = .ok (.bipush (-3), 2) := by decide +kernel
theorem dX7_shut_56 : decode cX7_shut 56 = .ok (.ireturn, 1) := by decide +kernel
theorem dX7_shut_57 : decode cX7_shut 57 = .ok (.aload_n 3, 1) := by decide +kernel
theorem dX7_shut_58 : decode cX7_shut 58 = .ok (.iload_n 2, 1) := by decide +kernel
theorem dX7_shut_59 : decode cX7_shut 59 = .ok (.putfield 81, 3) := by decide +kernel
theorem dX7_shut_62 : decode cX7_shut 62 = .ok (.iconst 1, 1) := by decide +kernel
theorem dX7_shut_63 : decode cX7_shut 63 = .ok (.ireturn, 1) := by decide +kernel
set_option maxRecDepth 20000 in
theorem ggX7_walker_X7_isPlace : GoodIn wsX7_walker wsX7_isPlace := goodIn_r _ [8] (by decide +kernel) (by decide +kernel)
set_option maxRecDepth 20000 in
theorem gX7_walker_X7_isPlace : GoodIn wsX7_walker (va_wsS RX7 103 yX7_isPlace wsX7_isPlace) := goodIn_app (goodIn_of _ (by decide +kernel)) ggX7_walker_X7_isPlace
set_option maxRecDepth 20000 in
theorem ggX7_walker_X7_placeAt : GoodIn wsX7_walker wsX7_placeAt := goodIn_r _ [11] (by decide +kernel) (by decide +kernel)
set_option maxRecDepth 20000 in
theorem gX7_walker_X7_placeAt : GoodIn wsX7_walker (va_wsS RX7 108 yX7_placeAt wsX7_placeAt) := goodIn_app (goodIn_of _ (by decide +kernel)) ggX7_walker_X7_placeAt
set_option maxRecDepth 20000 in
theorem ggX7_walker_X3_isGround : GoodIn wsX7_walker wsX3_isGround := goodIn_r _ [16, 17, 18, 19, 20, 21, 22, 7, 23, 24, 25, 26, 27, 28, 29, 30, 31, 32, 33, 34, 35, 36, 37, 38, 39, 40, 41, 65, 66, 67, 68, 69, 70, 71, 72, 73, 74, 75, 76, 77, 78, 79, 80, 81] (by decide +kernel) (by decide +kernel)
set_option maxRecDepth 20000 in
theorem gX7_walker_X3_isGround : GoodIn wsX7_walker (wsV RX7 115 RX3 yX3_isGround wsX3_isGround) := goodIn_app (goodIn_of _ (by decide +kernel)) ggX7_walker_X3_isGround
set_option maxRecDepth 20000 in
theorem ggX7_walker_X3_isOnShutDoor : GoodIn wsX7_walker wsX3_isOnShutDoor := goodIn_r _ [45, 46, 21, 18, 19, 22, 7, 23, 24, 25, 26, 27, 38, 39, 40, 31, 41, 33, 34, 35, 36, 37, 65, 66, 67, 68, 69, 70, 71, 72, 73, 74, 75, 76, 77, 78, 79, 80, 81] (by decide +kernel) (by decide +kernel)
set_option maxRecDepth 20000 in
theorem gX7_walker_X3_isOnShutDoor : GoodIn wsX7_walker (wsV RX7 149 RX3 yX3_isOnShutDoor wsX3_isOnShutDoor) := goodIn_app (goodIn_of _ (by decide +kernel)) ggX7_walker_X3_isOnShutDoor
set_option maxRecDepth 20000 in
theorem ggX7_walker_X7_isTaken : GoodIn wsX7_walker wsX7_isTaken := goodIn_r _ [50, 2, 3, 4, 51, 52, 53, 54, 55, 56, 57, 58, 59, 60, 61, 62, 63, 64] (by decide +kernel) (by decide +kernel)
set_option maxRecDepth 20000 in
theorem gX7_walker_X7_isTaken : GoodIn wsX7_walker (wsV RX7 152 RX7 yX7_isTaken wsX7_isTaken) := goodIn_app (goodIn_of _ (by decide +kernel)) ggX7_walker_X7_isTaken
theorem dX7_walker_0 : decode cX7_walker 0 = .ok (.iload_n 1, 1) := by decide +kernel
theorem dX7_walker_1 : decode cX7_walker 1 = .ok (.iload_n 2, 1) := by decide +kernel
theorem dX7_walker_2 : decode cX7_walker 2 = .ok (.iload_n 3, 1) := by decide +kernel
theorem dX7_walker_3 : decode cX7_walker 3 = .ok (.invokestatic 103, 3) := by decide +kernel
theorem dX7_walker_6 : decode cX7_walker 6 = .ok (.ifCond .ne 6, 3) := by decide +kernel
theorem dX7_walker_9 : decode cX7_walker 9 = .ok (.bipush (-2), 2) := by decide +kernel
theorem dX7_walker_11 : decode cX7_walker 11 = .ok (.ireturn, 1) := by decide +kernel
theorem dX7_walker_12 : decode cX7_walker 12 = .ok (.iload_n 1, 1) := by decide +kernel
theorem dX7_walker_13 : decode cX7_walker 13 = .ok (.iload_n 2, 1) := by decide +kernel
theorem dX7_walker_14 : decode cX7_walker 14 = .ok (.iload_n 3, 1) := by decide +kernel
theorem dX7_walker_15 : decode cX7_walker 15 = .ok (.invokestatic 108, 3) := by decide +kernel
theorem dX7_walker_18 : decode cX7_walker 18 = .ok (.istore 4, 2) := by decide +kernel
theorem dX7_walker_20 : decode cX7_walker 20 = .ok (.aload_n 0, 1) := by decide +kernel
theorem dX7_walker_21 : decode cX7_walker 21 = .ok (.getfield 12, 3) := by decide +kernel
theorem dX7_walker_24 : decode cX7_walker 24 = .ok (.iload 4, 2) := by decide +kernel
theorem dX7_walker_26 : decode cX7_walker 26 = .ok (.invokevirtual 115, 3) := by decide +kernel
theorem dX7_walker_29 : decode cX7_walker 29 = .ok (.ifCond .eq 25, 3) := by decide +kernel
theorem dX7_walker_32 : decode cX7_walker 32 = .ok (.aload_n 0, 1) := by decide +kernel
theorem dX7_walker_33 : decode cX7_walker 33 = .ok (.getfield 12, 3) := by decide +kernel
theorem dX7_walker_36 : decode cX7_walker 36 = .ok (.iload 4, 2) := by decide +kernel
theorem dX7_walker_38 : decode cX7_walker 38 = .ok (.invokevirtual 149, 3) := by decide +kernel
theorem dX7_walker_41 : decode cX7_walker 41 = .ok (.ifCond .ne 13, 3) := by decide +kernel
theorem dX7_walker_44 : decode cX7_walker 44 = .ok (.aload_n 0, 1) := by decide +kernel
theorem dX7_walker_45 : decode cX7_walker 45 = .ok (.iload 4, 2) := by decide +kernel
theorem dX7_walker_47 : decode cX7_walker 47 = .ok (.iconst (-1), 1) := by decide +kernel
theorem dX7_walker_48 : decode cX7_walker 48 = .ok (.invokevirtual 152, 3) := by decide +kernel
theorem dX7_walker_51 : decode cX7_walker 51 = .ok (.ifCond .eq 6, 3) := by decide +kernel
theorem dX7_walker_54 : decode cX7_walker 54 = .ok (.bipush (-3), 2) := by decide +kernel
theorem dX7_walker_56 : decode cX7_walker 56 = .ok (.ireturn, 1) := by decide +kernel
theorem dX7_walker_57 : decode cX7_walker 57 = .ok (.aload_n 0, 1) := by decide +kernel
theorem dX7_walker_58 : decode cX7_walker 58 = .ok (.getfield 53, 3) := by decide +kernel
theorem dX7_walker_61 : decode cX7_walker 61 = .ok (.bipush 6, 2) := by decide +kernel
theorem dX7_walker_63 : decode cX7_walker 63 = .ok (.if_icmp .lt 6, 3) := by decide +kernel
theorem dX7_walker_66 : decode cX7_walker 66 = .ok (.bipush (-4), 2) := by decide +kernel
theorem dX7_walker_68 : decode cX7_walker 68 = .ok (.ireturn, 1) := by decide +kernel
theorem dX7_walker_69 : decode cX7_walker 69 = .ok (.aload_n 0, 1) := by decide +kernel
theorem dX7_walker_70 : decode cX7_walker 70 = .ok (.getfield 34, 3) := by decide +kernel
theorem dX7_walker_73 : decode cX7_walker 73 = .ok (.aload_n 0, 1) := by decide +kernel
theorem dX7_walker_74 : decode cX7_walker 74 = .ok (.getfield 53, 3) := by decide +kernel
theorem dX7_walker_77 : decode cX7_walker 77 = .ok (.aaload, 1) := by decide +kernel
theorem dX7_walker_78 : decode cX7_walker 78 = .ok (.iload 4, 2) := by decide +kernel
theorem dX7_walker_80 : decode cX7_walker 80 = .ok (.putfield 57, 3) := by decide +kernel
theorem dX7_walker_83 : decode cX7_walker 83 = .ok (.aload_n 0, 1) := by decide +kernel
theorem dX7_walker_84 : decode cX7_walker 84 = .ok (.dup, 1) := by decide +kernel
theorem dX7_walker_85 : decode cX7_walker 85 = .ok (.getfield 53, 3) := by decide +kernel
theorem dX7_walker_88 : decode cX7_walker 88 = .ok (.iconst 1, 1) := by decide +kernel
theorem dX7_walker_89 : decode cX7_walker 89 = .ok (.iadd, 1) := by decide +kernel
theorem dX7_walker_90 : decode cX7_walker 90 = .ok (.putfield 53, 3) := by decide +kernel
theorem dX7_walker_93 : decode cX7_walker 93 = .ok (.aload_n 0, 1) := by decide +kernel
theorem dX7_walker_94 : decode cX7_walker 94 = .ok (.getfield 53, 3) := by decide +kernel
theorem dX7_walker_97 : decode cX7_walker 97 = .ok (.iconst 1, 1) := by decide +kernel
theorem dX7_walker_98 : decode cX7_walker 98 = .ok (.isub, 1) := by decide +kernel
theorem dX7_walker_99 : decode cX7_walker 99 = .ok (.ireturn, 1) := by decide +kernel
set_option maxRecDepth 20000 in
theorem ggX7_reach_X7_isPlace : GoodIn wsX7_reach wsX7_isPlace := goodIn_r _ [6] (by decide +kernel) (by decide +kernel)
set_option maxRecDepth 20000 in
theorem gX7_reach_X7_isPlace : GoodIn wsX7_reach (va_wsS RX7 103 yX7_isPlace wsX7_isPlace) := goodIn_app (goodIn_of _ (by decide +kernel)) ggX7_reach_X7_isPlace
set_option maxRecDepth 20000 in
theorem ggX7_reach_X7_placeAt : GoodIn wsX7_reach wsX7_placeAt := goodIn_r _ [9] (by decide +kernel) (by decide +kernel)
set_option maxRecDepth 20000 in
theorem gX7_reach_X7_placeAt : GoodIn wsX7_reach (va_wsS RX7 108 yX7_placeAt wsX7_placeAt) := goodIn_app (goodIn_of _ (by decide +kernel)) ggX7_reach_X7_placeAt
set_option maxRecDepth 20000 in
theorem ggX7_reach_X3_isGround : GoodIn wsX7_reach wsX3_isGround := goodIn_r _ [14, 15, 16, 17, 18, 19, 20, 5, 21, 22, 23, 24, 25, 26, 27, 28, 29, 30, 31, 32, 33, 34, 35, 36, 37, 38, 39, 183, 184, 185, 186, 187, 188, 189, 190, 191, 192, 193, 194, 195, 196, 197, 198, 199] (by decide +kernel) (by decide +kernel)
set_option maxRecDepth 20000 in
theorem gX7_reach_X3_isGround : GoodIn wsX7_reach (wsV RX7 115 RX3 yX3_isGround wsX3_isGround) := goodIn_app (goodIn_of _ (by decide +kernel)) ggX7_reach_X3_isGround
set_option maxRecDepth 20000 in
theorem ggX7_reach_X2_avoidNothing : GoodIn wsX7_reach wsX2_avoidNothing := goodIn_r _ [44, 45, 200, 201, 202, 203, 204, 205, 206, 207, 208] (by decide +kernel) (by decide +kernel)
set_option maxRecDepth 20000 in
theorem gX7_reach_X2_avoidNothing : GoodIn wsX7_reach (wsV RX7 123 RX2 yX2_avoidNothing wsX2_avoidNothing) := goodIn_app (goodIn_of _ (by decide +kernel)) ggX7_reach_X2_avoidNothing
set_option maxRecDepth 20000 in
theorem ggX7_reach_X2_explore : GoodIn wsX7_reach wsX2_explore := goodIn_r _ [49, 50, 51, 52, 53, 54, 55, 43, 56, 57, 58, 59, 60, 61, 62, 63, 64, 65, 66, 67, 68, 69, 70, 71, 72, 73, 74, 75, 29, 76, 31, 33, 32, 35, 34, 8, 5, 9, 77, 78, 79, 80, 45, 81, 82, 11, 12, 13, 14, 15, 16, 17, 18, 19, 20, 21, 22, 23, 24, 25, 26, 27, 28, 30, 36, 37, 38, 39, 83, 84, 85, 86, 87, 88, 89, 90, 91, 92, 93, 94, 95, 96, 97, 98, 99, 100, 101, 102, 103, 104, 105, 106, 107, 108, 109, 110, 111, 112, 113, 114, 115, 116, 117, 118, 119, 120, 121, 122, 123, 124, 125, 126, 127, 128, 129, 130, 131, 132, 133, 134, 135, 136, 137, 138, 139, 140, 141, 142, 143, 144, 145, 146, 147, 148, 149, 150, 151, 152, 153, 154, 155, 156, 157, 158, 159, 160, 161, 162, 163, 164, 165, 166, 167, 168, 169, 170, 171, 172, 200, 201, 202, 203, 204, 205, 206, 207, 208, 183, 184, 185, 186, 187, 188, 189, 190, 191, 192, 193, 194, 195, 196, 197, 198, 199, 209, 210, 211, 212, 213, 214, 215, 216, 217, 218] (by decide +kernel) (by decide +kernel)
set_option maxRecDepth 20000 in
theorem gX7_reach_X2_explore : GoodIn wsX7_reach (wsV RX7 126 RX2 yX2_explore wsX2_explore) := goodIn_app (goodIn_of _ (by decide +kernel)) ggX7_reach_X2_explore
set_option maxRecDepth 20000 in
theorem ggX7_reach_X2_countRoomCorners : GoodIn wsX7_reach wsX2_countRoomCorners := goodIn_r _ [176, 61, 50, 200, 201, 202, 203, 204, 205, 206, 207, 208] (by decide +kernel) (by decide +kernel)
set_option maxRecDepth 20000 in
theorem gX7_reach_X2_countRoomCorners : GoodIn wsX7_reach (wsV RX7 146 RX2 yX2_countRoomCorners wsX2_countRoomCorners) := goodIn_app (goodIn_of _ (by decide +kernel)) ggX7_reach_X2_countRoomCorners
theorem dX7_reach_0 : decode cX7_reach 0 = .ok (.iload_n 1, 1) := by decide +kernel
theorem dX7_reach_1 : decode cX7_reach 1 = .ok (.iload_n 2, 1) := by decide +kernel
theorem dX7_reach_2 : decode cX7_reach 2 = .ok (.iload_n 3, 1) := by decide +kernel
theorem dX7_reach_3 : decode cX7_reach 3 = .ok (.invokestatic 103, 3) := by decide +kernel
theorem dX7_reach_6 : decode cX7_reach 6 = .ok (.ifCond .ne 6, 3) := by decide +kernel
theorem dX7_reach_9 : decode cX7_reach 9 = .ok (.bipush (-2), 2) := by decide +kernel
theorem dX7_reach_11 : decode cX7_reach 11 = .ok (.ireturn, 1) := by decide +kernel
theorem dX7_reach_12 : decode cX7_reach 12 = .ok (.iload_n 1, 1) := by decide +kernel
theorem dX7_reach_13 : decode cX7_reach 13 = .ok (.iload_n 2, 1) := by decide +kernel
theorem dX7_reach_14 : decode cX7_reach 14 = .ok (.iload_n 3, 1) := by decide +kernel
theorem dX7_reach_15 : decode cX7_reach 15 = .ok (.invokestatic 108, 3) := by decide +kernel
theorem dX7_reach_18 : decode cX7_reach 18 = .ok (.istore 4, 2) := by decide +kernel
theorem dX7_reach_20 : decode cX7_reach 20 = .ok (.aload_n 0, 1) := by decide +kernel
theorem dX7_reach_21 : decode cX7_reach 21 = .ok (.getfield 12, 3) := by decide +kernel
theorem dX7_reach_24 : decode cX7_reach 24 = .ok (.iload 4, 2) := by decide +kernel
theorem dX7_reach_26 : decode cX7_reach 26 = .ok (.invokevirtual 115, 3) := by decide +kernel
theorem dX7_reach_29 : decode cX7_reach 29 = .ok (.ifCond .ne 6, 3) := by decide +kernel
theorem dX7_reach_32 : decode cX7_reach 32 = .ok (.bipush (-3), 2) := by decide +kernel
theorem dX7_reach_34 : decode cX7_reach 34 = .ok (.ireturn, 1) := by decide +kernel
theorem dX7_reach_35 : decode cX7_reach 35 = .ok (.aload_n 0, 1) := by decide +kernel
theorem dX7_reach_36 : decode cX7_reach 36 = .ok (.getfield 21, 3) := by decide +kernel
theorem dX7_reach_39 : decode cX7_reach 39 = .ok (.invokevirtual 123, 3) := by decide +kernel
theorem dX7_reach_42 : decode cX7_reach 42 = .ok (.aload_n 0, 1) := by decide +kernel
theorem dX7_reach_43 : decode cX7_reach 43 = .ok (.getfield 21, 3) := by decide +kernel
theorem dX7_reach_46 : decode cX7_reach 46 = .ok (.iload 4, 2) := by decide +kernel
theorem dX7_reach_48 : decode cX7_reach 48 = .ok (.iload 4, 2) := by decide +kernel
theorem dX7_reach_50 : decode cX7_reach 50 = .ok (.iconst 1, 1) := by decide +kernel
theorem dX7_reach_51 : decode cX7_reach 51 = .ok (.invokevirtual 126, 3) := by decide +kernel
theorem dX7_reach_54 : decode cX7_reach 54 = .ok (.aload_n 0, 1) := by decide +kernel
theorem dX7_reach_55 : decode cX7_reach 55 = .ok (.getfield 21, 3) := by decide +kernel
theorem dX7_reach_58 : decode cX7_reach 58 = .ok (.invokevirtual 146, 3) := by decide +kernel
theorem dX7_reach_61 : decode cX7_reach 61 = .ok (.ireturn, 1) := by decide +kernel
set_option maxRecDepth 20000 in
theorem ggX7_way_X7_isPlace : GoodIn wsX7_way wsX7_isPlace := goodIn_r _ [7] (by decide +kernel) (by decide +kernel)
set_option maxRecDepth 20000 in
theorem gX7_way_X7_isPlace : GoodIn wsX7_way (va_wsS RX7 103 yX7_isPlace wsX7_isPlace) := goodIn_app (goodIn_of _ (by decide +kernel)) ggX7_way_X7_isPlace
set_option maxRecDepth 20000 in
theorem ggX7_way_X7_placeAt : GoodIn wsX7_way wsX7_placeAt := goodIn_r _ [10] (by decide +kernel) (by decide +kernel)
set_option maxRecDepth 20000 in
theorem gX7_way_X7_placeAt : GoodIn wsX7_way (va_wsS RX7 108 yX7_placeAt wsX7_placeAt) := goodIn_app (goodIn_of _ (by decide +kernel)) ggX7_way_X7_placeAt
set_option maxRecDepth 20000 in
theorem ggX7_way_X3_isGround : GoodIn wsX7_way wsX3_isGround := goodIn_r _ [15, 16, 17, 18, 19, 20, 21, 6, 22, 23, 24, 25, 26, 27, 28, 29, 30, 31, 32, 33, 34, 35, 36, 37, 38, 39, 40, 190, 191, 192, 193, 194, 195, 196, 197, 198, 199, 200, 201, 202, 203, 204, 205, 206] (by decide +kernel) (by decide +kernel)
set_option maxRecDepth 20000 in
theorem gX7_way_X3_isGround : GoodIn wsX7_way (wsV RX7 115 RX3 yX3_isGround wsX3_isGround) := goodIn_app (goodIn_of _ (by decide +kernel)) ggX7_way_X3_isGround
set_option maxRecDepth 20000 in
theorem ggX7_way_X2_avoidNothing : GoodIn wsX7_way wsX2_avoidNothing := goodIn_r _ [45, 46, 207, 208, 209, 210, 211, 212, 213, 214, 215] (by decide +kernel) (by decide +kernel)
set_option maxRecDepth 20000 in
theorem gX7_way_X2_avoidNothing : GoodIn wsX7_way (wsV RX7 123 RX2 yX2_avoidNothing wsX2_avoidNothing) := goodIn_app (goodIn_of _ (by decide +kernel)) ggX7_way_X2_avoidNothing
set_option maxRecDepth 20000 in
theorem ggX7_way_X2_explore : GoodIn wsX7_way wsX2_explore := goodIn_r _ [50, 51, 52, 53, 54, 55, 56, 44, 57, 58, 59, 60, 61, 62, 63, 64, 65, 66, 67, 68, 69, 70, 71, 72, 73, 74, 75, 76, 30, 77, 32, 34, 33, 36, 35, 9, 6, 10, 78, 79, 80, 81, 46, 82, 83, 12, 13, 14, 15, 16, 17, 18, 19, 20, 21, 22, 23, 24, 25, 26, 27, 28, 29, 31, 37, 38, 39, 40, 84, 85, 86, 87, 88, 89, 90, 91, 92, 93, 94, 95, 96, 97, 98, 99, 100, 101, 102, 103, 104, 105, 106, 107, 108, 109, 110, 111, 112, 113, 114, 115, 116, 117, 118, 119, 120, 121, 122, 123, 124, 125, 126, 127, 128, 129, 130, 131, 132, 133, 134, 135, 136, 137, 138, 139, 140, 141, 142, 143, 144, 145, 146, 147, 148, 149, 150, 151, 152, 153, 154, 155, 156, 157, 158, 159, 160, 161, 162, 163, 164, 165, 166, 167, 168, 169, 170, 171, 172, 173, 207, 208, 209, 210, 211, 212, 213, 214, 215, 190, 191, 192, 193, 194, 195, 196, 197, 198, 199, 200, 201, 202, 203, 204, 205, 206, 216, 217, 218, 219, 220, 221, 222, 223, 224, 225] (by decide +kernel) (by decide +kernel)
set_option maxRecDepth 20000 in
theorem gX7_way_X2_explore : GoodIn wsX7_way (wsV RX7 126 RX2 yX2_explore wsX2_explore) := goodIn_app (goodIn_of _ (by decide +kernel)) ggX7_way_X2_explore
set_option maxRecDepth 20000 in
theorem ggX7_way_X2_foundLength : GoodIn wsX7_way wsX2_foundLength := goodIn_r _ [177, 51, 207, 208, 209, 210, 211, 212, 213, 214, 215] (by decide +kernel) (by decide +kernel)
set_option maxRecDepth 20000 in
theorem gX7_way_X2_foundLength : GoodIn wsX7_way (wsV RX7 130 RX2 yX2_foundLength wsX2_foundLength) := goodIn_app (goodIn_of _ (by decide +kernel)) ggX7_way_X2_foundLength
set_option maxRecDepth 20000 in
theorem ggX7_way_X2_writeWay : GoodIn wsX7_way wsX2_writeWay := goodIn_r _ [181, 73, 182, 183, 72, 207, 208, 209, 210, 211, 212, 213, 214, 215, 226, 227] (by decide +kernel) (by decide +kernel)
set_option maxRecDepth 20000 in
theorem gX7_way_X2_writeWay : GoodIn wsX7_way (wsV RX7 134 RX2 yX2_writeWay wsX2_writeWay) := goodIn_app (goodIn_of _ (by decide +kernel)) ggX7_way_X2_writeWay
theorem dX7_way_0 : decode cX7_way 0 = .ok (.iload_n 1, 1) := by decide +kernel
theorem dX7_way_1 : decode cX7_way 1 = .ok (.iload_n 2, 1) := by decide +kernel
theorem dX7_way_2 : decode cX7_way 2 = .ok (.iload_n 3, 1) := by decide +kernel
theorem dX7_way_3 : decode cX7_way 3 = .ok (.invokestatic 103, 3) := by decide +kernel
theorem dX7_way_6 : decode cX7_way 6 = .ok (.ifCond .eq 15, 3) := by decide +kernel
theorem dX7_way_9 : decode cX7_way 9 = .ok (.iload 4, 2) := by decide +kernel
theorem dX7_way_11 : decode cX7_way 11 = .ok (.iload 5, 2) := by decide +kernel
theorem dX7_way_13 : decode cX7_way 13 = .ok (.iload 6, 2) := by decide +kernel
theorem dX7_way_15 : decode cX7_way 15 = .ok (.invokestatic 103, 3) := by decide +kernel
theorem dX7_way_18 : decode cX7_way 18 = .ok (.ifCond .ne 6, 3) := by decide +kernel
theorem dX7_way_21 : decode cX7_way 21 = .ok (.bipush (-2), 2) := by decide +kernel
theorem dX7_way_23 : decode cX7_way 23 = .ok (.ireturn, 1) := by decide +kernel
theorem dX7_way_24 : decode cX7_way 24 = .ok (.iload_n 1, 1) := by decide +kernel
theorem dX7_way_25 : decode cX7_way 25 = .ok (.iload_n 2, 1) := by decide +kernel
theorem dX7_way_26 : decode cX7_way 26 = .ok (.iload_n 3, 1) := by decide +kernel
theorem dX7_way_27 : decode cX7_way 27 = .ok (.invokestatic 108, 3) := by decide +kernel
theorem dX7_way_30 : decode cX7_way 30 = .ok (.istore 7, 2) := by decide +kernel
theorem dX7_way_32 : decode cX7_way 32 = .ok (.iload 4, 2) := by decide +kernel
theorem dX7_way_34 : decode cX7_way 34 = .ok (.iload 5, 2) := by decide +kernel
theorem dX7_way_36 : decode cX7_way 36 = .ok (.iload 6, 2) := by decide +kernel
theorem dX7_way_38 : decode cX7_way 38 = .ok (.invokestatic 108, 3) := by decide +kernel
theorem dX7_way_41 : decode cX7_way 41 = .ok (.istore 8, 2) := by decide +kernel
theorem dX7_way_43 : decode cX7_way 43 = .ok (.aload_n 0, 1) := by decide +kernel
theorem dX7_way_44 : decode cX7_way 44 = .ok (.getfield 12, 3) := by decide +kernel
theorem dX7_way_47 : decode cX7_way 47 = .ok (.iload 7, 2) := by decide +kernel
theorem dX7_way_49 : decode cX7_way 49 = .ok (.invokevirtual 115, 3) := by decide +kernel
theorem dX7_way_52 : decode cX7_way 52 = .ok (.ifCond .eq 15, 3) := by decide +kernel
theorem dX7_way_55 : decode cX7_way 55 = .ok (.aload_n 0, 1) := by decide +kernel
theorem dX7_way_56 : decode cX7_way 56 = .ok (.getfield 12, 3) := by decide +kernel
theorem dX7_way_59 : decode cX7_way 59 = .ok (.iload 8, 2) := by decide +kernel
theorem dX7_way_61 : decode cX7_way 61 = .ok (.invokevirtual 115, 3) := by decide +kernel
theorem dX7_way_64 : decode cX7_way 64 = .ok (.ifCond .ne 6, 3) := by decide +kernel
theorem dX7_way_67 : decode cX7_way 67 = .ok (.bipush (-3), 2) := by decide +kernel
theorem dX7_way_69 : decode cX7_way 69 = .ok (.ireturn, 1) := by decide +kernel
theorem dX7_way_70 : decode cX7_way 70 = .ok (.aload_n 0, 1) := by decide +kernel
theorem dX7_way_71 : decode cX7_way 71 = .ok (.getfield 21, 3) := by decide +kernel
theorem dX7_way_74 : decode cX7_way 74 = .ok (.invokevirtual 123, 3) := by decide +kernel
theorem dX7_way_77 : decode cX7_way 77 = .ok (.aload_n 0, 1) := by decide +kernel
theorem dX7_way_78 : decode cX7_way 78 = .ok (.getfield 21, 3) := by decide +kernel
theorem dX7_way_81 : decode cX7_way 81 = .ok (.iload 7, 2) := by decide +kernel
theorem dX7_way_83 : decode cX7_way 83 = .ok (.iload 8, 2) := by decide +kernel
theorem dX7_way_85 : decode cX7_way 85 = .ok (.iconst 0, 1) := by decide +kernel
theorem dX7_way_86 : decode cX7_way 86 = .ok (.invokevirtual 126, 3) := by decide +kernel
theorem dX7_way_89 : decode cX7_way 89 = .ok (.aload_n 0, 1) := by decide +kernel
theorem dX7_way_90 : decode cX7_way 90 = .ok (.getfield 21, 3) := by decide +kernel
theorem dX7_way_93 : decode cX7_way 93 = .ok (.invokevirtual 130, 3) := by decide +kernel
theorem dX7_way_96 : decode cX7_way 96 = .ok (.iconst (-1), 1) := by decide +kernel
theorem dX7_way_97 : decode cX7_way 97 = .ok (.if_icmp .eq 14, 3) := by decide +kernel
theorem dX7_way_100 : decode cX7_way 100 = .ok (.aload_n 0, 1) := by decide +kernel
theorem dX7_way_101 : decode cX7_way 101 = .ok (.getfield 21, 3) := by decide +kernel
theorem dX7_way_104 : decode cX7_way 104 = .ok (.aload_n 0, 1) := by decide +kernel
theorem dX7_way_105 : decode cX7_way 105 = .ok (.getfield 28, 3) := by decide +kernel
theorem dX7_way_108 : decode cX7_way 108 = .ok (.invokevirtual 134, 3) := by decide +kernel
theorem dX7_way_111 : decode cX7_way 111 = .ok (.aload_n 0, 1) := by decide +kernel
theorem dX7_way_112 : decode cX7_way 112 = .ok (.getfield 21, 3) := by decide +kernel
theorem dX7_way_115 : decode cX7_way 115 = .ok (.invokevirtual 130, 3) := by decide +kernel
theorem dX7_way_118 : decode cX7_way 118 = .ok (.ireturn, 1) := by decide +kernel
set_option maxRecDepth 20000 in
theorem ggX7_go_X7_isPlace : GoodIn wsX7_go wsX7_isPlace := goodIn_r _ [11] (by decide +kernel) (by decide +kernel)
set_option maxRecDepth 20000 in
theorem gX7_go_X7_isPlace : GoodIn wsX7_go (va_wsS RX7 103 yX7_isPlace wsX7_isPlace) := goodIn_app (goodIn_of _ (by decide +kernel)) ggX7_go_X7_isPlace
set_option maxRecDepth 20000 in
theorem ggX7_go_X7_placeAt : GoodIn wsX7_go wsX7_placeAt := goodIn_r _ [14] (by decide +kernel) (by decide +kernel)
set_option maxRecDepth 20000 in
theorem gX7_go_X7_placeAt : GoodIn wsX7_go (va_wsS RX7 108 yX7_placeAt wsX7_placeAt) := goodIn_app (goodIn_of _ (by decide +kernel)) ggX7_go_X7_placeAt
set_option maxRecDepth 20000 in
theorem ggX7_go_X3_isGround : GoodIn wsX7_go wsX3_isGround := goodIn_r _ [19, 20, 21, 22, 23, 24, 25, 10, 26, 27, 28, 29, 30, 31, 32, 33, 34, 35, 36, 37, 38, 39, 40, 41, 42, 43, 44, 218, 219, 220, 221, 222, 223, 224, 225, 226, 227, 228, 229, 230, 231, 232, 233, 234] (by decide +kernel) (by decide +kernel)
set_option maxRecDepth 20000 in
theorem gX7_go_X3_isGround : GoodIn wsX7_go (wsV RX7 115 RX3 yX3_isGround wsX3_isGround) := goodIn_app (goodIn_of _ (by decide +kernel)) ggX7_go_X3_isGround
set_option maxRecDepth 20000 in
theorem ggX7_go_X2_avoidNothing : GoodIn wsX7_go wsX2_avoidNothing := goodIn_r _ [49, 50, 235, 236, 237, 238, 239, 240, 241, 242, 243] (by decide +kernel) (by decide +kernel)
set_option maxRecDepth 20000 in
theorem gX7_go_X2_avoidNothing : GoodIn wsX7_go (wsV RX7 123 RX2 yX2_avoidNothing wsX2_avoidNothing) := goodIn_app (goodIn_of _ (by decide +kernel)) ggX7_go_X2_avoidNothing
set_option maxRecDepth 20000 in
theorem ggX7_go_X2_explore : GoodIn wsX7_go wsX2_explore := goodIn_r _ [54, 55, 56, 57, 58, 59, 60, 48, 61, 62, 63, 64, 65, 66, 67, 68, 69, 70, 71, 72, 73, 74, 75, 76, 77, 78, 79, 80, 34, 81, 36, 38, 37, 40, 39, 13, 10, 14, 82, 83, 84, 85, 50, 86, 87, 16, 17, 18, 19, 20, 21, 22, 23, 24, 25, 26, 27, 28, 29, 30, 31, 32, 33, 35, 41, 42, 43, 44, 88, 89, 90, 91, 92, 93, 94, 95, 96, 97, 98, 99, 100, 101, 102, 103, 104, 105, 106, 107, 108, 109, 110, 111, 112, 113, 114, 115, 116, 117, 118, 119, 120, 121, 122, 123, 124, 125, 126, 127, 128, 129, 130, 131, 132, 133, 134, 135, 136, 137, 138, 139, 140, 141, 142, 143, 144, 145, 146, 147, 148, 149, 150, 151, 152, 153, 154, 155, 156, 157, 158, 159, 160, 161, 162, 163, 164, 165, 166, 167, 168, 169, 170, 171, 172, 173, 174, 175, 176, 177, 235, 236, 237, 238, 239, 240, 241, 242, 243, 218, 219, 220, 221, 222, 223, 224, 225, 226, 227, 228, 229, 230, 231, 232, 233, 234, 244, 245, 246, 247, 248, 249, 250, 251, 252, 253] (by decide +kernel) (by decide +kernel)
set_option maxRecDepth 20000 in
theorem gX7_go_X2_explore : GoodIn wsX7_go (wsV RX7 126 RX2 yX2_explore wsX2_explore) := goodIn_app (goodIn_of _ (by decide +kernel)) ggX7_go_X2_explore
set_option maxRecDepth 20000 in
theorem ggX7_go_X2_foundLength : GoodIn wsX7_go wsX2_foundLength := goodIn_r _ [181, 55, 235, 236, 237, 238, 239, 240, 241, 242, 243] (by decide +kernel) (by decide +kernel)
set_option maxRecDepth 20000 in
theorem gX7_go_X2_foundLength : GoodIn wsX7_go (wsV RX7 130 RX2 yX2_foundLength wsX2_foundLength) := goodIn_app (goodIn_of _ (by decide +kernel)) ggX7_go_X2_foundLength
set_option maxRecDepth 20000 in
theorem ggX7_go_X6_dropRow : GoodIn wsX7_go wsX6_dropRow := goodIn_r _ [186, 187, 188, 189, 210, 211, 212, 213, 214, 215, 216, 217, 254, 255] (by decide +kernel) (by decide +kernel)
set_option maxRecDepth 20000 in
theorem gX7_go_X6_dropRow : GoodIn wsX7_go (wsV RX7 159 RX6 yX6_dropRow wsX6_dropRow) := goodIn_app (goodIn_of _ (by decide +kernel)) ggX7_go_X6_dropRow
set_option maxRecDepth 20000 in
theorem ggX7_go_X2_writeWay : GoodIn wsX7_go wsX2_writeWay := goodIn_r _ [193, 77, 194, 195, 76, 235, 236, 237, 238, 239, 240, 241, 242, 243, 254, 255] (by decide +kernel) (by decide +kernel)
set_option maxRecDepth 20000 in
theorem gX7_go_X2_writeWay : GoodIn wsX7_go (wsV RX7 134 RX2 yX2_writeWay wsX2_writeWay) := goodIn_app (goodIn_of _ (by decide +kernel)) ggX7_go_X2_writeWay
set_option maxRecDepth 20000 in
theorem ggX7_go_X6_beginRow : GoodIn wsX7_go wsX6_beginRow := goodIn_r _ [199, 189, 210, 211, 212, 213, 214, 215, 216, 217] (by decide +kernel) (by decide +kernel)
set_option maxRecDepth 20000 in
theorem gX7_go_X6_beginRow : GoodIn wsX7_go (wsV RX7 165 RX6 yX6_beginRow wsX6_beginRow) := goodIn_app (goodIn_of _ (by decide +kernel)) ggX7_go_X6_beginRow
set_option maxRecDepth 20000 in
theorem ggX7_go_X6_ahead : GoodIn wsX7_go wsX6_ahead := goodIn_r _ [203, 187, 188, 189, 210, 211, 212, 213, 214, 215, 216, 217, 254, 255] (by decide +kernel) (by decide +kernel)
set_option maxRecDepth 20000 in
theorem gX7_go_X6_ahead : GoodIn wsX7_go (wsV RX7 168 RX6 yX6_ahead wsX6_ahead) := goodIn_app (goodIn_of _ (by decide +kernel)) ggX7_go_X6_ahead
theorem dX7_go_0 : decode cX7_go 0 = .ok (.iload_n 1, 1) := by decide +kernel
theorem dX7_go_1 : decode cX7_go 1 = .ok (.ifCond .lt 21, 3) := by decide +kernel
theorem dX7_go_4 : decode cX7_go 4 = .ok (.iload_n 1, 1) := by decide +kernel
theorem dX7_go_5 : decode cX7_go 5 = .ok (.aload_n 0, 1) := by decide +kernel
theorem dX7_go_6 : decode cX7_go 6 = .ok (.getfield 53, 3) := by decide +kernel
theorem dX7_go_9 : decode cX7_go 9 = .ok (.if_icmp .ge 13, 3) := by decide +kernel
theorem dX7_go_12 : decode cX7_go 12 = .ok (.iload_n 2, 1) := by decide +kernel
theorem dX7_go_13 : decode cX7_go 13 = .ok (.iload_n 3, 1) := by decide +kernel
theorem dX7_go_14 : decode cX7_go 14 = .ok (.iload 4, 2) := by decide +kernel
theorem dX7_go_16 : decode cX7_go 16 = .ok (.invokestatic 103, 3) := by decide +kernel
theorem dX7_go_19 : decode cX7_go 19 = .ok (.ifCond .ne 6, 3) := by decide +kernel
theorem dX7_go_22 : decode cX7_go 22 = .ok (.bipush (-2), 2) := by decide +kernel
theorem dX7_go_24 : decode cX7_go 24 = .ok (.ireturn, 1) := by decide +kernel
theorem dX7_go_25 : decode cX7_go 25 = .ok (.iload_n 2, 1) := by decide +kernel
theorem dX7_go_26 : decode cX7_go 26 = .ok (.iload_n 3, 1) := by decide +kernel
theorem dX7_go_27 : decode cX7_go 27 = .ok (.iload 4, 2) := by decide +kernel
theorem dX7_go_29 : decode cX7_go 29 = .ok (.invokestatic 108, 3) := by decide +kernel
theorem dX7_go_32 : decode cX7_go 32 = .ok (.istore 5, 2) := by decide +kernel
theorem dX7_go_34 : decode cX7_go 34 = .ok (.aload_n 0, 1) := by decide +kernel
theorem dX7_go_35 : decode cX7_go 35 = .ok (.getfield 12, 3) := by decide +kernel
theorem dX7_go_38 : decode cX7_go 38 = .ok (.iload 5, 2) := by decide +kernel
theorem dX7_go_40 : decode cX7_go 40 = .ok (.invokevirtual 115, 3) := by decide +kernel
theorem dX7_go_43 : decode cX7_go 43 = .ok (.ifCond .ne 6, 3) := by decide +kernel
theorem dX7_go_46 : decode cX7_go 46 = .ok (.bipush (-3), 2) := by decide +kernel
theorem dX7_go_48 : decode cX7_go 48 = .ok (.ireturn, 1) := by decide +kernel
theorem dX7_go_49 : decode cX7_go 49 = .ok (.aload_n 0, 1) := by decide +kernel
theorem dX7_go_50 : decode cX7_go 50 = .ok (.getfield 34, 3) := by decide +kernel
theorem dX7_go_53 : decode cX7_go 53 = .ok (.iload_n 1, 1) := by decide +kernel
theorem dX7_go_54 : decode cX7_go 54 = .ok (.aaload, 1) := by decide +kernel
theorem dX7_go_55 : decode cX7_go 55 = .ok (.astore 6, 2) := by decide +kernel
theorem dX7_go_57 : decode cX7_go 57 = .ok (.aload 6, 2) := by decide +kernel
theorem dX7_go_59 : decode cX7_go 59 = .ok (.iconst 0, 1) := by decide +kernel
theorem dX7_go_60 : decode cX7_go 60 = .ok (.putfield 156, 3) := by decide +kernel
theorem dX7_go_63 : decode cX7_go 63 = .ok (.aload_n 0, 1) := by decide +kernel
theorem dX7_go_64 : decode cX7_go 64 = .ok (.getfield 21, 3) := by decide +kernel
theorem dX7_go_67 : decode cX7_go 67 = .ok (.invokevirtual 123, 3) := by decide +kernel
theorem dX7_go_70 : decode cX7_go 70 = .ok (.aload_n 0, 1) := by decide +kernel
theorem dX7_go_71 : decode cX7_go 71 = .ok (.getfield 21, 3) := by decide +kernel
theorem dX7_go_74 : decode cX7_go 74 = .ok (.aload 6, 2) := by decide +kernel
theorem dX7_go_76 : decode cX7_go 76 = .ok (.getfield 57, 3) := by decide +kernel
theorem dX7_go_79 : decode cX7_go 79 = .ok (.iload 5, 2) := by decide +kernel
theorem dX7_go_81 : decode cX7_go 81 = .ok (.iconst 0, 1) := by decide +kernel
theorem dX7_go_82 : decode cX7_go 82 = .ok (.invokevirtual 126, 3) := by decide +kernel
theorem dX7_go_85 : decode cX7_go 85 = .ok (.aload_n 0, 1) := by decide +kernel
theorem dX7_go_86 : decode cX7_go 86 = .ok (.getfield 21, 3) := by decide +kernel
theorem dX7_go_89 : decode cX7_go 89 = .ok (.invokevirtual 130, 3) := by decide +kernel
theorem dX7_go_92 : decode cX7_go 92 = .ok (.iconst (-1), 1) := by decide +kernel
theorem dX7_go_93 : decode cX7_go 93 = .ok (.if_icmp .ne 10, 3) := by decide +kernel
theorem dX7_go_96 : decode cX7_go 96 = .ok (.aload 6, 2) := by decide +kernel
theorem dX7_go_98 : decode cX7_go 98 = .ok (.invokevirtual 159, 3) := by decide +kernel
theorem dX7_go_101 : decode cX7_go 101 = .ok (.iconst (-1), 1) := by decide +kernel
theorem dX7_go_102 : decode cX7_go 102 = .ok (.ireturn, 1) := by decide +kernel
theorem dX7_go_103 : decode cX7_go 103 = .ok (.aload_n 0, 1) := by decide +kernel
theorem dX7_go_104 : decode cX7_go 104 = .ok (.getfield 21, 3) := by decide +kernel
theorem dX7_go_107 : decode cX7_go 107 = .ok (.aload 6, 2) := by decide +kernel
theorem dX7_go_109 : decode cX7_go 109 = .ok (.getfield 162, 3) := by decide +kernel
theorem dX7_go_112 : decode cX7_go 112 = .ok (.invokevirtual 134, 3) := by decide +kernel
theorem dX7_go_115 : decode cX7_go 115 = .ok (.aload 6, 2) := by decide +kernel
theorem dX7_go_117 : decode cX7_go 117 = .ok (.invokevirtual 165, 3) := by decide +kernel
theorem dX7_go_120 : decode cX7_go 120 = .ok (.aload 6, 2) := by decide +kernel
theorem dX7_go_122 : decode cX7_go 122 = .ok (.invokevirtual 168, 3) := by decide +kernel
theorem dX7_go_125 : decode cX7_go 125 = .ok (.ireturn, 1) := by decide +kernel
set_option maxRecDepth 20000 in
theorem ggX7_room_X7_isRectangle : GoodIn wsX7_room wsX7_isRectangle := goodIn_r _ [6, 7, 8, 5, 9] (by decide +kernel) (by decide +kernel)
set_option maxRecDepth 20000 in
theorem gX7_room_X7_isRectangle : GoodIn wsX7_room (va_wsS RX7 39 yX7_isRectangle wsX7_isRectangle) := goodIn_app (goodIn_of _ (by decide +kernel)) ggX7_room_X7_isRectangle
set_option maxRecDepth 20000 in
theorem ggX7_room_X1_add : GoodIn wsX7_room wsX1_add := goodIn_r _ [14, 15, 16, 17, 18, 19, 20, 21, 22, 23, 24, 25, 26, 27, 28, 29, 30, 31, 32, 33, 34, 50, 51, 52, 53, 54, 55, 56, 57] (by decide +kernel) (by decide +kernel)
set_option maxRecDepth 20000 in
theorem gX7_room_X1_add : GoodIn wsX7_room (wsV RX7 47 RX1 yX1_add wsX1_add) := goodIn_app (goodIn_of _ (by decide +kernel)) ggX7_room_X1_add
theorem dX7_room_0 : decode cX7_room 0 = .ok (.iload_n 1, 1) := by decide +kernel
theorem dX7_room_1 : decode cX7_room 1 = .ok (.iload_n 2, 1) := by decide +kernel
theorem dX7_room_2 : decode cX7_room 2 = .ok (.iload_n 3, 1) := by decide +kernel
theorem dX7_room_3 : decode cX7_room 3 = .ok (.iload 4, 2) := by decide +kernel
theorem dX7_room_5 : decode cX7_room 5 = .ok (.iload 5, 2) := by decide +kernel
theorem dX7_room_7 : decode cX7_room 7 = .ok (.invokestatic 39, 3) := by decide +kernel
theorem dX7_room_10 : decode cX7_room 10 = .ok (.ifCond .ne 6, 3) := by decide +kernel
theorem dX7_room_13 : decode cX7_room 13 = .ok (.bipush (-2), 2) := by decide +kernel
theorem dX7_room_15 : decode cX7_room 15 = .ok (.ireturn, 1) := by decide +kernel
theorem dX7_room_16 : decode cX7_room 16 = .ok (.aload_n 0, 1) := by decide +kernel
theorem dX7_room_17 : decode cX7_room 17 = .ok (.getfield 12, 3) := by decide +kernel
theorem dX7_room_20 : decode cX7_room 20 = .ok (.getfield 43, 3) := by decide +kernel
theorem dX7_room_23 : decode cX7_room 23 = .ok (.iload_n 1, 1) := by decide +kernel
theorem dX7_room_24 : decode cX7_room 24 = .ok (.iload_n 2, 1) := by decide +kernel
theorem dX7_room_25 : decode cX7_room 25 = .ok (.iload_n 3, 1) := by decide +kernel
theorem dX7_room_26 : decode cX7_room 26 = .ok (.iload 4, 2) := by decide +kernel
theorem dX7_room_28 : decode cX7_room 28 = .ok (.iload 5, 2) := by decide +kernel
theorem dX7_room_30 : decode cX7_room 30 = .ok (.iconst 1, 1) := by decide +kernel
theorem dX7_room_31 : decode cX7_room 31 = .ok (.invokevirtual 47, 3) := by decide +kernel
theorem dX7_room_34 : decode cX7_room 34 = .ok (.ireturn, 1) := by decide +kernel
set_option maxRecDepth 20000 in
theorem ggX7_door_X7_isStraight : GoodIn wsX7_door wsX7_isStraight := goodIn_r _ [6, 7, 8, 5, 9] (by decide +kernel) (by decide +kernel)
set_option maxRecDepth 20000 in
theorem gX7_door_X7_isStraight : GoodIn wsX7_door (va_wsS RX7 87 yX7_isStraight wsX7_isStraight) := goodIn_app (goodIn_of _ (by decide +kernel)) ggX7_door_X7_isStraight
set_option maxRecDepth 20000 in
theorem ggX7_door_X1_add : GoodIn wsX7_door wsX1_add := goodIn_r _ [14, 15, 16, 17, 18, 19, 20, 21, 22, 23, 24, 25, 26, 27, 28, 29, 30, 31, 32, 33, 34, 50, 51, 52, 53, 54, 55, 56, 57] (by decide +kernel) (by decide +kernel)
set_option maxRecDepth 20000 in
theorem gX7_door_X1_add : GoodIn wsX7_door (wsV RX7 47 RX1 yX1_add wsX1_add) := goodIn_app (goodIn_of _ (by decide +kernel)) ggX7_door_X1_add
theorem dX7_door_0 : decode cX7_door 0 = .ok (.iload_n 1, 1) := by decide +kernel
theorem dX7_door_1 : decode cX7_door 1 = .ok (.iload_n 2, 1) := by decide +kernel
theorem dX7_door_2 : decode cX7_door 2 = .ok (.iload_n 3, 1) := by decide +kernel
theorem dX7_door_3 : decode cX7_door 3 = .ok (.iload 4, 2) := by decide +kernel
theorem dX7_door_5 : decode cX7_door 5 = .ok (.iload 5, 2) := by decide +kernel
theorem dX7_door_7 : decode cX7_door 7 = .ok (.invokestatic 87, 3) := by decide +kernel
theorem dX7_door_10 : decode cX7_door 10 = .ok (.ifCond .ne 6, 3) := by decide +kernel
theorem dX7_door_13 : decode cX7_door 13 = .ok (.bipush (-2), 2) := by decide +kernel
theorem dX7_door_15 : decode cX7_door 15 = .ok (.ireturn, 1) := by decide +kernel
theorem dX7_door_16 : decode cX7_door 16 = .ok (.aload_n 0, 1) := by decide +kernel
theorem dX7_door_17 : decode cX7_door 17 = .ok (.getfield 12, 3) := by decide +kernel
theorem dX7_door_20 : decode cX7_door 20 = .ok (.getfield 90, 3) := by decide +kernel
theorem dX7_door_23 : decode cX7_door 23 = .ok (.iload_n 1, 1) := by decide +kernel
theorem dX7_door_24 : decode cX7_door 24 = .ok (.iload_n 2, 1) := by decide +kernel
theorem dX7_door_25 : decode cX7_door 25 = .ok (.iload_n 3, 1) := by decide +kernel
theorem dX7_door_26 : decode cX7_door 26 = .ok (.iload 4, 2) := by decide +kernel
theorem dX7_door_28 : decode cX7_door 28 = .ok (.iload 5, 2) := by decide +kernel
theorem dX7_door_30 : decode cX7_door 30 = .ok (.iconst 0, 1) := by decide +kernel
theorem dX7_door_31 : decode cX7_door 31 = .ok (.invokevirtual 47, 3) := by decide +kernel
theorem dX7_door_34 : decode cX7_door 34 = .ok (.ireturn, 1) := by decide +kernel
set_option maxRecDepth 20000 in
theorem ggX7_ledge_X7_isStraight : GoodIn wsX7_ledge wsX7_isStraight := goodIn_r _ [6, 7, 8, 5, 9] (by decide +kernel) (by decide +kernel)
set_option maxRecDepth 20000 in
theorem gX7_ledge_X7_isStraight : GoodIn wsX7_ledge (va_wsS RX7 87 yX7_isStraight wsX7_isStraight) := goodIn_app (goodIn_of _ (by decide +kernel)) ggX7_ledge_X7_isStraight
set_option maxRecDepth 20000 in
theorem ggX7_ledge_X1_add : GoodIn wsX7_ledge wsX1_add := goodIn_r _ [14, 15, 16, 17, 18, 19, 20, 21, 22, 23, 24, 25, 26, 27, 28, 29, 30, 31, 32, 33, 34, 50, 51, 52, 53, 54, 55, 56, 57] (by decide +kernel) (by decide +kernel)
set_option maxRecDepth 20000 in
theorem gX7_ledge_X1_add : GoodIn wsX7_ledge (wsV RX7 47 RX1 yX1_add wsX1_add) := goodIn_app (goodIn_of _ (by decide +kernel)) ggX7_ledge_X1_add
theorem dX7_ledge_0 : decode cX7_ledge 0 = .ok (.iload_n 1, 1) := by decide +kernel
theorem dX7_ledge_1 : decode cX7_ledge 1 = .ok (.iload_n 2, 1) := by decide +kernel
theorem dX7_ledge_2 : decode cX7_ledge 2 = .ok (.iload_n 3, 1) := by decide +kernel
theorem dX7_ledge_3 : decode cX7_ledge 3 = .ok (.iload 4, 2) := by decide +kernel
theorem dX7_ledge_5 : decode cX7_ledge 5 = .ok (.iload 5, 2) := by decide +kernel
theorem dX7_ledge_7 : decode cX7_ledge 7 = .ok (.invokestatic 87, 3) := by decide +kernel
theorem dX7_ledge_10 : decode cX7_ledge 10 = .ok (.ifCond .ne 6, 3) := by decide +kernel
theorem dX7_ledge_13 : decode cX7_ledge 13 = .ok (.bipush (-2), 2) := by decide +kernel
theorem dX7_ledge_15 : decode cX7_ledge 15 = .ok (.ireturn, 1) := by decide +kernel
theorem dX7_ledge_16 : decode cX7_ledge 16 = .ok (.aload_n 0, 1) := by decide +kernel
theorem dX7_ledge_17 : decode cX7_ledge 17 = .ok (.getfield 12, 3) := by decide +kernel
theorem dX7_ledge_20 : decode cX7_ledge 20 = .ok (.getfield 100, 3) := by decide +kernel
theorem dX7_ledge_23 : decode cX7_ledge 23 = .ok (.iload_n 1, 1) := by decide +kernel
theorem dX7_ledge_24 : decode cX7_ledge 24 = .ok (.iload_n 2, 1) := by decide +kernel
theorem dX7_ledge_25 : decode cX7_ledge 25 = .ok (.iload_n 3, 1) := by decide +kernel
theorem dX7_ledge_26 : decode cX7_ledge 26 = .ok (.iload 4, 2) := by decide +kernel
theorem dX7_ledge_28 : decode cX7_ledge 28 = .ok (.iload 5, 2) := by decide +kernel
theorem dX7_ledge_30 : decode cX7_ledge 30 = .ok (.iload 6, 2) := by decide +kernel
theorem dX7_ledge_32 : decode cX7_ledge 32 = .ok (.invokevirtual 47, 3) := by decide +kernel
theorem dX7_ledge_35 : decode cX7_ledge 35 = .ok (.ireturn, 1) := by decide +kernel
set_option maxRecDepth 20000 in
theorem ggX7_ladder_X7_isPlace : GoodIn wsX7_ladder wsX7_isPlace := goodIn_r _ [6] (by decide +kernel) (by decide +kernel)
set_option maxRecDepth 20000 in
theorem gX7_ladder_X7_isPlace : GoodIn wsX7_ladder (va_wsS RX7 103 yX7_isPlace wsX7_isPlace) := goodIn_app (goodIn_of _ (by decide +kernel)) ggX7_ladder_X7_isPlace
set_option maxRecDepth 20000 in
theorem ggX7_ladder_X7_placeAt : GoodIn wsX7_ladder wsX7_placeAt := goodIn_r _ [9] (by decide +kernel) (by decide +kernel)
set_option maxRecDepth 20000 in
theorem gX7_ladder_X7_placeAt : GoodIn wsX7_ladder (va_wsS RX7 108 yX7_placeAt wsX7_placeAt) := goodIn_app (goodIn_of _ (by decide +kernel)) ggX7_ladder_X7_placeAt
set_option maxRecDepth 20000 in
theorem ggX7_ladder_X3_addLadder : GoodIn wsX7_ladder wsX3_addLadder := goodIn_r _ [14, 15, 16, 17, 18, 25, 26, 27, 28, 29, 30, 31, 32, 33] (by decide +kernel) (by decide +kernel)
set_option maxRecDepth 20000 in
theorem gX7_ladder_X3_addLadder : GoodIn wsX7_ladder (wsV RX7 112 RX3 yX3_addLadder wsX3_addLadder) := goodIn_app (goodIn_of _ (by decide +kernel)) ggX7_ladder_X3_addLadder
theorem dX7_ladder_0 : decode cX7_ladder 0 = .ok (.iload_n 1, 1) := by decide +kernel
theorem dX7_ladder_1 : decode cX7_ladder 1 = .ok (.iload_n 2, 1) := by decide +kernel
theorem dX7_ladder_2 : decode cX7_ladder 2 = .ok (.iload_n 3, 1) := by decide +kernel
theorem dX7_ladder_3 : decode cX7_ladder 3 = .ok (.invokestatic 103, 3) := by decide +kernel
theorem dX7_ladder_6 : decode cX7_ladder 6 = .ok (.ifCond .eq 21, 3) := by decide +kernel
theorem dX7_ladder_9 : decode cX7_ladder 9 = .ok (.iload 4, 2) := by decide +kernel
theorem dX7_ladder_11 : decode cX7_ladder 11 = .ok (.iload 5, 2) := by decide +kernel
theorem dX7_ladder_13 : decode cX7_ladder 13 = .ok (.iload 6, 2) := by decide +kernel
theorem dX7_ladder_15 : decode cX7_ladder 15 = .ok (.invokestatic 103, 3) := by decide +kernel
theorem dX7_ladder_18 : decode cX7_ladder 18 = .ok (.ifCond .eq 9, 3) := by decide +kernel
theorem dX7_ladder_21 : decode cX7_ladder 21 = .ok (.iload_n 1, 1) := by decide +kernel
theorem dX7_ladder_22 : decode cX7_ladder 22 = .ok (.iload 4, 2) := by decide +kernel
theorem dX7_ladder_24 : decode cX7_ladder 24 = .ok (.if_icmp .ne 6, 3) := by decide +kernel
theorem dX7_ladder_27 : decode cX7_ladder 27 = .ok (.bipush (-2), 2) := by decide +kernel
theorem dX7_ladder_29 : decode cX7_ladder 29 = .ok (.ireturn, 1) := by decide +kernel
theorem dX7_ladder_30 : decode cX7_ladder 30 = .ok (.iload 7, 2) := by decide +kernel
theorem dX7_ladder_32 : decode cX7_ladder 32 = .ok (.ifCond .lt 10, 3) := by decide +kernel
theorem dX7_ladder_35 : decode cX7_ladder 35 = .ok (.iload 7, 2) := by decide +kernel
theorem dX7_ladder_37 : decode cX7_ladder 37 = .ok (.ldc 107, 2) := by decide +kernel
theorem dX7_ladder_39 : decode cX7_ladder 39 = .ok (.if_icmp .le 6, 3) := by decide +kernel
theorem dX7_ladder_42 : decode cX7_ladder 42 = .ok (.bipush (-2), 2) := by decide +kernel
theorem dX7_ladder_44 : decode cX7_ladder 44 = .ok (.ireturn, 1) := by decide +kernel
theorem dX7_ladder_45 : decode cX7_ladder 45 = .ok (.aload_n 0, 1) := by decide +kernel
theorem dX7_ladder_46 : decode cX7_ladder 46 = .ok (.getfield 12, 3) := by decide +kernel
theorem dX7_ladder_49 : decode cX7_ladder 49 = .ok (.iload_n 1, 1) := by decide +kernel
theorem dX7_ladder_50 : decode cX7_ladder 50 = .ok (.iload_n 2, 1) := by decide +kernel
theorem dX7_ladder_51 : decode cX7_ladder 51 = .ok (.iload_n 3, 1) := by decide +kernel
theorem dX7_ladder_52 : decode cX7_ladder 52 = .ok (.invokestatic 108, 3) := by decide +kernel
theorem dX7_ladder_55 : decode cX7_ladder 55 = .ok (.iload 4, 2) := by decide +kernel
theorem dX7_ladder_57 : decode cX7_ladder 57 = .ok (.iload 5, 2) := by decide +kernel
theorem dX7_ladder_59 : decode cX7_ladder 59 = .ok (.iload 6, 2) := by decide +kernel
theorem dX7_ladder_61 : decode cX7_ladder 61 = .ok (.invokestatic 108, 3) := by decide +kernel
theorem dX7_ladder_64 : decode cX7_ladder 64 = .ok (.iload 7, 2) := by decide +kernel
theorem dX7_ladder_66 : decode cX7_ladder 66 = .ok (.invokevirtual 112, 3) := by decide +kernel
theorem dX7_ladder_69 : decode cX7_ladder 69 = .ok (.ireturn, 1) := by decide +kernel
