theorem dX2_avoidNothing_0 : decode cX2_avoidNothing 0 = .ok (.aload_n 0, 1) := by decide +kernel
theorem dX2_avoidNothing_1 : decode cX2_avoidNothing 1 = .ok (.iconst 0, 1) := by decide +kernel
theorem dX2_avoidNothing_2 : decode cX2_avoidNothing 2 = .ok (.putfield 32, 3) := by decide +kernel
theorem dX2_avoidNothing_5 : decode cX2_avoidNothing 5 = .ok (.return_, 1) := by decide +kernel
theorem dX2_avoid_0 : decode cX2_avoid 0 = .ok (.aload_n 0, 1) := by decide +kernel
theorem dX2_avoid_1 : decode cX2_avoid 1 = .ok (.getfield 32, 3) := by decide +kernel
theorem dX2_avoid_4 : decode cX2_avoid 4 = .ok (.bipush 6, 2) := by decide +kernel
theorem dX2_avoid_6 : decode cX2_avoid 6 = .ok (.if_icmp .ge 23, 3) := by decide +kernel
theorem dX2_avoid_9 : decode cX2_avoid 9 = .ok (.aload_n 0, 1) := by decide +kernel
theorem dX2_avoid_10 : decode cX2_avoid 10 = .ok (.getfield 29, 3) := by decide +kernel
theorem dX2_avoid_13 : decode cX2_avoid 13 = .ok (.aload_n 0, 1) := by decide +kernel
theorem dX2_avoid_14 : decode cX2_avoid 14 = .ok (.getfield 32, 3) := by decide +kernel
theorem dX2_avoid_17 : decode cX2_avoid 17 = .ok (.iload_n 1, 1) := by decide +kernel
theorem dX2_avoid_18 : decode cX2_avoid 18 = .ok (.iastore, 1) := by decide +kernel
theorem dX2_avoid_19 : decode cX2_avoid 19 = .ok (.aload_n 0, 1) := by decide +kernel
theorem dX2_avoid_20 : decode cX2_avoid 20 = .ok (.dup, 1) := by decide +kernel
theorem dX2_avoid_21 : decode cX2_avoid 21 = .ok (.getfield 32, 3) := by decide +kernel
theorem dX2_avoid_24 : decode cX2_avoid 24 = .ok (.iconst 1, 1) := by decide +kernel
theorem dX2_avoid_25 : decode cX2_avoid 25 = .ok (.iadd, 1) := by decide +kernel
theorem dX2_avoid_26 : decode cX2_avoid 26 = .ok (.putfield 32, 3) := by decide +kernel
theorem dX2_avoid_29 : decode cX2_avoid 29 = .ok (.return_, 1) := by decide +kernel
theorem dX2_foundLength_0 : decode cX2_foundLength 0 = .ok (.aload_n 0, 1) := by decide +kernel
theorem dX2_foundLength_1 : decode cX2_foundLength 1 = .ok (.getfield 19, 3) := by decide +kernel
theorem dX2_foundLength_4 : decode cX2_foundLength 4 = .ok (.iconst 1, 1) := by decide +kernel
theorem dX2_foundLength_5 : decode cX2_foundLength 5 = .ok (.iaload, 1) := by decide +kernel
theorem dX2_foundLength_6 : decode cX2_foundLength 6 = .ok (.ireturn, 1) := by decide +kernel
theorem dX2_countRoomCorners_0 : decode cX2_countRoomCorners 0 = .ok (.iconst 0, 1) := by decide +kernel
theorem dX2_countRoomCorners_1 : decode cX2_countRoomCorners 1 = .ok (.istore_n 1, 1) := by decide +kernel
theorem dX2_countRoomCorners_2 : decode cX2_countRoomCorners 2 = .ok (.iconst 2, 1) := by decide +kernel
theorem dX2_countRoomCorners_3 : decode cX2_countRoomCorners 3 = .ok (.istore_n 2, 1) := by decide +kernel
theorem dX2_countRoomCorners_4 : decode cX2_countRoomCorners 4 = .ok (.iload_n 2, 1) := by decide +kernel
theorem dX2_countRoomCorners_5 : decode cX2_countRoomCorners 5 = .ok (.aload_n 0, 1) := by decide +kernel
theorem dX2_countRoomCorners_6 : decode cX2_countRoomCorners 6 = .ok (.getfield 51, 3) := by decide +kernel
theorem dX2_countRoomCorners_9 : decode cX2_countRoomCorners 9 = .ok (.if_icmp .ge 22, 3) := by decide +kernel
theorem dX2_countRoomCorners_12 : decode cX2_countRoomCorners 12 = .ok (.aload_n 0, 1) := by decide +kernel
theorem dX2_countRoomCorners_13 : decode cX2_countRoomCorners 13 = .ok (.getfield 19, 3) := by decide +kernel
theorem dX2_countRoomCorners_16 : decode cX2_countRoomCorners 16 = .ok (.iload_n 2, 1) := by decide +kernel
theorem dX2_countRoomCorners_17 : decode cX2_countRoomCorners 17 = .ok (.iaload, 1) := by decide +kernel
theorem dX2_countRoomCorners_18 : decode cX2_countRoomCorners 18 = .ok (.iconst (-1), 1) := by decide +kernel
theorem dX2_countRoomCorners_19 : decode cX2_countRoomCorners 19 = .ok (.if_icmp .eq 6, 3) := by decide +kernel
theorem dX2_countRoomCorners_22 : decode cX2_countRoomCorners 22 = .ok (.iinc 1 1, 3) := by decide +kernel
theorem dX2_countRoomCorners_25 : decode cX2_countRoomCorners 25 = .ok (.iinc 2 1, 3) := by decide +kernel
theorem dX2_countRoomCorners_28 : decode cX2_countRoomCorners 28 = .ok (.goto (-24), 3) := by decide +kernel
theorem dX2_countRoomCorners_31 : decode cX2_countRoomCorners 31 = .ok (.iload_n 1, 1) := by decide +kernel
theorem dX2_countRoomCorners_32 : decode cX2_countRoomCorners 32 = .ok (.ireturn, 1) := by decide +kernel
theorem dX2_nearest_0 : decode cX2_nearest 0 = .ok (.iconst (-1), 1) := by decide +kernel
theorem dX2_nearest_1 : decode cX2_nearest 1 = .ok (.istore_n 1, 1) := by decide +kernel
theorem dX2_nearest_2 : decode cX2_nearest 2 = .ok (.iconst 0, 1) := by decide +kernel
theorem dX2_nearest_3 : decode cX2_nearest 3 = .ok (.istore_n 2, 1) := by decide +kernel
theorem dX2_nearest_4 : decode cX2_nearest 4 = .ok (.iload_n 2, 1) := by decide +kernel
theorem dX2_nearest_5 : decode cX2_nearest 5 = .ok (.aload_n 0, 1) := by decide +kernel
theorem dX2_nearest_6 : decode cX2_nearest 6 = .ok (.getfield 40, 3) := by decide +kernel
theorem dX2_nearest_9 : decode cX2_nearest 9 = .ok (.if_icmp .ge 60, 3) := by decide +kernel
theorem dX2_nearest_12 : decode cX2_nearest 12 = .ok (.aload_n 0, 1) := by decide +kernel
theorem dX2_nearest_13 : decode cX2_nearest 13 = .ok (.getfield 25, 3) := by decide +kernel
theorem dX2_nearest_16 : decode cX2_nearest 16 = .ok (.iload_n 2, 1) := by decide +kernel
theorem dX2_nearest_17 : decode cX2_nearest 17 = .ok (.baload, 1) := by decide +kernel
theorem dX2_nearest_18 : decode cX2_nearest 18 = .ok (.ifCond .ne 17, 3) := by decide +kernel
theorem dX2_nearest_21 : decode cX2_nearest 21 = .ok (.aload_n 0, 1) := by decide +kernel
theorem dX2_nearest_22 : decode cX2_nearest 22 = .ok (.getfield 19, 3) := by decide +kernel
theorem dX2_nearest_25 : decode cX2_nearest 25 = .ok (.iload_n 2, 1) := by decide +kernel
theorem dX2_nearest_26 : decode cX2_nearest 26 = .ok (.iaload, 1) := by decide +kernel
theorem dX2_nearest_27 : decode cX2_nearest 27 = .ok (.iconst (-1), 1) := by decide +kernel
theorem dX2_nearest_28 : decode cX2_nearest 28 = .ok (.if_icmp .eq 7, 3) := by decide +kernel
theorem dX2_nearest_31 : decode cX2_nearest 31 = .ok (.iconst 1, 1) := by decide +kernel
theorem dX2_nearest_32 : decode cX2_nearest 32 = .ok (.goto 4, 3) := by decide +kernel
theorem dX2_nearest_35 : decode cX2_nearest 35 = .ok (.iconst 0, 1) := by decide +kernel
theorem dX2_nearest_36 : decode cX2_nearest 36 = .ok (.istore_n 3, 1) := by decide +kernel
theorem dX2_nearest_37 : decode cX2_nearest 37 = .ok (.iload_n 3, 1) := by decide +kernel
theorem dX2_nearest_38 : decode cX2_nearest 38 = .ok (.ifCond .eq 25, 3) := by decide +kernel
theorem dX2_nearest_41 : decode cX2_nearest 41 = .ok (.iload_n 1, 1) := by decide +kernel
theorem dX2_nearest_42 : decode cX2_nearest 42 = .ok (.iconst (-1), 1) := by decide +kernel
theorem dX2_nearest_43 : decode cX2_nearest 43 = .ok (.if_icmp .eq 18, 3) := by decide +kernel
theorem dX2_nearest_46 : decode cX2_nearest 46 = .ok (.aload_n 0, 1) := by decide +kernel
theorem dX2_nearest_47 : decode cX2_nearest 47 = .ok (.getfield 19, 3) := by decide +kernel
theorem dX2_nearest_50 : decode cX2_nearest 50 = .ok (.iload_n 2, 1) := by decide +kernel
theorem dX2_nearest_51 : decode cX2_nearest 51 = .ok (.iaload, 1) := by decide +kernel
theorem dX2_nearest_52 : decode cX2_nearest 52 = .ok (.aload_n 0, 1) := by decide +kernel
theorem dX2_nearest_53 : decode cX2_nearest 53 = .ok (.getfield 19, 3) := by decide +kernel
theorem dX2_nearest_56 : decode cX2_nearest 56 = .ok (.iload_n 1, 1) := by decide +kernel
theorem dX2_nearest_57 : decode cX2_nearest 57 = .ok (.iaload, 1) := by decide +kernel
theorem dX2_nearest_58 : decode cX2_nearest 58 = .ok (.if_icmp .ge 5, 3) := by decide +kernel
theorem dX2_nearest_61 : decode cX2_nearest 61 = .ok (.iload_n 2, 1) := by decide +kernel
theorem dX2_nearest_62 : decode cX2_nearest 62 = .ok (.istore_n 1, 1) := by decide +kernel
theorem dX2_nearest_63 : decode cX2_nearest 63 = .ok (.iinc 2 1, 3) := by decide +kernel
theorem dX2_nearest_66 : decode cX2_nearest 66 = .ok (.goto (-62), 3) := by decide +kernel
theorem dX2_nearest_69 : decode cX2_nearest 69 = .ok (.iload_n 1, 1) := by decide +kernel
theorem dX2_nearest_70 : decode cX2_nearest 70 = .ok (.ireturn, 1) := by decide +kernel
theorem dX2_addNode_0 : decode cX2_addNode 0 = .ok (.aload_n 0, 1) := by decide +kernel
theorem dX2_addNode_1 : decode cX2_addNode 1 = .ok (.getfield 40, 3) := by decide +kernel
theorem dX2_addNode_4 : decode cX2_addNode 4 = .ok (.bipush 94, 2) := by decide +kernel
theorem dX2_addNode_6 : decode cX2_addNode 6 = .ok (.if_icmp .ge 53, 3) := by decide +kernel
theorem dX2_addNode_9 : decode cX2_addNode 9 = .ok (.aload_n 0, 1) := by decide +kernel
theorem dX2_addNode_10 : decode cX2_addNode 10 = .ok (.getfield 15, 3) := by decide +kernel
theorem dX2_addNode_13 : decode cX2_addNode 13 = .ok (.aload_n 0, 1) := by decide +kernel
theorem dX2_addNode_14 : decode cX2_addNode 14 = .ok (.getfield 40, 3) := by decide +kernel
theorem dX2_addNode_17 : decode cX2_addNode 17 = .ok (.iload_n 1, 1) := by decide +kernel
theorem dX2_addNode_18 : decode cX2_addNode 18 = .ok (.iastore, 1) := by decide +kernel
theorem dX2_addNode_19 : decode cX2_addNode 19 = .ok (.aload_n 0, 1) := by decide +kernel
theorem dX2_addNode_20 : decode cX2_addNode 20 = .ok (.getfield 19, 3) := by decide +kernel
theorem dX2_addNode_23 : decode cX2_addNode 23 = .ok (.aload_n 0, 1) := by decide +kernel
theorem dX2_addNode_24 : decode cX2_addNode 24 = .ok (.getfield 40, 3) := by decide +kernel
theorem dX2_addNode_27 : decode cX2_addNode 27 = .ok (.iconst (-1), 1) := by decide +kernel
theorem dX2_addNode_28 : decode cX2_addNode 28 = .ok (.iastore, 1) := by decide +kernel
theorem dX2_addNode_29 : decode cX2_addNode 29 = .ok (.aload_n 0, 1) := by decide +kernel
theorem dX2_addNode_30 : decode cX2_addNode 30 = .ok (.getfield 22, 3) := by decide +kernel
theorem dX2_addNode_33 : decode cX2_addNode 33 = .ok (.aload_n 0, 1) := by decide +kernel
theorem dX2_addNode_34 : decode cX2_addNode 34 = .ok (.getfield 40, 3) := by decide +kernel
theorem dX2_addNode_37 : decode cX2_addNode 37 = .ok (.iconst 0, 1) := by decide +kernel
theorem dX2_addNode_38 : decode cX2_addNode 38 = .ok (.iastore, 1) := by decide +kernel
theorem dX2_addNode_39 : decode cX2_addNode 39 = .ok (.aload_n 0, 1) := by decide +kernel
theorem dX2_addNode_40 : decode cX2_addNode 40 = .ok (.getfield 25, 3) := by decide +kernel
theorem dX2_addNode_43 : decode cX2_addNode 43 = .ok (.aload_n 0, 1) := by decide +kernel
theorem dX2_addNode_44 : decode cX2_addNode 44 = .ok (.getfield 40, 3) := by decide +kernel
theorem dX2_addNode_47 : decode cX2_addNode 47 = .ok (.iconst 0, 1) := by decide +kernel
theorem dX2_addNode_48 : decode cX2_addNode 48 = .ok (.bastore, 1) := by decide +kernel
theorem dX2_addNode_49 : decode cX2_addNode 49 = .ok (.aload_n 0, 1) := by decide +kernel
theorem dX2_addNode_50 : decode cX2_addNode 50 = .ok (.dup, 1) := by decide +kernel
theorem dX2_addNode_51 : decode cX2_addNode 51 = .ok (.getfield 40, 3) := by decide +kernel
theorem dX2_addNode_54 : decode cX2_addNode 54 = .ok (.iconst 1, 1) := by decide +kernel
theorem dX2_addNode_55 : decode cX2_addNode 55 = .ok (.iadd, 1) := by decide +kernel
theorem dX2_addNode_56 : decode cX2_addNode 56 = .ok (.putfield 40, 3) := by decide +kernel
theorem dX2_addNode_59 : decode cX2_addNode 59 = .ok (.return_, 1) := by decide +kernel
set_option maxRecDepth 20000 in
theorem ggX2_addIfFree_X3_isGround : GoodIn wsX2_addIfFree wsX3_isGround := goodIn_r _ [8, 9, 10, 11, 12, 13, 14, 15, 16, 17, 18, 19, 20, 21, 22, 23, 24, 25, 26, 27, 28, 29, 30, 31, 32, 33, 34, 54, 55, 56, 57, 58, 59, 60, 61, 62, 63, 64, 65, 66, 67, 68, 69, 70] (by decide +kernel) (by decide +kernel)
set_option maxRecDepth 20000 in
theorem gX2_addIfFree_X3_isGround : GoodIn wsX2_addIfFree (wsV RX2 99 RX3 yX3_isGround wsX3_isGround) := goodIn_app (goodIn_of _ (by decide +kernel)) ggX2_addIfFree_X3_isGround
set_option maxRecDepth 20000 in
theorem ggX2_addIfFree_X2_addNode : GoodIn wsX2_addIfFree wsX2_addNode := goodIn_r _ [39, 40, 41, 42, 43, 44, 45, 46, 47, 48, 49, 50, 51, 52, 53] (by decide +kernel) (by decide +kernel)
set_option maxRecDepth 20000 in
theorem gX2_addIfFree_X2_addNode : GoodIn wsX2_addIfFree (wsV RX2 58 RX2 yX2_addNode wsX2_addNode) := goodIn_app (goodIn_of _ (by decide +kernel)) ggX2_addIfFree_X2_addNode
theorem dX2_addIfFree_0 : decode cX2_addIfFree 0 = .ok (.iconst 0, 1) := by decide +kernel
theorem dX2_addIfFree_1 : decode cX2_addIfFree 1 = .ok (.istore_n 2, 1) := by decide +kernel
theorem dX2_addIfFree_2 : decode cX2_addIfFree 2 = .ok (.iload_n 2, 1) := by decide +kernel
theorem dX2_addIfFree_3 : decode cX2_addIfFree 3 = .ok (.aload_n 0, 1) := by decide +kernel
theorem dX2_addIfFree_4 : decode cX2_addIfFree 4 = .ok (.getfield 32, 3) := by decide +kernel
theorem dX2_addIfFree_7 : decode cX2_addIfFree 7 = .ok (.if_icmp .ge 20, 3) := by decide +kernel
theorem dX2_addIfFree_10 : decode cX2_addIfFree 10 = .ok (.aload_n 0, 1) := by decide +kernel
theorem dX2_addIfFree_11 : decode cX2_addIfFree 11 = .ok (.getfield 29, 3) := by decide +kernel
theorem dX2_addIfFree_14 : decode cX2_addIfFree 14 = .ok (.iload_n 2, 1) := by decide +kernel
theorem dX2_addIfFree_15 : decode cX2_addIfFree 15 = .ok (.iaload, 1) := by decide +kernel
theorem dX2_addIfFree_16 : decode cX2_addIfFree 16 = .ok (.iload_n 1, 1) := by decide +kernel
theorem dX2_addIfFree_17 : decode cX2_addIfFree 17 = .ok (.if_icmp .ne 4, 3) := by decide +kernel
theorem dX2_addIfFree_20 : decode cX2_addIfFree 20 = .ok (.return_, 1) := by decide +kernel
theorem dX2_addIfFree_21 : decode cX2_addIfFree 21 = .ok (.iinc 2 1, 3) := by decide +kernel
theorem dX2_addIfFree_24 : decode cX2_addIfFree 24 = .ok (.goto (-22), 3) := by decide +kernel
theorem dX2_addIfFree_27 : decode cX2_addIfFree 27 = .ok (.aload_n 0, 1) := by decide +kernel
theorem dX2_addIfFree_28 : decode cX2_addIfFree 28 = .ok (.getfield 9, 3) := by decide +kernel
theorem dX2_addIfFree_31 : decode cX2_addIfFree 31 = .ok (.iload_n 1, 1) := by decide +kernel
theorem dX2_addIfFree_32 : decode cX2_addIfFree 32 = .ok (.invokevirtual 99, 3) := by decide +kernel
theorem dX2_addIfFree_35 : decode cX2_addIfFree 35 = .ok (.ifCond .eq 8, 3) := by decide +kernel
theorem dX2_addIfFree_38 : decode cX2_addIfFree 38 = .ok (.aload_n 0, 1) := by decide +kernel
theorem dX2_addIfFree_39 : decode cX2_addIfFree 39 = .ok (.iload_n 1, 1) := by decide +kernel
theorem dX2_addIfFree_40 : decode cX2_addIfFree 40 = .ok (.invokevirtual 58, 3) := by decide +kernel
theorem dX2_addIfFree_43 : decode cX2_addIfFree 43 = .ok (.return_, 1) := by decide +kernel
set_option maxRecDepth 20000 in
theorem ggX2_gather_X2_addNode : GoodIn wsX2_gather wsX2_addNode := goodIn_r _ [16, 1, 17, 18, 19, 20, 64, 65, 66, 67, 68, 69, 70, 71, 72] (by decide +kernel) (by decide +kernel)
set_option maxRecDepth 20000 in
theorem gX2_gather_X2_addNode : GoodIn wsX2_gather (wsV RX2 58 RX2 yX2_addNode wsX2_addNode) := goodIn_app (goodIn_of _ (by decide +kernel)) ggX2_gather_X2_addNode
set_option maxRecDepth 20000 in
theorem ggX2_gather_X0_corner : GoodIn wsX2_gather wsX0_corner := goodIn_r _ [25, 26, 27, 28, 29, 30, 31, 32, 33, 84, 85, 86, 87, 88, 89] (by decide +kernel) (by decide +kernel)
set_option maxRecDepth 20000 in
theorem gX2_gather_X0_corner : GoodIn wsX2_gather (wsV RX2 74 RX0 yX0_corner wsX0_corner) := goodIn_app (goodIn_of _ (by decide +kernel)) ggX2_gather_X0_corner
set_option maxRecDepth 20000 in
theorem ggX2_gather_X2_addIfFree : GoodIn wsX2_gather wsX2_addIfFree := goodIn_r _ [37, 38, 39, 2, 40, 41, 42, 43, 44, 45, 46, 47, 48, 49, 50, 32, 51, 52, 53, 54, 55, 56, 57, 58, 24, 59, 26, 28, 27, 30, 29, 60, 61, 62, 63, 12, 13, 14, 15, 16, 1, 17, 18, 19, 20, 64, 65, 66, 67, 68, 69, 70, 71, 72, 73, 74, 75, 76, 77, 78, 79, 80, 81, 82, 83, 84, 85, 86, 87, 88, 89] (by decide +kernel) (by decide +kernel)
set_option maxRecDepth 20000 in
theorem gX2_gather_X2_addIfFree : GoodIn wsX2_gather (wsV RX2 80 RX2 yX2_addIfFree wsX2_addIfFree) := goodIn_app (goodIn_of _ (by decide +kernel)) ggX2_gather_X2_addIfFree
theorem dX2_gather_0 : decode cX2_gather 0 = .ok (.aload_n 0, 1) := by decide +kernel
theorem dX2_gather_1 : decode cX2_gather 1 = .ok (.iconst 0, 1) := by decide +kernel
theorem dX2_gather_2 : decode cX2_gather 2 = .ok (.putfield 40, 3) := by decide +kernel
theorem dX2_gather_5 : decode cX2_gather 5 = .ok (.aload_n 0, 1) := by decide +kernel
theorem dX2_gather_6 : decode cX2_gather 6 = .ok (.iload_n 1, 1) := by decide +kernel
theorem dX2_gather_7 : decode cX2_gather 7 = .ok (.invokevirtual 58, 3) := by decide +kernel
theorem dX2_gather_10 : decode cX2_gather 10 = .ok (.aload_n 0, 1) := by decide +kernel
theorem dX2_gather_11 : decode cX2_gather 11 = .ok (.iload_n 2, 1) := by decide +kernel
theorem dX2_gather_12 : decode cX2_gather 12 = .ok (.invokevirtual 58, 3) := by decide +kernel
theorem dX2_gather_15 : decode cX2_gather 15 = .ok (.iconst 0, 1) := by decide +kernel
theorem dX2_gather_16 : decode cX2_gather 16 = .ok (.istore_n 3, 1) := by decide +kernel
theorem dX2_gather_17 : decode cX2_gather 17 = .ok (.iload_n 3, 1) := by decide +kernel
theorem dX2_gather_18 : decode cX2_gather 18 = .ok (.aload_n 0, 1) := by decide +kernel
theorem dX2_gather_19 : decode cX2_gather 19 = .ok (.getfield 9, 3) := by decide +kernel
theorem dX2_gather_22 : decode cX2_gather 22 = .ok (.getfield 61, 3) := by decide +kernel
theorem dX2_gather_25 : decode cX2_gather 25 = .ok (.getfield 67, 3) := by decide +kernel
theorem dX2_gather_28 : decode cX2_gather 28 = .ok (.iconst 4, 1) := by decide +kernel
theorem dX2_gather_29 : decode cX2_gather 29 = .ok (.imul, 1) := by decide +kernel
theorem dX2_gather_30 : decode cX2_gather 30 = .ok (.if_icmp .ge 33, 3) := by decide +kernel
theorem dX2_gather_33 : decode cX2_gather 33 = .ok (.aload_n 0, 1) := by decide +kernel
theorem dX2_gather_34 : decode cX2_gather 34 = .ok (.aload_n 0, 1) := by decide +kernel
theorem dX2_gather_35 : decode cX2_gather 35 = .ok (.getfield 9, 3) := by decide +kernel
theorem dX2_gather_38 : decode cX2_gather 38 = .ok (.getfield 61, 3) := by decide +kernel
theorem dX2_gather_41 : decode cX2_gather 41 = .ok (.getfield 70, 3) := by decide +kernel
theorem dX2_gather_44 : decode cX2_gather 44 = .ok (.iload_n 3, 1) := by decide +kernel
theorem dX2_gather_45 : decode cX2_gather 45 = .ok (.iconst 4, 1) := by decide +kernel
theorem dX2_gather_46 : decode cX2_gather 46 = .ok (.idiv, 1) := by decide +kernel
theorem dX2_gather_47 : decode cX2_gather 47 = .ok (.aaload, 1) := by decide +kernel
theorem dX2_gather_48 : decode cX2_gather 48 = .ok (.iload_n 3, 1) := by decide +kernel
theorem dX2_gather_49 : decode cX2_gather 49 = .ok (.iconst 4, 1) := by decide +kernel
theorem dX2_gather_50 : decode cX2_gather 50 = .ok (.irem, 1) := by decide +kernel
theorem dX2_gather_51 : decode cX2_gather 51 = .ok (.invokevirtual 74, 3) := by decide +kernel
theorem dX2_gather_54 : decode cX2_gather 54 = .ok (.invokevirtual 80, 3) := by decide +kernel
theorem dX2_gather_57 : decode cX2_gather 57 = .ok (.iinc 3 1, 3) := by decide +kernel
theorem dX2_gather_60 : decode cX2_gather 60 = .ok (.goto (-43), 3) := by decide +kernel
theorem dX2_gather_63 : decode cX2_gather 63 = .ok (.aload_n 0, 1) := by decide +kernel
theorem dX2_gather_64 : decode cX2_gather 64 = .ok (.aload_n 0, 1) := by decide +kernel
theorem dX2_gather_65 : decode cX2_gather 65 = .ok (.getfield 40, 3) := by decide +kernel
theorem dX2_gather_68 : decode cX2_gather 68 = .ok (.putfield 51, 3) := by decide +kernel
theorem dX2_gather_71 : decode cX2_gather 71 = .ok (.iconst 0, 1) := by decide +kernel
theorem dX2_gather_72 : decode cX2_gather 72 = .ok (.istore_n 3, 1) := by decide +kernel
theorem dX2_gather_73 : decode cX2_gather 73 = .ok (.iload_n 3, 1) := by decide +kernel
theorem dX2_gather_74 : decode cX2_gather 74 = .ok (.bipush 32, 2) := by decide +kernel
theorem dX2_gather_76 : decode cX2_gather 76 = .ok (.if_icmp .ge 45, 3) := by decide +kernel
theorem dX2_gather_79 : decode cX2_gather 79 = .ok (.aload_n 0, 1) := by decide +kernel
theorem dX2_gather_80 : decode cX2_gather 80 = .ok (.getfield 9, 3) := by decide +kernel
theorem dX2_gather_83 : decode cX2_gather 83 = .ok (.getfield 83, 3) := by decide +kernel
theorem dX2_gather_86 : decode cX2_gather 86 = .ok (.getfield 70, 3) := by decide +kernel
theorem dX2_gather_89 : decode cX2_gather 89 = .ok (.iload_n 3, 1) := by decide +kernel
theorem dX2_gather_90 : decode cX2_gather 90 = .ok (.iconst 4, 1) := by decide +kernel
theorem dX2_gather_91 : decode cX2_gather 91 = .ok (.idiv, 1) := by decide +kernel
theorem dX2_gather_92 : decode cX2_gather 92 = .ok (.aaload, 1) := by decide +kernel
theorem dX2_gather_93 : decode cX2_gather 93 = .ok (.astore 4, 2) := by decide +kernel
theorem dX2_gather_95 : decode cX2_gather 95 = .ok (.aload 4, 2) := by decide +kernel
theorem dX2_gather_97 : decode cX2_gather 97 = .ok (.getfield 86, 3) := by decide +kernel
theorem dX2_gather_100 : decode cX2_gather 100 = .ok (.ifCond .eq 15, 3) := by decide +kernel
theorem dX2_gather_103 : decode cX2_gather 103 = .ok (.aload_n 0, 1) := by decide +kernel
theorem dX2_gather_104 : decode cX2_gather 104 = .ok (.aload 4, 2) := by decide +kernel
theorem dX2_gather_106 : decode cX2_gather 106 = .ok (.iload_n 3, 1) := by decide +kernel
theorem dX2_gather_107 : decode cX2_gather 107 = .ok (.iconst 4, 1) := by decide +kernel
theorem dX2_gather_108 : decode cX2_gather 108 = .ok (.irem, 1) := by decide +kernel
theorem dX2_gather_109 : decode cX2_gather 109 = .ok (.invokevirtual 74, 3) := by decide +kernel
theorem dX2_gather_112 : decode cX2_gather 112 = .ok (.invokevirtual 80, 3) := by decide +kernel
theorem dX2_gather_115 : decode cX2_gather 115 = .ok (.iinc 3 1, 3) := by decide +kernel
theorem dX2_gather_118 : decode cX2_gather 118 = .ok (.goto (-45), 3) := by decide +kernel
theorem dX2_gather_121 : decode cX2_gather 121 = .ok (.iconst 0, 1) := by decide +kernel
theorem dX2_gather_122 : decode cX2_gather 122 = .ok (.istore_n 3, 1) := by decide +kernel
theorem dX2_gather_123 : decode cX2_gather 123 = .ok (.iload_n 3, 1) := by decide +kernel
theorem dX2_gather_124 : decode cX2_gather 124 = .ok (.aload_n 0, 1) := by decide +kernel
theorem dX2_gather_125 : decode cX2_gather 125 = .ok (.getfield 9, 3) := by decide +kernel
theorem dX2_gather_128 : decode cX2_gather 128 = .ok (.getfield 90, 3) := by decide +kernel
theorem dX2_gather_131 : decode cX2_gather 131 = .ok (.if_icmp .ge 35, 3) := by decide +kernel
theorem dX2_gather_134 : decode cX2_gather 134 = .ok (.aload_n 0, 1) := by decide +kernel
theorem dX2_gather_135 : decode cX2_gather 135 = .ok (.aload_n 0, 1) := by decide +kernel
theorem dX2_gather_136 : decode cX2_gather 136 = .ok (.getfield 9, 3) := by decide +kernel
theorem dX2_gather_139 : decode cX2_gather 139 = .ok (.getfield 93, 3) := by decide +kernel
theorem dX2_gather_142 : decode cX2_gather 142 = .ok (.iload_n 3, 1) := by decide +kernel
theorem dX2_gather_143 : decode cX2_gather 143 = .ok (.iaload, 1) := by decide +kernel
theorem dX2_gather_144 : decode cX2_gather 144 = .ok (.invokevirtual 80, 3) := by decide +kernel
theorem dX2_gather_147 : decode cX2_gather 147 = .ok (.aload_n 0, 1) := by decide +kernel
theorem dX2_gather_148 : decode cX2_gather 148 = .ok (.aload_n 0, 1) := by decide +kernel
theorem dX2_gather_149 : decode cX2_gather 149 = .ok (.getfield 9, 3) := by decide +kernel
theorem dX2_gather_152 : decode cX2_gather 152 = .ok (.getfield 96, 3) := by decide +kernel
theorem dX2_gather_155 : decode cX2_gather 155 = .ok (.iload_n 3, 1) := by decide +kernel
theorem dX2_gather_156 : decode cX2_gather 156 = .ok (.iaload, 1) := by decide +kernel
theorem dX2_gather_157 : decode cX2_gather 157 = .ok (.invokevirtual 80, 3) := by decide +kernel
theorem dX2_gather_160 : decode cX2_gather 160 = .ok (.iinc 3 1, 3) := by decide +kernel
theorem dX2_gather_163 : decode cX2_gather 163 = .ok (.goto (-40), 3) := by decide +kernel
theorem dX2_gather_166 : decode cX2_gather 166 = .ok (.return_, 1) := by decide +kernel
set_option maxRecDepth 20000 in
theorem ggX2_spreadFrom_X3_stepLength : GoodIn wsX2_spreadFrom wsX3_stepLength := goodIn_r _ [11, 12, 13, 14, 15, 16, 17, 18, 10, 19, 20, 21, 22, 23, 24, 25, 26, 27, 28, 29, 128, 129, 130, 131, 132, 133, 134, 135, 136] (by decide +kernel) (by decide +kernel)
set_option maxRecDepth 20000 in
theorem gX2_spreadFrom_X3_stepLength : GoodIn wsX2_spreadFrom (wsV RX2 103 RX3 yX3_stepLength wsX3_stepLength) := goodIn_app (goodIn_of _ (by decide +kernel)) ggX2_spreadFrom_X3_stepLength
set_option maxRecDepth 20000 in
theorem ggX2_spreadFrom_X3_judge : GoodIn wsX2_spreadFrom wsX3_judge := goodIn_r _ [33, 34, 13, 14, 15, 16, 17, 18, 10, 19, 20, 21, 22, 23, 35, 36, 37, 38, 39, 40, 41, 42, 43, 24, 25, 26, 27, 44, 45, 46, 47, 48, 49, 50, 51, 52, 53, 54, 55, 56, 57, 58, 59, 60, 61, 62, 63, 64, 65, 66, 67, 68, 69, 70, 71, 72, 73, 74, 75, 76, 77, 78, 79, 80, 81, 82, 83, 84, 85, 86, 87, 88, 89, 90, 91, 92, 93, 94, 95, 96, 97, 98, 99, 100, 101, 102, 103, 104, 105, 106, 107, 108, 109, 110, 111, 112, 113, 114, 115, 116, 117, 118, 128, 129, 130, 131, 132, 133, 134, 135, 136, 137, 138, 139, 140, 141, 142, 143, 144, 145, 146, 147, 148, 149, 150, 151, 152, 153, 154] (by decide +kernel) (by decide +kernel)
set_option maxRecDepth 20000 in
theorem gX2_spreadFrom_X3_judge : GoodIn wsX2_spreadFrom (wsV RX2 107 RX3 yX3_judge wsX3_judge) := goodIn_app (goodIn_of _ (by decide +kernel)) ggX2_spreadFrom_X3_judge
theorem dX2_spreadFrom_0 : decode cX2_spreadFrom 0 = .ok (.iconst 0, 1) := by decide +kernel
theorem dX2_spreadFrom_1 : decode cX2_spreadFrom 1 = .ok (.istore_n 2, 1) := by decide +kernel
theorem dX2_spreadFrom_2 : decode cX2_spreadFrom 2 = .ok (.iload_n 2, 1) := by decide +kernel
theorem dX2_spreadFrom_3 : decode cX2_spreadFrom 3 = .ok (.aload_n 0, 1) := by decide +kernel
theorem dX2_spreadFrom_4 : decode cX2_spreadFrom 4 = .ok (.getfield 40, 3) := by decide +kernel
theorem dX2_spreadFrom_7 : decode cX2_spreadFrom 7 = .ok (.if_icmp .ge 130, 3) := by decide +kernel
theorem dX2_spreadFrom_10 : decode cX2_spreadFrom 10 = .ok (.aload_n 0, 1) := by decide +kernel
theorem dX2_spreadFrom_11 : decode cX2_spreadFrom 11 = .ok (.getfield 25, 3) := by decide +kernel
theorem dX2_spreadFrom_14 : decode cX2_spreadFrom 14 = .ok (.iload_n 2, 1) := by decide +kernel
theorem dX2_spreadFrom_15 : decode cX2_spreadFrom 15 = .ok (.baload, 1) := by decide +kernel
theorem dX2_spreadFrom_16 : decode cX2_spreadFrom 16 = .ok (.ifCond .eq 6, 3) := by decide +kernel
theorem dX2_spreadFrom_19 : decode cX2_spreadFrom 19 = .ok (.goto 112, 3) := by decide +kernel
theorem dX2_spreadFrom_22 : decode cX2_spreadFrom 22 = .ok (.aload_n 0, 1) := by decide +kernel
theorem dX2_spreadFrom_23 : decode cX2_spreadFrom 23 = .ok (.getfield 9, 3) := by decide +kernel
theorem dX2_spreadFrom_26 : decode cX2_spreadFrom 26 = .ok (.aload_n 0, 1) := by decide +kernel
theorem dX2_spreadFrom_27 : decode cX2_spreadFrom 27 = .ok (.getfield 15, 3) := by decide +kernel
theorem dX2_spreadFrom_30 : decode cX2_spreadFrom 30 = .ok (.iload_n 1, 1) := by decide +kernel
theorem dX2_spreadFrom_31 : decode cX2_spreadFrom 31 = .ok (.iaload, 1) := by decide +kernel
theorem dX2_spreadFrom_32 : decode cX2_spreadFrom 32 = .ok (.aload_n 0, 1) := by decide +kernel
theorem dX2_spreadFrom_33 : decode cX2_spreadFrom 33 = .ok (.getfield 15, 3) := by decide +kernel
theorem dX2_spreadFrom_36 : decode cX2_spreadFrom 36 = .ok (.iload_n 2, 1) := by decide +kernel
theorem dX2_spreadFrom_37 : decode cX2_spreadFrom 37 = .ok (.iaload, 1) := by decide +kernel
theorem dX2_spreadFrom_38 : decode cX2_spreadFrom 38 = .ok (.invokevirtual 103, 3) := by decide +kernel
theorem dX2_spreadFrom_41 : decode cX2_spreadFrom 41 = .ok (.istore_n 3, 1) := by decide +kernel
theorem dX2_spreadFrom_42 : decode cX2_spreadFrom 42 = .ok (.iload_n 3, 1) := by decide +kernel
theorem dX2_spreadFrom_43 : decode cX2_spreadFrom 43 = .ok (.iconst (-1), 1) := by decide +kernel
theorem dX2_spreadFrom_44 : decode cX2_spreadFrom 44 = .ok (.if_icmp .ne 6, 3) := by decide +kernel
theorem dX2_spreadFrom_47 : decode cX2_spreadFrom 47 = .ok (.goto 84, 3) := by decide +kernel
theorem dX2_spreadFrom_50 : decode cX2_spreadFrom 50 = .ok (.aload_n 0, 1) := by decide +kernel
theorem dX2_spreadFrom_51 : decode cX2_spreadFrom 51 = .ok (.getfield 19, 3) := by decide +kernel
theorem dX2_spreadFrom_54 : decode cX2_spreadFrom 54 = .ok (.iload_n 1, 1) := by decide +kernel
theorem dX2_spreadFrom_55 : decode cX2_spreadFrom 55 = .ok (.iaload, 1) := by decide +kernel
theorem dX2_spreadFrom_56 : decode cX2_spreadFrom 56 = .ok (.iload_n 3, 1) := by decide +kernel
theorem dX2_spreadFrom_57 : decode cX2_spreadFrom 57 = .ok (.iadd, 1) := by decide +kernel
theorem dX2_spreadFrom_58 : decode cX2_spreadFrom 58 = .ok (.istore 4, 2) := by decide +kernel
theorem dX2_spreadFrom_60 : decode cX2_spreadFrom 60 = .ok (.aload_n 0, 1) := by decide +kernel
theorem dX2_spreadFrom_61 : decode cX2_spreadFrom 61 = .ok (.getfield 19, 3) := by decide +kernel
theorem dX2_spreadFrom_64 : decode cX2_spreadFrom 64 = .ok (.iload_n 2, 1) := by decide +kernel
theorem dX2_spreadFrom_65 : decode cX2_spreadFrom 65 = .ok (.iaload, 1) := by decide +kernel
theorem dX2_spreadFrom_66 : decode cX2_spreadFrom 66 = .ok (.iconst (-1), 1) := by decide +kernel
theorem dX2_spreadFrom_67 : decode cX2_spreadFrom 67 = .ok (.if_icmp .eq 14, 3) := by decide +kernel
theorem dX2_spreadFrom_70 : decode cX2_spreadFrom 70 = .ok (.iload 4, 2) := by decide +kernel
theorem dX2_spreadFrom_72 : decode cX2_spreadFrom 72 = .ok (.aload_n 0, 1) := by decide +kernel
theorem dX2_spreadFrom_73 : decode cX2_spreadFrom 73 = .ok (.getfield 19, 3) := by decide +kernel
theorem dX2_spreadFrom_76 : decode cX2_spreadFrom 76 = .ok (.iload_n 2, 1) := by decide +kernel
theorem dX2_spreadFrom_77 : decode cX2_spreadFrom 77 = .ok (.iaload, 1) := by decide +kernel
theorem dX2_spreadFrom_78 : decode cX2_spreadFrom 78 = .ok (.if_icmp .ge 7, 3) := by decide +kernel
theorem dX2_spreadFrom_81 : decode cX2_spreadFrom 81 = .ok (.iconst 1, 1) := by decide +kernel
theorem dX2_spreadFrom_82 : decode cX2_spreadFrom 82 = .ok (.goto 4, 3) := by decide +kernel
theorem dX2_spreadFrom_85 : decode cX2_spreadFrom 85 = .ok (.iconst 0, 1) := by decide +kernel
theorem dX2_spreadFrom_86 : decode cX2_spreadFrom 86 = .ok (.istore 5, 2) := by decide +kernel
theorem dX2_spreadFrom_88 : decode cX2_spreadFrom 88 = .ok (.iload 5, 2) := by decide +kernel
theorem dX2_spreadFrom_90 : decode cX2_spreadFrom 90 = .ok (.ifCond .eq 41, 3) := by decide +kernel
theorem dX2_spreadFrom_93 : decode cX2_spreadFrom 93 = .ok (.aload_n 0, 1) := by decide +kernel
theorem dX2_spreadFrom_94 : decode cX2_spreadFrom 94 = .ok (.getfield 9, 3) := by decide +kernel
theorem dX2_spreadFrom_97 : decode cX2_spreadFrom 97 = .ok (.aload_n 0, 1) := by decide +kernel
theorem dX2_spreadFrom_98 : decode cX2_spreadFrom 98 = .ok (.getfield 15, 3) := by decide +kernel
theorem dX2_spreadFrom_101 : decode cX2_spreadFrom 101 = .ok (.iload_n 1, 1) := by decide +kernel
theorem dX2_spreadFrom_102 : decode cX2_spreadFrom 102 = .ok (.iaload, 1) := by decide +kernel
theorem dX2_spreadFrom_103 : decode cX2_spreadFrom 103 = .ok (.aload_n 0, 1) := by decide +kernel
theorem dX2_spreadFrom_104 : decode cX2_spreadFrom 104 = .ok (.getfield 15, 3) := by decide +kernel
theorem dX2_spreadFrom_107 : decode cX2_spreadFrom 107 = .ok (.iload_n 2, 1) := by decide +kernel
theorem dX2_spreadFrom_108 : decode cX2_spreadFrom 108 = .ok (.iaload, 1) := by decide +kernel
theorem dX2_spreadFrom_109 : decode cX2_spreadFrom 109 = .ok (.invokevirtual 107, 3) := by decide +kernel
theorem dX2_spreadFrom_112 : decode cX2_spreadFrom 112 = .ok (.iconst 1, 1) := by decide +kernel
theorem dX2_spreadFrom_113 : decode cX2_spreadFrom 113 = .ok (.if_icmp .ne 18, 3) := by decide +kernel
theorem dX2_spreadFrom_116 : decode cX2_spreadFrom 116 = .ok (.aload_n 0, 1) := by decide +kernel
theorem dX2_spreadFrom_117 : decode cX2_spreadFrom 117 = .ok (.getfield 19, 3) := by decide +kernel
theorem dX2_spreadFrom_120 : decode cX2_spreadFrom 120 = .ok (.iload_n 2, 1) := by decide +kernel
theorem dX2_spreadFrom_121 : decode cX2_spreadFrom 121 = .ok (.iload 4, 2) := by decide +kernel
theorem dX2_spreadFrom_123 : decode cX2_spreadFrom 123 = .ok (.iastore, 1) := by decide +kernel
theorem dX2_spreadFrom_124 : decode cX2_spreadFrom 124 = .ok (.aload_n 0, 1) := by decide +kernel
theorem dX2_spreadFrom_125 : decode cX2_spreadFrom 125 = .ok (.getfield 22, 3) := by decide +kernel
theorem dX2_spreadFrom_128 : decode cX2_spreadFrom 128 = .ok (.iload_n 2, 1) := by decide +kernel
theorem dX2_spreadFrom_129 : decode cX2_spreadFrom 129 = .ok (.iload_n 1, 1) := by decide +kernel
theorem dX2_spreadFrom_130 : decode cX2_spreadFrom 130 = .ok (.iastore, 1) := by decide +kernel
theorem dX2_spreadFrom_131 : decode cX2_spreadFrom 131 = .ok (.iinc 2 1, 3) := by decide +kernel
theorem dX2_spreadFrom_134 : decode cX2_spreadFrom 134 = .ok (.goto (-132), 3) := by decide +kernel
theorem dX2_spreadFrom_137 : decode cX2_spreadFrom 137 = .ok (.return_, 1) := by decide +kernel
set_option maxRecDepth 20000 in
theorem ggX2_explore_X2_gather : GoodIn wsX2_explore wsX2_gather := goodIn_r _ [8, 2, 9, 10, 11, 12, 13, 14, 15, 16, 17, 18, 19, 20, 21, 7, 22, 23, 1, 24, 3, 25, 26, 27, 28, 29, 30, 31, 32, 33, 34, 35, 36, 37, 38, 39, 40, 41, 42, 43, 44, 45, 46, 47, 48, 49, 50, 51, 52, 53, 54, 55, 56, 57, 58, 59, 60, 61, 62, 63, 64, 65, 66, 67, 158, 159, 160, 161, 162, 163, 164, 165, 166, 167, 168, 169, 170, 171, 172, 173, 174, 175, 176, 177, 178, 179, 180, 181, 182, 183] (by decide +kernel) (by decide +kernel)
set_option maxRecDepth 20000 in
theorem gX2_explore_X2_gather : GoodIn wsX2_explore (wsV RX2 36 RX2 yX2_gather wsX2_gather) := goodIn_app (goodIn_of _ (by decide +kernel)) ggX2_explore_X2_gather
set_option maxRecDepth 20000 in
theorem ggX2_explore_X2_nearest : GoodIn wsX2_explore wsX2_nearest := goodIn_r _ [71, 2, 3, 1, 158, 159, 160, 161, 162, 163, 164, 165, 166] (by decide +kernel) (by decide +kernel)
set_option maxRecDepth 20000 in
theorem gX2_explore_X2_nearest : GoodIn wsX2_explore (wsV RX2 43 RX2 yX2_nearest wsX2_nearest) := goodIn_app (goodIn_of _ (by decide +kernel)) ggX2_explore_X2_nearest
set_option maxRecDepth 20000 in
theorem ggX2_explore_X2_spreadFrom : GoodIn wsX2_explore wsX2_spreadFrom := goodIn_r _ [75, 2, 3, 9, 23, 1, 24, 76, 77, 78, 47, 79, 80, 54, 36, 55, 81, 82, 83, 84, 85, 86, 87, 88, 56, 57, 58, 59, 89, 90, 91, 92, 93, 94, 95, 96, 45, 46, 48, 49, 50, 51, 52, 53, 60, 61, 62, 28, 63, 30, 32, 31, 34, 33, 64, 65, 66, 67, 97, 98, 99, 100, 101, 102, 103, 104, 105, 106, 107, 108, 109, 110, 111, 112, 113, 114, 115, 116, 117, 118, 119, 120, 121, 122, 123, 124, 125, 126, 127, 128, 129, 130, 131, 132, 133, 134, 135, 136, 137, 138, 139, 140, 141, 142, 143, 144, 145, 146, 147, 148, 149, 150, 151, 152, 153, 154, 155, 156, 157, 158, 159, 160, 161, 162, 163, 164, 165, 166, 167, 168, 169, 170, 171, 172, 173, 174, 175, 176, 177, 178, 179, 180, 181, 182, 183, 184, 185, 186, 187, 188, 189, 190, 191, 192, 193] (by decide +kernel) (by decide +kernel)
set_option maxRecDepth 20000 in
theorem gX2_explore_X2_spreadFrom : GoodIn wsX2_explore (wsV RX2 47 RX2 yX2_spreadFrom wsX2_spreadFrom) := goodIn_app (goodIn_of _ (by decide +kernel)) ggX2_explore_X2_spreadFrom
theorem dX2_explore_0 : decode cX2_explore 0 = .ok (.aload_n 0, 1) := by decide +kernel
theorem dX2_explore_1 : decode cX2_explore 1 = .ok (.iload_n 1, 1) := by decide +kernel
theorem dX2_explore_2 : decode cX2_explore 2 = .ok (.iload_n 2, 1) := by decide +kernel
theorem dX2_explore_3 : decode cX2_explore 3 = .ok (.invokevirtual 36, 3) := by decide +kernel
theorem dX2_explore_6 : decode cX2_explore 6 = .ok (.aload_n 0, 1) := by decide +kernel
theorem dX2_explore_7 : decode cX2_explore 7 = .ok (.getfield 19, 3) := by decide +kernel
theorem dX2_explore_10 : decode cX2_explore 10 = .ok (.iconst 0, 1) := by decide +kernel
theorem dX2_explore_11 : decode cX2_explore 11 = .ok (.iconst 0, 1) := by decide +kernel
theorem dX2_explore_12 : decode cX2_explore 12 = .ok (.iastore, 1) := by decide +kernel
theorem dX2_explore_13 : decode cX2_explore 13 = .ok (.iconst 0, 1) := by decide +kernel
theorem dX2_explore_14 : decode cX2_explore 14 = .ok (.istore 4, 2) := by decide +kernel
theorem dX2_explore_16 : decode cX2_explore 16 = .ok (.iload 4, 2) := by decide +kernel
theorem dX2_explore_18 : decode cX2_explore 18 = .ok (.aload_n 0, 1) := by decide +kernel
theorem dX2_explore_19 : decode cX2_explore 19 = .ok (.getfield 40, 3) := by decide +kernel
theorem dX2_explore_22 : decode cX2_explore 22 = .ok (.if_icmp .ge 46, 3) := by decide +kernel
theorem dX2_explore_25 : decode cX2_explore 25 = .ok (.aload_n 0, 1) := by decide +kernel
theorem dX2_explore_26 : decode cX2_explore 26 = .ok (.invokevirtual 43, 3) := by decide +kernel
theorem dX2_explore_29 : decode cX2_explore 29 = .ok (.istore 5, 2) := by decide +kernel
theorem dX2_explore_31 : decode cX2_explore 31 = .ok (.iload 5, 2) := by decide +kernel
theorem dX2_explore_33 : decode cX2_explore 33 = .ok (.iconst (-1), 1) := by decide +kernel
theorem dX2_explore_34 : decode cX2_explore 34 = .ok (.if_icmp .eq 13, 3) := by decide +kernel
theorem dX2_explore_37 : decode cX2_explore 37 = .ok (.iload 5, 2) := by decide +kernel
theorem dX2_explore_39 : decode cX2_explore 39 = .ok (.iconst 1, 1) := by decide +kernel
theorem dX2_explore_40 : decode cX2_explore 40 = .ok (.if_icmp .ne 8, 3) := by decide +kernel
theorem dX2_explore_43 : decode cX2_explore 43 = .ok (.iload_n 3, 1) := by decide +kernel
theorem dX2_explore_44 : decode cX2_explore 44 = .ok (.ifCond .ne 4, 3) := by decide +kernel
theorem dX2_explore_47 : decode cX2_explore 47 = .ok (.return_, 1) := by decide +kernel
theorem dX2_explore_48 : decode cX2_explore 48 = .ok (.aload_n 0, 1) := by decide +kernel
theorem dX2_explore_49 : decode cX2_explore 49 = .ok (.getfield 25, 3) := by decide +kernel
theorem dX2_explore_52 : decode cX2_explore 52 = .ok (.iload 5, 2) := by decide +kernel
theorem dX2_explore_54 : decode cX2_explore 54 = .ok (.iconst 1, 1) := by decide +kernel
theorem dX2_explore_55 : decode cX2_explore 55 = .ok (.bastore, 1) := by decide +kernel
theorem dX2_explore_56 : decode cX2_explore 56 = .ok (.aload_n 0, 1) := by decide +kernel
theorem dX2_explore_57 : decode cX2_explore 57 = .ok (.iload 5, 2) := by decide +kernel
theorem dX2_explore_59 : decode cX2_explore 59 = .ok (.invokevirtual 47, 3) := by decide +kernel
theorem dX2_explore_62 : decode cX2_explore 62 = .ok (.iinc 4 1, 3) := by decide +kernel
theorem dX2_explore_65 : decode cX2_explore 65 = .ok (.goto (-49), 3) := by decide +kernel
theorem dX2_explore_68 : decode cX2_explore 68 = .ok (.return_, 1) := by decide +kernel
theorem dX2_writeWay_0 : decode cX2_writeWay 0 = .ok (.iconst 1, 1) := by decide +kernel
theorem dX2_writeWay_1 : decode cX2_writeWay 1 = .ok (.istore_n 2, 1) := by decide +kernel
theorem dX2_writeWay_2 : decode cX2_writeWay 2 = .ok (.iconst 1, 1) := by decide +kernel
theorem dX2_writeWay_3 : decode cX2_writeWay 3 = .ok (.istore_n 3, 1) := by decide +kernel
theorem dX2_writeWay_4 : decode cX2_writeWay 4 = .ok (.iload_n 3, 1) := by decide +kernel
theorem dX2_writeWay_5 : decode cX2_writeWay 5 = .ok (.ifCond .eq 22, 3) := by decide +kernel
theorem dX2_writeWay_8 : decode cX2_writeWay 8 = .ok (.iload_n 2, 1) := by decide +kernel
theorem dX2_writeWay_9 : decode cX2_writeWay 9 = .ok (.bipush 94, 2) := by decide +kernel
theorem dX2_writeWay_11 : decode cX2_writeWay 11 = .ok (.if_icmp .ge 16, 3) := by decide +kernel
theorem dX2_writeWay_14 : decode cX2_writeWay 14 = .ok (.iinc 2 1, 3) := by decide +kernel
theorem dX2_writeWay_17 : decode cX2_writeWay 17 = .ok (.aload_n 0, 1) := by decide +kernel
theorem dX2_writeWay_18 : decode cX2_writeWay 18 = .ok (.getfield 22, 3) := by decide +kernel
theorem dX2_writeWay_21 : decode cX2_writeWay 21 = .ok (.iload_n 3, 1) := by decide +kernel
theorem dX2_writeWay_22 : decode cX2_writeWay 22 = .ok (.iaload, 1) := by decide +kernel
theorem dX2_writeWay_23 : decode cX2_writeWay 23 = .ok (.istore_n 3, 1) := by decide +kernel
theorem dX2_writeWay_24 : decode cX2_writeWay 24 = .ok (.goto (-20), 3) := by decide +kernel
theorem dX2_writeWay_27 : decode cX2_writeWay 27 = .ok (.aload_n 1, 1) := by decide +kernel
theorem dX2_writeWay_28 : decode cX2_writeWay 28 = .ok (.iload_n 2, 1) := by decide +kernel
theorem dX2_writeWay_29 : decode cX2_writeWay 29 = .ok (.putfield 54, 3) := by decide +kernel
theorem dX2_writeWay_32 : decode cX2_writeWay 32 = .ok (.iconst 1, 1) := by decide +kernel
theorem dX2_writeWay_33 : decode cX2_writeWay 33 = .ok (.istore_n 3, 1) := by decide +kernel
theorem dX2_writeWay_34 : decode cX2_writeWay 34 = .ok (.iload_n 2, 1) := by decide +kernel
theorem dX2_writeWay_35 : decode cX2_writeWay 35 = .ok (.iconst 1, 1) := by decide +kernel
theorem dX2_writeWay_36 : decode cX2_writeWay 36 = .ok (.isub, 1) := by decide +kernel
theorem dX2_writeWay_37 : decode cX2_writeWay 37 = .ok (.istore 4, 2) := by decide +kernel
theorem dX2_writeWay_39 : decode cX2_writeWay 39 = .ok (.iload 4, 2) := by decide +kernel
theorem dX2_writeWay_41 : decode cX2_writeWay 41 = .ok (.ifCond .lt 29, 3) := by decide +kernel
theorem dX2_writeWay_44 : decode cX2_writeWay 44 = .ok (.aload_n 1, 1) := by decide +kernel
theorem dX2_writeWay_45 : decode cX2_writeWay 45 = .ok (.getfield 57, 3) := by decide +kernel
theorem dX2_writeWay_48 : decode cX2_writeWay 48 = .ok (.iload 4, 2) := by decide +kernel
theorem dX2_writeWay_50 : decode cX2_writeWay 50 = .ok (.aload_n 0, 1) := by decide +kernel
theorem dX2_writeWay_51 : decode cX2_writeWay 51 = .ok (.getfield 15, 3) := by decide +kernel
theorem dX2_writeWay_54 : decode cX2_writeWay 54 = .ok (.iload_n 3, 1) := by decide +kernel
theorem dX2_writeWay_55 : decode cX2_writeWay 55 = .ok (.iaload, 1) := by decide +kernel
theorem dX2_writeWay_56 : decode cX2_writeWay 56 = .ok (.iastore, 1) := by decide +kernel
theorem dX2_writeWay_57 : decode cX2_writeWay 57 = .ok (.aload_n 0, 1) := by decide +kernel
theorem dX2_writeWay_58 : decode cX2_writeWay 58 = .ok (.getfield 22, 3) := by decide +kernel
theorem dX2_writeWay_61 : decode cX2_writeWay 61 = .ok (.iload_n 3, 1) := by decide +kernel
theorem dX2_writeWay_62 : decode cX2_writeWay 62 = .ok (.iaload, 1) := by decide +kernel
theorem dX2_writeWay_63 : decode cX2_writeWay 63 = .ok (.istore_n 3, 1) := by decide +kernel
theorem dX2_writeWay_64 : decode cX2_writeWay 64 = .ok (.iinc 4 (-1), 3) := by decide +kernel
theorem dX2_writeWay_67 : decode cX2_writeWay 67 = .ok (.goto (-28), 3) := by decide +kernel
theorem dX2_writeWay_70 : decode cX2_writeWay 70 = .ok (.return_, 1) := by decide +kernel
