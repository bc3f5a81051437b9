theorem dX3_leastLadderCost_0 : decode cX3_leastLadderCost 0 = .ok (.iconst (-1), 1) := by decide +kernel
theorem dX3_leastLadderCost_1 : decode cX3_leastLadderCost 1 = .ok (.istore_n 3, 1) := by decide +kernel
theorem dX3_leastLadderCost_2 : decode cX3_leastLadderCost 2 = .ok (.iconst 0, 1) := by decide +kernel
theorem dX3_leastLadderCost_3 : decode cX3_leastLadderCost 3 = .ok (.istore 4, 2) := by decide +kernel
theorem dX3_leastLadderCost_5 : decode cX3_leastLadderCost 5 = .ok (.iload 4, 2) := by decide +kernel
theorem dX3_leastLadderCost_7 : decode cX3_leastLadderCost 7 = .ok (.aload_n 0, 1) := by decide +kernel
theorem dX3_leastLadderCost_8 : decode cX3_leastLadderCost 8 = .ok (.getfield 46, 3) := by decide +kernel
theorem dX3_leastLadderCost_11 : decode cX3_leastLadderCost 11 = .ok (.if_icmp .ge 89, 3) := by decide +kernel
theorem dX3_leastLadderCost_14 : decode cX3_leastLadderCost 14 = .ok (.aload_n 0, 1) := by decide +kernel
theorem dX3_leastLadderCost_15 : decode cX3_leastLadderCost 15 = .ok (.getfield 29, 3) := by decide +kernel
theorem dX3_leastLadderCost_18 : decode cX3_leastLadderCost 18 = .ok (.iload 4, 2) := by decide +kernel
theorem dX3_leastLadderCost_20 : decode cX3_leastLadderCost 20 = .ok (.iaload, 1) := by decide +kernel
theorem dX3_leastLadderCost_21 : decode cX3_leastLadderCost 21 = .ok (.iload_n 1, 1) := by decide +kernel
theorem dX3_leastLadderCost_22 : decode cX3_leastLadderCost 22 = .ok (.if_icmp .ne 14, 3) := by decide +kernel
theorem dX3_leastLadderCost_25 : decode cX3_leastLadderCost 25 = .ok (.aload_n 0, 1) := by decide +kernel
theorem dX3_leastLadderCost_26 : decode cX3_leastLadderCost 26 = .ok (.getfield 33, 3) := by decide +kernel
theorem dX3_leastLadderCost_29 : decode cX3_leastLadderCost 29 = .ok (.iload 4, 2) := by decide +kernel
theorem dX3_leastLadderCost_31 : decode cX3_leastLadderCost 31 = .ok (.iaload, 1) := by decide +kernel
theorem dX3_leastLadderCost_32 : decode cX3_leastLadderCost 32 = .ok (.iload_n 2, 1) := by decide +kernel
theorem dX3_leastLadderCost_33 : decode cX3_leastLadderCost 33 = .ok (.if_icmp .eq 25, 3) := by decide +kernel
theorem dX3_leastLadderCost_36 : decode cX3_leastLadderCost 36 = .ok (.aload_n 0, 1) := by decide +kernel
theorem dX3_leastLadderCost_37 : decode cX3_leastLadderCost 37 = .ok (.getfield 29, 3) := by decide +kernel
theorem dX3_leastLadderCost_40 : decode cX3_leastLadderCost 40 = .ok (.iload 4, 2) := by decide +kernel
theorem dX3_leastLadderCost_42 : decode cX3_leastLadderCost 42 = .ok (.iaload, 1) := by decide +kernel
theorem dX3_leastLadderCost_43 : decode cX3_leastLadderCost 43 = .ok (.iload_n 2, 1) := by decide +kernel
theorem dX3_leastLadderCost_44 : decode cX3_leastLadderCost 44 = .ok (.if_icmp .ne 18, 3) := by decide +kernel
theorem dX3_leastLadderCost_47 : decode cX3_leastLadderCost 47 = .ok (.aload_n 0, 1) := by decide +kernel
theorem dX3_leastLadderCost_48 : decode cX3_leastLadderCost 48 = .ok (.getfield 33, 3) := by decide +kernel
theorem dX3_leastLadderCost_51 : decode cX3_leastLadderCost 51 = .ok (.iload 4, 2) := by decide +kernel
theorem dX3_leastLadderCost_53 : decode cX3_leastLadderCost 53 = .ok (.iaload, 1) := by decide +kernel
theorem dX3_leastLadderCost_54 : decode cX3_leastLadderCost 54 = .ok (.iload_n 1, 1) := by decide +kernel
theorem dX3_leastLadderCost_55 : decode cX3_leastLadderCost 55 = .ok (.if_icmp .ne 7, 3) := by decide +kernel
theorem dX3_leastLadderCost_58 : decode cX3_leastLadderCost 58 = .ok (.iconst 1, 1) := by decide +kernel
theorem dX3_leastLadderCost_59 : decode cX3_leastLadderCost 59 = .ok (.goto 4, 3) := by decide +kernel
theorem dX3_leastLadderCost_62 : decode cX3_leastLadderCost 62 = .ok (.iconst 0, 1) := by decide +kernel
theorem dX3_leastLadderCost_63 : decode cX3_leastLadderCost 63 = .ok (.istore 5, 2) := by decide +kernel
theorem dX3_leastLadderCost_65 : decode cX3_leastLadderCost 65 = .ok (.iload 5, 2) := by decide +kernel
theorem dX3_leastLadderCost_67 : decode cX3_leastLadderCost 67 = .ok (.ifCond .eq 27, 3) := by decide +kernel
theorem dX3_leastLadderCost_70 : decode cX3_leastLadderCost 70 = .ok (.iload_n 3, 1) := by decide +kernel
theorem dX3_leastLadderCost_71 : decode cX3_leastLadderCost 71 = .ok (.iconst (-1), 1) := by decide +kernel
theorem dX3_leastLadderCost_72 : decode cX3_leastLadderCost 72 = .ok (.if_icmp .eq 14, 3) := by decide +kernel
theorem dX3_leastLadderCost_75 : decode cX3_leastLadderCost 75 = .ok (.aload_n 0, 1) := by decide +kernel
theorem dX3_leastLadderCost_76 : decode cX3_leastLadderCost 76 = .ok (.getfield 36, 3) := by decide +kernel
theorem dX3_leastLadderCost_79 : decode cX3_leastLadderCost 79 = .ok (.iload 4, 2) := by decide +kernel
theorem dX3_leastLadderCost_81 : decode cX3_leastLadderCost 81 = .ok (.iaload, 1) := by decide +kernel
theorem dX3_leastLadderCost_82 : decode cX3_leastLadderCost 82 = .ok (.iload_n 3, 1) := by decide +kernel
theorem dX3_leastLadderCost_83 : decode cX3_leastLadderCost 83 = .ok (.if_icmp .ge 11, 3) := by decide +kernel
theorem dX3_leastLadderCost_86 : decode cX3_leastLadderCost 86 = .ok (.aload_n 0, 1) := by decide +kernel
theorem dX3_leastLadderCost_87 : decode cX3_leastLadderCost 87 = .ok (.getfield 36, 3) := by decide +kernel
theorem dX3_leastLadderCost_90 : decode cX3_leastLadderCost 90 = .ok (.iload 4, 2) := by decide +kernel
theorem dX3_leastLadderCost_92 : decode cX3_leastLadderCost 92 = .ok (.iaload, 1) := by decide +kernel
theorem dX3_leastLadderCost_93 : decode cX3_leastLadderCost 93 = .ok (.istore_n 3, 1) := by decide +kernel
theorem dX3_leastLadderCost_94 : decode cX3_leastLadderCost 94 = .ok (.iinc 4 1, 3) := by decide +kernel
theorem dX3_leastLadderCost_97 : decode cX3_leastLadderCost 97 = .ok (.goto (-92), 3) := by decide +kernel
theorem dX3_leastLadderCost_100 : decode cX3_leastLadderCost 100 = .ok (.iload_n 3, 1) := by decide +kernel
theorem dX3_leastLadderCost_101 : decode cX3_leastLadderCost 101 = .ok (.ireturn, 1) := by decide +kernel
set_option maxRecDepth 20000 in
theorem ggX3_isGround_X7_levelOf : GoodIn wsX3_isGround wsX7_levelOf := goodIn_r _ [8] (by decide +kernel) (by decide +kernel)
set_option maxRecDepth 20000 in
theorem gX3_isGround_X7_levelOf_n50 : GoodIn wsX3_isGround (wsX7_levelOf) := ggX3_isGround_X7_levelOf
set_option maxRecDepth 20000 in
theorem ggX3_isGround_X7_xOf : GoodIn wsX3_isGround wsX7_xOf := goodIn_r _ [10] (by decide +kernel) (by decide +kernel)
set_option maxRecDepth 20000 in
theorem gX3_isGround_X7_xOf_n54 : GoodIn wsX3_isGround (wsX7_xOf) := ggX3_isGround_X7_xOf
set_option maxRecDepth 20000 in
theorem ggX3_isGround_X7_yOf : GoodIn wsX3_isGround wsX7_yOf := goodIn_r _ [12] (by decide +kernel) (by decide +kernel)
set_option maxRecDepth 20000 in
theorem gX3_isGround_X7_yOf_n57 : GoodIn wsX3_isGround (wsX7_yOf) := ggX3_isGround_X7_yOf
set_option maxRecDepth 20000 in
theorem ggX3_isGround_X0_encloses : GoodIn wsX3_isGround wsX0_encloses := goodIn_r _ [17, 18, 19, 20, 21, 22, 38, 39, 40, 41, 42, 43] (by decide +kernel) (by decide +kernel)
set_option maxRecDepth 20000 in
theorem gX3_isGround_X0_encloses : GoodIn wsX3_isGround (wsV RX3 70 RX0 yX0_encloses wsX0_encloses) := goodIn_app (goodIn_of _ (by decide +kernel)) ggX3_isGround_X0_encloses
set_option maxRecDepth 20000 in
theorem ggX3_isGround_X0_holds : GoodIn wsX3_isGround wsX0_holds := goodIn_r _ [26, 18, 19, 20, 21, 22, 38, 39, 40, 41, 42, 43] (by decide +kernel) (by decide +kernel)
set_option maxRecDepth 20000 in
theorem gX3_isGround_X0_holds : GoodIn wsX3_isGround (wsV RX3 77 RX0 yX0_holds wsX0_holds) := goodIn_app (goodIn_of _ (by decide +kernel)) ggX3_isGround_X0_holds
theorem dX3_isGround_0 : decode cX3_isGround 0 = .ok (.iload_n 1, 1) := by decide +kernel
theorem dX3_isGround_1 : decode cX3_isGround 1 = .ok (.invokestatic 50, 3) := by decide +kernel
theorem dX3_isGround_4 : decode cX3_isGround 4 = .ok (.istore_n 2, 1) := by decide +kernel
theorem dX3_isGround_5 : decode cX3_isGround 5 = .ok (.iload_n 1, 1) := by decide +kernel
theorem dX3_isGround_6 : decode cX3_isGround 6 = .ok (.invokestatic 54, 3) := by decide +kernel
theorem dX3_isGround_9 : decode cX3_isGround 9 = .ok (.istore_n 3, 1) := by decide +kernel
theorem dX3_isGround_10 : decode cX3_isGround 10 = .ok (.iload_n 1, 1) := by decide +kernel
theorem dX3_isGround_11 : decode cX3_isGround 11 = .ok (.invokestatic 57, 3) := by decide +kernel
theorem dX3_isGround_14 : decode cX3_isGround 14 = .ok (.istore 4, 2) := by decide +kernel
theorem dX3_isGround_16 : decode cX3_isGround 16 = .ok (.iconst 0, 1) := by decide +kernel
theorem dX3_isGround_17 : decode cX3_isGround 17 = .ok (.istore 5, 2) := by decide +kernel
theorem dX3_isGround_19 : decode cX3_isGround 19 = .ok (.iload 5, 2) := by decide +kernel
theorem dX3_isGround_21 : decode cX3_isGround 21 = .ok (.bipush 8, 2) := by decide +kernel
theorem dX3_isGround_23 : decode cX3_isGround 23 = .ok (.if_icmp .ge 47, 3) := by decide +kernel
theorem dX3_isGround_26 : decode cX3_isGround 26 = .ok (.aload_n 0, 1) := by decide +kernel
theorem dX3_isGround_27 : decode cX3_isGround 27 = .ok (.getfield 20, 3) := by decide +kernel
theorem dX3_isGround_30 : decode cX3_isGround 30 = .ok (.getfield 60, 3) := by decide +kernel
theorem dX3_isGround_33 : decode cX3_isGround 33 = .ok (.iload 5, 2) := by decide +kernel
theorem dX3_isGround_35 : decode cX3_isGround 35 = .ok (.aaload, 1) := by decide +kernel
theorem dX3_isGround_36 : decode cX3_isGround 36 = .ok (.getfield 64, 3) := by decide +kernel
theorem dX3_isGround_39 : decode cX3_isGround 39 = .ok (.ifCond .eq 25, 3) := by decide +kernel
theorem dX3_isGround_42 : decode cX3_isGround 42 = .ok (.aload_n 0, 1) := by decide +kernel
theorem dX3_isGround_43 : decode cX3_isGround 43 = .ok (.getfield 20, 3) := by decide +kernel
theorem dX3_isGround_46 : decode cX3_isGround 46 = .ok (.getfield 60, 3) := by decide +kernel
theorem dX3_isGround_49 : decode cX3_isGround 49 = .ok (.iload 5, 2) := by decide +kernel
theorem dX3_isGround_51 : decode cX3_isGround 51 = .ok (.aaload, 1) := by decide +kernel
theorem dX3_isGround_52 : decode cX3_isGround 52 = .ok (.iload_n 2, 1) := by decide +kernel
theorem dX3_isGround_53 : decode cX3_isGround 53 = .ok (.iload_n 3, 1) := by decide +kernel
theorem dX3_isGround_54 : decode cX3_isGround 54 = .ok (.iload 4, 2) := by decide +kernel
theorem dX3_isGround_56 : decode cX3_isGround 56 = .ok (.invokevirtual 70, 3) := by decide +kernel
theorem dX3_isGround_59 : decode cX3_isGround 59 = .ok (.ifCond .eq 5, 3) := by decide +kernel
theorem dX3_isGround_62 : decode cX3_isGround 62 = .ok (.iconst 0, 1) := by decide +kernel
theorem dX3_isGround_63 : decode cX3_isGround 63 = .ok (.ireturn, 1) := by decide +kernel
theorem dX3_isGround_64 : decode cX3_isGround 64 = .ok (.iinc 5 1, 3) := by decide +kernel
theorem dX3_isGround_67 : decode cX3_isGround 67 = .ok (.goto (-48), 3) := by decide +kernel
theorem dX3_isGround_70 : decode cX3_isGround 70 = .ok (.iconst 0, 1) := by decide +kernel
theorem dX3_isGround_71 : decode cX3_isGround 71 = .ok (.istore 5, 2) := by decide +kernel
theorem dX3_isGround_73 : decode cX3_isGround 73 = .ok (.iload 5, 2) := by decide +kernel
theorem dX3_isGround_75 : decode cX3_isGround 75 = .ok (.aload_n 0, 1) := by decide +kernel
theorem dX3_isGround_76 : decode cX3_isGround 76 = .ok (.getfield 14, 3) := by decide +kernel
theorem dX3_isGround_79 : decode cX3_isGround 79 = .ok (.getfield 74, 3) := by decide +kernel
theorem dX3_isGround_82 : decode cX3_isGround 82 = .ok (.if_icmp .ge 31, 3) := by decide +kernel
theorem dX3_isGround_85 : decode cX3_isGround 85 = .ok (.aload_n 0, 1) := by decide +kernel
theorem dX3_isGround_86 : decode cX3_isGround 86 = .ok (.getfield 14, 3) := by decide +kernel
theorem dX3_isGround_89 : decode cX3_isGround 89 = .ok (.getfield 60, 3) := by decide +kernel
theorem dX3_isGround_92 : decode cX3_isGround 92 = .ok (.iload 5, 2) := by decide +kernel
theorem dX3_isGround_94 : decode cX3_isGround 94 = .ok (.aaload, 1) := by decide +kernel
theorem dX3_isGround_95 : decode cX3_isGround 95 = .ok (.iload_n 2, 1) := by decide +kernel
theorem dX3_isGround_96 : decode cX3_isGround 96 = .ok (.iload_n 3, 1) := by decide +kernel
theorem dX3_isGround_97 : decode cX3_isGround 97 = .ok (.iload 4, 2) := by decide +kernel
theorem dX3_isGround_99 : decode cX3_isGround 99 = .ok (.invokevirtual 77, 3) := by decide +kernel
theorem dX3_isGround_102 : decode cX3_isGround 102 = .ok (.ifCond .eq 5, 3) := by decide +kernel
theorem dX3_isGround_105 : decode cX3_isGround 105 = .ok (.iconst 1, 1) := by decide +kernel
theorem dX3_isGround_106 : decode cX3_isGround 106 = .ok (.ireturn, 1) := by decide +kernel
theorem dX3_isGround_107 : decode cX3_isGround 107 = .ok (.iinc 5 1, 3) := by decide +kernel
theorem dX3_isGround_110 : decode cX3_isGround 110 = .ok (.goto (-37), 3) := by decide +kernel
theorem dX3_isGround_113 : decode cX3_isGround 113 = .ok (.iconst 0, 1) := by decide +kernel
theorem dX3_isGround_114 : decode cX3_isGround 114 = .ok (.ireturn, 1) := by decide +kernel
set_option maxRecDepth 20000 in
theorem ggX3_isOnShutDoor_X7_levelOf : GoodIn wsX3_isOnShutDoor wsX7_levelOf := goodIn_r _ [7] (by decide +kernel) (by decide +kernel)
set_option maxRecDepth 20000 in
theorem gX3_isOnShutDoor_X7_levelOf_n50 : GoodIn wsX3_isOnShutDoor (wsX7_levelOf) := ggX3_isOnShutDoor_X7_levelOf
set_option maxRecDepth 20000 in
theorem ggX3_isOnShutDoor_X7_xOf : GoodIn wsX3_isOnShutDoor wsX7_xOf := goodIn_r _ [9] (by decide +kernel) (by decide +kernel)
set_option maxRecDepth 20000 in
theorem gX3_isOnShutDoor_X7_xOf_n54 : GoodIn wsX3_isOnShutDoor (wsX7_xOf) := ggX3_isOnShutDoor_X7_xOf
set_option maxRecDepth 20000 in
theorem ggX3_isOnShutDoor_X7_yOf : GoodIn wsX3_isOnShutDoor wsX7_yOf := goodIn_r _ [11] (by decide +kernel) (by decide +kernel)
set_option maxRecDepth 20000 in
theorem gX3_isOnShutDoor_X7_yOf_n57 : GoodIn wsX3_isOnShutDoor (wsX7_yOf) := ggX3_isOnShutDoor_X7_yOf
set_option maxRecDepth 20000 in
theorem ggX3_isOnShutDoor_X0_holds : GoodIn wsX3_isOnShutDoor wsX0_holds := goodIn_r _ [16, 17, 18, 19, 20, 21, 33, 34, 35, 36, 37, 38] (by decide +kernel) (by decide +kernel)
set_option maxRecDepth 20000 in
theorem gX3_isOnShutDoor_X0_holds : GoodIn wsX3_isOnShutDoor (wsV RX3 77 RX0 yX0_holds wsX0_holds) := goodIn_app (goodIn_of _ (by decide +kernel)) ggX3_isOnShutDoor_X0_holds
theorem dX3_isOnShutDoor_0 : decode cX3_isOnShutDoor 0 = .ok (.iconst 0, 1) := by decide +kernel
theorem dX3_isOnShutDoor_1 : decode cX3_isOnShutDoor 1 = .ok (.istore_n 2, 1) := by decide +kernel
theorem dX3_isOnShutDoor_2 : decode cX3_isOnShutDoor 2 = .ok (.iload_n 2, 1) := by decide +kernel
theorem dX3_isOnShutDoor_3 : decode cX3_isOnShutDoor 3 = .ok (.aload_n 0, 1) := by decide +kernel
theorem dX3_isOnShutDoor_4 : decode cX3_isOnShutDoor 4 = .ok (.getfield 23, 3) := by decide +kernel
theorem dX3_isOnShutDoor_7 : decode cX3_isOnShutDoor 7 = .ok (.getfield 74, 3) := by decide +kernel
theorem dX3_isOnShutDoor_10 : decode cX3_isOnShutDoor 10 = .ok (.if_icmp .ge 47, 3) := by decide +kernel
theorem dX3_isOnShutDoor_13 : decode cX3_isOnShutDoor 13 = .ok (.aload_n 0, 1) := by decide +kernel
theorem dX3_isOnShutDoor_14 : decode cX3_isOnShutDoor 14 = .ok (.getfield 23, 3) := by decide +kernel
theorem dX3_isOnShutDoor_17 : decode cX3_isOnShutDoor 17 = .ok (.getfield 60, 3) := by decide +kernel
theorem dX3_isOnShutDoor_20 : decode cX3_isOnShutDoor 20 = .ok (.iload_n 2, 1) := by decide +kernel
theorem dX3_isOnShutDoor_21 : decode cX3_isOnShutDoor 21 = .ok (.aaload, 1) := by decide +kernel
theorem dX3_isOnShutDoor_22 : decode cX3_isOnShutDoor 22 = .ok (.astore_n 3, 1) := by decide +kernel
theorem dX3_isOnShutDoor_23 : decode cX3_isOnShutDoor 23 = .ok (.aload_n 3, 1) := by decide +kernel
theorem dX3_isOnShutDoor_24 : decode cX3_isOnShutDoor 24 = .ok (.getfield 64, 3) := by decide +kernel
theorem dX3_isOnShutDoor_27 : decode cX3_isOnShutDoor 27 = .ok (.ifCond .eq 24, 3) := by decide +kernel
theorem dX3_isOnShutDoor_30 : decode cX3_isOnShutDoor 30 = .ok (.aload_n 3, 1) := by decide +kernel
theorem dX3_isOnShutDoor_31 : decode cX3_isOnShutDoor 31 = .ok (.iload_n 1, 1) := by decide +kernel
theorem dX3_isOnShutDoor_32 : decode cX3_isOnShutDoor 32 = .ok (.invokestatic 50, 3) := by decide +kernel
theorem dX3_isOnShutDoor_35 : decode cX3_isOnShutDoor 35 = .ok (.iload_n 1, 1) := by decide +kernel
theorem dX3_isOnShutDoor_36 : decode cX3_isOnShutDoor 36 = .ok (.invokestatic 54, 3) := by decide +kernel
theorem dX3_isOnShutDoor_39 : decode cX3_isOnShutDoor 39 = .ok (.iload_n 1, 1) := by decide +kernel
theorem dX3_isOnShutDoor_40 : decode cX3_isOnShutDoor 40 = .ok (.invokestatic 57, 3) := by decide +kernel
theorem dX3_isOnShutDoor_43 : decode cX3_isOnShutDoor 43 = .ok (.invokevirtual 77, 3) := by decide +kernel
theorem dX3_isOnShutDoor_46 : decode cX3_isOnShutDoor 46 = .ok (.ifCond .eq 5, 3) := by decide +kernel
theorem dX3_isOnShutDoor_49 : decode cX3_isOnShutDoor 49 = .ok (.iconst 1, 1) := by decide +kernel
theorem dX3_isOnShutDoor_50 : decode cX3_isOnShutDoor 50 = .ok (.ireturn, 1) := by decide +kernel
theorem dX3_isOnShutDoor_51 : decode cX3_isOnShutDoor 51 = .ok (.iinc 2 1, 3) := by decide +kernel
theorem dX3_isOnShutDoor_54 : decode cX3_isOnShutDoor 54 = .ok (.goto (-52), 3) := by decide +kernel
theorem dX3_isOnShutDoor_57 : decode cX3_isOnShutDoor 57 = .ok (.iconst 0, 1) := by decide +kernel
theorem dX3_isOnShutDoor_58 : decode cX3_isOnShutDoor 58 = .ok (.ireturn, 1) := by decide +kernel
set_option maxRecDepth 20000 in
theorem ggX3_stepLength_X7_levelOf : GoodIn wsX3_stepLength wsX7_levelOf := goodIn_r _ [4] (by decide +kernel) (by decide +kernel)
set_option maxRecDepth 20000 in
theorem gX3_stepLength_X7_levelOf_n50 : GoodIn wsX3_stepLength (wsX7_levelOf) := ggX3_stepLength_X7_levelOf
set_option maxRecDepth 20000 in
theorem ggX3_stepLength_X3_leastLadderCost : GoodIn wsX3_stepLength wsX3_leastLadderCost := goodIn_r _ [9, 10, 11, 12, 13, 20, 21, 22, 23, 24, 25, 26, 27, 28] (by decide +kernel) (by decide +kernel)
set_option maxRecDepth 20000 in
theorem gX3_stepLength_X3_leastLadderCost : GoodIn wsX3_stepLength (wsV RX3 80 RX3 yX3_leastLadderCost wsX3_leastLadderCost) := goodIn_app (goodIn_of _ (by decide +kernel)) ggX3_stepLength_X3_leastLadderCost
set_option maxRecDepth 20000 in
theorem ggX3_stepLength_X7_xOf : GoodIn wsX3_stepLength wsX7_xOf := goodIn_r _ [15] (by decide +kernel) (by decide +kernel)
set_option maxRecDepth 20000 in
theorem gX3_stepLength_X7_xOf_n54 : GoodIn wsX3_stepLength (wsX7_xOf) := ggX3_stepLength_X7_xOf
set_option maxRecDepth 20000 in
theorem ggX3_stepLength_X7_yOf : GoodIn wsX3_stepLength wsX7_yOf := goodIn_r _ [17] (by decide +kernel) (by decide +kernel)
set_option maxRecDepth 20000 in
theorem gX3_stepLength_X7_yOf_n57 : GoodIn wsX3_stepLength (wsX7_yOf) := ggX3_stepLength_X7_yOf
set_option maxRecDepth 20000 in
theorem ggX3_stepLength_X7_rootOf : GoodIn wsX3_stepLength wsX7_rootOf := goodIn_r _ [19] (by decide +kernel) (by decide +kernel)
set_option maxRecDepth 20000 in
theorem gX3_stepLength_X7_rootOf_n86 : GoodIn wsX3_stepLength (wsX7_rootOf) := ggX3_stepLength_X7_rootOf
theorem dX3_stepLength_0 : decode cX3_stepLength 0 = .ok (.iload_n 1, 1) := by decide +kernel
theorem dX3_stepLength_1 : decode cX3_stepLength 1 = .ok (.invokestatic 50, 3) := by decide +kernel
theorem dX3_stepLength_4 : decode cX3_stepLength 4 = .ok (.iload_n 2, 1) := by decide +kernel
theorem dX3_stepLength_5 : decode cX3_stepLength 5 = .ok (.invokestatic 50, 3) := by decide +kernel
theorem dX3_stepLength_8 : decode cX3_stepLength 8 = .ok (.if_icmp .eq 10, 3) := by decide +kernel
theorem dX3_stepLength_11 : decode cX3_stepLength 11 = .ok (.aload_n 0, 1) := by decide +kernel
theorem dX3_stepLength_12 : decode cX3_stepLength 12 = .ok (.iload_n 1, 1) := by decide +kernel
theorem dX3_stepLength_13 : decode cX3_stepLength 13 = .ok (.iload_n 2, 1) := by decide +kernel
theorem dX3_stepLength_14 : decode cX3_stepLength 14 = .ok (.invokevirtual 80, 3) := by decide +kernel
theorem dX3_stepLength_17 : decode cX3_stepLength 17 = .ok (.ireturn, 1) := by decide +kernel
theorem dX3_stepLength_18 : decode cX3_stepLength 18 = .ok (.iload_n 2, 1) := by decide +kernel
theorem dX3_stepLength_19 : decode cX3_stepLength 19 = .ok (.invokestatic 54, 3) := by decide +kernel
theorem dX3_stepLength_22 : decode cX3_stepLength 22 = .ok (.iload_n 1, 1) := by decide +kernel
theorem dX3_stepLength_23 : decode cX3_stepLength 23 = .ok (.invokestatic 54, 3) := by decide +kernel
theorem dX3_stepLength_26 : decode cX3_stepLength 26 = .ok (.isub, 1) := by decide +kernel
theorem dX3_stepLength_27 : decode cX3_stepLength 27 = .ok (.i2l, 1) := by decide +kernel
theorem dX3_stepLength_28 : decode cX3_stepLength 28 = .ok (.lstore_n 3, 1) := by decide +kernel
theorem dX3_stepLength_29 : decode cX3_stepLength 29 = .ok (.iload_n 2, 1) := by decide +kernel
theorem dX3_stepLength_30 : decode cX3_stepLength 30 = .ok (.invokestatic 57, 3) := by decide +kernel
theorem dX3_stepLength_33 : decode cX3_stepLength 33 = .ok (.iload_n 1, 1) := by decide +kernel
theorem dX3_stepLength_34 : decode cX3_stepLength 34 = .ok (.invokestatic 57, 3) := by decide +kernel
theorem dX3_stepLength_37 : decode cX3_stepLength 37 = .ok (.isub, 1) := by decide +kernel
theorem dX3_stepLength_38 : decode cX3_stepLength 38 = .ok (.i2l, 1) := by decide +kernel
theorem dX3_stepLength_39 : decode cX3_stepLength 39 = .ok (.lstore 5, 2) := by decide +kernel
theorem dX3_stepLength_41 : decode cX3_stepLength 41 = .ok (.ldc2_w 84, 3) := by decide +kernel
theorem dX3_stepLength_44 : decode cX3_stepLength 44 = .ok (.lload_n 3, 1) := by decide +kernel
theorem dX3_stepLength_45 : decode cX3_stepLength 45 = .ok (.lload_n 3, 1) := by decide +kernel
theorem dX3_stepLength_46 : decode cX3_stepLength 46 = .ok (.lmul, 1) := by decide +kernel
theorem dX3_stepLength_47 : decode cX3_stepLength 47 = .ok (.lload 5, 2) := by decide +kernel
theorem dX3_stepLength_49 : decode cX3_stepLength 49 = .ok (.lload 5, 2) := by decide +kernel
theorem dX3_stepLength_51 : decode cX3_stepLength 51 = .ok (.lmul, 1) := by decide +kernel
theorem dX3_stepLength_52 : decode cX3_stepLength 52 = .ok (.ladd, 1) := by decide +kernel
theorem dX3_stepLength_53 : decode cX3_stepLength 53 = .ok (.lmul, 1) := by decide +kernel
theorem dX3_stepLength_54 : decode cX3_stepLength 54 = .ok (.invokestatic 86, 3) := by decide +kernel
theorem dX3_stepLength_57 : decode cX3_stepLength 57 = .ok (.ireturn, 1) := by decide +kernel
theorem dX3_addLadder_0 : decode cX3_addLadder 0 = .ok (.aload_n 0, 1) := by decide +kernel
theorem dX3_addLadder_1 : decode cX3_addLadder 1 = .ok (.getfield 46, 3) := by decide +kernel
theorem dX3_addLadder_4 : decode cX3_addLadder 4 = .ok (.bipush 6, 2) := by decide +kernel
theorem dX3_addLadder_6 : decode cX3_addLadder 6 = .ok (.if_icmp .lt 6, 3) := by decide +kernel
theorem dX3_addLadder_9 : decode cX3_addLadder 9 = .ok (.bipush (-4), 2) := by decide +kernel
theorem dX3_addLadder_11 : decode cX3_addLadder 11 = .ok (.ireturn, 1) := by decide +kernel
theorem dX3_addLadder_12 : decode cX3_addLadder 12 = .ok (.aload_n 0, 1) := by decide +kernel
theorem dX3_addLadder_13 : decode cX3_addLadder 13 = .ok (.getfield 29, 3) := by decide +kernel
theorem dX3_addLadder_16 : decode cX3_addLadder 16 = .ok (.aload_n 0, 1) := by decide +kernel
theorem dX3_addLadder_17 : decode cX3_addLadder 17 = .ok (.getfield 46, 3) := by decide +kernel
theorem dX3_addLadder_20 : decode cX3_addLadder 20 = .ok (.iload_n 1, 1) := by decide +kernel
theorem dX3_addLadder_21 : decode cX3_addLadder 21 = .ok (.iastore, 1) := by decide +kernel
theorem dX3_addLadder_22 : decode cX3_addLadder 22 = .ok (.aload_n 0, 1) := by decide +kernel
theorem dX3_addLadder_23 : decode cX3_addLadder 23 = .ok (.getfield 33, 3) := by decide +kernel
theorem dX3_addLadder_26 : decode cX3_addLadder 26 = .ok (.aload_n 0, 1) := by decide +kernel
theorem dX3_addLadder_27 : decode cX3_addLadder 27 = .ok (.getfield 46, 3) := by decide +kernel
theorem dX3_addLadder_30 : decode cX3_addLadder 30 = .ok (.iload_n 2, 1) := by decide +kernel
theorem dX3_addLadder_31 : decode cX3_addLadder 31 = .ok (.iastore, 1) := by decide +kernel
theorem dX3_addLadder_32 : decode cX3_addLadder 32 = .ok (.aload_n 0, 1) := by decide +kernel
theorem dX3_addLadder_33 : decode cX3_addLadder 33 = .ok (.getfield 36, 3) := by decide +kernel
theorem dX3_addLadder_36 : decode cX3_addLadder 36 = .ok (.aload_n 0, 1) := by decide +kernel
theorem dX3_addLadder_37 : decode cX3_addLadder 37 = .ok (.getfield 46, 3) := by decide +kernel
theorem dX3_addLadder_40 : decode cX3_addLadder 40 = .ok (.iload_n 3, 1) := by decide +kernel
theorem dX3_addLadder_41 : decode cX3_addLadder 41 = .ok (.iastore, 1) := by decide +kernel
theorem dX3_addLadder_42 : decode cX3_addLadder 42 = .ok (.aload_n 0, 1) := by decide +kernel
theorem dX3_addLadder_43 : decode cX3_addLadder 43 = .ok (.dup, 1) := by decide +kernel
theorem dX3_addLadder_44 : decode cX3_addLadder 44 = .ok (.getfield 46, 3) := by decide +kernel
theorem dX3_addLadder_47 : decode cX3_addLadder 47 = .ok (.iconst 1, 1) := by decide +kernel
theorem dX3_addLadder_48 : decode cX3_addLadder 48 = .ok (.iadd, 1) := by decide +kernel
theorem dX3_addLadder_49 : decode cX3_addLadder 49 = .ok (.putfield 46, 3) := by decide +kernel
theorem dX3_addLadder_52 : decode cX3_addLadder 52 = .ok (.aload_n 0, 1) := by decide +kernel
theorem dX3_addLadder_53 : decode cX3_addLadder 53 = .ok (.getfield 46, 3) := by decide +kernel
theorem dX3_addLadder_56 : decode cX3_addLadder 56 = .ok (.iconst 1, 1) := by decide +kernel
theorem dX3_addLadder_57 : decode cX3_addLadder 57 = .ok (.isub, 1) := by decide +kernel
theorem dX3_addLadder_58 : decode cX3_addLadder 58 = .ok (.ireturn, 1) := by decide +kernel
set_option maxRecDepth 20000 in
theorem ggX3_legIsInRooms_X4_meets : GoodIn wsX3_legIsInRooms wsX4_meets := goodIn_r _ [12, 13, 14, 15, 16, 17, 18, 19, 20, 21, 22, 23, 24, 25, 26, 27, 39, 40, 41, 42, 43, 44, 45, 46, 47, 48, 49, 50, 51, 52, 53, 54] (by decide +kernel) (by decide +kernel)
set_option maxRecDepth 20000 in
theorem gX3_legIsInRooms_X4_meets : GoodIn wsX3_legIsInRooms (wsV RX3 111 RX4 yX4_meets wsX4_meets) := goodIn_app (goodIn_of _ (by decide +kernel)) ggX3_legIsInRooms_X4_meets
theorem dX3_legIsInRooms_0 : decode cX3_legIsInRooms 0 = .ok (.iconst 0, 1) := by decide +kernel
theorem dX3_legIsInRooms_1 : decode cX3_legIsInRooms 1 = .ok (.istore_n 1, 1) := by decide +kernel
theorem dX3_legIsInRooms_2 : decode cX3_legIsInRooms 2 = .ok (.iconst 0, 1) := by decide +kernel
theorem dX3_legIsInRooms_3 : decode cX3_legIsInRooms 3 = .ok (.istore_n 2, 1) := by decide +kernel
theorem dX3_legIsInRooms_4 : decode cX3_legIsInRooms 4 = .ok (.iload_n 2, 1) := by decide +kernel
theorem dX3_legIsInRooms_5 : decode cX3_legIsInRooms 5 = .ok (.aload_n 0, 1) := by decide +kernel
theorem dX3_legIsInRooms_6 : decode cX3_legIsInRooms 6 = .ok (.getfield 14, 3) := by decide +kernel
theorem dX3_legIsInRooms_9 : decode cX3_legIsInRooms 9 = .ok (.getfield 74, 3) := by decide +kernel
theorem dX3_legIsInRooms_12 : decode cX3_legIsInRooms 12 = .ok (.if_icmp .ge 104, 3) := by decide +kernel
theorem dX3_legIsInRooms_15 : decode cX3_legIsInRooms 15 = .ok (.iload_n 1, 1) := by decide +kernel
theorem dX3_legIsInRooms_16 : decode cX3_legIsInRooms 16 = .ok (.istore_n 3, 1) := by decide +kernel
theorem dX3_legIsInRooms_17 : decode cX3_legIsInRooms 17 = .ok (.iconst 0, 1) := by decide +kernel
theorem dX3_legIsInRooms_18 : decode cX3_legIsInRooms 18 = .ok (.istore 4, 2) := by decide +kernel
theorem dX3_legIsInRooms_20 : decode cX3_legIsInRooms 20 = .ok (.iload 4, 2) := by decide +kernel
theorem dX3_legIsInRooms_22 : decode cX3_legIsInRooms 22 = .ok (.aload_n 0, 1) := by decide +kernel
theorem dX3_legIsInRooms_23 : decode cX3_legIsInRooms 23 = .ok (.getfield 14, 3) := by decide +kernel
theorem dX3_legIsInRooms_26 : decode cX3_legIsInRooms 26 = .ok (.getfield 74, 3) := by decide +kernel
theorem dX3_legIsInRooms_29 : decode cX3_legIsInRooms 29 = .ok (.if_icmp .ge 59, 3) := by decide +kernel
theorem dX3_legIsInRooms_32 : decode cX3_legIsInRooms 32 = .ok (.aload_n 0, 1) := by decide +kernel
theorem dX3_legIsInRooms_33 : decode cX3_legIsInRooms 33 = .ok (.getfield 42, 3) := by decide +kernel
theorem dX3_legIsInRooms_36 : decode cX3_legIsInRooms 36 = .ok (.aload_n 0, 1) := by decide +kernel
theorem dX3_legIsInRooms_37 : decode cX3_legIsInRooms 37 = .ok (.getfield 14, 3) := by decide +kernel
theorem dX3_legIsInRooms_40 : decode cX3_legIsInRooms 40 = .ok (.getfield 60, 3) := by decide +kernel
theorem dX3_legIsInRooms_43 : decode cX3_legIsInRooms 43 = .ok (.iload 4, 2) := by decide +kernel
theorem dX3_legIsInRooms_45 : decode cX3_legIsInRooms 45 = .ok (.aaload, 1) := by decide +kernel
theorem dX3_legIsInRooms_46 : decode cX3_legIsInRooms 46 = .ok (.invokevirtual 111, 3) := by decide +kernel
theorem dX3_legIsInRooms_49 : decode cX3_legIsInRooms 49 = .ok (.ifCond .eq 33, 3) := by decide +kernel
theorem dX3_legIsInRooms_52 : decode cX3_legIsInRooms 52 = .ok (.aload_n 0, 1) := by decide +kernel
theorem dX3_legIsInRooms_53 : decode cX3_legIsInRooms 53 = .ok (.getfield 42, 3) := by decide +kernel
theorem dX3_legIsInRooms_56 : decode cX3_legIsInRooms 56 = .ok (.getfield 115, 3) := by decide +kernel
theorem dX3_legIsInRooms_59 : decode cX3_legIsInRooms 59 = .ok (.iload_n 1, 1) := by decide +kernel
theorem dX3_legIsInRooms_60 : decode cX3_legIsInRooms 60 = .ok (.if_icmp .gt 22, 3) := by decide +kernel
theorem dX3_legIsInRooms_63 : decode cX3_legIsInRooms 63 = .ok (.aload_n 0, 1) := by decide +kernel
theorem dX3_legIsInRooms_64 : decode cX3_legIsInRooms 64 = .ok (.getfield 42, 3) := by decide +kernel
theorem dX3_legIsInRooms_67 : decode cX3_legIsInRooms 67 = .ok (.getfield 118, 3) := by decide +kernel
theorem dX3_legIsInRooms_70 : decode cX3_legIsInRooms 70 = .ok (.iload_n 3, 1) := by decide +kernel
theorem dX3_legIsInRooms_71 : decode cX3_legIsInRooms 71 = .ok (.if_icmp .le 11, 3) := by decide +kernel
theorem dX3_legIsInRooms_74 : decode cX3_legIsInRooms 74 = .ok (.aload_n 0, 1) := by decide +kernel
theorem dX3_legIsInRooms_75 : decode cX3_legIsInRooms 75 = .ok (.getfield 42, 3) := by decide +kernel
theorem dX3_legIsInRooms_78 : decode cX3_legIsInRooms 78 = .ok (.getfield 118, 3) := by decide +kernel
theorem dX3_legIsInRooms_81 : decode cX3_legIsInRooms 81 = .ok (.istore_n 3, 1) := by decide +kernel
theorem dX3_legIsInRooms_82 : decode cX3_legIsInRooms 82 = .ok (.iinc 4 1, 3) := by decide +kernel
theorem dX3_legIsInRooms_85 : decode cX3_legIsInRooms 85 = .ok (.goto (-65), 3) := by decide +kernel
theorem dX3_legIsInRooms_88 : decode cX3_legIsInRooms 88 = .ok (.iload_n 3, 1) := by decide +kernel
theorem dX3_legIsInRooms_89 : decode cX3_legIsInRooms 89 = .ok (.aload_n 0, 1) := by decide +kernel
theorem dX3_legIsInRooms_90 : decode cX3_legIsInRooms 90 = .ok (.getfield 42, 3) := by decide +kernel
theorem dX3_legIsInRooms_93 : decode cX3_legIsInRooms 93 = .ok (.getfield 121, 3) := by decide +kernel
theorem dX3_legIsInRooms_96 : decode cX3_legIsInRooms 96 = .ok (.if_icmp .lt 5, 3) := by decide +kernel
theorem dX3_legIsInRooms_99 : decode cX3_legIsInRooms 99 = .ok (.iconst 1, 1) := by decide +kernel
theorem dX3_legIsInRooms_100 : decode cX3_legIsInRooms 100 = .ok (.ireturn, 1) := by decide +kernel
theorem dX3_legIsInRooms_101 : decode cX3_legIsInRooms 101 = .ok (.iload_n 3, 1) := by decide +kernel
theorem dX3_legIsInRooms_102 : decode cX3_legIsInRooms 102 = .ok (.iload_n 1, 1) := by decide +kernel
theorem dX3_legIsInRooms_103 : decode cX3_legIsInRooms 103 = .ok (.if_icmp .ne 5, 3) := by decide +kernel
theorem dX3_legIsInRooms_106 : decode cX3_legIsInRooms 106 = .ok (.iconst 0, 1) := by decide +kernel
theorem dX3_legIsInRooms_107 : decode cX3_legIsInRooms 107 = .ok (.ireturn, 1) := by decide +kernel
theorem dX3_legIsInRooms_108 : decode cX3_legIsInRooms 108 = .ok (.iload_n 3, 1) := by decide +kernel
theorem dX3_legIsInRooms_109 : decode cX3_legIsInRooms 109 = .ok (.istore_n 1, 1) := by decide +kernel
theorem dX3_legIsInRooms_110 : decode cX3_legIsInRooms 110 = .ok (.iinc 2 1, 3) := by decide +kernel
theorem dX3_legIsInRooms_113 : decode cX3_legIsInRooms 113 = .ok (.goto (-109), 3) := by decide +kernel
theorem dX3_legIsInRooms_116 : decode cX3_legIsInRooms 116 = .ok (.iconst 0, 1) := by decide +kernel
theorem dX3_legIsInRooms_117 : decode cX3_legIsInRooms 117 = .ok (.ireturn, 1) := by decide +kernel
set_option maxRecDepth 20000 in
theorem ggX3_legRunsInBox_X4_meets : GoodIn wsX3_legRunsInBox wsX4_meets := goodIn_r _ [9, 10, 11, 12, 13, 14, 15, 16, 17, 18, 19, 20, 21, 22, 23, 24, 46, 47, 48, 49, 50, 51, 52, 53, 54, 55, 40, 41, 42, 43, 44, 45] (by decide +kernel) (by decide +kernel)
set_option maxRecDepth 20000 in
theorem gX3_legRunsInBox_X4_meets : GoodIn wsX3_legRunsInBox (wsV RX3 111 RX4 yX4_meets wsX4_meets) := goodIn_app (goodIn_of _ (by decide +kernel)) ggX3_legRunsInBox_X4_meets
set_option maxRecDepth 20000 in
theorem ggX3_legRunsInBox_X4_runsInside : GoodIn wsX3_legRunsInBox wsX4_runsInside := goodIn_r _ [28, 12, 14, 13, 15, 16, 18, 17, 19, 20, 22, 46, 47, 48, 49, 50, 51, 52, 53, 54, 55, 40, 41, 42, 43, 44, 45] (by decide +kernel) (by decide +kernel)
set_option maxRecDepth 20000 in
theorem gX3_legRunsInBox_X4_runsInside : GoodIn wsX3_legRunsInBox (wsV RX3 124 RX4 yX4_runsInside wsX4_runsInside) := goodIn_app (goodIn_of _ (by decide +kernel)) ggX3_legRunsInBox_X4_runsInside
theorem dX3_legRunsInBox_0 : decode cX3_legRunsInBox 0 = .ok (.iconst 0, 1) := by decide +kernel
theorem dX3_legRunsInBox_1 : decode cX3_legRunsInBox 1 = .ok (.istore_n 1, 1) := by decide +kernel
theorem dX3_legRunsInBox_2 : decode cX3_legRunsInBox 2 = .ok (.iload_n 1, 1) := by decide +kernel
theorem dX3_legRunsInBox_3 : decode cX3_legRunsInBox 3 = .ok (.bipush 8, 2) := by decide +kernel
theorem dX3_legRunsInBox_5 : decode cX3_legRunsInBox 5 = .ok (.if_icmp .ge 50, 3) := by decide +kernel
theorem dX3_legRunsInBox_8 : decode cX3_legRunsInBox 8 = .ok (.aload_n 0, 1) := by decide +kernel
theorem dX3_legRunsInBox_9 : decode cX3_legRunsInBox 9 = .ok (.getfield 20, 3) := by decide +kernel
theorem dX3_legRunsInBox_12 : decode cX3_legRunsInBox 12 = .ok (.getfield 60, 3) := by decide +kernel
theorem dX3_legRunsInBox_15 : decode cX3_legRunsInBox 15 = .ok (.iload_n 1, 1) := by decide +kernel
theorem dX3_legRunsInBox_16 : decode cX3_legRunsInBox 16 = .ok (.aaload, 1) := by decide +kernel
theorem dX3_legRunsInBox_17 : decode cX3_legRunsInBox 17 = .ok (.astore_n 2, 1) := by decide +kernel
theorem dX3_legRunsInBox_18 : decode cX3_legRunsInBox 18 = .ok (.aload_n 2, 1) := by decide +kernel
theorem dX3_legRunsInBox_19 : decode cX3_legRunsInBox 19 = .ok (.getfield 64, 3) := by decide +kernel
theorem dX3_legRunsInBox_22 : decode cX3_legRunsInBox 22 = .ok (.ifCond .eq 27, 3) := by decide +kernel
theorem dX3_legRunsInBox_25 : decode cX3_legRunsInBox 25 = .ok (.aload_n 0, 1) := by decide +kernel
theorem dX3_legRunsInBox_26 : decode cX3_legRunsInBox 26 = .ok (.getfield 42, 3) := by decide +kernel
theorem dX3_legRunsInBox_29 : decode cX3_legRunsInBox 29 = .ok (.aload_n 2, 1) := by decide +kernel
theorem dX3_legRunsInBox_30 : decode cX3_legRunsInBox 30 = .ok (.invokevirtual 111, 3) := by decide +kernel
theorem dX3_legRunsInBox_33 : decode cX3_legRunsInBox 33 = .ok (.ifCond .eq 16, 3) := by decide +kernel
theorem dX3_legRunsInBox_36 : decode cX3_legRunsInBox 36 = .ok (.aload_n 0, 1) := by decide +kernel
theorem dX3_legRunsInBox_37 : decode cX3_legRunsInBox 37 = .ok (.getfield 42, 3) := by decide +kernel
theorem dX3_legRunsInBox_40 : decode cX3_legRunsInBox 40 = .ok (.aload_n 2, 1) := by decide +kernel
theorem dX3_legRunsInBox_41 : decode cX3_legRunsInBox 41 = .ok (.invokevirtual 124, 3) := by decide +kernel
theorem dX3_legRunsInBox_44 : decode cX3_legRunsInBox 44 = .ok (.ifCond .eq 5, 3) := by decide +kernel
theorem dX3_legRunsInBox_47 : decode cX3_legRunsInBox 47 = .ok (.iconst 1, 1) := by decide +kernel
theorem dX3_legRunsInBox_48 : decode cX3_legRunsInBox 48 = .ok (.ireturn, 1) := by decide +kernel
theorem dX3_legRunsInBox_49 : decode cX3_legRunsInBox 49 = .ok (.iinc 1 1, 3) := by decide +kernel
theorem dX3_legRunsInBox_52 : decode cX3_legRunsInBox 52 = .ok (.goto (-50), 3) := by decide +kernel
theorem dX3_legRunsInBox_55 : decode cX3_legRunsInBox 55 = .ok (.iconst 0, 1) := by decide +kernel
theorem dX3_legRunsInBox_56 : decode cX3_legRunsInBox 56 = .ok (.ireturn, 1) := by decide +kernel
set_option maxRecDepth 20000 in
theorem ggX3_legMeetsShutDoor_X4_meets : GoodIn wsX3_legMeetsShutDoor wsX4_meets := goodIn_r _ [10, 11, 12, 13, 14, 15, 16, 17, 18, 19, 20, 21, 22, 23, 24, 25, 43, 44, 45, 46, 47, 48, 49, 50, 51, 52, 37, 38, 39, 40, 41, 42] (by decide +kernel) (by decide +kernel)
set_option maxRecDepth 20000 in
theorem gX3_legMeetsShutDoor_X4_meets : GoodIn wsX3_legMeetsShutDoor (wsV RX3 111 RX4 yX4_meets wsX4_meets) := goodIn_app (goodIn_of _ (by decide +kernel)) ggX3_legMeetsShutDoor_X4_meets
theorem dX3_legMeetsShutDoor_0 : decode cX3_legMeetsShutDoor 0 = .ok (.iconst 0, 1) := by decide +kernel
theorem dX3_legMeetsShutDoor_1 : decode cX3_legMeetsShutDoor 1 = .ok (.istore_n 1, 1) := by decide +kernel
theorem dX3_legMeetsShutDoor_2 : decode cX3_legMeetsShutDoor 2 = .ok (.iload_n 1, 1) := by decide +kernel
theorem dX3_legMeetsShutDoor_3 : decode cX3_legMeetsShutDoor 3 = .ok (.aload_n 0, 1) := by decide +kernel
theorem dX3_legMeetsShutDoor_4 : decode cX3_legMeetsShutDoor 4 = .ok (.getfield 23, 3) := by decide +kernel
theorem dX3_legMeetsShutDoor_7 : decode cX3_legMeetsShutDoor 7 = .ok (.getfield 74, 3) := by decide +kernel
theorem dX3_legMeetsShutDoor_10 : decode cX3_legMeetsShutDoor 10 = .ok (.if_icmp .ge 45, 3) := by decide +kernel
theorem dX3_legMeetsShutDoor_13 : decode cX3_legMeetsShutDoor 13 = .ok (.aload_n 0, 1) := by decide +kernel
theorem dX3_legMeetsShutDoor_14 : decode cX3_legMeetsShutDoor 14 = .ok (.getfield 23, 3) := by decide +kernel
theorem dX3_legMeetsShutDoor_17 : decode cX3_legMeetsShutDoor 17 = .ok (.getfield 60, 3) := by decide +kernel
theorem dX3_legMeetsShutDoor_20 : decode cX3_legMeetsShutDoor 20 = .ok (.iload_n 1, 1) := by decide +kernel
theorem dX3_legMeetsShutDoor_21 : decode cX3_legMeetsShutDoor 21 = .ok (.aaload, 1) := by decide +kernel
theorem dX3_legMeetsShutDoor_22 : decode cX3_legMeetsShutDoor 22 = .ok (.getfield 64, 3) := by decide +kernel
theorem dX3_legMeetsShutDoor_25 : decode cX3_legMeetsShutDoor 25 = .ok (.ifCond .eq 24, 3) := by decide +kernel
theorem dX3_legMeetsShutDoor_28 : decode cX3_legMeetsShutDoor 28 = .ok (.aload_n 0, 1) := by decide +kernel
theorem dX3_legMeetsShutDoor_29 : decode cX3_legMeetsShutDoor 29 = .ok (.getfield 42, 3) := by decide +kernel
theorem dX3_legMeetsShutDoor_32 : decode cX3_legMeetsShutDoor 32 = .ok (.aload_n 0, 1) := by decide +kernel
theorem dX3_legMeetsShutDoor_33 : decode cX3_legMeetsShutDoor 33 = .ok (.getfield 23, 3) := by decide +kernel
theorem dX3_legMeetsShutDoor_36 : decode cX3_legMeetsShutDoor 36 = .ok (.getfield 60, 3) := by decide +kernel
theorem dX3_legMeetsShutDoor_39 : decode cX3_legMeetsShutDoor 39 = .ok (.iload_n 1, 1) := by decide +kernel
theorem dX3_legMeetsShutDoor_40 : decode cX3_legMeetsShutDoor 40 = .ok (.aaload, 1) := by decide +kernel
theorem dX3_legMeetsShutDoor_41 : decode cX3_legMeetsShutDoor 41 = .ok (.invokevirtual 111, 3) := by decide +kernel
theorem dX3_legMeetsShutDoor_44 : decode cX3_legMeetsShutDoor 44 = .ok (.ifCond .eq 5, 3) := by decide +kernel
theorem dX3_legMeetsShutDoor_47 : decode cX3_legMeetsShutDoor 47 = .ok (.iconst 1, 1) := by decide +kernel
theorem dX3_legMeetsShutDoor_48 : decode cX3_legMeetsShutDoor 48 = .ok (.ireturn, 1) := by decide +kernel
theorem dX3_legMeetsShutDoor_49 : decode cX3_legMeetsShutDoor 49 = .ok (.iinc 1 1, 3) := by decide +kernel
theorem dX3_legMeetsShutDoor_52 : decode cX3_legMeetsShutDoor 52 = .ok (.goto (-50), 3) := by decide +kernel
theorem dX3_legMeetsShutDoor_55 : decode cX3_legMeetsShutDoor 55 = .ok (.iconst 0, 1) := by decide +kernel
theorem dX3_legMeetsShutDoor_56 : decode cX3_legMeetsShutDoor 56 = .ok (.ireturn, 1) := by decide +kernel
set_option maxRecDepth 20000 in
theorem ggX3_legCrossesLedge_X4_goesAgainst : GoodIn wsX3_legCrossesLedge wsX4_goesAgainst := goodIn_r _ [9, 10, 11, 12, 13, 14, 15, 16, 17, 41, 42, 43, 44, 45, 46, 47, 48, 49, 50, 51, 52, 53, 54, 55, 56] (by decide +kernel) (by decide +kernel)
set_option maxRecDepth 20000 in
theorem gX3_legCrossesLedge_X4_goesAgainst : GoodIn wsX3_legCrossesLedge (wsV RX3 127 RX4 yX4_goesAgainst wsX4_goesAgainst) := goodIn_app (goodIn_of _ (by decide +kernel)) ggX3_legCrossesLedge_X4_goesAgainst
set_option maxRecDepth 20000 in
theorem ggX3_legCrossesLedge_X4_meets : GoodIn wsX3_legCrossesLedge wsX4_meets := goodIn_r _ [21, 22, 23, 14, 12, 10, 11, 15, 13, 16, 24, 25, 26, 27, 28, 29, 47, 48, 49, 50, 51, 52, 53, 54, 55, 56, 41, 42, 43, 44, 45, 46] (by decide +kernel) (by decide +kernel)
set_option maxRecDepth 20000 in
theorem gX3_legCrossesLedge_X4_meets : GoodIn wsX3_legCrossesLedge (wsV RX3 111 RX4 yX4_meets wsX4_meets) := goodIn_app (goodIn_of _ (by decide +kernel)) ggX3_legCrossesLedge_X4_meets
theorem dX3_legCrossesLedge_0 : decode cX3_legCrossesLedge 0 = .ok (.iconst 0, 1) := by decide +kernel
theorem dX3_legCrossesLedge_1 : decode cX3_legCrossesLedge 1 = .ok (.istore_n 1, 1) := by decide +kernel
theorem dX3_legCrossesLedge_2 : decode cX3_legCrossesLedge 2 = .ok (.iload_n 1, 1) := by decide +kernel
theorem dX3_legCrossesLedge_3 : decode cX3_legCrossesLedge 3 = .ok (.aload_n 0, 1) := by decide +kernel
theorem dX3_legCrossesLedge_4 : decode cX3_legCrossesLedge 4 = .ok (.getfield 26, 3) := by decide +kernel
theorem dX3_legCrossesLedge_7 : decode cX3_legCrossesLedge 7 = .ok (.getfield 74, 3) := by decide +kernel
theorem dX3_legCrossesLedge_10 : decode cX3_legCrossesLedge 10 = .ok (.if_icmp .ge 49, 3) := by decide +kernel
theorem dX3_legCrossesLedge_13 : decode cX3_legCrossesLedge 13 = .ok (.aload_n 0, 1) := by decide +kernel
theorem dX3_legCrossesLedge_14 : decode cX3_legCrossesLedge 14 = .ok (.getfield 42, 3) := by decide +kernel
theorem dX3_legCrossesLedge_17 : decode cX3_legCrossesLedge 17 = .ok (.aload_n 0, 1) := by decide +kernel
theorem dX3_legCrossesLedge_18 : decode cX3_legCrossesLedge 18 = .ok (.getfield 26, 3) := by decide +kernel
theorem dX3_legCrossesLedge_21 : decode cX3_legCrossesLedge 21 = .ok (.getfield 60, 3) := by decide +kernel
theorem dX3_legCrossesLedge_24 : decode cX3_legCrossesLedge 24 = .ok (.iload_n 1, 1) := by decide +kernel
theorem dX3_legCrossesLedge_25 : decode cX3_legCrossesLedge 25 = .ok (.aaload, 1) := by decide +kernel
theorem dX3_legCrossesLedge_26 : decode cX3_legCrossesLedge 26 = .ok (.invokevirtual 127, 3) := by decide +kernel
theorem dX3_legCrossesLedge_29 : decode cX3_legCrossesLedge 29 = .ok (.ifCond .eq 24, 3) := by decide +kernel
theorem dX3_legCrossesLedge_32 : decode cX3_legCrossesLedge 32 = .ok (.aload_n 0, 1) := by decide +kernel
theorem dX3_legCrossesLedge_33 : decode cX3_legCrossesLedge 33 = .ok (.getfield 42, 3) := by decide +kernel
theorem dX3_legCrossesLedge_36 : decode cX3_legCrossesLedge 36 = .ok (.aload_n 0, 1) := by decide +kernel
theorem dX3_legCrossesLedge_37 : decode cX3_legCrossesLedge 37 = .ok (.getfield 26, 3) := by decide +kernel
theorem dX3_legCrossesLedge_40 : decode cX3_legCrossesLedge 40 = .ok (.getfield 60, 3) := by decide +kernel
theorem dX3_legCrossesLedge_43 : decode cX3_legCrossesLedge 43 = .ok (.iload_n 1, 1) := by decide +kernel
theorem dX3_legCrossesLedge_44 : decode cX3_legCrossesLedge 44 = .ok (.aaload, 1) := by decide +kernel
theorem dX3_legCrossesLedge_45 : decode cX3_legCrossesLedge 45 = .ok (.invokevirtual 111, 3) := by decide +kernel
theorem dX3_legCrossesLedge_48 : decode cX3_legCrossesLedge 48 = .ok (.ifCond .eq 5, 3) := by decide +kernel
theorem dX3_legCrossesLedge_51 : decode cX3_legCrossesLedge 51 = .ok (.iconst 1, 1) := by decide +kernel
theorem dX3_legCrossesLedge_52 : decode cX3_legCrossesLedge 52 = .ok (.ireturn, 1) := by decide +kernel
theorem dX3_legCrossesLedge_53 : decode cX3_legCrossesLedge 53 = .ok (.iinc 1 1, 3) := by decide +kernel
theorem dX3_legCrossesLedge_56 : decode cX3_legCrossesLedge 56 = .ok (.goto (-54), 3) := by decide +kernel
theorem dX3_legCrossesLedge_59 : decode cX3_legCrossesLedge 59 = .ok (.iconst 0, 1) := by decide +kernel
theorem dX3_legCrossesLedge_60 : decode cX3_legCrossesLedge 60 = .ok (.ireturn, 1) := by decide +kernel
set_option maxRecDepth 20000 in
theorem ggX3_judge_X7_levelOf : GoodIn wsX3_judge wsX7_levelOf := goodIn_r _ [4] (by decide +kernel) (by decide +kernel)
set_option maxRecDepth 20000 in
theorem gX3_judge_X7_levelOf_n50 : GoodIn wsX3_judge (wsX7_levelOf) := ggX3_judge_X7_levelOf
set_option maxRecDepth 20000 in
theorem ggX3_judge_X3_leastLadderCost : GoodIn wsX3_judge wsX3_leastLadderCost := goodIn_r _ [9, 10, 11, 12, 13, 102, 103, 104, 105, 106, 107, 108, 109, 110] (by decide +kernel) (by decide +kernel)
set_option maxRecDepth 20000 in
theorem gX3_judge_X3_leastLadderCost : GoodIn wsX3_judge (wsV RX3 80 RX3 yX3_leastLadderCost wsX3_leastLadderCost) := goodIn_app (goodIn_of _ (by decide +kernel)) ggX3_judge_X3_leastLadderCost
set_option maxRecDepth 20000 in
theorem ggX3_judge_X3_isGround : GoodIn wsX3_judge wsX3_isGround := goodIn_r _ [17, 18, 19, 20, 21, 22, 2, 3, 4, 23, 24, 25, 26, 27, 28, 29, 30, 31, 32, 33, 34, 35, 36, 37, 38, 39, 40, 102, 103, 104, 105, 106, 107, 108, 109, 110, 111, 112, 113, 114, 115, 116, 117, 118] (by decide +kernel) (by decide +kernel)
set_option maxRecDepth 20000 in
theorem gX3_judge_X3_isGround : GoodIn wsX3_judge (wsV RX3 90 RX3 yX3_isGround wsX3_isGround) := goodIn_app (goodIn_of _ (by decide +kernel)) ggX3_judge_X3_isGround
set_option maxRecDepth 20000 in
theorem ggX3_judge_X4_lay : GoodIn wsX3_judge wsX4_lay := goodIn_r _ [45, 46, 47, 48, 49, 50, 51, 52, 53, 54, 55, 56, 57, 58, 59, 60, 2, 3, 4, 23, 24, 25, 26, 119, 120, 121, 122, 123, 124, 125, 126, 127, 128] (by decide +kernel) (by decide +kernel)
set_option maxRecDepth 20000 in
theorem gX3_judge_X4_lay : GoodIn wsX3_judge (wsV RX3 94 RX4 yX4_lay wsX4_lay) := goodIn_app (goodIn_of _ (by decide +kernel)) ggX3_judge_X4_lay
set_option maxRecDepth 20000 in
theorem ggX3_judge_X3_legIsInRooms : GoodIn wsX3_judge wsX3_legIsInRooms := goodIn_r _ [64, 21, 22, 1, 19, 65, 66, 67, 68, 69, 70, 44, 71, 46, 72, 49, 47, 73, 74, 50, 48, 75, 76, 77, 58, 78, 59, 60, 102, 103, 104, 105, 106, 107, 108, 109, 110, 111, 112, 119, 120, 121, 122, 123, 124, 125, 126, 127, 128, 113, 114, 115, 116, 117, 118] (by decide +kernel) (by decide +kernel)
set_option maxRecDepth 20000 in
theorem gX3_judge_X3_legIsInRooms : GoodIn wsX3_judge (wsV RX3 98 RX3 yX3_legIsInRooms wsX3_legIsInRooms) := goodIn_app (goodIn_of _ (by decide +kernel)) ggX3_judge_X3_legIsInRooms
set_option maxRecDepth 20000 in
theorem ggX3_judge_X3_legRunsInBox : GoodIn wsX3_judge wsX3_legRunsInBox := goodIn_r _ [82, 18, 19, 20, 1, 68, 69, 70, 44, 71, 46, 72, 49, 47, 73, 74, 50, 48, 75, 76, 77, 58, 78, 59, 60, 83, 84, 85, 86, 102, 103, 104, 105, 106, 107, 108, 109, 110, 111, 112, 113, 114, 115, 116, 117, 118, 119, 120, 121, 122, 123, 124, 125, 126, 127, 128] (by decide +kernel) (by decide +kernel)
set_option maxRecDepth 20000 in
theorem gX3_judge_X3_legRunsInBox : GoodIn wsX3_judge (wsV RX3 102 RX3 yX3_legRunsInBox wsX3_legRunsInBox) := goodIn_app (goodIn_of _ (by decide +kernel)) ggX3_judge_X3_legRunsInBox
set_option maxRecDepth 20000 in
theorem ggX3_judge_X3_legMeetsShutDoor : GoodIn wsX3_judge wsX3_legMeetsShutDoor := goodIn_r _ [90, 91, 22, 19, 20, 1, 68, 69, 70, 44, 71, 46, 72, 49, 47, 73, 74, 50, 48, 75, 76, 77, 58, 78, 59, 60, 102, 103, 104, 105, 106, 107, 108, 109, 110, 111, 112, 113, 114, 115, 116, 117, 118, 119, 120, 121, 122, 123, 124, 125, 126, 127, 128] (by decide +kernel) (by decide +kernel)
set_option maxRecDepth 20000 in
theorem gX3_judge_X3_legMeetsShutDoor : GoodIn wsX3_judge (wsV RX3 105 RX3 yX3_legMeetsShutDoor wsX3_legMeetsShutDoor) := goodIn_app (goodIn_of _ (by decide +kernel)) ggX3_judge_X3_legMeetsShutDoor
set_option maxRecDepth 20000 in
theorem ggX3_judge_X3_legCrossesLedge : GoodIn wsX3_judge wsX3_legCrossesLedge := goodIn_r _ [95, 96, 22, 1, 19, 97, 98, 99, 44, 100, 73, 74, 47, 48, 49, 50, 75, 101, 68, 69, 70, 71, 46, 72, 76, 77, 58, 78, 59, 60, 102, 103, 104, 105, 106, 107, 108, 109, 110, 111, 112, 113, 114, 115, 116, 117, 118, 119, 120, 121, 122, 123, 124, 125, 126, 127, 128] (by decide +kernel) (by decide +kernel)
set_option maxRecDepth 20000 in
theorem gX3_judge_X3_legCrossesLedge : GoodIn wsX3_judge (wsV RX3 108 RX3 yX3_legCrossesLedge wsX3_legCrossesLedge) := goodIn_app (goodIn_of _ (by decide +kernel)) ggX3_judge_X3_legCrossesLedge
theorem dX3_judge_0 : decode cX3_judge 0 = .ok (.iload_n 1, 1) := by decide +kernel
theorem dX3_judge_1 : decode cX3_judge 1 = .ok (.invokestatic 50, 3) := by decide +kernel
theorem dX3_judge_4 : decode cX3_judge 4 = .ok (.iload_n 2, 1) := by decide +kernel
theorem dX3_judge_5 : decode cX3_judge 5 = .ok (.invokestatic 50, 3) := by decide +kernel
theorem dX3_judge_8 : decode cX3_judge 8 = .ok (.if_icmp .eq 27, 3) := by decide +kernel
theorem dX3_judge_11 : decode cX3_judge 11 = .ok (.aload_n 0, 1) := by decide +kernel
theorem dX3_judge_12 : decode cX3_judge 12 = .ok (.iload_n 1, 1) := by decide +kernel
theorem dX3_judge_13 : decode cX3_judge 13 = .ok (.iload_n 2, 1) := by decide +kernel
theorem dX3_judge_14 : decode cX3_judge 14 = .ok (.invokevirtual 80, 3) := by decide +kernel
theorem dX3_judge_17 : decode cX3_judge 17 = .ok (.iconst (-1), 1) := by decide +kernel
theorem dX3_judge_18 : decode cX3_judge 18 = .ok (.if_icmp .eq 15, 3) := by decide +kernel
theorem dX3_judge_21 : decode cX3_judge 21 = .ok (.aload_n 0, 1) := by decide +kernel
theorem dX3_judge_22 : decode cX3_judge 22 = .ok (.iload_n 2, 1) := by decide +kernel
theorem dX3_judge_23 : decode cX3_judge 23 = .ok (.invokevirtual 90, 3) := by decide +kernel
theorem dX3_judge_26 : decode cX3_judge 26 = .ok (.ifCond .eq 7, 3) := by decide +kernel
theorem dX3_judge_29 : decode cX3_judge 29 = .ok (.iconst 1, 1) := by decide +kernel
theorem dX3_judge_30 : decode cX3_judge 30 = .ok (.goto 4, 3) := by decide +kernel
theorem dX3_judge_33 : decode cX3_judge 33 = .ok (.iconst 0, 1) := by decide +kernel
theorem dX3_judge_34 : decode cX3_judge 34 = .ok (.ireturn, 1) := by decide +kernel
theorem dX3_judge_35 : decode cX3_judge 35 = .ok (.aload_n 0, 1) := by decide +kernel
theorem dX3_judge_36 : decode cX3_judge 36 = .ok (.getfield 42, 3) := by decide +kernel
theorem dX3_judge_39 : decode cX3_judge 39 = .ok (.iload_n 1, 1) := by decide +kernel
theorem dX3_judge_40 : decode cX3_judge 40 = .ok (.iload_n 2, 1) := by decide +kernel
theorem dX3_judge_41 : decode cX3_judge 41 = .ok (.invokevirtual 94, 3) := by decide +kernel
theorem dX3_judge_44 : decode cX3_judge 44 = .ok (.aload_n 0, 1) := by decide +kernel
theorem dX3_judge_45 : decode cX3_judge 45 = .ok (.invokevirtual 98, 3) := by decide +kernel
theorem dX3_judge_48 : decode cX3_judge 48 = .ok (.ifCond .eq 10, 3) := by decide +kernel
theorem dX3_judge_51 : decode cX3_judge 51 = .ok (.aload_n 0, 1) := by decide +kernel
theorem dX3_judge_52 : decode cX3_judge 52 = .ok (.invokevirtual 102, 3) := by decide +kernel
theorem dX3_judge_55 : decode cX3_judge 55 = .ok (.ifCond .eq 5, 3) := by decide +kernel
theorem dX3_judge_58 : decode cX3_judge 58 = .ok (.iconst 0, 1) := by decide +kernel
theorem dX3_judge_59 : decode cX3_judge 59 = .ok (.ireturn, 1) := by decide +kernel
theorem dX3_judge_60 : decode cX3_judge 60 = .ok (.aload_n 0, 1) := by decide +kernel
theorem dX3_judge_61 : decode cX3_judge 61 = .ok (.invokevirtual 105, 3) := by decide +kernel
theorem dX3_judge_64 : decode cX3_judge 64 = .ok (.ifCond .eq 6, 3) := by decide +kernel
theorem dX3_judge_67 : decode cX3_judge 67 = .ok (.bipush (-10), 2) := by decide +kernel
theorem dX3_judge_69 : decode cX3_judge 69 = .ok (.ireturn, 1) := by decide +kernel
theorem dX3_judge_70 : decode cX3_judge 70 = .ok (.aload_n 0, 1) := by decide +kernel
theorem dX3_judge_71 : decode cX3_judge 71 = .ok (.invokevirtual 108, 3) := by decide +kernel
theorem dX3_judge_74 : decode cX3_judge 74 = .ok (.ifCond .eq 8, 3) := by decide +kernel
theorem dX3_judge_77 : decode cX3_judge 77 = .ok (.bipush (-11), 2) := by decide +kernel
theorem dX3_judge_79 : decode cX3_judge 79 = .ok (.goto 4, 3) := by decide +kernel
theorem dX3_judge_82 : decode cX3_judge 82 = .ok (.iconst 1, 1) := by decide +kernel
theorem dX3_judge_83 : decode cX3_judge 83 = .ok (.ireturn, 1) := by decide +kernel
