theorem dX3_isOnShutDoor_46 : decode cX3_isOnShutDoor 46 = .ok (.ifCond .eq 5, 3) := by decide +kernel
theorem dX3_isOnShutDoor_49 : decode cX3_isOnShutDoor 49 = .ok (.iconst 1, 1) := by decide +kernel
theorem dX3_isOnShutDoor_50 : decode cX3_isOnShutDoor 50 = .ok (.ireturn, 1) := by decide +kernel
theorem dX3_isOnShutDoor_51 : decode cX3_isOnShutDoor 51 = .ok (.iinc 2 1, 3) := by decide +kernel
theorem dX3_isOnShutDoor_54 : decode cX3_isOnShutDoor 54 = .ok (.goto (-52), 3) := by decide +kernel
theorem dX3_isOnShutDoor_57 : decode cX3_isOnShutDoor 57 = .ok (.iconst 0, 1) := by decide +kernel
theorem dX3_isOnShutDoor_58 : decode cX3_isOnShutDoor 58 = .ok (.ireturn, 1) := by decide +kernel
theorem dX3_judge_0 : decode cX3_judge 0 = .ok (.iload_n 1, 1) := by decide +kernel
theorem dX3_judge_1 : decode cX3_judge 1 = .ok (.invokestatic 50, 3) := by decide +kernel
theorem dX3_judge_4 : decode cX3_judge 4 = .ok (.iload_n 2, 1) := by decide +kernel
theorem dX3_judge_5 : decode cX3_judge 5 = .ok (.invokestatic 50, 3) := by decide +kernel
theorem dX3_judge_8 : decode cX3_judge 8 = .ok (.if_icmp .eq 27, 3) := by decide +kernel
theorem dX3_judge_11 : decode cX3_judge 11 = .ok (.aload_n 0, 1) := by decide +kernel
theorem dX3_judge_12 : decode cX3_judge 12 = .ok (.iload_n 1, 1) := by decide +kernel
theorem dX3_judge_13 : decode cX3_judge 13 = .ok (.iload_n 2, 1) := by decide +kernel
theorem dX3_judge_14 : decode cX3_judge 14 = .ok (.invokevirtual 80, 3) := by decide +kernel
theorem dX3_judge_17 : decode cX3_judge 17 = .ok (.iconst (-1), 1) := by decide +kernel
theorem dX3_judge_18 : decode cX3_judge 18 = .ok (.if_icmp .eq 15, 3) := by decide +kernel
theorem dX3_judge_21 : decode cX3_judge 21 = .ok (.aload_n 0, 1) := by decide +kernel
theorem dX3_judge_22 : decode cX3_judge 22 = .ok (.iload_n 2, 1) := by decide +kernel
theorem dX3_judge_23 : decode cX3_judge 23 = .ok (.invokevirtual 90, 3) := by decide +kernel
theorem dX3_judge_26 : decode cX3_judge 26 = .ok (.ifCond .eq 7, 3) := by decide +kernel
theorem dX3_judge_29 : decode cX3_judge 29 = .ok (.iconst 1, 1) := by decide +kernel
theorem dX3_judge_30 : decode cX3_judge 30 = .ok (.goto 4, 3) := by decide +kernel
theorem dX3_judge_33 : decode cX3_judge 33 = .ok (.iconst 0, 1) := by decide +kernel
theorem dX3_judge_34 : decode cX3_judge 34 = .ok (.ireturn, 1) := by decide +kernel
theorem dX3_judge_35 : decode cX3_judge 35 = .ok (.aload_n 0, 1) := by decide +kernel
theorem dX3_judge_36 : decode cX3_judge 36 = .ok (.getfield 42, 3) := by decide +kernel
theorem dX3_judge_39 : decode cX3_judge 39 = .ok (.iload_n 1, 1) := by decide +kernel
theorem dX3_judge_40 : decode cX3_judge 40 = .ok (.iload_n 2, 1) := by decide +kernel
theorem dX3_judge_41 : decode cX3_judge 41 = .ok (.invokevirtual 94, 3) := by decide +kernel
theorem dX3_judge_44 : decode cX3_judge 44 = .ok (.aload_n 0, 1) := by decide +kernel
theorem dX3_judge_45 : decode cX3_judge 45 = .ok (.invokevirtual 98, 3) := by decide +kernel
theorem dX3_judge_48 : decode cX3_judge 48 = .ok (.ifCond .eq 10, 3) := by decide +kernel
theorem dX3_judge_51 : decode cX3_judge 51 = .ok (.aload_n 0, 1) := by decide +kernel
theorem dX3_judge_52 : decode cX3_judge 52 = .ok (.invokevirtual 102, 3) := by decide +kernel
theorem dX3_judge_55 : decode cX3_judge 55 = .ok (.ifCond .eq 5, 3) := by decide +kernel
theorem dX3_judge_58 : decode cX3_judge 58 = .ok (.iconst 0, 1) := by decide +kernel
theorem dX3_judge_59 : decode cX3_judge 59 = .ok (.ireturn, 1) := by decide +kernel
theorem dX3_judge_60 : decode cX3_judge 60 = .ok (.aload_n 0, 1) := by decide +kernel
theorem dX3_judge_61 : decode cX3_judge 61 = .ok (.invokevirtual 105, 3) := by decide +kernel
theorem dX3_judge_64 : decode cX3_judge 64 = .ok (.ifCond .eq 6, 3) := by decide +kernel
theorem dX3_judge_67 : decode cX3_judge 67 = .ok (.bipush (-10), 2) := by decide +kernel
theorem dX3_judge_69 : decode cX3_judge 69 = .ok (.ireturn, 1) := by decide +kernel
theorem dX3_judge_70 : decode cX3_judge 70 = .ok (.aload_n 0, 1) := by decide +kernel
theorem dX3_judge_71 : decode cX3_judge 71 = .ok (.invokevirtual 108, 3) := by decide +kernel
theorem dX3_judge_74 : decode cX3_judge 74 = .ok (.ifCond .eq 8, 3) := by decide +kernel
theorem dX3_judge_77 : decode cX3_judge 77 = .ok (.bipush (-11), 2) := by decide +kernel
theorem dX3_judge_79 : decode cX3_judge 79 = .ok (.goto 4, 3) := by decide +kernel
theorem dX3_judge_82 : decode cX3_judge 82 = .ok (.iconst 1, 1) := by decide +kernel
theorem dX3_judge_83 : decode cX3_judge 83 = .ok (.ireturn, 1) := by decide +kernel
theorem dX3_leastLadderCost_0 : decode cX3_leastLadderCost 0 = .ok (.iconst (-1), 1) := by decide +kernel
theorem dX3_leastLadderCost_1 : decode cX3_leastLadderCost 1 = .ok (.istore_n 3, 1) := by decide +kernel
theorem dX3_leastLadderCost_2 : decode cX3_leastLadderCost 2 = .ok (.iconst 0, 1) := by decide +kernel
theorem dX3_leastLadderCost_3 : decode cX3_leastLadderCost 3 = .ok (.istore 4, 2) := by decide +kernel
theorem dX3_leastLadderCost_5 : decode cX3_leastLadderCost 5 = .ok (.iload 4, 2) := by decide +kernel
theorem dX3_leastLadderCost_7 : decode cX3_leastLadderCost 7 = .ok (.aload_n 0, 1) := by decide +kernel
theorem dX3_leastLadderCost_8 : decode cX3_leastLadderCost 8 = .ok (.getfield 46, 3) := by decide +kernel
theorem dX3_leastLadderCost_11 : decode cX3_leastLadderCost 11 = .ok (.if_icmp .ge 89, 3) := by decide +kernel
theorem dX3_leastLadderCost_14 : decode cX3_leastLadderCost 14 = .ok (.aload_n 0, 1) := by decide +kernel
theorem dX3_leastLadderCost_15 : decode cX3_leastLadderCost 15 = .ok (.getfield 29, 3) := by decide +kernel
theorem dX3_leastLadderCost_18 : decode cX3_leastLadderCost 18 = .ok (.iload 4, 2) := by decide +kernel
theorem dX3_leastLadderCost_20 : decode cX3_leastLadderCost 20 = .ok (.iaload, 1) := by decide +kernel
theorem dX3_leastLadderCost_21 : decode cX3_leastLadderCost 21 = .ok (.iload_n 1, 1) := by decide +kernel
theorem dX3_leastLadderCost_22 : decode cX3_leastLadderCost 22 = .ok (.if_icmp .ne 14, 3) := by decide +kernel
theorem dX3_leastLadderCost_25 : decode cX3_leastLadderCost 25 = .ok (.aload_n 0, 1) := by decide +kernel
theorem dX3_leastLadderCost_26 : decode cX3_leastLadderCost 26 = .ok (.getfield 33, 3) := by decide +kernel
theorem dX3_leastLadderCost_29 : decode cX3_leastLadderCost 29 = .ok (.iload 4, 2) := by decide +kernel
theorem dX3_leastLadderCost_31 : decode cX3_leastLadderCost 31 = .ok (.iaload, 1) := by decide +kernel
theorem dX3_leastLadderCost_32 : decode cX3_leastLadderCost 32 = .ok (.iload_n 2, 1) := by decide +kernel
theorem dX3_leastLadderCost_33 : decode cX3_leastLadderCost 33 = .ok (.if_icmp .eq 25, 3) := by decide +kernel
theorem dX3_leastLadderCost_36 : decode cX3_leastLadderCost 36 = .ok (.aload_n 0, 1) := by decide +kernel
theorem dX3_leastLadderCost_37 : decode cX3_leastLadderCost 37 = .ok (.getfield 29, 3) := by decide +kernel
theorem dX3_leastLadderCost_40 : decode cX3_leastLadderCost 40 = .ok (.iload 4, 2) := by decide +kernel
theorem dX3_leastLadderCost_42 : decode cX3_leastLadderCost 42 = .ok (.iaload, 1) := by decide +kernel
theorem dX3_leastLadderCost_43 : decode cX3_leastLadderCost 43 = .ok (.iload_n 2, 1) := by decide +kernel
theorem dX3_leastLadderCost_44 : decode cX3_leastLadderCost 44 = .ok (.if_icmp .ne 18, 3) := by decide +kernel
theorem dX3_leastLadderCost_47 : decode cX3_leastLadderCost 47 = .ok (.aload_n 0, 1) := by decide +kernel
theorem dX3_leastLadderCost_48 : decode cX3_leastLadderCost 48 = .ok (.getfield 33, 3) := by decide +kernel
theorem dX3_leastLadderCost_51 : decode cX3_leastLadderCost 51 = .ok (.iload 4, 2) := by decide +kernel
theorem dX3_leastLadderCost_53 : decode cX3_leastLadderCost 53 = .ok (.iaload, 1) := by decide +kernel
theorem dX3_leastLadderCost_54 : decode cX3_leastLadderCost 54 = .ok (.iload_n 1, 1) := by decide +kernel
theorem dX3_leastLadderCost_55 : decode cX3_leastLadderCost 55 = .ok (.if_icmp .ne 7, 3) := by decide +kernel
theorem dX3_leastLadderCost_58 : decode cX3_leastLadderCost 58 = .ok (.iconst 1, 1) := by decide +kernel
theorem dX3_leastLadderCost_59 : decode cX3_leastLadderCost 59 = .ok (.goto 4, 3) := by decide +kernel
theorem dX3_leastLadderCost_62 : decode cX3_leastLadderCost 62 = .ok (.iconst 0, 1) := by decide +kernel
theorem dX3_leastLadderCost_63 : decode cX3_leastLadderCost 63 = .ok (.istore 5, 2) := by decide +kernel
theorem dX3_leastLadderCost_65 : decode cX3_leastLadderCost 65 = .ok (.iload 5, 2) := by decide +kernel
theorem dX3_leastLadderCost_67 : decode cX3_leastLadderCost 67 = .ok (.ifCond .eq 27, 3) := by decide +kernel
theorem dX3_leastLadderCost_70 : decode cX3_leastLadderCost 70 = .ok (.iload_n 3, 1) := by decide +kernel
theorem dX3_leastLadderCost_71 : decode cX3_leastLadderCost 71 = .ok (.iconst (-1), 1) := by decide +kernel
theorem dX3_leastLadderCost_72 : decode cX3_leastLadderCost 72 = .ok (.if_icmp .eq 14, 3) := by decide +kernel
theorem dX3_leastLadderCost_75 : decode cX3_leastLadderCost 75 = .ok (.aload_n 0, 1) := by decide +kernel
theorem dX3_leastLadderCost_76 : decode cX3_leastLadderCost 76 = .ok (.getfield 36, 3) := by decide +kernel
theorem dX3_leastLadderCost_79 : decode cX3_leastLadderCost 79 = .ok (.iload 4, 2) := by decide +kernel
theorem dX3_leastLadderCost_81 : decode cX3_leastLadderCost 81 = .ok (.iaload, 1) := by decide +kernel
theorem dX3_leastLadderCost_82 : decode cX3_leastLadderCost 82 = .ok (.iload_n 3, 1) := by decide +kernel
theorem dX3_leastLadderCost_83 : decode cX3_leastLadderCost 83 = .ok (.if_icmp .ge 11, 3) := by decide +kernel
theorem dX3_leastLadderCost_86 : decode cX3_leastLadderCost 86 = .ok (.aload_n 0, 1) := by decide +kernel
theorem dX3_leastLadderCost_87 : decode cX3_leastLadderCost 87 = .ok (.getfield 36, 3) := by decide +kernel
theorem dX3_leastLadderCost_90 : decode cX3_leastLadderCost 90 = .ok (.iload 4, 2) := by decide +kernel
theorem dX3_leastLadderCost_92 : decode cX3_leastLadderCost 92 = .ok (.iaload, 1) := by decide +kernel
theorem dX3_leastLadderCost_93 : decode cX3_leastLadderCost 93 = .ok (.istore_n 3, 1) := by decide +kernel
theorem dX3_leastLadderCost_94 : decode cX3_leastLadderCost 94 = .ok (.iinc 4 1, 3) := by decide +kernel
theorem dX3_leastLadderCost_97 : decode cX3_leastLadderCost 97 = .ok (.goto (-92), 3) := by decide +kernel
theorem dX3_leastLadderCost_100 : decode cX3_leastLadderCost 100 = .ok (.iload_n 3, 1) := by decide +kernel
theorem dX3_leastLadderCost_101 : decode cX3_leastLadderCost 101 = .ok (.ireturn, 1) := by decide +kernel
theorem dX3_legCrossesLedge_0 : decode cX3_legCrossesLedge 0 = .ok (.iconst 0, 1) := by decide +kernel
theorem dX3_legCrossesLedge_1 : decode cX3_legCrossesLedge 1 = .ok (.istore_n 1, 1) := by decide +kernel
theorem dX3_legCrossesLedge_2 : decode cX3_legCrossesLedge 2 = .ok (.iload_n 1, 1) := by decide +kernel
theorem dX3_legCrossesLedge_3 : decode cX3_legCrossesLedge 3 = .ok (.aload_n 0, 1) := by decide +kernel
theorem dX3_legCrossesLedge_4 : decode cX3_legCrossesLedge 4 = .ok (.getfield 26, 3) := by decide +kernel
theorem dX3_legCrossesLedge_7 : decode cX3_legCrossesLedge 7 = .ok (.getfield 74, 3) := by decide +kernel
theorem dX3_legCrossesLedge_10 : decode cX3_legCrossesLedge 10 = .ok (.if_icmp .ge 49, 3) := by decide +kernel
theorem dX3_legCrossesLedge_13 : decode cX3_legCrossesLedge 13 = .ok (.aload_n 0, 1) := by decide +kernel
theorem dX3_legCrossesLedge_14 : decode cX3_legCrossesLedge 14 = .ok (.getfield 42, 3) := by decide +kernel
theorem dX3_legCrossesLedge_17 : decode cX3_legCrossesLedge 17 = .ok (.aload_n 0, 1) := by decide +kernel
theorem dX3_legCrossesLedge_18 : decode cX3_legCrossesLedge 18 = .ok (.getfield 26, 3) := by decide +kernel
theorem dX3_legCrossesLedge_21 : decode cX3_legCrossesLedge 21 = .ok (.getfield 60, 3) := by decide +kernel
theorem dX3_legCrossesLedge_24 : decode cX3_legCrossesLedge 24 = .ok (.iload_n 1, 1) := by decide +kernel
theorem dX3_legCrossesLedge_25 : decode cX3_legCrossesLedge 25 = .ok (.aaload, 1) := by decide +kernel
theorem dX3_legCrossesLedge_26 : decode cX3_legCrossesLedge 26 = .ok (.invokevirtual 127, 3) := by decide +kernel
theorem dX3_legCrossesLedge_29 : decode cX3_legCrossesLedge 29 = .ok (.ifCond .eq 24, 3) := by decide +kernel
theorem dX3_legCrossesLedge_32 : decode cX3_legCrossesLedge 32 = .ok (.aload_n 0, 1) := by decide +kernel
theorem dX3_legCrossesLedge_33 : decode cX3_legCrossesLedge 33 = .ok (.getfield 42, 3) := by decide +kernel
theorem dX3_legCrossesLedge_36 : decode cX3_legCrossesLedge 36 = .ok (.aload_n 0, 1) := by decide +kernel
theorem dX3_legCrossesLedge_37 : decode cX3_legCrossesLedge 37 = .ok (.getfield 26, 3) := by decide +kernel
theorem dX3_legCrossesLedge_40 : decode cX3_legCrossesLedge 40 = .ok (.getfield 60, 3) := by decide +kernel
theorem dX3_legCrossesLedge_43 : decode cX3_legCrossesLedge 43 = .ok (.iload_n 1, 1) := by decide +kernel
theorem dX3_legCrossesLedge_44 : decode cX3_legCrossesLedge 44 = .ok (.aaload, 1) := by decide +kernel
theorem dX3_legCrossesLedge_45 : decode cX3_legCrossesLedge 45 = .ok (.invokevirtual 111, 3) := by decide +kernel
theorem dX3_legCrossesLedge_48 : decode cX3_legCrossesLedge 48 = .ok (.ifCond .eq 5, 3) := by decide +kernel
theorem dX3_legCrossesLedge_51 : decode cX3_legCrossesLedge 51 = .ok (.iconst 1, 1) := by decide +kernel
theorem dX3_legCrossesLedge_52 : decode cX3_legCrossesLedge 52 = .ok (.ireturn, 1) := by decide +kernel
theorem dX3_legCrossesLedge_53 : decode cX3_legCrossesLedge 53 = .ok (.iinc 1 1, 3) := by decide +kernel
theorem dX3_legCrossesLedge_56 : decode cX3_legCrossesLedge 56 = .ok (.goto (-54), 3) := by decide +kernel
theorem dX3_legCrossesLedge_59 : decode cX3_legCrossesLedge 59 = .ok (.iconst 0, 1) := by decide +kernel
theorem dX3_legCrossesLedge_60 : decode cX3_legCrossesLedge 60 = .ok (.ireturn, 1) := by decide +kernel
theorem dX3_legIsInRooms_0 : decode cX3_legIsInRooms 0 = .ok (.iconst 0, 1) := by decide +kernel
theorem dX3_legIsInRooms_1 : decode cX3_legIsInRooms 1 = .ok (.istore_n 1, 1) := by decide +kernel
theorem dX3_legIsInRooms_2 : decode cX3_legIsInRooms 2 = .ok (.iconst 0, 1) := by decide +kernel
theorem dX3_legIsInRooms_3 : decode cX3_legIsInRooms 3 = .ok (.istore_n 2, 1) := by decide +kernel
theorem dX3_legIsInRooms_4 : decode cX3_legIsInRooms 4 = .ok (.iload_n 2, 1) := by decide +kernel
theorem dX3_legIsInRooms_5 : decode cX3_legIsInRooms 5 = .ok (.aload_n 0, 1) := by decide +kernel
theorem dX3_legIsInRooms_6 : decode cX3_legIsInRooms 6 = .ok (.getfield 14, 3) := by decide +kernel
theorem dX3_legIsInRooms_9 : decode cX3_legIsInRooms 9 = .ok (.getfield 74, 3) := by decide +kernel
theorem dX3_legIsInRooms_12 : decode cX3_legIsInRooms 12 = .ok (.if_icmp .ge 104, 3) := by decide +kernel
theorem dX3_legIsInRooms_15 : decode cX3_legIsInRooms 15 = .ok (.iload_n 1, 1) := by decide +kernel
theorem dX3_legIsInRooms_16 : decode cX3_legIsInRooms 16 = .ok (.istore_n 3, 1) := by decide +kernel
theorem dX3_legIsInRooms_17 : decode cX3_legIsInRooms 17 = .ok (.iconst 0, 1) := by decide +kernel
theorem dX3_legIsInRooms_18 : decode cX3_legIsInRooms 18 = .ok (.istore 4, 2) := by decide +kernel
theorem dX3_legIsInRooms_20 : decode cX3_legIsInRooms 20 = .ok (.iload 4, 2) := by decide +kernel
theorem dX3_legIsInRooms_22 : decode cX3_legIsInRooms 22 = .ok (.aload_n 0, 1) := by decide +kernel
theorem dX3_legIsInRooms_23 : decode cX3_legIsInRooms 23 = .ok (.getfield 14, 3) := by decide +kernel
theorem dX3_legIsInRooms_26 : decode cX3_legIsInRooms 26 = .ok (.getfield 74, 3) := by decide +kernel
theorem dX3_legIsInRooms_29 : decode cX3_legIsInRooms 29 = .ok (.if_icmp .ge 59, 3) := by decide +kernel
theorem dX3_legIsInRooms_32 : decode cX3_legIsInRooms 32 = .ok (.aload_n 0, 1) := by decide +kernel
theorem dX3_legIsInRooms_33 : decode cX3_legIsInRooms 33 = .ok (.getfield 42, 3) := by decide +kernel
theorem dX3_legIsInRooms_36 : decode cX3_legIsInRooms 36 = .ok (.aload_n 0, 1) := by decide +kernel
theorem dX3_legIsInRooms_37 : decode cX3_legIsInRooms 37 = .ok (.getfield 14, 3) := by decide +kernel
theorem dX3_legIsInRooms_40 : decode cX3_legIsInRooms 40 = .ok (.getfield 60, 3) := by decide +kernel
theorem dX3_legIsInRooms_43 : decode cX3_legIsInRooms 43 = .ok (.iload 4, 2) := by decide +kernel
theorem dX3_legIsInRooms_45 : decode cX3_legIsInRooms 45 = .ok (.aaload, 1) := by decide +kernel
theorem dX3_legIsInRooms_46 : decode cX3_legIsInRooms 46 = .ok (.invokevirtual 111, 3) := by decide +kernel
theorem dX3_legIsInRooms_49 : decode cX3_legIsInRooms 49 = .ok (.ifCond .eq 33, 3) := by decide +kernel
theorem dX3_legIsInRooms_52 : decode cX3_legIsInRooms 52 = .ok (.aload_n 0, 1) := by decide +kernel
theorem dX3_legIsInRooms_53 : decode cX3_legIsInRooms 53 = .ok (.getfield 42, 3) := by decide +kernel
theorem dX3_legIsInRooms_56 : decode cX3_legIsInRooms 56 = .ok (.getfield 115, 3) := by decide +kernel
theorem dX3_legIsInRooms_59 : decode cX3_legIsInRooms 59 = .ok (.iload_n 1, 1) := by decide +kernel
theorem dX3_legIsInRooms_60 : decode cX3_legIsInRooms 60 = .ok (.if_icmp .gt 22, 3) := by decide +kernel
theorem dX3_legIsInRooms_63 : decode cX3_legIsInRooms 63 = .ok (.aload_n 0, 1) := by decide +kernel
theorem dX3_legIsInRooms_64 : decode cX3_legIsInRooms 64 = .ok (.getfield 42, 3) := by decide +kernel
theorem dX3_legIsInRooms_67 : decode cX3_legIsInRooms 67 = .ok (.getfield 118, 3) := by decide +kernel
theorem dX3_legIsInRooms_70 : decode cX3_legIsInRooms 70 = .ok (.iload_n 3, 1) := by decide +kernel
theorem dX3_legIsInRooms_71 : decode cX3_legIsInRooms 71 = .ok (.if_icmp .le 11, 3) := by decide +kernel
theorem dX3_legIsInRooms_74 : decode cX3_legIsInRooms 74 = .ok (.aload_n 0, 1) := by decide +kernel
theorem dX3_legIsInRooms_75 : decode cX3_legIsInRooms 75 = .ok (.getfield 42, 3) := by decide +kernel
theorem dX3_legIsInRooms_78 : decode cX3_legIsInRooms 78 = .ok (.getfield 118, 3) := by decide +kernel
theorem dX3_legIsInRooms_81 : decode cX3_legIsInRooms 81 = .ok (.istore_n 3, 1) := by decide +kernel
theorem dX3_legIsInRooms_82 : decode cX3_legIsInRooms 82 = .ok (.iinc 4 1, 3) := by decide +kernel
theorem dX3_legIsInRooms_85 : decode cX3_legIsInRooms 85 = .ok (.goto (-65), 3) := by decide +kernel
theorem dX3_legIsInRooms_88 : decode cX3_legIsInRooms 88 = .ok (.iload_n 3, 1) := by decide +kernel
theorem dX3_legIsInRooms_89 : decode cX3_legIsInRooms 89 = .ok (.aload_n 0, 1) := by decide +kernel
theorem dX3_legIsInRooms_90 : decode cX3_legIsInRooms 90 = .ok (.getfield 42, 3) := by decide +kernel
theorem dX3_legIsInRooms_93 : decode cX3_legIsInRooms 93 = .ok (.getfield 121, 3) := by decide +kernel
theorem dX3_legIsInRooms_96 : decode cX3_legIsInRooms 96 = .ok (.if_icmp .lt 5, 3) := by decide +kernel
theorem dX3_legIsInRooms_99 : decode cX3_legIsInRooms 99 = .ok (.iconst 1, 1) := by decide +kernel
theorem dX3_legIsInRooms_100 : decode cX3_legIsInRooms 100 = .ok (.ireturn, 1) := by decide +kernel
theorem dX3_legIsInRooms_101 : decode cX3_legIsInRooms 101 = .ok (.iload_n 3, 1) := by decide +kernel
theorem dX3_legIsInRooms_102 : decode cX3_legIsInRooms 102 = .ok (.iload_n 1, 1) := by decide +kernel
theorem dX3_legIsInRooms_103 : decode cX3_legIsInRooms 103 = .ok (.if_icmp .ne 5, 3) := by decide +kernel
theorem dX3_legIsInRooms_106 : decode cX3_legIsInRooms 106 = .ok (.iconst 0, 1) := by decide +kernel
theorem dX3_legIsInRooms_107 : decode cX3_legIsInRooms 107 = .ok (.ireturn, 1) := by decide +kernel
theorem dX3_legIsInRooms_108 : decode cX3_legIsInRooms 108 = .ok (.iload_n 3, 1) := by decide +kernel
theorem dX3_legIsInRooms_109 : decode cX3_legIsInRooms 109 = .ok (.istore_n 1, 1) := by decide +kernel
theorem dX3_legIsInRooms_110 : decode cX3_legIsInRooms 110 = .ok (.iinc 2 1, 3) := by decide +kernel
theorem dX3_legIsInRooms_113 : decode cX3_legIsInRooms 113 = .ok (.goto (-109), 3) := by decide +kernel
theorem dX3_legIsInRooms_116 : decode cX3_legIsInRooms 116 = .ok (.iconst 0, 1) := by decide +kernel
theorem dX3_legIsInRooms_117 : decode cX3_legIsInRooms 117 = .ok (.ireturn, 1) := by decide +kernel
theorem dX3_legMeetsShutDoor_0 : decode cX3_legMeetsShutDoor 0 = .ok (.iconst 0, 1) := by decide +kernel
theorem dX3_legMeetsShutDoor_1 : decode cX3_legMeetsShutDoor 1 = .ok (.istore_n 1, 1) := by decide +kernel
theorem dX3_legMeetsShutDoor_2 : decode cX3_legMeetsShutDoor 2 = .ok (.iload_n 1, 1) := by decide +kernel
theorem dX3_legMeetsShutDoor_3 : decode cX3_legMeetsShutDoor 3 = .ok (.aload_n 0, 1) := by decide +kernel
theorem dX3_legMeetsShutDoor_4 : decode cX3_legMeetsShutDoor 4 = .ok (.getfield 23, 3) := by decide +kernel
theorem dX3_legMeetsShutDoor_7 : decode cX3_legMeetsShutDoor 7 = .ok (.getfield 74, 3) := by decide +kernel
theorem dX3_legMeetsShutDoor_10 : decode cX3_legMeetsShutDoor 10 = .ok (.if_icmp .ge 45, 3) := by decide +kernel
theorem dX3_legMeetsShutDoor_13 : decode cX3_legMeetsShutDoor 13 = .ok (.aload_n 0, 1) := by decide +kernel
theorem dX3_legMeetsShutDoor_14 : decode cX3_legMeetsShutDoor 14 = .ok (.getfield 23, 3) := by decide +kernel
theorem dX3_legMeetsShutDoor_17 : decode cX3_legMeetsShutDoor 17 = .ok (.getfield 60, 3) := by decide +kernel
theorem dX3_legMeetsShutDoor_20 : decode cX3_legMeetsShutDoor 20 = .ok (.iload_n 1, 1) := by decide +kernel
theorem dX3_legMeetsShutDoor_21 : decode cX3_legMeetsShutDoor 21 = .ok (.aaload, 1) := by decide +kernel
theorem dX3_legMeetsShutDoor_22 : decode cX3_legMeetsShutDoor 22 = .ok (.getfield 64, 3) := by decide +kernel
theorem dX3_legMeetsShutDoor_25 : decode cX3_legMeetsShutDoor 25 = .ok (.ifCond .eq 24, 3) := by decide +kernel
theorem dX3_legMeetsShutDoor_28 : decode cX3_legMeetsShutDoor 28 = .ok (.aload_n 0, 1) := by decide +kernel
theorem dX3_legMeetsShutDoor_29 : decode cX3_legMeetsShutDoor 29 = .ok (.getfield 42, 3) := by decide +kernel
theorem dX3_legMeetsShutDoor_32 : decode cX3_legMeetsShutDoor 32 = .ok (.aload_n 0, 1) := by decide +kernel
theorem dX3_legMeetsShutDoor_33 : decode cX3_legMeetsShutDoor 33 = .ok (.getfield 23, 3) := by decide +kernel
theorem dX3_legMeetsShutDoor_36 : decode cX3_legMeetsShutDoor 36 = .ok (.getfield 60, 3) := by decide +kernel
theorem dX3_legMeetsShutDoor_39 : decode cX3_legMeetsShutDoor 39 = .ok (.iload_n 1, 1) := by decide +kernel
theorem dX3_legMeetsShutDoor_40 : decode cX3_legMeetsShutDoor 40 = .ok (.aaload, 1) := by decide +kernel
theorem dX3_legMeetsShutDoor_41 : decode cX3_legMeetsShutDoor 41 = .ok (.invokevirtual 111, 3) := by decide +kernel
theorem dX3_legMeetsShutDoor_44 : decode cX3_legMeetsShutDoor 44 = .ok (.ifCond .eq 5, 3) := by decide +kernel
theorem dX3_legMeetsShutDoor_47 : decode cX3_legMeetsShutDoor 47 = .ok (.iconst 1, 1) := by decide +kernel
theorem dX3_legMeetsShutDoor_48 : decode cX3_legMeetsShutDoor 48 = .ok (.ireturn, 1) := by decide +kernel
theorem dX3_legMeetsShutDoor_49 : decode cX3_legMeetsShutDoor 49 = .ok (.iinc 1 1, 3) := by decide +kernel
theorem dX3_legMeetsShutDoor_52 : decode cX3_legMeetsShutDoor 52 = .ok (.goto (-50), 3) := by decide +kernel
theorem dX3_legMeetsShutDoor_55 : decode cX3_legMeetsShutDoor 55 = .ok (.iconst 0, 1) := by decide +kernel
theorem dX3_legMeetsShutDoor_56 : decode cX3_legMeetsShutDoor 56 = .ok (.ireturn, 1) := by decide +kernel
theorem dX3_legRunsInBox_0 : decode cX3_legRunsInBox 0 = .ok (.iconst 0, 1) := by decide +kernel
theorem dX3_legRunsInBox_1 : decode cX3_legRunsInBox 1 = .ok (.istore_n 1, 1) := by decide +kernel
theorem dX3_legRunsInBox_2 : decode cX3_legRunsInBox 2 = .ok (.iload_n 1, 1) := by decide +kernel
theorem dX3_legRunsInBox_3 : decode cX3_legRunsInBox 3 = .ok (.bipush 8, 2) := by decide +kernel
theorem dX3_legRunsInBox_5 : decode cX3_legRunsInBox 5 = .ok (.if_icmp .ge 50, 3) := by decide +kernel
theorem dX3_legRunsInBox_8 : decode cX3_legRunsInBox 8 = .ok (.aload_n 0, 1) := by decide +kernel
theorem dX3_legRunsInBox_9 : decode cX3_legRunsInBox 9 = .ok (.getfield 20, 3) := by decide +kernel
theorem dX3_legRunsInBox_12 : decode cX3_legRunsInBox 12 = .ok (.getfield 60, 3) := by decide +kernel
theorem dX3_legRunsInBox_15 : decode cX3_legRunsInBox 15 = .ok (.iload_n 1, 1) := by decide +kernel
theorem dX3_legRunsInBox_16 : decode cX3_legRunsInBox 16 = .ok (.aaload, 1) := by decide +kernel
theorem dX3_legRunsInBox_17 : decode cX3_legRunsInBox 17 = .ok (.astore_n 2, 1) := by decide +kernel
theorem dX3_legRunsInBox_18 : decode cX3_legRunsInBox 18 = .ok (.aload_n 2, 1) := by decide +kernel
theorem dX3_legRunsInBox_19 : decode cX3_legRunsInBox 19 = .ok (.getfield 64, 3) := by decide +kernel
theorem dX3_legRunsInBox_22 : decode cX3_legRunsInBox 22 = .ok (.ifCond .eq 27, 3) := by decide +kernel
theorem dX3_legRunsInBox_25 : decode cX3_legRunsInBox 25 = .ok (.aload_n 0, 1) := by decide +kernel
theorem dX3_legRunsInBox_26 : decode cX3_legRunsInBox 26 = .ok (.getfield 42, 3) := by decide +kernel
theorem dX3_legRunsInBox_29 : decode cX3_legRunsInBox 29 = .ok (.aload_n 2, 1) := by decide +kernel
theorem dX3_legRunsInBox_30 : decode cX3_legRunsInBox 30 = .ok (.invokevirtual 111, 3) := by decide +kernel
theorem dX3_legRunsInBox_33 : decode cX3_legRunsInBox 33 = .ok (.ifCond .eq 16, 3) := by decide +kernel
theorem dX3_legRunsInBox_36 : decode cX3_legRunsInBox 36 = .ok (.aload_n 0, 1) := by decide +kernel
theorem dX3_legRunsInBox_37 : decode cX3_legRunsInBox 37 = .ok (.getfield 42, 3) := by decide +kernel
theorem dX3_legRunsInBox_40 : decode cX3_legRunsInBox 40 = .ok (.aload_n 2, 1) := by decide +kernel
theorem dX3_legRunsInBox_41 : decode cX3_legRunsInBox 41 = .ok (.invokevirtual 124, 3) := by decide +kernel
theorem dX3_legRunsInBox_44 : decode cX3_legRunsInBox 44 = .ok (.ifCond .eq 5, 3) := by decide +kernel
theorem dX3_legRunsInBox_47 : decode cX3_legRunsInBox 47 = .ok (.iconst 1, 1) := by decide +kernel
theorem dX3_legRunsInBox_48 : decode cX3_legRunsInBox 48 = .ok (.ireturn, 1) := by decide +kernel
theorem dX3_legRunsInBox_49 : decode cX3_legRunsInBox 49 = .ok (.iinc 1 1, 3) := by decide +kernel
theorem dX3_legRunsInBox_52 : decode cX3_legRunsInBox 52 = .ok (.goto (-50), 3) := by decide +kernel
theorem dX3_legRunsInBox_55 : decode cX3_legRunsInBox 55 = .ok (.iconst 0, 1) := by decide +kernel
theorem dX3_legRunsInBox_56 : decode cX3_legRunsInBox 56 = .ok (.ireturn, 1) := by decide +kernel
theorem dX3_stepLength_0 : decode cX3_stepLength 0 = .ok (.iload_n 1, 1) := by decide +kernel
theorem dX3_stepLength_1 : decode cX3_stepLength 1 = .ok (.invokestatic 50, 3) := by decide +kernel
theorem dX3_stepLength_4 : decode cX3_stepLength 4 = .ok (.iload_n 2, 1) := by decide +kernel
theorem dX3_stepLength_5 : decode cX3_stepLength 5 = .ok (.invokestatic 50, 3) := by decide +kernel
theorem dX3_stepLength_8 : decode cX3_stepLength 8 = .ok (.if_icmp .eq 10, 3) := by decide +kernel
theorem dX3_stepLength_11 : decode cX3_stepLength 11 = .ok (.aload_n 0, 1) := by decide +kernel
theorem dX3_stepLength_12 : decode cX3_stepLength 12 = .ok (.iload_n 1, 1) := by decide +kernel
theorem dX3_stepLength_13 : decode cX3_stepLength 13 = .ok (.iload_n 2, 1) := by decide +kernel
theorem dX3_stepLength_14 : decode cX3_stepLength 14 = .ok (.invokevirtual 80, 3) := by decide +kernel
theorem dX3_stepLength_17 : decode cX3_stepLength 17 = .ok (.ireturn, 1) := by decide +kernel
theorem dX3_stepLength_18 : decode cX3_stepLength 18 = .ok (.iload_n 2, 1) := by decide +kernel
theorem dX3_stepLength_19 : decode cX3_stepLength 19 = .ok (.invokestatic 54, 3) := by decide +kernel
theorem dX3_stepLength_22 : decode cX3_stepLength 22 = .ok (.iload_n 1, 1) := by decide +kernel
theorem dX3_stepLength_23 : decode cX3_stepLength 23 = .ok (.invokestatic 54, 3) := by decide +kernel
theorem dX3_stepLength_26 : decode cX3_stepLength 26 = .ok (.isub, 1) := by decide +kernel
theorem dX3_stepLength_27 : decode cX3_stepLength 27 = .ok (.i2l, 1) := by decide +kernel
theorem dX3_stepLength_28 : decode cX3_stepLength 28 = .ok (.lstore_n 3, 1) := by decide +kernel
theorem dX3_stepLength_29 : decode cX3_stepLength 29 = .ok (.iload_n 2, 1) := by decide +kernel
theorem dX3_stepLength_30 : decode cX3_stepLength 30 = .ok (.invokestatic 57, 3) := by decide +kernel
theorem dX3_stepLength_33 : decode cX3_stepLength 33 = .ok (.iload_n 1, 1) := by decide +kernel
theorem dX3_stepLength_34 : decode cX3_stepLength 34 = .ok (.invokestatic 57, 3) := by decide +kernel
theorem dX3_stepLength_37 : decode cX3_stepLength 37 = .ok (.isub, 1) := by decide +kernel
theorem dX3_stepLength_38 : decode cX3_stepLength 38 = .ok (.i2l, 1) := by decide +kernel
theorem dX3_stepLength_39 : decode cX3_stepLength 39 = .ok (.lstore 5, 2) := by decide +kernel
theorem dX3_stepLength_41 : decode cX3_stepLength 41 = .ok (.ldc2_w 84, 3) := by decide +kernel
theorem dX3_stepLength_44 : decode cX3_stepLength 44 = .ok (.lload_n 3, 1) := by decide +kernel
theorem dX3_stepLength_45 : decode cX3_stepLength 45 = .ok (.lload_n 3, 1) := by decide +kernel
theorem dX3_stepLength_46 : decode cX3_stepLength 46 = .ok (.lmul, 1) := by decide +kernel
theorem dX3_stepLength_47 : decode cX3_stepLength 47 = .ok (.lload 5, 2) := by decide +kernel
theorem dX3_stepLength_49 : decode cX3_stepLength 49 = .ok (.lload 5, 2) := by decide +kernel
theorem dX3_stepLength_51 : decode cX3_stepLength 51 = .ok (.lmul, 1) := by decide +kernel
theorem dX3_stepLength_52 : decode cX3_stepLength 52 = .ok (.ladd, 1) := by decide +kernel
theorem dX3_stepLength_53 : decode cX3_stepLength 53 = .ok (.lmul, 1) := by decide +kernel
theorem dX3_stepLength_54 : decode cX3_stepLength 54 = .ok (.invokestatic 86, 3) := by decide +kernel
theorem dX3_stepLength_57 : decode cX3_stepLength 57 = .ok (.ireturn, 1) := by decide +kernel
theorem dX4_goesAgainst_0 : decode cX4_goesAgainst 0 = .ok (.aload_n 1, 1) := by decide +kernel
theorem dX4_goesAgainst_1 : decode cX4_goesAgainst 1 = .ok (.getfield 58, 3) := by decide +kernel
theorem dX4_goesAgainst_4 : decode cX4_goesAgainst 4 = .ok (.aload_n 1, 1) := by decide +kernel
theorem dX4_goesAgainst_5 : decode cX4_goesAgainst 5 = .ok (.getfield 61, 3) := by decide +kernel
theorem dX4_goesAgainst_8 : decode cX4_goesAgainst 8 = .ok (.if_icmp .ne 7, 3) := by decide +kernel
theorem dX4_goesAgainst_11 : decode cX4_goesAgainst 11 = .ok (.iconst 1, 1) := by decide +kernel
theorem dX4_goesAgainst_12 : decode cX4_goesAgainst 12 = .ok (.goto 4, 3) := by decide +kernel
theorem dX4_goesAgainst_15 : decode cX4_goesAgainst 15 = .ok (.iconst 0, 1) := by decide +kernel
theorem dX4_goesAgainst_16 : decode cX4_goesAgainst 16 = .ok (.istore_n 2, 1) := by decide +kernel
theorem dX4_goesAgainst_17 : decode cX4_goesAgainst 17 = .ok (.iload_n 2, 1) := by decide +kernel
theorem dX4_goesAgainst_18 : decode cX4_goesAgainst 18 = .ok (.ifCond .eq 10, 3) := by decide +kernel
theorem dX4_goesAgainst_21 : decode cX4_goesAgainst 21 = .ok (.aload_n 0, 1) := by decide +kernel
theorem dX4_goesAgainst_22 : decode cX4_goesAgainst 22 = .ok (.getfield 22, 3) := by decide +kernel
theorem dX4_goesAgainst_25 : decode cX4_goesAgainst 25 = .ok (.goto 7, 3) := by decide +kernel
theorem dX4_goesAgainst_28 : decode cX4_goesAgainst 28 = .ok (.aload_n 0, 1) := by decide +kernel
theorem dX4_goesAgainst_29 : decode cX4_goesAgainst 29 = .ok (.getfield 28, 3) := by decide +kernel
theorem dX4_goesAgainst_32 : decode cX4_goesAgainst 32 = .ok (.istore_n 3, 1) := by decide +kernel
theorem dX4_goesAgainst_33 : decode cX4_goesAgainst 33 = .ok (.iload_n 3, 1) := by decide +kernel
theorem dX4_goesAgainst_34 : decode cX4_goesAgainst 34 = .ok (.iload_n 2, 1) := by decide +kernel
theorem dX4_goesAgainst_35 : decode cX4_goesAgainst 35 = .ok (.ifCond .eq 10, 3) := by decide +kernel
theorem dX4_goesAgainst_38 : decode cX4_goesAgainst 38 = .ok (.aload_n 0, 1) := by decide +kernel
theorem dX4_goesAgainst_39 : decode cX4_goesAgainst 39 = .ok (.getfield 31, 3) := by decide +kernel
theorem dX4_goesAgainst_42 : decode cX4_goesAgainst 42 = .ok (.goto 7, 3) := by decide +kernel
theorem dX4_goesAgainst_45 : decode cX4_goesAgainst 45 = .ok (.aload_n 0, 1) := by decide +kernel
theorem dX4_goesAgainst_46 : decode cX4_goesAgainst 46 = .ok (.getfield 34, 3) := by decide +kernel
theorem dX4_goesAgainst_49 : decode cX4_goesAgainst 49 = .ok (.iadd, 1) := by decide +kernel
theorem dX4_goesAgainst_50 : decode cX4_goesAgainst 50 = .ok (.istore 4, 2) := by decide +kernel
theorem dX4_goesAgainst_52 : decode cX4_goesAgainst 52 = .ok (.iload_n 2, 1) := by decide +kernel
theorem dX4_goesAgainst_53 : decode cX4_goesAgainst 53 = .ok (.ifCond .eq 10, 3) := by decide +kernel
theorem dX4_goesAgainst_56 : decode cX4_goesAgainst 56 = .ok (.aload_n 1, 1) := by decide +kernel
theorem dX4_goesAgainst_57 : decode cX4_goesAgainst 57 = .ok (.getfield 58, 3) := by decide +kernel
theorem dX4_goesAgainst_60 : decode cX4_goesAgainst 60 = .ok (.goto 7, 3) := by decide +kernel
theorem dX4_goesAgainst_63 : decode cX4_goesAgainst 63 = .ok (.aload_n 1, 1) := by decide +kernel
theorem dX4_goesAgainst_64 : decode cX4_goesAgainst 64 = .ok (.getfield 64, 3) := by decide +kernel
theorem dX4_goesAgainst_67 : decode cX4_goesAgainst 67 = .ok (.istore 5, 2) := by decide +kernel
theorem dX4_goesAgainst_69 : decode cX4_goesAgainst 69 = .ok (.aload_n 1, 1) := by decide +kernel
theorem dX4_goesAgainst_70 : decode cX4_goesAgainst 70 = .ok (.getfield 76, 3) := by decide +kernel
theorem dX4_goesAgainst_73 : decode cX4_goesAgainst 73 = .ok (.ifCond .eq 24, 3) := by decide +kernel
theorem dX4_goesAgainst_76 : decode cX4_goesAgainst 76 = .ok (.iload 4, 2) := by decide +kernel
theorem dX4_goesAgainst_78 : decode cX4_goesAgainst 78 = .ok (.iload 5, 2) := by decide +kernel
theorem dX4_goesAgainst_80 : decode cX4_goesAgainst 80 = .ok (.if_icmp .ge 13, 3) := by decide +kernel
theorem dX4_goesAgainst_83 : decode cX4_goesAgainst 83 = .ok (.iload 5, 2) := by decide +kernel
theorem dX4_goesAgainst_85 : decode cX4_goesAgainst 85 = .ok (.iload_n 3, 1) := by decide +kernel
theorem dX4_goesAgainst_86 : decode cX4_goesAgainst 86 = .ok (.if_icmp .ge 7, 3) := by decide +kernel
theorem dX4_goesAgainst_89 : decode cX4_goesAgainst 89 = .ok (.iconst 1, 1) := by decide +kernel
theorem dX4_goesAgainst_90 : decode cX4_goesAgainst 90 = .ok (.goto 25, 3) := by decide +kernel
theorem dX4_goesAgainst_93 : decode cX4_goesAgainst 93 = .ok (.iconst 0, 1) := by decide +kernel
theorem dX4_goesAgainst_94 : decode cX4_goesAgainst 94 = .ok (.goto 21, 3) := by decide +kernel
theorem dX4_goesAgainst_97 : decode cX4_goesAgainst 97 = .ok (.iload_n 3, 1) := by decide +kernel
theorem dX4_goesAgainst_98 : decode cX4_goesAgainst 98 = .ok (.iload 5, 2) := by decide +kernel
theorem dX4_goesAgainst_100 : decode cX4_goesAgainst 100 = .ok (.if_icmp .ge 14, 3) := by decide +kernel
theorem dX4_goesAgainst_103 : decode cX4_goesAgainst 103 = .ok (.iload 5, 2) := by decide +kernel
theorem dX4_goesAgainst_105 : decode cX4_goesAgainst 105 = .ok (.iload 4, 2) := by decide +kernel
theorem dX4_goesAgainst_107 : decode cX4_goesAgainst 107 = .ok (.if_icmp .ge 7, 3) := by decide +kernel
theorem dX4_goesAgainst_110 : decode cX4_goesAgainst 110 = .ok (.iconst 1, 1) := by decide +kernel
theorem dX4_goesAgainst_111 : decode cX4_goesAgainst 111 = .ok (.goto 4, 3) := by decide +kernel
theorem dX4_goesAgainst_114 : decode cX4_goesAgainst 114 = .ok (.iconst 0, 1) := by decide +kernel
theorem dX4_goesAgainst_115 : decode cX4_goesAgainst 115 = .ok (.ireturn, 1) := by decide +kernel
theorem dX4_init_0 : decode cX4_init 0 = .ok (.aload_n 0, 1) := by decide +kernel
theorem dX4_init_1 : decode cX4_init 1 = .ok (.invokespecial 1, 3) := by decide +kernel
theorem dX4_init_4 : decode cX4_init 4 = .ok (.return_, 1) := by decide +kernel
theorem dX4_lay_0 : decode cX4_lay 0 = .ok (.aload_n 0, 1) := by decide +kernel
theorem dX4_lay_1 : decode cX4_lay 1 = .ok (.iload_n 1, 1) := by decide +kernel
theorem dX4_lay_2 : decode cX4_lay 2 = .ok (.invokestatic 7, 3) := by decide +kernel
theorem dX4_lay_5 : decode cX4_lay 5 = .ok (.putfield 13, 3) := by decide +kernel
theorem dX4_lay_8 : decode cX4_lay 8 = .ok (.aload_n 0, 1) := by decide +kernel
theorem dX4_lay_9 : decode cX4_lay 9 = .ok (.iload_n 1, 1) := by decide +kernel
theorem dX4_lay_10 : decode cX4_lay 10 = .ok (.invokestatic 19, 3) := by decide +kernel
theorem dX4_lay_13 : decode cX4_lay 13 = .ok (.putfield 22, 3) := by decide +kernel
theorem dX4_lay_16 : decode cX4_lay 16 = .ok (.aload_n 0, 1) := by decide +kernel
theorem dX4_lay_17 : decode cX4_lay 17 = .ok (.iload_n 1, 1) := by decide +kernel
theorem dX4_lay_18 : decode cX4_lay 18 = .ok (.invokestatic 25, 3) := by decide +kernel
theorem dX4_lay_21 : decode cX4_lay 21 = .ok (.putfield 28, 3) := by decide +kernel
theorem dX4_lay_24 : decode cX4_lay 24 = .ok (.aload_n 0, 1) := by decide +kernel
theorem dX4_lay_25 : decode cX4_lay 25 = .ok (.iload_n 2, 1) := by decide +kernel
theorem dX4_lay_26 : decode cX4_lay 26 = .ok (.invokestatic 19, 3) := by decide +kernel
theorem dX4_lay_29 : decode cX4_lay 29 = .ok (.aload_n 0, 1) := by decide +kernel
theorem dX4_lay_30 : decode cX4_lay 30 = .ok (.getfield 22, 3) := by decide +kernel
theorem dX4_lay_33 : decode cX4_lay 33 = .ok (.isub, 1) := by decide +kernel
theorem dX4_lay_34 : decode cX4_lay 34 = .ok (.putfield 31, 3) := by decide +kernel
theorem dX4_lay_37 : decode cX4_lay 37 = .ok (.aload_n 0, 1) := by decide +kernel
theorem dX4_lay_38 : decode cX4_lay 38 = .ok (.iload_n 2, 1) := by decide +kernel
theorem dX4_lay_39 : decode cX4_lay 39 = .ok (.invokestatic 25, 3) := by decide +kernel
theorem dX4_lay_42 : decode cX4_lay 42 = .ok (.aload_n 0, 1) := by decide +kernel
theorem dX4_lay_43 : decode cX4_lay 43 = .ok (.getfield 28, 3) := by decide +kernel
theorem dX4_lay_46 : decode cX4_lay 46 = .ok (.isub, 1) := by decide +kernel
theorem dX4_lay_47 : decode cX4_lay 47 = .ok (.putfield 34, 3) := by decide +kernel
theorem dX4_lay_50 : decode cX4_lay 50 = .ok (.iconst 1, 1) := by decide +kernel
theorem dX4_lay_51 : decode cX4_lay 51 = .ok (.aload_n 0, 1) := by decide +kernel
theorem dX4_lay_52 : decode cX4_lay 52 = .ok (.getfield 31, 3) := by decide +kernel
theorem dX4_lay_55 : decode cX4_lay 55 = .ok (.invokestatic 37, 3) := by decide +kernel
theorem dX4_lay_58 : decode cX4_lay 58 = .ok (.invokestatic 42, 3) := by decide +kernel
theorem dX4_lay_61 : decode cX4_lay 61 = .ok (.istore_n 3, 1) := by decide +kernel
theorem dX4_lay_62 : decode cX4_lay 62 = .ok (.iconst 1, 1) := by decide +kernel
theorem dX4_lay_63 : decode cX4_lay 63 = .ok (.aload_n 0, 1) := by decide +kernel
theorem dX4_lay_64 : decode cX4_lay 64 = .ok (.getfield 34, 3) := by decide +kernel
theorem dX4_lay_67 : decode cX4_lay 67 = .ok (.invokestatic 37, 3) := by decide +kernel
theorem dX4_lay_70 : decode cX4_lay 70 = .ok (.invokestatic 42, 3) := by decide +kernel
theorem dX4_lay_73 : decode cX4_lay 73 = .ok (.istore 4, 2) := by decide +kernel
theorem dX4_lay_75 : decode cX4_lay 75 = .ok (.aload_n 0, 1) := by decide +kernel
theorem dX4_lay_76 : decode cX4_lay 76 = .ok (.iload_n 3, 1) := by decide +kernel
theorem dX4_lay_77 : decode cX4_lay 77 = .ok (.iload 4, 2) := by decide +kernel
theorem dX4_lay_79 : decode cX4_lay 79 = .ok (.imul, 1) := by decide +kernel
theorem dX4_lay_80 : decode cX4_lay 80 = .ok (.putfield 46, 3) := by decide +kernel
theorem dX4_lay_83 : decode cX4_lay 83 = .ok (.aload_n 0, 1) := by decide +kernel
theorem dX4_lay_84 : decode cX4_lay 84 = .ok (.aload_n 0, 1) := by decide +kernel
theorem dX4_lay_85 : decode cX4_lay 85 = .ok (.getfield 31, 3) := by decide +kernel
theorem dX4_lay_88 : decode cX4_lay 88 = .ok (.ifCond .ge 9, 3) := by decide +kernel
theorem dX4_lay_91 : decode cX4_lay 91 = .ok (.iload 4, 2) := by decide +kernel
theorem dX4_lay_93 : decode cX4_lay 93 = .ok (.ineg, 1) := by decide +kernel
theorem dX4_lay_94 : decode cX4_lay 94 = .ok (.goto 5, 3) := by decide +kernel
theorem dX4_lay_97 : decode cX4_lay 97 = .ok (.iload 4, 2) := by decide +kernel
theorem dX4_lay_99 : decode cX4_lay 99 = .ok (.putfield 49, 3) := by decide +kernel
theorem dX4_lay_102 : decode cX4_lay 102 = .ok (.aload_n 0, 1) := by decide +kernel
theorem dX4_lay_103 : decode cX4_lay 103 = .ok (.aload_n 0, 1) := by decide +kernel
theorem dX4_lay_104 : decode cX4_lay 104 = .ok (.getfield 34, 3) := by decide +kernel
theorem dX4_lay_107 : decode cX4_lay 107 = .ok (.ifCond .ge 8, 3) := by decide +kernel
theorem dX4_lay_110 : decode cX4_lay 110 = .ok (.iload_n 3, 1) := by decide +kernel
theorem dX4_lay_111 : decode cX4_lay 111 = .ok (.ineg, 1) := by decide +kernel
theorem dX4_lay_112 : decode cX4_lay 112 = .ok (.goto 4, 3) := by decide +kernel
theorem dX4_lay_115 : decode cX4_lay 115 = .ok (.iload_n 3, 1) := by decide +kernel
theorem dX4_lay_116 : decode cX4_lay 116 = .ok (.putfield 52, 3) := by decide +kernel
theorem dX4_lay_119 : decode cX4_lay 119 = .ok (.return_, 1) := by decide +kernel
theorem dX4_meets_0 : decode cX4_meets 0 = .ok (.aload_n 0, 1) := by decide +kernel
theorem dX4_meets_1 : decode cX4_meets 1 = .ok (.getfield 13, 3) := by decide +kernel
theorem dX4_meets_4 : decode cX4_meets 4 = .ok (.aload_n 1, 1) := by decide +kernel
theorem dX4_meets_5 : decode cX4_meets 5 = .ok (.getfield 55, 3) := by decide +kernel
theorem dX4_meets_8 : decode cX4_meets 8 = .ok (.if_icmp .eq 5, 3) := by decide +kernel
theorem dX4_meets_11 : decode cX4_meets 11 = .ok (.iconst 0, 1) := by decide +kernel
theorem dX4_meets_12 : decode cX4_meets 12 = .ok (.ireturn, 1) := by decide +kernel
theorem dX4_meets_13 : decode cX4_meets 13 = .ok (.aload_n 0, 1) := by decide +kernel
theorem dX4_meets_14 : decode cX4_meets 14 = .ok (.getfield 31, 3) := by decide +kernel
theorem dX4_meets_17 : decode cX4_meets 17 = .ok (.ifCond .ne 27, 3) := by decide +kernel
theorem dX4_meets_20 : decode cX4_meets 20 = .ok (.aload_n 0, 1) := by decide +kernel
theorem dX4_meets_21 : decode cX4_meets 21 = .ok (.getfield 22, 3) := by decide +kernel
theorem dX4_meets_24 : decode cX4_meets 24 = .ok (.aload_n 1, 1) := by decide +kernel
theorem dX4_meets_25 : decode cX4_meets 25 = .ok (.getfield 58, 3) := by decide +kernel
theorem dX4_meets_28 : decode cX4_meets 28 = .ok (.if_icmp .lt 14, 3) := by decide +kernel
theorem dX4_meets_31 : decode cX4_meets 31 = .ok (.aload_n 0, 1) := by decide +kernel
theorem dX4_meets_32 : decode cX4_meets 32 = .ok (.getfield 22, 3) := by decide +kernel
theorem dX4_meets_35 : decode cX4_meets 35 = .ok (.aload_n 1, 1) := by decide +kernel
theorem dX4_meets_36 : decode cX4_meets 36 = .ok (.getfield 61, 3) := by decide +kernel
theorem dX4_meets_39 : decode cX4_meets 39 = .ok (.if_icmp .le 5, 3) := by decide +kernel
theorem dX4_meets_42 : decode cX4_meets 42 = .ok (.iconst 0, 1) := by decide +kernel
theorem dX4_meets_43 : decode cX4_meets 43 = .ok (.ireturn, 1) := by decide +kernel
theorem dX4_meets_44 : decode cX4_meets 44 = .ok (.aload_n 0, 1) := by decide +kernel
theorem dX4_meets_45 : decode cX4_meets 45 = .ok (.getfield 34, 3) := by decide +kernel
theorem dX4_meets_48 : decode cX4_meets 48 = .ok (.ifCond .ne 27, 3) := by decide +kernel
theorem dX4_meets_51 : decode cX4_meets 51 = .ok (.aload_n 0, 1) := by decide +kernel
theorem dX4_meets_52 : decode cX4_meets 52 = .ok (.getfield 28, 3) := by decide +kernel
theorem dX4_meets_55 : decode cX4_meets 55 = .ok (.aload_n 1, 1) := by decide +kernel
theorem dX4_meets_56 : decode cX4_meets 56 = .ok (.getfield 64, 3) := by decide +kernel
theorem dX4_meets_59 : decode cX4_meets 59 = .ok (.if_icmp .lt 14, 3) := by decide +kernel
theorem dX4_meets_62 : decode cX4_meets 62 = .ok (.aload_n 0, 1) := by decide +kernel
theorem dX4_meets_63 : decode cX4_meets 63 = .ok (.getfield 28, 3) := by decide +kernel
theorem dX4_meets_66 : decode cX4_meets 66 = .ok (.aload_n 1, 1) := by decide +kernel
theorem dX4_meets_67 : decode cX4_meets 67 = .ok (.getfield 67, 3) := by decide +kernel
theorem dX4_meets_70 : decode cX4_meets 70 = .ok (.if_icmp .le 5, 3) := by decide +kernel
theorem dX4_meets_73 : decode cX4_meets 73 = .ok (.iconst 0, 1) := by decide +kernel
theorem dX4_meets_74 : decode cX4_meets 74 = .ok (.ireturn, 1) := by decide +kernel
theorem dX4_meets_75 : decode cX4_meets 75 = .ok (.aload_n 0, 1) := by decide +kernel
theorem dX4_meets_76 : decode cX4_meets 76 = .ok (.iconst 0, 1) := by decide +kernel
theorem dX4_meets_77 : decode cX4_meets 77 = .ok (.putfield 70, 3) := by decide +kernel
theorem dX4_meets_80 : decode cX4_meets 80 = .ok (.aload_n 0, 1) := by decide +kernel
theorem dX4_meets_81 : decode cX4_meets 81 = .ok (.aload_n 0, 1) := by decide +kernel
theorem dX4_meets_82 : decode cX4_meets 82 = .ok (.getfield 46, 3) := by decide +kernel
theorem dX4_meets_85 : decode cX4_meets 85 = .ok (.putfield 73, 3) := by decide +kernel
theorem dX4_meets_88 : decode cX4_meets 88 = .ok (.aload_n 0, 1) := by decide +kernel
theorem dX4_meets_89 : decode cX4_meets 89 = .ok (.getfield 31, 3) := by decide +kernel
theorem dX4_meets_92 : decode cX4_meets 92 = .ok (.ifCond .eq 101, 3) := by decide +kernel
theorem dX4_meets_95 : decode cX4_meets 95 = .ok (.aload_n 0, 1) := by decide +kernel
theorem dX4_meets_96 : decode cX4_meets 96 = .ok (.getfield 31, 3) := by decide +kernel
theorem dX4_meets_99 : decode cX4_meets 99 = .ok (.ifCond .le 10, 3) := by decide +kernel
theorem dX4_meets_102 : decode cX4_meets 102 = .ok (.aload_n 1, 1) := by decide +kernel
theorem dX4_meets_103 : decode cX4_meets 103 = .ok (.getfield 58, 3) := by decide +kernel
theorem dX4_meets_106 : decode cX4_meets 106 = .ok (.goto 7, 3) := by decide +kernel
theorem dX4_meets_109 : decode cX4_meets 109 = .ok (.aload_n 1, 1) := by decide +kernel
theorem dX4_meets_110 : decode cX4_meets 110 = .ok (.getfield 61, 3) := by decide +kernel
theorem dX4_meets_113 : decode cX4_meets 113 = .ok (.aload_n 0, 1) := by decide +kernel
theorem dX4_meets_114 : decode cX4_meets 114 = .ok (.getfield 22, 3) := by decide +kernel
theorem dX4_meets_117 : decode cX4_meets 117 = .ok (.isub, 1) := by decide +kernel
theorem dX4_meets_118 : decode cX4_meets 118 = .ok (.aload_n 0, 1) := by decide +kernel
theorem dX4_meets_119 : decode cX4_meets 119 = .ok (.getfield 49, 3) := by decide +kernel
theorem dX4_meets_122 : decode cX4_meets 122 = .ok (.imul, 1) := by decide +kernel
theorem dX4_meets_123 : decode cX4_meets 123 = .ok (.istore_n 2, 1) := by decide +kernel
theorem dX4_meets_124 : decode cX4_meets 124 = .ok (.aload_n 0, 1) := by decide +kernel
theorem dX4_meets_125 : decode cX4_meets 125 = .ok (.getfield 31, 3) := by decide +kernel
theorem dX4_meets_128 : decode cX4_meets 128 = .ok (.ifCond .le 10, 3) := by decide +kernel
theorem dX4_meets_131 : decode cX4_meets 131 = .ok (.aload_n 1, 1) := by decide +kernel
theorem dX4_meets_132 : decode cX4_meets 132 = .ok (.getfield 61, 3) := by decide +kernel
theorem dX4_meets_135 : decode cX4_meets 135 = .ok (.goto 7, 3) := by decide +kernel
theorem dX4_meets_138 : decode cX4_meets 138 = .ok (.aload_n 1, 1) := by decide +kernel
theorem dX4_meets_139 : decode cX4_meets 139 = .ok (.getfield 58, 3) := by decide +kernel
theorem dX4_meets_142 : decode cX4_meets 142 = .ok (.aload_n 0, 1) := by decide +kernel
theorem dX4_meets_143 : decode cX4_meets 143 = .ok (.getfield 22, 3) := by decide +kernel
theorem dX4_meets_146 : decode cX4_meets 146 = .ok (.isub, 1) := by decide +kernel
theorem dX4_meets_147 : decode cX4_meets 147 = .ok (.aload_n 0, 1) := by decide +kernel
theorem dX4_meets_148 : decode cX4_meets 148 = .ok (.getfield 49, 3) := by decide +kernel
theorem dX4_meets_151 : decode cX4_meets 151 = .ok (.imul, 1) := by decide +kernel
theorem dX4_meets_152 : decode cX4_meets 152 = .ok (.istore_n 3, 1) := by decide +kernel
theorem dX4_meets_153 : decode cX4_meets 153 = .ok (.aload_n 0, 1) := by decide +kernel
theorem dX4_meets_154 : decode cX4_meets 154 = .ok (.iload_n 2, 1) := by decide +kernel
theorem dX4_meets_155 : decode cX4_meets 155 = .ok (.aload_n 0, 1) := by decide +kernel
theorem dX4_meets_156 : decode cX4_meets 156 = .ok (.getfield 70, 3) := by decide +kernel
theorem dX4_meets_159 : decode cX4_meets 159 = .ok (.if_icmp .le 7, 3) := by decide +kernel
theorem dX4_meets_162 : decode cX4_meets 162 = .ok (.iload_n 2, 1) := by decide +kernel
theorem dX4_meets_163 : decode cX4_meets 163 = .ok (.goto 7, 3) := by decide +kernel
theorem dX4_meets_166 : decode cX4_meets 166 = .ok (.aload_n 0, 1) := by decide +kernel
theorem dX4_meets_167 : decode cX4_meets 167 = .ok (.getfield 70, 3) := by decide +kernel
theorem dX4_meets_170 : decode cX4_meets 170 = .ok (.putfield 70, 3) := by decide +kernel
theorem dX4_meets_173 : decode cX4_meets 173 = .ok (.aload_n 0, 1) := by decide +kernel
theorem dX4_meets_174 : decode cX4_meets 174 = .ok (.iload_n 3, 1) := by decide +kernel
theorem dX4_meets_175 : decode cX4_meets 175 = .ok (.aload_n 0, 1) := by decide +kernel
theorem dX4_meets_176 : decode cX4_meets 176 = .ok (.getfield 73, 3) := by decide +kernel
theorem dX4_meets_179 : decode cX4_meets 179 = .ok (.if_icmp .ge 7, 3) := by decide +kernel
theorem dX4_meets_182 : decode cX4_meets 182 = .ok (.iload_n 3, 1) := by decide +kernel
theorem dX4_meets_183 : decode cX4_meets 183 = .ok (.goto 7, 3) := by decide +kernel
theorem dX4_meets_186 : decode cX4_meets 186 = .ok (.aload_n 0, 1) := by decide +kernel
theorem dX4_meets_187 : decode cX4_meets 187 = .ok (.getfield 73, 3) := by decide +kernel
theorem dX4_meets_190 : decode cX4_meets 190 = .ok (.putfield 73, 3) := by decide +kernel
theorem dX4_meets_193 : decode cX4_meets 193 = .ok (.aload_n 0, 1) := by decide +kernel
theorem dX4_meets_194 : decode cX4_meets 194 = .ok (.getfield 34, 3) := by decide +kernel
theorem dX4_meets_197 : decode cX4_meets 197 = .ok (.ifCond .eq 101, 3) := by decide +kernel
theorem dX4_meets_200 : decode cX4_meets 200 = .ok (.aload_n 0, 1) := by decide +kernel
theorem dX4_meets_201 : decode cX4_meets 201 = .ok (.getfield 34, 3) := by decide +kernel
theorem dX4_meets_204 : decode cX4_meets 204 = .ok (.ifCond .le 10, 3) := by decide +kernel
theorem dX4_meets_207 : decode cX4_meets 207 = .ok (.aload_n 1, 1) := by decide +kernel
theorem dX4_meets_208 : decode cX4_meets 208 = .ok (.getfield 64, 3) := by decide +kernel
theorem dX4_meets_211 : decode cX4_meets 211 = .ok (.goto 7, 3) := by decide +kernel
theorem dX4_meets_214 : decode cX4_meets 214 = .ok (.aload_n 1, 1) := by decide +kernel
theorem dX4_meets_215 : decode cX4_meets 215 = .ok (.getfield 67, 3) := by decide +kernel
theorem dX4_meets_218 : decode cX4_meets 218 = .ok (.aload_n 0, 1) := by decide +kernel
theorem dX4_meets_219 : decode cX4_meets 219 = .ok (.getfield 28, 3) := by decide +kernel
theorem dX4_meets_222 : decode cX4_meets 222 = .ok (.isub, 1) := by decide +kernel
theorem dX4_meets_223 : decode cX4_meets 223 = .ok (.aload_n 0, 1) := by decide +kernel
theorem dX4_meets_224 : decode cX4_meets 224 = .ok (.getfield 52, 3) := by decide +kernel
theorem dX4_meets_227 : decode cX4_meets 227 = .ok (.imul, 1) := by decide +kernel
theorem dX4_meets_228 : decode cX4_meets 228 = .ok (.istore_n 2, 1) := by decide +kernel
theorem dX4_meets_229 : decode cX4_meets 229 = .ok (.aload_n 0, 1) := by decide +kernel
theorem dX4_meets_230 : decode cX4_meets 230 = .ok (.getfield 34, 3) := by decide +kernel
theorem dX4_meets_233 : decode cX4_meets 233 = .ok (.ifCond .le 10, 3) := by decide +kernel
theorem dX4_meets_236 : decode cX4_meets 236 = .ok (.aload_n 1, 1) := by decide +kernel
theorem dX4_meets_237 : decode cX4_meets 237 = .ok (.getfield 67, 3) := by decide +kernel
theorem dX4_meets_240 : decode cX4_meets 240 = .ok (.goto 7, 3) := by decide +kernel
theorem dX4_meets_243 : decode cX4_meets 243 = .ok (.aload_n 1, 1) := by decide +kernel
theorem dX4_meets_244 : decode cX4_meets 244 = .ok (.getfield 64, 3) := by decide +kernel
theorem dX4_meets_247 : decode cX4_meets 247 = .ok (.aload_n 0, 1) := by decide +kernel
theorem dX4_meets_248 : decode cX4_meets 248 = .ok (.getfield 28, 3) := by decide +kernel
theorem dX4_meets_251 : decode cX4_meets 251 = .ok (.isub, 1) := by decide +kernel
theorem dX4_meets_252 : decode cX4_meets 252 = .ok (.aload_n 0, 1) := by decide +kernel
theorem dX4_meets_253 : decode cX4_meets 253 = .ok (.getfield 52, 3) := by decide +kernel
theorem dX4_meets_256 : decode cX4_meets 256 = .ok (.imul, 1) := by decide +kernel
theorem dX4_meets_257 : decode cX4_meets 257 = .ok (.istore_n 3, 1) := by decide +kernel
theorem dX4_meets_258 : decode cX4_meets 258 = .ok (.aload_n 0, 1) := by decide +kernel
theorem dX4_meets_259 : decode cX4_meets 259 = .ok (.iload_n 2, 1) := by decide +kernel
theorem dX4_meets_260 : decode cX4_meets 260 = .ok (.aload_n 0, 1) := by decide +kernel
theorem dX4_meets_261 : decode cX4_meets 261 = .ok (.getfield 70, 3) := by decide +kernel
theorem dX4_meets_264 : decode cX4_meets 264 = .ok (.if_icmp .le 7, 3) := by decide +kernel
theorem dX4_meets_267 : decode cX4_meets 267 = .ok (.iload_n 2, 1) := by decide +kernel
theorem dX4_meets_268 : decode cX4_meets 268 = .ok (.goto 7, 3) := by decide +kernel
theorem dX4_meets_271 : decode cX4_meets 271 = .ok (.aload_n 0, 1) := by decide +kernel
theorem dX4_meets_272 : decode cX4_meets 272 = .ok (.getfield 70, 3) := by decide +kernel
theorem dX4_meets_275 : decode cX4_meets 275 = .ok (.putfield 70, 3) := by decide +kernel
theorem dX4_meets_278 : decode cX4_meets 278 = .ok (.aload_n 0, 1) := by decide +kernel
theorem dX4_meets_279 : decode cX4_meets 279 = .ok (.iload_n 3, 1) := by decide +kernel
theorem dX4_meets_280 : decode cX4_meets 280 = .ok (.aload_n 0, 1) := by decide +kernel
theorem dX4_meets_281 : decode cX4_meets 281 = .ok (.getfield 73, 3) := by decide +kernel
theorem dX4_meets_284 : decode cX4_meets 284 = .ok (.if_icmp .ge 7, 3) := by decide +kernel
theorem dX4_meets_287 : decode cX4_meets 287 = .ok (.iload_n 3, 1) := by decide +kernel
theorem dX4_meets_288 : decode cX4_meets 288 = .ok (.goto 7, 3) := by decide +kernel
theorem dX4_meets_291 : decode cX4_meets 291 = .ok (.aload_n 0, 1) := by decide +kernel
theorem dX4_meets_292 : decode cX4_meets 292 = .ok (.getfield 73, 3) := by decide +kernel
theorem dX4_meets_295 : decode cX4_meets 295 = .ok (.putfield 73, 3) := by decide +kernel
theorem dX4_meets_298 : decode cX4_meets 298 = .ok (.aload_n 0, 1) := by decide +kernel
theorem dX4_meets_299 : decode cX4_meets 299 = .ok (.getfield 70, 3) := by decide +kernel
theorem dX4_meets_302 : decode cX4_meets 302 = .ok (.aload_n 0, 1) := by decide +kernel
theorem dX4_meets_303 : decode cX4_meets 303 = .ok (.getfield 73, 3) := by decide +kernel
theorem dX4_meets_306 : decode cX4_meets 306 = .ok (.if_icmp .gt 7, 3) := by decide +kernel
theorem dX4_meets_309 : decode cX4_meets 309 = .ok (.iconst 1, 1) := by decide +kernel
theorem dX4_meets_310 : decode cX4_meets 310 = .ok (.goto 4, 3) := by decide +kernel
theorem dX4_meets_313 : decode cX4_meets 313 = .ok (.iconst 0, 1) := by decide +kernel
theorem dX4_meets_314 : decode cX4_meets 314 = .ok (.ireturn, 1) := by decide +kernel
theorem dX4_runsInside_0 : decode cX4_runsInside 0 = .ok (.aload_n 0, 1) := by decide +kernel
theorem dX4_runsInside_1 : decode cX4_runsInside 1 = .ok (.getfield 31, 3) := by decide +kernel
theorem dX4_runsInside_4 : decode cX4_runsInside 4 = .ok (.ifCond .ne 25, 3) := by decide +kernel
theorem dX4_runsInside_7 : decode cX4_runsInside 7 = .ok (.aload_n 1, 1) := by decide +kernel
theorem dX4_runsInside_8 : decode cX4_runsInside 8 = .ok (.getfield 58, 3) := by decide +kernel
theorem dX4_runsInside_11 : decode cX4_runsInside 11 = .ok (.aload_n 0, 1) := by decide +kernel
theorem dX4_runsInside_12 : decode cX4_runsInside 12 = .ok (.getfield 22, 3) := by decide +kernel
theorem dX4_runsInside_15 : decode cX4_runsInside 15 = .ok (.if_icmp .ge 18, 3) := by decide +kernel
theorem dX4_runsInside_18 : decode cX4_runsInside 18 = .ok (.aload_n 0, 1) := by decide +kernel
theorem dX4_runsInside_19 : decode cX4_runsInside 19 = .ok (.getfield 22, 3) := by decide +kernel
theorem dX4_runsInside_22 : decode cX4_runsInside 22 = .ok (.aload_n 1, 1) := by decide +kernel
theorem dX4_runsInside_23 : decode cX4_runsInside 23 = .ok (.getfield 61, 3) := by decide +kernel
theorem dX4_runsInside_26 : decode cX4_runsInside 26 = .ok (.if_icmp .ge 7, 3) := by decide +kernel
theorem dX4_runsInside_29 : decode cX4_runsInside 29 = .ok (.iconst 1, 1) := by decide +kernel
theorem dX4_runsInside_30 : decode cX4_runsInside 30 = .ok (.goto 4, 3) := by decide +kernel
theorem dX4_runsInside_33 : decode cX4_runsInside 33 = .ok (.iconst 0, 1) := by decide +kernel
theorem dX4_runsInside_34 : decode cX4_runsInside 34 = .ok (.istore_n 2, 1) := by decide +kernel
theorem dX4_runsInside_35 : decode cX4_runsInside 35 = .ok (.aload_n 0, 1) := by decide +kernel
theorem dX4_runsInside_36 : decode cX4_runsInside 36 = .ok (.getfield 34, 3) := by decide +kernel
theorem dX4_runsInside_39 : decode cX4_runsInside 39 = .ok (.ifCond .ne 25, 3) := by decide +kernel
theorem dX4_runsInside_42 : decode cX4_runsInside 42 = .ok (.aload_n 1, 1) := by decide +kernel
theorem dX4_runsInside_43 : decode cX4_runsInside 43 = .ok (.getfield 64, 3) := by decide +kernel
theorem dX4_runsInside_46 : decode cX4_runsInside 46 = .ok (.aload_n 0, 1) := by decide +kernel
theorem dX4_runsInside_47 : decode cX4_runsInside 47 = .ok (.getfield 28, 3) := by decide +kernel
theorem dX4_runsInside_50 : decode cX4_runsInside 50 = .ok (.if_icmp .ge 18, 3) := by decide +kernel
theorem dX4_runsInside_53 : decode cX4_runsInside 53 = .ok (.aload_n 0, 1) := by decide +kernel
theorem dX4_runsInside_54 : decode cX4_runsInside 54 = .ok (.getfield 28, 3) := by decide +kernel
theorem dX4_runsInside_57 : decode cX4_runsInside 57 = .ok (.aload_n 1, 1) := by decide +kernel
theorem dX4_runsInside_58 : decode cX4_runsInside 58 = .ok (.getfield 67, 3) := by decide +kernel
theorem dX4_runsInside_61 : decode cX4_runsInside 61 = .ok (.if_icmp .ge 7, 3) := by decide +kernel
theorem dX4_runsInside_64 : decode cX4_runsInside 64 = .ok (.iconst 1, 1) := by decide +kernel
theorem dX4_runsInside_65 : decode cX4_runsInside 65 = .ok (.goto 4, 3) := by decide +kernel
theorem dX4_runsInside_68 : decode cX4_runsInside 68 = .ok (.iconst 0, 1) := by decide +kernel
theorem dX4_runsInside_69 : decode cX4_runsInside 69 = .ok (.istore_n 3, 1) := by decide +kernel
theorem dX4_runsInside_70 : decode cX4_runsInside 70 = .ok (.aload_n 0, 1) := by decide +kernel
theorem dX4_runsInside_71 : decode cX4_runsInside 71 = .ok (.getfield 70, 3) := by decide +kernel
theorem dX4_runsInside_74 : decode cX4_runsInside 74 = .ok (.aload_n 0, 1) := by decide +kernel
theorem dX4_runsInside_75 : decode cX4_runsInside 75 = .ok (.getfield 73, 3) := by decide +kernel
theorem dX4_runsInside_78 : decode cX4_runsInside 78 = .ok (.if_icmp .ge 15, 3) := by decide +kernel
theorem dX4_runsInside_81 : decode cX4_runsInside 81 = .ok (.iload_n 2, 1) := by decide +kernel
theorem dX4_runsInside_82 : decode cX4_runsInside 82 = .ok (.ifCond .eq 11, 3) := by decide +kernel
theorem dX4_runsInside_85 : decode cX4_runsInside 85 = .ok (.iload_n 3, 1) := by decide +kernel
theorem dX4_runsInside_86 : decode cX4_runsInside 86 = .ok (.ifCond .eq 7, 3) := by decide +kernel
theorem dX4_runsInside_89 : decode cX4_runsInside 89 = .ok (.iconst 1, 1) := by decide +kernel
theorem dX4_runsInside_90 : decode cX4_runsInside 90 = .ok (.goto 4, 3) := by decide +kernel
theorem dX4_runsInside_93 : decode cX4_runsInside 93 = .ok (.iconst 0, 1) := by decide +kernel
theorem dX4_runsInside_94 : decode cX4_runsInside 94 = .ok (.ireturn, 1) := by decide +kernel
theorem dX5_init_0 : decode cX5_init 0 = .ok (.aload_n 0, 1) := by decide +kernel
theorem dX5_init_1 : decode cX5_init 1 = .ok (.invokespecial 3, 3) := by decide +kernel
theorem dX5_init_4 : decode cX5_init 4 = .ok (.aload_n 0, 1) := by decide +kernel
theorem dX5_init_5 : decode cX5_init 5 = .ok (.bipush 94, 2) := by decide +kernel
theorem dX5_init_7 : decode cX5_init 7 = .ok (.newarray .int, 2) := by decide +kernel
theorem dX5_init_9 : decode cX5_init 9 = .ok (.putfield 9, 3) := by decide +kernel
theorem dX5_init_12 : decode cX5_init 12 = .ok (.return_, 1) := by decide +kernel
theorem dX6_ahead_0 : decode cX6_ahead 0 = .ok (.aload_n 0, 1) := by decide +kernel
theorem dX6_ahead_1 : decode cX6_ahead 1 = .ok (.getfield 10, 3) := by decide +kernel
theorem dX6_ahead_4 : decode cX6_ahead 4 = .ok (.getfield 16, 3) := by decide +kernel
theorem dX6_ahead_7 : decode cX6_ahead 7 = .ok (.aload_n 0, 1) := by decide +kernel
theorem dX6_ahead_8 : decode cX6_ahead 8 = .ok (.getfield 20, 3) := by decide +kernel
theorem dX6_ahead_11 : decode cX6_ahead 11 = .ok (.isub, 1) := by decide +kernel
theorem dX6_ahead_12 : decode cX6_ahead 12 = .ok (.ireturn, 1) := by decide +kernel
theorem dX6_beginRow_0 : decode cX6_beginRow 0 = .ok (.aload_n 0, 1) := by decide +kernel
theorem dX6_beginRow_1 : decode cX6_beginRow 1 = .ok (.iconst 1, 1) := by decide +kernel
theorem dX6_beginRow_2 : decode cX6_beginRow 2 = .ok (.putfield 20, 3) := by decide +kernel
theorem dX6_beginRow_5 : decode cX6_beginRow 5 = .ok (.return_, 1) := by decide +kernel
theorem dX6_dropRow_0 : decode cX6_dropRow 0 = .ok (.aload_n 0, 1) := by decide +kernel
theorem dX6_dropRow_1 : decode cX6_dropRow 1 = .ok (.getfield 10, 3) := by decide +kernel
theorem dX6_dropRow_4 : decode cX6_dropRow 4 = .ok (.iconst 0, 1) := by decide +kernel
theorem dX6_dropRow_5 : decode cX6_dropRow 5 = .ok (.putfield 16, 3) := by decide +kernel
theorem dX6_dropRow_8 : decode cX6_dropRow 8 = .ok (.aload_n 0, 1) := by decide +kernel
theorem dX6_dropRow_9 : decode cX6_dropRow 9 = .ok (.iconst 0, 1) := by decide +kernel
theorem dX6_dropRow_10 : decode cX6_dropRow 10 = .ok (.putfield 20, 3) := by decide +kernel
theorem dX6_dropRow_13 : decode cX6_dropRow 13 = .ok (.return_, 1) := by decide +kernel
theorem dX6_init_0 : decode cX6_init 0 = .ok (.aload_n 0, 1) := by decide +kernel
theorem dX6_init_1 : decode cX6_init 1 = .ok (.invokespecial 1, 3) := by decide +kernel
theorem dX6_init_4 : decode cX6_init 4 = .ok (.aload_n 0, 1) := by decide +kernel
theorem dX6_init_5 : decode cX6_init 5 = .ok (.new 7, 3) := by decide +kernel
theorem dX6_init_8 : decode cX6_init 8 = .ok (.dup, 1) := by decide +kernel
theorem dX6_init_9 : decode cX6_init 9 = .ok (.invokespecial 9, 3) := by decide +kernel
theorem dX6_init_12 : decode cX6_init 12 = .ok (.putfield 10, 3) := by decide +kernel
theorem dX6_init_15 : decode cX6_init 15 = .ok (.return_, 1) := by decide +kernel
theorem dX6_lastPlace_0 : decode cX6_lastPlace 0 = .ok (.aload_n 0, 1) := by decide +kernel
theorem dX6_lastPlace_1 : decode cX6_lastPlace 1 = .ok (.getfield 20, 3) := by decide +kernel
theorem dX6_lastPlace_4 : decode cX6_lastPlace 4 = .ok (.aload_n 0, 1) := by decide +kernel
theorem dX6_lastPlace_5 : decode cX6_lastPlace 5 = .ok (.getfield 10, 3) := by decide +kernel
theorem dX6_lastPlace_8 : decode cX6_lastPlace 8 = .ok (.getfield 16, 3) := by decide +kernel
theorem dX6_lastPlace_11 : decode cX6_lastPlace 11 = .ok (.if_icmp .ge 23, 3) := by decide +kernel
theorem dX6_lastPlace_14 : decode cX6_lastPlace 14 = .ok (.aload_n 0, 1) := by decide +kernel
theorem dX6_lastPlace_15 : decode cX6_lastPlace 15 = .ok (.getfield 10, 3) := by decide +kernel
theorem dX6_lastPlace_18 : decode cX6_lastPlace 18 = .ok (.getfield 23, 3) := by decide +kernel
theorem dX6_lastPlace_21 : decode cX6_lastPlace 21 = .ok (.aload_n 0, 1) := by decide +kernel
theorem dX6_lastPlace_22 : decode cX6_lastPlace 22 = .ok (.getfield 10, 3) := by decide +kernel
theorem dX6_lastPlace_25 : decode cX6_lastPlace 25 = .ok (.getfield 16, 3) := by decide +kernel
theorem dX6_lastPlace_28 : decode cX6_lastPlace 28 = .ok (.iconst 1, 1) := by decide +kernel
theorem dX6_lastPlace_29 : decode cX6_lastPlace 29 = .ok (.isub, 1) := by decide +kernel
theorem dX6_lastPlace_30 : decode cX6_lastPlace 30 = .ok (.iaload, 1) := by decide +kernel
theorem dX6_lastPlace_31 : decode cX6_lastPlace 31 = .ok (.goto 7, 3) := by decide +kernel
theorem dX6_lastPlace_34 : decode cX6_lastPlace 34 = .ok (.aload_n 0, 1) := by decide +kernel
theorem dX6_lastPlace_35 : decode cX6_lastPlace 35 = .ok (.getfield 27, 3) := by decide +kernel
theorem dX6_lastPlace_38 : decode cX6_lastPlace 38 = .ok (.ireturn, 1) := by decide +kernel
theorem dX6_nextPlace_0 : decode cX6_nextPlace 0 = .ok (.aload_n 0, 1) := by decide +kernel
theorem dX6_nextPlace_1 : decode cX6_nextPlace 1 = .ok (.getfield 20, 3) := by decide +kernel
theorem dX6_nextPlace_4 : decode cX6_nextPlace 4 = .ok (.aload_n 0, 1) := by decide +kernel
theorem dX6_nextPlace_5 : decode cX6_nextPlace 5 = .ok (.getfield 10, 3) := by decide +kernel
theorem dX6_nextPlace_8 : decode cX6_nextPlace 8 = .ok (.getfield 16, 3) := by decide +kernel
theorem dX6_nextPlace_11 : decode cX6_nextPlace 11 = .ok (.if_icmp .ge 18, 3) := by decide +kernel
theorem dX6_nextPlace_14 : decode cX6_nextPlace 14 = .ok (.aload_n 0, 1) := by decide +kernel
theorem dX6_nextPlace_15 : decode cX6_nextPlace 15 = .ok (.getfield 10, 3) := by decide +kernel
theorem dX6_nextPlace_18 : decode cX6_nextPlace 18 = .ok (.getfield 23, 3) := by decide +kernel
theorem dX6_nextPlace_21 : decode cX6_nextPlace 21 = .ok (.aload_n 0, 1) := by decide +kernel
theorem dX6_nextPlace_22 : decode cX6_nextPlace 22 = .ok (.getfield 20, 3) := by decide +kernel
theorem dX6_nextPlace_25 : decode cX6_nextPlace 25 = .ok (.iaload, 1) := by decide +kernel
theorem dX6_nextPlace_26 : decode cX6_nextPlace 26 = .ok (.goto 7, 3) := by decide +kernel
theorem dX6_nextPlace_29 : decode cX6_nextPlace 29 = .ok (.aload_n 0, 1) := by decide +kernel
theorem dX6_nextPlace_30 : decode cX6_nextPlace 30 = .ok (.getfield 27, 3) := by decide +kernel
theorem dX6_nextPlace_33 : decode cX6_nextPlace 33 = .ok (.ireturn, 1) := by decide +kernel
theorem dX6_stepOn_0 : decode cX6_stepOn 0 = .ok (.aload_n 0, 1) := by decide +kernel
theorem dX6_stepOn_1 : decode cX6_stepOn 1 = .ok (.aload_n 0, 1) := by decide +kernel
theorem dX6_stepOn_2 : decode cX6_stepOn 2 = .ok (.invokevirtual 30, 3) := by decide +kernel
theorem dX6_stepOn_5 : decode cX6_stepOn 5 = .ok (.putfield 27, 3) := by decide +kernel
theorem dX6_stepOn_8 : decode cX6_stepOn 8 = .ok (.aload_n 0, 1) := by decide +kernel
theorem dX6_stepOn_9 : decode cX6_stepOn 9 = .ok (.dup, 1) := by decide +kernel
theorem dX6_stepOn_10 : decode cX6_stepOn 10 = .ok (.getfield 20, 3) := by decide +kernel
theorem dX6_stepOn_13 : decode cX6_stepOn 13 = .ok (.iconst 1, 1) := by decide +kernel
theorem dX6_stepOn_14 : decode cX6_stepOn 14 = .ok (.iadd, 1) := by decide +kernel
theorem dX6_stepOn_15 : decode cX6_stepOn 15 = .ok (.putfield 20, 3) := by decide +kernel
theorem dX6_stepOn_18 : decode cX6_stepOn 18 = .ok (.aload_n 0, 1) := by decide +kernel
theorem dX6_stepOn_19 : decode cX6_stepOn 19 = .ok (.iconst 0, 1) := by decide +kernel
theorem dX6_stepOn_20 : decode cX6_stepOn 20 = .ok (.putfield 34, 3) := by decide +kernel
theorem dX6_stepOn_23 : decode cX6_stepOn 23 = .ok (.aload_n 0, 1) := by decide +kernel
theorem dX6_stepOn_24 : decode cX6_stepOn 24 = .ok (.dup, 1) := by decide +kernel
theorem dX6_stepOn_25 : decode cX6_stepOn 25 = .ok (.getfield 37, 3) := by decide +kernel
theorem dX6_stepOn_28 : decode cX6_stepOn 28 = .ok (.iconst 1, 1) := by decide +kernel
theorem dX6_stepOn_29 : decode cX6_stepOn 29 = .ok (.iadd, 1) := by decide +kernel
theorem dX6_stepOn_30 : decode cX6_stepOn 30 = .ok (.putfield 37, 3) := by decide +kernel
theorem dX6_stepOn_33 : decode cX6_stepOn 33 = .ok (.aload_n 0, 1) := by decide +kernel
theorem dX6_stepOn_34 : decode cX6_stepOn 34 = .ok (.dup, 1) := by decide +kernel
theorem dX6_stepOn_35 : decode cX6_stepOn 35 = .ok (.getfield 40, 3) := by decide +kernel
theorem dX6_stepOn_38 : decode cX6_stepOn 38 = .ok (.iload_n 1, 1) := by decide +kernel
theorem dX6_stepOn_39 : decode cX6_stepOn 39 = .ok (.iadd, 1) := by decide +kernel
theorem dX6_stepOn_40 : decode cX6_stepOn 40 = .ok (.putfield 40, 3) := by decide +kernel
theorem dX6_stepOn_43 : decode cX6_stepOn 43 = .ok (.return_, 1) := by decide +kernel
theorem dX7_about_0 : decode cX7_about 0 = .ok (.iload_n 1, 1) := by decide +kernel
theorem dX7_about_1 : decode cX7_about 1 = .ok (.ifCond .lt 21, 3) := by decide +kernel
theorem dX7_about_4 : decode cX7_about 4 = .ok (.iload_n 1, 1) := by decide +kernel
theorem dX7_about_5 : decode cX7_about 5 = .ok (.aload_n 0, 1) := by decide +kernel
theorem dX7_about_6 : decode cX7_about 6 = .ok (.getfield 53, 3) := by decide +kernel
theorem dX7_about_9 : decode cX7_about 9 = .ok (.if_icmp .ge 13, 3) := by decide +kernel
theorem dX7_about_12 : decode cX7_about 12 = .ok (.iload_n 2, 1) := by decide +kernel
theorem dX7_about_13 : decode cX7_about 13 = .ok (.ifCond .lt 9, 3) := by decide +kernel
theorem dX7_about_16 : decode cX7_about 16 = .ok (.iload_n 2, 1) := by decide +kernel
theorem dX7_about_17 : decode cX7_about 17 = .ok (.bipush 9, 2) := by decide +kernel
theorem dX7_about_19 : decode cX7_about 19 = .ok (.if_icmp .lt 6, 3) := by decide +kernel
theorem dX7_about_22 : decode cX7_about 22 = .ok (.bipush (-2), 2) := by decide +kernel
theorem dX7_about_24 : decode cX7_about 24 = .ok (.ireturn, 1) := by decide +kernel
theorem dX7_about_25 : decode cX7_about 25 = .ok (.aload_n 0, 1) := by decide +kernel
theorem dX7_about_26 : decode cX7_about 26 = .ok (.getfield 34, 3) := by decide +kernel
theorem dX7_about_29 : decode cX7_about 29 = .ok (.iload_n 1, 1) := by decide +kernel
theorem dX7_about_30 : decode cX7_about 30 = .ok (.aaload, 1) := by decide +kernel
theorem dX7_about_31 : decode cX7_about 31 = .ok (.astore_n 3, 1) := by decide +kernel
theorem dX7_about_32 : decode cX7_about 32 = .ok (.iload_n 2, 1) := by decide +kernel
theorem dX7_about_33 : decode cX7_about 33 = .ok (.tableswitch 77 3 8 #[39, 44, 49, 62, 67, 72], 39) := by decide +kernel
theorem dX7_about_72 : decode cX7_about 72 = .ok (.aload_n 3, 1) := by decide +kernel
theorem dX7_about_73 : decode cX7_about 73 = .ok (.invokevirtual 168, 3) := by decide +kernel
theorem dX7_about_76 : decode cX7_about 76 = .ok (.ireturn, 1) := by decide +kernel
theorem dX7_about_77 : decode cX7_about 77 = .ok (.aload_n 3, 1) := by decide +kernel
theorem dX7_about_78 : decode cX7_about 78 = .ok (.getfield 178, 3) := by decide +kernel
theorem dX7_about_81 : decode cX7_about 81 = .ok (.ireturn, 1) := by decide +kernel
theorem dX7_about_82 : decode cX7_about 82 = .ok (.aload_n 3, 1) := by decide +kernel
theorem dX7_about_83 : decode cX7_about 83 = .ok (.getfield 156, 3) := by decide +kernel
theorem dX7_about_86 : decode cX7_about 86 = .ok (.ifCond .eq 7, 3) := by decide +kernel
theorem dX7_about_89 : decode cX7_about 89 = .ok (.iconst 1, 1) := by decide +kernel
theorem dX7_about_90 : decode cX7_about 90 = .ok (.goto 4, 3) := by decide +kernel
theorem dX7_about_93 : decode cX7_about 93 = .ok (.iconst 0, 1) := by decide +kernel
theorem dX7_about_94 : decode cX7_about 94 = .ok (.ireturn, 1) := by decide +kernel
theorem dX7_about_95 : decode cX7_about 95 = .ok (.aload_n 3, 1) := by decide +kernel
theorem dX7_about_96 : decode cX7_about 96 = .ok (.getfield 181, 3) := by decide +kernel
theorem dX7_about_99 : decode cX7_about 99 = .ok (.ireturn, 1) := by decide +kernel
theorem dX7_about_100 : decode cX7_about 100 = .ok (.aload_n 3, 1) := by decide +kernel
theorem dX7_about_101 : decode cX7_about 101 = .ok (.getfield 184, 3) := by decide +kernel
theorem dX7_about_104 : decode cX7_about 104 = .ok (.ireturn, 1) := by decide +kernel
theorem dX7_about_105 : decode cX7_about 105 = .ok (.aload_n 3, 1) := by decide +kernel
theorem dX7_about_106 : decode cX7_about 106 = .ok (.getfield 187, 3) := by decide +kernel
theorem dX7_about_109 : decode cX7_about 109 = .ok (.ireturn, 1) := by decide +kernel
theorem dX7_about_110 : decode cX7_about 110 = .ok (.aload_n 3, 1) := by decide +kernel
theorem dX7_about_111 : decode cX7_about 111 = .ok (.getfield 57, 3) := by decide +kernel
theorem dX7_about_114 : decode cX7_about 114 = .ok (.iload_n 2, 1) := by decide +kernel
theorem dX7_about_115 : decode cX7_about 115 = .ok (.invokestatic 143, 3) := by decide +kernel
theorem dX7_about_118 : decode cX7_about 118 = .ok (.ireturn, 1) := by decide +kernel
theorem dX7_anyStandsOn_0 : decode cX7_anyStandsOn 0 = .ok (.iconst 0, 1) := by decide +kernel
theorem dX7_anyStandsOn_1 : decode cX7_anyStandsOn 1 = .ok (.istore_n 2, 1) := by decide +kernel
theorem dX7_anyStandsOn_2 : decode cX7_anyStandsOn 2 = .ok (.iload_n 2, 1) := by decide +kernel
theorem dX7_anyStandsOn_3 : decode cX7_anyStandsOn 3 = .ok (.aload_n 0, 1) := by decide +kernel
theorem dX7_anyStandsOn_4 : decode cX7_anyStandsOn 4 = .ok (.getfield 53, 3) := by decide +kernel
theorem dX7_anyStandsOn_7 : decode cX7_anyStandsOn 7 = .ok (.if_icmp .ge 40, 3) := by decide +kernel
theorem dX7_anyStandsOn_10 : decode cX7_anyStandsOn 10 = .ok (.aload_n 0, 1) := by decide +kernel
theorem dX7_anyStandsOn_11 : decode cX7_anyStandsOn 11 = .ok (.getfield 34, 3) := by decide +kernel
theorem dX7_anyStandsOn_14 : decode cX7_anyStandsOn 14 = .ok (.iload_n 2, 1) := by decide +kernel
theorem dX7_anyStandsOn_15 : decode cX7_anyStandsOn 15 = .ok (.aaload, 1) := by decide +kernel
theorem dX7_anyStandsOn_16 : decode cX7_anyStandsOn 16 = .ok (.getfield 57, 3) := by decide +kernel
theorem dX7_anyStandsOn_19 : decode cX7_anyStandsOn 19 = .ok (.istore_n 3, 1) := by decide +kernel
theorem dX7_anyStandsOn_20 : decode cX7_anyStandsOn 20 = .ok (.aload_n 1, 1) := by decide +kernel
theorem dX7_anyStandsOn_21 : decode cX7_anyStandsOn 21 = .ok (.iload_n 3, 1) := by decide +kernel
theorem dX7_anyStandsOn_22 : decode cX7_anyStandsOn 22 = .ok (.invokestatic 67, 3) := by decide +kernel
theorem dX7_anyStandsOn_25 : decode cX7_anyStandsOn 25 = .ok (.iload_n 3, 1) := by decide +kernel
theorem dX7_anyStandsOn_26 : decode cX7_anyStandsOn 26 = .ok (.invokestatic 60, 3) := by decide +kernel
theorem dX7_anyStandsOn_29 : decode cX7_anyStandsOn 29 = .ok (.iload_n 3, 1) := by decide +kernel
theorem dX7_anyStandsOn_30 : decode cX7_anyStandsOn 30 = .ok (.invokestatic 64, 3) := by decide +kernel
theorem dX7_anyStandsOn_33 : decode cX7_anyStandsOn 33 = .ok (.invokevirtual 224, 3) := by decide +kernel
theorem dX7_anyStandsOn_36 : decode cX7_anyStandsOn 36 = .ok (.ifCond .eq 5, 3) := by decide +kernel
theorem dX7_anyStandsOn_39 : decode cX7_anyStandsOn 39 = .ok (.iconst 1, 1) := by decide +kernel
theorem dX7_anyStandsOn_40 : decode cX7_anyStandsOn 40 = .ok (.ireturn, 1) := by decide +kernel
theorem dX7_anyStandsOn_41 : decode cX7_anyStandsOn 41 = .ok (.iinc 2 1, 3) := by decide +kernel
theorem dX7_anyStandsOn_44 : decode cX7_anyStandsOn 44 = .ok (.goto (-42), 3) := by decide +kernel
theorem dX7_anyStandsOn_47 : decode cX7_anyStandsOn 47 = .ok (.iconst 0, 1) := by decide +kernel
theorem dX7_anyStandsOn_48 : decode cX7_anyStandsOn 48 = .ok (.ireturn, 1) := by decide +kernel
theorem dX7_avoidOthers_0 : decode cX7_avoidOthers 0 = .ok (.aload_n 0, 1) := by decide +kernel
theorem dX7_avoidOthers_1 : decode cX7_avoidOthers 1 = .ok (.getfield 21, 3) := by decide +kernel
theorem dX7_avoidOthers_4 : decode cX7_avoidOthers 4 = .ok (.invokevirtual 123, 3) := by decide +kernel
theorem dX7_avoidOthers_7 : decode cX7_avoidOthers 7 = .ok (.iconst 0, 1) := by decide +kernel
theorem dX7_avoidOthers_8 : decode cX7_avoidOthers 8 = .ok (.istore_n 2, 1) := by decide +kernel
theorem dX7_avoidOthers_9 : decode cX7_avoidOthers 9 = .ok (.iload_n 2, 1) := by decide +kernel
theorem dX7_avoidOthers_10 : decode cX7_avoidOthers 10 = .ok (.aload_n 0, 1) := by decide +kernel
theorem dX7_avoidOthers_11 : decode cX7_avoidOthers 11 = .ok (.getfield 53, 3) := by decide +kernel
theorem dX7_avoidOthers_14 : decode cX7_avoidOthers 14 = .ok (.if_icmp .ge 51, 3) := by decide +kernel
