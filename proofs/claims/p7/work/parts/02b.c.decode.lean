theorem dX7_avoidOthers_17 : decode cX7_avoidOthers 17 = .ok (.iload_n 2, 1) := by decide +kernel
theorem dX7_avoidOthers_18 : decode cX7_avoidOthers 18 = .ok (.iload_n 1, 1) := by decide +kernel
theorem dX7_avoidOthers_19 : decode cX7_avoidOthers 19 = .ok (.if_icmp .eq 40, 3) := by decide +kernel
theorem dX7_avoidOthers_22 : decode cX7_avoidOthers 22 = .ok (.aload_n 0, 1) := by decide +kernel
theorem dX7_avoidOthers_23 : decode cX7_avoidOthers 23 = .ok (.getfield 34, 3) := by decide +kernel
theorem dX7_avoidOthers_26 : decode cX7_avoidOthers 26 = .ok (.iload_n 2, 1) := by decide +kernel
theorem dX7_avoidOthers_27 : decode cX7_avoidOthers 27 = .ok (.aaload, 1) := by decide +kernel
theorem dX7_avoidOthers_28 : decode cX7_avoidOthers 28 = .ok (.getfield 57, 3) := by decide +kernel
theorem dX7_avoidOthers_31 : decode cX7_avoidOthers 31 = .ok (.aload_n 0, 1) := by decide +kernel
theorem dX7_avoidOthers_32 : decode cX7_avoidOthers 32 = .ok (.getfield 34, 3) := by decide +kernel
theorem dX7_avoidOthers_35 : decode cX7_avoidOthers 35 = .ok (.iload_n 1, 1) := by decide +kernel
theorem dX7_avoidOthers_36 : decode cX7_avoidOthers 36 = .ok (.aaload, 1) := by decide +kernel
theorem dX7_avoidOthers_37 : decode cX7_avoidOthers 37 = .ok (.invokevirtual 218, 3) := by decide +kernel
theorem dX7_avoidOthers_40 : decode cX7_avoidOthers 40 = .ok (.if_icmp .eq 19, 3) := by decide +kernel
theorem dX7_avoidOthers_43 : decode cX7_avoidOthers 43 = .ok (.aload_n 0, 1) := by decide +kernel
theorem dX7_avoidOthers_44 : decode cX7_avoidOthers 44 = .ok (.getfield 21, 3) := by decide +kernel
theorem dX7_avoidOthers_47 : decode cX7_avoidOthers 47 = .ok (.aload_n 0, 1) := by decide +kernel
theorem dX7_avoidOthers_48 : decode cX7_avoidOthers 48 = .ok (.getfield 34, 3) := by decide +kernel
theorem dX7_avoidOthers_51 : decode cX7_avoidOthers 51 = .ok (.iload_n 2, 1) := by decide +kernel
theorem dX7_avoidOthers_52 : decode cX7_avoidOthers 52 = .ok (.aaload, 1) := by decide +kernel
theorem dX7_avoidOthers_53 : decode cX7_avoidOthers 53 = .ok (.getfield 57, 3) := by decide +kernel
theorem dX7_avoidOthers_56 : decode cX7_avoidOthers 56 = .ok (.invokevirtual 221, 3) := by decide +kernel
theorem dX7_avoidOthers_59 : decode cX7_avoidOthers 59 = .ok (.iinc 2 1, 3) := by decide +kernel
theorem dX7_avoidOthers_62 : decode cX7_avoidOthers 62 = .ok (.goto (-53), 3) := by decide +kernel
theorem dX7_avoidOthers_65 : decode cX7_avoidOthers 65 = .ok (.return_, 1) := by decide +kernel
theorem dX7_bend_0 : decode cX7_bend 0 = .ok (.iload_n 1, 1) := by decide +kernel
theorem dX7_bend_1 : decode cX7_bend 1 = .ok (.ifCond .lt 12, 3) := by decide +kernel
theorem dX7_bend_4 : decode cX7_bend 4 = .ok (.iload_n 2, 1) := by decide +kernel
theorem dX7_bend_5 : decode cX7_bend 5 = .ok (.ifCond .lt 8, 3) := by decide +kernel
theorem dX7_bend_8 : decode cX7_bend 8 = .ok (.iload_n 2, 1) := by decide +kernel
theorem dX7_bend_9 : decode cX7_bend 9 = .ok (.iconst 2, 1) := by decide +kernel
theorem dX7_bend_10 : decode cX7_bend 10 = .ok (.if_icmp .le 6, 3) := by decide +kernel
theorem dX7_bend_13 : decode cX7_bend 13 = .ok (.bipush (-2), 2) := by decide +kernel
theorem dX7_bend_15 : decode cX7_bend 15 = .ok (.ireturn, 1) := by decide +kernel
theorem dX7_bend_16 : decode cX7_bend 16 = .ok (.iload_n 1, 1) := by decide +kernel
theorem dX7_bend_17 : decode cX7_bend 17 = .ok (.aload_n 0, 1) := by decide +kernel
theorem dX7_bend_18 : decode cX7_bend 18 = .ok (.getfield 28, 3) := by decide +kernel
theorem dX7_bend_21 : decode cX7_bend 21 = .ok (.getfield 138, 3) := by decide +kernel
theorem dX7_bend_24 : decode cX7_bend 24 = .ok (.if_icmp .lt 5, 3) := by decide +kernel
theorem dX7_bend_27 : decode cX7_bend 27 = .ok (.iconst (-1), 1) := by decide +kernel
theorem dX7_bend_28 : decode cX7_bend 28 = .ok (.ireturn, 1) := by decide +kernel
theorem dX7_bend_29 : decode cX7_bend 29 = .ok (.aload_n 0, 1) := by decide +kernel
theorem dX7_bend_30 : decode cX7_bend 30 = .ok (.getfield 28, 3) := by decide +kernel
theorem dX7_bend_33 : decode cX7_bend 33 = .ok (.getfield 139, 3) := by decide +kernel
theorem dX7_bend_36 : decode cX7_bend 36 = .ok (.iload_n 1, 1) := by decide +kernel
theorem dX7_bend_37 : decode cX7_bend 37 = .ok (.iaload, 1) := by decide +kernel
theorem dX7_bend_38 : decode cX7_bend 38 = .ok (.iload_n 2, 1) := by decide +kernel
theorem dX7_bend_39 : decode cX7_bend 39 = .ok (.invokestatic 143, 3) := by decide +kernel
theorem dX7_bend_42 : decode cX7_bend 42 = .ok (.ireturn, 1) := by decide +kernel
theorem dX7_box_0 : decode cX7_box 0 = .ok (.iload_n 1, 1) := by decide +kernel
theorem dX7_box_1 : decode cX7_box 1 = .ok (.iload_n 2, 1) := by decide +kernel
theorem dX7_box_2 : decode cX7_box 2 = .ok (.iload_n 3, 1) := by decide +kernel
theorem dX7_box_3 : decode cX7_box 3 = .ok (.iload 4, 2) := by decide +kernel
theorem dX7_box_5 : decode cX7_box 5 = .ok (.iload 5, 2) := by decide +kernel
theorem dX7_box_7 : decode cX7_box 7 = .ok (.invokestatic 39, 3) := by decide +kernel
theorem dX7_box_10 : decode cX7_box 10 = .ok (.ifCond .ne 6, 3) := by decide +kernel
theorem dX7_box_13 : decode cX7_box 13 = .ok (.bipush (-2), 2) := by decide +kernel
theorem dX7_box_15 : decode cX7_box 15 = .ok (.ireturn, 1) := by decide +kernel
theorem dX7_box_16 : decode cX7_box 16 = .ok (.iconst 0, 1) := by decide +kernel
theorem dX7_box_17 : decode cX7_box 17 = .ok (.istore 6, 2) := by decide +kernel
theorem dX7_box_19 : decode cX7_box 19 = .ok (.iload 6, 2) := by decide +kernel
theorem dX7_box_21 : decode cX7_box 21 = .ok (.aload_n 0, 1) := by decide +kernel
theorem dX7_box_22 : decode cX7_box 22 = .ok (.getfield 53, 3) := by decide +kernel
theorem dX7_box_25 : decode cX7_box 25 = .ok (.if_icmp .ge 83, 3) := by decide +kernel
theorem dX7_box_28 : decode cX7_box 28 = .ok (.aload_n 0, 1) := by decide +kernel
theorem dX7_box_29 : decode cX7_box 29 = .ok (.getfield 34, 3) := by decide +kernel
theorem dX7_box_32 : decode cX7_box 32 = .ok (.iload 6, 2) := by decide +kernel
theorem dX7_box_34 : decode cX7_box 34 = .ok (.aaload, 1) := by decide +kernel
theorem dX7_box_35 : decode cX7_box 35 = .ok (.getfield 57, 3) := by decide +kernel
theorem dX7_box_38 : decode cX7_box 38 = .ok (.istore 7, 2) := by decide +kernel
theorem dX7_box_40 : decode cX7_box 40 = .ok (.iload_n 2, 1) := by decide +kernel
theorem dX7_box_41 : decode cX7_box 41 = .ok (.iload 7, 2) := by decide +kernel
theorem dX7_box_43 : decode cX7_box 43 = .ok (.invokestatic 60, 3) := by decide +kernel
theorem dX7_box_46 : decode cX7_box 46 = .ok (.if_icmp .ge 36, 3) := by decide +kernel
theorem dX7_box_49 : decode cX7_box 49 = .ok (.iload 7, 2) := by decide +kernel
theorem dX7_box_51 : decode cX7_box 51 = .ok (.invokestatic 60, 3) := by decide +kernel
theorem dX7_box_54 : decode cX7_box 54 = .ok (.iload 4, 2) := by decide +kernel
theorem dX7_box_56 : decode cX7_box 56 = .ok (.if_icmp .ge 26, 3) := by decide +kernel
theorem dX7_box_59 : decode cX7_box 59 = .ok (.iload_n 3, 1) := by decide +kernel
theorem dX7_box_60 : decode cX7_box 60 = .ok (.iload 7, 2) := by decide +kernel
theorem dX7_box_62 : decode cX7_box 62 = .ok (.invokestatic 64, 3) := by decide +kernel
theorem dX7_box_65 : decode cX7_box 65 = .ok (.if_icmp .ge 17, 3) := by decide +kernel
theorem dX7_box_68 : decode cX7_box 68 = .ok (.iload 7, 2) := by decide +kernel
theorem dX7_box_70 : decode cX7_box 70 = .ok (.invokestatic 64, 3) := by decide +kernel
theorem dX7_box_73 : decode cX7_box 73 = .ok (.iload 5, 2) := by decide +kernel
theorem dX7_box_75 : decode cX7_box 75 = .ok (.if_icmp .ge 7, 3) := by decide +kernel
theorem dX7_box_78 : decode cX7_box 78 = .ok (.iconst 1, 1) := by decide +kernel
theorem dX7_box_79 : decode cX7_box 79 = .ok (.goto 4, 3) := by decide +kernel
theorem dX7_box_82 : decode cX7_box 82 = .ok (.iconst 0, 1) := by decide +kernel
theorem dX7_box_83 : decode cX7_box 83 = .ok (.istore 8, 2) := by decide +kernel
theorem dX7_box_85 : decode cX7_box 85 = .ok (.iload 8, 2) := by decide +kernel
theorem dX7_box_87 : decode cX7_box 87 = .ok (.ifCond .eq 15, 3) := by decide +kernel
theorem dX7_box_90 : decode cX7_box 90 = .ok (.iload 7, 2) := by decide +kernel
theorem dX7_box_92 : decode cX7_box 92 = .ok (.invokestatic 67, 3) := by decide +kernel
theorem dX7_box_95 : decode cX7_box 95 = .ok (.iload_n 1, 1) := by decide +kernel
theorem dX7_box_96 : decode cX7_box 96 = .ok (.if_icmp .ne 6, 3) := by decide +kernel
theorem dX7_box_99 : decode cX7_box 99 = .ok (.bipush (-3), 2) := by decide +kernel
theorem dX7_box_101 : decode cX7_box 101 = .ok (.ireturn, 1) := by decide +kernel
theorem dX7_box_102 : decode cX7_box 102 = .ok (.iinc 6 1, 3) := by decide +kernel
theorem dX7_box_105 : decode cX7_box 105 = .ok (.goto (-86), 3) := by decide +kernel
theorem dX7_box_108 : decode cX7_box 108 = .ok (.aload_n 0, 1) := by decide +kernel
theorem dX7_box_109 : decode cX7_box 109 = .ok (.getfield 12, 3) := by decide +kernel
theorem dX7_box_112 : decode cX7_box 112 = .ok (.getfield 70, 3) := by decide +kernel
theorem dX7_box_115 : decode cX7_box 115 = .ok (.iload_n 1, 1) := by decide +kernel
theorem dX7_box_116 : decode cX7_box 116 = .ok (.iload_n 2, 1) := by decide +kernel
theorem dX7_box_117 : decode cX7_box 117 = .ok (.iload_n 3, 1) := by decide +kernel
theorem dX7_box_118 : decode cX7_box 118 = .ok (.iload 4, 2) := by decide +kernel
theorem dX7_box_120 : decode cX7_box 120 = .ok (.iload 5, 2) := by decide +kernel
theorem dX7_box_122 : decode cX7_box 122 = .ok (.invokevirtual 73, 3) := by decide +kernel
theorem dX7_box_125 : decode cX7_box 125 = .ok (.ireturn, 1) := by decide +kernel
theorem dX7_coordinate_0 : decode cX7_coordinate 0 = .ok (.iload_n 1, 1) := by decide +kernel
theorem dX7_coordinate_1 : decode cX7_coordinate 1 = .ok (.ifCond .ne 8, 3) := by decide +kernel
theorem dX7_coordinate_4 : decode cX7_coordinate 4 = .ok (.iload_n 0, 1) := by decide +kernel
theorem dX7_coordinate_5 : decode cX7_coordinate 5 = .ok (.invokestatic 60, 3) := by decide +kernel
theorem dX7_coordinate_8 : decode cX7_coordinate 8 = .ok (.ireturn, 1) := by decide +kernel
theorem dX7_coordinate_9 : decode cX7_coordinate 9 = .ok (.iload_n 1, 1) := by decide +kernel
theorem dX7_coordinate_10 : decode cX7_coordinate 10 = .ok (.iconst 1, 1) := by decide +kernel
theorem dX7_coordinate_11 : decode cX7_coordinate 11 = .ok (.if_icmp .ne 10, 3) := by decide +kernel
theorem dX7_coordinate_14 : decode cX7_coordinate 14 = .ok (.iload_n 0, 1) := by decide +kernel
theorem dX7_coordinate_15 : decode cX7_coordinate 15 = .ok (.invokestatic 64, 3) := by decide +kernel
theorem dX7_coordinate_18 : decode cX7_coordinate 18 = .ok (.goto 7, 3) := by decide +kernel
theorem dX7_coordinate_21 : decode cX7_coordinate 21 = .ok (.iload_n 0, 1) := by decide +kernel
theorem dX7_coordinate_22 : decode cX7_coordinate 22 = .ok (.invokestatic 67, 3) := by decide +kernel
theorem dX7_coordinate_25 : decode cX7_coordinate 25 = .ok (.ireturn, 1) := by decide +kernel
theorem dX7_count_0 : decode cX7_count 0 = .ok (.iload_n 1, 1) := by decide +kernel
theorem dX7_count_1 : decode cX7_count 1 = .ok (.tableswitch 120 0 7 #[47, 58, 69, 80, 91, 102, 110, 115], 47) := by decide +kernel
theorem dX7_count_48 : decode cX7_count 48 = .ok (.aload_n 0, 1) := by decide +kernel
theorem dX7_count_49 : decode cX7_count 49 = .ok (.getfield 12, 3) := by decide +kernel
theorem dX7_count_52 : decode cX7_count 52 = .ok (.getfield 43, 3) := by decide +kernel
theorem dX7_count_55 : decode cX7_count 55 = .ok (.getfield 93, 3) := by decide +kernel
theorem dX7_count_58 : decode cX7_count 58 = .ok (.ireturn, 1) := by decide +kernel
theorem dX7_count_59 : decode cX7_count 59 = .ok (.aload_n 0, 1) := by decide +kernel
theorem dX7_count_60 : decode cX7_count 60 = .ok (.getfield 12, 3) := by decide +kernel
theorem dX7_count_63 : decode cX7_count 63 = .ok (.getfield 70, 3) := by decide +kernel
theorem dX7_count_66 : decode cX7_count 66 = .ok (.invokevirtual 190, 3) := by decide +kernel
theorem dX7_count_69 : decode cX7_count 69 = .ok (.ireturn, 1) := by decide +kernel
theorem dX7_count_70 : decode cX7_count 70 = .ok (.aload_n 0, 1) := by decide +kernel
theorem dX7_count_71 : decode cX7_count 71 = .ok (.getfield 12, 3) := by decide +kernel
theorem dX7_count_74 : decode cX7_count 74 = .ok (.getfield 90, 3) := by decide +kernel
theorem dX7_count_77 : decode cX7_count 77 = .ok (.getfield 93, 3) := by decide +kernel
theorem dX7_count_80 : decode cX7_count 80 = .ok (.ireturn, 1) := by decide +kernel
theorem dX7_count_81 : decode cX7_count 81 = .ok (.aload_n 0, 1) := by decide +kernel
theorem dX7_count_82 : decode cX7_count 82 = .ok (.getfield 12, 3) := by decide +kernel
theorem dX7_count_85 : decode cX7_count 85 = .ok (.getfield 90, 3) := by decide +kernel
theorem dX7_count_88 : decode cX7_count 88 = .ok (.invokevirtual 190, 3) := by decide +kernel
theorem dX7_count_91 : decode cX7_count 91 = .ok (.ireturn, 1) := by decide +kernel
theorem dX7_count_92 : decode cX7_count 92 = .ok (.aload_n 0, 1) := by decide +kernel
theorem dX7_count_93 : decode cX7_count 93 = .ok (.getfield 12, 3) := by decide +kernel
theorem dX7_count_96 : decode cX7_count 96 = .ok (.getfield 100, 3) := by decide +kernel
theorem dX7_count_99 : decode cX7_count 99 = .ok (.getfield 93, 3) := by decide +kernel
theorem dX7_count_102 : decode cX7_count 102 = .ok (.ireturn, 1) := by decide +kernel
theorem dX7_count_103 : decode cX7_count 103 = .ok (.aload_n 0, 1) := by decide +kernel
theorem dX7_count_104 : decode cX7_count 104 = .ok (.getfield 12, 3) := by decide +kernel
theorem dX7_count_107 : decode cX7_count 107 = .ok (.getfield 193, 3) := by decide +kernel
theorem dX7_count_110 : decode cX7_count 110 = .ok (.ireturn, 1) := by decide +kernel
theorem dX7_count_111 : decode cX7_count 111 = .ok (.aload_n 0, 1) := by decide +kernel
theorem dX7_count_112 : decode cX7_count 112 = .ok (.getfield 53, 3) := by decide +kernel
theorem dX7_count_115 : decode cX7_count 115 = .ok (.ireturn, 1) := by decide +kernel
theorem dX7_count_116 : decode cX7_count 116 = .ok (.aload_n 0, 1) := by decide +kernel
theorem dX7_count_117 : decode cX7_count 117 = .ok (.getfield 175, 3) := by decide +kernel
theorem dX7_count_120 : decode cX7_count 120 = .ok (.ireturn, 1) := by decide +kernel
theorem dX7_count_121 : decode cX7_count 121 = .ok (.bipush (-2), 2) := by decide +kernel
theorem dX7_count_123 : decode cX7_count 123 = .ok (.ireturn, 1) := by decide +kernel
theorem dX7_digest_0 : decode cX7_digest 0 = .ok (.ldc2_w 196, 3) := by decide +kernel
theorem dX7_digest_3 : decode cX7_digest 3 = .ok (.lstore_n 1, 1) := by decide +kernel
theorem dX7_digest_4 : decode cX7_digest 4 = .ok (.iconst 0, 1) := by decide +kernel
theorem dX7_digest_5 : decode cX7_digest 5 = .ok (.istore_n 3, 1) := by decide +kernel
theorem dX7_digest_6 : decode cX7_digest 6 = .ok (.iload_n 3, 1) := by decide +kernel
theorem dX7_digest_7 : decode cX7_digest 7 = .ok (.bipush 8, 2) := by decide +kernel
theorem dX7_digest_9 : decode cX7_digest 9 = .ok (.if_icmp .ge 22, 3) := by decide +kernel
theorem dX7_digest_12 : decode cX7_digest 12 = .ok (.ldc2_w 198, 3) := by decide +kernel
theorem dX7_digest_15 : decode cX7_digest 15 = .ok (.lload_n 1, 1) := by decide +kernel
theorem dX7_digest_16 : decode cX7_digest 16 = .ok (.lmul, 1) := by decide +kernel
theorem dX7_digest_17 : decode cX7_digest 17 = .ok (.aload_n 0, 1) := by decide +kernel
theorem dX7_digest_18 : decode cX7_digest 18 = .ok (.iload_n 3, 1) := by decide +kernel
theorem dX7_digest_19 : decode cX7_digest 19 = .ok (.invokevirtual 200, 3) := by decide +kernel
theorem dX7_digest_22 : decode cX7_digest 22 = .ok (.i2l, 1) := by decide +kernel
theorem dX7_digest_23 : decode cX7_digest 23 = .ok (.ladd, 1) := by decide +kernel
theorem dX7_digest_24 : decode cX7_digest 24 = .ok (.lstore_n 1, 1) := by decide +kernel
theorem dX7_digest_25 : decode cX7_digest 25 = .ok (.iinc 3 1, 3) := by decide +kernel
theorem dX7_digest_28 : decode cX7_digest 28 = .ok (.goto (-22), 3) := by decide +kernel
theorem dX7_digest_31 : decode cX7_digest 31 = .ok (.iconst 0, 1) := by decide +kernel
theorem dX7_digest_32 : decode cX7_digest 32 = .ok (.istore_n 3, 1) := by decide +kernel
theorem dX7_digest_33 : decode cX7_digest 33 = .ok (.iload_n 3, 1) := by decide +kernel
theorem dX7_digest_34 : decode cX7_digest 34 = .ok (.aload_n 0, 1) := by decide +kernel
theorem dX7_digest_35 : decode cX7_digest 35 = .ok (.getfield 53, 3) := by decide +kernel
theorem dX7_digest_38 : decode cX7_digest 38 = .ok (.if_icmp .ge 40, 3) := by decide +kernel
theorem dX7_digest_41 : decode cX7_digest 41 = .ok (.iconst 0, 1) := by decide +kernel
theorem dX7_digest_42 : decode cX7_digest 42 = .ok (.istore 4, 2) := by decide +kernel
theorem dX7_digest_44 : decode cX7_digest 44 = .ok (.iload 4, 2) := by decide +kernel
theorem dX7_digest_46 : decode cX7_digest 46 = .ok (.bipush 9, 2) := by decide +kernel
theorem dX7_digest_48 : decode cX7_digest 48 = .ok (.if_icmp .ge 24, 3) := by decide +kernel
theorem dX7_digest_51 : decode cX7_digest 51 = .ok (.ldc2_w 198, 3) := by decide +kernel
theorem dX7_digest_54 : decode cX7_digest 54 = .ok (.lload_n 1, 1) := by decide +kernel
theorem dX7_digest_55 : decode cX7_digest 55 = .ok (.lmul, 1) := by decide +kernel
theorem dX7_digest_56 : decode cX7_digest 56 = .ok (.aload_n 0, 1) := by decide +kernel
theorem dX7_digest_57 : decode cX7_digest 57 = .ok (.iload_n 3, 1) := by decide +kernel
theorem dX7_digest_58 : decode cX7_digest 58 = .ok (.iload 4, 2) := by decide +kernel
theorem dX7_digest_60 : decode cX7_digest 60 = .ok (.invokevirtual 203, 3) := by decide +kernel
theorem dX7_digest_63 : decode cX7_digest 63 = .ok (.i2l, 1) := by decide +kernel
theorem dX7_digest_64 : decode cX7_digest 64 = .ok (.ladd, 1) := by decide +kernel
theorem dX7_digest_65 : decode cX7_digest 65 = .ok (.lstore_n 1, 1) := by decide +kernel
theorem dX7_digest_66 : decode cX7_digest 66 = .ok (.iinc 4 1, 3) := by decide +kernel
theorem dX7_digest_69 : decode cX7_digest 69 = .ok (.goto (-25), 3) := by decide +kernel
theorem dX7_digest_72 : decode cX7_digest 72 = .ok (.iinc 3 1, 3) := by decide +kernel
theorem dX7_digest_75 : decode cX7_digest 75 = .ok (.goto (-42), 3) := by decide +kernel
theorem dX7_digest_78 : decode cX7_digest 78 = .ok (.lload_n 1, 1) := by decide +kernel
theorem dX7_digest_79 : decode cX7_digest 79 = .ok (.lreturn, 1) := by decide +kernel
theorem dX7_door_0 : decode cX7_door 0 = .ok (.iload_n 1, 1) := by decide +kernel
theorem dX7_door_1 : decode cX7_door 1 = .ok (.iload_n 2, 1) := by decide +kernel
theorem dX7_door_2 : decode cX7_door 2 = .ok (.iload_n 3, 1) := by decide +kernel
theorem dX7_door_3 : decode cX7_door 3 = .ok (.iload 4, 2) := by decide +kernel
theorem dX7_door_5 : decode cX7_door 5 = .ok (.iload 5, 2) := by decide +kernel
theorem dX7_door_7 : decode cX7_door 7 = .ok (.invokestatic 87, 3) := by decide +kernel
theorem dX7_door_10 : decode cX7_door 10 = .ok (.ifCond .ne 6, 3) := by decide +kernel
theorem dX7_door_13 : decode cX7_door 13 = .ok (.bipush (-2), 2) := by decide +kernel
theorem dX7_door_15 : decode cX7_door 15 = .ok (.ireturn, 1) := by decide +kernel
theorem dX7_door_16 : decode cX7_door 16 = .ok (.aload_n 0, 1) := by decide +kernel
theorem dX7_door_17 : decode cX7_door 17 = .ok (.getfield 12, 3) := by decide +kernel
theorem dX7_door_20 : decode cX7_door 20 = .ok (.getfield 90, 3) := by decide +kernel
theorem dX7_door_23 : decode cX7_door 23 = .ok (.iload_n 1, 1) := by decide +kernel
theorem dX7_door_24 : decode cX7_door 24 = .ok (.iload_n 2, 1) := by decide +kernel
theorem dX7_door_25 : decode cX7_door 25 = .ok (.iload_n 3, 1) := by decide +kernel
theorem dX7_door_26 : decode cX7_door 26 = .ok (.iload 4, 2) := by decide +kernel
theorem dX7_door_28 : decode cX7_door 28 = .ok (.iload 5, 2) := by decide +kernel
theorem dX7_door_30 : decode cX7_door 30 = .ok (.iconst 0, 1) := by decide +kernel
theorem dX7_door_31 : decode cX7_door 31 = .ok (.invokevirtual 47, 3) := by decide +kernel
theorem dX7_door_34 : decode cX7_door 34 = .ok (.ireturn, 1) := by decide +kernel
theorem dX7_go_0 : decode cX7_go 0 = .ok (.iload_n 1, 1) := by decide +kernel
theorem dX7_go_1 : decode cX7_go 1 = .ok (.ifCond .lt 21, 3) := by decide +kernel
theorem dX7_go_4 : decode cX7_go 4 = .ok (.iload_n 1, 1) := by decide +kernel
theorem dX7_go_5 : decode cX7_go 5 = .ok (.aload_n 0, 1) := by decide +kernel
theorem dX7_go_6 : decode cX7_go 6 = .ok (.getfield 53, 3) := by decide +kernel
theorem dX7_go_9 : decode cX7_go 9 = .ok (.if_icmp .ge 13, 3) := by decide +kernel
theorem dX7_go_12 : decode cX7_go 12 = .ok (.iload_n 2, 1) := by decide +kernel
theorem dX7_go_13 : decode cX7_go 13 = .ok (.iload_n 3, 1) := by decide +kernel
theorem dX7_go_14 : decode cX7_go 14 = .ok (.iload 4, 2) := by decide +kernel
theorem dX7_go_16 : decode cX7_go 16 = .ok (.invokestatic 103, 3) := by decide +kernel
theorem dX7_go_19 : decode cX7_go 19 = .ok (.ifCond .ne 6, 3) := by decide +kernel
theorem dX7_go_22 : decode cX7_go 22 = .ok (.bipush (-2), 2) := by decide +kernel
theorem dX7_go_24 : decode cX7_go 24 = .ok (.ireturn, 1) := by decide +kernel
theorem dX7_go_25 : decode cX7_go 25 = .ok (.iload_n 2, 1) := by decide +kernel
theorem dX7_go_26 : decode cX7_go 26 = .ok (.iload_n 3, 1) := by decide +kernel
theorem dX7_go_27 : decode cX7_go 27 = .ok (.iload 4, 2) := by decide +kernel
theorem dX7_go_29 : decode cX7_go 29 = .ok (.invokestatic 108, 3) := by decide +kernel
theorem dX7_go_32 : decode cX7_go 32 = .ok (.istore 5, 2) := by decide +kernel
theorem dX7_go_34 : decode cX7_go 34 = .ok (.aload_n 0, 1) := by decide +kernel
theorem dX7_go_35 : decode cX7_go 35 = .ok (.getfield 12, 3) := by decide +kernel
theorem dX7_go_38 : decode cX7_go 38 = .ok (.iload 5, 2) := by decide +kernel
theorem dX7_go_40 : decode cX7_go 40 = .ok (.invokevirtual 115, 3) := by decide +kernel
theorem dX7_go_43 : decode cX7_go 43 = .ok (.ifCond .ne 6, 3) := by decide +kernel
theorem dX7_go_46 : decode cX7_go 46 = .ok (.bipush (-3), 2) := by decide +kernel
theorem dX7_go_48 : decode cX7_go 48 = .ok (.ireturn, 1) := by decide +kernel
theorem dX7_go_49 : decode cX7_go 49 = .ok (.aload_n 0, 1) := by decide +kernel
theorem dX7_go_50 : decode cX7_go 50 = .ok (.getfield 34, 3) := by decide +kernel
theorem dX7_go_53 : decode cX7_go 53 = .ok (.iload_n 1, 1) := by decide +kernel
theorem dX7_go_54 : decode cX7_go 54 = .ok (.aaload, 1) := by decide +kernel
theorem dX7_go_55 : decode cX7_go 55 = .ok (.astore 6, 2) := by decide +kernel
theorem dX7_go_57 : decode cX7_go 57 = .ok (.aload 6, 2) := by decide +kernel
theorem dX7_go_59 : decode cX7_go 59 = .ok (.iconst 0, 1) := by decide +kernel
theorem dX7_go_60 : decode cX7_go 60 = .ok (.putfield 156, 3) := by decide +kernel
theorem dX7_go_63 : decode cX7_go 63 = .ok (.aload_n 0, 1) := by decide +kernel
theorem dX7_go_64 : decode cX7_go 64 = .ok (.getfield 21, 3) := by decide +kernel
theorem dX7_go_67 : decode cX7_go 67 = .ok (.invokevirtual 123, 3) := by decide +kernel
theorem dX7_go_70 : decode cX7_go 70 = .ok (.aload_n 0, 1) := by decide +kernel
theorem dX7_go_71 : decode cX7_go 71 = .ok (.getfield 21, 3) := by decide +kernel
theorem dX7_go_74 : decode cX7_go 74 = .ok (.aload 6, 2) := by decide +kernel
theorem dX7_go_76 : decode cX7_go 76 = .ok (.getfield 57, 3) := by decide +kernel
theorem dX7_go_79 : decode cX7_go 79 = .ok (.iload 5, 2) := by decide +kernel
theorem dX7_go_81 : decode cX7_go 81 = .ok (.iconst 0, 1) := by decide +kernel
theorem dX7_go_82 : decode cX7_go 82 = .ok (.invokevirtual 126, 3) := by decide +kernel
theorem dX7_go_85 : decode cX7_go 85 = .ok (.aload_n 0, 1) := by decide +kernel
theorem dX7_go_86 : decode cX7_go 86 = .ok (.getfield 21, 3) := by decide +kernel
theorem dX7_go_89 : decode cX7_go 89 = .ok (.invokevirtual 130, 3) := by decide +kernel
theorem dX7_go_92 : decode cX7_go 92 = .ok (.iconst (-1), 1) := by decide +kernel
theorem dX7_go_93 : decode cX7_go 93 = .ok (.if_icmp .ne 10, 3) := by decide +kernel
theorem dX7_go_96 : decode cX7_go 96 = .ok (.aload 6, 2) := by decide +kernel
theorem dX7_go_98 : decode cX7_go 98 = .ok (.invokevirtual 159, 3) := by decide +kernel
theorem dX7_go_101 : decode cX7_go 101 = .ok (.iconst (-1), 1) := by decide +kernel
theorem dX7_go_102 : decode cX7_go 102 = .ok (.ireturn, 1) := by decide +kernel
theorem dX7_go_103 : decode cX7_go 103 = .ok (.aload_n 0, 1) := by decide +kernel
theorem dX7_go_104 : decode cX7_go 104 = .ok (.getfield 21, 3) := by decide +kernel
theorem dX7_go_107 : decode cX7_go 107 = .ok (.aload 6, 2) := by decide +kernel
theorem dX7_go_109 : decode cX7_go 109 = .ok (.getfield 162, 3) := by decide +kernel
theorem dX7_go_112 : decode cX7_go 112 = .ok (.invokevirtual 134, 3) := by decide +kernel
theorem dX7_go_115 : decode cX7_go 115 = .ok (.aload 6, 2) := by decide +kernel
theorem dX7_go_117 : decode cX7_go 117 = .ok (.invokevirtual 165, 3) := by decide +kernel
theorem dX7_go_120 : decode cX7_go 120 = .ok (.aload 6, 2) := by decide +kernel
theorem dX7_go_122 : decode cX7_go 122 = .ok (.invokevirtual 168, 3) := by decide +kernel
theorem dX7_go_125 : decode cX7_go 125 = .ok (.ireturn, 1) := by decide +kernel
theorem dX7_init_0 : decode cX7_init 0 = .ok (.aload_n 0, 1) := by decide +kernel
theorem dX7_init_1 : decode cX7_init 1 = .ok (.invokespecial 3, 3) := by decide +kernel
theorem dX7_init_4 : decode cX7_init 4 = .ok (.new 9, 3) := by decide +kernel
theorem dX7_init_7 : decode cX7_init 7 = .ok (.dup, 1) := by decide +kernel
theorem dX7_init_8 : decode cX7_init 8 = .ok (.invokespecial 11, 3) := by decide +kernel
theorem dX7_init_11 : decode cX7_init 11 = .ok (.astore_n 1, 1) := by decide +kernel
theorem dX7_init_12 : decode cX7_init 12 = .ok (.aload_n 0, 1) := by decide +kernel
theorem dX7_init_13 : decode cX7_init 13 = .ok (.aload_n 1, 1) := by decide +kernel
theorem dX7_init_14 : decode cX7_init 14 = .ok (.putfield 12, 3) := by decide +kernel
theorem dX7_init_17 : decode cX7_init 17 = .ok (.aload_n 0, 1) := by decide +kernel
theorem dX7_init_18 : decode cX7_init 18 = .ok (.new 16, 3) := by decide +kernel
theorem dX7_init_21 : decode cX7_init 21 = .ok (.dup, 1) := by decide +kernel
theorem dX7_init_22 : decode cX7_init 22 = .ok (.aload_n 1, 1) := by decide +kernel
theorem dX7_init_23 : decode cX7_init 23 = .ok (.invokespecial 18, 3) := by decide +kernel
theorem dX7_init_26 : decode cX7_init 26 = .ok (.putfield 21, 3) := by decide +kernel
theorem dX7_init_29 : decode cX7_init 29 = .ok (.aload_n 0, 1) := by decide +kernel
theorem dX7_init_30 : decode cX7_init 30 = .ok (.new 25, 3) := by decide +kernel
theorem dX7_init_33 : decode cX7_init 33 = .ok (.dup, 1) := by decide +kernel
theorem dX7_init_34 : decode cX7_init 34 = .ok (.invokespecial 27, 3) := by decide +kernel
theorem dX7_init_37 : decode cX7_init 37 = .ok (.putfield 28, 3) := by decide +kernel
theorem dX7_init_40 : decode cX7_init 40 = .ok (.aload_n 0, 1) := by decide +kernel
theorem dX7_init_41 : decode cX7_init 41 = .ok (.bipush 6, 2) := by decide +kernel
theorem dX7_init_43 : decode cX7_init 43 = .ok (.anewarray 32, 3) := by decide +kernel
theorem dX7_init_46 : decode cX7_init 46 = .ok (.putfield 34, 3) := by decide +kernel
theorem dX7_init_49 : decode cX7_init 49 = .ok (.iconst 0, 1) := by decide +kernel
theorem dX7_init_50 : decode cX7_init 50 = .ok (.istore_n 2, 1) := by decide +kernel
theorem dX7_init_51 : decode cX7_init 51 = .ok (.iload_n 2, 1) := by decide +kernel
theorem dX7_init_52 : decode cX7_init 52 = .ok (.bipush 6, 2) := by decide +kernel
theorem dX7_init_54 : decode cX7_init 54 = .ok (.if_icmp .ge 22, 3) := by decide +kernel
theorem dX7_init_57 : decode cX7_init 57 = .ok (.aload_n 0, 1) := by decide +kernel
theorem dX7_init_58 : decode cX7_init 58 = .ok (.getfield 34, 3) := by decide +kernel
theorem dX7_init_61 : decode cX7_init 61 = .ok (.iload_n 2, 1) := by decide +kernel
theorem dX7_init_62 : decode cX7_init 62 = .ok (.new 32, 3) := by decide +kernel
theorem dX7_init_65 : decode cX7_init 65 = .ok (.dup, 1) := by decide +kernel
theorem dX7_init_66 : decode cX7_init 66 = .ok (.invokespecial 38, 3) := by decide +kernel
theorem dX7_init_69 : decode cX7_init 69 = .ok (.aastore, 1) := by decide +kernel
theorem dX7_init_70 : decode cX7_init 70 = .ok (.iinc 2 1, 3) := by decide +kernel
theorem dX7_init_73 : decode cX7_init 73 = .ok (.goto (-22), 3) := by decide +kernel
theorem dX7_init_76 : decode cX7_init 76 = .ok (.return_, 1) := by decide +kernel
theorem dX7_isPlace_0 : decode cX7_isPlace 0 = .ok (.iload_n 0, 1) := by decide +kernel
theorem dX7_isPlace_1 : decode cX7_isPlace 1 = .ok (.ifCond .lt 32, 3) := by decide +kernel
theorem dX7_isPlace_4 : decode cX7_isPlace 4 = .ok (.iload_n 0, 1) := by decide +kernel
theorem dX7_isPlace_5 : decode cX7_isPlace 5 = .ok (.iconst 3, 1) := by decide +kernel
theorem dX7_isPlace_6 : decode cX7_isPlace 6 = .ok (.if_icmp .ge 27, 3) := by decide +kernel
theorem dX7_isPlace_9 : decode cX7_isPlace 9 = .ok (.iload_n 1, 1) := by decide +kernel
theorem dX7_isPlace_10 : decode cX7_isPlace 10 = .ok (.ifCond .lt 23, 3) := by decide +kernel
theorem dX7_isPlace_13 : decode cX7_isPlace 13 = .ok (.iload_n 1, 1) := by decide +kernel
theorem dX7_isPlace_14 : decode cX7_isPlace 14 = .ok (.bipush 100, 2) := by decide +kernel
theorem dX7_isPlace_16 : decode cX7_isPlace 16 = .ok (.if_icmp .gt 17, 3) := by decide +kernel
theorem dX7_isPlace_19 : decode cX7_isPlace 19 = .ok (.iload_n 2, 1) := by decide +kernel
theorem dX7_isPlace_20 : decode cX7_isPlace 20 = .ok (.ifCond .lt 13, 3) := by decide +kernel
theorem dX7_isPlace_23 : decode cX7_isPlace 23 = .ok (.iload_n 2, 1) := by decide +kernel
theorem dX7_isPlace_24 : decode cX7_isPlace 24 = .ok (.bipush 100, 2) := by decide +kernel
theorem dX7_isPlace_26 : decode cX7_isPlace 26 = .ok (.if_icmp .gt 7, 3) := by decide +kernel
theorem dX7_isPlace_29 : decode cX7_isPlace 29 = .ok (.iconst 1, 1) := by decide +kernel
theorem dX7_isPlace_30 : decode cX7_isPlace 30 = .ok (.goto 4, 3) := by decide +kernel
theorem dX7_isPlace_33 : decode cX7_isPlace 33 = .ok (.iconst 0, 1) := by decide +kernel
theorem dX7_isPlace_34 : decode cX7_isPlace 34 = .ok (.ireturn, 1) := by decide +kernel
theorem dX7_isRectangle_0 : decode cX7_isRectangle 0 = .ok (.iload_n 0, 1) := by decide +kernel
theorem dX7_isRectangle_1 : decode cX7_isRectangle 1 = .ok (.iload_n 1, 1) := by decide +kernel
theorem dX7_isRectangle_2 : decode cX7_isRectangle 2 = .ok (.iload_n 2, 1) := by decide +kernel
theorem dX7_isRectangle_3 : decode cX7_isRectangle 3 = .ok (.invokestatic 103, 3) := by decide +kernel
theorem dX7_isRectangle_6 : decode cX7_isRectangle 6 = .ok (.ifCond .eq 28, 3) := by decide +kernel
theorem dX7_isRectangle_9 : decode cX7_isRectangle 9 = .ok (.iload_n 0, 1) := by decide +kernel
theorem dX7_isRectangle_10 : decode cX7_isRectangle 10 = .ok (.iload_n 3, 1) := by decide +kernel
theorem dX7_isRectangle_11 : decode cX7_isRectangle 11 = .ok (.iload 4, 2) := by decide +kernel
theorem dX7_isRectangle_13 : decode cX7_isRectangle 13 = .ok (.invokestatic 103, 3) := by decide +kernel
theorem dX7_isRectangle_16 : decode cX7_isRectangle 16 = .ok (.ifCond .eq 18, 3) := by decide +kernel
theorem dX7_isRectangle_19 : decode cX7_isRectangle 19 = .ok (.iload_n 1, 1) := by decide +kernel
theorem dX7_isRectangle_20 : decode cX7_isRectangle 20 = .ok (.iload_n 3, 1) := by decide +kernel
theorem dX7_isRectangle_21 : decode cX7_isRectangle 21 = .ok (.if_icmp .ge 13, 3) := by decide +kernel
theorem dX7_isRectangle_24 : decode cX7_isRectangle 24 = .ok (.iload_n 2, 1) := by decide +kernel
theorem dX7_isRectangle_25 : decode cX7_isRectangle 25 = .ok (.iload 4, 2) := by decide +kernel
theorem dX7_isRectangle_27 : decode cX7_isRectangle 27 = .ok (.if_icmp .ge 7, 3) := by decide +kernel
theorem dX7_isRectangle_30 : decode cX7_isRectangle 30 = .ok (.iconst 1, 1) := by decide +kernel
theorem dX7_isRectangle_31 : decode cX7_isRectangle 31 = .ok (.goto 4, 3) := by decide +kernel
theorem dX7_isRectangle_34 : decode cX7_isRectangle 34 = .ok (.iconst 0, 1) := by decide +kernel
theorem dX7_isRectangle_35 : decode cX7_isRectangle 35 = .ok (.ireturn, 1) := by decide +kernel
theorem dX7_isStraight_0 : decode cX7_isStraight 0 = .ok (.iload_n 0, 1) := by decide +kernel
theorem dX7_isStraight_1 : decode cX7_isStraight 1 = .ok (.iload_n 1, 1) := by decide +kernel
theorem dX7_isStraight_2 : decode cX7_isStraight 2 = .ok (.iload_n 2, 1) := by decide +kernel
theorem dX7_isStraight_3 : decode cX7_isStraight 3 = .ok (.invokestatic 103, 3) := by decide +kernel
theorem dX7_isStraight_6 : decode cX7_isStraight 6 = .ok (.ifCond .eq 41, 3) := by decide +kernel
theorem dX7_isStraight_9 : decode cX7_isStraight 9 = .ok (.iload_n 0, 1) := by decide +kernel
theorem dX7_isStraight_10 : decode cX7_isStraight 10 = .ok (.iload_n 3, 1) := by decide +kernel
theorem dX7_isStraight_11 : decode cX7_isStraight 11 = .ok (.iload 4, 2) := by decide +kernel
theorem dX7_isStraight_13 : decode cX7_isStraight 13 = .ok (.invokestatic 103, 3) := by decide +kernel
theorem dX7_isStraight_16 : decode cX7_isStraight 16 = .ok (.ifCond .eq 31, 3) := by decide +kernel
theorem dX7_isStraight_19 : decode cX7_isStraight 19 = .ok (.iload_n 1, 1) := by decide +kernel
theorem dX7_isStraight_20 : decode cX7_isStraight 20 = .ok (.iload_n 3, 1) := by decide +kernel
theorem dX7_isStraight_21 : decode cX7_isStraight 21 = .ok (.if_icmp .ne 7, 3) := by decide +kernel
theorem dX7_isStraight_24 : decode cX7_isStraight 24 = .ok (.iconst 1, 1) := by decide +kernel
theorem dX7_isStraight_25 : decode cX7_isStraight 25 = .ok (.goto 4, 3) := by decide +kernel
theorem dX7_isStraight_28 : decode cX7_isStraight 28 = .ok (.iconst 0, 1) := by decide +kernel
theorem dX7_isStraight_29 : decode cX7_isStraight 29 = .ok (.iload_n 2, 1) := by decide +kernel
theorem dX7_isStraight_30 : decode cX7_isStraight 30 = .ok (.iload 4, 2) := by decide +kernel
theorem dX7_isStraight_32 : decode cX7_isStraight 32 = .ok (.if_icmp .ne 7, 3) := by decide +kernel
theorem dX7_isStraight_35 : decode cX7_isStraight 35 = .ok (.iconst 1, 1) := by decide +kernel
theorem dX7_isStraight_36 : decode cX7_isStraight 36 = .ok (.goto 4, 3) := by decide +kernel
theorem dX7_isStraight_39 : decode cX7_isStraight 39 = .ok (.iconst 0, 1) := by decide +kernel
theorem dX7_isStraight_40 : decode cX7_isStraight 40 = .ok (.if_icmp .eq 7, 3) := by decide +kernel
theorem dX7_isStraight_43 : decode cX7_isStraight 43 = .ok (.iconst 1, 1) := by decide +kernel
theorem dX7_isStraight_44 : decode cX7_isStraight 44 = .ok (.goto 4, 3) := by decide +kernel
theorem dX7_isStraight_47 : decode cX7_isStraight 47 = .ok (.iconst 0, 1) := by decide +kernel
theorem dX7_isStraight_48 : decode cX7_isStraight 48 = .ok (.ireturn, 1) := by decide +kernel
theorem dX7_isTaken_0 : decode cX7_isTaken 0 = .ok (.iconst 0, 1) := by decide +kernel
theorem dX7_isTaken_1 : decode cX7_isTaken 1 = .ok (.istore_n 3, 1) := by decide +kernel
theorem dX7_isTaken_2 : decode cX7_isTaken 2 = .ok (.iload_n 3, 1) := by decide +kernel
theorem dX7_isTaken_3 : decode cX7_isTaken 3 = .ok (.aload_n 0, 1) := by decide +kernel
theorem dX7_isTaken_4 : decode cX7_isTaken 4 = .ok (.getfield 53, 3) := by decide +kernel
theorem dX7_isTaken_7 : decode cX7_isTaken 7 = .ok (.if_icmp .ge 29, 3) := by decide +kernel
theorem dX7_isTaken_10 : decode cX7_isTaken 10 = .ok (.iload_n 3, 1) := by decide +kernel
theorem dX7_isTaken_11 : decode cX7_isTaken 11 = .ok (.iload_n 2, 1) := by decide +kernel
theorem dX7_isTaken_12 : decode cX7_isTaken 12 = .ok (.if_icmp .eq 18, 3) := by decide +kernel
theorem dX7_isTaken_15 : decode cX7_isTaken 15 = .ok (.aload_n 0, 1) := by decide +kernel
theorem dX7_isTaken_16 : decode cX7_isTaken 16 = .ok (.getfield 34, 3) := by decide +kernel
theorem dX7_isTaken_19 : decode cX7_isTaken 19 = .ok (.iload_n 3, 1) := by decide +kernel
theorem dX7_isTaken_20 : decode cX7_isTaken 20 = .ok (.aaload, 1) := by decide +kernel
theorem dX7_isTaken_21 : decode cX7_isTaken 21 = .ok (.getfield 57, 3) := by decide +kernel
theorem dX7_isTaken_24 : decode cX7_isTaken 24 = .ok (.iload_n 1, 1) := by decide +kernel
theorem dX7_isTaken_25 : decode cX7_isTaken 25 = .ok (.if_icmp .ne 5, 3) := by decide +kernel
theorem dX7_isTaken_28 : decode cX7_isTaken 28 = .ok (.iconst 1, 1) := by decide +kernel
theorem dX7_isTaken_29 : decode cX7_isTaken 29 = .ok (.ireturn, 1) := by decide +kernel
theorem dX7_isTaken_30 : decode cX7_isTaken 30 = .ok (.iinc 3 1, 3) := by decide +kernel
theorem dX7_isTaken_33 : decode cX7_isTaken 33 = .ok (.goto (-31), 3) := by decide +kernel
theorem dX7_isTaken_36 : decode cX7_isTaken 36 = .ok (.iconst 0, 1) := by decide +kernel
theorem dX7_isTaken_37 : decode cX7_isTaken 37 = .ok (.ireturn, 1) := by decide +kernel
theorem dX7_ladder_0 : decode cX7_ladder 0 = .ok (.iload_n 1, 1) := by decide +kernel
theorem dX7_ladder_1 : decode cX7_ladder 1 = .ok (.iload_n 2, 1) := by decide +kernel
theorem dX7_ladder_2 : decode cX7_ladder 2 = .ok (.iload_n 3, 1) := by decide +kernel
theorem dX7_ladder_3 : decode cX7_ladder 3 = .ok (.invokestatic 103, 3) := by decide +kernel
theorem dX7_ladder_6 : decode cX7_ladder 6 = .ok (.ifCond .eq 21, 3) := by decide +kernel
theorem dX7_ladder_9 : decode cX7_ladder 9 = .ok (.iload 4, 2) := by decide +kernel
theorem dX7_ladder_11 : decode cX7_ladder 11 = .ok (.iload 5, 2) := by decide +kernel
theorem dX7_ladder_13 : decode cX7_ladder 13 = .ok (.iload 6, 2) := by decide +kernel
theorem dX7_ladder_15 : decode cX7_ladder 15 = .ok (.invokestatic 103, 3) := by decide +kernel
theorem dX7_ladder_18 : decode cX7_ladder 18 = .ok (.ifCond .eq 9, 3) := by decide +kernel
theorem dX7_ladder_21 : decode cX7_ladder 21 = .ok (.iload_n 1, 1) := by decide +kernel
theorem dX7_ladder_22 : decode cX7_ladder 22 = .ok (.iload 4, 2) := by decide +kernel
theorem dX7_ladder_24 : decode cX7_ladder 24 = .ok (.if_icmp .ne 6, 3) := by decide +kernel
theorem dX7_ladder_27 : decode cX7_ladder 27 = .ok (.bipush (-2), 2) := by decide +kernel
theorem dX7_ladder_29 : decode cX7_ladder 29 = .ok (.ireturn, 1) := by decide +kernel
theorem dX7_ladder_30 : decode cX7_ladder 30 = .ok (.iload 7, 2) := by decide +kernel
theorem dX7_ladder_32 : decode cX7_ladder 32 = .ok (.ifCond .lt 10, 3) := by decide +kernel
theorem dX7_ladder_35 : decode cX7_ladder 35 = .ok (.iload 7, 2) := by decide +kernel
theorem dX7_ladder_37 : decode cX7_ladder 37 = .ok (.ldc 107, 2) := by decide +kernel
theorem dX7_ladder_39 : decode cX7_ladder 39 = .ok (.if_icmp .le 6, 3) := by decide +kernel
theorem dX7_ladder_42 : decode cX7_ladder 42 = .ok (.bipush (-2), 2) := by decide +kernel
theorem dX7_ladder_44 : decode cX7_ladder 44 = .ok (.ireturn, 1) := by decide +kernel
theorem dX7_ladder_45 : decode cX7_ladder 45 = .ok (.aload_n 0, 1) := by decide +kernel
theorem dX7_ladder_46 : decode cX7_ladder 46 = .ok (.getfield 12, 3) := by decide +kernel
theorem dX7_ladder_49 : decode cX7_ladder 49 = .ok (.iload_n 1, 1) := by decide +kernel
theorem dX7_ladder_50 : decode cX7_ladder 50 = .ok (.iload_n 2, 1) := by decide +kernel
theorem dX7_ladder_51 : decode cX7_ladder 51 = .ok (.iload_n 3, 1) := by decide +kernel
theorem dX7_ladder_52 : decode cX7_ladder 52 = .ok (.invokestatic 108, 3) := by decide +kernel
theorem dX7_ladder_55 : decode cX7_ladder 55 = .ok (.iload 4, 2) := by decide +kernel
theorem dX7_ladder_57 : decode cX7_ladder 57 = .ok (.iload 5, 2) := by decide +kernel
theorem dX7_ladder_59 : decode cX7_ladder 59 = .ok (.iload 6, 2) := by decide +kernel
theorem dX7_ladder_61 : decode cX7_ladder 61 = .ok (.invokestatic 108, 3) := by decide +kernel
theorem dX7_ladder_64 : decode cX7_ladder 64 = .ok (.iload 7, 2) := by decide +kernel
theorem dX7_ladder_66 : decode cX7_ladder 66 = .ok (.invokevirtual 112, 3) := by decide +kernel
theorem dX7_ladder_69 : decode cX7_ladder 69 = .ok (.ireturn, 1) := by decide +kernel
theorem dX7_ledge_0 : decode cX7_ledge 0 = .ok (.iload_n 1, 1) := by decide +kernel
theorem dX7_ledge_1 : decode cX7_ledge 1 = .ok (.iload_n 2, 1) := by decide +kernel
theorem dX7_ledge_2 : decode cX7_ledge 2 = .ok (.iload_n 3, 1) := by decide +kernel
theorem dX7_ledge_3 : decode cX7_ledge 3 = .ok (.iload 4, 2) := by decide +kernel
theorem dX7_ledge_5 : decode cX7_ledge 5 = .ok (.iload 5, 2) := by decide +kernel
theorem dX7_ledge_7 : decode cX7_ledge 7 = .ok (.invokestatic 87, 3) := by decide +kernel
theorem dX7_ledge_10 : decode cX7_ledge 10 = .ok (.ifCond .ne 6, 3) := by decide +kernel
theorem dX7_ledge_13 : decode cX7_ledge 13 = .ok (.bipush (-2), 2) := by decide +kernel
theorem dX7_ledge_15 : decode cX7_ledge 15 = .ok (.ireturn, 1) := by decide +kernel
theorem dX7_ledge_16 : decode cX7_ledge 16 = .ok (.aload_n 0, 1) := by decide +kernel
theorem dX7_ledge_17 : decode cX7_ledge 17 = .ok (.getfield 12, 3) := by decide +kernel
theorem dX7_ledge_20 : decode cX7_ledge 20 = .ok (.getfield 100, 3) := by decide +kernel
theorem dX7_ledge_23 : decode cX7_ledge 23 = .ok (.iload_n 1, 1) := by decide +kernel
theorem dX7_ledge_24 : decode cX7_ledge 24 = .ok (.iload_n 2, 1) := by decide +kernel
theorem dX7_ledge_25 : decode cX7_ledge 25 = .ok (.iload_n 3, 1) := by decide +kernel
theorem dX7_ledge_26 : decode cX7_ledge 26 = .ok (.iload 4, 2) := by decide +kernel
theorem dX7_ledge_28 : decode cX7_ledge 28 = .ok (.iload 5, 2) := by decide +kernel
theorem dX7_ledge_30 : decode cX7_ledge 30 = .ok (.iload 6, 2) := by decide +kernel
theorem dX7_ledge_32 : decode cX7_ledge 32 = .ok (.invokevirtual 47, 3) := by decide +kernel
theorem dX7_ledge_35 : decode cX7_ledge 35 = .ok (.ireturn, 1) := by decide +kernel
theorem dX7_levelOf_0 : decode cX7_levelOf 0 = .ok (.iload_n 0, 1) := by decide +kernel
theorem dX7_levelOf_1 : decode cX7_levelOf 1 = .ok (.bipush 14, 2) := by decide +kernel
theorem dX7_levelOf_3 : decode cX7_levelOf 3 = .ok (.ishr, 1) := by decide +kernel
theorem dX7_levelOf_4 : decode cX7_levelOf 4 = .ok (.ireturn, 1) := by decide +kernel
theorem dX7_may_0 : decode cX7_may 0 = .ok (.iload_n 1, 1) := by decide +kernel
theorem dX7_may_1 : decode cX7_may 1 = .ok (.iload_n 2, 1) := by decide +kernel
theorem dX7_may_2 : decode cX7_may 2 = .ok (.iload_n 3, 1) := by decide +kernel
theorem dX7_may_3 : decode cX7_may 3 = .ok (.invokestatic 103, 3) := by decide +kernel
theorem dX7_may_6 : decode cX7_may 6 = .ok (.ifCond .ne 6, 3) := by decide +kernel
theorem dX7_may_9 : decode cX7_may 9 = .ok (.bipush (-2), 2) := by decide +kernel
theorem dX7_may_11 : decode cX7_may 11 = .ok (.ireturn, 1) := by decide +kernel
theorem dX7_may_12 : decode cX7_may 12 = .ok (.aload_n 0, 1) := by decide +kernel
theorem dX7_may_13 : decode cX7_may 13 = .ok (.getfield 12, 3) := by decide +kernel
theorem dX7_may_16 : decode cX7_may 16 = .ok (.iload_n 1, 1) := by decide +kernel
theorem dX7_may_17 : decode cX7_may 17 = .ok (.iload_n 2, 1) := by decide +kernel
theorem dX7_may_18 : decode cX7_may 18 = .ok (.iload_n 3, 1) := by decide +kernel
theorem dX7_may_19 : decode cX7_may 19 = .ok (.invokestatic 108, 3) := by decide +kernel
theorem dX7_may_22 : decode cX7_may 22 = .ok (.invokevirtual 115, 3) := by decide +kernel
theorem dX7_may_25 : decode cX7_may 25 = .ok (.ifCond .eq 7, 3) := by decide +kernel
theorem dX7_may_28 : decode cX7_may 28 = .ok (.iconst 1, 1) := by decide +kernel
theorem dX7_may_29 : decode cX7_may 29 = .ok (.goto 4, 3) := by decide +kernel
theorem dX7_may_32 : decode cX7_may 32 = .ok (.iconst 0, 1) := by decide +kernel
theorem dX7_may_33 : decode cX7_may 33 = .ok (.ireturn, 1) := by decide +kernel
theorem dX7_placeAt_0 : decode cX7_placeAt 0 = .ok (.iload_n 0, 1) := by decide +kernel
theorem dX7_placeAt_1 : decode cX7_placeAt 1 = .ok (.bipush 14, 2) := by decide +kernel
theorem dX7_placeAt_3 : decode cX7_placeAt 3 = .ok (.ishl, 1) := by decide +kernel
theorem dX7_placeAt_4 : decode cX7_placeAt 4 = .ok (.iload_n 2, 1) := by decide +kernel
theorem dX7_placeAt_5 : decode cX7_placeAt 5 = .ok (.bipush 7, 2) := by decide +kernel
theorem dX7_placeAt_7 : decode cX7_placeAt 7 = .ok (.ishl, 1) := by decide +kernel
theorem dX7_placeAt_8 : decode cX7_placeAt 8 = .ok (.ior, 1) := by decide +kernel
theorem dX7_placeAt_9 : decode cX7_placeAt 9 = .ok (.iload_n 1, 1) := by decide +kernel
theorem dX7_placeAt_10 : decode cX7_placeAt 10 = .ok (.ior, 1) := by decide +kernel
theorem dX7_placeAt_11 : decode cX7_placeAt 11 = .ok (.ireturn, 1) := by decide +kernel
theorem dX7_reach_0 : decode cX7_reach 0 = .ok (.iload_n 1, 1) := by decide +kernel
theorem dX7_reach_1 : decode cX7_reach 1 = .ok (.iload_n 2, 1) := by decide +kernel
theorem dX7_reach_2 : decode cX7_reach 2 = .ok (.iload_n 3, 1) := by decide +kernel
theorem dX7_reach_3 : decode cX7_reach 3 = .ok (.invokestatic 103, 3) := by decide +kernel
theorem dX7_reach_6 : decode cX7_reach 6 = .ok (.ifCond .ne 6, 3) := by decide +kernel
theorem dX7_reach_9 : decode cX7_reach 9 = .ok (.bipush (-2), 2) := by decide +kernel
theorem dX7_reach_11 : decode cX7_reach 11 = .ok (.ireturn, 1) := by decide +kernel
theorem dX7_reach_12 : decode cX7_reach 12 = .ok (.iload_n 1, 1) := by decide +kernel
theorem dX7_reach_13 : decode cX7_reach 13 = .ok (.iload_n 2, 1) := by decide +kernel
theorem dX7_reach_14 : decode cX7_reach 14 = .ok (.iload_n 3, 1) := by decide +kernel
theorem dX7_reach_15 : decode cX7_reach 15 = .ok (.invokestatic 108, 3) := by decide +kernel
theorem dX7_reach_18 : decode cX7_reach 18 = .ok (.istore 4, 2) := by decide +kernel
theorem dX7_reach_20 : decode cX7_reach 20 = .ok (.aload_n 0, 1) := by decide +kernel
theorem dX7_reach_21 : decode cX7_reach 21 = .ok (.getfield 12, 3) := by decide +kernel
theorem dX7_reach_24 : decode cX7_reach 24 = .ok (.iload 4, 2) := by decide +kernel
theorem dX7_reach_26 : decode cX7_reach 26 = .ok (.invokevirtual 115, 3) := by decide +kernel
theorem dX7_reach_29 : decode cX7_reach 29 = .ok (.ifCond .ne 6, 3) := by decide +kernel
theorem dX7_reach_32 : decode cX7_reach 32 = .ok (.bipush (-3), 2) := by decide +kernel
theorem dX7_reach_34 : decode cX7_reach 34 = .ok (.ireturn, 1) := by decide +kernel
theorem dX7_reach_35 : decode cX7_reach 35 = .ok (.aload_n 0, 1) := by decide +kernel
theorem dX7_reach_36 : decode cX7_reach 36 = .ok (.getfield 21, 3) := by decide +kernel
theorem dX7_reach_39 : decode cX7_reach 39 = .ok (.invokevirtual 123, 3) := by decide +kernel
theorem dX7_reach_42 : decode cX7_reach 42 = .ok (.aload_n 0, 1) := by decide +kernel
theorem dX7_reach_43 : decode cX7_reach 43 = .ok (.getfield 21, 3) := by decide +kernel
theorem dX7_reach_46 : decode cX7_reach 46 = .ok (.iload 4, 2) := by decide +kernel
theorem dX7_reach_48 : decode cX7_reach 48 = .ok (.iload 4, 2) := by decide +kernel
theorem dX7_reach_50 : decode cX7_reach 50 = .ok (.iconst 1, 1) := by decide +kernel
theorem dX7_reach_51 : decode cX7_reach 51 = .ok (.invokevirtual 126, 3) := by decide +kernel
theorem dX7_reach_54 : decode cX7_reach 54 = .ok (.aload_n 0, 1) := by decide +kernel
theorem dX7_reach_55 : decode cX7_reach 55 = .ok (.getfield 21, 3) := by decide +kernel
theorem dX7_reach_58 : decode cX7_reach 58 = .ok (.invokevirtual 146, 3) := by decide +kernel
theorem dX7_reach_61 : decode cX7_reach 61 = .ok (.ireturn, 1) := by decide +kernel
theorem dX7_room_0 : decode cX7_room 0 = .ok (.iload_n 1, 1) := by decide +kernel
theorem dX7_room_1 : decode cX7_room 1 = .ok (.iload_n 2, 1) := by decide +kernel
theorem dX7_room_2 : decode cX7_room 2 = .ok (.iload_n 3, 1) := by decide +kernel
theorem dX7_room_3 : decode cX7_room 3 = .ok (.iload 4, 2) := by decide +kernel
theorem dX7_room_5 : decode cX7_room 5 = .ok (.iload 5, 2) := by decide +kernel
theorem dX7_room_7 : decode cX7_room 7 = .ok (.invokestatic 39, 3) := by decide +kernel
theorem dX7_room_10 : decode cX7_room 10 = .ok (.ifCond .ne 6, 3) := by decide +kernel
theorem dX7_room_13 : decode cX7_room 13 = .ok (.bipush (-2), 2) := by decide +kernel
theorem dX7_room_15 : decode cX7_room 15 = .ok (.ireturn, 1) := by decide +kernel
theorem dX7_room_16 : decode cX7_room 16 = .ok (.aload_n 0, 1) := by decide +kernel
theorem dX7_room_17 : decode cX7_room 17 = .ok (.getfield 12, 3) := by decide +kernel
theorem dX7_room_20 : decode cX7_room 20 = .ok (.getfield 43, 3) := by decide +kernel
theorem dX7_room_23 : decode cX7_room 23 = .ok (.iload_n 1, 1) := by decide +kernel
theorem dX7_room_24 : decode cX7_room 24 = .ok (.iload_n 2, 1) := by decide +kernel
theorem dX7_room_25 : decode cX7_room 25 = .ok (.iload_n 3, 1) := by decide +kernel
theorem dX7_room_26 : decode cX7_room 26 = .ok (.iload 4, 2) := by decide +kernel
theorem dX7_room_28 : decode cX7_room 28 = .ok (.iload 5, 2) := by decide +kernel
theorem dX7_room_30 : decode cX7_room 30 = .ok (.iconst 1, 1) := by decide +kernel
theorem dX7_room_31 : decode cX7_room 31 = .ok (.invokevirtual 47, 3) := by decide +kernel
theorem dX7_room_34 : decode cX7_room 34 = .ok (.ireturn, 1) := by decide +kernel
theorem dX7_rootOf_0 : decode cX7_rootOf 0 = .ok (.iconst 0, 1) := by decide +kernel
theorem dX7_rootOf_1 : decode cX7_rootOf 1 = .ok (.istore_n 2, 1) := by decide +kernel
theorem dX7_rootOf_2 : decode cX7_rootOf 2 = .ok (.bipush 17, 2) := by decide +kernel
theorem dX7_rootOf_4 : decode cX7_rootOf 4 = .ok (.istore_n 3, 1) := by decide +kernel
theorem dX7_rootOf_5 : decode cX7_rootOf 5 = .ok (.iload_n 3, 1) := by decide +kernel
theorem dX7_rootOf_6 : decode cX7_rootOf 6 = .ok (.ifCond .lt 31, 3) := by decide +kernel
theorem dX7_rootOf_9 : decode cX7_rootOf 9 = .ok (.iload_n 2, 1) := by decide +kernel
theorem dX7_rootOf_10 : decode cX7_rootOf 10 = .ok (.iconst 1, 1) := by decide +kernel
theorem dX7_rootOf_11 : decode cX7_rootOf 11 = .ok (.iload_n 3, 1) := by decide +kernel
theorem dX7_rootOf_12 : decode cX7_rootOf 12 = .ok (.ishl, 1) := by decide +kernel
theorem dX7_rootOf_13 : decode cX7_rootOf 13 = .ok (.iadd, 1) := by decide +kernel
theorem dX7_rootOf_14 : decode cX7_rootOf 14 = .ok (.i2l, 1) := by decide +kernel
theorem dX7_rootOf_15 : decode cX7_rootOf 15 = .ok (.lstore 4, 2) := by decide +kernel
theorem dX7_rootOf_17 : decode cX7_rootOf 17 = .ok (.lload 4, 2) := by decide +kernel
theorem dX7_rootOf_19 : decode cX7_rootOf 19 = .ok (.lload 4, 2) := by decide +kernel
theorem dX7_rootOf_21 : decode cX7_rootOf 21 = .ok (.lmul, 1) := by decide +kernel
theorem dX7_rootOf_22 : decode cX7_rootOf 22 = .ok (.lload_n 0, 1) := by decide +kernel
theorem dX7_rootOf_23 : decode cX7_rootOf 23 = .ok (.lcmp, 1) := by decide +kernel
theorem dX7_rootOf_24 : decode cX7_rootOf 24 = .ok (.ifCond .gt 7, 3) := by decide +kernel
theorem dX7_rootOf_27 : decode cX7_rootOf 27 = .ok (.lload 4, 2) := by decide +kernel
theorem dX7_rootOf_29 : decode cX7_rootOf 29 = .ok (.l2i, 1) := by decide +kernel
theorem dX7_rootOf_30 : decode cX7_rootOf 30 = .ok (.istore_n 2, 1) := by decide +kernel
theorem dX7_rootOf_31 : decode cX7_rootOf 31 = .ok (.iinc 3 (-1), 3) := by decide +kernel
theorem dX7_rootOf_34 : decode cX7_rootOf 34 = .ok (.goto (-29), 3) := by decide +kernel
theorem dX7_rootOf_37 : decode cX7_rootOf 37 = .ok (.iload_n 2, 1) := by decide +kernel
theorem dX7_rootOf_38 : decode cX7_rootOf 38 = .ok (.ireturn, 1) := by decide +kernel
theorem dX7_see_0 : decode cX7_see 0 = .ok (.iload_n 1, 1) := by decide +kernel
theorem dX7_see_1 : decode cX7_see 1 = .ok (.iload_n 2, 1) := by decide +kernel
theorem dX7_see_2 : decode cX7_see 2 = .ok (.iload_n 3, 1) := by decide +kernel
theorem dX7_see_3 : decode cX7_see 3 = .ok (.invokestatic 103, 3) := by decide +kernel
theorem dX7_see_6 : decode cX7_see 6 = .ok (.ifCond .eq 14, 3) := by decide +kernel
theorem dX7_see_9 : decode cX7_see 9 = .ok (.iload_n 1, 1) := by decide +kernel
theorem dX7_see_10 : decode cX7_see 10 = .ok (.iload 4, 2) := by decide +kernel
theorem dX7_see_12 : decode cX7_see 12 = .ok (.iload 5, 2) := by decide +kernel
theorem dX7_see_14 : decode cX7_see 14 = .ok (.invokestatic 103, 3) := by decide +kernel
theorem dX7_see_17 : decode cX7_see 17 = .ok (.ifCond .ne 6, 3) := by decide +kernel
theorem dX7_see_20 : decode cX7_see 20 = .ok (.bipush (-2), 2) := by decide +kernel
theorem dX7_see_22 : decode cX7_see 22 = .ok (.ireturn, 1) := by decide +kernel
theorem dX7_see_23 : decode cX7_see 23 = .ok (.aload_n 0, 1) := by decide +kernel
theorem dX7_see_24 : decode cX7_see 24 = .ok (.getfield 12, 3) := by decide +kernel
theorem dX7_see_27 : decode cX7_see 27 = .ok (.iload_n 1, 1) := by decide +kernel
theorem dX7_see_28 : decode cX7_see 28 = .ok (.iload_n 2, 1) := by decide +kernel
theorem dX7_see_29 : decode cX7_see 29 = .ok (.iload_n 3, 1) := by decide +kernel
theorem dX7_see_30 : decode cX7_see 30 = .ok (.invokestatic 108, 3) := by decide +kernel
theorem dX7_see_33 : decode cX7_see 33 = .ok (.iload_n 1, 1) := by decide +kernel
theorem dX7_see_34 : decode cX7_see 34 = .ok (.iload 4, 2) := by decide +kernel
theorem dX7_see_36 : decode cX7_see 36 = .ok (.iload 5, 2) := by decide +kernel
theorem dX7_see_38 : decode cX7_see 38 = .ok (.invokestatic 108, 3) := by decide +kernel
theorem dX7_see_41 : decode cX7_see 41 = .ok (.invokevirtual 119, 3) := by decide +kernel
theorem dX7_see_44 : decode cX7_see 44 = .ok (.ireturn, 1) := by decide +kernel
theorem dX7_shut_0 : decode cX7_shut 0 = .ok (.iload_n 1, 1) := by decide +kernel
theorem dX7_shut_1 : decode cX7_shut 1 = .ok (.ifCond .lt 17, 3) := by decide +kernel
theorem dX7_shut_4 : decode cX7_shut 4 = .ok (.iload_n 1, 1) := by decide +kernel
theorem dX7_shut_5 : decode cX7_shut 5 = .ok (.aload_n 0, 1) := by decide +kernel
theorem dX7_shut_6 : decode cX7_shut 6 = .ok (.getfield 12, 3) := by decide +kernel
theorem dX7_shut_9 : decode cX7_shut 9 = .ok (.getfield 90, 3) := by decide +kernel
theorem dX7_shut_12 : decode cX7_shut 12 = .ok (.getfield 93, 3) := by decide +kernel
theorem dX7_shut_15 : decode cX7_shut 15 = .ok (.if_icmp .lt 6, 3) := by decide +kernel
theorem dX7_shut_18 : decode cX7_shut 18 = .ok (.bipush (-2), 2) := by decide +kernel
theorem dX7_shut_20 : decode cX7_shut 20 = .ok (.ireturn, 1) := by decide +kernel
theorem dX7_shut_21 : decode cX7_shut 21 = .ok (.aload_n 0, 1) := by decide +kernel
theorem dX7_shut_22 : decode cX7_shut 22 = .ok (.getfield 12, 3) := by decide +kernel
theorem dX7_shut_25 : decode cX7_shut 25 = .ok (.getfield 90, 3) := by decide +kernel
theorem dX7_shut_28 : decode cX7_shut 28 = .ok (.getfield 77, 3) := by decide +kernel
theorem dX7_shut_31 : decode cX7_shut 31 = .ok (.iload_n 1, 1) := by decide +kernel
theorem dX7_shut_32 : decode cX7_shut 32 = .ok (.aaload, 1) := by decide +kernel
theorem dX7_shut_33 : decode cX7_shut 33 = .ok (.astore_n 3, 1) := by decide +kernel
theorem dX7_shut_34 : decode cX7_shut 34 = .ok (.aload_n 3, 1) := by decide +kernel
theorem dX7_shut_35 : decode cX7_shut 35 = .ok (.getfield 81, 3) := by decide +kernel
theorem dX7_shut_38 : decode cX7_shut 38 = .ok (.iload_n 2, 1) := by decide +kernel
theorem dX7_shut_39 : decode cX7_shut 39 = .ok (.if_icmp .eq 15, 3) := by decide +kernel
theorem dX7_shut_42 : decode cX7_shut 42 = .ok (.iload_n 2, 1) := by decide +kernel
theorem dX7_shut_43 : decode cX7_shut 43 = .ok (.ifCond .eq 14, 3) := by decide +kernel
theorem dX7_shut_46 : decode cX7_shut 46 = .ok (.aload_n 0, 1) := by decide +kernel
theorem dX7_shut_47 : decode cX7_shut 47 = .ok (.aload_n 3, 1) := by decide +kernel
theorem dX7_shut_48 : decode cX7_shut 48 = .ok (.invokevirtual 96, 3) := by decide +kernel
theorem dX7_shut_51 : decode cX7_shut 51 = .ok (.ifCond .eq 6, 3) := by decide +kernel
theorem dX7_shut_54 : decode cX7_shut 54 = .ok (.bipush (-3), 2) := by decide +kernel
theorem dX7_shut_56 : decode cX7_shut 56 = .ok (.ireturn, 1) := by decide +kernel
theorem dX7_shut_57 : decode cX7_shut 57 = .ok (.aload_n 3, 1) := by decide +kernel
theorem dX7_shut_58 : decode cX7_shut 58 = .ok (.iload_n 2, 1) := by decide +kernel
theorem dX7_shut_59 : decode cX7_shut 59 = .ok (.putfield 81, 3) := by decide +kernel
theorem dX7_shut_62 : decode cX7_shut 62 = .ok (.iconst 1, 1) := by decide +kernel
theorem dX7_shut_63 : decode cX7_shut 63 = .ok (.ireturn, 1) := by decide +kernel
theorem dX7_take_0 : decode cX7_take 0 = .ok (.iload_n 1, 1) := by decide +kernel
theorem dX7_take_1 : decode cX7_take 1 = .ok (.ifCond .lt 9, 3) := by decide +kernel
theorem dX7_take_4 : decode cX7_take 4 = .ok (.iload_n 1, 1) := by decide +kernel
theorem dX7_take_5 : decode cX7_take 5 = .ok (.bipush 8, 2) := by decide +kernel
theorem dX7_take_7 : decode cX7_take 7 = .ok (.if_icmp .lt 6, 3) := by decide +kernel
theorem dX7_take_10 : decode cX7_take 10 = .ok (.bipush (-2), 2) := by decide +kernel
theorem dX7_take_12 : decode cX7_take 12 = .ok (.ireturn, 1) := by decide +kernel
theorem dX7_take_13 : decode cX7_take 13 = .ok (.aload_n 0, 1) := by decide +kernel
theorem dX7_take_14 : decode cX7_take 14 = .ok (.getfield 12, 3) := by decide +kernel
theorem dX7_take_17 : decode cX7_take 17 = .ok (.getfield 70, 3) := by decide +kernel
theorem dX7_take_20 : decode cX7_take 20 = .ok (.getfield 77, 3) := by decide +kernel
theorem dX7_take_23 : decode cX7_take 23 = .ok (.iload_n 1, 1) := by decide +kernel
theorem dX7_take_24 : decode cX7_take 24 = .ok (.aaload, 1) := by decide +kernel
theorem dX7_take_25 : decode cX7_take 25 = .ok (.astore_n 2, 1) := by decide +kernel
theorem dX7_take_26 : decode cX7_take 26 = .ok (.aload_n 2, 1) := by decide +kernel
theorem dX7_take_27 : decode cX7_take 27 = .ok (.getfield 81, 3) := by decide +kernel
theorem dX7_take_30 : decode cX7_take 30 = .ok (.ifCond .ne 6, 3) := by decide +kernel
theorem dX7_take_33 : decode cX7_take 33 = .ok (.bipush (-3), 2) := by decide +kernel
theorem dX7_take_35 : decode cX7_take 35 = .ok (.ireturn, 1) := by decide +kernel
theorem dX7_take_36 : decode cX7_take 36 = .ok (.aload_n 2, 1) := by decide +kernel
theorem dX7_take_37 : decode cX7_take 37 = .ok (.iconst 0, 1) := by decide +kernel
theorem dX7_take_38 : decode cX7_take 38 = .ok (.putfield 81, 3) := by decide +kernel
theorem dX7_take_41 : decode cX7_take 41 = .ok (.iconst 1, 1) := by decide +kernel
theorem dX7_take_42 : decode cX7_take 42 = .ok (.ireturn, 1) := by decide +kernel
theorem dX7_takeTurn_0 : decode cX7_takeTurn 0 = .ok (.aload_n 0, 1) := by decide +kernel
theorem dX7_takeTurn_1 : decode cX7_takeTurn 1 = .ok (.getfield 34, 3) := by decide +kernel
theorem dX7_takeTurn_4 : decode cX7_takeTurn 4 = .ok (.iload_n 1, 1) := by decide +kernel
theorem dX7_takeTurn_5 : decode cX7_takeTurn 5 = .ok (.aaload, 1) := by decide +kernel
theorem dX7_takeTurn_6 : decode cX7_takeTurn 6 = .ok (.astore_n 2, 1) := by decide +kernel
theorem dX7_takeTurn_7 : decode cX7_takeTurn 7 = .ok (.aload_n 2, 1) := by decide +kernel
theorem dX7_takeTurn_8 : decode cX7_takeTurn 8 = .ok (.invokevirtual 168, 3) := by decide +kernel
theorem dX7_takeTurn_11 : decode cX7_takeTurn 11 = .ok (.ifCond .ne 4, 3) := by decide +kernel
theorem dX7_takeTurn_14 : decode cX7_takeTurn 14 = .ok (.return_, 1) := by decide +kernel
theorem dX7_takeTurn_15 : decode cX7_takeTurn 15 = .ok (.aload_n 2, 1) := by decide +kernel
theorem dX7_takeTurn_16 : decode cX7_takeTurn 16 = .ok (.invokevirtual 206, 3) := by decide +kernel
theorem dX7_takeTurn_19 : decode cX7_takeTurn 19 = .ok (.istore_n 3, 1) := by decide +kernel
theorem dX7_takeTurn_20 : decode cX7_takeTurn 20 = .ok (.aload_n 0, 1) := by decide +kernel
theorem dX7_takeTurn_21 : decode cX7_takeTurn 21 = .ok (.getfield 12, 3) := by decide +kernel
theorem dX7_takeTurn_24 : decode cX7_takeTurn 24 = .ok (.aload_n 2, 1) := by decide +kernel
theorem dX7_takeTurn_25 : decode cX7_takeTurn 25 = .ok (.getfield 57, 3) := by decide +kernel
theorem dX7_takeTurn_28 : decode cX7_takeTurn 28 = .ok (.iload_n 3, 1) := by decide +kernel
theorem dX7_takeTurn_29 : decode cX7_takeTurn 29 = .ok (.invokevirtual 119, 3) := by decide +kernel
theorem dX7_takeTurn_32 : decode cX7_takeTurn 32 = .ok (.iconst 1, 1) := by decide +kernel
theorem dX7_takeTurn_33 : decode cX7_takeTurn 33 = .ok (.if_icmp .ne 29, 3) := by decide +kernel
theorem dX7_takeTurn_36 : decode cX7_takeTurn 36 = .ok (.aload_n 0, 1) := by decide +kernel
theorem dX7_takeTurn_37 : decode cX7_takeTurn 37 = .ok (.iload_n 3, 1) := by decide +kernel
theorem dX7_takeTurn_38 : decode cX7_takeTurn 38 = .ok (.iload_n 1, 1) := by decide +kernel
theorem dX7_takeTurn_39 : decode cX7_takeTurn 39 = .ok (.invokevirtual 152, 3) := by decide +kernel
theorem dX7_takeTurn_42 : decode cX7_takeTurn 42 = .ok (.ifCond .ne 20, 3) := by decide +kernel
theorem dX7_takeTurn_45 : decode cX7_takeTurn 45 = .ok (.aload_n 2, 1) := by decide +kernel
theorem dX7_takeTurn_46 : decode cX7_takeTurn 46 = .ok (.aload_n 0, 1) := by decide +kernel
theorem dX7_takeTurn_47 : decode cX7_takeTurn 47 = .ok (.getfield 12, 3) := by decide +kernel
theorem dX7_takeTurn_50 : decode cX7_takeTurn 50 = .ok (.aload_n 2, 1) := by decide +kernel
theorem dX7_takeTurn_51 : decode cX7_takeTurn 51 = .ok (.getfield 57, 3) := by decide +kernel
theorem dX7_takeTurn_54 : decode cX7_takeTurn 54 = .ok (.iload_n 3, 1) := by decide +kernel
theorem dX7_takeTurn_55 : decode cX7_takeTurn 55 = .ok (.invokevirtual 209, 3) := by decide +kernel
theorem dX7_takeTurn_58 : decode cX7_takeTurn 58 = .ok (.invokevirtual 212, 3) := by decide +kernel
theorem dX7_takeTurn_61 : decode cX7_takeTurn 61 = .ok (.return_, 1) := by decide +kernel
theorem dX7_takeTurn_62 : decode cX7_takeTurn 62 = .ok (.aload_n 2, 1) := by decide +kernel
theorem dX7_takeTurn_63 : decode cX7_takeTurn 63 = .ok (.dup, 1) := by decide +kernel
theorem dX7_takeTurn_64 : decode cX7_takeTurn 64 = .ok (.getfield 178, 3) := by decide +kernel
theorem dX7_takeTurn_67 : decode cX7_takeTurn 67 = .ok (.iconst 1, 1) := by decide +kernel
theorem dX7_takeTurn_68 : decode cX7_takeTurn 68 = .ok (.iadd, 1) := by decide +kernel
theorem dX7_takeTurn_69 : decode cX7_takeTurn 69 = .ok (.putfield 178, 3) := by decide +kernel
theorem dX7_takeTurn_72 : decode cX7_takeTurn 72 = .ok (.aload_n 2, 1) := by decide +kernel
theorem dX7_takeTurn_73 : decode cX7_takeTurn 73 = .ok (.getfield 178, 3) := by decide +kernel
theorem dX7_takeTurn_76 : decode cX7_takeTurn 76 = .ok (.iconst 3, 1) := by decide +kernel
theorem dX7_takeTurn_77 : decode cX7_takeTurn 77 = .ok (.if_icmp .ge 4, 3) := by decide +kernel
theorem dX7_takeTurn_80 : decode cX7_takeTurn 80 = .ok (.return_, 1) := by decide +kernel
theorem dX7_takeTurn_81 : decode cX7_takeTurn 81 = .ok (.aload_n 2, 1) := by decide +kernel
theorem dX7_takeTurn_82 : decode cX7_takeTurn 82 = .ok (.iconst 0, 1) := by decide +kernel
theorem dX7_takeTurn_83 : decode cX7_takeTurn 83 = .ok (.putfield 178, 3) := by decide +kernel
theorem dX7_takeTurn_86 : decode cX7_takeTurn 86 = .ok (.aload_n 2, 1) := by decide +kernel
theorem dX7_takeTurn_87 : decode cX7_takeTurn 87 = .ok (.dup, 1) := by decide +kernel
theorem dX7_takeTurn_88 : decode cX7_takeTurn 88 = .ok (.getfield 187, 3) := by decide +kernel
theorem dX7_takeTurn_91 : decode cX7_takeTurn 91 = .ok (.iconst 1, 1) := by decide +kernel
theorem dX7_takeTurn_92 : decode cX7_takeTurn 92 = .ok (.iadd, 1) := by decide +kernel
theorem dX7_takeTurn_93 : decode cX7_takeTurn 93 = .ok (.putfield 187, 3) := by decide +kernel
theorem dX7_takeTurn_96 : decode cX7_takeTurn 96 = .ok (.aload_n 0, 1) := by decide +kernel
theorem dX7_takeTurn_97 : decode cX7_takeTurn 97 = .ok (.iload_n 1, 1) := by decide +kernel
theorem dX7_takeTurn_98 : decode cX7_takeTurn 98 = .ok (.invokevirtual 215, 3) := by decide +kernel
theorem dX7_takeTurn_101 : decode cX7_takeTurn 101 = .ok (.aload_n 0, 1) := by decide +kernel
theorem dX7_takeTurn_102 : decode cX7_takeTurn 102 = .ok (.getfield 21, 3) := by decide +kernel
theorem dX7_takeTurn_105 : decode cX7_takeTurn 105 = .ok (.aload_n 2, 1) := by decide +kernel
theorem dX7_takeTurn_106 : decode cX7_takeTurn 106 = .ok (.getfield 57, 3) := by decide +kernel
theorem dX7_takeTurn_109 : decode cX7_takeTurn 109 = .ok (.aload_n 2, 1) := by decide +kernel
theorem dX7_takeTurn_110 : decode cX7_takeTurn 110 = .ok (.invokevirtual 218, 3) := by decide +kernel
theorem dX7_takeTurn_113 : decode cX7_takeTurn 113 = .ok (.iconst 0, 1) := by decide +kernel
theorem dX7_takeTurn_114 : decode cX7_takeTurn 114 = .ok (.invokevirtual 126, 3) := by decide +kernel
theorem dX7_takeTurn_117 : decode cX7_takeTurn 117 = .ok (.aload_n 0, 1) := by decide +kernel
theorem dX7_takeTurn_118 : decode cX7_takeTurn 118 = .ok (.getfield 21, 3) := by decide +kernel
theorem dX7_takeTurn_121 : decode cX7_takeTurn 121 = .ok (.invokevirtual 130, 3) := by decide +kernel
theorem dX7_takeTurn_124 : decode cX7_takeTurn 124 = .ok (.iconst (-1), 1) := by decide +kernel
theorem dX7_takeTurn_125 : decode cX7_takeTurn 125 = .ok (.if_icmp .ne 15, 3) := by decide +kernel
theorem dX7_takeTurn_128 : decode cX7_takeTurn 128 = .ok (.aload_n 2, 1) := by decide +kernel
theorem dX7_takeTurn_129 : decode cX7_takeTurn 129 = .ok (.invokevirtual 159, 3) := by decide +kernel
theorem dX7_takeTurn_132 : decode cX7_takeTurn 132 = .ok (.aload_n 2, 1) := by decide +kernel
theorem dX7_takeTurn_133 : decode cX7_takeTurn 133 = .ok (.iconst 1, 1) := by decide +kernel
theorem dX7_takeTurn_134 : decode cX7_takeTurn 134 = .ok (.putfield 156, 3) := by decide +kernel
theorem dX7_takeTurn_137 : decode cX7_takeTurn 137 = .ok (.goto 18, 3) := by decide +kernel
theorem dX7_takeTurn_140 : decode cX7_takeTurn 140 = .ok (.aload_n 0, 1) := by decide +kernel
theorem dX7_takeTurn_141 : decode cX7_takeTurn 141 = .ok (.getfield 21, 3) := by decide +kernel
theorem dX7_takeTurn_144 : decode cX7_takeTurn 144 = .ok (.aload_n 2, 1) := by decide +kernel
theorem dX7_takeTurn_145 : decode cX7_takeTurn 145 = .ok (.getfield 162, 3) := by decide +kernel
theorem dX7_takeTurn_148 : decode cX7_takeTurn 148 = .ok (.invokevirtual 134, 3) := by decide +kernel
theorem dX7_takeTurn_151 : decode cX7_takeTurn 151 = .ok (.aload_n 2, 1) := by decide +kernel
theorem dX7_takeTurn_152 : decode cX7_takeTurn 152 = .ok (.invokevirtual 165, 3) := by decide +kernel
theorem dX7_takeTurn_155 : decode cX7_takeTurn 155 = .ok (.return_, 1) := by decide +kernel
theorem dX7_tick_0 : decode cX7_tick 0 = .ok (.iload_n 1, 1) := by decide +kernel
theorem dX7_tick_1 : decode cX7_tick 1 = .ok (.iconst 1, 1) := by decide +kernel
theorem dX7_tick_2 : decode cX7_tick 2 = .ok (.if_icmp .lt 9, 3) := by decide +kernel
theorem dX7_tick_5 : decode cX7_tick 5 = .ok (.iload_n 1, 1) := by decide +kernel
theorem dX7_tick_6 : decode cX7_tick 6 = .ok (.bipush 10, 2) := by decide +kernel
theorem dX7_tick_8 : decode cX7_tick 8 = .ok (.if_icmp .le 6, 3) := by decide +kernel
theorem dX7_tick_11 : decode cX7_tick 11 = .ok (.bipush (-2), 2) := by decide +kernel
theorem dX7_tick_13 : decode cX7_tick 13 = .ok (.ireturn, 1) := by decide +kernel
theorem dX7_tick_14 : decode cX7_tick 14 = .ok (.iconst 0, 1) := by decide +kernel
theorem dX7_tick_15 : decode cX7_tick 15 = .ok (.istore_n 2, 1) := by decide +kernel
theorem dX7_tick_16 : decode cX7_tick 16 = .ok (.iload_n 2, 1) := by decide +kernel
theorem dX7_tick_17 : decode cX7_tick 17 = .ok (.iload_n 1, 1) := by decide +kernel
theorem dX7_tick_18 : decode cX7_tick 18 = .ok (.if_icmp .ge 30, 3) := by decide +kernel
theorem dX7_tick_21 : decode cX7_tick 21 = .ok (.iconst 0, 1) := by decide +kernel
theorem dX7_tick_22 : decode cX7_tick 22 = .ok (.istore_n 3, 1) := by decide +kernel
theorem dX7_tick_23 : decode cX7_tick 23 = .ok (.iload_n 3, 1) := by decide +kernel
theorem dX7_tick_24 : decode cX7_tick 24 = .ok (.aload_n 0, 1) := by decide +kernel
theorem dX7_tick_25 : decode cX7_tick 25 = .ok (.getfield 53, 3) := by decide +kernel
theorem dX7_tick_28 : decode cX7_tick 28 = .ok (.if_icmp .ge 14, 3) := by decide +kernel
theorem dX7_tick_31 : decode cX7_tick 31 = .ok (.aload_n 0, 1) := by decide +kernel
theorem dX7_tick_32 : decode cX7_tick 32 = .ok (.iload_n 3, 1) := by decide +kernel
theorem dX7_tick_33 : decode cX7_tick 33 = .ok (.invokevirtual 171, 3) := by decide +kernel
theorem dX7_tick_36 : decode cX7_tick 36 = .ok (.iinc 3 1, 3) := by decide +kernel
theorem dX7_tick_39 : decode cX7_tick 39 = .ok (.goto (-16), 3) := by decide +kernel
theorem dX7_tick_42 : decode cX7_tick 42 = .ok (.iinc 2 1, 3) := by decide +kernel
theorem dX7_tick_45 : decode cX7_tick 45 = .ok (.goto (-29), 3) := by decide +kernel
theorem dX7_tick_48 : decode cX7_tick 48 = .ok (.aload_n 0, 1) := by decide +kernel
theorem dX7_tick_49 : decode cX7_tick 49 = .ok (.dup, 1) := by decide +kernel
theorem dX7_tick_50 : decode cX7_tick 50 = .ok (.getfield 175, 3) := by decide +kernel
theorem dX7_tick_53 : decode cX7_tick 53 = .ok (.iload_n 1, 1) := by decide +kernel
theorem dX7_tick_54 : decode cX7_tick 54 = .ok (.iadd, 1) := by decide +kernel
theorem dX7_tick_55 : decode cX7_tick 55 = .ok (.putfield 175, 3) := by decide +kernel
theorem dX7_tick_58 : decode cX7_tick 58 = .ok (.iconst 0, 1) := by decide +kernel
theorem dX7_tick_59 : decode cX7_tick 59 = .ok (.istore_n 2, 1) := by decide +kernel
theorem dX7_tick_60 : decode cX7_tick 60 = .ok (.iconst 0, 1) := by decide +kernel
theorem dX7_tick_61 : decode cX7_tick 61 = .ok (.istore_n 3, 1) := by decide +kernel
theorem dX7_tick_62 : decode cX7_tick 62 = .ok (.iload_n 3, 1) := by decide +kernel
theorem dX7_tick_63 : decode cX7_tick 63 = .ok (.aload_n 0, 1) := by decide +kernel
theorem dX7_tick_64 : decode cX7_tick 64 = .ok (.getfield 53, 3) := by decide +kernel
theorem dX7_tick_67 : decode cX7_tick 67 = .ok (.if_icmp .ge 24, 3) := by decide +kernel
theorem dX7_tick_70 : decode cX7_tick 70 = .ok (.aload_n 0, 1) := by decide +kernel
theorem dX7_tick_71 : decode cX7_tick 71 = .ok (.getfield 34, 3) := by decide +kernel
theorem dX7_tick_74 : decode cX7_tick 74 = .ok (.iload_n 3, 1) := by decide +kernel
theorem dX7_tick_75 : decode cX7_tick 75 = .ok (.aaload, 1) := by decide +kernel
theorem dX7_tick_76 : decode cX7_tick 76 = .ok (.invokevirtual 168, 3) := by decide +kernel
theorem dX7_tick_79 : decode cX7_tick 79 = .ok (.ifCond .le 6, 3) := by decide +kernel
theorem dX7_tick_82 : decode cX7_tick 82 = .ok (.iinc 2 1, 3) := by decide +kernel
theorem dX7_tick_85 : decode cX7_tick 85 = .ok (.iinc 3 1, 3) := by decide +kernel
theorem dX7_tick_88 : decode cX7_tick 88 = .ok (.goto (-26), 3) := by decide +kernel
theorem dX7_tick_91 : decode cX7_tick 91 = .ok (.iload_n 2, 1) := by decide +kernel
theorem dX7_tick_92 : decode cX7_tick 92 = .ok (.ireturn, 1) := by decide +kernel
