theorem dX7_walker_0 : decode cX7_walker 0 = .ok (.iload_n 1, 1) := by decide +kernel
theorem dX7_walker_1 : decode cX7_walker 1 = .ok (.iload_n 2, 1) := by decide +kernel
theorem dX7_walker_2 : decode cX7_walker 2 = .ok (.iload_n 3, 1) := by decide +kernel
theorem dX7_walker_3 : decode cX7_walker 3 = .ok (.invokestatic 103, 3) := by decide +kernel
theorem dX7_walker_6 : decode cX7_walker 6 = .ok (.ifCond .ne 6, 3) := by decide +kernel
theorem dX7_walker_9 : decode cX7_walker 9 = .ok (.bipush (-2), 2) := by decide +kernel
theorem dX7_walker_11 : decode cX7_walker 11 = .ok (.ireturn, 1) := by decide +kernel
theorem dX7_walker_12 : decode cX7_walker 12 = .ok (.iload_n 1, 1) := by decide +kernel
theorem dX7_walker_13 : decode cX7_walker 13 = .ok (.iload_n 2, 1) := by decide +kernel
theorem dX7_walker_14 : decode cX7_walker 14 = .ok (.iload_n 3, 1) := by decide +kernel
theorem dX7_walker_15 : decode cX7_walker 15 = .ok (.invokestatic 108, 3) := by decide +kernel
theorem dX7_walker_18 : decode cX7_walker 18 = .ok (.istore 4, 2) := by decide +kernel
theorem dX7_walker_20 : decode cX7_walker 20 = .ok (.aload_n 0, 1) := by decide +kernel
theorem dX7_walker_21 : decode cX7_walker 21 = .ok (.getfield 12, 3) := by decide +kernel
theorem dX7_walker_24 : decode cX7_walker 24 = .ok (.iload 4, 2) := by decide +kernel
theorem dX7_walker_26 : decode cX7_walker 26 = .ok (.invokevirtual 115, 3) := by decide +kernel
theorem dX7_walker_29 : decode cX7_walker 29 = .ok (.ifCond .eq 25, 3) := by decide +kernel
theorem dX7_walker_32 : decode cX7_walker 32 = .ok (.aload_n 0, 1) := by decide +kernel
theorem dX7_walker_33 : decode cX7_walker 33 = .ok (.getfield 12, 3) := by decide +kernel
theorem dX7_walker_36 : decode cX7_walker 36 = .ok (.iload 4, 2) := by decide +kernel
theorem dX7_walker_38 : decode cX7_walker 38 = .ok (.invokevirtual 149, 3) := by decide +kernel
theorem dX7_walker_41 : decode cX7_walker 41 = .ok (.ifCond .ne 13, 3) := by decide +kernel
theorem dX7_walker_44 : decode cX7_walker 44 = .ok (.aload_n 0, 1) := by decide +kernel
theorem dX7_walker_45 : decode cX7_walker 45 = .ok (.iload 4, 2) := by decide +kernel
theorem dX7_walker_47 : decode cX7_walker 47 = .ok (.iconst (-1), 1) := by decide +kernel
theorem dX7_walker_48 : decode cX7_walker 48 = .ok (.invokevirtual 152, 3) := by decide +kernel
theorem dX7_walker_51 : decode cX7_walker 51 = .ok (.ifCond .eq 6, 3) := by decide +kernel
theorem dX7_walker_54 : decode cX7_walker 54 = .ok (.bipush (-3), 2) := by decide +kernel
theorem dX7_walker_56 : decode cX7_walker 56 = .ok (.ireturn, 1) := by decide +kernel
theorem dX7_walker_57 : decode cX7_walker 57 = .ok (.aload_n 0, 1) := by decide +kernel
theorem dX7_walker_58 : decode cX7_walker 58 = .ok (.getfield 53, 3) := by decide +kernel
theorem dX7_walker_61 : decode cX7_walker 61 = .ok (.bipush 6, 2) := by decide +kernel
theorem dX7_walker_63 : decode cX7_walker 63 = .ok (.if_icmp .lt 6, 3) := by decide +kernel
theorem dX7_walker_66 : decode cX7_walker 66 = .ok (.bipush (-4), 2) := by decide +kernel
theorem dX7_walker_68 : decode cX7_walker 68 = .ok (.ireturn, 1) := by decide +kernel
theorem dX7_walker_69 : decode cX7_walker 69 = .ok (.aload_n 0, 1) := by decide +kernel
theorem dX7_walker_70 : decode cX7_walker 70 = .ok (.getfield 34, 3) := by decide +kernel
theorem dX7_walker_73 : decode cX7_walker 73 = .ok (.aload_n 0, 1) := by decide +kernel
theorem dX7_walker_74 : decode cX7_walker 74 = .ok (.getfield 53, 3) := by decide +kernel
theorem dX7_walker_77 : decode cX7_walker 77 = .ok (.aaload, 1) := by decide +kernel
theorem dX7_walker_78 : decode cX7_walker 78 = .ok (.iload 4, 2) := by decide +kernel
theorem dX7_walker_80 : decode cX7_walker 80 = .ok (.putfield 57, 3) := by decide +kernel
theorem dX7_walker_83 : decode cX7_walker 83 = .ok (.aload_n 0, 1) := by decide +kernel
theorem dX7_walker_84 : decode cX7_walker 84 = .ok (.dup, 1) := by decide +kernel
theorem dX7_walker_85 : decode cX7_walker 85 = .ok (.getfield 53, 3) := by decide +kernel
theorem dX7_walker_88 : decode cX7_walker 88 = .ok (.iconst 1, 1) := by decide +kernel
theorem dX7_walker_89 : decode cX7_walker 89 = .ok (.iadd, 1) := by decide +kernel
theorem dX7_walker_90 : decode cX7_walker 90 = .ok (.putfield 53, 3) := by decide +kernel
theorem dX7_walker_93 : decode cX7_walker 93 = .ok (.aload_n 0, 1) := by decide +kernel
theorem dX7_walker_94 : decode cX7_walker 94 = .ok (.getfield 53, 3) := by decide +kernel
theorem dX7_walker_97 : decode cX7_walker 97 = .ok (.iconst 1, 1) := by decide +kernel
theorem dX7_walker_98 : decode cX7_walker 98 = .ok (.isub, 1) := by decide +kernel
theorem dX7_walker_99 : decode cX7_walker 99 = .ok (.ireturn, 1) := by decide +kernel
theorem dX7_way_0 : decode cX7_way 0 = .ok (.iload_n 1, 1) := by decide +kernel
theorem dX7_way_1 : decode cX7_way 1 = .ok (.iload_n 2, 1) := by decide +kernel
theorem dX7_way_2 : decode cX7_way 2 = .ok (.iload_n 3, 1) := by decide +kernel
theorem dX7_way_3 : decode cX7_way 3 = .ok (.invokestatic 103, 3) := by decide +kernel
theorem dX7_way_6 : decode cX7_way 6 = .ok (.ifCond .eq 15, 3) := by decide +kernel
theorem dX7_way_9 : decode cX7_way 9 = .ok (.iload 4, 2) := by decide +kernel
theorem dX7_way_11 : decode cX7_way 11 = .ok (.iload 5, 2) := by decide +kernel
theorem dX7_way_13 : decode cX7_way 13 = .ok (.iload 6, 2) := by decide +kernel
theorem dX7_way_15 : decode cX7_way 15 = .ok (.invokestatic 103, 3) := by decide +kernel
theorem dX7_way_18 : decode cX7_way 18 = .ok (.ifCond .ne 6, 3) := by decide +kernel
theorem dX7_way_21 : decode cX7_way 21 = .ok (.bipush (-2), 2) := by decide +kernel
theorem dX7_way_23 : decode cX7_way 23 = .ok (.ireturn, 1) := by decide +kernel
theorem dX7_way_24 : decode cX7_way 24 = .ok (.iload_n 1, 1) := by decide +kernel
theorem dX7_way_25 : decode cX7_way 25 = .ok (.iload_n 2, 1) := by decide +kernel
theorem dX7_way_26 : decode cX7_way 26 = .ok (.iload_n 3, 1) := by decide +kernel
theorem dX7_way_27 : decode cX7_way 27 = .ok (.invokestatic 108, 3) := by decide +kernel
theorem dX7_way_30 : decode cX7_way 30 = .ok (.istore 7, 2) := by decide +kernel
theorem dX7_way_32 : decode cX7_way 32 = .ok (.iload 4, 2) := by decide +kernel
theorem dX7_way_34 : decode cX7_way 34 = .ok (.iload 5, 2) := by decide +kernel
theorem dX7_way_36 : decode cX7_way 36 = .ok (.iload 6, 2) := by decide +kernel
theorem dX7_way_38 : decode cX7_way 38 = .ok (.invokestatic 108, 3) := by decide +kernel
theorem dX7_way_41 : decode cX7_way 41 = .ok (.istore 8, 2) := by decide +kernel
theorem dX7_way_43 : decode cX7_way 43 = .ok (.aload_n 0, 1) := by decide +kernel
theorem dX7_way_44 : decode cX7_way 44 = .ok (.getfield 12, 3) := by decide +kernel
theorem dX7_way_47 : decode cX7_way 47 = .ok (.iload 7, 2) := by decide +kernel
theorem dX7_way_49 : decode cX7_way 49 = .ok (.invokevirtual 115, 3) := by decide +kernel
theorem dX7_way_52 : decode cX7_way 52 = .ok (.ifCond .eq 15, 3) := by decide +kernel
theorem dX7_way_55 : decode cX7_way 55 = .ok (.aload_n 0, 1) := by decide +kernel
theorem dX7_way_56 : decode cX7_way 56 = .ok (.getfield 12, 3) := by decide +kernel
theorem dX7_way_59 : decode cX7_way 59 = .ok (.iload 8, 2) := by decide +kernel
theorem dX7_way_61 : decode cX7_way 61 = .ok (.invokevirtual 115, 3) := by decide +kernel
theorem dX7_way_64 : decode cX7_way 64 = .ok (.ifCond .ne 6, 3) := by decide +kernel
theorem dX7_way_67 : decode cX7_way 67 = .ok (.bipush (-3), 2) := by decide +kernel
theorem dX7_way_69 : decode cX7_way 69 = .ok (.ireturn, 1) := by decide +kernel
theorem dX7_way_70 : decode cX7_way 70 = .ok (.aload_n 0, 1) := by decide +kernel
theorem dX7_way_71 : decode cX7_way 71 = .ok (.getfield 21, 3) := by decide +kernel
theorem dX7_way_74 : decode cX7_way 74 = .ok (.invokevirtual 123, 3) := by decide +kernel
theorem dX7_way_77 : decode cX7_way 77 = .ok (.aload_n 0, 1) := by decide +kernel
theorem dX7_way_78 : decode cX7_way 78 = .ok (.getfield 21, 3) := by decide +kernel
theorem dX7_way_81 : decode cX7_way 81 = .ok (.iload 7, 2) := by decide +kernel
theorem dX7_way_83 : decode cX7_way 83 = .ok (.iload 8, 2) := by decide +kernel
theorem dX7_way_85 : decode cX7_way 85 = .ok (.iconst 0, 1) := by decide +kernel
theorem dX7_way_86 : decode cX7_way 86 = .ok (.invokevirtual 126, 3) := by decide +kernel
theorem dX7_way_89 : decode cX7_way 89 = .ok (.aload_n 0, 1) := by decide +kernel
theorem dX7_way_90 : decode cX7_way 90 = .ok (.getfield 21, 3) := by decide +kernel
theorem dX7_way_93 : decode cX7_way 93 = .ok (.invokevirtual 130, 3) := by decide +kernel
theorem dX7_way_96 : decode cX7_way 96 = .ok (.iconst (-1), 1) := by decide +kernel
theorem dX7_way_97 : decode cX7_way 97 = .ok (.if_icmp .eq 14, 3) := by decide +kernel
theorem dX7_way_100 : decode cX7_way 100 = .ok (.aload_n 0, 1) := by decide +kernel
theorem dX7_way_101 : decode cX7_way 101 = .ok (.getfield 21, 3) := by decide +kernel
theorem dX7_way_104 : decode cX7_way 104 = .ok (.aload_n 0, 1) := by decide +kernel
theorem dX7_way_105 : decode cX7_way 105 = .ok (.getfield 28, 3) := by decide +kernel
theorem dX7_way_108 : decode cX7_way 108 = .ok (.invokevirtual 134, 3) := by decide +kernel
theorem dX7_way_111 : decode cX7_way 111 = .ok (.aload_n 0, 1) := by decide +kernel
theorem dX7_way_112 : decode cX7_way 112 = .ok (.getfield 21, 3) := by decide +kernel
theorem dX7_way_115 : decode cX7_way 115 = .ok (.invokevirtual 130, 3) := by decide +kernel
theorem dX7_way_118 : decode cX7_way 118 = .ok (.ireturn, 1) := by decide +kernel
theorem dX7_xOf_0 : decode cX7_xOf 0 = .ok (.iload_n 0, 1) := by decide +kernel
theorem dX7_xOf_1 : decode cX7_xOf 1 = .ok (.bipush 127, 2) := by decide +kernel
theorem dX7_xOf_3 : decode cX7_xOf 3 = .ok (.iand, 1) := by decide +kernel
theorem dX7_xOf_4 : decode cX7_xOf 4 = .ok (.ireturn, 1) := by decide +kernel
theorem dX7_yOf_0 : decode cX7_yOf 0 = .ok (.iload_n 0, 1) := by decide +kernel
theorem dX7_yOf_1 : decode cX7_yOf 1 = .ok (.bipush 7, 2) := by decide +kernel
theorem dX7_yOf_3 : decode cX7_yOf 3 = .ok (.ishr, 1) := by decide +kernel
theorem dX7_yOf_4 : decode cX7_yOf 4 = .ok (.bipush 127, 2) := by decide +kernel
theorem dX7_yOf_6 : decode cX7_yOf 6 = .ok (.iand, 1) := by decide +kernel
theorem dX7_yOf_7 : decode cX7_yOf 7 = .ok (.ireturn, 1) := by decide +kernel
theorem dX8_about_0 : decode cX8_about 0 = .ok (.aload_n 0, 1) := by decide +kernel
theorem dX8_about_1 : decode cX8_about 1 = .ok (.iload_n 1, 1) := by decide +kernel
theorem dX8_about_2 : decode cX8_about 2 = .ok (.invokevirtual 256, 3) := by decide +kernel
theorem dX8_about_5 : decode cX8_about 5 = .ok (.ifCond .eq 22, 3) := by decide +kernel
theorem dX8_about_8 : decode cX8_about 8 = .ok (.iload_n 2, 1) := by decide +kernel
theorem dX8_about_9 : decode cX8_about 9 = .ok (.iconst 0, 1) := by decide +kernel
theorem dX8_about_10 : decode cX8_about 10 = .ok (.bipush 8, 2) := by decide +kernel
theorem dX8_about_12 : decode cX8_about 12 = .ok (.invokestatic 110, 3) := by decide +kernel
theorem dX8_about_15 : decode cX8_about 15 = .ok (.ifCond .eq 12, 3) := by decide +kernel
theorem dX8_about_18 : decode cX8_about 18 = .ok (.aload_n 0, 1) := by decide +kernel
theorem dX8_about_19 : decode cX8_about 19 = .ok (.iload_n 1, 1) := by decide +kernel
theorem dX8_about_20 : decode cX8_about 20 = .ok (.iload_n 2, 1) := by decide +kernel
theorem dX8_about_21 : decode cX8_about 21 = .ok (.invokevirtual 272, 3) := by decide +kernel
theorem dX8_about_24 : decode cX8_about 24 = .ok (.goto 5, 3) := by decide +kernel
theorem dX8_about_27 : decode cX8_about 27 = .ok (.bipush (-2), 2) := by decide +kernel
theorem dX8_about_29 : decode cX8_about 29 = .ok (.ireturn, 1) := by decide +kernel
theorem dX8_aboutOf_0 : decode cX8_aboutOf 0 = .ok (.iload_n 2, 1) := by decide +kernel
theorem dX8_aboutOf_1 : decode cX8_aboutOf 1 = .ok (.tableswitch 111 0 7 #[47, 54, 61, 68, 75, 82, 97, 104], 47) := by decide +kernel
theorem dX8_aboutOf_48 : decode cX8_aboutOf 48 = .ok (.aload_n 0, 1) := by decide +kernel
theorem dX8_aboutOf_49 : decode cX8_aboutOf 49 = .ok (.getfield 77, 3) := by decide +kernel
theorem dX8_aboutOf_52 : decode cX8_aboutOf 52 = .ok (.iload_n 1, 1) := by decide +kernel
theorem dX8_aboutOf_53 : decode cX8_aboutOf 53 = .ok (.iaload, 1) := by decide +kernel
theorem dX8_aboutOf_54 : decode cX8_aboutOf 54 = .ok (.ireturn, 1) := by decide +kernel
theorem dX8_aboutOf_55 : decode cX8_aboutOf 55 = .ok (.aload_n 0, 1) := by decide +kernel
theorem dX8_aboutOf_56 : decode cX8_aboutOf 56 = .ok (.getfield 80, 3) := by decide +kernel
theorem dX8_aboutOf_59 : decode cX8_aboutOf 59 = .ok (.iload_n 1, 1) := by decide +kernel
theorem dX8_aboutOf_60 : decode cX8_aboutOf 60 = .ok (.iaload, 1) := by decide +kernel
theorem dX8_aboutOf_61 : decode cX8_aboutOf 61 = .ok (.ireturn, 1) := by decide +kernel
theorem dX8_aboutOf_62 : decode cX8_aboutOf 62 = .ok (.aload_n 0, 1) := by decide +kernel
theorem dX8_aboutOf_63 : decode cX8_aboutOf 63 = .ok (.getfield 74, 3) := by decide +kernel
theorem dX8_aboutOf_66 : decode cX8_aboutOf 66 = .ok (.iload_n 1, 1) := by decide +kernel
theorem dX8_aboutOf_67 : decode cX8_aboutOf 67 = .ok (.iaload, 1) := by decide +kernel
theorem dX8_aboutOf_68 : decode cX8_aboutOf 68 = .ok (.ireturn, 1) := by decide +kernel
theorem dX8_aboutOf_69 : decode cX8_aboutOf 69 = .ok (.aload_n 0, 1) := by decide +kernel
theorem dX8_aboutOf_70 : decode cX8_aboutOf 70 = .ok (.getfield 83, 3) := by decide +kernel
theorem dX8_aboutOf_73 : decode cX8_aboutOf 73 = .ok (.iload_n 1, 1) := by decide +kernel
theorem dX8_aboutOf_74 : decode cX8_aboutOf 74 = .ok (.iaload, 1) := by decide +kernel
theorem dX8_aboutOf_75 : decode cX8_aboutOf 75 = .ok (.ireturn, 1) := by decide +kernel
theorem dX8_aboutOf_76 : decode cX8_aboutOf 76 = .ok (.aload_n 0, 1) := by decide +kernel
theorem dX8_aboutOf_77 : decode cX8_aboutOf 77 = .ok (.getfield 95, 3) := by decide +kernel
theorem dX8_aboutOf_80 : decode cX8_aboutOf 80 = .ok (.iload_n 1, 1) := by decide +kernel
theorem dX8_aboutOf_81 : decode cX8_aboutOf 81 = .ok (.iaload, 1) := by decide +kernel
theorem dX8_aboutOf_82 : decode cX8_aboutOf 82 = .ok (.ireturn, 1) := by decide +kernel
theorem dX8_aboutOf_83 : decode cX8_aboutOf 83 = .ok (.aload_n 0, 1) := by decide +kernel
theorem dX8_aboutOf_84 : decode cX8_aboutOf 84 = .ok (.getfield 98, 3) := by decide +kernel
theorem dX8_aboutOf_87 : decode cX8_aboutOf 87 = .ok (.iload_n 1, 1) := by decide +kernel
theorem dX8_aboutOf_88 : decode cX8_aboutOf 88 = .ok (.baload, 1) := by decide +kernel
theorem dX8_aboutOf_89 : decode cX8_aboutOf 89 = .ok (.ifCond .eq 7, 3) := by decide +kernel
theorem dX8_aboutOf_92 : decode cX8_aboutOf 92 = .ok (.iconst 1, 1) := by decide +kernel
theorem dX8_aboutOf_93 : decode cX8_aboutOf 93 = .ok (.goto 4, 3) := by decide +kernel
theorem dX8_aboutOf_96 : decode cX8_aboutOf 96 = .ok (.iconst 0, 1) := by decide +kernel
theorem dX8_aboutOf_97 : decode cX8_aboutOf 97 = .ok (.ireturn, 1) := by decide +kernel
theorem dX8_aboutOf_98 : decode cX8_aboutOf 98 = .ok (.aload_n 0, 1) := by decide +kernel
theorem dX8_aboutOf_99 : decode cX8_aboutOf 99 = .ok (.getfield 101, 3) := by decide +kernel
theorem dX8_aboutOf_102 : decode cX8_aboutOf 102 = .ok (.iload_n 1, 1) := by decide +kernel
theorem dX8_aboutOf_103 : decode cX8_aboutOf 103 = .ok (.iaload, 1) := by decide +kernel
theorem dX8_aboutOf_104 : decode cX8_aboutOf 104 = .ok (.ireturn, 1) := by decide +kernel
theorem dX8_aboutOf_105 : decode cX8_aboutOf 105 = .ok (.aload_n 0, 1) := by decide +kernel
theorem dX8_aboutOf_106 : decode cX8_aboutOf 106 = .ok (.getfield 104, 3) := by decide +kernel
theorem dX8_aboutOf_109 : decode cX8_aboutOf 109 = .ok (.iload_n 1, 1) := by decide +kernel
theorem dX8_aboutOf_110 : decode cX8_aboutOf 110 = .ok (.iaload, 1) := by decide +kernel
theorem dX8_aboutOf_111 : decode cX8_aboutOf 111 = .ok (.ireturn, 1) := by decide +kernel
theorem dX8_aboutOf_112 : decode cX8_aboutOf 112 = .ok (.aload_n 0, 1) := by decide +kernel
theorem dX8_aboutOf_113 : decode cX8_aboutOf 113 = .ok (.getfield 107, 3) := by decide +kernel
theorem dX8_aboutOf_116 : decode cX8_aboutOf 116 = .ok (.iload_n 1, 1) := by decide +kernel
theorem dX8_aboutOf_117 : decode cX8_aboutOf 117 = .ok (.iaload, 1) := by decide +kernel
theorem dX8_aboutOf_118 : decode cX8_aboutOf 118 = .ok (.ireturn, 1) := by decide +kernel
theorem dX8_bend_0 : decode cX8_bend 0 = .ok (.iload_n 2, 1) := by decide +kernel
theorem dX8_bend_1 : decode cX8_bend 1 = .ok (.iconst 0, 1) := by decide +kernel
theorem dX8_bend_2 : decode cX8_bend 2 = .ok (.iconst 2, 1) := by decide +kernel
theorem dX8_bend_3 : decode cX8_bend 3 = .ok (.invokestatic 110, 3) := by decide +kernel
theorem dX8_bend_6 : decode cX8_bend 6 = .ok (.ifCond .ne 6, 3) := by decide +kernel
theorem dX8_bend_9 : decode cX8_bend 9 = .ok (.bipush (-2), 2) := by decide +kernel
theorem dX8_bend_11 : decode cX8_bend 11 = .ok (.ireturn, 1) := by decide +kernel
theorem dX8_bend_12 : decode cX8_bend 12 = .ok (.iload_n 1, 1) := by decide +kernel
theorem dX8_bend_13 : decode cX8_bend 13 = .ok (.iconst 0, 1) := by decide +kernel
theorem dX8_bend_14 : decode cX8_bend 14 = .ok (.aload_n 0, 1) := by decide +kernel
theorem dX8_bend_15 : decode cX8_bend 15 = .ok (.getfield 250, 3) := by decide +kernel
theorem dX8_bend_18 : decode cX8_bend 18 = .ok (.iconst 1, 1) := by decide +kernel
theorem dX8_bend_19 : decode cX8_bend 19 = .ok (.isub, 1) := by decide +kernel
theorem dX8_bend_20 : decode cX8_bend 20 = .ok (.invokestatic 110, 3) := by decide +kernel
theorem dX8_bend_23 : decode cX8_bend 23 = .ok (.ifCond .ne 7, 3) := by decide +kernel
theorem dX8_bend_26 : decode cX8_bend 26 = .ok (.iconst (-1), 1) := by decide +kernel
theorem dX8_bend_27 : decode cX8_bend 27 = .ok (.goto 36, 3) := by decide +kernel
theorem dX8_bend_30 : decode cX8_bend 30 = .ok (.iload_n 2, 1) := by decide +kernel
theorem dX8_bend_31 : decode cX8_bend 31 = .ok (.ifCond .ne 12, 3) := by decide +kernel
theorem dX8_bend_34 : decode cX8_bend 34 = .ok (.aload_n 0, 1) := by decide +kernel
theorem dX8_bend_35 : decode cX8_bend 35 = .ok (.getfield 65, 3) := by decide +kernel
theorem dX8_bend_38 : decode cX8_bend 38 = .ok (.iload_n 1, 1) := by decide +kernel
theorem dX8_bend_39 : decode cX8_bend 39 = .ok (.iaload, 1) := by decide +kernel
theorem dX8_bend_40 : decode cX8_bend 40 = .ok (.goto 23, 3) := by decide +kernel
theorem dX8_bend_43 : decode cX8_bend 43 = .ok (.iload_n 2, 1) := by decide +kernel
theorem dX8_bend_44 : decode cX8_bend 44 = .ok (.iconst 1, 1) := by decide +kernel
theorem dX8_bend_45 : decode cX8_bend 45 = .ok (.if_icmp .ne 12, 3) := by decide +kernel
theorem dX8_bend_48 : decode cX8_bend 48 = .ok (.aload_n 0, 1) := by decide +kernel
theorem dX8_bend_49 : decode cX8_bend 49 = .ok (.getfield 68, 3) := by decide +kernel
theorem dX8_bend_52 : decode cX8_bend 52 = .ok (.iload_n 1, 1) := by decide +kernel
theorem dX8_bend_53 : decode cX8_bend 53 = .ok (.iaload, 1) := by decide +kernel
theorem dX8_bend_54 : decode cX8_bend 54 = .ok (.goto 9, 3) := by decide +kernel
theorem dX8_bend_57 : decode cX8_bend 57 = .ok (.aload_n 0, 1) := by decide +kernel
theorem dX8_bend_58 : decode cX8_bend 58 = .ok (.getfield 71, 3) := by decide +kernel
theorem dX8_bend_61 : decode cX8_bend 61 = .ok (.iload_n 1, 1) := by decide +kernel
theorem dX8_bend_62 : decode cX8_bend 62 = .ok (.iaload, 1) := by decide +kernel
theorem dX8_bend_63 : decode cX8_bend 63 = .ok (.ireturn, 1) := by decide +kernel
theorem dX8_box_0 : decode cX8_box 0 = .ok (.iload_n 1, 1) := by decide +kernel
theorem dX8_box_1 : decode cX8_box 1 = .ok (.iload_n 2, 1) := by decide +kernel
theorem dX8_box_2 : decode cX8_box 2 = .ok (.iload_n 3, 1) := by decide +kernel
theorem dX8_box_3 : decode cX8_box 3 = .ok (.iload 4, 2) := by decide +kernel
theorem dX8_box_5 : decode cX8_box 5 = .ok (.iload 5, 2) := by decide +kernel
theorem dX8_box_7 : decode cX8_box 7 = .ok (.invokestatic 117, 3) := by decide +kernel
theorem dX8_box_10 : decode cX8_box 10 = .ok (.ifCond .ne 6, 3) := by decide +kernel
theorem dX8_box_13 : decode cX8_box 13 = .ok (.bipush (-2), 2) := by decide +kernel
theorem dX8_box_15 : decode cX8_box 15 = .ok (.ireturn, 1) := by decide +kernel
theorem dX8_box_16 : decode cX8_box 16 = .ok (.iconst 0, 1) := by decide +kernel
theorem dX8_box_17 : decode cX8_box 17 = .ok (.istore 6, 2) := by decide +kernel
theorem dX8_box_19 : decode cX8_box 19 = .ok (.iload 6, 2) := by decide +kernel
theorem dX8_box_21 : decode cX8_box 21 = .ok (.aload_n 0, 1) := by decide +kernel
theorem dX8_box_22 : decode cX8_box 22 = .ok (.getfield 129, 3) := by decide +kernel
theorem dX8_box_25 : decode cX8_box 25 = .ok (.if_icmp .ge 69, 3) := by decide +kernel
theorem dX8_box_28 : decode cX8_box 28 = .ok (.aload_n 0, 1) := by decide +kernel
theorem dX8_box_29 : decode cX8_box 29 = .ok (.getfield 74, 3) := by decide +kernel
theorem dX8_box_32 : decode cX8_box 32 = .ok (.iload 6, 2) := by decide +kernel
theorem dX8_box_34 : decode cX8_box 34 = .ok (.iaload, 1) := by decide +kernel
theorem dX8_box_35 : decode cX8_box 35 = .ok (.iload_n 1, 1) := by decide +kernel
theorem dX8_box_36 : decode cX8_box 36 = .ok (.if_icmp .ne 52, 3) := by decide +kernel
theorem dX8_box_39 : decode cX8_box 39 = .ok (.aload_n 0, 1) := by decide +kernel
theorem dX8_box_40 : decode cX8_box 40 = .ok (.getfield 77, 3) := by decide +kernel
theorem dX8_box_43 : decode cX8_box 43 = .ok (.iload 6, 2) := by decide +kernel
theorem dX8_box_45 : decode cX8_box 45 = .ok (.iaload, 1) := by decide +kernel
theorem dX8_box_46 : decode cX8_box 46 = .ok (.iload_n 2, 1) := by decide +kernel
theorem dX8_box_47 : decode cX8_box 47 = .ok (.if_icmp .le 41, 3) := by decide +kernel
theorem dX8_box_50 : decode cX8_box 50 = .ok (.aload_n 0, 1) := by decide +kernel
theorem dX8_box_51 : decode cX8_box 51 = .ok (.getfield 77, 3) := by decide +kernel
theorem dX8_box_54 : decode cX8_box 54 = .ok (.iload 6, 2) := by decide +kernel
theorem dX8_box_56 : decode cX8_box 56 = .ok (.iaload, 1) := by decide +kernel
theorem dX8_box_57 : decode cX8_box 57 = .ok (.iload 4, 2) := by decide +kernel
theorem dX8_box_59 : decode cX8_box 59 = .ok (.if_icmp .ge 29, 3) := by decide +kernel
theorem dX8_box_62 : decode cX8_box 62 = .ok (.aload_n 0, 1) := by decide +kernel
theorem dX8_box_63 : decode cX8_box 63 = .ok (.getfield 80, 3) := by decide +kernel
theorem dX8_box_66 : decode cX8_box 66 = .ok (.iload 6, 2) := by decide +kernel
theorem dX8_box_68 : decode cX8_box 68 = .ok (.iaload, 1) := by decide +kernel
theorem dX8_box_69 : decode cX8_box 69 = .ok (.iload_n 3, 1) := by decide +kernel
theorem dX8_box_70 : decode cX8_box 70 = .ok (.if_icmp .le 18, 3) := by decide +kernel
theorem dX8_box_73 : decode cX8_box 73 = .ok (.aload_n 0, 1) := by decide +kernel
theorem dX8_box_74 : decode cX8_box 74 = .ok (.getfield 80, 3) := by decide +kernel
theorem dX8_box_77 : decode cX8_box 77 = .ok (.iload 6, 2) := by decide +kernel
theorem dX8_box_79 : decode cX8_box 79 = .ok (.iaload, 1) := by decide +kernel
theorem dX8_box_80 : decode cX8_box 80 = .ok (.iload 5, 2) := by decide +kernel
theorem dX8_box_82 : decode cX8_box 82 = .ok (.if_icmp .ge 6, 3) := by decide +kernel
theorem dX8_box_85 : decode cX8_box 85 = .ok (.bipush (-3), 2) := by decide +kernel
theorem dX8_box_87 : decode cX8_box 87 = .ok (.ireturn, 1) := by decide +kernel
theorem dX8_box_88 : decode cX8_box 88 = .ok (.iinc 6 1, 3) := by decide +kernel
theorem dX8_box_91 : decode cX8_box 91 = .ok (.goto (-72), 3) := by decide +kernel
theorem dX8_box_94 : decode cX8_box 94 = .ok (.iconst 0, 1) := by decide +kernel
theorem dX8_box_95 : decode cX8_box 95 = .ok (.istore 6, 2) := by decide +kernel
theorem dX8_box_97 : decode cX8_box 97 = .ok (.iload 6, 2) := by decide +kernel
theorem dX8_box_99 : decode cX8_box 99 = .ok (.bipush 8, 2) := by decide +kernel
theorem dX8_box_101 : decode cX8_box 101 = .ok (.if_icmp .ge 46, 3) := by decide +kernel
theorem dX8_box_104 : decode cX8_box 104 = .ok (.aload_n 0, 1) := by decide +kernel
theorem dX8_box_105 : decode cX8_box 105 = .ok (.getfield 13, 3) := by decide +kernel
theorem dX8_box_108 : decode cX8_box 108 = .ok (.iload 6, 2) := by decide +kernel
theorem dX8_box_110 : decode cX8_box 110 = .ok (.baload, 1) := by decide +kernel
theorem dX8_box_111 : decode cX8_box 111 = .ok (.ifCond .ne 30, 3) := by decide +kernel
theorem dX8_box_114 : decode cX8_box 114 = .ok (.aload_n 0, 1) := by decide +kernel
theorem dX8_box_115 : decode cX8_box 115 = .ok (.getfield 13, 3) := by decide +kernel
theorem dX8_box_118 : decode cX8_box 118 = .ok (.iload 6, 2) := by decide +kernel
theorem dX8_box_120 : decode cX8_box 120 = .ok (.iconst 1, 1) := by decide +kernel
theorem dX8_box_121 : decode cX8_box 121 = .ok (.bastore, 1) := by decide +kernel
theorem dX8_box_122 : decode cX8_box 122 = .ok (.aload_n 0, 1) := by decide +kernel
theorem dX8_box_123 : decode cX8_box 123 = .ok (.getfield 17, 3) := by decide +kernel
theorem dX8_box_126 : decode cX8_box 126 = .ok (.iload 6, 2) := by decide +kernel
theorem dX8_box_128 : decode cX8_box 128 = .ok (.iload_n 1, 1) := by decide +kernel
theorem dX8_box_129 : decode cX8_box 129 = .ok (.iload_n 2, 1) := by decide +kernel
theorem dX8_box_130 : decode cX8_box 130 = .ok (.iload_n 3, 1) := by decide +kernel
theorem dX8_box_131 : decode cX8_box 131 = .ok (.iload 4, 2) := by decide +kernel
theorem dX8_box_133 : decode cX8_box 133 = .ok (.iload 5, 2) := by decide +kernel
theorem dX8_box_135 : decode cX8_box 135 = .ok (.invokestatic 125, 3) := by decide +kernel
theorem dX8_box_138 : decode cX8_box 138 = .ok (.iload 6, 2) := by decide +kernel
theorem dX8_box_140 : decode cX8_box 140 = .ok (.ireturn, 1) := by decide +kernel
theorem dX8_box_141 : decode cX8_box 141 = .ok (.iinc 6 1, 3) := by decide +kernel
theorem dX8_box_144 : decode cX8_box 144 = .ok (.goto (-47), 3) := by decide +kernel
theorem dX8_box_147 : decode cX8_box 147 = .ok (.bipush (-4), 2) := by decide +kernel
theorem dX8_box_149 : decode cX8_box 149 = .ok (.ireturn, 1) := by decide +kernel
theorem dX8_climb_0 : decode cX8_climb 0 = .ok (.iconst (-1), 1) := by decide +kernel
theorem dX8_climb_1 : decode cX8_climb 1 = .ok (.istore 7, 2) := by decide +kernel
theorem dX8_climb_3 : decode cX8_climb 3 = .ok (.iconst 0, 1) := by decide +kernel
theorem dX8_climb_4 : decode cX8_climb 4 = .ok (.istore 8, 2) := by decide +kernel
theorem dX8_climb_6 : decode cX8_climb 6 = .ok (.iload 8, 2) := by decide +kernel
theorem dX8_climb_8 : decode cX8_climb 8 = .ok (.aload_n 0, 1) := by decide +kernel
theorem dX8_climb_9 : decode cX8_climb 9 = .ok (.getfield 146, 3) := by decide +kernel
theorem dX8_climb_12 : decode cX8_climb 12 = .ok (.if_icmp .ge 231, 3) := by decide +kernel
theorem dX8_climb_15 : decode cX8_climb 15 = .ok (.bipush 7, 2) := by decide +kernel
theorem dX8_climb_17 : decode cX8_climb 17 = .ok (.iload 8, 2) := by decide +kernel
theorem dX8_climb_19 : decode cX8_climb 19 = .ok (.imul, 1) := by decide +kernel
theorem dX8_climb_20 : decode cX8_climb 20 = .ok (.istore 9, 2) := by decide +kernel
theorem dX8_climb_22 : decode cX8_climb 22 = .ok (.aload_n 0, 1) := by decide +kernel
theorem dX8_climb_23 : decode cX8_climb 23 = .ok (.getfield 32, 3) := by decide +kernel
theorem dX8_climb_26 : decode cX8_climb 26 = .ok (.iload 9, 2) := by decide +kernel
theorem dX8_climb_28 : decode cX8_climb 28 = .ok (.iaload, 1) := by decide +kernel
theorem dX8_climb_29 : decode cX8_climb 29 = .ok (.iload_n 1, 1) := by decide +kernel
theorem dX8_climb_30 : decode cX8_climb 30 = .ok (.if_icmp .ne 75, 3) := by decide +kernel
theorem dX8_climb_33 : decode cX8_climb 33 = .ok (.aload_n 0, 1) := by decide +kernel
theorem dX8_climb_34 : decode cX8_climb 34 = .ok (.getfield 32, 3) := by decide +kernel
theorem dX8_climb_37 : decode cX8_climb 37 = .ok (.iload 9, 2) := by decide +kernel
theorem dX8_climb_39 : decode cX8_climb 39 = .ok (.iconst 1, 1) := by decide +kernel
theorem dX8_climb_40 : decode cX8_climb 40 = .ok (.iadd, 1) := by decide +kernel
theorem dX8_climb_41 : decode cX8_climb 41 = .ok (.iaload, 1) := by decide +kernel
theorem dX8_climb_42 : decode cX8_climb 42 = .ok (.iload_n 2, 1) := by decide +kernel
theorem dX8_climb_43 : decode cX8_climb 43 = .ok (.if_icmp .ne 62, 3) := by decide +kernel
theorem dX8_climb_46 : decode cX8_climb 46 = .ok (.aload_n 0, 1) := by decide +kernel
theorem dX8_climb_47 : decode cX8_climb 47 = .ok (.getfield 32, 3) := by decide +kernel
theorem dX8_climb_50 : decode cX8_climb 50 = .ok (.iload 9, 2) := by decide +kernel
theorem dX8_climb_52 : decode cX8_climb 52 = .ok (.iconst 2, 1) := by decide +kernel
theorem dX8_climb_53 : decode cX8_climb 53 = .ok (.iadd, 1) := by decide +kernel
theorem dX8_climb_54 : decode cX8_climb 54 = .ok (.iaload, 1) := by decide +kernel
theorem dX8_climb_55 : decode cX8_climb 55 = .ok (.iload_n 3, 1) := by decide +kernel
theorem dX8_climb_56 : decode cX8_climb 56 = .ok (.if_icmp .ne 49, 3) := by decide +kernel
theorem dX8_climb_59 : decode cX8_climb 59 = .ok (.aload_n 0, 1) := by decide +kernel
theorem dX8_climb_60 : decode cX8_climb 60 = .ok (.getfield 32, 3) := by decide +kernel
theorem dX8_climb_63 : decode cX8_climb 63 = .ok (.iload 9, 2) := by decide +kernel
theorem dX8_climb_65 : decode cX8_climb 65 = .ok (.iconst 3, 1) := by decide +kernel
theorem dX8_climb_66 : decode cX8_climb 66 = .ok (.iadd, 1) := by decide +kernel
theorem dX8_climb_67 : decode cX8_climb 67 = .ok (.iaload, 1) := by decide +kernel
theorem dX8_climb_68 : decode cX8_climb 68 = .ok (.iload 4, 2) := by decide +kernel
theorem dX8_climb_70 : decode cX8_climb 70 = .ok (.if_icmp .ne 35, 3) := by decide +kernel
theorem dX8_climb_73 : decode cX8_climb 73 = .ok (.aload_n 0, 1) := by decide +kernel
theorem dX8_climb_74 : decode cX8_climb 74 = .ok (.getfield 32, 3) := by decide +kernel
theorem dX8_climb_77 : decode cX8_climb 77 = .ok (.iload 9, 2) := by decide +kernel
theorem dX8_climb_79 : decode cX8_climb 79 = .ok (.iconst 4, 1) := by decide +kernel
theorem dX8_climb_80 : decode cX8_climb 80 = .ok (.iadd, 1) := by decide +kernel
theorem dX8_climb_81 : decode cX8_climb 81 = .ok (.iaload, 1) := by decide +kernel
theorem dX8_climb_82 : decode cX8_climb 82 = .ok (.iload 5, 2) := by decide +kernel
theorem dX8_climb_84 : decode cX8_climb 84 = .ok (.if_icmp .ne 21, 3) := by decide +kernel
theorem dX8_climb_87 : decode cX8_climb 87 = .ok (.aload_n 0, 1) := by decide +kernel
theorem dX8_climb_88 : decode cX8_climb 88 = .ok (.getfield 32, 3) := by decide +kernel
theorem dX8_climb_91 : decode cX8_climb 91 = .ok (.iload 9, 2) := by decide +kernel
theorem dX8_climb_93 : decode cX8_climb 93 = .ok (.iconst 5, 1) := by decide +kernel
theorem dX8_climb_94 : decode cX8_climb 94 = .ok (.iadd, 1) := by decide +kernel
theorem dX8_climb_95 : decode cX8_climb 95 = .ok (.iaload, 1) := by decide +kernel
theorem dX8_climb_96 : decode cX8_climb 96 = .ok (.iload 6, 2) := by decide +kernel
theorem dX8_climb_98 : decode cX8_climb 98 = .ok (.if_icmp .ne 7, 3) := by decide +kernel
theorem dX8_climb_101 : decode cX8_climb 101 = .ok (.iconst 1, 1) := by decide +kernel
theorem dX8_climb_102 : decode cX8_climb 102 = .ok (.goto 4, 3) := by decide +kernel
theorem dX8_climb_105 : decode cX8_climb 105 = .ok (.iconst 0, 1) := by decide +kernel
theorem dX8_climb_106 : decode cX8_climb 106 = .ok (.istore 10, 2) := by decide +kernel
theorem dX8_climb_108 : decode cX8_climb 108 = .ok (.aload_n 0, 1) := by decide +kernel
theorem dX8_climb_109 : decode cX8_climb 109 = .ok (.getfield 32, 3) := by decide +kernel
theorem dX8_climb_112 : decode cX8_climb 112 = .ok (.iload 9, 2) := by decide +kernel
theorem dX8_climb_114 : decode cX8_climb 114 = .ok (.iaload, 1) := by decide +kernel
theorem dX8_climb_115 : decode cX8_climb 115 = .ok (.iload 4, 2) := by decide +kernel
theorem dX8_climb_117 : decode cX8_climb 117 = .ok (.if_icmp .ne 74, 3) := by decide +kernel
theorem dX8_climb_120 : decode cX8_climb 120 = .ok (.aload_n 0, 1) := by decide +kernel
theorem dX8_climb_121 : decode cX8_climb 121 = .ok (.getfield 32, 3) := by decide +kernel
theorem dX8_climb_124 : decode cX8_climb 124 = .ok (.iload 9, 2) := by decide +kernel
theorem dX8_climb_126 : decode cX8_climb 126 = .ok (.iconst 1, 1) := by decide +kernel
theorem dX8_climb_127 : decode cX8_climb 127 = .ok (.iadd, 1) := by decide +kernel
theorem dX8_climb_128 : decode cX8_climb 128 = .ok (.iaload, 1) := by decide +kernel
theorem dX8_climb_129 : decode cX8_climb 129 = .ok (.iload 5, 2) := by decide +kernel
theorem dX8_climb_131 : decode cX8_climb 131 = .ok (.if_icmp .ne 60, 3) := by decide +kernel
theorem dX8_climb_134 : decode cX8_climb 134 = .ok (.aload_n 0, 1) := by decide +kernel
theorem dX8_climb_135 : decode cX8_climb 135 = .ok (.getfield 32, 3) := by decide +kernel
theorem dX8_climb_138 : decode cX8_climb 138 = .ok (.iload 9, 2) := by decide +kernel
theorem dX8_climb_140 : decode cX8_climb 140 = .ok (.iconst 2, 1) := by decide +kernel
theorem dX8_climb_141 : decode cX8_climb 141 = .ok (.iadd, 1) := by decide +kernel
theorem dX8_climb_142 : decode cX8_climb 142 = .ok (.iaload, 1) := by decide +kernel
theorem dX8_climb_143 : decode cX8_climb 143 = .ok (.iload 6, 2) := by decide +kernel
theorem dX8_climb_145 : decode cX8_climb 145 = .ok (.if_icmp .ne 46, 3) := by decide +kernel
theorem dX8_climb_148 : decode cX8_climb 148 = .ok (.aload_n 0, 1) := by decide +kernel
theorem dX8_climb_149 : decode cX8_climb 149 = .ok (.getfield 32, 3) := by decide +kernel
theorem dX8_climb_152 : decode cX8_climb 152 = .ok (.iload 9, 2) := by decide +kernel
theorem dX8_climb_154 : decode cX8_climb 154 = .ok (.iconst 3, 1) := by decide +kernel
theorem dX8_climb_155 : decode cX8_climb 155 = .ok (.iadd, 1) := by decide +kernel
theorem dX8_climb_156 : decode cX8_climb 156 = .ok (.iaload, 1) := by decide +kernel
theorem dX8_climb_157 : decode cX8_climb 157 = .ok (.iload_n 1, 1) := by decide +kernel
theorem dX8_climb_158 : decode cX8_climb 158 = .ok (.if_icmp .ne 33, 3) := by decide +kernel
theorem dX8_climb_161 : decode cX8_climb 161 = .ok (.aload_n 0, 1) := by decide +kernel
theorem dX8_climb_162 : decode cX8_climb 162 = .ok (.getfield 32, 3) := by decide +kernel
theorem dX8_climb_165 : decode cX8_climb 165 = .ok (.iload 9, 2) := by decide +kernel
theorem dX8_climb_167 : decode cX8_climb 167 = .ok (.iconst 4, 1) := by decide +kernel
theorem dX8_climb_168 : decode cX8_climb 168 = .ok (.iadd, 1) := by decide +kernel
theorem dX8_climb_169 : decode cX8_climb 169 = .ok (.iaload, 1) := by decide +kernel
theorem dX8_climb_170 : decode cX8_climb 170 = .ok (.iload_n 2, 1) := by decide +kernel
theorem dX8_climb_171 : decode cX8_climb 171 = .ok (.if_icmp .ne 20, 3) := by decide +kernel
theorem dX8_climb_174 : decode cX8_climb 174 = .ok (.aload_n 0, 1) := by decide +kernel
theorem dX8_climb_175 : decode cX8_climb 175 = .ok (.getfield 32, 3) := by decide +kernel
theorem dX8_climb_178 : decode cX8_climb 178 = .ok (.iload 9, 2) := by decide +kernel
theorem dX8_climb_180 : decode cX8_climb 180 = .ok (.iconst 5, 1) := by decide +kernel
theorem dX8_climb_181 : decode cX8_climb 181 = .ok (.iadd, 1) := by decide +kernel
theorem dX8_climb_182 : decode cX8_climb 182 = .ok (.iaload, 1) := by decide +kernel
theorem dX8_climb_183 : decode cX8_climb 183 = .ok (.iload_n 3, 1) := by decide +kernel
theorem dX8_climb_184 : decode cX8_climb 184 = .ok (.if_icmp .ne 7, 3) := by decide +kernel
theorem dX8_climb_187 : decode cX8_climb 187 = .ok (.iconst 1, 1) := by decide +kernel
theorem dX8_climb_188 : decode cX8_climb 188 = .ok (.goto 4, 3) := by decide +kernel
theorem dX8_climb_191 : decode cX8_climb 191 = .ok (.iconst 0, 1) := by decide +kernel
theorem dX8_climb_192 : decode cX8_climb 192 = .ok (.istore 11, 2) := by decide +kernel
theorem dX8_climb_194 : decode cX8_climb 194 = .ok (.iload 10, 2) := by decide +kernel
theorem dX8_climb_196 : decode cX8_climb 196 = .ok (.ifCond .ne 8, 3) := by decide +kernel
theorem dX8_climb_199 : decode cX8_climb 199 = .ok (.iload 11, 2) := by decide +kernel
theorem dX8_climb_201 : decode cX8_climb 201 = .ok (.ifCond .eq 36, 3) := by decide +kernel
theorem dX8_climb_204 : decode cX8_climb 204 = .ok (.iload 7, 2) := by decide +kernel
theorem dX8_climb_206 : decode cX8_climb 206 = .ok (.iconst (-1), 1) := by decide +kernel
theorem dX8_climb_207 : decode cX8_climb 207 = .ok (.if_icmp .eq 18, 3) := by decide +kernel
theorem dX8_climb_210 : decode cX8_climb 210 = .ok (.aload_n 0, 1) := by decide +kernel
theorem dX8_climb_211 : decode cX8_climb 211 = .ok (.getfield 32, 3) := by decide +kernel
theorem dX8_climb_214 : decode cX8_climb 214 = .ok (.iload 9, 2) := by decide +kernel
theorem dX8_climb_216 : decode cX8_climb 216 = .ok (.bipush 6, 2) := by decide +kernel
theorem dX8_climb_218 : decode cX8_climb 218 = .ok (.iadd, 1) := by decide +kernel
theorem dX8_climb_219 : decode cX8_climb 219 = .ok (.iaload, 1) := by decide +kernel
theorem dX8_climb_220 : decode cX8_climb 220 = .ok (.iload 7, 2) := by decide +kernel
theorem dX8_climb_222 : decode cX8_climb 222 = .ok (.if_icmp .ge 15, 3) := by decide +kernel
theorem dX8_climb_225 : decode cX8_climb 225 = .ok (.aload_n 0, 1) := by decide +kernel
theorem dX8_climb_226 : decode cX8_climb 226 = .ok (.getfield 32, 3) := by decide +kernel
theorem dX8_climb_229 : decode cX8_climb 229 = .ok (.iload 9, 2) := by decide +kernel
theorem dX8_climb_231 : decode cX8_climb 231 = .ok (.bipush 6, 2) := by decide +kernel
theorem dX8_climb_233 : decode cX8_climb 233 = .ok (.iadd, 1) := by decide +kernel
theorem dX8_climb_234 : decode cX8_climb 234 = .ok (.iaload, 1) := by decide +kernel
theorem dX8_climb_235 : decode cX8_climb 235 = .ok (.istore 7, 2) := by decide +kernel
theorem dX8_climb_237 : decode cX8_climb 237 = .ok (.iinc 8 1, 3) := by decide +kernel
theorem dX8_climb_240 : decode cX8_climb 240 = .ok (.goto (-234), 3) := by decide +kernel
theorem dX8_climb_243 : decode cX8_climb 243 = .ok (.iload 7, 2) := by decide +kernel
theorem dX8_climb_245 : decode cX8_climb 245 = .ok (.ireturn, 1) := by decide +kernel
theorem dX8_corners_0 : decode cX8_corners 0 = .ok (.iconst 5, 1) := by decide +kernel
theorem dX8_corners_1 : decode cX8_corners 1 = .ok (.iload_n 2, 1) := by decide +kernel
theorem dX8_corners_2 : decode cX8_corners 2 = .ok (.imul, 1) := by decide +kernel
theorem dX8_corners_3 : decode cX8_corners 3 = .ok (.istore_n 3, 1) := by decide +kernel
theorem dX8_corners_4 : decode cX8_corners 4 = .ok (.aload_n 0, 1) := by decide +kernel
theorem dX8_corners_5 : decode cX8_corners 5 = .ok (.aload_n 1, 1) := by decide +kernel
theorem dX8_corners_6 : decode cX8_corners 6 = .ok (.iload_n 3, 1) := by decide +kernel
theorem dX8_corners_7 : decode cX8_corners 7 = .ok (.iaload, 1) := by decide +kernel
theorem dX8_corners_8 : decode cX8_corners 8 = .ok (.aload_n 1, 1) := by decide +kernel
theorem dX8_corners_9 : decode cX8_corners 9 = .ok (.iload_n 3, 1) := by decide +kernel
theorem dX8_corners_10 : decode cX8_corners 10 = .ok (.iconst 1, 1) := by decide +kernel
theorem dX8_corners_11 : decode cX8_corners 11 = .ok (.iadd, 1) := by decide +kernel
theorem dX8_corners_12 : decode cX8_corners 12 = .ok (.iaload, 1) := by decide +kernel
theorem dX8_corners_13 : decode cX8_corners 13 = .ok (.aload_n 1, 1) := by decide +kernel
theorem dX8_corners_14 : decode cX8_corners 14 = .ok (.iload_n 3, 1) := by decide +kernel
theorem dX8_corners_15 : decode cX8_corners 15 = .ok (.iconst 2, 1) := by decide +kernel
theorem dX8_corners_16 : decode cX8_corners 16 = .ok (.iadd, 1) := by decide +kernel
theorem dX8_corners_17 : decode cX8_corners 17 = .ok (.iaload, 1) := by decide +kernel
theorem dX8_corners_18 : decode cX8_corners 18 = .ok (.invokevirtual 217, 3) := by decide +kernel
theorem dX8_corners_21 : decode cX8_corners 21 = .ok (.aload_n 0, 1) := by decide +kernel
theorem dX8_corners_22 : decode cX8_corners 22 = .ok (.aload_n 1, 1) := by decide +kernel
theorem dX8_corners_23 : decode cX8_corners 23 = .ok (.iload_n 3, 1) := by decide +kernel
theorem dX8_corners_24 : decode cX8_corners 24 = .ok (.iaload, 1) := by decide +kernel
theorem dX8_corners_25 : decode cX8_corners 25 = .ok (.aload_n 1, 1) := by decide +kernel
theorem dX8_corners_26 : decode cX8_corners 26 = .ok (.iload_n 3, 1) := by decide +kernel
theorem dX8_corners_27 : decode cX8_corners 27 = .ok (.iconst 3, 1) := by decide +kernel
theorem dX8_corners_28 : decode cX8_corners 28 = .ok (.iadd, 1) := by decide +kernel
theorem dX8_corners_29 : decode cX8_corners 29 = .ok (.iaload, 1) := by decide +kernel
theorem dX8_corners_30 : decode cX8_corners 30 = .ok (.aload_n 1, 1) := by decide +kernel
theorem dX8_corners_31 : decode cX8_corners 31 = .ok (.iload_n 3, 1) := by decide +kernel
theorem dX8_corners_32 : decode cX8_corners 32 = .ok (.iconst 2, 1) := by decide +kernel
theorem dX8_corners_33 : decode cX8_corners 33 = .ok (.iadd, 1) := by decide +kernel
theorem dX8_corners_34 : decode cX8_corners 34 = .ok (.iaload, 1) := by decide +kernel
theorem dX8_corners_35 : decode cX8_corners 35 = .ok (.invokevirtual 217, 3) := by decide +kernel
theorem dX8_corners_38 : decode cX8_corners 38 = .ok (.aload_n 0, 1) := by decide +kernel
theorem dX8_corners_39 : decode cX8_corners 39 = .ok (.aload_n 1, 1) := by decide +kernel
theorem dX8_corners_40 : decode cX8_corners 40 = .ok (.iload_n 3, 1) := by decide +kernel
theorem dX8_corners_41 : decode cX8_corners 41 = .ok (.iaload, 1) := by decide +kernel
theorem dX8_corners_42 : decode cX8_corners 42 = .ok (.aload_n 1, 1) := by decide +kernel
theorem dX8_corners_43 : decode cX8_corners 43 = .ok (.iload_n 3, 1) := by decide +kernel
theorem dX8_corners_44 : decode cX8_corners 44 = .ok (.iconst 3, 1) := by decide +kernel
theorem dX8_corners_45 : decode cX8_corners 45 = .ok (.iadd, 1) := by decide +kernel
theorem dX8_corners_46 : decode cX8_corners 46 = .ok (.iaload, 1) := by decide +kernel
theorem dX8_corners_47 : decode cX8_corners 47 = .ok (.aload_n 1, 1) := by decide +kernel
theorem dX8_corners_48 : decode cX8_corners 48 = .ok (.iload_n 3, 1) := by decide +kernel
theorem dX8_corners_49 : decode cX8_corners 49 = .ok (.iconst 4, 1) := by decide +kernel
theorem dX8_corners_50 : decode cX8_corners 50 = .ok (.iadd, 1) := by decide +kernel
theorem dX8_corners_51 : decode cX8_corners 51 = .ok (.iaload, 1) := by decide +kernel
theorem dX8_corners_52 : decode cX8_corners 52 = .ok (.invokevirtual 217, 3) := by decide +kernel
theorem dX8_corners_55 : decode cX8_corners 55 = .ok (.aload_n 0, 1) := by decide +kernel
theorem dX8_corners_56 : decode cX8_corners 56 = .ok (.aload_n 1, 1) := by decide +kernel
theorem dX8_corners_57 : decode cX8_corners 57 = .ok (.iload_n 3, 1) := by decide +kernel
theorem dX8_corners_58 : decode cX8_corners 58 = .ok (.iaload, 1) := by decide +kernel
theorem dX8_corners_59 : decode cX8_corners 59 = .ok (.aload_n 1, 1) := by decide +kernel
theorem dX8_corners_60 : decode cX8_corners 60 = .ok (.iload_n 3, 1) := by decide +kernel
theorem dX8_corners_61 : decode cX8_corners 61 = .ok (.iconst 1, 1) := by decide +kernel
theorem dX8_corners_62 : decode cX8_corners 62 = .ok (.iadd, 1) := by decide +kernel
theorem dX8_corners_63 : decode cX8_corners 63 = .ok (.iaload, 1) := by decide +kernel
theorem dX8_corners_64 : decode cX8_corners 64 = .ok (.aload_n 1, 1) := by decide +kernel
theorem dX8_corners_65 : decode cX8_corners 65 = .ok (.iload_n 3, 1) := by decide +kernel
theorem dX8_corners_66 : decode cX8_corners 66 = .ok (.iconst 4, 1) := by decide +kernel
theorem dX8_corners_67 : decode cX8_corners 67 = .ok (.iadd, 1) := by decide +kernel
theorem dX8_corners_68 : decode cX8_corners 68 = .ok (.iaload, 1) := by decide +kernel
theorem dX8_corners_69 : decode cX8_corners 69 = .ok (.invokevirtual 217, 3) := by decide +kernel
theorem dX8_corners_72 : decode cX8_corners 72 = .ok (.return_, 1) := by decide +kernel
theorem dX8_count_0 : decode cX8_count 0 = .ok (.iconst 0, 1) := by decide +kernel
theorem dX8_count_1 : decode cX8_count 1 = .ok (.istore_n 2, 1) := by decide +kernel
theorem dX8_count_2 : decode cX8_count 2 = .ok (.iload_n 1, 1) := by decide +kernel
theorem dX8_count_3 : decode cX8_count 3 = .ok (.tableswitch 143 0 7 #[45, 50, 83, 88, 123, 128, 133, 138], 45) := by decide +kernel
theorem dX8_count_48 : decode cX8_count 48 = .ok (.aload_n 0, 1) := by decide +kernel
theorem dX8_count_49 : decode cX8_count 49 = .ok (.getfield 121, 3) := by decide +kernel
theorem dX8_count_52 : decode cX8_count 52 = .ok (.ireturn, 1) := by decide +kernel
theorem dX8_count_53 : decode cX8_count 53 = .ok (.iconst 0, 1) := by decide +kernel
theorem dX8_count_54 : decode cX8_count 54 = .ok (.istore_n 3, 1) := by decide +kernel
theorem dX8_count_55 : decode cX8_count 55 = .ok (.iload_n 3, 1) := by decide +kernel
theorem dX8_count_56 : decode cX8_count 56 = .ok (.bipush 8, 2) := by decide +kernel
theorem dX8_count_58 : decode cX8_count 58 = .ok (.if_icmp .ge 26, 3) := by decide +kernel
theorem dX8_count_61 : decode cX8_count 61 = .ok (.iload_n 2, 1) := by decide +kernel
theorem dX8_count_62 : decode cX8_count 62 = .ok (.aload_n 0, 1) := by decide +kernel
theorem dX8_count_63 : decode cX8_count 63 = .ok (.getfield 13, 3) := by decide +kernel
theorem dX8_count_66 : decode cX8_count 66 = .ok (.iload_n 3, 1) := by decide +kernel
theorem dX8_count_67 : decode cX8_count 67 = .ok (.baload, 1) := by decide +kernel
theorem dX8_count_68 : decode cX8_count 68 = .ok (.ifCond .eq 7, 3) := by decide +kernel
theorem dX8_count_71 : decode cX8_count 71 = .ok (.iconst 1, 1) := by decide +kernel
theorem dX8_count_72 : decode cX8_count 72 = .ok (.goto 4, 3) := by decide +kernel
theorem dX8_count_75 : decode cX8_count 75 = .ok (.iconst 0, 1) := by decide +kernel
theorem dX8_count_76 : decode cX8_count 76 = .ok (.iadd, 1) := by decide +kernel
theorem dX8_count_77 : decode cX8_count 77 = .ok (.istore_n 2, 1) := by decide +kernel
theorem dX8_count_78 : decode cX8_count 78 = .ok (.iinc 3 1, 3) := by decide +kernel
theorem dX8_count_81 : decode cX8_count 81 = .ok (.goto (-26), 3) := by decide +kernel
theorem dX8_count_84 : decode cX8_count 84 = .ok (.iload_n 2, 1) := by decide +kernel
theorem dX8_count_85 : decode cX8_count 85 = .ok (.ireturn, 1) := by decide +kernel
theorem dX8_count_86 : decode cX8_count 86 = .ok (.aload_n 0, 1) := by decide +kernel
theorem dX8_count_87 : decode cX8_count 87 = .ok (.getfield 135, 3) := by decide +kernel
theorem dX8_count_90 : decode cX8_count 90 = .ok (.ireturn, 1) := by decide +kernel
theorem dX8_count_91 : decode cX8_count 91 = .ok (.iconst 0, 1) := by decide +kernel
theorem dX8_count_92 : decode cX8_count 92 = .ok (.istore_n 3, 1) := by decide +kernel
theorem dX8_count_93 : decode cX8_count 93 = .ok (.iload_n 3, 1) := by decide +kernel
theorem dX8_count_94 : decode cX8_count 94 = .ok (.aload_n 0, 1) := by decide +kernel
theorem dX8_count_95 : decode cX8_count 95 = .ok (.getfield 135, 3) := by decide +kernel
theorem dX8_count_98 : decode cX8_count 98 = .ok (.if_icmp .ge 26, 3) := by decide +kernel
theorem dX8_count_101 : decode cX8_count 101 = .ok (.iload_n 2, 1) := by decide +kernel
theorem dX8_count_102 : decode cX8_count 102 = .ok (.aload_n 0, 1) := by decide +kernel
theorem dX8_count_103 : decode cX8_count 103 = .ok (.getfield 23, 3) := by decide +kernel
theorem dX8_count_106 : decode cX8_count 106 = .ok (.iload_n 3, 1) := by decide +kernel
theorem dX8_count_107 : decode cX8_count 107 = .ok (.baload, 1) := by decide +kernel
theorem dX8_count_108 : decode cX8_count 108 = .ok (.ifCond .eq 7, 3) := by decide +kernel
theorem dX8_count_111 : decode cX8_count 111 = .ok (.iconst 1, 1) := by decide +kernel
theorem dX8_count_112 : decode cX8_count 112 = .ok (.goto 4, 3) := by decide +kernel
theorem dX8_count_115 : decode cX8_count 115 = .ok (.iconst 0, 1) := by decide +kernel
theorem dX8_count_116 : decode cX8_count 116 = .ok (.iadd, 1) := by decide +kernel
theorem dX8_count_117 : decode cX8_count 117 = .ok (.istore_n 2, 1) := by decide +kernel
theorem dX8_count_118 : decode cX8_count 118 = .ok (.iinc 3 1, 3) := by decide +kernel
theorem dX8_count_121 : decode cX8_count 121 = .ok (.goto (-28), 3) := by decide +kernel
theorem dX8_count_124 : decode cX8_count 124 = .ok (.iload_n 2, 1) := by decide +kernel
theorem dX8_count_125 : decode cX8_count 125 = .ok (.ireturn, 1) := by decide +kernel
theorem dX8_count_126 : decode cX8_count 126 = .ok (.aload_n 0, 1) := by decide +kernel
theorem dX8_count_127 : decode cX8_count 127 = .ok (.getfield 142, 3) := by decide +kernel
theorem dX8_count_130 : decode cX8_count 130 = .ok (.ireturn, 1) := by decide +kernel
theorem dX8_count_131 : decode cX8_count 131 = .ok (.aload_n 0, 1) := by decide +kernel
theorem dX8_count_132 : decode cX8_count 132 = .ok (.getfield 146, 3) := by decide +kernel
theorem dX8_count_135 : decode cX8_count 135 = .ok (.ireturn, 1) := by decide +kernel
theorem dX8_count_136 : decode cX8_count 136 = .ok (.aload_n 0, 1) := by decide +kernel
theorem dX8_count_137 : decode cX8_count 137 = .ok (.getfield 129, 3) := by decide +kernel
theorem dX8_count_140 : decode cX8_count 140 = .ok (.ireturn, 1) := by decide +kernel
theorem dX8_count_141 : decode cX8_count 141 = .ok (.aload_n 0, 1) := by decide +kernel
theorem dX8_count_142 : decode cX8_count 142 = .ok (.getfield 266, 3) := by decide +kernel
theorem dX8_count_145 : decode cX8_count 145 = .ok (.ireturn, 1) := by decide +kernel
theorem dX8_count_146 : decode cX8_count 146 = .ok (.bipush (-2), 2) := by decide +kernel
theorem dX8_count_148 : decode cX8_count 148 = .ok (.ireturn, 1) := by decide +kernel
theorem dX8_cuts_0 : decode cX8_cuts 0 = .ok (.iload_n 2, 1) := by decide +kernel
theorem dX8_cuts_1 : decode cX8_cuts 1 = .ok (.ifCond .ne 20, 3) := by decide +kernel
theorem dX8_cuts_4 : decode cX8_cuts 4 = .ok (.iload_n 1, 1) := by decide +kernel
theorem dX8_cuts_5 : decode cX8_cuts 5 = .ok (.iload_n 3, 1) := by decide +kernel
theorem dX8_cuts_6 : decode cX8_cuts 6 = .ok (.if_icmp .lt 13, 3) := by decide +kernel
theorem dX8_cuts_9 : decode cX8_cuts 9 = .ok (.iload_n 1, 1) := by decide +kernel
theorem dX8_cuts_10 : decode cX8_cuts 10 = .ok (.iload 4, 2) := by decide +kernel
theorem dX8_cuts_12 : decode cX8_cuts 12 = .ok (.if_icmp .gt 7, 3) := by decide +kernel
theorem dX8_cuts_15 : decode cX8_cuts 15 = .ok (.iconst 1, 1) := by decide +kernel
theorem dX8_cuts_16 : decode cX8_cuts 16 = .ok (.goto 4, 3) := by decide +kernel
theorem dX8_cuts_19 : decode cX8_cuts 19 = .ok (.iconst 0, 1) := by decide +kernel
theorem dX8_cuts_20 : decode cX8_cuts 20 = .ok (.ireturn, 1) := by decide +kernel
theorem dX8_cuts_21 : decode cX8_cuts 21 = .ok (.aload_n 0, 1) := by decide +kernel
theorem dX8_cuts_22 : decode cX8_cuts 22 = .ok (.getfield 171, 3) := by decide +kernel
theorem dX8_cuts_25 : decode cX8_cuts 25 = .ok (.iload_n 2, 1) := by decide +kernel
theorem dX8_cuts_26 : decode cX8_cuts 26 = .ok (.invokestatic 167, 3) := by decide +kernel
theorem dX8_cuts_29 : decode cX8_cuts 29 = .ok (.idiv, 1) := by decide +kernel
theorem dX8_cuts_30 : decode cX8_cuts 30 = .ok (.istore 5, 2) := by decide +kernel
theorem dX8_cuts_32 : decode cX8_cuts 32 = .ok (.iload_n 2, 1) := by decide +kernel
theorem dX8_cuts_33 : decode cX8_cuts 33 = .ok (.ifCond .le 9, 3) := by decide +kernel
theorem dX8_cuts_36 : decode cX8_cuts 36 = .ok (.iload_n 3, 1) := by decide +kernel
theorem dX8_cuts_37 : decode cX8_cuts 37 = .ok (.iload_n 1, 1) := by decide +kernel
theorem dX8_cuts_38 : decode cX8_cuts 38 = .ok (.isub, 1) := by decide +kernel
theorem dX8_cuts_39 : decode cX8_cuts 39 = .ok (.goto 7, 3) := by decide +kernel
theorem dX8_cuts_42 : decode cX8_cuts 42 = .ok (.iload_n 1, 1) := by decide +kernel
theorem dX8_cuts_43 : decode cX8_cuts 43 = .ok (.iload 4, 2) := by decide +kernel
theorem dX8_cuts_45 : decode cX8_cuts 45 = .ok (.isub, 1) := by decide +kernel
theorem dX8_cuts_46 : decode cX8_cuts 46 = .ok (.iload 5, 2) := by decide +kernel
theorem dX8_cuts_48 : decode cX8_cuts 48 = .ok (.imul, 1) := by decide +kernel
theorem dX8_cuts_49 : decode cX8_cuts 49 = .ok (.istore 6, 2) := by decide +kernel
theorem dX8_cuts_51 : decode cX8_cuts 51 = .ok (.iload_n 2, 1) := by decide +kernel
theorem dX8_cuts_52 : decode cX8_cuts 52 = .ok (.ifCond .le 10, 3) := by decide +kernel
theorem dX8_cuts_55 : decode cX8_cuts 55 = .ok (.iload 4, 2) := by decide +kernel
theorem dX8_cuts_57 : decode cX8_cuts 57 = .ok (.iload_n 1, 1) := by decide +kernel
theorem dX8_cuts_58 : decode cX8_cuts 58 = .ok (.isub, 1) := by decide +kernel
theorem dX8_cuts_59 : decode cX8_cuts 59 = .ok (.goto 6, 3) := by decide +kernel
theorem dX8_cuts_62 : decode cX8_cuts 62 = .ok (.iload_n 1, 1) := by decide +kernel
theorem dX8_cuts_63 : decode cX8_cuts 63 = .ok (.iload_n 3, 1) := by decide +kernel
theorem dX8_cuts_64 : decode cX8_cuts 64 = .ok (.isub, 1) := by decide +kernel
theorem dX8_cuts_65 : decode cX8_cuts 65 = .ok (.iload 5, 2) := by decide +kernel
theorem dX8_cuts_67 : decode cX8_cuts 67 = .ok (.imul, 1) := by decide +kernel
theorem dX8_cuts_68 : decode cX8_cuts 68 = .ok (.istore 7, 2) := by decide +kernel
theorem dX8_cuts_70 : decode cX8_cuts 70 = .ok (.aload_n 0, 1) := by decide +kernel
theorem dX8_cuts_71 : decode cX8_cuts 71 = .ok (.iload 6, 2) := by decide +kernel
theorem dX8_cuts_73 : decode cX8_cuts 73 = .ok (.aload_n 0, 1) := by decide +kernel
theorem dX8_cuts_74 : decode cX8_cuts 74 = .ok (.getfield 174, 3) := by decide +kernel
theorem dX8_cuts_77 : decode cX8_cuts 77 = .ok (.if_icmp .le 8, 3) := by decide +kernel
theorem dX8_cuts_80 : decode cX8_cuts 80 = .ok (.iload 6, 2) := by decide +kernel
theorem dX8_cuts_82 : decode cX8_cuts 82 = .ok (.goto 7, 3) := by decide +kernel
theorem dX8_cuts_85 : decode cX8_cuts 85 = .ok (.aload_n 0, 1) := by decide +kernel
theorem dX8_cuts_86 : decode cX8_cuts 86 = .ok (.getfield 174, 3) := by decide +kernel
theorem dX8_cuts_89 : decode cX8_cuts 89 = .ok (.putfield 174, 3) := by decide +kernel
theorem dX8_cuts_92 : decode cX8_cuts 92 = .ok (.aload_n 0, 1) := by decide +kernel
theorem dX8_cuts_93 : decode cX8_cuts 93 = .ok (.iload 7, 2) := by decide +kernel
theorem dX8_cuts_95 : decode cX8_cuts 95 = .ok (.aload_n 0, 1) := by decide +kernel
theorem dX8_cuts_96 : decode cX8_cuts 96 = .ok (.getfield 177, 3) := by decide +kernel
theorem dX8_cuts_99 : decode cX8_cuts 99 = .ok (.if_icmp .ge 8, 3) := by decide +kernel
theorem dX8_cuts_102 : decode cX8_cuts 102 = .ok (.iload 7, 2) := by decide +kernel
theorem dX8_cuts_104 : decode cX8_cuts 104 = .ok (.goto 7, 3) := by decide +kernel
theorem dX8_cuts_107 : decode cX8_cuts 107 = .ok (.aload_n 0, 1) := by decide +kernel
theorem dX8_cuts_108 : decode cX8_cuts 108 = .ok (.getfield 177, 3) := by decide +kernel
theorem dX8_cuts_111 : decode cX8_cuts 111 = .ok (.putfield 177, 3) := by decide +kernel
theorem dX8_cuts_114 : decode cX8_cuts 114 = .ok (.iconst 1, 1) := by decide +kernel
theorem dX8_cuts_115 : decode cX8_cuts 115 = .ok (.ireturn, 1) := by decide +kernel
theorem dX8_digest_0 : decode cX8_digest 0 = .ok (.ldc2_w 275, 3) := by decide +kernel
theorem dX8_digest_3 : decode cX8_digest 3 = .ok (.lstore_n 1, 1) := by decide +kernel
theorem dX8_digest_4 : decode cX8_digest 4 = .ok (.iconst 0, 1) := by decide +kernel
theorem dX8_digest_5 : decode cX8_digest 5 = .ok (.istore_n 3, 1) := by decide +kernel
theorem dX8_digest_6 : decode cX8_digest 6 = .ok (.iload_n 3, 1) := by decide +kernel
theorem dX8_digest_7 : decode cX8_digest 7 = .ok (.bipush 8, 2) := by decide +kernel
theorem dX8_digest_9 : decode cX8_digest 9 = .ok (.if_icmp .ge 22, 3) := by decide +kernel
theorem dX8_digest_12 : decode cX8_digest 12 = .ok (.ldc2_w 277, 3) := by decide +kernel
theorem dX8_digest_15 : decode cX8_digest 15 = .ok (.lload_n 1, 1) := by decide +kernel
theorem dX8_digest_16 : decode cX8_digest 16 = .ok (.lmul, 1) := by decide +kernel
theorem dX8_digest_17 : decode cX8_digest 17 = .ok (.aload_n 0, 1) := by decide +kernel
theorem dX8_digest_18 : decode cX8_digest 18 = .ok (.iload_n 3, 1) := by decide +kernel
theorem dX8_digest_19 : decode cX8_digest 19 = .ok (.invokevirtual 279, 3) := by decide +kernel
theorem dX8_digest_22 : decode cX8_digest 22 = .ok (.i2l, 1) := by decide +kernel
theorem dX8_digest_23 : decode cX8_digest 23 = .ok (.ladd, 1) := by decide +kernel
theorem dX8_digest_24 : decode cX8_digest 24 = .ok (.lstore_n 1, 1) := by decide +kernel
theorem dX8_digest_25 : decode cX8_digest 25 = .ok (.iinc 3 1, 3) := by decide +kernel
theorem dX8_digest_28 : decode cX8_digest 28 = .ok (.goto (-22), 3) := by decide +kernel
theorem dX8_digest_31 : decode cX8_digest 31 = .ok (.iconst 0, 1) := by decide +kernel
theorem dX8_digest_32 : decode cX8_digest 32 = .ok (.istore_n 3, 1) := by decide +kernel
theorem dX8_digest_33 : decode cX8_digest 33 = .ok (.iload_n 3, 1) := by decide +kernel
theorem dX8_digest_34 : decode cX8_digest 34 = .ok (.aload_n 0, 1) := by decide +kernel
theorem dX8_digest_35 : decode cX8_digest 35 = .ok (.getfield 129, 3) := by decide +kernel
theorem dX8_digest_38 : decode cX8_digest 38 = .ok (.if_icmp .ge 40, 3) := by decide +kernel
theorem dX8_digest_41 : decode cX8_digest 41 = .ok (.iconst 0, 1) := by decide +kernel
theorem dX8_digest_42 : decode cX8_digest 42 = .ok (.istore 4, 2) := by decide +kernel
theorem dX8_digest_44 : decode cX8_digest 44 = .ok (.iload 4, 2) := by decide +kernel
theorem dX8_digest_46 : decode cX8_digest 46 = .ok (.bipush 9, 2) := by decide +kernel
theorem dX8_digest_48 : decode cX8_digest 48 = .ok (.if_icmp .ge 24, 3) := by decide +kernel
theorem dX8_digest_51 : decode cX8_digest 51 = .ok (.ldc2_w 277, 3) := by decide +kernel
theorem dX8_digest_54 : decode cX8_digest 54 = .ok (.lload_n 1, 1) := by decide +kernel
theorem dX8_digest_55 : decode cX8_digest 55 = .ok (.lmul, 1) := by decide +kernel
theorem dX8_digest_56 : decode cX8_digest 56 = .ok (.aload_n 0, 1) := by decide +kernel
theorem dX8_digest_57 : decode cX8_digest 57 = .ok (.iload_n 3, 1) := by decide +kernel
theorem dX8_digest_58 : decode cX8_digest 58 = .ok (.iload 4, 2) := by decide +kernel
theorem dX8_digest_60 : decode cX8_digest 60 = .ok (.invokevirtual 272, 3) := by decide +kernel
theorem dX8_digest_63 : decode cX8_digest 63 = .ok (.i2l, 1) := by decide +kernel
theorem dX8_digest_64 : decode cX8_digest 64 = .ok (.ladd, 1) := by decide +kernel
theorem dX8_digest_65 : decode cX8_digest 65 = .ok (.lstore_n 1, 1) := by decide +kernel
theorem dX8_digest_66 : decode cX8_digest 66 = .ok (.iinc 4 1, 3) := by decide +kernel
theorem dX8_digest_69 : decode cX8_digest 69 = .ok (.goto (-25), 3) := by decide +kernel
theorem dX8_digest_72 : decode cX8_digest 72 = .ok (.iinc 3 1, 3) := by decide +kernel
theorem dX8_digest_75 : decode cX8_digest 75 = .ok (.goto (-42), 3) := by decide +kernel
theorem dX8_digest_78 : decode cX8_digest 78 = .ok (.lload_n 1, 1) := by decide +kernel
theorem dX8_digest_79 : decode cX8_digest 79 = .ok (.lreturn, 1) := by decide +kernel
theorem dX8_door_0 : decode cX8_door 0 = .ok (.iload_n 1, 1) := by decide +kernel
theorem dX8_door_1 : decode cX8_door 1 = .ok (.iload_n 2, 1) := by decide +kernel
theorem dX8_door_2 : decode cX8_door 2 = .ok (.iload_n 3, 1) := by decide +kernel
theorem dX8_door_3 : decode cX8_door 3 = .ok (.iload 4, 2) := by decide +kernel
theorem dX8_door_5 : decode cX8_door 5 = .ok (.iload 5, 2) := by decide +kernel
theorem dX8_door_7 : decode cX8_door 7 = .ok (.invokestatic 132, 3) := by decide +kernel
theorem dX8_door_10 : decode cX8_door 10 = .ok (.ifCond .ne 6, 3) := by decide +kernel
theorem dX8_door_13 : decode cX8_door 13 = .ok (.bipush (-2), 2) := by decide +kernel
theorem dX8_door_15 : decode cX8_door 15 = .ok (.ireturn, 1) := by decide +kernel
theorem dX8_door_16 : decode cX8_door 16 = .ok (.aload_n 0, 1) := by decide +kernel
theorem dX8_door_17 : decode cX8_door 17 = .ok (.getfield 135, 3) := by decide +kernel
theorem dX8_door_20 : decode cX8_door 20 = .ok (.bipush 6, 2) := by decide +kernel
theorem dX8_door_22 : decode cX8_door 22 = .ok (.if_icmp .ne 6, 3) := by decide +kernel
theorem dX8_door_25 : decode cX8_door 25 = .ok (.bipush (-4), 2) := by decide +kernel
theorem dX8_door_27 : decode cX8_door 27 = .ok (.ireturn, 1) := by decide +kernel
theorem dX8_door_28 : decode cX8_door 28 = .ok (.aload_n 0, 1) := by decide +kernel
theorem dX8_door_29 : decode cX8_door 29 = .ok (.getfield 20, 3) := by decide +kernel
theorem dX8_door_32 : decode cX8_door 32 = .ok (.aload_n 0, 1) := by decide +kernel
theorem dX8_door_33 : decode cX8_door 33 = .ok (.getfield 135, 3) := by decide +kernel
theorem dX8_door_36 : decode cX8_door 36 = .ok (.iload_n 1, 1) := by decide +kernel
theorem dX8_door_37 : decode cX8_door 37 = .ok (.iload_n 2, 1) := by decide +kernel
theorem dX8_door_38 : decode cX8_door 38 = .ok (.iload_n 3, 1) := by decide +kernel
theorem dX8_door_39 : decode cX8_door 39 = .ok (.iload 4, 2) := by decide +kernel
theorem dX8_door_41 : decode cX8_door 41 = .ok (.iload 5, 2) := by decide +kernel
theorem dX8_door_43 : decode cX8_door 43 = .ok (.invokestatic 125, 3) := by decide +kernel
theorem dX8_door_46 : decode cX8_door 46 = .ok (.aload_n 0, 1) := by decide +kernel
theorem dX8_door_47 : decode cX8_door 47 = .ok (.dup, 1) := by decide +kernel
theorem dX8_door_48 : decode cX8_door 48 = .ok (.getfield 135, 3) := by decide +kernel
theorem dX8_door_51 : decode cX8_door 51 = .ok (.iconst 1, 1) := by decide +kernel
theorem dX8_door_52 : decode cX8_door 52 = .ok (.iadd, 1) := by decide +kernel
theorem dX8_door_53 : decode cX8_door 53 = .ok (.putfield 135, 3) := by decide +kernel
theorem dX8_door_56 : decode cX8_door 56 = .ok (.aload_n 0, 1) := by decide +kernel
theorem dX8_door_57 : decode cX8_door 57 = .ok (.getfield 135, 3) := by decide +kernel
theorem dX8_door_60 : decode cX8_door 60 = .ok (.iconst 1, 1) := by decide +kernel
theorem dX8_door_61 : decode cX8_door 61 = .ok (.isub, 1) := by decide +kernel
theorem dX8_door_62 : decode cX8_door 62 = .ok (.ireturn, 1) := by decide +kernel
theorem dX8_enters_0 : decode cX8_enters 0 = .ok (.aload_n 0, 1) := by decide +kernel
theorem dX8_enters_1 : decode cX8_enters 1 = .ok (.getfield 17, 3) := by decide +kernel
theorem dX8_enters_4 : decode cX8_enters 4 = .ok (.iconst 5, 1) := by decide +kernel
theorem dX8_enters_5 : decode cX8_enters 5 = .ok (.iload_n 1, 1) := by decide +kernel
theorem dX8_enters_6 : decode cX8_enters 6 = .ok (.imul, 1) := by decide +kernel
theorem dX8_enters_7 : decode cX8_enters 7 = .ok (.iconst 1, 1) := by decide +kernel
theorem dX8_enters_8 : decode cX8_enters 8 = .ok (.iadd, 1) := by decide +kernel
theorem dX8_enters_9 : decode cX8_enters 9 = .ok (.iaload, 1) := by decide +kernel
theorem dX8_enters_10 : decode cX8_enters 10 = .ok (.istore_n 2, 1) := by decide +kernel
theorem dX8_enters_11 : decode cX8_enters 11 = .ok (.aload_n 0, 1) := by decide +kernel
theorem dX8_enters_12 : decode cX8_enters 12 = .ok (.getfield 17, 3) := by decide +kernel
theorem dX8_enters_15 : decode cX8_enters 15 = .ok (.iconst 5, 1) := by decide +kernel
theorem dX8_enters_16 : decode cX8_enters 16 = .ok (.iload_n 1, 1) := by decide +kernel
theorem dX8_enters_17 : decode cX8_enters 17 = .ok (.imul, 1) := by decide +kernel
theorem dX8_enters_18 : decode cX8_enters 18 = .ok (.iconst 2, 1) := by decide +kernel
theorem dX8_enters_19 : decode cX8_enters 19 = .ok (.iadd, 1) := by decide +kernel
theorem dX8_enters_20 : decode cX8_enters 20 = .ok (.iaload, 1) := by decide +kernel
theorem dX8_enters_21 : decode cX8_enters 21 = .ok (.istore_n 3, 1) := by decide +kernel
theorem dX8_enters_22 : decode cX8_enters 22 = .ok (.aload_n 0, 1) := by decide +kernel
theorem dX8_enters_23 : decode cX8_enters 23 = .ok (.getfield 17, 3) := by decide +kernel
theorem dX8_enters_26 : decode cX8_enters 26 = .ok (.iconst 5, 1) := by decide +kernel
theorem dX8_enters_27 : decode cX8_enters 27 = .ok (.iload_n 1, 1) := by decide +kernel
theorem dX8_enters_28 : decode cX8_enters 28 = .ok (.imul, 1) := by decide +kernel
theorem dX8_enters_29 : decode cX8_enters 29 = .ok (.iconst 3, 1) := by decide +kernel
theorem dX8_enters_30 : decode cX8_enters 30 = .ok (.iadd, 1) := by decide +kernel
theorem dX8_enters_31 : decode cX8_enters 31 = .ok (.iaload, 1) := by decide +kernel
theorem dX8_enters_32 : decode cX8_enters 32 = .ok (.istore 4, 2) := by decide +kernel
theorem dX8_enters_34 : decode cX8_enters 34 = .ok (.aload_n 0, 1) := by decide +kernel
theorem dX8_enters_35 : decode cX8_enters 35 = .ok (.getfield 17, 3) := by decide +kernel
theorem dX8_enters_38 : decode cX8_enters 38 = .ok (.iconst 5, 1) := by decide +kernel
theorem dX8_enters_39 : decode cX8_enters 39 = .ok (.iload_n 1, 1) := by decide +kernel
theorem dX8_enters_40 : decode cX8_enters 40 = .ok (.imul, 1) := by decide +kernel
theorem dX8_enters_41 : decode cX8_enters 41 = .ok (.iconst 4, 1) := by decide +kernel
theorem dX8_enters_42 : decode cX8_enters 42 = .ok (.iadd, 1) := by decide +kernel
theorem dX8_enters_43 : decode cX8_enters 43 = .ok (.iaload, 1) := by decide +kernel
theorem dX8_enters_44 : decode cX8_enters 44 = .ok (.istore 5, 2) := by decide +kernel
theorem dX8_enters_46 : decode cX8_enters 46 = .ok (.aload_n 0, 1) := by decide +kernel
theorem dX8_enters_47 : decode cX8_enters 47 = .ok (.getfield 161, 3) := by decide +kernel
theorem dX8_enters_50 : decode cX8_enters 50 = .ok (.ifCond .ne 20, 3) := by decide +kernel
theorem dX8_enters_53 : decode cX8_enters 53 = .ok (.aload_n 0, 1) := by decide +kernel
theorem dX8_enters_54 : decode cX8_enters 54 = .ok (.getfield 155, 3) := by decide +kernel
theorem dX8_enters_57 : decode cX8_enters 57 = .ok (.iload_n 2, 1) := by decide +kernel
theorem dX8_enters_58 : decode cX8_enters 58 = .ok (.if_icmp .le 36, 3) := by decide +kernel
theorem dX8_enters_61 : decode cX8_enters 61 = .ok (.aload_n 0, 1) := by decide +kernel
theorem dX8_enters_62 : decode cX8_enters 62 = .ok (.getfield 155, 3) := by decide +kernel
theorem dX8_enters_65 : decode cX8_enters 65 = .ok (.iload 4, 2) := by decide +kernel
theorem dX8_enters_67 : decode cX8_enters 67 = .ok (.if_icmp .ge 27, 3) := by decide +kernel
theorem dX8_enters_70 : decode cX8_enters 70 = .ok (.aload_n 0, 1) := by decide +kernel
theorem dX8_enters_71 : decode cX8_enters 71 = .ok (.getfield 164, 3) := by decide +kernel
theorem dX8_enters_74 : decode cX8_enters 74 = .ok (.ifCond .ne 22, 3) := by decide +kernel
theorem dX8_enters_77 : decode cX8_enters 77 = .ok (.aload_n 0, 1) := by decide +kernel
theorem dX8_enters_78 : decode cX8_enters 78 = .ok (.getfield 158, 3) := by decide +kernel
theorem dX8_enters_81 : decode cX8_enters 81 = .ok (.iload_n 3, 1) := by decide +kernel
theorem dX8_enters_82 : decode cX8_enters 82 = .ok (.if_icmp .le 12, 3) := by decide +kernel
theorem dX8_enters_85 : decode cX8_enters 85 = .ok (.aload_n 0, 1) := by decide +kernel
theorem dX8_enters_86 : decode cX8_enters 86 = .ok (.getfield 158, 3) := by decide +kernel
theorem dX8_enters_89 : decode cX8_enters 89 = .ok (.iload 5, 2) := by decide +kernel
theorem dX8_enters_91 : decode cX8_enters 91 = .ok (.if_icmp .lt 5, 3) := by decide +kernel
theorem dX8_enters_94 : decode cX8_enters 94 = .ok (.iconst 0, 1) := by decide +kernel
theorem dX8_enters_95 : decode cX8_enters 95 = .ok (.ireturn, 1) := by decide +kernel
theorem dX8_enters_96 : decode cX8_enters 96 = .ok (.aload_n 0, 1) := by decide +kernel
theorem dX8_enters_97 : decode cX8_enters 97 = .ok (.getfield 161, 3) := by decide +kernel
theorem dX8_enters_100 : decode cX8_enters 100 = .ok (.ifCond .ne 12, 3) := by decide +kernel
theorem dX8_enters_103 : decode cX8_enters 103 = .ok (.aload_n 0, 1) := by decide +kernel
theorem dX8_enters_104 : decode cX8_enters 104 = .ok (.getfield 164, 3) := by decide +kernel
theorem dX8_enters_107 : decode cX8_enters 107 = .ok (.ifCond .ne 5, 3) := by decide +kernel
theorem dX8_enters_110 : decode cX8_enters 110 = .ok (.iconst 1, 1) := by decide +kernel
theorem dX8_enters_111 : decode cX8_enters 111 = .ok (.ireturn, 1) := by decide +kernel
theorem dX8_enters_112 : decode cX8_enters 112 = .ok (.aload_n 0, 1) := by decide +kernel
theorem dX8_enters_113 : decode cX8_enters 113 = .ok (.ldc 184, 2) := by decide +kernel
theorem dX8_enters_115 : decode cX8_enters 115 = .ok (.putfield 174, 3) := by decide +kernel
theorem dX8_enters_118 : decode cX8_enters 118 = .ok (.aload_n 0, 1) := by decide +kernel
theorem dX8_enters_119 : decode cX8_enters 119 = .ok (.ldc 185, 2) := by decide +kernel
theorem dX8_enters_121 : decode cX8_enters 121 = .ok (.putfield 177, 3) := by decide +kernel
theorem dX8_enters_124 : decode cX8_enters 124 = .ok (.aload_n 0, 1) := by decide +kernel
theorem dX8_enters_125 : decode cX8_enters 125 = .ok (.aload_n 0, 1) := by decide +kernel
theorem dX8_enters_126 : decode cX8_enters 126 = .ok (.getfield 155, 3) := by decide +kernel
theorem dX8_enters_129 : decode cX8_enters 129 = .ok (.aload_n 0, 1) := by decide +kernel
theorem dX8_enters_130 : decode cX8_enters 130 = .ok (.getfield 161, 3) := by decide +kernel
theorem dX8_enters_133 : decode cX8_enters 133 = .ok (.iload_n 2, 1) := by decide +kernel
theorem dX8_enters_134 : decode cX8_enters 134 = .ok (.iload 4, 2) := by decide +kernel
theorem dX8_enters_136 : decode cX8_enters 136 = .ok (.invokevirtual 180, 3) := by decide +kernel
theorem dX8_enters_139 : decode cX8_enters 139 = .ok (.pop, 1) := by decide +kernel
theorem dX8_enters_140 : decode cX8_enters 140 = .ok (.aload_n 0, 1) := by decide +kernel
