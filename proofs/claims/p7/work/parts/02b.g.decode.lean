theorem dX8_room_7 : decode cX8_room 7 = .ok (.invokestatic 117, 3) := by decide +kernel
theorem dX8_room_10 : decode cX8_room 10 = .ok (.ifCond .ne 6, 3) := by decide +kernel
theorem dX8_room_13 : decode cX8_room 13 = .ok (.bipush (-2), 2) := by decide +kernel
theorem dX8_room_15 : decode cX8_room 15 = .ok (.ireturn, 1) := by decide +kernel
theorem dX8_room_16 : decode cX8_room 16 = .ok (.aload_n 0, 1) := by decide +kernel
theorem dX8_room_17 : decode cX8_room 17 = .ok (.getfield 121, 3) := by decide +kernel
theorem dX8_room_20 : decode cX8_room 20 = .ok (.bipush 12, 2) := by decide +kernel
theorem dX8_room_22 : decode cX8_room 22 = .ok (.if_icmp .ne 6, 3) := by decide +kernel
theorem dX8_room_25 : decode cX8_room 25 = .ok (.bipush (-4), 2) := by decide +kernel
theorem dX8_room_27 : decode cX8_room 27 = .ok (.ireturn, 1) := by decide +kernel
theorem dX8_room_28 : decode cX8_room 28 = .ok (.aload_n 0, 1) := by decide +kernel
theorem dX8_room_29 : decode cX8_room 29 = .ok (.getfield 7, 3) := by decide +kernel
theorem dX8_room_32 : decode cX8_room 32 = .ok (.aload_n 0, 1) := by decide +kernel
theorem dX8_room_33 : decode cX8_room 33 = .ok (.getfield 121, 3) := by decide +kernel
theorem dX8_room_36 : decode cX8_room 36 = .ok (.iload_n 1, 1) := by decide +kernel
theorem dX8_room_37 : decode cX8_room 37 = .ok (.iload_n 2, 1) := by decide +kernel
theorem dX8_room_38 : decode cX8_room 38 = .ok (.iload_n 3, 1) := by decide +kernel
theorem dX8_room_39 : decode cX8_room 39 = .ok (.iload 4, 2) := by decide +kernel
theorem dX8_room_41 : decode cX8_room 41 = .ok (.iload 5, 2) := by decide +kernel
theorem dX8_room_43 : decode cX8_room 43 = .ok (.invokestatic 125, 3) := by decide +kernel
theorem dX8_room_46 : decode cX8_room 46 = .ok (.aload_n 0, 1) := by decide +kernel
theorem dX8_room_47 : decode cX8_room 47 = .ok (.dup, 1) := by decide +kernel
theorem dX8_room_48 : decode cX8_room 48 = .ok (.getfield 121, 3) := by decide +kernel
theorem dX8_room_51 : decode cX8_room 51 = .ok (.iconst 1, 1) := by decide +kernel
theorem dX8_room_52 : decode cX8_room 52 = .ok (.iadd, 1) := by decide +kernel
theorem dX8_room_53 : decode cX8_room 53 = .ok (.putfield 121, 3) := by decide +kernel
theorem dX8_room_56 : decode cX8_room 56 = .ok (.aload_n 0, 1) := by decide +kernel
theorem dX8_room_57 : decode cX8_room 57 = .ok (.getfield 121, 3) := by decide +kernel
theorem dX8_room_60 : decode cX8_room 60 = .ok (.iconst 1, 1) := by decide +kernel
theorem dX8_room_61 : decode cX8_room 61 = .ok (.isub, 1) := by decide +kernel
theorem dX8_room_62 : decode cX8_room 62 = .ok (.ireturn, 1) := by decide +kernel
theorem dX8_see_0 : decode cX8_see 0 = .ok (.iload_n 1, 1) := by decide +kernel
theorem dX8_see_1 : decode cX8_see 1 = .ok (.iload_n 2, 1) := by decide +kernel
theorem dX8_see_2 : decode cX8_see 2 = .ok (.iload_n 3, 1) := by decide +kernel
theorem dX8_see_3 : decode cX8_see 3 = .ok (.invokestatic 114, 3) := by decide +kernel
theorem dX8_see_6 : decode cX8_see 6 = .ok (.ifCond .eq 28, 3) := by decide +kernel
theorem dX8_see_9 : decode cX8_see 9 = .ok (.iload_n 1, 1) := by decide +kernel
theorem dX8_see_10 : decode cX8_see 10 = .ok (.iload 4, 2) := by decide +kernel
theorem dX8_see_12 : decode cX8_see 12 = .ok (.iload 5, 2) := by decide +kernel
theorem dX8_see_14 : decode cX8_see 14 = .ok (.invokestatic 114, 3) := by decide +kernel
theorem dX8_see_17 : decode cX8_see 17 = .ok (.ifCond .eq 17, 3) := by decide +kernel
theorem dX8_see_20 : decode cX8_see 20 = .ok (.aload_n 0, 1) := by decide +kernel
theorem dX8_see_21 : decode cX8_see 21 = .ok (.iload_n 1, 1) := by decide +kernel
theorem dX8_see_22 : decode cX8_see 22 = .ok (.iload_n 2, 1) := by decide +kernel
theorem dX8_see_23 : decode cX8_see 23 = .ok (.iload_n 3, 1) := by decide +kernel
theorem dX8_see_24 : decode cX8_see 24 = .ok (.iload 4, 2) := by decide +kernel
theorem dX8_see_26 : decode cX8_see 26 = .ok (.iload 5, 2) := by decide +kernel
theorem dX8_see_28 : decode cX8_see 28 = .ok (.invokevirtual 204, 3) := by decide +kernel
theorem dX8_see_31 : decode cX8_see 31 = .ok (.goto 5, 3) := by decide +kernel
theorem dX8_see_34 : decode cX8_see 34 = .ok (.bipush (-2), 2) := by decide +kernel
theorem dX8_see_36 : decode cX8_see 36 = .ok (.ireturn, 1) := by decide +kernel
theorem dX8_seen_0 : decode cX8_seen 0 = .ok (.aload_n 0, 1) := by decide +kernel
theorem dX8_seen_1 : decode cX8_seen 1 = .ok (.iload_n 2, 1) := by decide +kernel
theorem dX8_seen_2 : decode cX8_seen 2 = .ok (.iload_n 3, 1) := by decide +kernel
theorem dX8_seen_3 : decode cX8_seen 3 = .ok (.iload 4, 2) := by decide +kernel
theorem dX8_seen_5 : decode cX8_seen 5 = .ok (.iload 5, 2) := by decide +kernel
theorem dX8_seen_7 : decode cX8_seen 7 = .ok (.invokevirtual 194, 3) := by decide +kernel
theorem dX8_seen_10 : decode cX8_seen 10 = .ok (.aload_n 0, 1) := by decide +kernel
theorem dX8_seen_11 : decode cX8_seen 11 = .ok (.iload_n 1, 1) := by decide +kernel
theorem dX8_seen_12 : decode cX8_seen 12 = .ok (.invokevirtual 198, 3) := by decide +kernel
theorem dX8_seen_15 : decode cX8_seen 15 = .ok (.ifCond .ne 5, 3) := by decide +kernel
theorem dX8_seen_18 : decode cX8_seen 18 = .ok (.iconst 0, 1) := by decide +kernel
theorem dX8_seen_19 : decode cX8_seen 19 = .ok (.ireturn, 1) := by decide +kernel
theorem dX8_seen_20 : decode cX8_seen 20 = .ok (.iconst 0, 1) := by decide +kernel
theorem dX8_seen_21 : decode cX8_seen 21 = .ok (.istore 6, 2) := by decide +kernel
theorem dX8_seen_23 : decode cX8_seen 23 = .ok (.iload 6, 2) := by decide +kernel
theorem dX8_seen_25 : decode cX8_seen 25 = .ok (.aload_n 0, 1) := by decide +kernel
theorem dX8_seen_26 : decode cX8_seen 26 = .ok (.getfield 135, 3) := by decide +kernel
theorem dX8_seen_29 : decode cX8_seen 29 = .ok (.if_icmp .ge 48, 3) := by decide +kernel
theorem dX8_seen_32 : decode cX8_seen 32 = .ok (.aload_n 0, 1) := by decide +kernel
theorem dX8_seen_33 : decode cX8_seen 33 = .ok (.getfield 23, 3) := by decide +kernel
theorem dX8_seen_36 : decode cX8_seen 36 = .ok (.iload 6, 2) := by decide +kernel
theorem dX8_seen_38 : decode cX8_seen 38 = .ok (.baload, 1) := by decide +kernel
theorem dX8_seen_39 : decode cX8_seen 39 = .ok (.ifCond .eq 32, 3) := by decide +kernel
theorem dX8_seen_42 : decode cX8_seen 42 = .ok (.aload_n 0, 1) := by decide +kernel
theorem dX8_seen_43 : decode cX8_seen 43 = .ok (.getfield 20, 3) := by decide +kernel
theorem dX8_seen_46 : decode cX8_seen 46 = .ok (.iconst 5, 1) := by decide +kernel
theorem dX8_seen_47 : decode cX8_seen 47 = .ok (.iload 6, 2) := by decide +kernel
theorem dX8_seen_49 : decode cX8_seen 49 = .ok (.imul, 1) := by decide +kernel
theorem dX8_seen_50 : decode cX8_seen 50 = .ok (.iaload, 1) := by decide +kernel
theorem dX8_seen_51 : decode cX8_seen 51 = .ok (.iload_n 1, 1) := by decide +kernel
theorem dX8_seen_52 : decode cX8_seen 52 = .ok (.if_icmp .ne 19, 3) := by decide +kernel
theorem dX8_seen_55 : decode cX8_seen 55 = .ok (.aload_n 0, 1) := by decide +kernel
theorem dX8_seen_56 : decode cX8_seen 56 = .ok (.aload_n 0, 1) := by decide +kernel
theorem dX8_seen_57 : decode cX8_seen 57 = .ok (.getfield 20, 3) := by decide +kernel
theorem dX8_seen_60 : decode cX8_seen 60 = .ok (.iload 6, 2) := by decide +kernel
theorem dX8_seen_62 : decode cX8_seen 62 = .ok (.invokevirtual 186, 3) := by decide +kernel
theorem dX8_seen_65 : decode cX8_seen 65 = .ok (.ifCond .eq 6, 3) := by decide +kernel
theorem dX8_seen_68 : decode cX8_seen 68 = .ok (.bipush (-10), 2) := by decide +kernel
theorem dX8_seen_70 : decode cX8_seen 70 = .ok (.ireturn, 1) := by decide +kernel
theorem dX8_seen_71 : decode cX8_seen 71 = .ok (.iinc 6 1, 3) := by decide +kernel
theorem dX8_seen_74 : decode cX8_seen 74 = .ok (.goto (-51), 3) := by decide +kernel
theorem dX8_seen_77 : decode cX8_seen 77 = .ok (.iconst 0, 1) := by decide +kernel
theorem dX8_seen_78 : decode cX8_seen 78 = .ok (.istore 6, 2) := by decide +kernel
theorem dX8_seen_80 : decode cX8_seen 80 = .ok (.iload 6, 2) := by decide +kernel
theorem dX8_seen_82 : decode cX8_seen 82 = .ok (.aload_n 0, 1) := by decide +kernel
theorem dX8_seen_83 : decode cX8_seen 83 = .ok (.getfield 142, 3) := by decide +kernel
theorem dX8_seen_86 : decode cX8_seen 86 = .ok (.if_icmp .ge 34, 3) := by decide +kernel
theorem dX8_seen_89 : decode cX8_seen 89 = .ok (.aload_n 0, 1) := by decide +kernel
theorem dX8_seen_90 : decode cX8_seen 90 = .ok (.getfield 26, 3) := by decide +kernel
theorem dX8_seen_93 : decode cX8_seen 93 = .ok (.iconst 5, 1) := by decide +kernel
theorem dX8_seen_94 : decode cX8_seen 94 = .ok (.iload 6, 2) := by decide +kernel
theorem dX8_seen_96 : decode cX8_seen 96 = .ok (.imul, 1) := by decide +kernel
theorem dX8_seen_97 : decode cX8_seen 97 = .ok (.iaload, 1) := by decide +kernel
theorem dX8_seen_98 : decode cX8_seen 98 = .ok (.iload_n 1, 1) := by decide +kernel
theorem dX8_seen_99 : decode cX8_seen 99 = .ok (.if_icmp .ne 15, 3) := by decide +kernel
theorem dX8_seen_102 : decode cX8_seen 102 = .ok (.aload_n 0, 1) := by decide +kernel
theorem dX8_seen_103 : decode cX8_seen 103 = .ok (.iload 6, 2) := by decide +kernel
theorem dX8_seen_105 : decode cX8_seen 105 = .ok (.invokevirtual 201, 3) := by decide +kernel
theorem dX8_seen_108 : decode cX8_seen 108 = .ok (.ifCond .eq 6, 3) := by decide +kernel
theorem dX8_seen_111 : decode cX8_seen 111 = .ok (.bipush (-11), 2) := by decide +kernel
theorem dX8_seen_113 : decode cX8_seen 113 = .ok (.ireturn, 1) := by decide +kernel
theorem dX8_seen_114 : decode cX8_seen 114 = .ok (.iinc 6 1, 3) := by decide +kernel
theorem dX8_seen_117 : decode cX8_seen 117 = .ok (.goto (-37), 3) := by decide +kernel
theorem dX8_seen_120 : decode cX8_seen 120 = .ok (.iconst 1, 1) := by decide +kernel
theorem dX8_seen_121 : decode cX8_seen 121 = .ok (.ireturn, 1) := by decide +kernel
theorem dX8_settles_0 : decode cX8_settles 0 = .ok (.iconst 0, 1) := by decide +kernel
theorem dX8_settles_1 : decode cX8_settles 1 = .ok (.istore_n 1, 1) := by decide +kernel
theorem dX8_settles_2 : decode cX8_settles 2 = .ok (.iload_n 1, 1) := by decide +kernel
theorem dX8_settles_3 : decode cX8_settles 3 = .ok (.aload_n 0, 1) := by decide +kernel
theorem dX8_settles_4 : decode cX8_settles 4 = .ok (.getfield 214, 3) := by decide +kernel
theorem dX8_settles_7 : decode cX8_settles 7 = .ok (.if_icmp .ge 38, 3) := by decide +kernel
theorem dX8_settles_10 : decode cX8_settles 10 = .ok (.aload_n 0, 1) := by decide +kernel
theorem dX8_settles_11 : decode cX8_settles 11 = .ok (.getfield 53, 3) := by decide +kernel
theorem dX8_settles_14 : decode cX8_settles 14 = .ok (.iload_n 1, 1) := by decide +kernel
theorem dX8_settles_15 : decode cX8_settles 15 = .ok (.iload_n 1, 1) := by decide +kernel
theorem dX8_settles_16 : decode cX8_settles 16 = .ok (.ifCond .ne 7, 3) := by decide +kernel
theorem dX8_settles_19 : decode cX8_settles 19 = .ok (.iconst 0, 1) := by decide +kernel
theorem dX8_settles_20 : decode cX8_settles 20 = .ok (.goto 4, 3) := by decide +kernel
theorem dX8_settles_23 : decode cX8_settles 23 = .ok (.iconst (-1), 1) := by decide +kernel
theorem dX8_settles_24 : decode cX8_settles 24 = .ok (.iastore, 1) := by decide +kernel
theorem dX8_settles_25 : decode cX8_settles 25 = .ok (.aload_n 0, 1) := by decide +kernel
theorem dX8_settles_26 : decode cX8_settles 26 = .ok (.getfield 56, 3) := by decide +kernel
theorem dX8_settles_29 : decode cX8_settles 29 = .ok (.iload_n 1, 1) := by decide +kernel
theorem dX8_settles_30 : decode cX8_settles 30 = .ok (.iconst (-1), 1) := by decide +kernel
theorem dX8_settles_31 : decode cX8_settles 31 = .ok (.iastore, 1) := by decide +kernel
theorem dX8_settles_32 : decode cX8_settles 32 = .ok (.aload_n 0, 1) := by decide +kernel
theorem dX8_settles_33 : decode cX8_settles 33 = .ok (.getfield 59, 3) := by decide +kernel
theorem dX8_settles_36 : decode cX8_settles 36 = .ok (.iload_n 1, 1) := by decide +kernel
theorem dX8_settles_37 : decode cX8_settles 37 = .ok (.iconst 0, 1) := by decide +kernel
theorem dX8_settles_38 : decode cX8_settles 38 = .ok (.bastore, 1) := by decide +kernel
theorem dX8_settles_39 : decode cX8_settles 39 = .ok (.iinc 1 1, 3) := by decide +kernel
theorem dX8_settles_42 : decode cX8_settles 42 = .ok (.goto (-40), 3) := by decide +kernel
theorem dX8_settles_45 : decode cX8_settles 45 = .ok (.aload_n 0, 1) := by decide +kernel
theorem dX8_settles_46 : decode cX8_settles 46 = .ok (.getfield 41, 3) := by decide +kernel
theorem dX8_settles_49 : decode cX8_settles 49 = .ok (.iconst 0, 1) := by decide +kernel
theorem dX8_settles_50 : decode cX8_settles 50 = .ok (.baload, 1) := by decide +kernel
theorem dX8_settles_51 : decode cX8_settles 51 = .ok (.ifCond .eq 7, 3) := by decide +kernel
theorem dX8_settles_54 : decode cX8_settles 54 = .ok (.iconst 0, 1) := by decide +kernel
theorem dX8_settles_55 : decode cX8_settles 55 = .ok (.goto 4, 3) := by decide +kernel
theorem dX8_settles_58 : decode cX8_settles 58 = .ok (.iconst (-1), 1) := by decide +kernel
theorem dX8_settles_59 : decode cX8_settles 59 = .ok (.istore_n 1, 1) := by decide +kernel
theorem dX8_settles_60 : decode cX8_settles 60 = .ok (.iload_n 1, 1) := by decide +kernel
theorem dX8_settles_61 : decode cX8_settles 61 = .ok (.iconst (-1), 1) := by decide +kernel
theorem dX8_settles_62 : decode cX8_settles 62 = .ok (.if_icmp .eq 147, 3) := by decide +kernel
theorem dX8_settles_65 : decode cX8_settles 65 = .ok (.aload_n 0, 1) := by decide +kernel
theorem dX8_settles_66 : decode cX8_settles 66 = .ok (.getfield 59, 3) := by decide +kernel
theorem dX8_settles_69 : decode cX8_settles 69 = .ok (.iload_n 1, 1) := by decide +kernel
theorem dX8_settles_70 : decode cX8_settles 70 = .ok (.iconst 1, 1) := by decide +kernel
theorem dX8_settles_71 : decode cX8_settles 71 = .ok (.bastore, 1) := by decide +kernel
theorem dX8_settles_72 : decode cX8_settles 72 = .ok (.iconst (-1), 1) := by decide +kernel
theorem dX8_settles_73 : decode cX8_settles 73 = .ok (.istore_n 2, 1) := by decide +kernel
theorem dX8_settles_74 : decode cX8_settles 74 = .ok (.iconst 0, 1) := by decide +kernel
theorem dX8_settles_75 : decode cX8_settles 75 = .ok (.istore_n 3, 1) := by decide +kernel
theorem dX8_settles_76 : decode cX8_settles 76 = .ok (.iload_n 3, 1) := by decide +kernel
theorem dX8_settles_77 : decode cX8_settles 77 = .ok (.aload_n 0, 1) := by decide +kernel
theorem dX8_settles_78 : decode cX8_settles 78 = .ok (.getfield 214, 3) := by decide +kernel
theorem dX8_settles_81 : decode cX8_settles 81 = .ok (.if_icmp .ge 123, 3) := by decide +kernel
theorem dX8_settles_84 : decode cX8_settles 84 = .ok (.aload_n 0, 1) := by decide +kernel
theorem dX8_settles_85 : decode cX8_settles 85 = .ok (.getfield 41, 3) := by decide +kernel
theorem dX8_settles_88 : decode cX8_settles 88 = .ok (.iload_n 3, 1) := by decide +kernel
theorem dX8_settles_89 : decode cX8_settles 89 = .ok (.baload, 1) := by decide +kernel
theorem dX8_settles_90 : decode cX8_settles 90 = .ok (.ifCond .eq 108, 3) := by decide +kernel
theorem dX8_settles_93 : decode cX8_settles 93 = .ok (.aload_n 0, 1) := by decide +kernel
theorem dX8_settles_94 : decode cX8_settles 94 = .ok (.getfield 59, 3) := by decide +kernel
theorem dX8_settles_97 : decode cX8_settles 97 = .ok (.iload_n 3, 1) := by decide +kernel
theorem dX8_settles_98 : decode cX8_settles 98 = .ok (.baload, 1) := by decide +kernel
theorem dX8_settles_99 : decode cX8_settles 99 = .ok (.ifCond .ne 99, 3) := by decide +kernel
theorem dX8_settles_102 : decode cX8_settles 102 = .ok (.aload_n 0, 1) := by decide +kernel
theorem dX8_settles_103 : decode cX8_settles 103 = .ok (.iload_n 1, 1) := by decide +kernel
theorem dX8_settles_104 : decode cX8_settles 104 = .ok (.iload_n 3, 1) := by decide +kernel
theorem dX8_settles_105 : decode cX8_settles 105 = .ok (.invokevirtual 233, 3) := by decide +kernel
theorem dX8_settles_108 : decode cX8_settles 108 = .ok (.istore 4, 2) := by decide +kernel
theorem dX8_settles_110 : decode cX8_settles 110 = .ok (.iload 4, 2) := by decide +kernel
theorem dX8_settles_112 : decode cX8_settles 112 = .ok (.iconst (-1), 1) := by decide +kernel
theorem dX8_settles_113 : decode cX8_settles 113 = .ok (.if_icmp .eq 53, 3) := by decide +kernel
theorem dX8_settles_116 : decode cX8_settles 116 = .ok (.aload_n 0, 1) := by decide +kernel
theorem dX8_settles_117 : decode cX8_settles 117 = .ok (.getfield 53, 3) := by decide +kernel
theorem dX8_settles_120 : decode cX8_settles 120 = .ok (.iload_n 3, 1) := by decide +kernel
theorem dX8_settles_121 : decode cX8_settles 121 = .ok (.iaload, 1) := by decide +kernel
theorem dX8_settles_122 : decode cX8_settles 122 = .ok (.iconst (-1), 1) := by decide +kernel
theorem dX8_settles_123 : decode cX8_settles 123 = .ok (.if_icmp .eq 21, 3) := by decide +kernel
theorem dX8_settles_126 : decode cX8_settles 126 = .ok (.aload_n 0, 1) := by decide +kernel
theorem dX8_settles_127 : decode cX8_settles 127 = .ok (.getfield 53, 3) := by decide +kernel
theorem dX8_settles_130 : decode cX8_settles 130 = .ok (.iload_n 1, 1) := by decide +kernel
theorem dX8_settles_131 : decode cX8_settles 131 = .ok (.iaload, 1) := by decide +kernel
theorem dX8_settles_132 : decode cX8_settles 132 = .ok (.iload 4, 2) := by decide +kernel
theorem dX8_settles_134 : decode cX8_settles 134 = .ok (.iadd, 1) := by decide +kernel
theorem dX8_settles_135 : decode cX8_settles 135 = .ok (.aload_n 0, 1) := by decide +kernel
theorem dX8_settles_136 : decode cX8_settles 136 = .ok (.getfield 53, 3) := by decide +kernel
theorem dX8_settles_139 : decode cX8_settles 139 = .ok (.iload_n 3, 1) := by decide +kernel
theorem dX8_settles_140 : decode cX8_settles 140 = .ok (.iaload, 1) := by decide +kernel
theorem dX8_settles_141 : decode cX8_settles 141 = .ok (.if_icmp .ge 25, 3) := by decide +kernel
theorem dX8_settles_144 : decode cX8_settles 144 = .ok (.aload_n 0, 1) := by decide +kernel
theorem dX8_settles_145 : decode cX8_settles 145 = .ok (.getfield 53, 3) := by decide +kernel
theorem dX8_settles_148 : decode cX8_settles 148 = .ok (.iload_n 3, 1) := by decide +kernel
theorem dX8_settles_149 : decode cX8_settles 149 = .ok (.aload_n 0, 1) := by decide +kernel
theorem dX8_settles_150 : decode cX8_settles 150 = .ok (.getfield 53, 3) := by decide +kernel
theorem dX8_settles_153 : decode cX8_settles 153 = .ok (.iload_n 1, 1) := by decide +kernel
theorem dX8_settles_154 : decode cX8_settles 154 = .ok (.iaload, 1) := by decide +kernel
theorem dX8_settles_155 : decode cX8_settles 155 = .ok (.iload 4, 2) := by decide +kernel
theorem dX8_settles_157 : decode cX8_settles 157 = .ok (.iadd, 1) := by decide +kernel
theorem dX8_settles_158 : decode cX8_settles 158 = .ok (.iastore, 1) := by decide +kernel
theorem dX8_settles_159 : decode cX8_settles 159 = .ok (.aload_n 0, 1) := by decide +kernel
theorem dX8_settles_160 : decode cX8_settles 160 = .ok (.getfield 56, 3) := by decide +kernel
theorem dX8_settles_163 : decode cX8_settles 163 = .ok (.iload_n 3, 1) := by decide +kernel
theorem dX8_settles_164 : decode cX8_settles 164 = .ok (.iload_n 1, 1) := by decide +kernel
theorem dX8_settles_165 : decode cX8_settles 165 = .ok (.iastore, 1) := by decide +kernel
theorem dX8_settles_166 : decode cX8_settles 166 = .ok (.aload_n 0, 1) := by decide +kernel
theorem dX8_settles_167 : decode cX8_settles 167 = .ok (.getfield 53, 3) := by decide +kernel
theorem dX8_settles_170 : decode cX8_settles 170 = .ok (.iload_n 3, 1) := by decide +kernel
theorem dX8_settles_171 : decode cX8_settles 171 = .ok (.iaload, 1) := by decide +kernel
theorem dX8_settles_172 : decode cX8_settles 172 = .ok (.iconst (-1), 1) := by decide +kernel
theorem dX8_settles_173 : decode cX8_settles 173 = .ok (.if_icmp .eq 25, 3) := by decide +kernel
theorem dX8_settles_176 : decode cX8_settles 176 = .ok (.iload_n 2, 1) := by decide +kernel
theorem dX8_settles_177 : decode cX8_settles 177 = .ok (.iconst (-1), 1) := by decide +kernel
theorem dX8_settles_178 : decode cX8_settles 178 = .ok (.if_icmp .eq 18, 3) := by decide +kernel
theorem dX8_settles_181 : decode cX8_settles 181 = .ok (.aload_n 0, 1) := by decide +kernel
theorem dX8_settles_182 : decode cX8_settles 182 = .ok (.getfield 53, 3) := by decide +kernel
theorem dX8_settles_185 : decode cX8_settles 185 = .ok (.iload_n 3, 1) := by decide +kernel
theorem dX8_settles_186 : decode cX8_settles 186 = .ok (.iaload, 1) := by decide +kernel
theorem dX8_settles_187 : decode cX8_settles 187 = .ok (.aload_n 0, 1) := by decide +kernel
theorem dX8_settles_188 : decode cX8_settles 188 = .ok (.getfield 53, 3) := by decide +kernel
theorem dX8_settles_191 : decode cX8_settles 191 = .ok (.iload_n 2, 1) := by decide +kernel
theorem dX8_settles_192 : decode cX8_settles 192 = .ok (.iaload, 1) := by decide +kernel
theorem dX8_settles_193 : decode cX8_settles 193 = .ok (.if_icmp .ge 5, 3) := by decide +kernel
theorem dX8_settles_196 : decode cX8_settles 196 = .ok (.iload_n 3, 1) := by decide +kernel
theorem dX8_settles_197 : decode cX8_settles 197 = .ok (.istore_n 2, 1) := by decide +kernel
theorem dX8_settles_198 : decode cX8_settles 198 = .ok (.iinc 3 1, 3) := by decide +kernel
theorem dX8_settles_201 : decode cX8_settles 201 = .ok (.goto (-125), 3) := by decide +kernel
theorem dX8_settles_204 : decode cX8_settles 204 = .ok (.iload_n 2, 1) := by decide +kernel
theorem dX8_settles_205 : decode cX8_settles 205 = .ok (.istore_n 1, 1) := by decide +kernel
theorem dX8_settles_206 : decode cX8_settles 206 = .ok (.goto (-146), 3) := by decide +kernel
theorem dX8_settles_209 : decode cX8_settles 209 = .ok (.return_, 1) := by decide +kernel
theorem dX8_shut_0 : decode cX8_shut 0 = .ok (.iload_n 1, 1) := by decide +kernel
theorem dX8_shut_1 : decode cX8_shut 1 = .ok (.iconst 0, 1) := by decide +kernel
theorem dX8_shut_2 : decode cX8_shut 2 = .ok (.aload_n 0, 1) := by decide +kernel
theorem dX8_shut_3 : decode cX8_shut 3 = .ok (.getfield 135, 3) := by decide +kernel
theorem dX8_shut_6 : decode cX8_shut 6 = .ok (.iconst 1, 1) := by decide +kernel
theorem dX8_shut_7 : decode cX8_shut 7 = .ok (.isub, 1) := by decide +kernel
theorem dX8_shut_8 : decode cX8_shut 8 = .ok (.invokestatic 110, 3) := by decide +kernel
theorem dX8_shut_11 : decode cX8_shut 11 = .ok (.ifCond .ne 6, 3) := by decide +kernel
theorem dX8_shut_14 : decode cX8_shut 14 = .ok (.bipush (-2), 2) := by decide +kernel
theorem dX8_shut_16 : decode cX8_shut 16 = .ok (.ireturn, 1) := by decide +kernel
theorem dX8_shut_17 : decode cX8_shut 17 = .ok (.aload_n 0, 1) := by decide +kernel
theorem dX8_shut_18 : decode cX8_shut 18 = .ok (.getfield 23, 3) := by decide +kernel
theorem dX8_shut_21 : decode cX8_shut 21 = .ok (.iload_n 1, 1) := by decide +kernel
theorem dX8_shut_22 : decode cX8_shut 22 = .ok (.baload, 1) := by decide +kernel
theorem dX8_shut_23 : decode cX8_shut 23 = .ok (.iload_n 2, 1) := by decide +kernel
theorem dX8_shut_24 : decode cX8_shut 24 = .ok (.if_icmp .ne 6, 3) := by decide +kernel
theorem dX8_shut_27 : decode cX8_shut 27 = .ok (.bipush (-3), 2) := by decide +kernel
theorem dX8_shut_29 : decode cX8_shut 29 = .ok (.ireturn, 1) := by decide +kernel
theorem dX8_shut_30 : decode cX8_shut 30 = .ok (.iconst 0, 1) := by decide +kernel
theorem dX8_shut_31 : decode cX8_shut 31 = .ok (.istore_n 3, 1) := by decide +kernel
theorem dX8_shut_32 : decode cX8_shut 32 = .ok (.iload_n 3, 1) := by decide +kernel
theorem dX8_shut_33 : decode cX8_shut 33 = .ok (.aload_n 0, 1) := by decide +kernel
theorem dX8_shut_34 : decode cX8_shut 34 = .ok (.getfield 129, 3) := by decide +kernel
theorem dX8_shut_37 : decode cX8_shut 37 = .ok (.if_icmp .ge 45, 3) := by decide +kernel
theorem dX8_shut_40 : decode cX8_shut 40 = .ok (.iload_n 2, 1) := by decide +kernel
theorem dX8_shut_41 : decode cX8_shut 41 = .ok (.ifCond .eq 41, 3) := by decide +kernel
theorem dX8_shut_44 : decode cX8_shut 44 = .ok (.aload_n 0, 1) := by decide +kernel
theorem dX8_shut_45 : decode cX8_shut 45 = .ok (.getfield 20, 3) := by decide +kernel
theorem dX8_shut_48 : decode cX8_shut 48 = .ok (.iload_n 1, 1) := by decide +kernel
theorem dX8_shut_49 : decode cX8_shut 49 = .ok (.aload_n 0, 1) := by decide +kernel
theorem dX8_shut_50 : decode cX8_shut 50 = .ok (.getfield 74, 3) := by decide +kernel
theorem dX8_shut_53 : decode cX8_shut 53 = .ok (.iload_n 3, 1) := by decide +kernel
theorem dX8_shut_54 : decode cX8_shut 54 = .ok (.iaload, 1) := by decide +kernel
theorem dX8_shut_55 : decode cX8_shut 55 = .ok (.aload_n 0, 1) := by decide +kernel
theorem dX8_shut_56 : decode cX8_shut 56 = .ok (.getfield 77, 3) := by decide +kernel
theorem dX8_shut_59 : decode cX8_shut 59 = .ok (.iload_n 3, 1) := by decide +kernel
theorem dX8_shut_60 : decode cX8_shut 60 = .ok (.iaload, 1) := by decide +kernel
theorem dX8_shut_61 : decode cX8_shut 61 = .ok (.aload_n 0, 1) := by decide +kernel
theorem dX8_shut_62 : decode cX8_shut 62 = .ok (.getfield 80, 3) := by decide +kernel
theorem dX8_shut_65 : decode cX8_shut 65 = .ok (.iload_n 3, 1) := by decide +kernel
theorem dX8_shut_66 : decode cX8_shut 66 = .ok (.iaload, 1) := by decide +kernel
theorem dX8_shut_67 : decode cX8_shut 67 = .ok (.invokestatic 138, 3) := by decide +kernel
theorem dX8_shut_70 : decode cX8_shut 70 = .ok (.ifCond .eq 6, 3) := by decide +kernel
theorem dX8_shut_73 : decode cX8_shut 73 = .ok (.bipush (-3), 2) := by decide +kernel
theorem dX8_shut_75 : decode cX8_shut 75 = .ok (.ireturn, 1) := by decide +kernel
theorem dX8_shut_76 : decode cX8_shut 76 = .ok (.iinc 3 1, 3) := by decide +kernel
theorem dX8_shut_79 : decode cX8_shut 79 = .ok (.goto (-47), 3) := by decide +kernel
theorem dX8_shut_82 : decode cX8_shut 82 = .ok (.aload_n 0, 1) := by decide +kernel
theorem dX8_shut_83 : decode cX8_shut 83 = .ok (.getfield 23, 3) := by decide +kernel
theorem dX8_shut_86 : decode cX8_shut 86 = .ok (.iload_n 1, 1) := by decide +kernel
theorem dX8_shut_87 : decode cX8_shut 87 = .ok (.iload_n 2, 1) := by decide +kernel
theorem dX8_shut_88 : decode cX8_shut 88 = .ok (.bastore, 1) := by decide +kernel
theorem dX8_shut_89 : decode cX8_shut 89 = .ok (.iconst 1, 1) := by decide +kernel
theorem dX8_shut_90 : decode cX8_shut 90 = .ok (.ireturn, 1) := by decide +kernel
theorem dX8_size_0 : decode cX8_size 0 = .ok (.iload_n 0, 1) := by decide +kernel
theorem dX8_size_1 : decode cX8_size 1 = .ok (.ifCond .ge 8, 3) := by decide +kernel
theorem dX8_size_4 : decode cX8_size 4 = .ok (.iload_n 0, 1) := by decide +kernel
theorem dX8_size_5 : decode cX8_size 5 = .ok (.ineg, 1) := by decide +kernel
theorem dX8_size_6 : decode cX8_size 6 = .ok (.goto 4, 3) := by decide +kernel
theorem dX8_size_9 : decode cX8_size 9 = .ok (.iload_n 0, 1) := by decide +kernel
theorem dX8_size_10 : decode cX8_size 10 = .ok (.ireturn, 1) := by decide +kernel
theorem dX8_step_0 : decode cX8_step 0 = .ok (.aload_n 0, 1) := by decide +kernel
theorem dX8_step_1 : decode cX8_step 1 = .ok (.getfield 44, 3) := by decide +kernel
theorem dX8_step_4 : decode cX8_step 4 = .ok (.iload_n 1, 1) := by decide +kernel
theorem dX8_step_5 : decode cX8_step 5 = .ok (.iaload, 1) := by decide +kernel
theorem dX8_step_6 : decode cX8_step 6 = .ok (.aload_n 0, 1) := by decide +kernel
theorem dX8_step_7 : decode cX8_step 7 = .ok (.getfield 44, 3) := by decide +kernel
theorem dX8_step_10 : decode cX8_step 10 = .ok (.iload_n 2, 1) := by decide +kernel
theorem dX8_step_11 : decode cX8_step 11 = .ok (.iaload, 1) := by decide +kernel
theorem dX8_step_12 : decode cX8_step 12 = .ok (.if_icmp .ne 73, 3) := by decide +kernel
theorem dX8_step_15 : decode cX8_step 15 = .ok (.aload_n 0, 1) := by decide +kernel
theorem dX8_step_16 : decode cX8_step 16 = .ok (.aload_n 0, 1) := by decide +kernel
theorem dX8_step_17 : decode cX8_step 17 = .ok (.getfield 44, 3) := by decide +kernel
theorem dX8_step_20 : decode cX8_step 20 = .ok (.iload_n 1, 1) := by decide +kernel
theorem dX8_step_21 : decode cX8_step 21 = .ok (.iaload, 1) := by decide +kernel
theorem dX8_step_22 : decode cX8_step 22 = .ok (.aload_n 0, 1) := by decide +kernel
theorem dX8_step_23 : decode cX8_step 23 = .ok (.getfield 47, 3) := by decide +kernel
theorem dX8_step_26 : decode cX8_step 26 = .ok (.iload_n 1, 1) := by decide +kernel
theorem dX8_step_27 : decode cX8_step 27 = .ok (.iaload, 1) := by decide +kernel
theorem dX8_step_28 : decode cX8_step 28 = .ok (.aload_n 0, 1) := by decide +kernel
theorem dX8_step_29 : decode cX8_step 29 = .ok (.getfield 50, 3) := by decide +kernel
theorem dX8_step_32 : decode cX8_step 32 = .ok (.iload_n 1, 1) := by decide +kernel
theorem dX8_step_33 : decode cX8_step 33 = .ok (.iaload, 1) := by decide +kernel
theorem dX8_step_34 : decode cX8_step 34 = .ok (.aload_n 0, 1) := by decide +kernel
theorem dX8_step_35 : decode cX8_step 35 = .ok (.getfield 47, 3) := by decide +kernel
theorem dX8_step_38 : decode cX8_step 38 = .ok (.iload_n 2, 1) := by decide +kernel
theorem dX8_step_39 : decode cX8_step 39 = .ok (.iaload, 1) := by decide +kernel
theorem dX8_step_40 : decode cX8_step 40 = .ok (.aload_n 0, 1) := by decide +kernel
theorem dX8_step_41 : decode cX8_step 41 = .ok (.getfield 50, 3) := by decide +kernel
theorem dX8_step_44 : decode cX8_step 44 = .ok (.iload_n 2, 1) := by decide +kernel
theorem dX8_step_45 : decode cX8_step 45 = .ok (.iaload, 1) := by decide +kernel
theorem dX8_step_46 : decode cX8_step 46 = .ok (.invokevirtual 204, 3) := by decide +kernel
theorem dX8_step_49 : decode cX8_step 49 = .ok (.iconst 1, 1) := by decide +kernel
theorem dX8_step_50 : decode cX8_step 50 = .ok (.if_icmp .ne 33, 3) := by decide +kernel
theorem dX8_step_53 : decode cX8_step 53 = .ok (.aload_n 0, 1) := by decide +kernel
theorem dX8_step_54 : decode cX8_step 54 = .ok (.getfield 47, 3) := by decide +kernel
theorem dX8_step_57 : decode cX8_step 57 = .ok (.iload_n 1, 1) := by decide +kernel
theorem dX8_step_58 : decode cX8_step 58 = .ok (.iaload, 1) := by decide +kernel
theorem dX8_step_59 : decode cX8_step 59 = .ok (.aload_n 0, 1) := by decide +kernel
theorem dX8_step_60 : decode cX8_step 60 = .ok (.getfield 50, 3) := by decide +kernel
theorem dX8_step_63 : decode cX8_step 63 = .ok (.iload_n 1, 1) := by decide +kernel
theorem dX8_step_64 : decode cX8_step 64 = .ok (.iaload, 1) := by decide +kernel
theorem dX8_step_65 : decode cX8_step 65 = .ok (.aload_n 0, 1) := by decide +kernel
theorem dX8_step_66 : decode cX8_step 66 = .ok (.getfield 47, 3) := by decide +kernel
theorem dX8_step_69 : decode cX8_step 69 = .ok (.iload_n 2, 1) := by decide +kernel
theorem dX8_step_70 : decode cX8_step 70 = .ok (.iaload, 1) := by decide +kernel
theorem dX8_step_71 : decode cX8_step 71 = .ok (.aload_n 0, 1) := by decide +kernel
theorem dX8_step_72 : decode cX8_step 72 = .ok (.getfield 50, 3) := by decide +kernel
theorem dX8_step_75 : decode cX8_step 75 = .ok (.iload_n 2, 1) := by decide +kernel
theorem dX8_step_76 : decode cX8_step 76 = .ok (.iaload, 1) := by decide +kernel
theorem dX8_step_77 : decode cX8_step 77 = .ok (.invokestatic 225, 3) := by decide +kernel
theorem dX8_step_80 : decode cX8_step 80 = .ok (.goto 4, 3) := by decide +kernel
theorem dX8_step_83 : decode cX8_step 83 = .ok (.iconst (-1), 1) := by decide +kernel
theorem dX8_step_84 : decode cX8_step 84 = .ok (.ireturn, 1) := by decide +kernel
theorem dX8_step_85 : decode cX8_step 85 = .ok (.aload_n 0, 1) := by decide +kernel
theorem dX8_step_86 : decode cX8_step 86 = .ok (.aload_n 0, 1) := by decide +kernel
theorem dX8_step_87 : decode cX8_step 87 = .ok (.getfield 44, 3) := by decide +kernel
theorem dX8_step_90 : decode cX8_step 90 = .ok (.iload_n 1, 1) := by decide +kernel
theorem dX8_step_91 : decode cX8_step 91 = .ok (.iaload, 1) := by decide +kernel
theorem dX8_step_92 : decode cX8_step 92 = .ok (.aload_n 0, 1) := by decide +kernel
theorem dX8_step_93 : decode cX8_step 93 = .ok (.getfield 47, 3) := by decide +kernel
theorem dX8_step_96 : decode cX8_step 96 = .ok (.iload_n 1, 1) := by decide +kernel
theorem dX8_step_97 : decode cX8_step 97 = .ok (.iaload, 1) := by decide +kernel
theorem dX8_step_98 : decode cX8_step 98 = .ok (.aload_n 0, 1) := by decide +kernel
theorem dX8_step_99 : decode cX8_step 99 = .ok (.getfield 50, 3) := by decide +kernel
theorem dX8_step_102 : decode cX8_step 102 = .ok (.iload_n 1, 1) := by decide +kernel
theorem dX8_step_103 : decode cX8_step 103 = .ok (.iaload, 1) := by decide +kernel
theorem dX8_step_104 : decode cX8_step 104 = .ok (.aload_n 0, 1) := by decide +kernel
theorem dX8_step_105 : decode cX8_step 105 = .ok (.getfield 44, 3) := by decide +kernel
theorem dX8_step_108 : decode cX8_step 108 = .ok (.iload_n 2, 1) := by decide +kernel
theorem dX8_step_109 : decode cX8_step 109 = .ok (.iaload, 1) := by decide +kernel
theorem dX8_step_110 : decode cX8_step 110 = .ok (.aload_n 0, 1) := by decide +kernel
theorem dX8_step_111 : decode cX8_step 111 = .ok (.getfield 47, 3) := by decide +kernel
theorem dX8_step_114 : decode cX8_step 114 = .ok (.iload_n 2, 1) := by decide +kernel
theorem dX8_step_115 : decode cX8_step 115 = .ok (.iaload, 1) := by decide +kernel
theorem dX8_step_116 : decode cX8_step 116 = .ok (.aload_n 0, 1) := by decide +kernel
theorem dX8_step_117 : decode cX8_step 117 = .ok (.getfield 50, 3) := by decide +kernel
theorem dX8_step_120 : decode cX8_step 120 = .ok (.iload_n 2, 1) := by decide +kernel
theorem dX8_step_121 : decode cX8_step 121 = .ok (.iaload, 1) := by decide +kernel
theorem dX8_step_122 : decode cX8_step 122 = .ok (.invokevirtual 229, 3) := by decide +kernel
theorem dX8_step_125 : decode cX8_step 125 = .ok (.ireturn, 1) := by decide +kernel
theorem dX8_take_0 : decode cX8_take 0 = .ok (.iload_n 1, 1) := by decide +kernel
theorem dX8_take_1 : decode cX8_take 1 = .ok (.iconst 0, 1) := by decide +kernel
theorem dX8_take_2 : decode cX8_take 2 = .ok (.bipush 7, 2) := by decide +kernel
theorem dX8_take_4 : decode cX8_take 4 = .ok (.invokestatic 110, 3) := by decide +kernel
theorem dX8_take_7 : decode cX8_take 7 = .ok (.ifCond .ne 6, 3) := by decide +kernel
theorem dX8_take_10 : decode cX8_take 10 = .ok (.bipush (-2), 2) := by decide +kernel
theorem dX8_take_12 : decode cX8_take 12 = .ok (.ireturn, 1) := by decide +kernel
theorem dX8_take_13 : decode cX8_take 13 = .ok (.aload_n 0, 1) := by decide +kernel
theorem dX8_take_14 : decode cX8_take 14 = .ok (.getfield 13, 3) := by decide +kernel
theorem dX8_take_17 : decode cX8_take 17 = .ok (.iload_n 1, 1) := by decide +kernel
theorem dX8_take_18 : decode cX8_take 18 = .ok (.baload, 1) := by decide +kernel
theorem dX8_take_19 : decode cX8_take 19 = .ok (.ifCond .ne 6, 3) := by decide +kernel
theorem dX8_take_22 : decode cX8_take 22 = .ok (.bipush (-3), 2) := by decide +kernel
theorem dX8_take_24 : decode cX8_take 24 = .ok (.ireturn, 1) := by decide +kernel
theorem dX8_take_25 : decode cX8_take 25 = .ok (.aload_n 0, 1) := by decide +kernel
theorem dX8_take_26 : decode cX8_take 26 = .ok (.getfield 13, 3) := by decide +kernel
theorem dX8_take_29 : decode cX8_take 29 = .ok (.iload_n 1, 1) := by decide +kernel
theorem dX8_take_30 : decode cX8_take 30 = .ok (.iconst 0, 1) := by decide +kernel
theorem dX8_take_31 : decode cX8_take 31 = .ok (.bastore, 1) := by decide +kernel
theorem dX8_take_32 : decode cX8_take 32 = .ok (.iconst 1, 1) := by decide +kernel
theorem dX8_take_33 : decode cX8_take 33 = .ok (.ireturn, 1) := by decide +kernel
theorem dX8_tick_0 : decode cX8_tick 0 = .ok (.iload_n 1, 1) := by decide +kernel
theorem dX8_tick_1 : decode cX8_tick 1 = .ok (.iconst 1, 1) := by decide +kernel
theorem dX8_tick_2 : decode cX8_tick 2 = .ok (.bipush 10, 2) := by decide +kernel
theorem dX8_tick_4 : decode cX8_tick 4 = .ok (.invokestatic 110, 3) := by decide +kernel
theorem dX8_tick_7 : decode cX8_tick 7 = .ok (.ifCond .ne 6, 3) := by decide +kernel
theorem dX8_tick_10 : decode cX8_tick 10 = .ok (.bipush (-2), 2) := by decide +kernel
theorem dX8_tick_12 : decode cX8_tick 12 = .ok (.ireturn, 1) := by decide +kernel
theorem dX8_tick_13 : decode cX8_tick 13 = .ok (.iconst 0, 1) := by decide +kernel
theorem dX8_tick_14 : decode cX8_tick 14 = .ok (.istore_n 2, 1) := by decide +kernel
theorem dX8_tick_15 : decode cX8_tick 15 = .ok (.iload_n 2, 1) := by decide +kernel
theorem dX8_tick_16 : decode cX8_tick 16 = .ok (.iload_n 1, 1) := by decide +kernel
theorem dX8_tick_17 : decode cX8_tick 17 = .ok (.if_icmp .ge 49, 3) := by decide +kernel
theorem dX8_tick_20 : decode cX8_tick 20 = .ok (.aload_n 0, 1) := by decide +kernel
theorem dX8_tick_21 : decode cX8_tick 21 = .ok (.dup, 1) := by decide +kernel
theorem dX8_tick_22 : decode cX8_tick 22 = .ok (.getfield 266, 3) := by decide +kernel
theorem dX8_tick_25 : decode cX8_tick 25 = .ok (.iconst 1, 1) := by decide +kernel
theorem dX8_tick_26 : decode cX8_tick 26 = .ok (.iadd, 1) := by decide +kernel
theorem dX8_tick_27 : decode cX8_tick 27 = .ok (.putfield 266, 3) := by decide +kernel
theorem dX8_tick_30 : decode cX8_tick 30 = .ok (.iconst 0, 1) := by decide +kernel
theorem dX8_tick_31 : decode cX8_tick 31 = .ok (.istore_n 3, 1) := by decide +kernel
theorem dX8_tick_32 : decode cX8_tick 32 = .ok (.iload_n 3, 1) := by decide +kernel
theorem dX8_tick_33 : decode cX8_tick 33 = .ok (.aload_n 0, 1) := by decide +kernel
theorem dX8_tick_34 : decode cX8_tick 34 = .ok (.getfield 129, 3) := by decide +kernel
theorem dX8_tick_37 : decode cX8_tick 37 = .ok (.if_icmp .ge 23, 3) := by decide +kernel
theorem dX8_tick_40 : decode cX8_tick 40 = .ok (.aload_n 0, 1) := by decide +kernel
theorem dX8_tick_41 : decode cX8_tick 41 = .ok (.getfield 83, 3) := by decide +kernel
theorem dX8_tick_44 : decode cX8_tick 44 = .ok (.iload_n 3, 1) := by decide +kernel
theorem dX8_tick_45 : decode cX8_tick 45 = .ok (.iaload, 1) := by decide +kernel
theorem dX8_tick_46 : decode cX8_tick 46 = .ok (.ifCond .le 8, 3) := by decide +kernel
theorem dX8_tick_49 : decode cX8_tick 49 = .ok (.aload_n 0, 1) := by decide +kernel
theorem dX8_tick_50 : decode cX8_tick 50 = .ok (.iload_n 3, 1) := by decide +kernel
theorem dX8_tick_51 : decode cX8_tick 51 = .ok (.invokevirtual 269, 3) := by decide +kernel
theorem dX8_tick_54 : decode cX8_tick 54 = .ok (.iinc 3 1, 3) := by decide +kernel
theorem dX8_tick_57 : decode cX8_tick 57 = .ok (.goto (-25), 3) := by decide +kernel
theorem dX8_tick_60 : decode cX8_tick 60 = .ok (.iinc 2 1, 3) := by decide +kernel
theorem dX8_tick_63 : decode cX8_tick 63 = .ok (.goto (-48), 3) := by decide +kernel
theorem dX8_tick_66 : decode cX8_tick 66 = .ok (.iconst 0, 1) := by decide +kernel
theorem dX8_tick_67 : decode cX8_tick 67 = .ok (.istore_n 2, 1) := by decide +kernel
theorem dX8_tick_68 : decode cX8_tick 68 = .ok (.iconst 0, 1) := by decide +kernel
theorem dX8_tick_69 : decode cX8_tick 69 = .ok (.istore_n 3, 1) := by decide +kernel
theorem dX8_tick_70 : decode cX8_tick 70 = .ok (.iload_n 3, 1) := by decide +kernel
theorem dX8_tick_71 : decode cX8_tick 71 = .ok (.aload_n 0, 1) := by decide +kernel
theorem dX8_tick_72 : decode cX8_tick 72 = .ok (.getfield 129, 3) := by decide +kernel
theorem dX8_tick_75 : decode cX8_tick 75 = .ok (.if_icmp .ge 26, 3) := by decide +kernel
theorem dX8_tick_78 : decode cX8_tick 78 = .ok (.iload_n 2, 1) := by decide +kernel
theorem dX8_tick_79 : decode cX8_tick 79 = .ok (.aload_n 0, 1) := by decide +kernel
theorem dX8_tick_80 : decode cX8_tick 80 = .ok (.getfield 83, 3) := by decide +kernel
theorem dX8_tick_83 : decode cX8_tick 83 = .ok (.iload_n 3, 1) := by decide +kernel
theorem dX8_tick_84 : decode cX8_tick 84 = .ok (.iaload, 1) := by decide +kernel
theorem dX8_tick_85 : decode cX8_tick 85 = .ok (.ifCond .le 7, 3) := by decide +kernel
theorem dX8_tick_88 : decode cX8_tick 88 = .ok (.iconst 1, 1) := by decide +kernel
theorem dX8_tick_89 : decode cX8_tick 89 = .ok (.goto 4, 3) := by decide +kernel
theorem dX8_tick_92 : decode cX8_tick 92 = .ok (.iconst 0, 1) := by decide +kernel
theorem dX8_tick_93 : decode cX8_tick 93 = .ok (.iadd, 1) := by decide +kernel
theorem dX8_tick_94 : decode cX8_tick 94 = .ok (.istore_n 2, 1) := by decide +kernel
theorem dX8_tick_95 : decode cX8_tick 95 = .ok (.iinc 3 1, 3) := by decide +kernel
theorem dX8_tick_98 : decode cX8_tick 98 = .ok (.goto (-28), 3) := by decide +kernel
theorem dX8_tick_101 : decode cX8_tick 101 = .ok (.iload_n 2, 1) := by decide +kernel
theorem dX8_tick_102 : decode cX8_tick 102 = .ok (.ireturn, 1) := by decide +kernel
theorem dX8_turn_0 : decode cX8_turn 0 = .ok (.bipush 94, 2) := by decide +kernel
theorem dX8_turn_2 : decode cX8_turn 2 = .ok (.iload_n 1, 1) := by decide +kernel
theorem dX8_turn_3 : decode cX8_turn 3 = .ok (.imul, 1) := by decide +kernel
theorem dX8_turn_4 : decode cX8_turn 4 = .ok (.istore_n 2, 1) := by decide +kernel
theorem dX8_turn_5 : decode cX8_turn 5 = .ok (.aload_n 0, 1) := by decide +kernel
theorem dX8_turn_6 : decode cX8_turn 6 = .ok (.getfield 86, 3) := by decide +kernel
theorem dX8_turn_9 : decode cX8_turn 9 = .ok (.iload_n 2, 1) := by decide +kernel
theorem dX8_turn_10 : decode cX8_turn 10 = .ok (.iaload, 1) := by decide +kernel
theorem dX8_turn_11 : decode cX8_turn 11 = .ok (.istore_n 3, 1) := by decide +kernel
theorem dX8_turn_12 : decode cX8_turn 12 = .ok (.aload_n 0, 1) := by decide +kernel
theorem dX8_turn_13 : decode cX8_turn 13 = .ok (.getfield 89, 3) := by decide +kernel
theorem dX8_turn_16 : decode cX8_turn 16 = .ok (.iload_n 2, 1) := by decide +kernel
theorem dX8_turn_17 : decode cX8_turn 17 = .ok (.iaload, 1) := by decide +kernel
theorem dX8_turn_18 : decode cX8_turn 18 = .ok (.istore 4, 2) := by decide +kernel
theorem dX8_turn_20 : decode cX8_turn 20 = .ok (.aload_n 0, 1) := by decide +kernel
theorem dX8_turn_21 : decode cX8_turn 21 = .ok (.getfield 92, 3) := by decide +kernel
theorem dX8_turn_24 : decode cX8_turn 24 = .ok (.iload_n 2, 1) := by decide +kernel
theorem dX8_turn_25 : decode cX8_turn 25 = .ok (.iaload, 1) := by decide +kernel
theorem dX8_turn_26 : decode cX8_turn 26 = .ok (.istore 5, 2) := by decide +kernel
theorem dX8_turn_28 : decode cX8_turn 28 = .ok (.iconst (-1), 1) := by decide +kernel
theorem dX8_turn_29 : decode cX8_turn 29 = .ok (.istore 6, 2) := by decide +kernel
theorem dX8_turn_31 : decode cX8_turn 31 = .ok (.iload_n 3, 1) := by decide +kernel
theorem dX8_turn_32 : decode cX8_turn 32 = .ok (.aload_n 0, 1) := by decide +kernel
theorem dX8_turn_33 : decode cX8_turn 33 = .ok (.getfield 74, 3) := by decide +kernel
theorem dX8_turn_36 : decode cX8_turn 36 = .ok (.iload_n 1, 1) := by decide +kernel
theorem dX8_turn_37 : decode cX8_turn 37 = .ok (.iaload, 1) := by decide +kernel
theorem dX8_turn_38 : decode cX8_turn 38 = .ok (.if_icmp .ne 56, 3) := by decide +kernel
theorem dX8_turn_41 : decode cX8_turn 41 = .ok (.aload_n 0, 1) := by decide +kernel
theorem dX8_turn_42 : decode cX8_turn 42 = .ok (.iload_n 3, 1) := by decide +kernel
theorem dX8_turn_43 : decode cX8_turn 43 = .ok (.aload_n 0, 1) := by decide +kernel
theorem dX8_turn_44 : decode cX8_turn 44 = .ok (.getfield 77, 3) := by decide +kernel
theorem dX8_turn_47 : decode cX8_turn 47 = .ok (.iload_n 1, 1) := by decide +kernel
theorem dX8_turn_48 : decode cX8_turn 48 = .ok (.iaload, 1) := by decide +kernel
theorem dX8_turn_49 : decode cX8_turn 49 = .ok (.aload_n 0, 1) := by decide +kernel
theorem dX8_turn_50 : decode cX8_turn 50 = .ok (.getfield 80, 3) := by decide +kernel
theorem dX8_turn_53 : decode cX8_turn 53 = .ok (.iload_n 1, 1) := by decide +kernel
theorem dX8_turn_54 : decode cX8_turn 54 = .ok (.iaload, 1) := by decide +kernel
theorem dX8_turn_55 : decode cX8_turn 55 = .ok (.iload 4, 2) := by decide +kernel
theorem dX8_turn_57 : decode cX8_turn 57 = .ok (.iload 5, 2) := by decide +kernel
theorem dX8_turn_59 : decode cX8_turn 59 = .ok (.invokevirtual 204, 3) := by decide +kernel
theorem dX8_turn_62 : decode cX8_turn 62 = .ok (.iconst 1, 1) := by decide +kernel
theorem dX8_turn_63 : decode cX8_turn 63 = .ok (.if_icmp .ne 25, 3) := by decide +kernel
theorem dX8_turn_66 : decode cX8_turn 66 = .ok (.aload_n 0, 1) := by decide +kernel
theorem dX8_turn_67 : decode cX8_turn 67 = .ok (.getfield 77, 3) := by decide +kernel
theorem dX8_turn_70 : decode cX8_turn 70 = .ok (.iload_n 1, 1) := by decide +kernel
theorem dX8_turn_71 : decode cX8_turn 71 = .ok (.iaload, 1) := by decide +kernel
theorem dX8_turn_72 : decode cX8_turn 72 = .ok (.aload_n 0, 1) := by decide +kernel
theorem dX8_turn_73 : decode cX8_turn 73 = .ok (.getfield 80, 3) := by decide +kernel
theorem dX8_turn_76 : decode cX8_turn 76 = .ok (.iload_n 1, 1) := by decide +kernel
theorem dX8_turn_77 : decode cX8_turn 77 = .ok (.iaload, 1) := by decide +kernel
theorem dX8_turn_78 : decode cX8_turn 78 = .ok (.iload 4, 2) := by decide +kernel
theorem dX8_turn_80 : decode cX8_turn 80 = .ok (.iload 5, 2) := by decide +kernel
theorem dX8_turn_82 : decode cX8_turn 82 = .ok (.invokestatic 225, 3) := by decide +kernel
theorem dX8_turn_85 : decode cX8_turn 85 = .ok (.goto 4, 3) := by decide +kernel
theorem dX8_turn_88 : decode cX8_turn 88 = .ok (.iconst (-1), 1) := by decide +kernel
theorem dX8_turn_89 : decode cX8_turn 89 = .ok (.istore 6, 2) := by decide +kernel
theorem dX8_turn_91 : decode cX8_turn 91 = .ok (.goto 44, 3) := by decide +kernel
theorem dX8_turn_94 : decode cX8_turn 94 = .ok (.aload_n 0, 1) := by decide +kernel
theorem dX8_turn_95 : decode cX8_turn 95 = .ok (.iload_n 3, 1) := by decide +kernel
theorem dX8_turn_96 : decode cX8_turn 96 = .ok (.iload 4, 2) := by decide +kernel
theorem dX8_turn_98 : decode cX8_turn 98 = .ok (.iload 5, 2) := by decide +kernel
theorem dX8_turn_100 : decode cX8_turn 100 = .ok (.invokevirtual 152, 3) := by decide +kernel
theorem dX8_turn_103 : decode cX8_turn 103 = .ok (.ifCond .eq 32, 3) := by decide +kernel
theorem dX8_turn_106 : decode cX8_turn 106 = .ok (.aload_n 0, 1) := by decide +kernel
theorem dX8_turn_107 : decode cX8_turn 107 = .ok (.aload_n 0, 1) := by decide +kernel
theorem dX8_turn_108 : decode cX8_turn 108 = .ok (.getfield 74, 3) := by decide +kernel
theorem dX8_turn_111 : decode cX8_turn 111 = .ok (.iload_n 1, 1) := by decide +kernel
theorem dX8_turn_112 : decode cX8_turn 112 = .ok (.iaload, 1) := by decide +kernel
theorem dX8_turn_113 : decode cX8_turn 113 = .ok (.aload_n 0, 1) := by decide +kernel
theorem dX8_turn_114 : decode cX8_turn 114 = .ok (.getfield 77, 3) := by decide +kernel
theorem dX8_turn_117 : decode cX8_turn 117 = .ok (.iload_n 1, 1) := by decide +kernel
theorem dX8_turn_118 : decode cX8_turn 118 = .ok (.iaload, 1) := by decide +kernel
theorem dX8_turn_119 : decode cX8_turn 119 = .ok (.aload_n 0, 1) := by decide +kernel
theorem dX8_turn_120 : decode cX8_turn 120 = .ok (.getfield 80, 3) := by decide +kernel
theorem dX8_turn_123 : decode cX8_turn 123 = .ok (.iload_n 1, 1) := by decide +kernel
theorem dX8_turn_124 : decode cX8_turn 124 = .ok (.iaload, 1) := by decide +kernel
theorem dX8_turn_125 : decode cX8_turn 125 = .ok (.iload_n 3, 1) := by decide +kernel
theorem dX8_turn_126 : decode cX8_turn 126 = .ok (.iload 4, 2) := by decide +kernel
theorem dX8_turn_128 : decode cX8_turn 128 = .ok (.iload 5, 2) := by decide +kernel
theorem dX8_turn_130 : decode cX8_turn 130 = .ok (.invokevirtual 229, 3) := by decide +kernel
theorem dX8_turn_133 : decode cX8_turn 133 = .ok (.istore 6, 2) := by decide +kernel
theorem dX8_turn_135 : decode cX8_turn 135 = .ok (.iload 6, 2) := by decide +kernel
theorem dX8_turn_137 : decode cX8_turn 137 = .ok (.iconst (-1), 1) := by decide +kernel
theorem dX8_turn_138 : decode cX8_turn 138 = .ok (.if_icmp .eq 158, 3) := by decide +kernel
theorem dX8_turn_141 : decode cX8_turn 141 = .ok (.aload_n 0, 1) := by decide +kernel
theorem dX8_turn_142 : decode cX8_turn 142 = .ok (.iload_n 1, 1) := by decide +kernel
theorem dX8_turn_143 : decode cX8_turn 143 = .ok (.iload_n 3, 1) := by decide +kernel
theorem dX8_turn_144 : decode cX8_turn 144 = .ok (.iload 4, 2) := by decide +kernel
theorem dX8_turn_146 : decode cX8_turn 146 = .ok (.iload 5, 2) := by decide +kernel
theorem dX8_turn_148 : decode cX8_turn 148 = .ok (.invokevirtual 253, 3) := by decide +kernel
theorem dX8_turn_151 : decode cX8_turn 151 = .ok (.ifCond .ne 145, 3) := by decide +kernel
theorem dX8_turn_154 : decode cX8_turn 154 = .ok (.aload_n 0, 1) := by decide +kernel
theorem dX8_turn_155 : decode cX8_turn 155 = .ok (.getfield 74, 3) := by decide +kernel
theorem dX8_turn_158 : decode cX8_turn 158 = .ok (.iload_n 1, 1) := by decide +kernel
theorem dX8_turn_159 : decode cX8_turn 159 = .ok (.iload_n 3, 1) := by decide +kernel
theorem dX8_turn_160 : decode cX8_turn 160 = .ok (.iastore, 1) := by decide +kernel
theorem dX8_turn_161 : decode cX8_turn 161 = .ok (.aload_n 0, 1) := by decide +kernel
theorem dX8_turn_162 : decode cX8_turn 162 = .ok (.getfield 77, 3) := by decide +kernel
theorem dX8_turn_165 : decode cX8_turn 165 = .ok (.iload_n 1, 1) := by decide +kernel
theorem dX8_turn_166 : decode cX8_turn 166 = .ok (.iload 4, 2) := by decide +kernel
theorem dX8_turn_168 : decode cX8_turn 168 = .ok (.iastore, 1) := by decide +kernel
theorem dX8_turn_169 : decode cX8_turn 169 = .ok (.aload_n 0, 1) := by decide +kernel
theorem dX8_turn_170 : decode cX8_turn 170 = .ok (.getfield 80, 3) := by decide +kernel
theorem dX8_turn_173 : decode cX8_turn 173 = .ok (.iload_n 1, 1) := by decide +kernel
theorem dX8_turn_174 : decode cX8_turn 174 = .ok (.iload 5, 2) := by decide +kernel
theorem dX8_turn_176 : decode cX8_turn 176 = .ok (.iastore, 1) := by decide +kernel
theorem dX8_turn_177 : decode cX8_turn 177 = .ok (.aload_n 0, 1) := by decide +kernel
theorem dX8_turn_178 : decode cX8_turn 178 = .ok (.getfield 101, 3) := by decide +kernel
theorem dX8_turn_181 : decode cX8_turn 181 = .ok (.iload_n 1, 1) := by decide +kernel
theorem dX8_turn_182 : decode cX8_turn 182 = .ok (.dup2, 1) := by decide +kernel
theorem dX8_turn_183 : decode cX8_turn 183 = .ok (.iaload, 1) := by decide +kernel
theorem dX8_turn_184 : decode cX8_turn 184 = .ok (.iconst 1, 1) := by decide +kernel
theorem dX8_turn_185 : decode cX8_turn 185 = .ok (.iadd, 1) := by decide +kernel
theorem dX8_turn_186 : decode cX8_turn 186 = .ok (.iastore, 1) := by decide +kernel
theorem dX8_turn_187 : decode cX8_turn 187 = .ok (.aload_n 0, 1) := by decide +kernel
theorem dX8_turn_188 : decode cX8_turn 188 = .ok (.getfield 104, 3) := by decide +kernel
theorem dX8_turn_191 : decode cX8_turn 191 = .ok (.iload_n 1, 1) := by decide +kernel
theorem dX8_turn_192 : decode cX8_turn 192 = .ok (.dup2, 1) := by decide +kernel
theorem dX8_turn_193 : decode cX8_turn 193 = .ok (.iaload, 1) := by decide +kernel
theorem dX8_turn_194 : decode cX8_turn 194 = .ok (.iload 6, 2) := by decide +kernel
theorem dX8_turn_196 : decode cX8_turn 196 = .ok (.iadd, 1) := by decide +kernel
theorem dX8_turn_197 : decode cX8_turn 197 = .ok (.iastore, 1) := by decide +kernel
theorem dX8_turn_198 : decode cX8_turn 198 = .ok (.aload_n 0, 1) := by decide +kernel
theorem dX8_turn_199 : decode cX8_turn 199 = .ok (.getfield 95, 3) := by decide +kernel
theorem dX8_turn_202 : decode cX8_turn 202 = .ok (.iload_n 1, 1) := by decide +kernel
theorem dX8_turn_203 : decode cX8_turn 203 = .ok (.iconst 0, 1) := by decide +kernel
theorem dX8_turn_204 : decode cX8_turn 204 = .ok (.iastore, 1) := by decide +kernel
theorem dX8_turn_205 : decode cX8_turn 205 = .ok (.aload_n 0, 1) := by decide +kernel
theorem dX8_turn_206 : decode cX8_turn 206 = .ok (.getfield 83, 3) := by decide +kernel
theorem dX8_turn_209 : decode cX8_turn 209 = .ok (.iload_n 1, 1) := by decide +kernel
theorem dX8_turn_210 : decode cX8_turn 210 = .ok (.dup2, 1) := by decide +kernel
theorem dX8_turn_211 : decode cX8_turn 211 = .ok (.iaload, 1) := by decide +kernel
theorem dX8_turn_212 : decode cX8_turn 212 = .ok (.iconst 1, 1) := by decide +kernel
theorem dX8_turn_213 : decode cX8_turn 213 = .ok (.isub, 1) := by decide +kernel
theorem dX8_turn_214 : decode cX8_turn 214 = .ok (.iastore, 1) := by decide +kernel
theorem dX8_turn_215 : decode cX8_turn 215 = .ok (.iconst 0, 1) := by decide +kernel
theorem dX8_turn_216 : decode cX8_turn 216 = .ok (.istore 7, 2) := by decide +kernel
theorem dX8_turn_218 : decode cX8_turn 218 = .ok (.iload 7, 2) := by decide +kernel
theorem dX8_turn_220 : decode cX8_turn 220 = .ok (.aload_n 0, 1) := by decide +kernel
theorem dX8_turn_221 : decode cX8_turn 221 = .ok (.getfield 83, 3) := by decide +kernel
theorem dX8_turn_224 : decode cX8_turn 224 = .ok (.iload_n 1, 1) := by decide +kernel
theorem dX8_turn_225 : decode cX8_turn 225 = .ok (.iaload, 1) := by decide +kernel
theorem dX8_turn_226 : decode cX8_turn 226 = .ok (.if_icmp .ge 69, 3) := by decide +kernel
theorem dX8_turn_229 : decode cX8_turn 229 = .ok (.aload_n 0, 1) := by decide +kernel
theorem dX8_turn_230 : decode cX8_turn 230 = .ok (.getfield 86, 3) := by decide +kernel
theorem dX8_turn_233 : decode cX8_turn 233 = .ok (.iload_n 2, 1) := by decide +kernel
theorem dX8_turn_234 : decode cX8_turn 234 = .ok (.iload 7, 2) := by decide +kernel
theorem dX8_turn_236 : decode cX8_turn 236 = .ok (.iadd, 1) := by decide +kernel
theorem dX8_turn_237 : decode cX8_turn 237 = .ok (.aload_n 0, 1) := by decide +kernel
theorem dX8_turn_238 : decode cX8_turn 238 = .ok (.getfield 86, 3) := by decide +kernel
theorem dX8_turn_241 : decode cX8_turn 241 = .ok (.iload_n 2, 1) := by decide +kernel
theorem dX8_turn_242 : decode cX8_turn 242 = .ok (.iload 7, 2) := by decide +kernel
theorem dX8_turn_244 : decode cX8_turn 244 = .ok (.iadd, 1) := by decide +kernel
theorem dX8_turn_245 : decode cX8_turn 245 = .ok (.iconst 1, 1) := by decide +kernel
theorem dX8_turn_246 : decode cX8_turn 246 = .ok (.iadd, 1) := by decide +kernel
theorem dX8_turn_247 : decode cX8_turn 247 = .ok (.iaload, 1) := by decide +kernel
theorem dX8_turn_248 : decode cX8_turn 248 = .ok (.iastore, 1) := by decide +kernel
theorem dX8_turn_249 : decode cX8_turn 249 = .ok (.aload_n 0, 1) := by decide +kernel
theorem dX8_turn_250 : decode cX8_turn 250 = .ok (.getfield 89, 3) := by decide +kernel
theorem dX8_turn_253 : decode cX8_turn 253 = .ok (.iload_n 2, 1) := by decide +kernel
theorem dX8_turn_254 : decode cX8_turn 254 = .ok (.iload 7, 2) := by decide +kernel
theorem dX8_turn_256 : decode cX8_turn 256 = .ok (.iadd, 1) := by decide +kernel
theorem dX8_turn_257 : decode cX8_turn 257 = .ok (.aload_n 0, 1) := by decide +kernel
theorem dX8_turn_258 : decode cX8_turn 258 = .ok (.getfield 89, 3) := by decide +kernel
theorem dX8_turn_261 : decode cX8_turn 261 = .ok (.iload_n 2, 1) := by decide +kernel
theorem dX8_turn_262 : decode cX8_turn 262 = .ok (.iload 7, 2) := by decide +kernel
theorem dX8_turn_264 : decode cX8_turn 264 = .ok (.iadd, 1) := by decide +kernel
theorem dX8_turn_265 : decode cX8_turn 265 = .ok (.iconst 1, 1) := by decide +kernel
theorem dX8_turn_266 : decode cX8_turn 266 = .ok (.iadd, 1) := by decide +kernel
theorem dX8_turn_267 : decode cX8_turn 267 = .ok (.iaload, 1) := by decide +kernel
theorem dX8_turn_268 : decode cX8_turn 268 = .ok (.iastore, 1) := by decide +kernel
theorem dX8_turn_269 : decode cX8_turn 269 = .ok (.aload_n 0, 1) := by decide +kernel
theorem dX8_turn_270 : decode cX8_turn 270 = .ok (.getfield 92, 3) := by decide +kernel
theorem dX8_turn_273 : decode cX8_turn 273 = .ok (.iload_n 2, 1) := by decide +kernel
theorem dX8_turn_274 : decode cX8_turn 274 = .ok (.iload 7, 2) := by decide +kernel
theorem dX8_turn_276 : decode cX8_turn 276 = .ok (.iadd, 1) := by decide +kernel
theorem dX8_turn_277 : decode cX8_turn 277 = .ok (.aload_n 0, 1) := by decide +kernel
theorem dX8_turn_278 : decode cX8_turn 278 = .ok (.getfield 92, 3) := by decide +kernel
theorem dX8_turn_281 : decode cX8_turn 281 = .ok (.iload_n 2, 1) := by decide +kernel
theorem dX8_turn_282 : decode cX8_turn 282 = .ok (.iload 7, 2) := by decide +kernel
theorem dX8_turn_284 : decode cX8_turn 284 = .ok (.iadd, 1) := by decide +kernel
theorem dX8_turn_285 : decode cX8_turn 285 = .ok (.iconst 1, 1) := by decide +kernel
theorem dX8_turn_286 : decode cX8_turn 286 = .ok (.iadd, 1) := by decide +kernel
theorem dX8_turn_287 : decode cX8_turn 287 = .ok (.iaload, 1) := by decide +kernel
theorem dX8_turn_288 : decode cX8_turn 288 = .ok (.iastore, 1) := by decide +kernel
theorem dX8_turn_289 : decode cX8_turn 289 = .ok (.iinc 7 1, 3) := by decide +kernel
theorem dX8_turn_292 : decode cX8_turn 292 = .ok (.goto (-74), 3) := by decide +kernel
theorem dX8_turn_295 : decode cX8_turn 295 = .ok (.return_, 1) := by decide +kernel
theorem dX8_turn_296 : decode cX8_turn 296 = .ok (.aload_n 0, 1) := by decide +kernel
theorem dX8_turn_297 : decode cX8_turn 297 = .ok (.getfield 95, 3) := by decide +kernel
theorem dX8_turn_300 : decode cX8_turn 300 = .ok (.iload_n 1, 1) := by decide +kernel
theorem dX8_turn_301 : decode cX8_turn 301 = .ok (.dup2, 1) := by decide +kernel
theorem dX8_turn_302 : decode cX8_turn 302 = .ok (.iaload, 1) := by decide +kernel
theorem dX8_turn_303 : decode cX8_turn 303 = .ok (.iconst 1, 1) := by decide +kernel
theorem dX8_turn_304 : decode cX8_turn 304 = .ok (.iadd, 1) := by decide +kernel
theorem dX8_turn_305 : decode cX8_turn 305 = .ok (.iastore, 1) := by decide +kernel
theorem dX8_turn_306 : decode cX8_turn 306 = .ok (.aload_n 0, 1) := by decide +kernel
theorem dX8_turn_307 : decode cX8_turn 307 = .ok (.getfield 95, 3) := by decide +kernel
theorem dX8_turn_310 : decode cX8_turn 310 = .ok (.iload_n 1, 1) := by decide +kernel
theorem dX8_turn_311 : decode cX8_turn 311 = .ok (.iaload, 1) := by decide +kernel
theorem dX8_turn_312 : decode cX8_turn 312 = .ok (.iconst 3, 1) := by decide +kernel
theorem dX8_turn_313 : decode cX8_turn 313 = .ok (.if_icmp .ne 15, 3) := by decide +kernel
theorem dX8_turn_316 : decode cX8_turn 316 = .ok (.aload_n 0, 1) := by decide +kernel
theorem dX8_turn_317 : decode cX8_turn 317 = .ok (.getfield 95, 3) := by decide +kernel
theorem dX8_turn_320 : decode cX8_turn 320 = .ok (.iload_n 1, 1) := by decide +kernel
theorem dX8_turn_321 : decode cX8_turn 321 = .ok (.iconst 0, 1) := by decide +kernel
theorem dX8_turn_322 : decode cX8_turn 322 = .ok (.iastore, 1) := by decide +kernel
theorem dX8_turn_323 : decode cX8_turn 323 = .ok (.aload_n 0, 1) := by decide +kernel
theorem dX8_turn_324 : decode cX8_turn 324 = .ok (.iload_n 1, 1) := by decide +kernel
theorem dX8_turn_325 : decode cX8_turn 325 = .ok (.invokevirtual 263, 3) := by decide +kernel
theorem dX8_turn_328 : decode cX8_turn 328 = .ok (.return_, 1) := by decide +kernel
theorem dX8_walker_0 : decode cX8_walker 0 = .ok (.iload_n 1, 1) := by decide +kernel
theorem dX8_walker_1 : decode cX8_walker 1 = .ok (.iload_n 2, 1) := by decide +kernel
theorem dX8_walker_2 : decode cX8_walker 2 = .ok (.iload_n 3, 1) := by decide +kernel
theorem dX8_walker_3 : decode cX8_walker 3 = .ok (.invokestatic 114, 3) := by decide +kernel
theorem dX8_walker_6 : decode cX8_walker 6 = .ok (.ifCond .ne 6, 3) := by decide +kernel
theorem dX8_walker_9 : decode cX8_walker 9 = .ok (.bipush (-2), 2) := by decide +kernel
theorem dX8_walker_11 : decode cX8_walker 11 = .ok (.ireturn, 1) := by decide +kernel
theorem dX8_walker_12 : decode cX8_walker 12 = .ok (.aload_n 0, 1) := by decide +kernel
theorem dX8_walker_13 : decode cX8_walker 13 = .ok (.iload_n 1, 1) := by decide +kernel
theorem dX8_walker_14 : decode cX8_walker 14 = .ok (.iload_n 2, 1) := by decide +kernel
theorem dX8_walker_15 : decode cX8_walker 15 = .ok (.iload_n 3, 1) := by decide +kernel
theorem dX8_walker_16 : decode cX8_walker 16 = .ok (.invokevirtual 152, 3) := by decide +kernel
theorem dX8_walker_19 : decode cX8_walker 19 = .ok (.ifCond .eq 18, 3) := by decide +kernel
theorem dX8_walker_22 : decode cX8_walker 22 = .ok (.aload_n 0, 1) := by decide +kernel
theorem dX8_walker_23 : decode cX8_walker 23 = .ok (.iconst (-1), 1) := by decide +kernel
theorem dX8_walker_24 : decode cX8_walker 24 = .ok (.iload_n 1, 1) := by decide +kernel
theorem dX8_walker_25 : decode cX8_walker 25 = .ok (.iload_n 2, 1) := by decide +kernel
theorem dX8_walker_26 : decode cX8_walker 26 = .ok (.iload_n 3, 1) := by decide +kernel
theorem dX8_walker_27 : decode cX8_walker 27 = .ok (.invokevirtual 253, 3) := by decide +kernel
theorem dX8_walker_30 : decode cX8_walker 30 = .ok (.ifCond .ne 7, 3) := by decide +kernel
theorem dX8_walker_33 : decode cX8_walker 33 = .ok (.iconst 1, 1) := by decide +kernel
theorem dX8_walker_34 : decode cX8_walker 34 = .ok (.goto 4, 3) := by decide +kernel
theorem dX8_walker_37 : decode cX8_walker 37 = .ok (.iconst 0, 1) := by decide +kernel
theorem dX8_walker_38 : decode cX8_walker 38 = .ok (.istore 4, 2) := by decide +kernel
theorem dX8_walker_40 : decode cX8_walker 40 = .ok (.iconst 0, 1) := by decide +kernel
theorem dX8_walker_41 : decode cX8_walker 41 = .ok (.istore 5, 2) := by decide +kernel
theorem dX8_walker_43 : decode cX8_walker 43 = .ok (.iload 5, 2) := by decide +kernel
theorem dX8_walker_45 : decode cX8_walker 45 = .ok (.aload_n 0, 1) := by decide +kernel
theorem dX8_walker_46 : decode cX8_walker 46 = .ok (.getfield 135, 3) := by decide +kernel
theorem dX8_walker_49 : decode cX8_walker 49 = .ok (.if_icmp .ge 46, 3) := by decide +kernel
theorem dX8_walker_52 : decode cX8_walker 52 = .ok (.iload 4, 2) := by decide +kernel
theorem dX8_walker_54 : decode cX8_walker 54 = .ok (.ifCond .eq 32, 3) := by decide +kernel
theorem dX8_walker_57 : decode cX8_walker 57 = .ok (.aload_n 0, 1) := by decide +kernel
theorem dX8_walker_58 : decode cX8_walker 58 = .ok (.getfield 23, 3) := by decide +kernel
theorem dX8_walker_61 : decode cX8_walker 61 = .ok (.iload 5, 2) := by decide +kernel
theorem dX8_walker_63 : decode cX8_walker 63 = .ok (.baload, 1) := by decide +kernel
theorem dX8_walker_64 : decode cX8_walker 64 = .ok (.ifCond .eq 18, 3) := by decide +kernel
theorem dX8_walker_67 : decode cX8_walker 67 = .ok (.aload_n 0, 1) := by decide +kernel
theorem dX8_walker_68 : decode cX8_walker 68 = .ok (.getfield 20, 3) := by decide +kernel
theorem dX8_walker_71 : decode cX8_walker 71 = .ok (.iload 5, 2) := by decide +kernel
theorem dX8_walker_73 : decode cX8_walker 73 = .ok (.iload_n 1, 1) := by decide +kernel
theorem dX8_walker_74 : decode cX8_walker 74 = .ok (.iload_n 2, 1) := by decide +kernel
theorem dX8_walker_75 : decode cX8_walker 75 = .ok (.iload_n 3, 1) := by decide +kernel
theorem dX8_walker_76 : decode cX8_walker 76 = .ok (.invokestatic 138, 3) := by decide +kernel
theorem dX8_walker_79 : decode cX8_walker 79 = .ok (.ifCond .ne 7, 3) := by decide +kernel
theorem dX8_walker_82 : decode cX8_walker 82 = .ok (.iconst 1, 1) := by decide +kernel
theorem dX8_walker_83 : decode cX8_walker 83 = .ok (.goto 4, 3) := by decide +kernel
theorem dX8_walker_86 : decode cX8_walker 86 = .ok (.iconst 0, 1) := by decide +kernel
theorem dX8_walker_87 : decode cX8_walker 87 = .ok (.istore 4, 2) := by decide +kernel
theorem dX8_walker_89 : decode cX8_walker 89 = .ok (.iinc 5 1, 3) := by decide +kernel
theorem dX8_walker_92 : decode cX8_walker 92 = .ok (.goto (-49), 3) := by decide +kernel
theorem dX8_walker_95 : decode cX8_walker 95 = .ok (.iload 4, 2) := by decide +kernel
theorem dX8_walker_97 : decode cX8_walker 97 = .ok (.ifCond .ne 6, 3) := by decide +kernel
theorem dX8_walker_100 : decode cX8_walker 100 = .ok (.bipush (-3), 2) := by decide +kernel
theorem dX8_walker_102 : decode cX8_walker 102 = .ok (.ireturn, 1) := by decide +kernel
theorem dX8_walker_103 : decode cX8_walker 103 = .ok (.aload_n 0, 1) := by decide +kernel
theorem dX8_walker_104 : decode cX8_walker 104 = .ok (.getfield 129, 3) := by decide +kernel
theorem dX8_walker_107 : decode cX8_walker 107 = .ok (.bipush 6, 2) := by decide +kernel
theorem dX8_walker_109 : decode cX8_walker 109 = .ok (.if_icmp .ne 6, 3) := by decide +kernel
theorem dX8_walker_112 : decode cX8_walker 112 = .ok (.bipush (-4), 2) := by decide +kernel
theorem dX8_walker_114 : decode cX8_walker 114 = .ok (.ireturn, 1) := by decide +kernel
theorem dX8_walker_115 : decode cX8_walker 115 = .ok (.aload_n 0, 1) := by decide +kernel
theorem dX8_walker_116 : decode cX8_walker 116 = .ok (.getfield 74, 3) := by decide +kernel
theorem dX8_walker_119 : decode cX8_walker 119 = .ok (.aload_n 0, 1) := by decide +kernel
theorem dX8_walker_120 : decode cX8_walker 120 = .ok (.getfield 129, 3) := by decide +kernel
theorem dX8_walker_123 : decode cX8_walker 123 = .ok (.iload_n 1, 1) := by decide +kernel
theorem dX8_walker_124 : decode cX8_walker 124 = .ok (.iastore, 1) := by decide +kernel
theorem dX8_walker_125 : decode cX8_walker 125 = .ok (.aload_n 0, 1) := by decide +kernel
theorem dX8_walker_126 : decode cX8_walker 126 = .ok (.getfield 77, 3) := by decide +kernel
theorem dX8_walker_129 : decode cX8_walker 129 = .ok (.aload_n 0, 1) := by decide +kernel
theorem dX8_walker_130 : decode cX8_walker 130 = .ok (.getfield 129, 3) := by decide +kernel
theorem dX8_walker_133 : decode cX8_walker 133 = .ok (.iload_n 2, 1) := by decide +kernel
theorem dX8_walker_134 : decode cX8_walker 134 = .ok (.iastore, 1) := by decide +kernel
theorem dX8_walker_135 : decode cX8_walker 135 = .ok (.aload_n 0, 1) := by decide +kernel
theorem dX8_walker_136 : decode cX8_walker 136 = .ok (.getfield 80, 3) := by decide +kernel
theorem dX8_walker_139 : decode cX8_walker 139 = .ok (.aload_n 0, 1) := by decide +kernel
theorem dX8_walker_140 : decode cX8_walker 140 = .ok (.getfield 129, 3) := by decide +kernel
theorem dX8_walker_143 : decode cX8_walker 143 = .ok (.iload_n 3, 1) := by decide +kernel
theorem dX8_walker_144 : decode cX8_walker 144 = .ok (.iastore, 1) := by decide +kernel
theorem dX8_walker_145 : decode cX8_walker 145 = .ok (.aload_n 0, 1) := by decide +kernel
theorem dX8_walker_146 : decode cX8_walker 146 = .ok (.dup, 1) := by decide +kernel
theorem dX8_walker_147 : decode cX8_walker 147 = .ok (.getfield 129, 3) := by decide +kernel
theorem dX8_walker_150 : decode cX8_walker 150 = .ok (.iconst 1, 1) := by decide +kernel
theorem dX8_walker_151 : decode cX8_walker 151 = .ok (.iadd, 1) := by decide +kernel
theorem dX8_walker_152 : decode cX8_walker 152 = .ok (.putfield 129, 3) := by decide +kernel
theorem dX8_walker_155 : decode cX8_walker 155 = .ok (.aload_n 0, 1) := by decide +kernel
theorem dX8_walker_156 : decode cX8_walker 156 = .ok (.getfield 129, 3) := by decide +kernel
theorem dX8_walker_159 : decode cX8_walker 159 = .ok (.iconst 1, 1) := by decide +kernel
theorem dX8_walker_160 : decode cX8_walker 160 = .ok (.isub, 1) := by decide +kernel
theorem dX8_walker_161 : decode cX8_walker 161 = .ok (.ireturn, 1) := by decide +kernel
theorem dX8_way_0 : decode cX8_way 0 = .ok (.iload_n 1, 1) := by decide +kernel
theorem dX8_way_1 : decode cX8_way 1 = .ok (.iload_n 2, 1) := by decide +kernel
theorem dX8_way_2 : decode cX8_way 2 = .ok (.iload_n 3, 1) := by decide +kernel
theorem dX8_way_3 : decode cX8_way 3 = .ok (.invokestatic 114, 3) := by decide +kernel
theorem dX8_way_6 : decode cX8_way 6 = .ok (.ifCond .eq 15, 3) := by decide +kernel
theorem dX8_way_9 : decode cX8_way 9 = .ok (.iload 4, 2) := by decide +kernel
theorem dX8_way_11 : decode cX8_way 11 = .ok (.iload 5, 2) := by decide +kernel
theorem dX8_way_13 : decode cX8_way 13 = .ok (.iload 6, 2) := by decide +kernel
theorem dX8_way_15 : decode cX8_way 15 = .ok (.invokestatic 114, 3) := by decide +kernel
theorem dX8_way_18 : decode cX8_way 18 = .ok (.ifCond .ne 6, 3) := by decide +kernel
theorem dX8_way_21 : decode cX8_way 21 = .ok (.bipush (-2), 2) := by decide +kernel
theorem dX8_way_23 : decode cX8_way 23 = .ok (.ireturn, 1) := by decide +kernel
theorem dX8_way_24 : decode cX8_way 24 = .ok (.aload_n 0, 1) := by decide +kernel
theorem dX8_way_25 : decode cX8_way 25 = .ok (.iload_n 1, 1) := by decide +kernel
theorem dX8_way_26 : decode cX8_way 26 = .ok (.iload_n 2, 1) := by decide +kernel
theorem dX8_way_27 : decode cX8_way 27 = .ok (.iload_n 3, 1) := by decide +kernel
theorem dX8_way_28 : decode cX8_way 28 = .ok (.invokevirtual 152, 3) := by decide +kernel
theorem dX8_way_31 : decode cX8_way 31 = .ok (.ifCond .eq 16, 3) := by decide +kernel
theorem dX8_way_34 : decode cX8_way 34 = .ok (.aload_n 0, 1) := by decide +kernel
theorem dX8_way_35 : decode cX8_way 35 = .ok (.iload 4, 2) := by decide +kernel
theorem dX8_way_37 : decode cX8_way 37 = .ok (.iload 5, 2) := by decide +kernel
theorem dX8_way_39 : decode cX8_way 39 = .ok (.iload 6, 2) := by decide +kernel
theorem dX8_way_41 : decode cX8_way 41 = .ok (.invokevirtual 152, 3) := by decide +kernel
theorem dX8_way_44 : decode cX8_way 44 = .ok (.ifCond .ne 6, 3) := by decide +kernel
theorem dX8_way_47 : decode cX8_way 47 = .ok (.bipush (-3), 2) := by decide +kernel
theorem dX8_way_49 : decode cX8_way 49 = .ok (.ireturn, 1) := by decide +kernel
theorem dX8_way_50 : decode cX8_way 50 = .ok (.aload_n 0, 1) := by decide +kernel
theorem dX8_way_51 : decode cX8_way 51 = .ok (.iload_n 1, 1) := by decide +kernel
theorem dX8_way_52 : decode cX8_way 52 = .ok (.iload_n 2, 1) := by decide +kernel
theorem dX8_way_53 : decode cX8_way 53 = .ok (.iload_n 3, 1) := by decide +kernel
theorem dX8_way_54 : decode cX8_way 54 = .ok (.iload 4, 2) := by decide +kernel
theorem dX8_way_56 : decode cX8_way 56 = .ok (.iload 5, 2) := by decide +kernel
theorem dX8_way_58 : decode cX8_way 58 = .ok (.iload 6, 2) := by decide +kernel
theorem dX8_way_60 : decode cX8_way 60 = .ok (.invokevirtual 240, 3) := by decide +kernel
