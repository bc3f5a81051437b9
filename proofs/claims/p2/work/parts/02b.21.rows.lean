set_option maxRecDepth 20000 in
theorem ggX8_leg_X8_size : GoodIn wsX8_leg wsX8_size := goodIn_r _ [9] (by decide +kernel) (by decide +kernel)
set_option maxRecDepth 20000 in
theorem gX8_leg_X8_size : GoodIn wsX8_leg (va_wsS RX8 167 yX8_size wsX8_size) := goodIn_app (goodIn_of _ (by decide +kernel)) ggX8_leg_X8_size
theorem dX8_leg_0 : decode cX8_leg 0 = .ok (.aload_n 0, 1) := by decide +kernel
theorem dX8_leg_1 : decode cX8_leg 1 = .ok (.iload_n 1, 1) := by decide +kernel
theorem dX8_leg_2 : decode cX8_leg 2 = .ok (.putfield 155, 3) := by decide +kernel
theorem dX8_leg_5 : decode cX8_leg 5 = .ok (.aload_n 0, 1) := by decide +kernel
theorem dX8_leg_6 : decode cX8_leg 6 = .ok (.iload_n 2, 1) := by decide +kernel
theorem dX8_leg_7 : decode cX8_leg 7 = .ok (.putfield 158, 3) := by decide +kernel
theorem dX8_leg_10 : decode cX8_leg 10 = .ok (.aload_n 0, 1) := by decide +kernel
theorem dX8_leg_11 : decode cX8_leg 11 = .ok (.iload_n 3, 1) := by decide +kernel
theorem dX8_leg_12 : decode cX8_leg 12 = .ok (.iload_n 1, 1) := by decide +kernel
theorem dX8_leg_13 : decode cX8_leg 13 = .ok (.isub, 1) := by decide +kernel
theorem dX8_leg_14 : decode cX8_leg 14 = .ok (.putfield 161, 3) := by decide +kernel
theorem dX8_leg_17 : decode cX8_leg 17 = .ok (.aload_n 0, 1) := by decide +kernel
theorem dX8_leg_18 : decode cX8_leg 18 = .ok (.iload 4, 2) := by decide +kernel
theorem dX8_leg_20 : decode cX8_leg 20 = .ok (.iload_n 2, 1) := by decide +kernel
theorem dX8_leg_21 : decode cX8_leg 21 = .ok (.isub, 1) := by decide +kernel
theorem dX8_leg_22 : decode cX8_leg 22 = .ok (.putfield 164, 3) := by decide +kernel
theorem dX8_leg_25 : decode cX8_leg 25 = .ok (.aload_n 0, 1) := by decide +kernel
theorem dX8_leg_26 : decode cX8_leg 26 = .ok (.aload_n 0, 1) := by decide +kernel
theorem dX8_leg_27 : decode cX8_leg 27 = .ok (.getfield 161, 3) := by decide +kernel
theorem dX8_leg_30 : decode cX8_leg 30 = .ok (.ifCond .ne 7, 3) := by decide +kernel
theorem dX8_leg_33 : decode cX8_leg 33 = .ok (.iconst 1, 1) := by decide +kernel
theorem dX8_leg_34 : decode cX8_leg 34 = .ok (.goto 10, 3) := by decide +kernel
theorem dX8_leg_37 : decode cX8_leg 37 = .ok (.aload_n 0, 1) := by decide +kernel
theorem dX8_leg_38 : decode cX8_leg 38 = .ok (.getfield 161, 3) := by decide +kernel
theorem dX8_leg_41 : decode cX8_leg 41 = .ok (.invokestatic 167, 3) := by decide +kernel
theorem dX8_leg_44 : decode cX8_leg 44 = .ok (.aload_n 0, 1) := by decide +kernel
theorem dX8_leg_45 : decode cX8_leg 45 = .ok (.getfield 164, 3) := by decide +kernel
theorem dX8_leg_48 : decode cX8_leg 48 = .ok (.ifCond .ne 7, 3) := by decide +kernel
theorem dX8_leg_51 : decode cX8_leg 51 = .ok (.iconst 1, 1) := by decide +kernel
theorem dX8_leg_52 : decode cX8_leg 52 = .ok (.goto 10, 3) := by decide +kernel
theorem dX8_leg_55 : decode cX8_leg 55 = .ok (.aload_n 0, 1) := by decide +kernel
theorem dX8_leg_56 : decode cX8_leg 56 = .ok (.getfield 164, 3) := by decide +kernel
theorem dX8_leg_59 : decode cX8_leg 59 = .ok (.invokestatic 167, 3) := by decide +kernel
theorem dX8_leg_62 : decode cX8_leg 62 = .ok (.imul, 1) := by decide +kernel
theorem dX8_leg_63 : decode cX8_leg 63 = .ok (.putfield 171, 3) := by decide +kernel
theorem dX8_leg_66 : decode cX8_leg 66 = .ok (.return_, 1) := by decide +kernel
set_option maxRecDepth 20000 in
theorem ggX8_cuts_X8_size : GoodIn wsX8_cuts wsX8_size := goodIn_r _ [7] (by decide +kernel) (by decide +kernel)
set_option maxRecDepth 20000 in
theorem gX8_cuts_X8_size : GoodIn wsX8_cuts (va_wsS RX8 167 yX8_size wsX8_size) := goodIn_app (goodIn_of _ (by decide +kernel)) ggX8_cuts_X8_size
theorem dX8_cuts_0 : decode cX8_cuts 0 = .ok (.iload_n 2, 1) := by decide +kernel
theorem dX8_cuts_1 : decode cX8_cuts 1 = .ok (.ifCond .ne 20, 3) := by decide +kernel
theorem dX8_cuts_4 : decode cX8_cuts 4 = .ok (.iload_n 1, 1) := by decide +kernel
theorem dX8_cuts_5 : decode cX8_cuts 5 = .ok (.iload_n 3, 1) := by decide +kernel
theorem dX8_cuts_6 : decode cX8_cuts 6 = .ok (.if_icmp .lt 13, 3) := by decide +kernel
theorem dX8_cuts_9 : decode cX8_cuts 9 = .ok (.iload_n 1, 1) := by decide +kernel
theorem dX8_cuts_10 : decode cX8_cuts 10 = .ok (.iload 4, 2) := by decide +kernel
theorem dX8_cuts_12 : decode cX8_cuts 12 = .ok (.if_icmp .gt 7, 3) := by decide +kernel
theorem dX8_cuts_15 : decode cX8_cuts 15 = .ok (.iconst 1, 1) := by decide +kernel
theorem dX8_cuts_16 : decode cX8_cuts 16 = .ok (.goto 4, 3) := by decide +kernel
theorem dX8_cuts_19 : decode cX8_cuts 19 = .ok (.iconst 0, 1) := by decide +kernel
theorem dX8_cuts_20 : decode cX8_cuts 20 = .ok (.ireturn, 1) := by decide +kernel
theorem dX8_cuts_21 : decode cX8_cuts 21 = .ok (.aload_n 0, 1) := by decide +kernel
theorem dX8_cuts_22 : decode cX8_cuts 22 = .ok (.getfield 171, 3) := by decide +kernel
theorem dX8_cuts_25 : decode cX8_cuts 25 = .ok (.iload_n 2, 1) := by decide +kernel
theorem dX8_cuts_26 : decode cX8_cuts 26 = .ok (.invokestatic 167, 3) := by decide +kernel
theorem dX8_cuts_29 : decode cX8_cuts 29 = .ok (.idiv, 1) := by decide +kernel
theorem dX8_cuts_30 : decode cX8_cuts 30 = .ok (.istore 5, 2) := by decide +kernel
theorem dX8_cuts_32 : decode cX8_cuts 32 = .ok (.iload_n 2, 1) := by decide +kernel
theorem dX8_cuts_33 : decode cX8_cuts 33 = .ok (.ifCond .le 9, 3) := by decide +kernel
theorem dX8_cuts_36 : decode cX8_cuts 36 = .ok (.iload_n 3, 1) := by decide +kernel
theorem dX8_cuts_37 : decode cX8_cuts 37 = .ok (.iload_n 1, 1) := by decide +kernel
theorem dX8_cuts_38 : decode cX8_cuts 38 = .ok (.isub, 1) := by decide +kernel
theorem dX8_cuts_39 : decode cX8_cuts 39 = .ok (.goto 7, 3) := by decide +kernel
theorem dX8_cuts_42 : decode cX8_cuts 42 = .ok (.iload_n 1, 1) := by decide +kernel
theorem dX8_cuts_43 : decode cX8_cuts 43 = .ok (.iload 4, 2) := by decide +kernel
theorem dX8_cuts_45 : decode cX8_cuts 45 = .ok (.isub, 1) := by decide +kernel
theorem dX8_cuts_46 : decode cX8_cuts 46 = .ok (.iload 5, 2) := by decide +kernel
theorem dX8_cuts_48 : decode cX8_cuts 48 = .ok (.imul, 1) := by decide +kernel
theorem dX8_cuts_49 : decode cX8_cuts 49 = .ok (.istore 6, 2) := by decide +kernel
theorem dX8_cuts_51 : decode cX8_cuts 51 = .ok (.iload_n 2, 1) := by decide +kernel
theorem dX8_cuts_52 : decode cX8_cuts 52 = .ok (.ifCond .le 10, 3) := by decide +kernel
theorem dX8_cuts_55 : decode cX8_cuts 55 = .ok (.iload 4, 2) := by decide +kernel
theorem dX8_cuts_57 : decode cX8_cuts 57 = .ok (.iload_n 1, 1) := by decide +kernel
theorem dX8_cuts_58 : decode cX8_cuts 58 = .ok (.isub, 1) := by decide +kernel
theorem dX8_cuts_59 : decode cX8_cuts 59 = .ok (.goto 6, 3) := by decide +kernel
theorem dX8_cuts_62 : decode cX8_cuts 62 = .ok (.iload_n 1, 1) := by decide +kernel
theorem dX8_cuts_63 : decode cX8_cuts 63 = .ok (.iload_n 3, 1) := by decide +kernel
theorem dX8_cuts_64 : decode cX8_cuts 64 = .ok (.isub, 1) := by decide +kernel
theorem dX8_cuts_65 : decode cX8_cuts 65 = .ok (.iload 5, 2) := by decide +kernel
theorem dX8_cuts_67 : decode cX8_cuts 67 = .ok (.imul, 1) := by decide +kernel
theorem dX8_cuts_68 : decode cX8_cuts 68 = .ok (.istore 7, 2) := by decide +kernel
theorem dX8_cuts_70 : decode cX8_cuts 70 = .ok (.aload_n 0, 1) := by decide +kernel
theorem dX8_cuts_71 : decode cX8_cuts 71 = .ok (.iload 6, 2) := by decide +kernel
theorem dX8_cuts_73 : decode cX8_cuts 73 = .ok (.aload_n 0, 1) := by decide +kernel
theorem dX8_cuts_74 : decode cX8_cuts 74 = .ok (.getfield 174, 3) := by decide +kernel
theorem dX8_cuts_77 : decode cX8_cuts 77 = .ok (.if_icmp .le 8, 3) := by decide +kernel
theorem dX8_cuts_80 : decode cX8_cuts 80 = .ok (.iload 6, 2) := by decide +kernel
theorem dX8_cuts_82 : decode cX8_cuts 82 = .ok (.goto 7, 3) := by decide +kernel
theorem dX8_cuts_85 : decode cX8_cuts 85 = .ok (.aload_n 0, 1) := by decide +kernel
theorem dX8_cuts_86 : decode cX8_cuts 86 = .ok (.getfield 174, 3) := by decide +kernel
theorem dX8_cuts_89 : decode cX8_cuts 89 = .ok (.putfield 174, 3) := by decide +kernel
theorem dX8_cuts_92 : decode cX8_cuts 92 = .ok (.aload_n 0, 1) := by decide +kernel
theorem dX8_cuts_93 : decode cX8_cuts 93 = .ok (.iload 7, 2) := by decide +kernel
theorem dX8_cuts_95 : decode cX8_cuts 95 = .ok (.aload_n 0, 1) := by decide +kernel
theorem dX8_cuts_96 : decode cX8_cuts 96 = .ok (.getfield 177, 3) := by decide +kernel
theorem dX8_cuts_99 : decode cX8_cuts 99 = .ok (.if_icmp .ge 8, 3) := by decide +kernel
theorem dX8_cuts_102 : decode cX8_cuts 102 = .ok (.iload 7, 2) := by decide +kernel
theorem dX8_cuts_104 : decode cX8_cuts 104 = .ok (.goto 7, 3) := by decide +kernel
theorem dX8_cuts_107 : decode cX8_cuts 107 = .ok (.aload_n 0, 1) := by decide +kernel
theorem dX8_cuts_108 : decode cX8_cuts 108 = .ok (.getfield 177, 3) := by decide +kernel
theorem dX8_cuts_111 : decode cX8_cuts 111 = .ok (.putfield 177, 3) := by decide +kernel
theorem dX8_cuts_114 : decode cX8_cuts 114 = .ok (.iconst 1, 1) := by decide +kernel
theorem dX8_cuts_115 : decode cX8_cuts 115 = .ok (.ireturn, 1) := by decide +kernel
set_option maxRecDepth 20000 in
theorem ggX8_meets_X8_cuts : GoodIn wsX8_meets wsX8_cuts := goodIn_r _ [12, 2, 1, 3, 13, 14, 11, 15, 16, 17, 18, 19, 20, 21, 22, 23, 24, 25, 26, 27, 28, 29, 30, 31, 32, 33, 34, 35, 36, 37, 38, 39, 40, 41, 42, 43, 44, 45, 46, 47, 48, 49, 50, 51, 52, 53, 54, 55, 56, 57, 58, 59, 60, 61, 62, 63, 64] (by decide +kernel) (by decide +kernel)
set_option maxRecDepth 20000 in
theorem gX8_meets_X8_cuts : GoodIn wsX8_meets (wsV RX8 180 RX8 yX8_cuts wsX8_cuts) := goodIn_app (goodIn_of _ (by decide +kernel)) ggX8_meets_X8_cuts
theorem dX8_meets_0 : decode cX8_meets 0 = .ok (.aload_n 0, 1) := by decide +kernel
theorem dX8_meets_1 : decode cX8_meets 1 = .ok (.iconst 0, 1) := by decide +kernel
theorem dX8_meets_2 : decode cX8_meets 2 = .ok (.putfield 174, 3) := by decide +kernel
theorem dX8_meets_5 : decode cX8_meets 5 = .ok (.aload_n 0, 1) := by decide +kernel
theorem dX8_meets_6 : decode cX8_meets 6 = .ok (.aload_n 0, 1) := by decide +kernel
theorem dX8_meets_7 : decode cX8_meets 7 = .ok (.getfield 171, 3) := by decide +kernel
theorem dX8_meets_10 : decode cX8_meets 10 = .ok (.putfield 177, 3) := by decide +kernel
theorem dX8_meets_13 : decode cX8_meets 13 = .ok (.aload_n 0, 1) := by decide +kernel
theorem dX8_meets_14 : decode cX8_meets 14 = .ok (.aload_n 0, 1) := by decide +kernel
theorem dX8_meets_15 : decode cX8_meets 15 = .ok (.getfield 155, 3) := by decide +kernel
theorem dX8_meets_18 : decode cX8_meets 18 = .ok (.aload_n 0, 1) := by decide +kernel
theorem dX8_meets_19 : decode cX8_meets 19 = .ok (.getfield 161, 3) := by decide +kernel
theorem dX8_meets_22 : decode cX8_meets 22 = .ok (.aload_n 1, 1) := by decide +kernel
theorem dX8_meets_23 : decode cX8_meets 23 = .ok (.iconst 5, 1) := by decide +kernel
theorem dX8_meets_24 : decode cX8_meets 24 = .ok (.iload_n 2, 1) := by decide +kernel
theorem dX8_meets_25 : decode cX8_meets 25 = .ok (.imul, 1) := by decide +kernel
theorem dX8_meets_26 : decode cX8_meets 26 = .ok (.iconst 1, 1) := by decide +kernel
theorem dX8_meets_27 : decode cX8_meets 27 = .ok (.iadd, 1) := by decide +kernel
theorem dX8_meets_28 : decode cX8_meets 28 = .ok (.iaload, 1) := by decide +kernel
theorem dX8_meets_29 : decode cX8_meets 29 = .ok (.aload_n 1, 1) := by decide +kernel
theorem dX8_meets_30 : decode cX8_meets 30 = .ok (.iconst 5, 1) := by decide +kernel
theorem dX8_meets_31 : decode cX8_meets 31 = .ok (.iload_n 2, 1) := by decide +kernel
theorem dX8_meets_32 : decode cX8_meets 32 = .ok (.imul, 1) := by decide +kernel
theorem dX8_meets_33 : decode cX8_meets 33 = .ok (.iconst 3, 1) := by decide +kernel
theorem dX8_meets_34 : decode cX8_meets 34 = .ok (.iadd, 1) := by decide +kernel
theorem dX8_meets_35 : decode cX8_meets 35 = .ok (.iaload, 1) := by decide +kernel
theorem dX8_meets_36 : decode cX8_meets 36 = .ok (.invokevirtual 180, 3) := by decide +kernel
theorem dX8_meets_39 : decode cX8_meets 39 = .ok (.ifCond .eq 47, 3) := by decide +kernel
theorem dX8_meets_42 : decode cX8_meets 42 = .ok (.aload_n 0, 1) := by decide +kernel
theorem dX8_meets_43 : decode cX8_meets 43 = .ok (.aload_n 0, 1) := by decide +kernel
theorem dX8_meets_44 : decode cX8_meets 44 = .ok (.getfield 158, 3) := by decide +kernel
theorem dX8_meets_47 : decode cX8_meets 47 = .ok (.aload_n 0, 1) := by decide +kernel
theorem dX8_meets_48 : decode cX8_meets 48 = .ok (.getfield 164, 3) := by decide +kernel
theorem dX8_meets_51 : decode cX8_meets 51 = .ok (.aload_n 1, 1) := by decide +kernel
theorem dX8_meets_52 : decode cX8_meets 52 = .ok (.iconst 5, 1) := by decide +kernel
theorem dX8_meets_53 : decode cX8_meets 53 = .ok (.iload_n 2, 1) := by decide +kernel
theorem dX8_meets_54 : decode cX8_meets 54 = .ok (.imul, 1) := by decide +kernel
theorem dX8_meets_55 : decode cX8_meets 55 = .ok (.iconst 2, 1) := by decide +kernel
theorem dX8_meets_56 : decode cX8_meets 56 = .ok (.iadd, 1) := by decide +kernel
theorem dX8_meets_57 : decode cX8_meets 57 = .ok (.iaload, 1) := by decide +kernel
theorem dX8_meets_58 : decode cX8_meets 58 = .ok (.aload_n 1, 1) := by decide +kernel
theorem dX8_meets_59 : decode cX8_meets 59 = .ok (.iconst 5, 1) := by decide +kernel
theorem dX8_meets_60 : decode cX8_meets 60 = .ok (.iload_n 2, 1) := by decide +kernel
theorem dX8_meets_61 : decode cX8_meets 61 = .ok (.imul, 1) := by decide +kernel
theorem dX8_meets_62 : decode cX8_meets 62 = .ok (.iconst 4, 1) := by decide +kernel
theorem dX8_meets_63 : decode cX8_meets 63 = .ok (.iadd, 1) := by decide +kernel
theorem dX8_meets_64 : decode cX8_meets 64 = .ok (.iaload, 1) := by decide +kernel
theorem dX8_meets_65 : decode cX8_meets 65 = .ok (.invokevirtual 180, 3) := by decide +kernel
theorem dX8_meets_68 : decode cX8_meets 68 = .ok (.ifCond .eq 18, 3) := by decide +kernel
theorem dX8_meets_71 : decode cX8_meets 71 = .ok (.aload_n 0, 1) := by decide +kernel
theorem dX8_meets_72 : decode cX8_meets 72 = .ok (.getfield 174, 3) := by decide +kernel
theorem dX8_meets_75 : decode cX8_meets 75 = .ok (.aload_n 0, 1) := by decide +kernel
theorem dX8_meets_76 : decode cX8_meets 76 = .ok (.getfield 177, 3) := by decide +kernel
theorem dX8_meets_79 : decode cX8_meets 79 = .ok (.if_icmp .gt 7, 3) := by decide +kernel
theorem dX8_meets_82 : decode cX8_meets 82 = .ok (.iconst 1, 1) := by decide +kernel
theorem dX8_meets_83 : decode cX8_meets 83 = .ok (.goto 4, 3) := by decide +kernel
theorem dX8_meets_86 : decode cX8_meets 86 = .ok (.iconst 0, 1) := by decide +kernel
theorem dX8_meets_87 : decode cX8_meets 87 = .ok (.ireturn, 1) := by decide +kernel
set_option maxRecDepth 20000 in
theorem ggX8_enters_X8_cuts : GoodIn wsX8_enters wsX8_cuts := goodIn_r _ [15, 10, 7, 9, 16, 17, 14, 18, 19, 20, 21, 22, 23, 24, 25, 26, 27, 28, 29, 30, 31, 32, 33, 34, 35, 36, 37, 38, 39, 40, 41, 42, 43, 44, 45, 46, 47, 48, 49, 50, 51, 52, 53, 54, 55, 56, 57, 58, 59, 60, 61, 62, 63, 64, 65, 66, 67] (by decide +kernel) (by decide +kernel)
set_option maxRecDepth 20000 in
theorem gX8_enters_X8_cuts : GoodIn wsX8_enters (wsV RX8 180 RX8 yX8_cuts wsX8_cuts) := goodIn_app (goodIn_of _ (by decide +kernel)) ggX8_enters_X8_cuts
theorem dX8_enters_0 : decode cX8_enters 0 = .ok (.aload_n 0, 1) := by decide +kernel
theorem dX8_enters_1 : decode cX8_enters 1 = .ok (.getfield 17, 3) := by decide +kernel
theorem dX8_enters_4 : decode cX8_enters 4 = .ok (.iconst 5, 1) := by decide +kernel
theorem dX8_enters_5 : decode cX8_enters 5 = .ok (.iload_n 1, 1) := by decide +kernel
theorem dX8_enters_6 : decode cX8_enters 6 = .ok (.imul, 1) := by decide +kernel
theorem dX8_enters_7 : decode cX8_enters 7 = .ok (.iconst 1, 1) := by decide +kernel
theorem dX8_enters_8 : decode cX8_enters 8 = .ok (.iadd, 1) := by decide +kernel
theorem dX8_enters_9 : decode cX8_enters 9 = .ok (.iaload, 1) := by decide +kernel
theorem dX8_enters_10 : decode cX8_enters 10 = .ok (.istore_n 2, 1) := by decide +kernel
theorem dX8_enters_11 : decode cX8_enters 11 = .ok (.aload_n 0, 1) := by decide +kernel
theorem dX8_enters_12 : decode cX8_enters 12 = .ok (.getfield 17, 3) := by decide +kernel
theorem dX8_enters_15 : decode cX8_enters 15 = .ok (.iconst 5, 1) := by decide +kernel
theorem dX8_enters_16 : decode cX8_enters 16 = .ok (.iload_n 1, 1) := by decide +kernel
theorem dX8_enters_17 : decode cX8_enters 17 = .ok (.imul, 1) := by decide +kernel
theorem dX8_enters_18 : decode cX8_enters 18 = .ok (.iconst 2, 1) := by decide +kernel
theorem dX8_enters_19 : decode cX8_enters 19 = .ok (.iadd, 1) := by decide +kernel
theorem dX8_enters_20 : decode cX8_enters 20 = .ok (.iaload, 1) := by decide +kernel
theorem dX8_enters_21 : decode cX8_enters 21 = .ok (.istore_n 3, 1) := by decide +kernel
theorem dX8_enters_22 : decode cX8_enters 22 = .ok (.aload_n 0, 1) := by decide +kernel
theorem dX8_enters_23 : decode cX8_enters 23 = .ok (.getfield 17, 3) := by decide +kernel
theorem dX8_enters_26 : decode cX8_enters 26 = .ok (.iconst 5, 1) := by decide +kernel
theorem dX8_enters_27 : decode cX8_enters 27 = .ok (.iload_n 1, 1) := by decide +kernel
theorem dX8_enters_28 : decode cX8_enters 28 = .ok (.imul, 1) := by decide +kernel
theorem dX8_enters_29 : decode cX8_enters 29 = .ok (.iconst 3, 1) := by decide +kernel
theorem dX8_enters_30 : decode cX8_enters 30 = .ok (.iadd, 1) := by decide +kernel
theorem dX8_enters_31 : decode cX8_enters 31 = .ok (.iaload, 1) := by decide +kernel
theorem dX8_enters_32 : decode cX8_enters 32 = .ok (.istore 4, 2) := by decide +kernel
theorem dX8_enters_34 : decode cX8_enters 34 = .ok (.aload_n 0, 1) := by decide +kernel
theorem dX8_enters_35 : decode cX8_enters 35 = .ok (.getfield 17, 3) := by decide +kernel
theorem dX8_enters_38 : decode cX8_enters 38 = .ok (.iconst 5, 1) := by decide +kernel
theorem dX8_enters_39 : decode cX8_enters 39 = .ok (.iload_n 1, 1) := by decide +kernel
theorem dX8_enters_40 : decode cX8_enters 40 = .ok (.imul, 1) := by decide +kernel
theorem dX8_enters_41 : decode cX8_enters 41 = .ok (.iconst 4, 1) := by decide +kernel
theorem dX8_enters_42 : decode cX8_enters 42 = .ok (.iadd, 1) := by decide +kernel
theorem dX8_enters_43 : decode cX8_enters 43 = .ok (.iaload, 1) := by decide +kernel
theorem dX8_enters_44 : decode cX8_enters 44 = .ok (.istore 5, 2) := by decide +kernel
theorem dX8_enters_46 : decode cX8_enters 46 = .ok (.aload_n 0, 1) := by decide +kernel
theorem dX8_enters_47 : decode cX8_enters 47 = .ok (.getfield 161, 3) := by decide +kernel
theorem dX8_enters_50 : decode cX8_enters 50 = .ok (.ifCond .ne 20, 3) := by decide +kernel
theorem dX8_enters_53 : decode cX8_enters 53 = .ok (.aload_n 0, 1) := by decide +kernel
theorem dX8_enters_54 : decode cX8_enters 54 = .ok (.getfield 155, 3) := by decide +kernel
theorem dX8_enters_57 : decode cX8_enters 57 = .ok (.iload_n 2, 1) := by decide +kernel
theorem dX8_enters_58 : decode cX8_enters 58 = .ok (.if_icmp .le 36, 3) := by decide +kernel
theorem dX8_enters_61 : decode cX8_enters 61 = .ok (.aload_n 0, 1) := by decide +kernel
theorem dX8_enters_62 : decode cX8_enters 62 = .ok (.getfield 155, 3) := by decide +kernel
theorem dX8_enters_65 : decode cX8_enters 65 = .ok (.iload 4, 2) := by decide +kernel
theorem dX8_enters_67 : decode cX8_enters 67 = .ok (.if_icmp .ge 27, 3) := by decide +kernel
theorem dX8_enters_70 : decode cX8_enters 70 = .ok (.aload_n 0, 1) := by decide +kernel
theorem dX8_enters_71 : decode cX8_enters 71 = .ok (.getfield 164, 3) := by decide +kernel
theorem dX8_enters_74 : decode cX8_enters 74 = .ok (.ifCond .ne 22, 3) := by decide +kernel
theorem dX8_enters_77 : decode cX8_enters 77 = .ok (.aload_n 0, 1) := by decide +kernel
theorem dX8_enters_78 : decode cX8_enters 78 = .ok (.getfield 158, 3) := by decide +kernel
theorem dX8_enters_81 : decode cX8_enters 81 = .ok (.iload_n 3, 1) := by decide +kernel
theorem dX8_enters_82 : decode cX8_enters 82 = .ok (.if_icmp .le 12, 3) := by decide +kernel
theorem dX8_enters_85 : decode cX8_enters 85 = .ok (.aload_n 0, 1) := by decide +kernel
theorem dX8_enters_86 : decode cX8_enters 86 = .ok (.getfield 158, 3) := by decide +kernel
theorem dX8_enters_89 : decode cX8_enters 89 = .ok (.iload 5, 2) := by decide +kernel
theorem dX8_enters_91 : decode cX8_enters 91 = .ok (.if_icmp .lt 5, 3) := by decide +kernel
theorem dX8_enters_94 : decode cX8_enters 94 = .ok (.iconst 0, 1) := by decide +kernel
theorem dX8_enters_95 : decode cX8_enters 95 = .ok (.ireturn, 1) := by decide +kernel
theorem dX8_enters_96 : decode cX8_enters 96 = .ok (.aload_n 0, 1) := by decide +kernel
theorem dX8_enters_97 : decode cX8_enters 97 = .ok (.getfield 161, 3) := by decide +kernel
theorem dX8_enters_100 : decode cX8_enters 100 = .ok (.ifCond .ne 12, 3) := by decide +kernel
theorem dX8_enters_103 : decode cX8_enters 103 = .ok (.aload_n 0, 1) := by decide +kernel
theorem dX8_enters_104 : decode cX8_enters 104 = .ok (.getfield 164, 3) := by decide +kernel
theorem dX8_enters_107 : decode cX8_enters 107 = .ok (.ifCond .ne 5, 3) := by decide +kernel
theorem dX8_enters_110 : decode cX8_enters 110 = .ok (.iconst 1, 1) := by decide +kernel
theorem dX8_enters_111 : decode cX8_enters 111 = .ok (.ireturn, 1) := by decide +kernel
theorem dX8_enters_112 : decode cX8_enters 112 = .ok (.aload_n 0, 1) := by decide +kernel
theorem dX8_enters_113 : decode cX8_enters 113 = .ok (.ldc 184, 2) := by decide +kernel
theorem dX8_enters_115 : decode cX8_enters 115 = .ok (.putfield 174, 3) := by decide +kernel
theorem dX8_enters_118 : decode cX8_enters 118 = .ok (.aload_n 0, 1) := by decide +kernel
theorem dX8_enters_119 : decode cX8_enters 119 = .ok (.ldc 185, 2) := by decide +kernel
theorem dX8_enters_121 : decode cX8_enters 121 = .ok (.putfield 177, 3) := by decide +kernel
theorem dX8_enters_124 : decode cX8_enters 124 = .ok (.aload_n 0, 1) := by decide +kernel
theorem dX8_enters_125 : decode cX8_enters 125 = .ok (.aload_n 0, 1) := by decide +kernel
theorem dX8_enters_126 : decode cX8_enters 126 = .ok (.getfield 155, 3) := by decide +kernel
theorem dX8_enters_129 : decode cX8_enters 129 = .ok (.aload_n 0, 1) := by decide +kernel
theorem dX8_enters_130 : decode cX8_enters 130 = .ok (.getfield 161, 3) := by decide +kernel
theorem dX8_enters_133 : decode cX8_enters 133 = .ok (.iload_n 2, 1) := by decide +kernel
theorem dX8_enters_134 : decode cX8_enters 134 = .ok (.iload 4, 2) := by decide +kernel
theorem dX8_enters_136 : decode cX8_enters 136 = .ok (.invokevirtual 180, 3) := by decide +kernel
theorem dX8_enters_139 : decode cX8_enters 139 = .ok (.pop, 1) := by decide +kernel
theorem dX8_enters_140 : decode cX8_enters 140 = .ok (.aload_n 0, 1) := by decide +kernel
theorem dX8_enters_141 : decode cX8_enters 141 = .ok (.aload_n 0, 1) := by decide +kernel
theorem dX8_enters_142 : decode cX8_enters 142 = .ok (.getfield 158, 3) := by decide +kernel
theorem dX8_enters_145 : decode cX8_enters 145 = .ok (.aload_n 0, 1) := by decide +kernel
theorem dX8_enters_146 : decode cX8_enters 146 = .ok (.getfield 164, 3) := by decide +kernel
theorem dX8_enters_149 : decode cX8_enters 149 = .ok (.iload_n 3, 1) := by decide +kernel
theorem dX8_enters_150 : decode cX8_enters 150 = .ok (.iload 5, 2) := by decide +kernel
theorem dX8_enters_152 : decode cX8_enters 152 = .ok (.invokevirtual 180, 3) := by decide +kernel
theorem dX8_enters_155 : decode cX8_enters 155 = .ok (.pop, 1) := by decide +kernel
theorem dX8_enters_156 : decode cX8_enters 156 = .ok (.aload_n 0, 1) := by decide +kernel
theorem dX8_enters_157 : decode cX8_enters 157 = .ok (.getfield 174, 3) := by decide +kernel
theorem dX8_enters_160 : decode cX8_enters 160 = .ok (.aload_n 0, 1) := by decide +kernel
theorem dX8_enters_161 : decode cX8_enters 161 = .ok (.getfield 177, 3) := by decide +kernel
theorem dX8_enters_164 : decode cX8_enters 164 = .ok (.if_icmp .ge 25, 3) := by decide +kernel
theorem dX8_enters_167 : decode cX8_enters 167 = .ok (.aload_n 0, 1) := by decide +kernel
theorem dX8_enters_168 : decode cX8_enters 168 = .ok (.getfield 174, 3) := by decide +kernel
theorem dX8_enters_171 : decode cX8_enters 171 = .ok (.aload_n 0, 1) := by decide +kernel
theorem dX8_enters_172 : decode cX8_enters 172 = .ok (.getfield 171, 3) := by decide +kernel
theorem dX8_enters_175 : decode cX8_enters 175 = .ok (.if_icmp .ge 14, 3) := by decide +kernel
theorem dX8_enters_178 : decode cX8_enters 178 = .ok (.aload_n 0, 1) := by decide +kernel
theorem dX8_enters_179 : decode cX8_enters 179 = .ok (.getfield 177, 3) := by decide +kernel
theorem dX8_enters_182 : decode cX8_enters 182 = .ok (.ifCond .le 7, 3) := by decide +kernel
theorem dX8_enters_185 : decode cX8_enters 185 = .ok (.iconst 1, 1) := by decide +kernel
theorem dX8_enters_186 : decode cX8_enters 186 = .ok (.goto 4, 3) := by decide +kernel
theorem dX8_enters_189 : decode cX8_enters 189 = .ok (.iconst 0, 1) := by decide +kernel
theorem dX8_enters_190 : decode cX8_enters 190 = .ok (.ireturn, 1) := by decide +kernel
set_option maxRecDepth 20000 in
theorem ggX8_isAllGround_X8_meets : GoodIn wsX8_isAllGround wsX8_meets := goodIn_r _ [16, 4, 9, 6, 17, 7, 18, 8, 19, 20, 21, 15, 22, 23, 24, 25, 32, 33, 34, 35, 36, 37, 38, 39, 40, 41, 42, 43, 44, 45, 46, 47, 48, 49, 50, 51, 52, 53, 54, 55, 56, 57, 58, 59, 60, 61, 62, 63, 64, 65, 66, 67, 68, 69, 70, 71, 72, 73, 74, 75, 76, 77, 78, 79, 80] (by decide +kernel) (by decide +kernel)
set_option maxRecDepth 20000 in
theorem gX8_isAllGround_X8_meets : GoodIn wsX8_isAllGround (wsV RX8 186 RX8 yX8_meets wsX8_meets) := goodIn_app (goodIn_of _ (by decide +kernel)) ggX8_isAllGround_X8_meets
set_option maxRecDepth 20000 in
theorem ggX8_isAllGround_X8_enters : GoodIn wsX8_isAllGround wsX8_enters := goodIn_r _ [29, 11, 7, 17, 8, 18, 30, 4, 31, 6, 9, 19, 20, 21, 15, 22, 23, 24, 25, 32, 33, 34, 35, 36, 37, 38, 39, 40, 41, 42, 43, 44, 45, 46, 47, 48, 49, 50, 51, 52, 53, 54, 55, 56, 57, 58, 59, 60, 61, 62, 63, 64, 65, 66, 67, 68, 69, 70, 71, 72, 73, 74, 75, 76, 77, 78, 79, 80] (by decide +kernel) (by decide +kernel)
set_option maxRecDepth 20000 in
theorem gX8_isAllGround_X8_enters : GoodIn wsX8_isAllGround (wsV RX8 190 RX8 yX8_enters wsX8_enters) := goodIn_app (goodIn_of _ (by decide +kernel)) ggX8_isAllGround_X8_enters
theorem dX8_isAllGround_0 : decode cX8_isAllGround 0 = .ok (.iconst 0, 1) := by decide +kernel
theorem dX8_isAllGround_1 : decode cX8_isAllGround 1 = .ok (.istore_n 2, 1) := by decide +kernel
theorem dX8_isAllGround_2 : decode cX8_isAllGround 2 = .ok (.iconst 0, 1) := by decide +kernel
theorem dX8_isAllGround_3 : decode cX8_isAllGround 3 = .ok (.istore_n 3, 1) := by decide +kernel
theorem dX8_isAllGround_4 : decode cX8_isAllGround 4 = .ok (.iload_n 3, 1) := by decide +kernel
theorem dX8_isAllGround_5 : decode cX8_isAllGround 5 = .ok (.aload_n 0, 1) := by decide +kernel
theorem dX8_isAllGround_6 : decode cX8_isAllGround 6 = .ok (.getfield 121, 3) := by decide +kernel
theorem dX8_isAllGround_9 : decode cX8_isAllGround 9 = .ok (.if_icmp .ge 56, 3) := by decide +kernel
theorem dX8_isAllGround_12 : decode cX8_isAllGround 12 = .ok (.aload_n 0, 1) := by decide +kernel
theorem dX8_isAllGround_13 : decode cX8_isAllGround 13 = .ok (.getfield 7, 3) := by decide +kernel
theorem dX8_isAllGround_16 : decode cX8_isAllGround 16 = .ok (.iconst 5, 1) := by decide +kernel
theorem dX8_isAllGround_17 : decode cX8_isAllGround 17 = .ok (.iload_n 3, 1) := by decide +kernel
theorem dX8_isAllGround_18 : decode cX8_isAllGround 18 = .ok (.imul, 1) := by decide +kernel
theorem dX8_isAllGround_19 : decode cX8_isAllGround 19 = .ok (.iaload, 1) := by decide +kernel
theorem dX8_isAllGround_20 : decode cX8_isAllGround 20 = .ok (.iload_n 1, 1) := by decide +kernel
theorem dX8_isAllGround_21 : decode cX8_isAllGround 21 = .ok (.if_icmp .ne 38, 3) := by decide +kernel
theorem dX8_isAllGround_24 : decode cX8_isAllGround 24 = .ok (.aload_n 0, 1) := by decide +kernel
theorem dX8_isAllGround_25 : decode cX8_isAllGround 25 = .ok (.aload_n 0, 1) := by decide +kernel
theorem dX8_isAllGround_26 : decode cX8_isAllGround 26 = .ok (.getfield 7, 3) := by decide +kernel
theorem dX8_isAllGround_29 : decode cX8_isAllGround 29 = .ok (.iload_n 3, 1) := by decide +kernel
theorem dX8_isAllGround_30 : decode cX8_isAllGround 30 = .ok (.invokevirtual 186, 3) := by decide +kernel
theorem dX8_isAllGround_33 : decode cX8_isAllGround 33 = .ok (.ifCond .eq 26, 3) := by decide +kernel
theorem dX8_isAllGround_36 : decode cX8_isAllGround 36 = .ok (.aload_n 0, 1) := by decide +kernel
theorem dX8_isAllGround_37 : decode cX8_isAllGround 37 = .ok (.getfield 35, 3) := by decide +kernel
theorem dX8_isAllGround_40 : decode cX8_isAllGround 40 = .ok (.iload_n 2, 1) := by decide +kernel
theorem dX8_isAllGround_41 : decode cX8_isAllGround 41 = .ok (.aload_n 0, 1) := by decide +kernel
theorem dX8_isAllGround_42 : decode cX8_isAllGround 42 = .ok (.getfield 174, 3) := by decide +kernel
theorem dX8_isAllGround_45 : decode cX8_isAllGround 45 = .ok (.iastore, 1) := by decide +kernel
theorem dX8_isAllGround_46 : decode cX8_isAllGround 46 = .ok (.aload_n 0, 1) := by decide +kernel
theorem dX8_isAllGround_47 : decode cX8_isAllGround 47 = .ok (.getfield 38, 3) := by decide +kernel
theorem dX8_isAllGround_50 : decode cX8_isAllGround 50 = .ok (.iload_n 2, 1) := by decide +kernel
theorem dX8_isAllGround_51 : decode cX8_isAllGround 51 = .ok (.aload_n 0, 1) := by decide +kernel
theorem dX8_isAllGround_52 : decode cX8_isAllGround 52 = .ok (.getfield 177, 3) := by decide +kernel
theorem dX8_isAllGround_55 : decode cX8_isAllGround 55 = .ok (.iastore, 1) := by decide +kernel
theorem dX8_isAllGround_56 : decode cX8_isAllGround 56 = .ok (.iinc 2 1, 3) := by decide +kernel
theorem dX8_isAllGround_59 : decode cX8_isAllGround 59 = .ok (.iinc 3 1, 3) := by decide +kernel
theorem dX8_isAllGround_62 : decode cX8_isAllGround 62 = .ok (.goto (-58), 3) := by decide +kernel
theorem dX8_isAllGround_65 : decode cX8_isAllGround 65 = .ok (.iconst 0, 1) := by decide +kernel
theorem dX8_isAllGround_66 : decode cX8_isAllGround 66 = .ok (.istore_n 3, 1) := by decide +kernel
theorem dX8_isAllGround_67 : decode cX8_isAllGround 67 = .ok (.iconst 0, 1) := by decide +kernel
theorem dX8_isAllGround_68 : decode cX8_isAllGround 68 = .ok (.istore 4, 2) := by decide +kernel
theorem dX8_isAllGround_70 : decode cX8_isAllGround 70 = .ok (.iconst 1, 1) := by decide +kernel
theorem dX8_isAllGround_71 : decode cX8_isAllGround 71 = .ok (.istore 5, 2) := by decide +kernel
theorem dX8_isAllGround_73 : decode cX8_isAllGround 73 = .ok (.iload 5, 2) := by decide +kernel
theorem dX8_isAllGround_75 : decode cX8_isAllGround 75 = .ok (.ifCond .eq 102, 3) := by decide +kernel
theorem dX8_isAllGround_78 : decode cX8_isAllGround 78 = .ok (.iconst 0, 1) := by decide +kernel
theorem dX8_isAllGround_79 : decode cX8_isAllGround 79 = .ok (.istore 5, 2) := by decide +kernel
theorem dX8_isAllGround_81 : decode cX8_isAllGround 81 = .ok (.iconst 0, 1) := by decide +kernel
theorem dX8_isAllGround_82 : decode cX8_isAllGround 82 = .ok (.istore 6, 2) := by decide +kernel
theorem dX8_isAllGround_84 : decode cX8_isAllGround 84 = .ok (.iload 6, 2) := by decide +kernel
theorem dX8_isAllGround_86 : decode cX8_isAllGround 86 = .ok (.iload_n 2, 1) := by decide +kernel
theorem dX8_isAllGround_87 : decode cX8_isAllGround 87 = .ok (.if_icmp .ge 87, 3) := by decide +kernel
theorem dX8_isAllGround_90 : decode cX8_isAllGround 90 = .ok (.aload_n 0, 1) := by decide +kernel
theorem dX8_isAllGround_91 : decode cX8_isAllGround 91 = .ok (.getfield 35, 3) := by decide +kernel
theorem dX8_isAllGround_94 : decode cX8_isAllGround 94 = .ok (.iload 6, 2) := by decide +kernel
theorem dX8_isAllGround_96 : decode cX8_isAllGround 96 = .ok (.iaload, 1) := by decide +kernel
theorem dX8_isAllGround_97 : decode cX8_isAllGround 97 = .ok (.iload_n 3, 1) := by decide +kernel
theorem dX8_isAllGround_98 : decode cX8_isAllGround 98 = .ok (.if_icmp .gt 70, 3) := by decide +kernel
theorem dX8_isAllGround_101 : decode cX8_isAllGround 101 = .ok (.aload_n 0, 1) := by decide +kernel
theorem dX8_isAllGround_102 : decode cX8_isAllGround 102 = .ok (.getfield 38, 3) := by decide +kernel
theorem dX8_isAllGround_105 : decode cX8_isAllGround 105 = .ok (.iload 6, 2) := by decide +kernel
theorem dX8_isAllGround_107 : decode cX8_isAllGround 107 = .ok (.iaload, 1) := by decide +kernel
theorem dX8_isAllGround_108 : decode cX8_isAllGround 108 = .ok (.iload_n 3, 1) := by decide +kernel
theorem dX8_isAllGround_109 : decode cX8_isAllGround 109 = .ok (.if_icmp .gt 8, 3) := by decide +kernel
theorem dX8_isAllGround_112 : decode cX8_isAllGround 112 = .ok (.iload 4, 2) := by decide +kernel
theorem dX8_isAllGround_114 : decode cX8_isAllGround 114 = .ok (.ifCond .ne 54, 3) := by decide +kernel
theorem dX8_isAllGround_117 : decode cX8_isAllGround 117 = .ok (.iconst 1, 1) := by decide +kernel
theorem dX8_isAllGround_118 : decode cX8_isAllGround 118 = .ok (.istore 4, 2) := by decide +kernel
theorem dX8_isAllGround_120 : decode cX8_isAllGround 120 = .ok (.aload_n 0, 1) := by decide +kernel
theorem dX8_isAllGround_121 : decode cX8_isAllGround 121 = .ok (.getfield 38, 3) := by decide +kernel
theorem dX8_isAllGround_124 : decode cX8_isAllGround 124 = .ok (.iload 6, 2) := by decide +kernel
theorem dX8_isAllGround_126 : decode cX8_isAllGround 126 = .ok (.iaload, 1) := by decide +kernel
theorem dX8_isAllGround_127 : decode cX8_isAllGround 127 = .ok (.iload_n 3, 1) := by decide +kernel
theorem dX8_isAllGround_128 : decode cX8_isAllGround 128 = .ok (.if_icmp .le 7, 3) := by decide +kernel
theorem dX8_isAllGround_131 : decode cX8_isAllGround 131 = .ok (.iconst 1, 1) := by decide +kernel
theorem dX8_isAllGround_132 : decode cX8_isAllGround 132 = .ok (.goto 4, 3) := by decide +kernel
theorem dX8_isAllGround_135 : decode cX8_isAllGround 135 = .ok (.iconst 0, 1) := by decide +kernel
theorem dX8_isAllGround_136 : decode cX8_isAllGround 136 = .ok (.istore 5, 2) := by decide +kernel
theorem dX8_isAllGround_138 : decode cX8_isAllGround 138 = .ok (.iload 5, 2) := by decide +kernel
theorem dX8_isAllGround_140 : decode cX8_isAllGround 140 = .ok (.ifCond .eq 13, 3) := by decide +kernel
theorem dX8_isAllGround_143 : decode cX8_isAllGround 143 = .ok (.aload_n 0, 1) := by decide +kernel
theorem dX8_isAllGround_144 : decode cX8_isAllGround 144 = .ok (.getfield 38, 3) := by decide +kernel
theorem dX8_isAllGround_147 : decode cX8_isAllGround 147 = .ok (.iload 6, 2) := by decide +kernel
theorem dX8_isAllGround_149 : decode cX8_isAllGround 149 = .ok (.iaload, 1) := by decide +kernel
theorem dX8_isAllGround_150 : decode cX8_isAllGround 150 = .ok (.goto 4, 3) := by decide +kernel
theorem dX8_isAllGround_153 : decode cX8_isAllGround 153 = .ok (.iload_n 3, 1) := by decide +kernel
theorem dX8_isAllGround_154 : decode cX8_isAllGround 154 = .ok (.istore_n 3, 1) := by decide +kernel
theorem dX8_isAllGround_155 : decode cX8_isAllGround 155 = .ok (.iload 5, 2) := by decide +kernel
theorem dX8_isAllGround_157 : decode cX8_isAllGround 157 = .ok (.ifCond .eq 7, 3) := by decide +kernel
theorem dX8_isAllGround_160 : decode cX8_isAllGround 160 = .ok (.iload_n 2, 1) := by decide +kernel
theorem dX8_isAllGround_161 : decode cX8_isAllGround 161 = .ok (.goto 5, 3) := by decide +kernel
theorem dX8_isAllGround_164 : decode cX8_isAllGround 164 = .ok (.iload 6, 2) := by decide +kernel
theorem dX8_isAllGround_166 : decode cX8_isAllGround 166 = .ok (.istore 6, 2) := by decide +kernel
theorem dX8_isAllGround_168 : decode cX8_isAllGround 168 = .ok (.iinc 6 1, 3) := by decide +kernel
theorem dX8_isAllGround_171 : decode cX8_isAllGround 171 = .ok (.goto (-87), 3) := by decide +kernel
theorem dX8_isAllGround_174 : decode cX8_isAllGround 174 = .ok (.goto (-101), 3) := by decide +kernel
theorem dX8_isAllGround_177 : decode cX8_isAllGround 177 = .ok (.iload 4, 2) := by decide +kernel
theorem dX8_isAllGround_179 : decode cX8_isAllGround 179 = .ok (.ifCond .eq 33, 3) := by decide +kernel
theorem dX8_isAllGround_182 : decode cX8_isAllGround 182 = .ok (.iload_n 3, 1) := by decide +kernel
theorem dX8_isAllGround_183 : decode cX8_isAllGround 183 = .ok (.aload_n 0, 1) := by decide +kernel
theorem dX8_isAllGround_184 : decode cX8_isAllGround 184 = .ok (.getfield 161, 3) := by decide +kernel
theorem dX8_isAllGround_187 : decode cX8_isAllGround 187 = .ok (.ifCond .ne 14, 3) := by decide +kernel
theorem dX8_isAllGround_190 : decode cX8_isAllGround 190 = .ok (.aload_n 0, 1) := by decide +kernel
theorem dX8_isAllGround_191 : decode cX8_isAllGround 191 = .ok (.getfield 164, 3) := by decide +kernel
theorem dX8_isAllGround_194 : decode cX8_isAllGround 194 = .ok (.ifCond .ne 7, 3) := by decide +kernel
theorem dX8_isAllGround_197 : decode cX8_isAllGround 197 = .ok (.iconst 0, 1) := by decide +kernel
theorem dX8_isAllGround_198 : decode cX8_isAllGround 198 = .ok (.goto 7, 3) := by decide +kernel
theorem dX8_isAllGround_201 : decode cX8_isAllGround 201 = .ok (.aload_n 0, 1) := by decide +kernel
theorem dX8_isAllGround_202 : decode cX8_isAllGround 202 = .ok (.getfield 171, 3) := by decide +kernel
theorem dX8_isAllGround_205 : decode cX8_isAllGround 205 = .ok (.if_icmp .lt 7, 3) := by decide +kernel
theorem dX8_isAllGround_208 : decode cX8_isAllGround 208 = .ok (.iconst 1, 1) := by decide +kernel
theorem dX8_isAllGround_209 : decode cX8_isAllGround 209 = .ok (.goto 4, 3) := by decide +kernel
theorem dX8_isAllGround_212 : decode cX8_isAllGround 212 = .ok (.iconst 0, 1) := by decide +kernel
theorem dX8_isAllGround_213 : decode cX8_isAllGround 213 = .ok (.istore 6, 2) := by decide +kernel
theorem dX8_isAllGround_215 : decode cX8_isAllGround 215 = .ok (.iconst 0, 1) := by decide +kernel
theorem dX8_isAllGround_216 : decode cX8_isAllGround 216 = .ok (.istore 7, 2) := by decide +kernel
theorem dX8_isAllGround_218 : decode cX8_isAllGround 218 = .ok (.iload 7, 2) := by decide +kernel
theorem dX8_isAllGround_220 : decode cX8_isAllGround 220 = .ok (.bipush 8, 2) := by decide +kernel
theorem dX8_isAllGround_222 : decode cX8_isAllGround 222 = .ok (.if_icmp .ge 53, 3) := by decide +kernel
theorem dX8_isAllGround_225 : decode cX8_isAllGround 225 = .ok (.iload 6, 2) := by decide +kernel
theorem dX8_isAllGround_227 : decode cX8_isAllGround 227 = .ok (.ifCond .eq 48, 3) := by decide +kernel
theorem dX8_isAllGround_230 : decode cX8_isAllGround 230 = .ok (.aload_n 0, 1) := by decide +kernel
theorem dX8_isAllGround_231 : decode cX8_isAllGround 231 = .ok (.getfield 13, 3) := by decide +kernel
theorem dX8_isAllGround_234 : decode cX8_isAllGround 234 = .ok (.iload 7, 2) := by decide +kernel
theorem dX8_isAllGround_236 : decode cX8_isAllGround 236 = .ok (.baload, 1) := by decide +kernel
theorem dX8_isAllGround_237 : decode cX8_isAllGround 237 = .ok (.ifCond .eq 25, 3) := by decide +kernel
theorem dX8_isAllGround_240 : decode cX8_isAllGround 240 = .ok (.aload_n 0, 1) := by decide +kernel
theorem dX8_isAllGround_241 : decode cX8_isAllGround 241 = .ok (.getfield 17, 3) := by decide +kernel
theorem dX8_isAllGround_244 : decode cX8_isAllGround 244 = .ok (.iconst 5, 1) := by decide +kernel
theorem dX8_isAllGround_245 : decode cX8_isAllGround 245 = .ok (.iload 7, 2) := by decide +kernel
theorem dX8_isAllGround_247 : decode cX8_isAllGround 247 = .ok (.imul, 1) := by decide +kernel
theorem dX8_isAllGround_248 : decode cX8_isAllGround 248 = .ok (.iaload, 1) := by decide +kernel
theorem dX8_isAllGround_249 : decode cX8_isAllGround 249 = .ok (.iload_n 1, 1) := by decide +kernel
theorem dX8_isAllGround_250 : decode cX8_isAllGround 250 = .ok (.if_icmp .ne 12, 3) := by decide +kernel
theorem dX8_isAllGround_253 : decode cX8_isAllGround 253 = .ok (.aload_n 0, 1) := by decide +kernel
theorem dX8_isAllGround_254 : decode cX8_isAllGround 254 = .ok (.iload 7, 2) := by decide +kernel
theorem dX8_isAllGround_256 : decode cX8_isAllGround 256 = .ok (.invokevirtual 190, 3) := by decide +kernel
theorem dX8_isAllGround_259 : decode cX8_isAllGround 259 = .ok (.ifCond .ne 7, 3) := by decide +kernel
theorem dX8_isAllGround_262 : decode cX8_isAllGround 262 = .ok (.iconst 1, 1) := by decide +kernel
theorem dX8_isAllGround_263 : decode cX8_isAllGround 263 = .ok (.goto 4, 3) := by decide +kernel
theorem dX8_isAllGround_266 : decode cX8_isAllGround 266 = .ok (.iconst 0, 1) := by decide +kernel
theorem dX8_isAllGround_267 : decode cX8_isAllGround 267 = .ok (.istore 6, 2) := by decide +kernel
theorem dX8_isAllGround_269 : decode cX8_isAllGround 269 = .ok (.iinc 7 1, 3) := by decide +kernel
theorem dX8_isAllGround_272 : decode cX8_isAllGround 272 = .ok (.goto (-54), 3) := by decide +kernel
theorem dX8_isAllGround_275 : decode cX8_isAllGround 275 = .ok (.iload 6, 2) := by decide +kernel
theorem dX8_isAllGround_277 : decode cX8_isAllGround 277 = .ok (.ireturn, 1) := by decide +kernel
set_option maxRecDepth 20000 in
theorem ggX8_isWrongWay_X8_size : GoodIn wsX8_isWrongWay wsX8_size := goodIn_r _ [10] (by decide +kernel) (by decide +kernel)
set_option maxRecDepth 20000 in
theorem gX8_isWrongWay_X8_size : GoodIn wsX8_isWrongWay (va_wsS RX8 167 yX8_size wsX8_size) := goodIn_app (goodIn_of _ (by decide +kernel)) ggX8_isWrongWay_X8_size
theorem dX8_isWrongWay_0 : decode cX8_isWrongWay 0 = .ok (.aload_n 0, 1) := by decide +kernel
theorem dX8_isWrongWay_1 : decode cX8_isWrongWay 1 = .ok (.getfield 26, 3) := by decide +kernel
theorem dX8_isWrongWay_4 : decode cX8_isWrongWay 4 = .ok (.iconst 5, 1) := by decide +kernel
theorem dX8_isWrongWay_5 : decode cX8_isWrongWay 5 = .ok (.iload_n 1, 1) := by decide +kernel
theorem dX8_isWrongWay_6 : decode cX8_isWrongWay 6 = .ok (.imul, 1) := by decide +kernel
theorem dX8_isWrongWay_7 : decode cX8_isWrongWay 7 = .ok (.iconst 1, 1) := by decide +kernel
theorem dX8_isWrongWay_8 : decode cX8_isWrongWay 8 = .ok (.iadd, 1) := by decide +kernel
theorem dX8_isWrongWay_9 : decode cX8_isWrongWay 9 = .ok (.iaload, 1) := by decide +kernel
theorem dX8_isWrongWay_10 : decode cX8_isWrongWay 10 = .ok (.istore_n 2, 1) := by decide +kernel
theorem dX8_isWrongWay_11 : decode cX8_isWrongWay 11 = .ok (.aload_n 0, 1) := by decide +kernel
theorem dX8_isWrongWay_12 : decode cX8_isWrongWay 12 = .ok (.getfield 26, 3) := by decide +kernel
theorem dX8_isWrongWay_15 : decode cX8_isWrongWay 15 = .ok (.iconst 5, 1) := by decide +kernel
theorem dX8_isWrongWay_16 : decode cX8_isWrongWay 16 = .ok (.iload_n 1, 1) := by decide +kernel
theorem dX8_isWrongWay_17 : decode cX8_isWrongWay 17 = .ok (.imul, 1) := by decide +kernel
theorem dX8_isWrongWay_18 : decode cX8_isWrongWay 18 = .ok (.iconst 2, 1) := by decide +kernel
theorem dX8_isWrongWay_19 : decode cX8_isWrongWay 19 = .ok (.iadd, 1) := by decide +kernel
theorem dX8_isWrongWay_20 : decode cX8_isWrongWay 20 = .ok (.iaload, 1) := by decide +kernel
theorem dX8_isWrongWay_21 : decode cX8_isWrongWay 21 = .ok (.istore_n 3, 1) := by decide +kernel
theorem dX8_isWrongWay_22 : decode cX8_isWrongWay 22 = .ok (.aload_n 0, 1) := by decide +kernel
theorem dX8_isWrongWay_23 : decode cX8_isWrongWay 23 = .ok (.getfield 26, 3) := by decide +kernel
theorem dX8_isWrongWay_26 : decode cX8_isWrongWay 26 = .ok (.iconst 5, 1) := by decide +kernel
theorem dX8_isWrongWay_27 : decode cX8_isWrongWay 27 = .ok (.iload_n 1, 1) := by decide +kernel
theorem dX8_isWrongWay_28 : decode cX8_isWrongWay 28 = .ok (.imul, 1) := by decide +kernel
theorem dX8_isWrongWay_29 : decode cX8_isWrongWay 29 = .ok (.iconst 3, 1) := by decide +kernel
theorem dX8_isWrongWay_30 : decode cX8_isWrongWay 30 = .ok (.iadd, 1) := by decide +kernel
theorem dX8_isWrongWay_31 : decode cX8_isWrongWay 31 = .ok (.iaload, 1) := by decide +kernel
theorem dX8_isWrongWay_32 : decode cX8_isWrongWay 32 = .ok (.istore 4, 2) := by decide +kernel
theorem dX8_isWrongWay_34 : decode cX8_isWrongWay 34 = .ok (.aload_n 0, 1) := by decide +kernel
theorem dX8_isWrongWay_35 : decode cX8_isWrongWay 35 = .ok (.getfield 26, 3) := by decide +kernel
theorem dX8_isWrongWay_38 : decode cX8_isWrongWay 38 = .ok (.iconst 5, 1) := by decide +kernel
theorem dX8_isWrongWay_39 : decode cX8_isWrongWay 39 = .ok (.iload_n 1, 1) := by decide +kernel
theorem dX8_isWrongWay_40 : decode cX8_isWrongWay 40 = .ok (.imul, 1) := by decide +kernel
theorem dX8_isWrongWay_41 : decode cX8_isWrongWay 41 = .ok (.iconst 4, 1) := by decide +kernel
theorem dX8_isWrongWay_42 : decode cX8_isWrongWay 42 = .ok (.iadd, 1) := by decide +kernel
theorem dX8_isWrongWay_43 : decode cX8_isWrongWay 43 = .ok (.iaload, 1) := by decide +kernel
theorem dX8_isWrongWay_44 : decode cX8_isWrongWay 44 = .ok (.istore 5, 2) := by decide +kernel
theorem dX8_isWrongWay_46 : decode cX8_isWrongWay 46 = .ok (.iload_n 2, 1) := by decide +kernel
theorem dX8_isWrongWay_47 : decode cX8_isWrongWay 47 = .ok (.iload 4, 2) := by decide +kernel
theorem dX8_isWrongWay_49 : decode cX8_isWrongWay 49 = .ok (.if_icmp .ne 7, 3) := by decide +kernel
theorem dX8_isWrongWay_52 : decode cX8_isWrongWay 52 = .ok (.iconst 1, 1) := by decide +kernel
theorem dX8_isWrongWay_53 : decode cX8_isWrongWay 53 = .ok (.goto 4, 3) := by decide +kernel
theorem dX8_isWrongWay_56 : decode cX8_isWrongWay 56 = .ok (.iconst 0, 1) := by decide +kernel
theorem dX8_isWrongWay_57 : decode cX8_isWrongWay 57 = .ok (.istore 6, 2) := by decide +kernel
theorem dX8_isWrongWay_59 : decode cX8_isWrongWay 59 = .ok (.iload 6, 2) := by decide +kernel
theorem dX8_isWrongWay_61 : decode cX8_isWrongWay 61 = .ok (.ifCond .eq 7, 3) := by decide +kernel
theorem dX8_isWrongWay_64 : decode cX8_isWrongWay 64 = .ok (.iload_n 2, 1) := by decide +kernel
theorem dX8_isWrongWay_65 : decode cX8_isWrongWay 65 = .ok (.goto 4, 3) := by decide +kernel
theorem dX8_isWrongWay_68 : decode cX8_isWrongWay 68 = .ok (.iload_n 3, 1) := by decide +kernel
theorem dX8_isWrongWay_69 : decode cX8_isWrongWay 69 = .ok (.istore 7, 2) := by decide +kernel
theorem dX8_isWrongWay_71 : decode cX8_isWrongWay 71 = .ok (.iload 6, 2) := by decide +kernel
theorem dX8_isWrongWay_73 : decode cX8_isWrongWay 73 = .ok (.ifCond .eq 10, 3) := by decide +kernel
theorem dX8_isWrongWay_76 : decode cX8_isWrongWay 76 = .ok (.aload_n 0, 1) := by decide +kernel
theorem dX8_isWrongWay_77 : decode cX8_isWrongWay 77 = .ok (.getfield 155, 3) := by decide +kernel
theorem dX8_isWrongWay_80 : decode cX8_isWrongWay 80 = .ok (.goto 7, 3) := by decide +kernel
theorem dX8_isWrongWay_83 : decode cX8_isWrongWay 83 = .ok (.aload_n 0, 1) := by decide +kernel
theorem dX8_isWrongWay_84 : decode cX8_isWrongWay 84 = .ok (.getfield 158, 3) := by decide +kernel
theorem dX8_isWrongWay_87 : decode cX8_isWrongWay 87 = .ok (.istore 8, 2) := by decide +kernel
theorem dX8_isWrongWay_89 : decode cX8_isWrongWay 89 = .ok (.iload 6, 2) := by decide +kernel
theorem dX8_isWrongWay_91 : decode cX8_isWrongWay 91 = .ok (.ifCond .eq 10, 3) := by decide +kernel
theorem dX8_isWrongWay_94 : decode cX8_isWrongWay 94 = .ok (.aload_n 0, 1) := by decide +kernel
theorem dX8_isWrongWay_95 : decode cX8_isWrongWay 95 = .ok (.getfield 161, 3) := by decide +kernel
theorem dX8_isWrongWay_98 : decode cX8_isWrongWay 98 = .ok (.goto 7, 3) := by decide +kernel
theorem dX8_isWrongWay_101 : decode cX8_isWrongWay 101 = .ok (.aload_n 0, 1) := by decide +kernel
theorem dX8_isWrongWay_102 : decode cX8_isWrongWay 102 = .ok (.getfield 164, 3) := by decide +kernel
theorem dX8_isWrongWay_105 : decode cX8_isWrongWay 105 = .ok (.istore 9, 2) := by decide +kernel
theorem dX8_isWrongWay_107 : decode cX8_isWrongWay 107 = .ok (.iload 6, 2) := by decide +kernel
theorem dX8_isWrongWay_109 : decode cX8_isWrongWay 109 = .ok (.ifCond .eq 10, 3) := by decide +kernel
theorem dX8_isWrongWay_112 : decode cX8_isWrongWay 112 = .ok (.aload_n 0, 1) := by decide +kernel
theorem dX8_isWrongWay_113 : decode cX8_isWrongWay 113 = .ok (.getfield 158, 3) := by decide +kernel
theorem dX8_isWrongWay_116 : decode cX8_isWrongWay 116 = .ok (.goto 7, 3) := by decide +kernel
theorem dX8_isWrongWay_119 : decode cX8_isWrongWay 119 = .ok (.aload_n 0, 1) := by decide +kernel
theorem dX8_isWrongWay_120 : decode cX8_isWrongWay 120 = .ok (.getfield 155, 3) := by decide +kernel
theorem dX8_isWrongWay_123 : decode cX8_isWrongWay 123 = .ok (.istore 10, 2) := by decide +kernel
theorem dX8_isWrongWay_125 : decode cX8_isWrongWay 125 = .ok (.iload 6, 2) := by decide +kernel
theorem dX8_isWrongWay_127 : decode cX8_isWrongWay 127 = .ok (.ifCond .eq 10, 3) := by decide +kernel
theorem dX8_isWrongWay_130 : decode cX8_isWrongWay 130 = .ok (.aload_n 0, 1) := by decide +kernel
theorem dX8_isWrongWay_131 : decode cX8_isWrongWay 131 = .ok (.getfield 164, 3) := by decide +kernel
theorem dX8_isWrongWay_134 : decode cX8_isWrongWay 134 = .ok (.goto 7, 3) := by decide +kernel
theorem dX8_isWrongWay_137 : decode cX8_isWrongWay 137 = .ok (.aload_n 0, 1) := by decide +kernel
theorem dX8_isWrongWay_138 : decode cX8_isWrongWay 138 = .ok (.getfield 161, 3) := by decide +kernel
theorem dX8_isWrongWay_141 : decode cX8_isWrongWay 141 = .ok (.istore 11, 2) := by decide +kernel
theorem dX8_isWrongWay_143 : decode cX8_isWrongWay 143 = .ok (.iload 6, 2) := by decide +kernel
theorem dX8_isWrongWay_145 : decode cX8_isWrongWay 145 = .ok (.ifCond .eq 7, 3) := by decide +kernel
theorem dX8_isWrongWay_148 : decode cX8_isWrongWay 148 = .ok (.iload_n 3, 1) := by decide +kernel
theorem dX8_isWrongWay_149 : decode cX8_isWrongWay 149 = .ok (.goto 4, 3) := by decide +kernel
theorem dX8_isWrongWay_152 : decode cX8_isWrongWay 152 = .ok (.iload_n 2, 1) := by decide +kernel
theorem dX8_isWrongWay_153 : decode cX8_isWrongWay 153 = .ok (.istore 12, 2) := by decide +kernel
theorem dX8_isWrongWay_155 : decode cX8_isWrongWay 155 = .ok (.iload 6, 2) := by decide +kernel
theorem dX8_isWrongWay_157 : decode cX8_isWrongWay 157 = .ok (.ifCond .eq 8, 3) := by decide +kernel
theorem dX8_isWrongWay_160 : decode cX8_isWrongWay 160 = .ok (.iload 5, 2) := by decide +kernel
theorem dX8_isWrongWay_162 : decode cX8_isWrongWay 162 = .ok (.goto 5, 3) := by decide +kernel
theorem dX8_isWrongWay_165 : decode cX8_isWrongWay 165 = .ok (.iload 4, 2) := by decide +kernel
theorem dX8_isWrongWay_167 : decode cX8_isWrongWay 167 = .ok (.istore 13, 2) := by decide +kernel
theorem dX8_isWrongWay_169 : decode cX8_isWrongWay 169 = .ok (.iload 8, 2) := by decide +kernel
theorem dX8_isWrongWay_171 : decode cX8_isWrongWay 171 = .ok (.iload 9, 2) := by decide +kernel
theorem dX8_isWrongWay_173 : decode cX8_isWrongWay 173 = .ok (.iadd, 1) := by decide +kernel
theorem dX8_isWrongWay_174 : decode cX8_isWrongWay 174 = .ok (.istore 14, 2) := by decide +kernel
theorem dX8_isWrongWay_176 : decode cX8_isWrongWay 176 = .ok (.iload 8, 2) := by decide +kernel
theorem dX8_isWrongWay_178 : decode cX8_isWrongWay 178 = .ok (.iload 7, 2) := by decide +kernel
theorem dX8_isWrongWay_180 : decode cX8_isWrongWay 180 = .ok (.if_icmp .ge 10, 3) := by decide +kernel
theorem dX8_isWrongWay_183 : decode cX8_isWrongWay 183 = .ok (.iload 14, 2) := by decide +kernel
theorem dX8_isWrongWay_185 : decode cX8_isWrongWay 185 = .ok (.iload 7, 2) := by decide +kernel
theorem dX8_isWrongWay_187 : decode cX8_isWrongWay 187 = .ok (.if_icmp .gt 17, 3) := by decide +kernel
theorem dX8_isWrongWay_190 : decode cX8_isWrongWay 190 = .ok (.iload 8, 2) := by decide +kernel
theorem dX8_isWrongWay_192 : decode cX8_isWrongWay 192 = .ok (.iload 7, 2) := by decide +kernel
theorem dX8_isWrongWay_194 : decode cX8_isWrongWay 194 = .ok (.if_icmp .le 29, 3) := by decide +kernel
theorem dX8_isWrongWay_197 : decode cX8_isWrongWay 197 = .ok (.iload 14, 2) := by decide +kernel
theorem dX8_isWrongWay_199 : decode cX8_isWrongWay 199 = .ok (.iload 7, 2) := by decide +kernel
theorem dX8_isWrongWay_201 : decode cX8_isWrongWay 201 = .ok (.if_icmp .ge 22, 3) := by decide +kernel
theorem dX8_isWrongWay_204 : decode cX8_isWrongWay 204 = .ok (.iload 9, 2) := by decide +kernel
theorem dX8_isWrongWay_206 : decode cX8_isWrongWay 206 = .ok (.ifCond .le 7, 3) := by decide +kernel
theorem dX8_isWrongWay_209 : decode cX8_isWrongWay 209 = .ok (.iconst 1, 1) := by decide +kernel
theorem dX8_isWrongWay_210 : decode cX8_isWrongWay 210 = .ok (.goto 4, 3) := by decide +kernel
theorem dX8_isWrongWay_213 : decode cX8_isWrongWay 213 = .ok (.iconst 0, 1) := by decide +kernel
theorem dX8_isWrongWay_214 : decode cX8_isWrongWay 214 = .ok (.aload_n 0, 1) := by decide +kernel
theorem dX8_isWrongWay_215 : decode cX8_isWrongWay 215 = .ok (.getfield 29, 3) := by decide +kernel
theorem dX8_isWrongWay_218 : decode cX8_isWrongWay 218 = .ok (.iload_n 1, 1) := by decide +kernel
theorem dX8_isWrongWay_219 : decode cX8_isWrongWay 219 = .ok (.baload, 1) := by decide +kernel
theorem dX8_isWrongWay_220 : decode cX8_isWrongWay 220 = .ok (.if_icmp .ne 5, 3) := by decide +kernel
theorem dX8_isWrongWay_223 : decode cX8_isWrongWay 223 = .ok (.iconst 0, 1) := by decide +kernel
theorem dX8_isWrongWay_224 : decode cX8_isWrongWay 224 = .ok (.ireturn, 1) := by decide +kernel
theorem dX8_isWrongWay_225 : decode cX8_isWrongWay 225 = .ok (.iload 9, 2) := by decide +kernel
theorem dX8_isWrongWay_227 : decode cX8_isWrongWay 227 = .ok (.invokestatic 167, 3) := by decide +kernel
theorem dX8_isWrongWay_230 : decode cX8_isWrongWay 230 = .ok (.istore 15, 2) := by decide +kernel
theorem dX8_isWrongWay_232 : decode cX8_isWrongWay 232 = .ok (.iload 10, 2) := by decide +kernel
theorem dX8_isWrongWay_234 : decode cX8_isWrongWay 234 = .ok (.iload 15, 2) := by decide +kernel
theorem dX8_isWrongWay_236 : decode cX8_isWrongWay 236 = .ok (.imul, 1) := by decide +kernel
theorem dX8_isWrongWay_237 : decode cX8_isWrongWay 237 = .ok (.iload 11, 2) := by decide +kernel
theorem dX8_isWrongWay_239 : decode cX8_isWrongWay 239 = .ok (.iload 7, 2) := by decide +kernel
theorem dX8_isWrongWay_241 : decode cX8_isWrongWay 241 = .ok (.iload 8, 2) := by decide +kernel
theorem dX8_isWrongWay_243 : decode cX8_isWrongWay 243 = .ok (.isub, 1) := by decide +kernel
theorem dX8_isWrongWay_244 : decode cX8_isWrongWay 244 = .ok (.invokestatic 167, 3) := by decide +kernel
theorem dX8_isWrongWay_247 : decode cX8_isWrongWay 247 = .ok (.imul, 1) := by decide +kernel
theorem dX8_isWrongWay_248 : decode cX8_isWrongWay 248 = .ok (.iadd, 1) := by decide +kernel
theorem dX8_isWrongWay_249 : decode cX8_isWrongWay 249 = .ok (.istore 16, 2) := by decide +kernel
theorem dX8_isWrongWay_251 : decode cX8_isWrongWay 251 = .ok (.iload 16, 2) := by decide +kernel
theorem dX8_isWrongWay_253 : decode cX8_isWrongWay 253 = .ok (.iload 12, 2) := by decide +kernel
theorem dX8_isWrongWay_255 : decode cX8_isWrongWay 255 = .ok (.iload 15, 2) := by decide +kernel
theorem dX8_isWrongWay_257 : decode cX8_isWrongWay 257 = .ok (.imul, 1) := by decide +kernel
theorem dX8_isWrongWay_258 : decode cX8_isWrongWay 258 = .ok (.if_icmp .lt 17, 3) := by decide +kernel
theorem dX8_isWrongWay_261 : decode cX8_isWrongWay 261 = .ok (.iload 16, 2) := by decide +kernel
theorem dX8_isWrongWay_263 : decode cX8_isWrongWay 263 = .ok (.iload 13, 2) := by decide +kernel
theorem dX8_isWrongWay_265 : decode cX8_isWrongWay 265 = .ok (.iload 15, 2) := by decide +kernel
theorem dX8_isWrongWay_267 : decode cX8_isWrongWay 267 = .ok (.imul, 1) := by decide +kernel
theorem dX8_isWrongWay_268 : decode cX8_isWrongWay 268 = .ok (.if_icmp .gt 7, 3) := by decide +kernel
theorem dX8_isWrongWay_271 : decode cX8_isWrongWay 271 = .ok (.iconst 1, 1) := by decide +kernel
theorem dX8_isWrongWay_272 : decode cX8_isWrongWay 272 = .ok (.goto 4, 3) := by decide +kernel
theorem dX8_isWrongWay_275 : decode cX8_isWrongWay 275 = .ok (.iconst 0, 1) := by decide +kernel
theorem dX8_isWrongWay_276 : decode cX8_isWrongWay 276 = .ok (.ireturn, 1) := by decide +kernel
set_option maxRecDepth 20000 in
theorem ggX8_seen_X8_leg : GoodIn wsX8_seen wsX8_leg := goodIn_r _ [10, 11, 12, 13, 14, 15, 16, 17, 9, 18, 50, 51, 52, 53, 54, 55, 56, 57, 58, 59, 60, 61, 62, 63, 64, 65, 66, 67, 68, 69, 70, 71, 72, 73, 74, 75, 76, 77, 78, 79, 80, 81, 82, 83, 84, 85, 86, 87, 88, 89, 90, 91, 92, 93, 94, 95, 96, 97, 98] (by decide +kernel) (by decide +kernel)
set_option maxRecDepth 20000 in
theorem gX8_seen_X8_leg : GoodIn wsX8_seen (wsV RX8 194 RX8 yX8_leg wsX8_leg) := goodIn_app (goodIn_of _ (by decide +kernel)) ggX8_seen_X8_leg
set_option maxRecDepth 20000 in
theorem ggX8_seen_X8_isAllGround : GoodIn wsX8_seen wsX8_isAllGround := goodIn_r _ [22, 23, 24, 25, 26, 27, 28, 13, 14, 15, 29, 30, 31, 32, 33, 9, 34, 11, 12, 35, 36, 37, 38, 16, 17, 18, 39, 40, 41, 42, 43, 44, 50, 51, 52, 53, 54, 55, 56, 57, 58, 59, 60, 61, 62, 63, 64, 65, 66, 67, 68, 69, 70, 71, 72, 73, 74, 75, 76, 77, 78, 79, 80, 81, 82, 83, 84, 85, 86, 87, 88, 89, 90, 91, 92, 93, 94, 95, 96, 97, 98] (by decide +kernel) (by decide +kernel)
set_option maxRecDepth 20000 in
theorem gX8_seen_X8_isAllGround : GoodIn wsX8_seen (wsV RX8 198 RX8 yX8_isAllGround wsX8_isAllGround) := goodIn_app (goodIn_of _ (by decide +kernel)) ggX8_seen_X8_isAllGround
set_option maxRecDepth 20000 in
theorem ggX8_seen_X8_meets : GoodIn wsX8_seen wsX8_meets := goodIn_r _ [34, 26, 15, 28, 11, 13, 12, 14, 35, 36, 37, 9, 38, 16, 17, 18, 50, 51, 52, 53, 54, 55, 56, 57, 58, 59, 60, 61, 62, 63, 64, 65, 66, 67, 68, 69, 70, 71, 72, 73, 74, 75, 76, 77, 78, 79, 80, 81, 82, 83, 84, 85, 86, 87, 88, 89, 90, 91, 92, 93, 94, 95, 96, 97, 98] (by decide +kernel) (by decide +kernel)
set_option maxRecDepth 20000 in
theorem gX8_seen_X8_meets : GoodIn wsX8_seen (wsV RX8 186 RX8 yX8_meets wsX8_meets) := goodIn_app (goodIn_of _ (by decide +kernel)) ggX8_seen_X8_meets
set_option maxRecDepth 20000 in
theorem ggX8_seen_X8_isWrongWay : GoodIn wsX8_seen wsX8_isWrongWay := goodIn_r _ [48, 5, 11, 12, 13, 14, 49, 16, 17, 9, 18, 50, 51, 52, 53, 54, 55, 56, 57, 58, 59, 60, 61, 62, 63, 64, 65, 66, 67, 68, 69, 70, 71, 72, 73, 74, 75, 76, 77, 78, 79, 80, 81, 82, 83, 84, 85, 86, 87, 88, 89, 90, 91, 92, 93, 94, 95, 96, 97, 98] (by decide +kernel) (by decide +kernel)
set_option maxRecDepth 20000 in
theorem gX8_seen_X8_isWrongWay : GoodIn wsX8_seen (wsV RX8 201 RX8 yX8_isWrongWay wsX8_isWrongWay) := goodIn_app (goodIn_of _ (by decide +kernel)) ggX8_seen_X8_isWrongWay
theorem dX8_seen_0 : decode cX8_seen 0 = .ok (.aload_n 0, 1) := by decide +kernel
theorem dX8_seen_1 : decode cX8_seen 1 = .ok (.iload_n 2, 1) := by decide +kernel
theorem dX8_seen_2 : decode cX8_seen 2 = .ok (.iload_n 3, 1) := by decide +kernel
theorem dX8_seen_3 : decode cX8_seen 3 = .ok (.iload 4, 2) := by decide +kernel
theorem dX8_seen_5 : decode cX8_seen 5 = .ok (.iload 5, 2) := by decide +kernel
theorem dX8_seen_7 : decode cX8_seen 7 = .ok (.invokevirtual 194, 3) := by decide +kernel
theorem dX8_seen_10 : decode cX8_seen 10 = .ok (.aload_n 0, 1) := by decide +kernel
theorem dX8_seen_11 : decode cX8_seen 11 = .ok (.iload_n 1, 1) := by decide +kernel
theorem dX8_seen_12 : decode cX8_seen 12 = .ok (.invokevirtual 198, 3) := by decide +kernel
theorem dX8_seen_15 : decode cX8_seen 15 = .ok (.ifCond .ne 5, 3) := by decide +kernel
theorem dX8_seen_18 : decode cX8_seen 18 = .ok (.iconst 0, 1) := by decide +kernel
theorem dX8_seen_19 : decode cX8_seen 19 = .ok (.ireturn, 1) := by decide +kernel
theorem dX8_seen_20 : decode cX8_seen 20 = .ok (.iconst 0, 1) := by decide +kernel
theorem dX8_seen_21 : decode cX8_seen 21 = .ok (.istore 6, 2) := by decide +kernel
theorem dX8_seen_23 : decode cX8_seen 23 = .ok (.iload 6, 2) := by decide +kernel
theorem dX8_seen_25 : decode cX8_seen 25 = .ok (.aload_n 0, 1) := by decide +kernel
theorem dX8_seen_26 : decode cX8_seen 26 = .ok (.getfield 135, 3) := by decide +kernel
theorem dX8_seen_29 : decode cX8_seen 29 = .ok (.if_icmp .ge 48, 3) := by decide +kernel
theorem dX8_seen_32 : decode cX8_seen 32 = .ok (.aload_n 0, 1) := by decide +kernel
theorem dX8_seen_33 : decode cX8_seen 33 = .ok (.getfield 23, 3) := by decide +kernel
theorem dX8_seen_36 : decode cX8_seen 36 = .ok (.iload 6, 2) := by decide +kernel
theorem dX8_seen_38 : decode cX8_seen 38 = .ok (.baload, 1) := by decide +kernel
theorem dX8_seen_39 : decode cX8_seen 39 = .ok (.ifCond .eq 32, 3) := by decide +kernel
theorem dX8_seen_42 : decode cX8_seen 42 = .ok (.aload_n 0, 1) := by decide +kernel
theorem dX8_seen_43 : decode cX8_seen 43 = .ok (.getfield 20, 3) := by decide +kernel
theorem dX8_seen_46 : decode cX8_seen 46 = .ok (.iconst 5, 1) := by decide +kernel
theorem dX8_seen_47 : decode cX8_seen 47 = .ok (.iload 6, 2) := by decide +kernel
theorem dX8_seen_49 : decode cX8_seen 49 = .ok (.imul, 1) := by decide +kernel
theorem dX8_seen_50 : decode cX8_seen 50 = .ok (.iaload, 1) := by decide +kernel
theorem dX8_seen_51 : decode cX8_seen 51 = .ok (.iload_n 1, 1) := by decide +kernel
theorem dX8_seen_52 : decode cX8_seen 52 = .ok (.if_icmp .ne 19, 3) := by decide +kernel
theorem dX8_seen_55 : decode cX8_seen 55 = .ok (.aload_n 0, 1) := by decide +kernel
theorem dX8_seen_56 : decode cX8_seen 56 = .ok (.aload_n 0, 1) := by decide +kernel
theorem dX8_seen_57 : decode cX8_seen 57 = .ok (.getfield 20, 3) := by decide +kernel
theorem dX8_seen_60 : decode cX8_seen 60 = .ok (.iload 6, 2) := by decide +kernel
theorem dX8_seen_62 : decode cX8_seen 62 = .ok (.invokevirtual 186, 3) := by decide +kernel
theorem dX8_seen_65 : decode cX8_seen 65 = .ok (.ifCond .eq 6, 3) := by decide +kernel
theorem dX8_seen_68 : decode cX8_seen 68 = .ok (.bipush (-10), 2) := by decide +kernel
theorem dX8_seen_70 : decode cX8_seen 70 = .ok (.ireturn, 1) := by decide +kernel
theorem dX8_seen_71 : decode cX8_seen 71 = .ok (.iinc 6 1, 3) := by decide +kernel
theorem dX8_seen_74 : decode cX8_seen 74 = .ok (.goto (-51), 3) := by decide +kernel
theorem dX8_seen_77 : decode cX8_seen 77 = .ok (.iconst 0, 1) := by decide +kernel
theorem dX8_seen_78 : decode cX8_seen 78 = .ok (.istore 6, 2) := by decide +kernel
theorem dX8_seen_80 : decode cX8_seen 80 = .ok (.iload 6, 2) := by decide +kernel
theorem dX8_seen_82 : decode cX8_seen 82 = .ok (.aload_n 0, 1) := by decide +kernel
theorem dX8_seen_83 : decode cX8_seen 83 = .ok (.getfield 142, 3) := by decide +kernel
theorem dX8_seen_86 : decode cX8_seen 86 = .ok (.if_icmp .ge 34, 3) := by decide +kernel
theorem dX8_seen_89 : decode cX8_seen 89 = .ok (.aload_n 0, 1) := by decide +kernel
theorem dX8_seen_90 : decode cX8_seen 90 = .ok (.getfield 26, 3) := by decide +kernel
theorem dX8_seen_93 : decode cX8_seen 93 = .ok (.iconst 5, 1) := by decide +kernel
theorem dX8_seen_94 : decode cX8_seen 94 = .ok (.iload 6, 2) := by decide +kernel
theorem dX8_seen_96 : decode cX8_seen 96 = .ok (.imul, 1) := by decide +kernel
theorem dX8_seen_97 : decode cX8_seen 97 = .ok (.iaload, 1) := by decide +kernel
theorem dX8_seen_98 : decode cX8_seen 98 = .ok (.iload_n 1, 1) := by decide +kernel
theorem dX8_seen_99 : decode cX8_seen 99 = .ok (.if_icmp .ne 15, 3) := by decide +kernel
theorem dX8_seen_102 : decode cX8_seen 102 = .ok (.aload_n 0, 1) := by decide +kernel
theorem dX8_seen_103 : decode cX8_seen 103 = .ok (.iload 6, 2) := by decide +kernel
theorem dX8_seen_105 : decode cX8_seen 105 = .ok (.invokevirtual 201, 3) := by decide +kernel
theorem dX8_seen_108 : decode cX8_seen 108 = .ok (.ifCond .eq 6, 3) := by decide +kernel
theorem dX8_seen_111 : decode cX8_seen 111 = .ok (.bipush (-11), 2) := by decide +kernel
theorem dX8_seen_113 : decode cX8_seen 113 = .ok (.ireturn, 1) := by decide +kernel
theorem dX8_seen_114 : decode cX8_seen 114 = .ok (.iinc 6 1, 3) := by decide +kernel
theorem dX8_seen_117 : decode cX8_seen 117 = .ok (.goto (-37), 3) := by decide +kernel
theorem dX8_seen_120 : decode cX8_seen 120 = .ok (.iconst 1, 1) := by decide +kernel
theorem dX8_seen_121 : decode cX8_seen 121 = .ok (.ireturn, 1) := by decide +kernel
