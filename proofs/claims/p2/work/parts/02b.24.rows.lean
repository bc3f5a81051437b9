theorem dX8_isTaken_0 : decode cX8_isTaken 0 = .ok (.iconst 0, 1) := by decide +kernel
theorem dX8_isTaken_1 : decode cX8_isTaken 1 = .ok (.istore 5, 2) := by decide +kernel
theorem dX8_isTaken_3 : decode cX8_isTaken 3 = .ok (.iload 5, 2) := by decide +kernel
theorem dX8_isTaken_5 : decode cX8_isTaken 5 = .ok (.aload_n 0, 1) := by decide +kernel
theorem dX8_isTaken_6 : decode cX8_isTaken 6 = .ok (.getfield 129, 3) := by decide +kernel
theorem dX8_isTaken_9 : decode cX8_isTaken 9 = .ok (.if_icmp .ge 51, 3) := by decide +kernel
theorem dX8_isTaken_12 : decode cX8_isTaken 12 = .ok (.iload 5, 2) := by decide +kernel
theorem dX8_isTaken_14 : decode cX8_isTaken 14 = .ok (.iload_n 1, 1) := by decide +kernel
theorem dX8_isTaken_15 : decode cX8_isTaken 15 = .ok (.if_icmp .eq 39, 3) := by decide +kernel
theorem dX8_isTaken_18 : decode cX8_isTaken 18 = .ok (.aload_n 0, 1) := by decide +kernel
theorem dX8_isTaken_19 : decode cX8_isTaken 19 = .ok (.getfield 74, 3) := by decide +kernel
theorem dX8_isTaken_22 : decode cX8_isTaken 22 = .ok (.iload 5, 2) := by decide +kernel
theorem dX8_isTaken_24 : decode cX8_isTaken 24 = .ok (.iaload, 1) := by decide +kernel
theorem dX8_isTaken_25 : decode cX8_isTaken 25 = .ok (.iload_n 2, 1) := by decide +kernel
theorem dX8_isTaken_26 : decode cX8_isTaken 26 = .ok (.if_icmp .ne 28, 3) := by decide +kernel
theorem dX8_isTaken_29 : decode cX8_isTaken 29 = .ok (.aload_n 0, 1) := by decide +kernel
theorem dX8_isTaken_30 : decode cX8_isTaken 30 = .ok (.getfield 77, 3) := by decide +kernel
theorem dX8_isTaken_33 : decode cX8_isTaken 33 = .ok (.iload 5, 2) := by decide +kernel
theorem dX8_isTaken_35 : decode cX8_isTaken 35 = .ok (.iaload, 1) := by decide +kernel
theorem dX8_isTaken_36 : decode cX8_isTaken 36 = .ok (.iload_n 3, 1) := by decide +kernel
theorem dX8_isTaken_37 : decode cX8_isTaken 37 = .ok (.if_icmp .ne 17, 3) := by decide +kernel
theorem dX8_isTaken_40 : decode cX8_isTaken 40 = .ok (.aload_n 0, 1) := by decide +kernel
theorem dX8_isTaken_41 : decode cX8_isTaken 41 = .ok (.getfield 80, 3) := by decide +kernel
theorem dX8_isTaken_44 : decode cX8_isTaken 44 = .ok (.iload 5, 2) := by decide +kernel
theorem dX8_isTaken_46 : decode cX8_isTaken 46 = .ok (.iaload, 1) := by decide +kernel
theorem dX8_isTaken_47 : decode cX8_isTaken 47 = .ok (.iload 4, 2) := by decide +kernel
theorem dX8_isTaken_49 : decode cX8_isTaken 49 = .ok (.if_icmp .ne 5, 3) := by decide +kernel
theorem dX8_isTaken_52 : decode cX8_isTaken 52 = .ok (.iconst 1, 1) := by decide +kernel
theorem dX8_isTaken_53 : decode cX8_isTaken 53 = .ok (.ireturn, 1) := by decide +kernel
theorem dX8_isTaken_54 : decode cX8_isTaken 54 = .ok (.iinc 5 1, 3) := by decide +kernel
theorem dX8_isTaken_57 : decode cX8_isTaken 57 = .ok (.goto (-54), 3) := by decide +kernel
theorem dX8_isTaken_60 : decode cX8_isTaken 60 = .ok (.iconst 0, 1) := by decide +kernel
theorem dX8_isTaken_61 : decode cX8_isTaken 61 = .ok (.ireturn, 1) := by decide +kernel
set_option maxRecDepth 20000 in
theorem ggX8_isWalker_X8_in : GoodIn wsX8_isWalker wsX8_in := goodIn_r _ [5] (by decide +kernel) (by decide +kernel)
set_option maxRecDepth 20000 in
theorem gX8_isWalker_X8_in : GoodIn wsX8_isWalker (va_wsS RX8 110 yX8_in wsX8_in) := goodIn_app (goodIn_of _ (by decide +kernel)) ggX8_isWalker_X8_in
theorem dX8_isWalker_0 : decode cX8_isWalker 0 = .ok (.iload_n 1, 1) := by decide +kernel
theorem dX8_isWalker_1 : decode cX8_isWalker 1 = .ok (.iconst 0, 1) := by decide +kernel
theorem dX8_isWalker_2 : decode cX8_isWalker 2 = .ok (.aload_n 0, 1) := by decide +kernel
theorem dX8_isWalker_3 : decode cX8_isWalker 3 = .ok (.getfield 129, 3) := by decide +kernel
theorem dX8_isWalker_6 : decode cX8_isWalker 6 = .ok (.iconst 1, 1) := by decide +kernel
theorem dX8_isWalker_7 : decode cX8_isWalker 7 = .ok (.isub, 1) := by decide +kernel
theorem dX8_isWalker_8 : decode cX8_isWalker 8 = .ok (.invokestatic 110, 3) := by decide +kernel
theorem dX8_isWalker_11 : decode cX8_isWalker 11 = .ok (.ireturn, 1) := by decide +kernel
set_option maxRecDepth 20000 in
theorem ggX8_follows_X8_readBack : GoodIn wsX8_follows wsX8_readBack := goodIn_r _ [14, 2, 15, 5, 16, 17, 18, 19, 20, 21, 22, 23, 24, 25, 26, 27, 28, 29, 30, 31, 32, 33, 34, 35, 36, 37, 38, 39, 40, 41, 42, 43, 44, 45, 46, 47, 48, 49, 50, 51, 52, 53, 54, 55, 56, 57, 58, 59, 60, 61, 62, 63, 64] (by decide +kernel) (by decide +kernel)
set_option maxRecDepth 20000 in
theorem gX8_follows_X8_readBack : GoodIn wsX8_follows (wsV RX8 247 RX8 yX8_readBack wsX8_readBack) := goodIn_app (goodIn_of _ (by decide +kernel)) ggX8_follows_X8_readBack
theorem dX8_follows_0 : decode cX8_follows 0 = .ok (.aload_n 0, 1) := by decide +kernel
theorem dX8_follows_1 : decode cX8_follows 1 = .ok (.invokevirtual 247, 3) := by decide +kernel
theorem dX8_follows_4 : decode cX8_follows 4 = .ok (.aload_n 0, 1) := by decide +kernel
theorem dX8_follows_5 : decode cX8_follows 5 = .ok (.getfield 83, 3) := by decide +kernel
theorem dX8_follows_8 : decode cX8_follows 8 = .ok (.iload_n 1, 1) := by decide +kernel
theorem dX8_follows_9 : decode cX8_follows 9 = .ok (.aload_n 0, 1) := by decide +kernel
theorem dX8_follows_10 : decode cX8_follows 10 = .ok (.getfield 237, 3) := by decide +kernel
theorem dX8_follows_13 : decode cX8_follows 13 = .ok (.iconst 1, 1) := by decide +kernel
theorem dX8_follows_14 : decode cX8_follows 14 = .ok (.isub, 1) := by decide +kernel
theorem dX8_follows_15 : decode cX8_follows 15 = .ok (.iastore, 1) := by decide +kernel
theorem dX8_follows_16 : decode cX8_follows 16 = .ok (.iconst 1, 1) := by decide +kernel
theorem dX8_follows_17 : decode cX8_follows 17 = .ok (.istore_n 2, 1) := by decide +kernel
theorem dX8_follows_18 : decode cX8_follows 18 = .ok (.iload_n 2, 1) := by decide +kernel
theorem dX8_follows_19 : decode cX8_follows 19 = .ok (.aload_n 0, 1) := by decide +kernel
theorem dX8_follows_20 : decode cX8_follows 20 = .ok (.getfield 237, 3) := by decide +kernel
theorem dX8_follows_23 : decode cX8_follows 23 = .ok (.if_icmp .ge 81, 3) := by decide +kernel
theorem dX8_follows_26 : decode cX8_follows 26 = .ok (.aload_n 0, 1) := by decide +kernel
theorem dX8_follows_27 : decode cX8_follows 27 = .ok (.getfield 86, 3) := by decide +kernel
theorem dX8_follows_30 : decode cX8_follows 30 = .ok (.bipush 94, 2) := by decide +kernel
theorem dX8_follows_32 : decode cX8_follows 32 = .ok (.iload_n 1, 1) := by decide +kernel
theorem dX8_follows_33 : decode cX8_follows 33 = .ok (.imul, 1) := by decide +kernel
theorem dX8_follows_34 : decode cX8_follows 34 = .ok (.iload_n 2, 1) := by decide +kernel
theorem dX8_follows_35 : decode cX8_follows 35 = .ok (.iadd, 1) := by decide +kernel
theorem dX8_follows_36 : decode cX8_follows 36 = .ok (.iconst 1, 1) := by decide +kernel
theorem dX8_follows_37 : decode cX8_follows 37 = .ok (.isub, 1) := by decide +kernel
theorem dX8_follows_38 : decode cX8_follows 38 = .ok (.aload_n 0, 1) := by decide +kernel
theorem dX8_follows_39 : decode cX8_follows 39 = .ok (.getfield 44, 3) := by decide +kernel
theorem dX8_follows_42 : decode cX8_follows 42 = .ok (.aload_n 0, 1) := by decide +kernel
theorem dX8_follows_43 : decode cX8_follows 43 = .ok (.getfield 62, 3) := by decide +kernel
theorem dX8_follows_46 : decode cX8_follows 46 = .ok (.iload_n 2, 1) := by decide +kernel
theorem dX8_follows_47 : decode cX8_follows 47 = .ok (.iaload, 1) := by decide +kernel
theorem dX8_follows_48 : decode cX8_follows 48 = .ok (.iaload, 1) := by decide +kernel
theorem dX8_follows_49 : decode cX8_follows 49 = .ok (.iastore, 1) := by decide +kernel
theorem dX8_follows_50 : decode cX8_follows 50 = .ok (.aload_n 0, 1) := by decide +kernel
theorem dX8_follows_51 : decode cX8_follows 51 = .ok (.getfield 89, 3) := by decide +kernel
theorem dX8_follows_54 : decode cX8_follows 54 = .ok (.bipush 94, 2) := by decide +kernel
theorem dX8_follows_56 : decode cX8_follows 56 = .ok (.iload_n 1, 1) := by decide +kernel
theorem dX8_follows_57 : decode cX8_follows 57 = .ok (.imul, 1) := by decide +kernel
theorem dX8_follows_58 : decode cX8_follows 58 = .ok (.iload_n 2, 1) := by decide +kernel
theorem dX8_follows_59 : decode cX8_follows 59 = .ok (.iadd, 1) := by decide +kernel
theorem dX8_follows_60 : decode cX8_follows 60 = .ok (.iconst 1, 1) := by decide +kernel
theorem dX8_follows_61 : decode cX8_follows 61 = .ok (.isub, 1) := by decide +kernel
theorem dX8_follows_62 : decode cX8_follows 62 = .ok (.aload_n 0, 1) := by decide +kernel
theorem dX8_follows_63 : decode cX8_follows 63 = .ok (.getfield 47, 3) := by decide +kernel
theorem dX8_follows_66 : decode cX8_follows 66 = .ok (.aload_n 0, 1) := by decide +kernel
theorem dX8_follows_67 : decode cX8_follows 67 = .ok (.getfield 62, 3) := by decide +kernel
theorem dX8_follows_70 : decode cX8_follows 70 = .ok (.iload_n 2, 1) := by decide +kernel
theorem dX8_follows_71 : decode cX8_follows 71 = .ok (.iaload, 1) := by decide +kernel
theorem dX8_follows_72 : decode cX8_follows 72 = .ok (.iaload, 1) := by decide +kernel
theorem dX8_follows_73 : decode cX8_follows 73 = .ok (.iastore, 1) := by decide +kernel
theorem dX8_follows_74 : decode cX8_follows 74 = .ok (.aload_n 0, 1) := by decide +kernel
theorem dX8_follows_75 : decode cX8_follows 75 = .ok (.getfield 92, 3) := by decide +kernel
theorem dX8_follows_78 : decode cX8_follows 78 = .ok (.bipush 94, 2) := by decide +kernel
theorem dX8_follows_80 : decode cX8_follows 80 = .ok (.iload_n 1, 1) := by decide +kernel
theorem dX8_follows_81 : decode cX8_follows 81 = .ok (.imul, 1) := by decide +kernel
theorem dX8_follows_82 : decode cX8_follows 82 = .ok (.iload_n 2, 1) := by decide +kernel
theorem dX8_follows_83 : decode cX8_follows 83 = .ok (.iadd, 1) := by decide +kernel
theorem dX8_follows_84 : decode cX8_follows 84 = .ok (.iconst 1, 1) := by decide +kernel
theorem dX8_follows_85 : decode cX8_follows 85 = .ok (.isub, 1) := by decide +kernel
theorem dX8_follows_86 : decode cX8_follows 86 = .ok (.aload_n 0, 1) := by decide +kernel
theorem dX8_follows_87 : decode cX8_follows 87 = .ok (.getfield 50, 3) := by decide +kernel
theorem dX8_follows_90 : decode cX8_follows 90 = .ok (.aload_n 0, 1) := by decide +kernel
theorem dX8_follows_91 : decode cX8_follows 91 = .ok (.getfield 62, 3) := by decide +kernel
theorem dX8_follows_94 : decode cX8_follows 94 = .ok (.iload_n 2, 1) := by decide +kernel
theorem dX8_follows_95 : decode cX8_follows 95 = .ok (.iaload, 1) := by decide +kernel
theorem dX8_follows_96 : decode cX8_follows 96 = .ok (.iaload, 1) := by decide +kernel
theorem dX8_follows_97 : decode cX8_follows 97 = .ok (.iastore, 1) := by decide +kernel
theorem dX8_follows_98 : decode cX8_follows 98 = .ok (.iinc 2 1, 3) := by decide +kernel
theorem dX8_follows_101 : decode cX8_follows 101 = .ok (.goto (-83), 3) := by decide +kernel
theorem dX8_follows_104 : decode cX8_follows 104 = .ok (.return_, 1) := by decide +kernel
set_option maxRecDepth 20000 in
theorem ggX8_looksAnew_X8_findNodes : GoodIn wsX8_looksAnew wsX8_findNodes := goodIn_r _ [20, 9, 21, 22, 23, 24, 25, 26, 27, 28, 29, 19, 30, 10, 11, 12, 13, 31, 32, 33, 34, 35, 36, 37, 38, 39, 40, 41, 42, 43, 44, 45, 46, 47, 131, 132, 133, 134, 135, 136, 137, 138, 139, 140, 141, 142, 143, 144, 145, 146, 147, 148, 149, 150, 151, 152, 153, 154, 155, 156, 157, 158, 159, 160, 161, 162, 163, 164, 165, 166, 167, 168, 169, 170, 171, 172, 173, 174, 175, 176, 177, 178, 179] (by decide +kernel) (by decide +kernel)
set_option maxRecDepth 20000 in
theorem gX8_looksAnew_X8_findNodes : GoodIn wsX8_looksAnew (wsV RX8 240 RX8 yX8_findNodes wsX8_findNodes) := goodIn_app (goodIn_of _ (by decide +kernel)) ggX8_looksAnew_X8_findNodes
set_option maxRecDepth 20000 in
theorem ggX8_looksAnew_X8_isTaken : GoodIn wsX8_looksAnew wsX8_isTaken := goodIn_r _ [51, 52, 6, 7, 8, 131, 132, 133, 134, 135, 136, 137, 138, 139, 140, 141, 142, 143, 144, 145, 146, 147, 148, 149, 150, 151, 152, 153, 154, 155, 156, 157, 158, 159, 160, 161, 162, 163, 164, 165, 166, 167, 168, 169, 170, 171, 172, 173, 174, 175, 176, 177, 178, 179] (by decide +kernel) (by decide +kernel)
set_option maxRecDepth 20000 in
theorem gX8_looksAnew_X8_isTaken : GoodIn wsX8_looksAnew (wsV RX8 253 RX8 yX8_isTaken wsX8_isTaken) := goodIn_app (goodIn_of _ (by decide +kernel)) ggX8_looksAnew_X8_isTaken
set_option maxRecDepth 20000 in
theorem ggX8_looksAnew_X8_settles : GoodIn wsX8_looksAnew wsX8_settles := goodIn_r _ [56, 9, 14, 57, 58, 13, 59, 60, 61, 19, 62, 10, 11, 12, 63, 64, 65, 66, 67, 68, 69, 70, 71, 72, 73, 74, 75, 76, 77, 78, 79, 80, 81, 82, 83, 84, 85, 86, 87, 21, 22, 88, 89, 90, 91, 23, 24, 92, 93, 94, 95, 96, 97, 98, 99, 100, 101, 102, 103, 104, 105, 106, 107, 108, 109, 110, 111, 112, 113, 114, 115, 116, 117, 118, 119, 120, 25, 26, 131, 132, 133, 134, 135, 136, 137, 138, 139, 140, 141, 142, 143, 144, 145, 146, 147, 148, 149, 150, 151, 152, 153, 154, 155, 156, 157, 158, 159, 160, 161, 162, 163, 164, 165, 166, 167, 168, 169, 170, 171, 172, 173, 174, 175, 176, 177, 178, 179] (by decide +kernel) (by decide +kernel)
set_option maxRecDepth 20000 in
theorem gX8_looksAnew_X8_settles : GoodIn wsX8_looksAnew (wsV RX8 244 RX8 yX8_settles wsX8_settles) := goodIn_app (goodIn_of _ (by decide +kernel)) ggX8_looksAnew_X8_settles
set_option maxRecDepth 20000 in
theorem ggX8_looksAnew_X8_follows : GoodIn wsX8_looksAnew wsX8_follows := goodIn_r _ [124, 1, 125, 2, 10, 126, 3, 11, 4, 12, 127, 128, 129, 19, 130, 57, 131, 132, 133, 134, 135, 136, 137, 138, 139, 140, 141, 142, 143, 144, 145, 146, 147, 148, 149, 150, 151, 152, 153, 154, 155, 156, 157, 158, 159, 160, 161, 162, 163, 164, 165, 166, 167, 168, 169, 170, 171, 172, 173, 174, 175, 176, 177, 178, 179] (by decide +kernel) (by decide +kernel)
set_option maxRecDepth 20000 in
theorem gX8_looksAnew_X8_follows : GoodIn wsX8_looksAnew (wsV RX8 259 RX8 yX8_follows wsX8_follows) := goodIn_app (goodIn_of _ (by decide +kernel)) ggX8_looksAnew_X8_follows
theorem dX8_looksAnew_0 : decode cX8_looksAnew 0 = .ok (.bipush 94, 2) := by decide +kernel
theorem dX8_looksAnew_2 : decode cX8_looksAnew 2 = .ok (.iload_n 1, 1) := by decide +kernel
theorem dX8_looksAnew_3 : decode cX8_looksAnew 3 = .ok (.imul, 1) := by decide +kernel
theorem dX8_looksAnew_4 : decode cX8_looksAnew 4 = .ok (.aload_n 0, 1) := by decide +kernel
theorem dX8_looksAnew_5 : decode cX8_looksAnew 5 = .ok (.getfield 83, 3) := by decide +kernel
theorem dX8_looksAnew_8 : decode cX8_looksAnew 8 = .ok (.iload_n 1, 1) := by decide +kernel
theorem dX8_looksAnew_9 : decode cX8_looksAnew 9 = .ok (.iaload, 1) := by decide +kernel
theorem dX8_looksAnew_10 : decode cX8_looksAnew 10 = .ok (.iadd, 1) := by decide +kernel
theorem dX8_looksAnew_11 : decode cX8_looksAnew 11 = .ok (.iconst 1, 1) := by decide +kernel
theorem dX8_looksAnew_12 : decode cX8_looksAnew 12 = .ok (.isub, 1) := by decide +kernel
theorem dX8_looksAnew_13 : decode cX8_looksAnew 13 = .ok (.istore_n 2, 1) := by decide +kernel
theorem dX8_looksAnew_14 : decode cX8_looksAnew 14 = .ok (.aload_n 0, 1) := by decide +kernel
theorem dX8_looksAnew_15 : decode cX8_looksAnew 15 = .ok (.getfield 86, 3) := by decide +kernel
theorem dX8_looksAnew_18 : decode cX8_looksAnew 18 = .ok (.iload_n 2, 1) := by decide +kernel
theorem dX8_looksAnew_19 : decode cX8_looksAnew 19 = .ok (.iaload, 1) := by decide +kernel
theorem dX8_looksAnew_20 : decode cX8_looksAnew 20 = .ok (.istore_n 3, 1) := by decide +kernel
theorem dX8_looksAnew_21 : decode cX8_looksAnew 21 = .ok (.aload_n 0, 1) := by decide +kernel
theorem dX8_looksAnew_22 : decode cX8_looksAnew 22 = .ok (.getfield 89, 3) := by decide +kernel
theorem dX8_looksAnew_25 : decode cX8_looksAnew 25 = .ok (.iload_n 2, 1) := by decide +kernel
theorem dX8_looksAnew_26 : decode cX8_looksAnew 26 = .ok (.iaload, 1) := by decide +kernel
theorem dX8_looksAnew_27 : decode cX8_looksAnew 27 = .ok (.istore 4, 2) := by decide +kernel
theorem dX8_looksAnew_29 : decode cX8_looksAnew 29 = .ok (.aload_n 0, 1) := by decide +kernel
theorem dX8_looksAnew_30 : decode cX8_looksAnew 30 = .ok (.getfield 92, 3) := by decide +kernel
theorem dX8_looksAnew_33 : decode cX8_looksAnew 33 = .ok (.iload_n 2, 1) := by decide +kernel
theorem dX8_looksAnew_34 : decode cX8_looksAnew 34 = .ok (.iaload, 1) := by decide +kernel
theorem dX8_looksAnew_35 : decode cX8_looksAnew 35 = .ok (.istore 5, 2) := by decide +kernel
theorem dX8_looksAnew_37 : decode cX8_looksAnew 37 = .ok (.aload_n 0, 1) := by decide +kernel
theorem dX8_looksAnew_38 : decode cX8_looksAnew 38 = .ok (.getfield 107, 3) := by decide +kernel
theorem dX8_looksAnew_41 : decode cX8_looksAnew 41 = .ok (.iload_n 1, 1) := by decide +kernel
theorem dX8_looksAnew_42 : decode cX8_looksAnew 42 = .ok (.dup2, 1) := by decide +kernel
theorem dX8_looksAnew_43 : decode cX8_looksAnew 43 = .ok (.iaload, 1) := by decide +kernel
theorem dX8_looksAnew_44 : decode cX8_looksAnew 44 = .ok (.iconst 1, 1) := by decide +kernel
theorem dX8_looksAnew_45 : decode cX8_looksAnew 45 = .ok (.iadd, 1) := by decide +kernel
theorem dX8_looksAnew_46 : decode cX8_looksAnew 46 = .ok (.iastore, 1) := by decide +kernel
theorem dX8_looksAnew_47 : decode cX8_looksAnew 47 = .ok (.aload_n 0, 1) := by decide +kernel
theorem dX8_looksAnew_48 : decode cX8_looksAnew 48 = .ok (.aload_n 0, 1) := by decide +kernel
theorem dX8_looksAnew_49 : decode cX8_looksAnew 49 = .ok (.getfield 74, 3) := by decide +kernel
theorem dX8_looksAnew_52 : decode cX8_looksAnew 52 = .ok (.iload_n 1, 1) := by decide +kernel
theorem dX8_looksAnew_53 : decode cX8_looksAnew 53 = .ok (.iaload, 1) := by decide +kernel
theorem dX8_looksAnew_54 : decode cX8_looksAnew 54 = .ok (.aload_n 0, 1) := by decide +kernel
theorem dX8_looksAnew_55 : decode cX8_looksAnew 55 = .ok (.getfield 77, 3) := by decide +kernel
theorem dX8_looksAnew_58 : decode cX8_looksAnew 58 = .ok (.iload_n 1, 1) := by decide +kernel
theorem dX8_looksAnew_59 : decode cX8_looksAnew 59 = .ok (.iaload, 1) := by decide +kernel
theorem dX8_looksAnew_60 : decode cX8_looksAnew 60 = .ok (.aload_n 0, 1) := by decide +kernel
theorem dX8_looksAnew_61 : decode cX8_looksAnew 61 = .ok (.getfield 80, 3) := by decide +kernel
theorem dX8_looksAnew_64 : decode cX8_looksAnew 64 = .ok (.iload_n 1, 1) := by decide +kernel
theorem dX8_looksAnew_65 : decode cX8_looksAnew 65 = .ok (.iaload, 1) := by decide +kernel
theorem dX8_looksAnew_66 : decode cX8_looksAnew 66 = .ok (.iload_n 3, 1) := by decide +kernel
theorem dX8_looksAnew_67 : decode cX8_looksAnew 67 = .ok (.iload 4, 2) := by decide +kernel
theorem dX8_looksAnew_69 : decode cX8_looksAnew 69 = .ok (.iload 5, 2) := by decide +kernel
theorem dX8_looksAnew_71 : decode cX8_looksAnew 71 = .ok (.invokevirtual 240, 3) := by decide +kernel
theorem dX8_looksAnew_74 : decode cX8_looksAnew 74 = .ok (.iconst 1, 1) := by decide +kernel
theorem dX8_looksAnew_75 : decode cX8_looksAnew 75 = .ok (.istore 6, 2) := by decide +kernel
theorem dX8_looksAnew_77 : decode cX8_looksAnew 77 = .ok (.iload 6, 2) := by decide +kernel
theorem dX8_looksAnew_79 : decode cX8_looksAnew 79 = .ok (.aload_n 0, 1) := by decide +kernel
theorem dX8_looksAnew_80 : decode cX8_looksAnew 80 = .ok (.getfield 214, 3) := by decide +kernel
theorem dX8_looksAnew_83 : decode cX8_looksAnew 83 = .ok (.if_icmp .ge 107, 3) := by decide +kernel
theorem dX8_looksAnew_86 : decode cX8_looksAnew 86 = .ok (.aload_n 0, 1) := by decide +kernel
theorem dX8_looksAnew_87 : decode cX8_looksAnew 87 = .ok (.getfield 44, 3) := by decide +kernel
theorem dX8_looksAnew_90 : decode cX8_looksAnew 90 = .ok (.iload 6, 2) := by decide +kernel
theorem dX8_looksAnew_92 : decode cX8_looksAnew 92 = .ok (.iaload, 1) := by decide +kernel
theorem dX8_looksAnew_93 : decode cX8_looksAnew 93 = .ok (.iload_n 3, 1) := by decide +kernel
theorem dX8_looksAnew_94 : decode cX8_looksAnew 94 = .ok (.if_icmp .ne 31, 3) := by decide +kernel
theorem dX8_looksAnew_97 : decode cX8_looksAnew 97 = .ok (.aload_n 0, 1) := by decide +kernel
theorem dX8_looksAnew_98 : decode cX8_looksAnew 98 = .ok (.getfield 47, 3) := by decide +kernel
theorem dX8_looksAnew_101 : decode cX8_looksAnew 101 = .ok (.iload 6, 2) := by decide +kernel
theorem dX8_looksAnew_103 : decode cX8_looksAnew 103 = .ok (.iaload, 1) := by decide +kernel
theorem dX8_looksAnew_104 : decode cX8_looksAnew 104 = .ok (.iload 4, 2) := by decide +kernel
theorem dX8_looksAnew_106 : decode cX8_looksAnew 106 = .ok (.if_icmp .ne 19, 3) := by decide +kernel
theorem dX8_looksAnew_109 : decode cX8_looksAnew 109 = .ok (.aload_n 0, 1) := by decide +kernel
theorem dX8_looksAnew_110 : decode cX8_looksAnew 110 = .ok (.getfield 50, 3) := by decide +kernel
theorem dX8_looksAnew_113 : decode cX8_looksAnew 113 = .ok (.iload 6, 2) := by decide +kernel
theorem dX8_looksAnew_115 : decode cX8_looksAnew 115 = .ok (.iaload, 1) := by decide +kernel
theorem dX8_looksAnew_116 : decode cX8_looksAnew 116 = .ok (.iload 5, 2) := by decide +kernel
theorem dX8_looksAnew_118 : decode cX8_looksAnew 118 = .ok (.if_icmp .ne 7, 3) := by decide +kernel
theorem dX8_looksAnew_121 : decode cX8_looksAnew 121 = .ok (.iconst 1, 1) := by decide +kernel
theorem dX8_looksAnew_122 : decode cX8_looksAnew 122 = .ok (.goto 4, 3) := by decide +kernel
theorem dX8_looksAnew_125 : decode cX8_looksAnew 125 = .ok (.iconst 0, 1) := by decide +kernel
theorem dX8_looksAnew_126 : decode cX8_looksAnew 126 = .ok (.istore 7, 2) := by decide +kernel
theorem dX8_looksAnew_128 : decode cX8_looksAnew 128 = .ok (.aload_n 0, 1) := by decide +kernel
theorem dX8_looksAnew_129 : decode cX8_looksAnew 129 = .ok (.getfield 41, 3) := by decide +kernel
theorem dX8_looksAnew_132 : decode cX8_looksAnew 132 = .ok (.iload 6, 2) := by decide +kernel
theorem dX8_looksAnew_134 : decode cX8_looksAnew 134 = .ok (.aload_n 0, 1) := by decide +kernel
theorem dX8_looksAnew_135 : decode cX8_looksAnew 135 = .ok (.getfield 41, 3) := by decide +kernel
theorem dX8_looksAnew_138 : decode cX8_looksAnew 138 = .ok (.iload 6, 2) := by decide +kernel
theorem dX8_looksAnew_140 : decode cX8_looksAnew 140 = .ok (.baload, 1) := by decide +kernel
theorem dX8_looksAnew_141 : decode cX8_looksAnew 141 = .ok (.ifCond .eq 41, 3) := by decide +kernel
theorem dX8_looksAnew_144 : decode cX8_looksAnew 144 = .ok (.iload 7, 2) := by decide +kernel
theorem dX8_looksAnew_146 : decode cX8_looksAnew 146 = .ok (.ifCond .ne 32, 3) := by decide +kernel
theorem dX8_looksAnew_149 : decode cX8_looksAnew 149 = .ok (.aload_n 0, 1) := by decide +kernel
theorem dX8_looksAnew_150 : decode cX8_looksAnew 150 = .ok (.iload_n 1, 1) := by decide +kernel
theorem dX8_looksAnew_151 : decode cX8_looksAnew 151 = .ok (.aload_n 0, 1) := by decide +kernel
theorem dX8_looksAnew_152 : decode cX8_looksAnew 152 = .ok (.getfield 44, 3) := by decide +kernel
theorem dX8_looksAnew_155 : decode cX8_looksAnew 155 = .ok (.iload 6, 2) := by decide +kernel
theorem dX8_looksAnew_157 : decode cX8_looksAnew 157 = .ok (.iaload, 1) := by decide +kernel
theorem dX8_looksAnew_158 : decode cX8_looksAnew 158 = .ok (.aload_n 0, 1) := by decide +kernel
theorem dX8_looksAnew_159 : decode cX8_looksAnew 159 = .ok (.getfield 47, 3) := by decide +kernel
theorem dX8_looksAnew_162 : decode cX8_looksAnew 162 = .ok (.iload 6, 2) := by decide +kernel
theorem dX8_looksAnew_164 : decode cX8_looksAnew 164 = .ok (.iaload, 1) := by decide +kernel
theorem dX8_looksAnew_165 : decode cX8_looksAnew 165 = .ok (.aload_n 0, 1) := by decide +kernel
theorem dX8_looksAnew_166 : decode cX8_looksAnew 166 = .ok (.getfield 50, 3) := by decide +kernel
theorem dX8_looksAnew_169 : decode cX8_looksAnew 169 = .ok (.iload 6, 2) := by decide +kernel
theorem dX8_looksAnew_171 : decode cX8_looksAnew 171 = .ok (.iaload, 1) := by decide +kernel
theorem dX8_looksAnew_172 : decode cX8_looksAnew 172 = .ok (.invokevirtual 253, 3) := by decide +kernel
theorem dX8_looksAnew_175 : decode cX8_looksAnew 175 = .ok (.ifCond .ne 7, 3) := by decide +kernel
theorem dX8_looksAnew_178 : decode cX8_looksAnew 178 = .ok (.iconst 1, 1) := by decide +kernel
theorem dX8_looksAnew_179 : decode cX8_looksAnew 179 = .ok (.goto 4, 3) := by decide +kernel
theorem dX8_looksAnew_182 : decode cX8_looksAnew 182 = .ok (.iconst 0, 1) := by decide +kernel
theorem dX8_looksAnew_183 : decode cX8_looksAnew 183 = .ok (.bastore, 1) := by decide +kernel
theorem dX8_looksAnew_184 : decode cX8_looksAnew 184 = .ok (.iinc 6 1, 3) := by decide +kernel
theorem dX8_looksAnew_187 : decode cX8_looksAnew 187 = .ok (.goto (-110), 3) := by decide +kernel
theorem dX8_looksAnew_190 : decode cX8_looksAnew 190 = .ok (.aload_n 0, 1) := by decide +kernel
theorem dX8_looksAnew_191 : decode cX8_looksAnew 191 = .ok (.invokevirtual 244, 3) := by decide +kernel
theorem dX8_looksAnew_194 : decode cX8_looksAnew 194 = .ok (.aload_n 0, 1) := by decide +kernel
theorem dX8_looksAnew_195 : decode cX8_looksAnew 195 = .ok (.getfield 53, 3) := by decide +kernel
theorem dX8_looksAnew_198 : decode cX8_looksAnew 198 = .ok (.iconst 1, 1) := by decide +kernel
theorem dX8_looksAnew_199 : decode cX8_looksAnew 199 = .ok (.iaload, 1) := by decide +kernel
theorem dX8_looksAnew_200 : decode cX8_looksAnew 200 = .ok (.iconst (-1), 1) := by decide +kernel
theorem dX8_looksAnew_201 : decode cX8_looksAnew 201 = .ok (.if_icmp .ne 20, 3) := by decide +kernel
theorem dX8_looksAnew_204 : decode cX8_looksAnew 204 = .ok (.aload_n 0, 1) := by decide +kernel
theorem dX8_looksAnew_205 : decode cX8_looksAnew 205 = .ok (.getfield 83, 3) := by decide +kernel
theorem dX8_looksAnew_208 : decode cX8_looksAnew 208 = .ok (.iload_n 1, 1) := by decide +kernel
theorem dX8_looksAnew_209 : decode cX8_looksAnew 209 = .ok (.iconst 0, 1) := by decide +kernel
theorem dX8_looksAnew_210 : decode cX8_looksAnew 210 = .ok (.iastore, 1) := by decide +kernel
theorem dX8_looksAnew_211 : decode cX8_looksAnew 211 = .ok (.aload_n 0, 1) := by decide +kernel
theorem dX8_looksAnew_212 : decode cX8_looksAnew 212 = .ok (.getfield 98, 3) := by decide +kernel
theorem dX8_looksAnew_215 : decode cX8_looksAnew 215 = .ok (.iload_n 1, 1) := by decide +kernel
theorem dX8_looksAnew_216 : decode cX8_looksAnew 216 = .ok (.iconst 1, 1) := by decide +kernel
theorem dX8_looksAnew_217 : decode cX8_looksAnew 217 = .ok (.bastore, 1) := by decide +kernel
theorem dX8_looksAnew_218 : decode cX8_looksAnew 218 = .ok (.goto 8, 3) := by decide +kernel
theorem dX8_looksAnew_221 : decode cX8_looksAnew 221 = .ok (.aload_n 0, 1) := by decide +kernel
theorem dX8_looksAnew_222 : decode cX8_looksAnew 222 = .ok (.iload_n 1, 1) := by decide +kernel
theorem dX8_looksAnew_223 : decode cX8_looksAnew 223 = .ok (.invokevirtual 259, 3) := by decide +kernel
theorem dX8_looksAnew_226 : decode cX8_looksAnew 226 = .ok (.return_, 1) := by decide +kernel
set_option maxRecDepth 20000 in
theorem ggX8_turn_X8_seen : GoodIn wsX8_turn wsX8_seen := goodIn_r _ [15, 16, 17, 18, 19, 20, 21, 22, 23, 14, 24, 25, 26, 27, 28, 29, 30, 31, 32, 33, 34, 35, 36, 37, 38, 39, 40, 41, 42, 43, 44, 45, 46, 47, 48, 49, 50, 51, 52, 53, 54, 55, 56, 57, 58, 59, 60, 61, 62, 63, 138, 139, 140, 141, 142, 143, 144, 145, 146, 147, 148, 149, 150, 151, 152, 153, 154, 155, 156, 157, 158, 159, 160, 161, 162, 163, 164, 165, 166, 167, 168, 169, 170, 171, 172, 173, 174, 175, 176, 177, 178, 179, 180, 181, 182, 183, 184, 185, 186] (by decide +kernel) (by decide +kernel)
set_option maxRecDepth 20000 in
theorem gX8_turn_X8_seen : GoodIn wsX8_turn (wsV RX8 204 RX8 yX8_seen wsX8_seen) := goodIn_app (goodIn_of _ (by decide +kernel)) ggX8_turn_X8_seen
set_option maxRecDepth 20000 in
theorem ggX8_turn_X8_lengthOf : GoodIn wsX8_turn wsX8_lengthOf := goodIn_r _ [66, 67, 68, 69] (by decide +kernel) (by decide +kernel)
set_option maxRecDepth 20000 in
theorem gX8_turn_X8_lengthOf : GoodIn wsX8_turn (va_wsS RX8 225 yX8_lengthOf wsX8_lengthOf) := goodIn_app (goodIn_of _ (by decide +kernel)) ggX8_turn_X8_lengthOf
set_option maxRecDepth 20000 in
theorem ggX8_turn_X8_isGround : GoodIn wsX8_turn wsX8_isGround := goodIn_r _ [73, 37, 38, 43, 44, 74, 75, 14, 76, 77, 78, 79, 80, 81, 82, 138, 139, 140, 141, 142, 143, 144, 145, 146, 147, 148, 149, 150, 151, 152, 153, 154, 155, 156, 157, 158, 159, 160, 161, 162, 163, 164, 165, 166, 167, 168, 169, 170, 171, 172, 173, 174, 175, 176, 177, 178, 179, 180, 181, 182, 183, 184, 185, 186] (by decide +kernel) (by decide +kernel)
set_option maxRecDepth 20000 in
theorem gX8_turn_X8_isGround : GoodIn wsX8_turn (wsV RX8 152 RX8 yX8_isGround wsX8_isGround) := goodIn_app (goodIn_of _ (by decide +kernel)) ggX8_turn_X8_isGround
set_option maxRecDepth 20000 in
theorem ggX8_turn_X8_climb : GoodIn wsX8_turn wsX8_climb := goodIn_r _ [86, 87, 88, 138, 139, 140, 141, 142, 143, 144, 145, 146, 147, 148, 149, 150, 151, 152, 153, 154, 155, 156, 157, 158, 159, 160, 161, 162, 163, 164, 165, 166, 167, 168, 169, 170, 171, 172, 173, 174, 175, 176, 177, 178, 179, 180, 181, 182, 183, 184, 185, 186] (by decide +kernel) (by decide +kernel)
set_option maxRecDepth 20000 in
theorem gX8_turn_X8_climb : GoodIn wsX8_turn (wsV RX8 229 RX8 yX8_climb wsX8_climb) := goodIn_app (goodIn_of _ (by decide +kernel)) ggX8_turn_X8_climb
set_option maxRecDepth 20000 in
theorem ggX8_turn_X8_isTaken : GoodIn wsX8_turn wsX8_isTaken := goodIn_r _ [92, 93, 4, 5, 6, 138, 139, 140, 141, 142, 143, 144, 145, 146, 147, 148, 149, 150, 151, 152, 153, 154, 155, 156, 157, 158, 159, 160, 161, 162, 163, 164, 165, 166, 167, 168, 169, 170, 171, 172, 173, 174, 175, 176, 177, 178, 179, 180, 181, 182, 183, 184, 185, 186] (by decide +kernel) (by decide +kernel)
set_option maxRecDepth 20000 in
theorem gX8_turn_X8_isTaken : GoodIn wsX8_turn (wsV RX8 253 RX8 yX8_isTaken wsX8_isTaken) := goodIn_app (goodIn_of _ (by decide +kernel)) ggX8_turn_X8_isTaken
set_option maxRecDepth 20000 in
theorem ggX8_turn_X8_looksAnew : GoodIn wsX8_turn wsX8_looksAnew := goodIn_r _ [97, 10, 1, 2, 3, 98, 4, 5, 6, 99, 100, 101, 102, 103, 104, 105, 106, 107, 108, 14, 109, 37, 38, 43, 44, 87, 88, 110, 111, 112, 113, 70, 71, 72, 73, 74, 75, 76, 77, 78, 79, 80, 81, 82, 114, 115, 116, 117, 89, 90, 91, 92, 93, 118, 119, 120, 121, 122, 123, 124, 125, 126, 127, 11, 12, 13, 15, 16, 17, 18, 19, 20, 21, 22, 23, 24, 25, 26, 27, 28, 29, 30, 31, 32, 33, 34, 35, 36, 39, 40, 41, 42, 45, 46, 47, 48, 49, 50, 51, 52, 53, 54, 55, 56, 57, 58, 59, 60, 61, 62, 63, 64, 65, 66, 67, 68, 69, 83, 84, 85, 86, 128, 129, 130, 131, 132, 133, 134, 135, 136, 137, 138, 139, 140, 141, 142, 143, 144, 145, 146, 147, 148, 149, 150, 151, 152, 153, 154, 155, 156, 157, 158, 159, 160, 161, 162, 163, 164, 165, 166, 167, 168, 169, 170, 171, 172, 173, 174, 175, 176, 177, 178, 179, 180, 181, 182, 183, 184, 185, 186] (by decide +kernel) (by decide +kernel)
set_option maxRecDepth 20000 in
theorem gX8_turn_X8_looksAnew : GoodIn wsX8_turn (wsV RX8 263 RX8 yX8_looksAnew wsX8_looksAnew) := goodIn_app (goodIn_of _ (by decide +kernel)) ggX8_turn_X8_looksAnew
theorem dX8_turn_0 : decode cX8_turn 0 = .ok (.bipush 94, 2) := by decide +kernel
theorem dX8_turn_2 : decode cX8_turn 2 = .ok (.iload_n 1, 1) := by decide +kernel
theorem dX8_turn_3 : decode cX8_turn 3 = .ok (.imul, 1) := by decide +kernel
theorem dX8_turn_4 : decode cX8_turn 4 = .ok (.istore_n 2, 1) := by decide +kernel
theorem dX8_turn_5 : decode cX8_turn 5 = .ok (.aload_n 0, 1) := by decide +kernel
theorem dX8_turn_6 : decode cX8_turn 6 = .ok (.getfield 86, 3) := by decide +kernel
theorem dX8_turn_9 : decode cX8_turn 9 = .ok (.iload_n 2, 1) := by decide +kernel
theorem dX8_turn_10 : decode cX8_turn 10 = .ok (.iaload, 1) := by decide +kernel
theorem dX8_turn_11 : decode cX8_turn 11 = .ok (.istore_n 3, 1) := by decide +kernel
theorem dX8_turn_12 : decode cX8_turn 12 = .ok (.aload_n 0, 1) := by decide +kernel
theorem dX8_turn_13 : decode cX8_turn 13 = .ok (.getfield 89, 3) := by decide +kernel
theorem dX8_turn_16 : decode cX8_turn 16 = .ok (.iload_n 2, 1) := by decide +kernel
theorem dX8_turn_17 : decode cX8_turn 17 = .ok (.iaload, 1) := by decide +kernel
theorem dX8_turn_18 : decode cX8_turn 18 = .ok (.istore 4, 2) := by decide +kernel
theorem dX8_turn_20 : decode cX8_turn 20 = .ok (.aload_n 0, 1) := by decide +kernel
theorem dX8_turn_21 : decode cX8_turn 21 = .ok (.getfield 92, 3) := by decide +kernel
theorem dX8_turn_24 : decode cX8_turn 24 = .ok (.iload_n 2, 1) := by decide +kernel
theorem dX8_turn_25 : decode cX8_turn 25 = .ok (.iaload, 1) := by decide +kernel
theorem dX8_turn_26 : decode cX8_turn 26 = .ok (.istore 5, 2) := by decide +kernel
theorem dX8_turn_28 : decode cX8_turn 28 = .ok (.iconst (-1), 1) := by decide +kernel
theorem dX8_turn_29 : decode cX8_turn 29 = .ok (.istore 6, 2) := by decide +kernel
theorem dX8_turn_31 : decode cX8_turn 31 = .ok (.iload_n 3, 1) := by decide +kernel
theorem dX8_turn_32 : decode cX8_turn 32 = .ok (.aload_n 0, 1) := by decide +kernel
theorem dX8_turn_33 : decode cX8_turn 33 = .ok (.getfield 74, 3) := by decide +kernel
theorem dX8_turn_36 : decode cX8_turn 36 = .ok (.iload_n 1, 1) := by decide +kernel
theorem dX8_turn_37 : decode cX8_turn 37 = .ok (.iaload, 1) := by decide +kernel
theorem dX8_turn_38 : decode cX8_turn 38 = .ok (.if_icmp .ne 56, 3) := by decide +kernel
theorem dX8_turn_41 : decode cX8_turn 41 = .ok (.aload_n 0, 1) := by decide +kernel
theorem dX8_turn_42 : decode cX8_turn 42 = .ok (.iload_n 3, 1) := by decide +kernel
theorem dX8_turn_43 : decode cX8_turn 43 = .ok (.aload_n 0, 1) := by decide +kernel
theorem dX8_turn_44 : decode cX8_turn 44 = .ok (.getfield 77, 3) := by decide +kernel
theorem dX8_turn_47 : decode cX8_turn 47 = .ok (.iload_n 1, 1) := by decide +kernel
theorem dX8_turn_48 : decode cX8_turn 48 = .ok (.iaload, 1) := by decide +kernel
theorem dX8_turn_49 : decode cX8_turn 49 = .ok (.aload_n 0, 1) := by decide +kernel
theorem dX8_turn_50 : decode cX8_turn 50 = .ok (.getfield 80, 3) := by decide +kernel
theorem dX8_turn_53 : decode cX8_turn 53 = .ok (.iload_n 1, 1) := by decide +kernel
theorem dX8_turn_54 : decode cX8_turn 54 = .ok (.iaload, 1) := by decide +kernel
theorem dX8_turn_55 : decode cX8_turn 55 = .ok (.iload 4, 2) := by decide +kernel
theorem dX8_turn_57 : decode cX8_turn 57 = .ok (.iload 5, 2) := by decide +kernel
theorem dX8_turn_59 : decode cX8_turn 59 = .ok (.invokevirtual 204, 3) := by decide +kernel
theorem dX8_turn_62 : decode cX8_turn 62 = .ok (.iconst 1, 1) := by decide +kernel
theorem dX8_turn_63 : decode cX8_turn 63 = .ok (.if_icmp .ne 25, 3) := by decide +kernel
theorem dX8_turn_66 : decode cX8_turn 66 = .ok (.aload_n 0, 1) := by decide +kernel
theorem dX8_turn_67 : decode cX8_turn 67 = .ok (.getfield 77, 3) := by decide +kernel
theorem dX8_turn_70 : decode cX8_turn 70 = .ok (.iload_n 1, 1) := by decide +kernel
theorem dX8_turn_71 : decode cX8_turn 71 = .ok (.iaload, 1) := by decide +kernel
theorem dX8_turn_72 : decode cX8_turn 72 = .ok (.aload_n 0, 1) := by decide +kernel
theorem dX8_turn_73 : decode cX8_turn 73 = .ok (.getfield 80, 3) := by decide +kernel
theorem dX8_turn_76 : decode cX8_turn 76 = .ok (.iload_n 1, 1) := by decide +kernel
theorem dX8_turn_77 : decode cX8_turn 77 = .ok (.iaload, 1) := by decide +kernel
theorem dX8_turn_78 : decode cX8_turn 78 = .ok (.iload 4, 2) := by decide +kernel
theorem dX8_turn_80 : decode cX8_turn 80 = .ok (.iload 5, 2) := by decide +kernel
theorem dX8_turn_82 : decode cX8_turn 82 = .ok (.invokestatic 225, 3) := by decide +kernel
theorem dX8_turn_85 : decode cX8_turn 85 = .ok (.goto 4, 3) := by decide +kernel
theorem dX8_turn_88 : decode cX8_turn 88 = .ok (.iconst (-1), 1) := by decide +kernel
theorem dX8_turn_89 : decode cX8_turn 89 = .ok (.istore 6, 2) := by decide +kernel
theorem dX8_turn_91 : decode cX8_turn 91 = .ok (.goto 44, 3) := by decide +kernel
theorem dX8_turn_94 : decode cX8_turn 94 = .ok (.aload_n 0, 1) := by decide +kernel
theorem dX8_turn_95 : decode cX8_turn 95 = .ok (.iload_n 3, 1) := by decide +kernel
theorem dX8_turn_96 : decode cX8_turn 96 = .ok (.iload 4, 2) := by decide +kernel
theorem dX8_turn_98 : decode cX8_turn 98 = .ok (.iload 5, 2) := by decide +kernel
theorem dX8_turn_100 : decode cX8_turn 100 = .ok (.invokevirtual 152, 3) := by decide +kernel
theorem dX8_turn_103 : decode cX8_turn 103 = .ok (.ifCond .eq 32, 3) := by decide +kernel
theorem dX8_turn_106 : decode cX8_turn 106 = .ok (.aload_n 0, 1) := by decide +kernel
theorem dX8_turn_107 : decode cX8_turn 107 = .ok (.aload_n 0, 1) := by decide +kernel
theorem dX8_turn_108 : decode cX8_turn 108 = .ok (.getfield 74, 3) := by decide +kernel
theorem dX8_turn_111 : decode cX8_turn 111 = .ok (.iload_n 1, 1) := by decide +kernel
theorem dX8_turn_112 : decode cX8_turn 112 = .ok (.iaload, 1) := by decide +kernel
theorem dX8_turn_113 : decode cX8_turn 113 = .ok (.aload_n 0, 1) := by decide +kernel
theorem dX8_turn_114 : decode cX8_turn 114 = .ok (.getfield 77, 3) := by decide +kernel
theorem dX8_turn_117 : decode cX8_turn 117 = .ok (.iload_n 1, 1) := by decide +kernel
theorem dX8_turn_118 : decode cX8_turn 118 = .ok (.iaload, 1) := by decide +kernel
theorem dX8_turn_119 : decode cX8_turn 119 = .ok (.aload_n 0, 1) := by decide +kernel
theorem dX8_turn_120 : decode cX8_turn 120 = .ok (.getfield 80, 3) := by decide +kernel
theorem dX8_turn_123 : decode cX8_turn 123 = .ok (.iload_n 1, 1) := by decide +kernel
theorem dX8_turn_124 : decode cX8_turn 124 = .ok (.iaload, 1) := by decide +kernel
theorem dX8_turn_125 : decode cX8_turn 125 = .ok (.iload_n 3, 1) := by decide +kernel
theorem dX8_turn_126 : decode cX8_turn 126 = .ok (.iload 4, 2) := by decide +kernel
theorem dX8_turn_128 : decode cX8_turn 128 = .ok (.iload 5, 2) := by decide +kernel
theorem dX8_turn_130 : decode cX8_turn 130 = .ok (.invokevirtual 229, 3) := by decide +kernel
theorem dX8_turn_133 : decode cX8_turn 133 = .ok (.istore 6, 2) := by decide +kernel
theorem dX8_turn_135 : decode cX8_turn 135 = .ok (.iload 6, 2) := by decide +kernel
theorem dX8_turn_137 : decode cX8_turn 137 = .ok (.iconst (-1), 1) := by decide +kernel
theorem dX8_turn_138 : decode cX8_turn 138 = .ok (.if_icmp .eq 158, 3) := by decide +kernel
theorem dX8_turn_141 : decode cX8_turn 141 = .ok (.aload_n 0, 1) := by decide +kernel
theorem dX8_turn_142 : decode cX8_turn 142 = .ok (.iload_n 1, 1) := by decide +kernel
theorem dX8_turn_143 : decode cX8_turn 143 = .ok (.iload_n 3, 1) := by decide +kernel
theorem dX8_turn_144 : decode cX8_turn 144 = .ok (.iload 4, 2) := by decide +kernel
theorem dX8_turn_146 : decode cX8_turn 146 = .ok (.iload 5, 2) := by decide +kernel
theorem dX8_turn_148 : decode cX8_turn 148 = .ok (.invokevirtual 253, 3) := by decide +kernel
theorem dX8_turn_151 : decode cX8_turn 151 = .ok (.ifCond .ne 145, 3) := by decide +kernel
theorem dX8_turn_154 : decode cX8_turn 154 = .ok (.aload_n 0, 1) := by decide +kernel
theorem dX8_turn_155 : decode cX8_turn 155 = .ok (.getfield 74, 3) := by decide +kernel
theorem dX8_turn_158 : decode cX8_turn 158 = .ok (.iload_n 1, 1) := by decide +kernel
theorem dX8_turn_159 : decode cX8_turn 159 = .ok (.iload_n 3, 1) := by decide +kernel
theorem dX8_turn_160 : decode cX8_turn 160 = .ok (.iastore, 1) := by decide +kernel
theorem dX8_turn_161 : decode cX8_turn 161 = .ok (.aload_n 0, 1) := by decide +kernel
theorem dX8_turn_162 : decode cX8_turn 162 = .ok (.getfield 77, 3) := by decide +kernel
theorem dX8_turn_165 : decode cX8_turn 165 = .ok (.iload_n 1, 1) := by decide +kernel
theorem dX8_turn_166 : decode cX8_turn 166 = .ok (.iload 4, 2) := by decide +kernel
theorem dX8_turn_168 : decode cX8_turn 168 = .ok (.iastore, 1) := by decide +kernel
theorem dX8_turn_169 : decode cX8_turn 169 = .ok (.aload_n 0, 1) := by decide +kernel
theorem dX8_turn_170 : decode cX8_turn 170 = .ok (.getfield 80, 3) := by decide +kernel
theorem dX8_turn_173 : decode cX8_turn 173 = .ok (.iload_n 1, 1) := by decide +kernel
theorem dX8_turn_174 : decode cX8_turn 174 = .ok (.iload 5, 2) := by decide +kernel
theorem dX8_turn_176 : decode cX8_turn 176 = .ok (.iastore, 1) := by decide +kernel
theorem dX8_turn_177 : decode cX8_turn 177 = .ok (.aload_n 0, 1) := by decide +kernel
theorem dX8_turn_178 : decode cX8_turn 178 = .ok (.getfield 101, 3) := by decide +kernel
theorem dX8_turn_181 : decode cX8_turn 181 = .ok (.iload_n 1, 1) := by decide +kernel
theorem dX8_turn_182 : decode cX8_turn 182 = .ok (.dup2, 1) := by decide +kernel
theorem dX8_turn_183 : decode cX8_turn 183 = .ok (.iaload, 1) := by decide +kernel
theorem dX8_turn_184 : decode cX8_turn 184 = .ok (.iconst 1, 1) := by decide +kernel
theorem dX8_turn_185 : decode cX8_turn 185 = .ok (.iadd, 1) := by decide +kernel
theorem dX8_turn_186 : decode cX8_turn 186 = .ok (.iastore, 1) := by decide +kernel
theorem dX8_turn_187 : decode cX8_turn 187 = .ok (.aload_n 0, 1) := by decide +kernel
theorem dX8_turn_188 : decode cX8_turn 188 = .ok (.getfield 104, 3) := by decide +kernel
theorem dX8_turn_191 : decode cX8_turn 191 = .ok (.iload_n 1, 1) := by decide +kernel
theorem dX8_turn_192 : decode cX8_turn 192 = .ok (.dup2, 1) := by decide +kernel
theorem dX8_turn_193 : decode cX8_turn 193 = .ok (.iaload, 1) := by decide +kernel
theorem dX8_turn_194 : decode cX8_turn 194 = .ok (.iload 6, 2) := by decide +kernel
theorem dX8_turn_196 : decode cX8_turn 196 = .ok (.iadd, 1) := by decide +kernel
theorem dX8_turn_197 : decode cX8_turn 197 = .ok (.iastore, 1) := by decide +kernel
theorem dX8_turn_198 : decode cX8_turn 198 = .ok (.aload_n 0, 1) := by decide +kernel
theorem dX8_turn_199 : decode cX8_turn 199 = .ok (.getfield 95, 3) := by decide +kernel
theorem dX8_turn_202 : decode cX8_turn 202 = .ok (.iload_n 1, 1) := by decide +kernel
theorem dX8_turn_203 : decode cX8_turn 203 = .ok (.iconst 0, 1) := by decide +kernel
theorem dX8_turn_204 : decode cX8_turn 204 = .ok (.iastore, 1) := by decide +kernel
theorem dX8_turn_205 : decode cX8_turn 205 = .ok (.aload_n 0, 1) := by decide +kernel
theorem dX8_turn_206 : decode cX8_turn 206 = .ok (.getfield 83, 3) := by decide +kernel
theorem dX8_turn_209 : decode cX8_turn 209 = .ok (.iload_n 1, 1) := by decide +kernel
theorem dX8_turn_210 : decode cX8_turn 210 = .ok (.dup2, 1) := by decide +kernel
theorem dX8_turn_211 : decode cX8_turn 211 = .ok (.iaload, 1) := by decide +kernel
theorem dX8_turn_212 : decode cX8_turn 212 = .ok (.iconst 1, 1) := by decide +kernel
theorem dX8_turn_213 : decode cX8_turn 213 = .ok (.isub, 1) := by decide +kernel
theorem dX8_turn_214 : decode cX8_turn 214 = .ok (.iastore, 1) := by decide +kernel
theorem dX8_turn_215 : decode cX8_turn 215 = .ok (.iconst 0, 1) := by decide +kernel
theorem dX8_turn_216 : decode cX8_turn 216 = .ok (.istore 7, 2) := by decide +kernel
theorem dX8_turn_218 : decode cX8_turn 218 = .ok (.iload 7, 2) := by decide +kernel
theorem dX8_turn_220 : decode cX8_turn 220 = .ok (.aload_n 0, 1) := by decide +kernel
theorem dX8_turn_221 : decode cX8_turn 221 = .ok (.getfield 83, 3) := by decide +kernel
theorem dX8_turn_224 : decode cX8_turn 224 = .ok (.iload_n 1, 1) := by decide +kernel
theorem dX8_turn_225 : decode cX8_turn 225 = .ok (.iaload, 1) := by decide +kernel
theorem dX8_turn_226 : decode cX8_turn 226 = .ok (.if_icmp .ge 69, 3) := by decide +kernel
theorem dX8_turn_229 : decode cX8_turn 229 = .ok (.aload_n 0, 1) := by decide +kernel
theorem dX8_turn_230 : decode cX8_turn 230 = .ok (.getfield 86, 3) := by decide +kernel
theorem dX8_turn_233 : decode cX8_turn 233 = .ok (.iload_n 2, 1) := by decide +kernel
theorem dX8_turn_234 : decode cX8_turn 234 = .ok (.iload 7, 2) := by decide +kernel
theorem dX8_turn_236 : decode cX8_turn 236 = .ok (.iadd, 1) := by decide +kernel
theorem dX8_turn_237 : decode cX8_turn 237 = .ok (.aload_n 0, 1) := by decide +kernel
theorem dX8_turn_238 : decode cX8_turn 238 = .ok (.getfield 86, 3) := by decide +kernel
theorem dX8_turn_241 : decode cX8_turn 241 = .ok (.iload_n 2, 1) := by decide +kernel
theorem dX8_turn_242 : decode cX8_turn 242 = .ok (.iload 7, 2) := by decide +kernel
theorem dX8_turn_244 : decode cX8_turn 244 = .ok (.iadd, 1) := by decide +kernel
theorem dX8_turn_245 : decode cX8_turn 245 = .ok (.iconst 1, 1) := by decide +kernel
theorem dX8_turn_246 : decode cX8_turn 246 = .ok (.iadd, 1) := by decide +kernel
theorem dX8_turn_247 : decode cX8_turn 247 = .ok (.iaload, 1) := by decide +kernel
theorem dX8_turn_248 : decode cX8_turn 248 = .ok (.iastore, 1) := by decide +kernel
theorem dX8_turn_249 : decode cX8_turn 249 = .ok (.aload_n 0, 1) := by decide +kernel
theorem dX8_turn_250 : decode cX8_turn 250 = .ok (.getfield 89, 3) := by decide +kernel
theorem dX8_turn_253 : decode cX8_turn 253 = .ok (.iload_n 2, 1) := by decide +kernel
theorem dX8_turn_254 : decode cX8_turn 254 = .ok (.iload 7, 2) := by decide +kernel
theorem dX8_turn_256 : decode cX8_turn 256 = .ok (.iadd, 1) := by decide +kernel
theorem dX8_turn_257 : decode cX8_turn 257 = .ok (.aload_n 0, 1) := by decide +kernel
theorem dX8_turn_258 : decode cX8_turn 258 = .ok (.getfield 89, 3) := by decide +kernel
theorem dX8_turn_261 : decode cX8_turn 261 = .ok (.iload_n 2, 1) := by decide +kernel
theorem dX8_turn_262 : decode cX8_turn 262 = .ok (.iload 7, 2) := by decide +kernel
theorem dX8_turn_264 : decode cX8_turn 264 = .ok (.iadd, 1) := by decide +kernel
theorem dX8_turn_265 : decode cX8_turn 265 = .ok (.iconst 1, 1) := by decide +kernel
theorem dX8_turn_266 : decode cX8_turn 266 = .ok (.iadd, 1) := by decide +kernel
theorem dX8_turn_267 : decode cX8_turn 267 = .ok (.iaload, 1) := by decide +kernel
theorem dX8_turn_268 : decode cX8_turn 268 = .ok (.iastore, 1) := by decide +kernel
theorem dX8_turn_269 : decode cX8_turn 269 = .ok (.aload_n 0, 1) := by decide +kernel
theorem dX8_turn_270 : decode cX8_turn 270 = .ok (.getfield 92, 3) := by decide +kernel
theorem dX8_turn_273 : decode cX8_turn 273 = .ok (.iload_n 2, 1) := by decide +kernel
theorem dX8_turn_274 : decode cX8_turn 274 = .ok (.iload 7, 2) := by decide +kernel
theorem dX8_turn_276 : decode cX8_turn 276 = .ok (.iadd, 1) := by decide +kernel
theorem dX8_turn_277 : decode cX8_turn 277 = .ok (.aload_n 0, 1) := by decide +kernel
theorem dX8_turn_278 : decode cX8_turn 278 = .ok (.getfield 92, 3) := by decide +kernel
theorem dX8_turn_281 : decode cX8_turn 281 = .ok (.iload_n 2, 1) := by decide +kernel
theorem dX8_turn_282 : decode cX8_turn 282 = .ok (.iload 7, 2) := by decide +kernel
theorem dX8_turn_284 : decode cX8_turn 284 = .ok (.iadd, 1) := by decide +kernel
theorem dX8_turn_285 : decode cX8_turn 285 = .ok (.iconst 1, 1) := by decide +kernel
theorem dX8_turn_286 : decode cX8_turn 286 = .ok (.iadd, 1) := by decide +kernel
theorem dX8_turn_287 : decode cX8_turn 287 = .ok (.iaload, 1) := by decide +kernel
theorem dX8_turn_288 : decode cX8_turn 288 = .ok (.iastore, 1) := by decide +kernel
theorem dX8_turn_289 : decode cX8_turn 289 = .ok (.iinc 7 1, 3) := by decide +kernel
theorem dX8_turn_292 : decode cX8_turn 292 = .ok (.goto (-74), 3) := by decide +kernel
theorem dX8_turn_295 : decode cX8_turn 295 = .ok (.return_, 1) := by decide +kernel
theorem dX8_turn_296 : decode cX8_turn 296 = .ok (.aload_n 0, 1) := by decide +kernel
theorem dX8_turn_297 : decode cX8_turn 297 = .ok (.getfield 95, 3) := by decide +kernel
theorem dX8_turn_300 : decode cX8_turn 300 = .ok (.iload_n 1, 1) := by decide +kernel
theorem dX8_turn_301 : decode cX8_turn 301 = .ok (.dup2, 1) := by decide +kernel
theorem dX8_turn_302 : decode cX8_turn 302 = .ok (.iaload, 1) := by decide +kernel
theorem dX8_turn_303 : decode cX8_turn 303 = .ok (.iconst 1, 1) := by decide +kernel
theorem dX8_turn_304 : decode cX8_turn 304 = .ok (.iadd, 1) := by decide +kernel
theorem dX8_turn_305 : decode cX8_turn 305 = .ok (.iastore, 1) := by decide +kernel
theorem dX8_turn_306 : decode cX8_turn 306 = .ok (.aload_n 0, 1) := by decide +kernel
theorem dX8_turn_307 : decode cX8_turn 307 = .ok (.getfield 95, 3) := by decide +kernel
theorem dX8_turn_310 : decode cX8_turn 310 = .ok (.iload_n 1, 1) := by decide +kernel
theorem dX8_turn_311 : decode cX8_turn 311 = .ok (.iaload, 1) := by decide +kernel
theorem dX8_turn_312 : decode cX8_turn 312 = .ok (.iconst 3, 1) := by decide +kernel
theorem dX8_turn_313 : decode cX8_turn 313 = .ok (.if_icmp .ne 15, 3) := by decide +kernel
theorem dX8_turn_316 : decode cX8_turn 316 = .ok (.aload_n 0, 1) := by decide +kernel
theorem dX8_turn_317 : decode cX8_turn 317 = .ok (.getfield 95, 3) := by decide +kernel
theorem dX8_turn_320 : decode cX8_turn 320 = .ok (.iload_n 1, 1) := by decide +kernel
theorem dX8_turn_321 : decode cX8_turn 321 = .ok (.iconst 0, 1) := by decide +kernel
theorem dX8_turn_322 : decode cX8_turn 322 = .ok (.iastore, 1) := by decide +kernel
theorem dX8_turn_323 : decode cX8_turn 323 = .ok (.aload_n 0, 1) := by decide +kernel
theorem dX8_turn_324 : decode cX8_turn 324 = .ok (.iload_n 1, 1) := by decide +kernel
theorem dX8_turn_325 : decode cX8_turn 325 = .ok (.invokevirtual 263, 3) := by decide +kernel
theorem dX8_turn_328 : decode cX8_turn 328 = .ok (.return_, 1) := by decide +kernel
