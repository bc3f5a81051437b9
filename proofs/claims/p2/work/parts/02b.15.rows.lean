theorem dX6_ahead_0 : decode cX6_ahead 0 = .ok (.aload_n 0, 1) := by decide +kernel
theorem dX6_ahead_1 : decode cX6_ahead 1 = .ok (.getfield 10, 3) := by decide +kernel
theorem dX6_ahead_4 : decode cX6_ahead 4 = .ok (.getfield 16, 3) := by decide +kernel
theorem dX6_ahead_7 : decode cX6_ahead 7 = .ok (.aload_n 0, 1) := by decide +kernel
theorem dX6_ahead_8 : decode cX6_ahead 8 = .ok (.getfield 20, 3) := by decide +kernel
theorem dX6_ahead_11 : decode cX6_ahead 11 = .ok (.isub, 1) := by decide +kernel
theorem dX6_ahead_12 : decode cX6_ahead 12 = .ok (.ireturn, 1) := by decide +kernel
theorem dX6_nextPlace_0 : decode cX6_nextPlace 0 = .ok (.aload_n 0, 1) := by decide +kernel
theorem dX6_nextPlace_1 : decode cX6_nextPlace 1 = .ok (.getfield 20, 3) := by decide +kernel
theorem dX6_nextPlace_4 : decode cX6_nextPlace 4 = .ok (.aload_n 0, 1) := by decide +kernel
theorem dX6_nextPlace_5 : decode cX6_nextPlace 5 = .ok (.getfield 10, 3) := by decide +kernel
theorem dX6_nextPlace_8 : decode cX6_nextPlace 8 = .ok (.getfield 16, 3) := by decide +kernel
theorem dX6_nextPlace_11 : decode cX6_nextPlace 11 = .ok (.if_icmp .ge 18, 3) := by decide +kernel
theorem dX6_nextPlace_14 : decode cX6_nextPlace 14 = .ok (.aload_n 0, 1) := by decide +kernel
theorem dX6_nextPlace_15 : decode cX6_nextPlace 15 = .ok (.getfield 10, 3) := by decide +kernel
theorem dX6_nextPlace_18 : decode cX6_nextPlace 18 = .ok (.getfield 23, 3) := by decide +kernel
theorem dX6_nextPlace_21 : decode cX6_nextPlace 21 = .ok (.aload_n 0, 1) := by decide +kernel
theorem dX6_nextPlace_22 : decode cX6_nextPlace 22 = .ok (.getfield 20, 3) := by decide +kernel
theorem dX6_nextPlace_25 : decode cX6_nextPlace 25 = .ok (.iaload, 1) := by decide +kernel
theorem dX6_nextPlace_26 : decode cX6_nextPlace 26 = .ok (.goto 7, 3) := by decide +kernel
theorem dX6_nextPlace_29 : decode cX6_nextPlace 29 = .ok (.aload_n 0, 1) := by decide +kernel
theorem dX6_nextPlace_30 : decode cX6_nextPlace 30 = .ok (.getfield 27, 3) := by decide +kernel
theorem dX6_nextPlace_33 : decode cX6_nextPlace 33 = .ok (.ireturn, 1) := by decide +kernel
theorem dX6_lastPlace_0 : decode cX6_lastPlace 0 = .ok (.aload_n 0, 1) := by decide +kernel
theorem dX6_lastPlace_1 : decode cX6_lastPlace 1 = .ok (.getfield 20, 3) := by decide +kernel
theorem dX6_lastPlace_4 : decode cX6_lastPlace 4 = .ok (.aload_n 0, 1) := by decide +kernel
theorem dX6_lastPlace_5 : decode cX6_lastPlace 5 = .ok (.getfield 10, 3) := by decide +kernel
theorem dX6_lastPlace_8 : decode cX6_lastPlace 8 = .ok (.getfield 16, 3) := by decide +kernel
theorem dX6_lastPlace_11 : decode cX6_lastPlace 11 = .ok (.if_icmp .ge 23, 3) := by decide +kernel
theorem dX6_lastPlace_14 : decode cX6_lastPlace 14 = .ok (.aload_n 0, 1) := by decide +kernel
theorem dX6_lastPlace_15 : decode cX6_lastPlace 15 = .ok (.getfield 10, 3) := by decide +kernel
theorem dX6_lastPlace_18 : decode cX6_lastPlace 18 = .ok (.getfield 23, 3) := by decide +kernel
theorem dX6_lastPlace_21 : decode cX6_lastPlace 21 = .ok (.aload_n 0, 1) := by decide +kernel
theorem dX6_lastPlace_22 : decode cX6_lastPlace 22 = .ok (.getfield 10, 3) := by decide +kernel
theorem dX6_lastPlace_25 : decode cX6_lastPlace 25 = .ok (.getfield 16, 3) := by decide +kernel
theorem dX6_lastPlace_28 : decode cX6_lastPlace 28 = .ok (.iconst 1, 1) := by decide +kernel
theorem dX6_lastPlace_29 : decode cX6_lastPlace 29 = .ok (.isub, 1) := by decide +kernel
theorem dX6_lastPlace_30 : decode cX6_lastPlace 30 = .ok (.iaload, 1) := by decide +kernel
theorem dX6_lastPlace_31 : decode cX6_lastPlace 31 = .ok (.goto 7, 3) := by decide +kernel
theorem dX6_lastPlace_34 : decode cX6_lastPlace 34 = .ok (.aload_n 0, 1) := by decide +kernel
theorem dX6_lastPlace_35 : decode cX6_lastPlace 35 = .ok (.getfield 27, 3) := by decide +kernel
theorem dX6_lastPlace_38 : decode cX6_lastPlace 38 = .ok (.ireturn, 1) := by decide +kernel
theorem dX6_beginRow_0 : decode cX6_beginRow 0 = .ok (.aload_n 0, 1) := by decide +kernel
theorem dX6_beginRow_1 : decode cX6_beginRow 1 = .ok (.iconst 1, 1) := by decide +kernel
theorem dX6_beginRow_2 : decode cX6_beginRow 2 = .ok (.putfield 20, 3) := by decide +kernel
theorem dX6_beginRow_5 : decode cX6_beginRow 5 = .ok (.return_, 1) := by decide +kernel
theorem dX6_dropRow_0 : decode cX6_dropRow 0 = .ok (.aload_n 0, 1) := by decide +kernel
theorem dX6_dropRow_1 : decode cX6_dropRow 1 = .ok (.getfield 10, 3) := by decide +kernel
theorem dX6_dropRow_4 : decode cX6_dropRow 4 = .ok (.iconst 0, 1) := by decide +kernel
theorem dX6_dropRow_5 : decode cX6_dropRow 5 = .ok (.putfield 16, 3) := by decide +kernel
theorem dX6_dropRow_8 : decode cX6_dropRow 8 = .ok (.aload_n 0, 1) := by decide +kernel
theorem dX6_dropRow_9 : decode cX6_dropRow 9 = .ok (.iconst 0, 1) := by decide +kernel
theorem dX6_dropRow_10 : decode cX6_dropRow 10 = .ok (.putfield 20, 3) := by decide +kernel
theorem dX6_dropRow_13 : decode cX6_dropRow 13 = .ok (.return_, 1) := by decide +kernel
set_option maxRecDepth 20000 in
theorem ggX6_stepOn_X6_nextPlace : GoodIn wsX6_stepOn wsX6_nextPlace := goodIn_r _ [10, 2, 11, 12, 13, 1, 14, 15, 16, 17, 18, 19, 20, 21, 22, 23] (by decide +kernel) (by decide +kernel)
set_option maxRecDepth 20000 in
theorem gX6_stepOn_X6_nextPlace : GoodIn wsX6_stepOn (wsV RX6 30 RX6 yX6_nextPlace wsX6_nextPlace) := goodIn_app (goodIn_of _ (by decide +kernel)) ggX6_stepOn_X6_nextPlace
theorem dX6_stepOn_0 : decode cX6_stepOn 0 = .ok (.aload_n 0, 1) := by decide +kernel
theorem dX6_stepOn_1 : decode cX6_stepOn 1 = .ok (.aload_n 0, 1) := by decide +kernel
theorem dX6_stepOn_2 : decode cX6_stepOn 2 = .ok (.invokevirtual 30, 3) := by decide +kernel
theorem dX6_stepOn_5 : decode cX6_stepOn 5 = .ok (.putfield 27, 3) := by decide +kernel
theorem dX6_stepOn_8 : decode cX6_stepOn 8 = .ok (.aload_n 0, 1) := by decide +kernel
theorem dX6_stepOn_9 : decode cX6_stepOn 9 = .ok (.dup, 1) := by decide +kernel
theorem dX6_stepOn_10 : decode cX6_stepOn 10 = .ok (.getfield 20, 3) := by decide +kernel
theorem dX6_stepOn_13 : decode cX6_stepOn 13 = .ok (.iconst 1, 1) := by decide +kernel
theorem dX6_stepOn_14 : decode cX6_stepOn 14 = .ok (.iadd, 1) := by decide +kernel
theorem dX6_stepOn_15 : decode cX6_stepOn 15 = .ok (.putfield 20, 3) := by decide +kernel
theorem dX6_stepOn_18 : decode cX6_stepOn 18 = .ok (.aload_n 0, 1) := by decide +kernel
theorem dX6_stepOn_19 : decode cX6_stepOn 19 = .ok (.iconst 0, 1) := by decide +kernel
theorem dX6_stepOn_20 : decode cX6_stepOn 20 = .ok (.putfield 34, 3) := by decide +kernel
theorem dX6_stepOn_23 : decode cX6_stepOn 23 = .ok (.aload_n 0, 1) := by decide +kernel
theorem dX6_stepOn_24 : decode cX6_stepOn 24 = .ok (.dup, 1) := by decide +kernel
theorem dX6_stepOn_25 : decode cX6_stepOn 25 = .ok (.getfield 37, 3) := by decide +kernel
theorem dX6_stepOn_28 : decode cX6_stepOn 28 = .ok (.iconst 1, 1) := by decide +kernel
theorem dX6_stepOn_29 : decode cX6_stepOn 29 = .ok (.iadd, 1) := by decide +kernel
theorem dX6_stepOn_30 : decode cX6_stepOn 30 = .ok (.putfield 37, 3) := by decide +kernel
theorem dX6_stepOn_33 : decode cX6_stepOn 33 = .ok (.aload_n 0, 1) := by decide +kernel
theorem dX6_stepOn_34 : decode cX6_stepOn 34 = .ok (.dup, 1) := by decide +kernel
theorem dX6_stepOn_35 : decode cX6_stepOn 35 = .ok (.getfield 40, 3) := by decide +kernel
theorem dX6_stepOn_38 : decode cX6_stepOn 38 = .ok (.iload_n 1, 1) := by decide +kernel
theorem dX6_stepOn_39 : decode cX6_stepOn 39 = .ok (.iadd, 1) := by decide +kernel
theorem dX6_stepOn_40 : decode cX6_stepOn 40 = .ok (.putfield 40, 3) := by decide +kernel
theorem dX6_stepOn_43 : decode cX6_stepOn 43 = .ok (.return_, 1) := by decide +kernel
theorem dX7_isTaken_0 : decode cX7_isTaken 0 = .ok (.iconst 0, 1) := by decide +kernel
theorem dX7_isTaken_1 : decode cX7_isTaken 1 = .ok (.istore_n 3, 1) := by decide +kernel
theorem dX7_isTaken_2 : decode cX7_isTaken 2 = .ok (.iload_n 3, 1) := by decide +kernel
theorem dX7_isTaken_3 : decode cX7_isTaken 3 = .ok (.aload_n 0, 1) := by decide +kernel
theorem dX7_isTaken_4 : decode cX7_isTaken 4 = .ok (.getfield 53, 3) := by decide +kernel
theorem dX7_isTaken_7 : decode cX7_isTaken 7 = .ok (.if_icmp .ge 29, 3) := by decide +kernel
theorem dX7_isTaken_10 : decode cX7_isTaken 10 = .ok (.iload_n 3, 1) := by decide +kernel
theorem dX7_isTaken_11 : decode cX7_isTaken 11 = .ok (.iload_n 2, 1) := by decide +kernel
theorem dX7_isTaken_12 : decode cX7_isTaken 12 = .ok (.if_icmp .eq 18, 3) := by decide +kernel
theorem dX7_isTaken_15 : decode cX7_isTaken 15 = .ok (.aload_n 0, 1) := by decide +kernel
theorem dX7_isTaken_16 : decode cX7_isTaken 16 = .ok (.getfield 34, 3) := by decide +kernel
theorem dX7_isTaken_19 : decode cX7_isTaken 19 = .ok (.iload_n 3, 1) := by decide +kernel
theorem dX7_isTaken_20 : decode cX7_isTaken 20 = .ok (.aaload, 1) := by decide +kernel
theorem dX7_isTaken_21 : decode cX7_isTaken 21 = .ok (.getfield 57, 3) := by decide +kernel
theorem dX7_isTaken_24 : decode cX7_isTaken 24 = .ok (.iload_n 1, 1) := by decide +kernel
theorem dX7_isTaken_25 : decode cX7_isTaken 25 = .ok (.if_icmp .ne 5, 3) := by decide +kernel
theorem dX7_isTaken_28 : decode cX7_isTaken 28 = .ok (.iconst 1, 1) := by decide +kernel
theorem dX7_isTaken_29 : decode cX7_isTaken 29 = .ok (.ireturn, 1) := by decide +kernel
theorem dX7_isTaken_30 : decode cX7_isTaken 30 = .ok (.iinc 3 1, 3) := by decide +kernel
theorem dX7_isTaken_33 : decode cX7_isTaken 33 = .ok (.goto (-31), 3) := by decide +kernel
theorem dX7_isTaken_36 : decode cX7_isTaken 36 = .ok (.iconst 0, 1) := by decide +kernel
theorem dX7_isTaken_37 : decode cX7_isTaken 37 = .ok (.ireturn, 1) := by decide +kernel
set_option maxRecDepth 20000 in
theorem ggX7_anyStandsOn_X7_levelOf : GoodIn wsX7_anyStandsOn wsX7_levelOf := goodIn_r _ [7] (by decide +kernel) (by decide +kernel)
set_option maxRecDepth 20000 in
theorem gX7_anyStandsOn_X7_levelOf : GoodIn wsX7_anyStandsOn (va_wsS RX7 67 yX7_levelOf wsX7_levelOf) := goodIn_app (goodIn_of _ (by decide +kernel)) ggX7_anyStandsOn_X7_levelOf
set_option maxRecDepth 20000 in
theorem ggX7_anyStandsOn_X7_xOf : GoodIn wsX7_anyStandsOn wsX7_xOf := goodIn_r _ [10] (by decide +kernel) (by decide +kernel)
set_option maxRecDepth 20000 in
theorem gX7_anyStandsOn_X7_xOf : GoodIn wsX7_anyStandsOn (va_wsS RX7 60 yX7_xOf wsX7_xOf) := goodIn_app (goodIn_of _ (by decide +kernel)) ggX7_anyStandsOn_X7_xOf
set_option maxRecDepth 20000 in
theorem ggX7_anyStandsOn_X7_yOf : GoodIn wsX7_anyStandsOn wsX7_yOf := goodIn_r _ [13] (by decide +kernel) (by decide +kernel)
set_option maxRecDepth 20000 in
theorem gX7_anyStandsOn_X7_yOf : GoodIn wsX7_anyStandsOn (va_wsS RX7 64 yX7_yOf wsX7_yOf) := goodIn_app (goodIn_of _ (by decide +kernel)) ggX7_anyStandsOn_X7_yOf
set_option maxRecDepth 20000 in
theorem ggX7_anyStandsOn_X0_holds : GoodIn wsX7_anyStandsOn wsX0_holds := goodIn_r _ [18, 19, 20, 21, 22, 23, 38, 39, 40, 41, 42, 43] (by decide +kernel) (by decide +kernel)
set_option maxRecDepth 20000 in
theorem gX7_anyStandsOn_X0_holds : GoodIn wsX7_anyStandsOn (wsV RX7 224 RX0 yX0_holds wsX0_holds) := goodIn_app (goodIn_of _ (by decide +kernel)) ggX7_anyStandsOn_X0_holds
theorem dX7_anyStandsOn_0 : decode cX7_anyStandsOn 0 = .ok (.iconst 0, 1) := by decide +kernel
theorem dX7_anyStandsOn_1 : decode cX7_anyStandsOn 1 = .ok (.istore_n 2, 1) := by decide +kernel
theorem dX7_anyStandsOn_2 : decode cX7_anyStandsOn 2 = .ok (.iload_n 2, 1) := by decide +kernel
theorem dX7_anyStandsOn_3 : decode cX7_anyStandsOn 3 = .ok (.aload_n 0, 1) := by decide +kernel
theorem dX7_anyStandsOn_4 : decode cX7_anyStandsOn 4 = .ok (.getfield 53, 3) := by decide +kernel
theorem dX7_anyStandsOn_7 : decode cX7_anyStandsOn 7 = .ok (.if_icmp .ge 40, 3) := by decide +kernel
theorem dX7_anyStandsOn_10 : decode cX7_anyStandsOn 10 = .ok (.aload_n 0, 1) := by decide +kernel
theorem dX7_anyStandsOn_11 : decode cX7_anyStandsOn 11 = .ok (.getfield 34, 3) := by decide +kernel
theorem dX7_anyStandsOn_14 : decode cX7_anyStandsOn 14 = .ok (.iload_n 2, 1) := by decide +kernel
theorem dX7_anyStandsOn_15 : decode cX7_anyStandsOn 15 = .ok (.aaload, 1) := by decide +kernel
theorem dX7_anyStandsOn_16 : decode cX7_anyStandsOn 16 = .ok (.getfield 57, 3) := by decide +kernel
theorem dX7_anyStandsOn_19 : decode cX7_anyStandsOn 19 = .ok (.istore_n 3, 1) := by decide +kernel
theorem dX7_anyStandsOn_20 : decode cX7_anyStandsOn 20 = .ok (.aload_n 1, 1) := by decide +kernel
theorem dX7_anyStandsOn_21 : decode cX7_anyStandsOn 21 = .ok (.iload_n 3, 1) := by decide +kernel
theorem dX7_anyStandsOn_22 : decode cX7_anyStandsOn 22 = .ok (.invokestatic 67, 3) := by decide +kernel
theorem dX7_anyStandsOn_25 : decode cX7_anyStandsOn 25 = .ok (.iload_n 3, 1) := by decide +kernel
theorem dX7_anyStandsOn_26 : decode cX7_anyStandsOn 26 = .ok (.invokestatic 60, 3) := by decide +kernel
theorem dX7_anyStandsOn_29 : decode cX7_anyStandsOn 29 = .ok (.iload_n 3, 1) := by decide +kernel
theorem dX7_anyStandsOn_30 : decode cX7_anyStandsOn 30 = .ok (.invokestatic 64, 3) := by decide +kernel
theorem dX7_anyStandsOn_33 : decode cX7_anyStandsOn 33 = .ok (.invokevirtual 224, 3) := by decide +kernel
theorem dX7_anyStandsOn_36 : decode cX7_anyStandsOn 36 = .ok (.ifCond .eq 5, 3) := by decide +kernel
theorem dX7_anyStandsOn_39 : decode cX7_anyStandsOn 39 = .ok (.iconst 1, 1) := by decide +kernel
theorem dX7_anyStandsOn_40 : decode cX7_anyStandsOn 40 = .ok (.ireturn, 1) := by decide +kernel
theorem dX7_anyStandsOn_41 : decode cX7_anyStandsOn 41 = .ok (.iinc 2 1, 3) := by decide +kernel
theorem dX7_anyStandsOn_44 : decode cX7_anyStandsOn 44 = .ok (.goto (-42), 3) := by decide +kernel
theorem dX7_anyStandsOn_47 : decode cX7_anyStandsOn 47 = .ok (.iconst 0, 1) := by decide +kernel
theorem dX7_anyStandsOn_48 : decode cX7_anyStandsOn 48 = .ok (.ireturn, 1) := by decide +kernel
set_option maxRecDepth 20000 in
theorem ggX7_avoidOthers_X2_avoidNothing : GoodIn wsX7_avoidOthers wsX2_avoidNothing := goodIn_r _ [9, 10, 40, 41, 42, 43, 44, 45, 46, 47, 48] (by decide +kernel) (by decide +kernel)
set_option maxRecDepth 20000 in
theorem gX7_avoidOthers_X2_avoidNothing : GoodIn wsX7_avoidOthers (wsV RX7 123 RX2 yX2_avoidNothing wsX2_avoidNothing) := goodIn_app (goodIn_of _ (by decide +kernel)) ggX7_avoidOthers_X2_avoidNothing
set_option maxRecDepth 20000 in
theorem ggX7_avoidOthers_X6_lastPlace : GoodIn wsX7_avoidOthers wsX6_lastPlace := goodIn_r _ [15, 16, 17, 18, 19, 20, 32, 33, 34, 35, 36, 37, 38, 39, 49, 50] (by decide +kernel) (by decide +kernel)
set_option maxRecDepth 20000 in
theorem gX7_avoidOthers_X6_lastPlace : GoodIn wsX7_avoidOthers (wsV RX7 218 RX6 yX6_lastPlace wsX6_lastPlace) := goodIn_app (goodIn_of _ (by decide +kernel)) ggX7_avoidOthers_X6_lastPlace
set_option maxRecDepth 20000 in
theorem ggX7_avoidOthers_X2_avoid : GoodIn wsX7_avoidOthers wsX2_avoid := goodIn_r _ [24, 10, 25, 40, 41, 42, 43, 44, 45, 46, 47, 48] (by decide +kernel) (by decide +kernel)
set_option maxRecDepth 20000 in
theorem gX7_avoidOthers_X2_avoid : GoodIn wsX7_avoidOthers (wsV RX7 221 RX2 yX2_avoid wsX2_avoid) := goodIn_app (goodIn_of _ (by decide +kernel)) ggX7_avoidOthers_X2_avoid
theorem dX7_avoidOthers_0 : decode cX7_avoidOthers 0 = .ok (.aload_n 0, 1) := by decide +kernel
theorem dX7_avoidOthers_1 : decode cX7_avoidOthers 1 = .ok (.getfield 21, 3) := by decide +kernel
theorem dX7_avoidOthers_4 : decode cX7_avoidOthers 4 = .ok (.invokevirtual 123, 3) := by decide +kernel
theorem dX7_avoidOthers_7 : decode cX7_avoidOthers 7 = .ok (.iconst 0, 1) := by decide +kernel
theorem dX7_avoidOthers_8 : decode cX7_avoidOthers 8 = .ok (.istore_n 2, 1) := by decide +kernel
theorem dX7_avoidOthers_9 : decode cX7_avoidOthers 9 = .ok (.iload_n 2, 1) := by decide +kernel
theorem dX7_avoidOthers_10 : decode cX7_avoidOthers 10 = .ok (.aload_n 0, 1) := by decide +kernel
theorem dX7_avoidOthers_11 : decode cX7_avoidOthers 11 = .ok (.getfield 53, 3) := by decide +kernel
theorem dX7_avoidOthers_14 : decode cX7_avoidOthers 14 = .ok (.if_icmp .ge 51, 3) := by decide +kernel
theorem dX7_avoidOthers_17 : decode cX7_avoidOthers 17 = .ok (.iload_n 2, 1) := by decide +kernel
theorem dX7_avoidOthers_18 : decode cX7_avoidOthers 18 = .ok (.iload_n 1, 1) := by decide +kernel
theorem dX7_avoidOthers_19 : decode cX7_avoidOthers 19 = .ok (.if_icmp .eq 40, 3) := by decide +kernel
theorem dX7_avoidOthers_22 : decode cX7_avoidOthers 22 = .ok (.aload_n 0, 1) := by decide +kernel
theorem dX7_avoidOthers_23 : decode cX7_avoidOthers 23 = .ok (.getfield 34, 3) := by decide +kernel
theorem dX7_avoidOthers_26 : decode cX7_avoidOthers 26 = .ok (.iload_n 2, 1) := by decide +kernel
theorem dX7_avoidOthers_27 : decode cX7_avoidOthers 27 = .ok (.aaload, 1) := by decide +kernel
theorem dX7_avoidOthers_28 : decode cX7_avoidOthers 28 = .ok (.getfield 57, 3) := by decide +kernel
theorem dX7_avoidOthers_31 : decode cX7_avoidOthers 31 = .ok (.aload_n 0, 1) := by decide +kernel
theorem dX7_avoidOthers_32 : decode cX7_avoidOthers 32 = .ok (.getfield 34, 3) := by decide +kernel
theorem dX7_avoidOthers_35 : decode cX7_avoidOthers 35 = .ok (.iload_n 1, 1) := by decide +kernel
theorem dX7_avoidOthers_36 : decode cX7_avoidOthers 36 = .ok (.aaload, 1) := by decide +kernel
theorem dX7_avoidOthers_37 : decode cX7_avoidOthers 37 = .ok (.invokevirtual 218, 3) := by decide +kernel
theorem dX7_avoidOthers_40 : decode cX7_avoidOthers 40 = .ok (.if_icmp .eq 19, 3) := by decide +kernel
theorem dX7_avoidOthers_43 : decode cX7_avoidOthers 43 = .ok (.aload_n 0, 1) := by decide +kernel
theorem dX7_avoidOthers_44 : decode cX7_avoidOthers 44 = .ok (.getfield 21, 3) := by decide +kernel
theorem dX7_avoidOthers_47 : decode cX7_avoidOthers 47 = .ok (.aload_n 0, 1) := by decide +kernel
theorem dX7_avoidOthers_48 : decode cX7_avoidOthers 48 = .ok (.getfield 34, 3) := by decide +kernel
theorem dX7_avoidOthers_51 : decode cX7_avoidOthers 51 = .ok (.iload_n 2, 1) := by decide +kernel
theorem dX7_avoidOthers_52 : decode cX7_avoidOthers 52 = .ok (.aaload, 1) := by decide +kernel
theorem dX7_avoidOthers_53 : decode cX7_avoidOthers 53 = .ok (.getfield 57, 3) := by decide +kernel
theorem dX7_avoidOthers_56 : decode cX7_avoidOthers 56 = .ok (.invokevirtual 221, 3) := by decide +kernel
theorem dX7_avoidOthers_59 : decode cX7_avoidOthers 59 = .ok (.iinc 2 1, 3) := by decide +kernel
theorem dX7_avoidOthers_62 : decode cX7_avoidOthers 62 = .ok (.goto (-53), 3) := by decide +kernel
theorem dX7_avoidOthers_65 : decode cX7_avoidOthers 65 = .ok (.return_, 1) := by decide +kernel
set_option maxRecDepth 20000 in
theorem ggX7_takeTurn_X6_ahead : GoodIn wsX7_takeTurn wsX6_ahead := goodIn_r _ [13, 14, 15, 16, 239, 240, 241, 242, 243, 244, 245, 246, 247, 248] (by decide +kernel) (by decide +kernel)
set_option maxRecDepth 20000 in
theorem gX7_takeTurn_X6_ahead : GoodIn wsX7_takeTurn (wsV RX7 168 RX6 yX6_ahead wsX6_ahead) := goodIn_app (goodIn_of _ (by decide +kernel)) ggX7_takeTurn_X6_ahead
set_option maxRecDepth 20000 in
theorem ggX7_takeTurn_X6_nextPlace : GoodIn wsX7_takeTurn wsX6_nextPlace := goodIn_r _ [20, 16, 14, 15, 21, 22, 239, 240, 241, 242, 243, 244, 245, 246, 247, 248] (by decide +kernel) (by decide +kernel)
set_option maxRecDepth 20000 in
theorem gX7_takeTurn_X6_nextPlace : GoodIn wsX7_takeTurn (wsV RX7 206 RX6 yX6_nextPlace wsX6_nextPlace) := goodIn_app (goodIn_of _ (by decide +kernel)) ggX7_takeTurn_X6_nextPlace
set_option maxRecDepth 20000 in
theorem ggX7_takeTurn_X3_judge : GoodIn wsX7_takeTurn wsX3_judge := goodIn_r _ [27, 28, 29, 30, 31, 32, 33, 34, 26, 35, 36, 37, 38, 39, 40, 41, 42, 43, 44, 45, 46, 47, 48, 49, 50, 51, 52, 53, 54, 55, 56, 57, 58, 59, 60, 61, 62, 63, 64, 65, 66, 67, 68, 69, 70, 71, 72, 73, 74, 75, 76, 77, 78, 79, 80, 81, 82, 83, 84, 85, 86, 87, 88, 89, 90, 91, 92, 93, 94, 95, 96, 97, 98, 99, 100, 101, 102, 103, 104, 105, 106, 107, 108, 109, 110, 111, 112, 113, 114, 115, 116, 117, 118, 119, 120, 121, 122, 123, 124, 125, 126, 127, 249, 250, 251, 252, 253, 254, 255, 256, 257, 258, 259, 260, 261, 262, 263, 264, 265, 266, 267, 268, 269, 270, 271, 272, 273, 274, 275] (by decide +kernel) (by decide +kernel)
set_option maxRecDepth 20000 in
theorem gX7_takeTurn_X3_judge : GoodIn wsX7_takeTurn (wsV RX7 119 RX3 yX3_judge wsX3_judge) := goodIn_app (goodIn_of _ (by decide +kernel)) ggX7_takeTurn_X3_judge
set_option maxRecDepth 20000 in
theorem ggX7_takeTurn_X7_isTaken : GoodIn wsX7_takeTurn wsX7_isTaken := goodIn_r _ [131, 132, 1, 3, 233, 234, 235, 236, 237, 238, 239, 240, 241, 242, 243, 244, 245, 246] (by decide +kernel) (by decide +kernel)
set_option maxRecDepth 20000 in
theorem gX7_takeTurn_X7_isTaken : GoodIn wsX7_takeTurn (wsV RX7 152 RX7 yX7_isTaken wsX7_isTaken) := goodIn_app (goodIn_of _ (by decide +kernel)) ggX7_takeTurn_X7_isTaken
set_option maxRecDepth 20000 in
theorem ggX7_takeTurn_X3_stepLength : GoodIn wsX7_takeTurn wsX3_stepLength := goodIn_r _ [136, 137, 29, 30, 31, 32, 33, 34, 26, 35, 36, 37, 38, 39, 49, 50, 51, 52, 138, 139, 249, 250, 251, 252, 253, 254, 255, 256, 257] (by decide +kernel) (by decide +kernel)
set_option maxRecDepth 20000 in
theorem gX7_takeTurn_X3_stepLength : GoodIn wsX7_takeTurn (wsV RX7 209 RX3 yX3_stepLength wsX3_stepLength) := goodIn_app (goodIn_of _ (by decide +kernel)) ggX7_takeTurn_X3_stepLength
set_option maxRecDepth 20000 in
theorem ggX7_takeTurn_X6_stepOn : GoodIn wsX7_takeTurn wsX6_stepOn := goodIn_r _ [143, 22, 16, 144, 145, 146, 147, 18, 19, 12, 20, 14, 15, 21, 239, 240, 241, 242, 243, 244, 245, 246, 247, 248] (by decide +kernel) (by decide +kernel)
set_option maxRecDepth 20000 in
theorem gX7_takeTurn_X6_stepOn : GoodIn wsX7_takeTurn (wsV RX7 212 RX6 yX6_stepOn wsX6_stepOn) := goodIn_app (goodIn_of _ (by decide +kernel)) ggX7_takeTurn_X6_stepOn
set_option maxRecDepth 20000 in
theorem ggX7_takeTurn_X7_avoidOthers : GoodIn wsX7_takeTurn wsX7_avoidOthers := goodIn_r _ [151, 6, 132, 1, 3, 152, 153, 154, 155, 156, 157, 158, 159, 160, 12, 161, 16, 14, 15, 21, 22, 162, 163, 164, 165, 166, 233, 234, 235, 236, 237, 238, 239, 240, 241, 242, 243, 244, 245, 246, 276, 277, 278, 279, 280, 281, 282, 283, 284, 247, 248] (by decide +kernel) (by decide +kernel)
set_option maxRecDepth 20000 in
theorem gX7_takeTurn_X7_avoidOthers : GoodIn wsX7_takeTurn (wsV RX7 215 RX7 yX7_avoidOthers wsX7_avoidOthers) := goodIn_app (goodIn_of _ (by decide +kernel)) ggX7_takeTurn_X7_avoidOthers
set_option maxRecDepth 20000 in
theorem ggX7_takeTurn_X6_lastPlace : GoodIn wsX7_takeTurn wsX6_lastPlace := goodIn_r _ [161, 16, 14, 15, 21, 22, 239, 240, 241, 242, 243, 244, 245, 246, 247, 248] (by decide +kernel) (by decide +kernel)
set_option maxRecDepth 20000 in
theorem gX7_takeTurn_X6_lastPlace : GoodIn wsX7_takeTurn (wsV RX7 218 RX6 yX6_lastPlace wsX6_lastPlace) := goodIn_app (goodIn_of _ (by decide +kernel)) ggX7_takeTurn_X6_lastPlace
set_option maxRecDepth 20000 in
theorem ggX7_takeTurn_X2_explore : GoodIn wsX7_takeTurn wsX2_explore := goodIn_r _ [170, 171, 172, 173, 174, 175, 176, 155, 177, 178, 179, 180, 181, 182, 183, 184, 185, 186, 187, 188, 189, 190, 191, 192, 193, 194, 195, 196, 56, 197, 58, 60, 59, 62, 61, 198, 30, 199, 200, 201, 202, 203, 157, 166, 204, 41, 42, 26, 43, 44, 45, 46, 47, 48, 29, 31, 49, 50, 51, 52, 53, 54, 55, 57, 63, 64, 65, 66, 205, 206, 207, 208, 209, 210, 211, 212, 213, 134, 135, 136, 137, 32, 33, 34, 35, 36, 37, 38, 39, 138, 139, 214, 24, 25, 27, 28, 40, 67, 68, 69, 70, 71, 72, 73, 74, 75, 76, 77, 78, 79, 80, 81, 82, 83, 84, 85, 86, 87, 88, 89, 90, 91, 92, 93, 94, 95, 96, 97, 98, 99, 100, 101, 102, 103, 104, 105, 106, 107, 108, 109, 110, 111, 112, 113, 114, 115, 116, 117, 118, 119, 120, 121, 122, 123, 124, 125, 126, 127, 276, 277, 278, 279, 280, 281, 282, 283, 284, 249, 250, 251, 252, 253, 254, 255, 256, 257, 258, 259, 260, 261, 262, 263, 264, 265, 266, 267, 268, 269, 270, 271, 272, 273, 274, 275] (by decide +kernel) (by decide +kernel)
set_option maxRecDepth 20000 in
theorem gX7_takeTurn_X2_explore : GoodIn wsX7_takeTurn (wsV RX7 126 RX2 yX2_explore wsX2_explore) := goodIn_app (goodIn_of _ (by decide +kernel)) ggX7_takeTurn_X2_explore
set_option maxRecDepth 20000 in
theorem ggX7_takeTurn_X2_foundLength : GoodIn wsX7_takeTurn wsX2_foundLength := goodIn_r _ [218, 171, 276, 277, 278, 279, 280, 281, 282, 283, 284] (by decide +kernel) (by decide +kernel)
set_option maxRecDepth 20000 in
theorem gX7_takeTurn_X2_foundLength : GoodIn wsX7_takeTurn (wsV RX7 130 RX2 yX2_foundLength wsX2_foundLength) := goodIn_app (goodIn_of _ (by decide +kernel)) ggX7_takeTurn_X2_foundLength
set_option maxRecDepth 20000 in
theorem ggX7_takeTurn_X6_dropRow : GoodIn wsX7_takeTurn wsX6_dropRow := goodIn_r _ [222, 14, 15, 16, 239, 240, 241, 242, 243, 244, 245, 246, 247, 248] (by decide +kernel) (by decide +kernel)
set_option maxRecDepth 20000 in
theorem gX7_takeTurn_X6_dropRow : GoodIn wsX7_takeTurn (wsV RX7 159 RX6 yX6_dropRow wsX6_dropRow) := goodIn_app (goodIn_of _ (by decide +kernel)) ggX7_takeTurn_X6_dropRow
set_option maxRecDepth 20000 in
theorem ggX7_takeTurn_X2_writeWay : GoodIn wsX7_takeTurn wsX2_writeWay := goodIn_r _ [226, 193, 227, 228, 192, 276, 277, 278, 279, 280, 281, 282, 283, 284, 247, 248] (by decide +kernel) (by decide +kernel)
set_option maxRecDepth 20000 in
theorem gX7_takeTurn_X2_writeWay : GoodIn wsX7_takeTurn (wsV RX7 134 RX2 yX2_writeWay wsX2_writeWay) := goodIn_app (goodIn_of _ (by decide +kernel)) ggX7_takeTurn_X2_writeWay
set_option maxRecDepth 20000 in
theorem ggX7_takeTurn_X6_beginRow : GoodIn wsX7_takeTurn wsX6_beginRow := goodIn_r _ [232, 16, 239, 240, 241, 242, 243, 244, 245, 246] (by decide +kernel) (by decide +kernel)
set_option maxRecDepth 20000 in
theorem gX7_takeTurn_X6_beginRow : GoodIn wsX7_takeTurn (wsV RX7 165 RX6 yX6_beginRow wsX6_beginRow) := goodIn_app (goodIn_of _ (by decide +kernel)) ggX7_takeTurn_X6_beginRow
theorem dX7_takeTurn_0 : decode cX7_takeTurn 0 = .ok (.aload_n 0, 1) := by decide +kernel
theorem dX7_takeTurn_1 : decode cX7_takeTurn 1 = .ok (.getfield 34, 3) := by decide +kernel
theorem dX7_takeTurn_4 : decode cX7_takeTurn 4 = .ok (.iload_n 1, 1) := by decide +kernel
theorem dX7_takeTurn_5 : decode cX7_takeTurn 5 = .ok (.aaload, 1) := by decide +kernel
theorem dX7_takeTurn_6 : decode cX7_takeTurn 6 = .ok (.astore_n 2, 1) := by decide +kernel
theorem dX7_takeTurn_7 : decode cX7_takeTurn 7 = .ok (.aload_n 2, 1) := by decide +kernel
theorem dX7_takeTurn_8 : decode cX7_takeTurn 8 = .ok (.invokevirtual 168, 3) := by decide +kernel
theorem dX7_takeTurn_11 : decode cX7_takeTurn 11 = .ok (.ifCond .ne 4, 3) := by decide +kernel
theorem dX7_takeTurn_14 : decode cX7_takeTurn 14 = .ok (.return_, 1) := by decide +kernel
theorem dX7_takeTurn_15 : decode cX7_takeTurn 15 = .ok (.aload_n 2, 1) := by decide +kernel
theorem dX7_takeTurn_16 : decode cX7_takeTurn 16 = .ok (.invokevirtual 206, 3) := by decide +kernel
theorem dX7_takeTurn_19 : decode cX7_takeTurn 19 = .ok (.istore_n 3, 1) := by decide +kernel
theorem dX7_takeTurn_20 : decode cX7_takeTurn 20 = .ok (.aload_n 0, 1) := by decide +kernel
theorem dX7_takeTurn_21 : decode cX7_takeTurn 21 = .ok (.getfield 12, 3) := by decide +kernel
theorem dX7_takeTurn_24 : decode cX7_takeTurn 24 = .ok (.aload_n 2, 1) := by decide +kernel
theorem dX7_takeTurn_25 : decode cX7_takeTurn 25 = .ok (.getfield 57, 3) := by decide +kernel
theorem dX7_takeTurn_28 : decode cX7_takeTurn 28 = .ok (.iload_n 3, 1) := by decide +kernel
theorem dX7_takeTurn_29 : decode cX7_takeTurn 29 = .ok (.invokevirtual 119, 3) := by decide +kernel
theorem dX7_takeTurn_32 : decode cX7_takeTurn 32 = .ok (.iconst 1, 1) := by decide +kernel
theorem dX7_takeTurn_33 : decode cX7_takeTurn 33 = .ok (.if_icmp .ne 29, 3) := by decide +kernel
theorem dX7_takeTurn_36 : decode cX7_takeTurn 36 = .ok (.aload_n 0, 1) := by decide +kernel
theorem dX7_takeTurn_37 : decode cX7_takeTurn 37 = .ok (.iload_n 3, 1) := by decide +kernel
theorem dX7_takeTurn_38 : decode cX7_takeTurn 38 = .ok (.iload_n 1, 1) := by decide +kernel
theorem dX7_takeTurn_39 : decode cX7_takeTurn 39 = .ok (.invokevirtual 152, 3) := by decide +kernel
theorem dX7_takeTurn_42 : decode cX7_takeTurn 42 = .ok (.ifCond .ne 20, 3) := by decide +kernel
theorem dX7_takeTurn_45 : decode cX7_takeTurn 45 = .ok (.aload_n 2, 1) := by decide +kernel
theorem dX7_takeTurn_46 : decode cX7_takeTurn 46 = .ok (.aload_n 0, 1) := by decide +kernel
theorem dX7_takeTurn_47 : decode cX7_takeTurn 47 = .ok (.getfield 12, 3) := by decide +kernel
theorem dX7_takeTurn_50 : decode cX7_takeTurn 50 = .ok (.aload_n 2, 1) := by decide +kernel
theorem dX7_takeTurn_51 : decode cX7_takeTurn 51 = .ok (.getfield 57, 3) := by decide +kernel
theorem dX7_takeTurn_54 : decode cX7_takeTurn 54 = .ok (.iload_n 3, 1) := by decide +kernel
theorem dX7_takeTurn_55 : decode cX7_takeTurn 55 = .ok (.invokevirtual 209, 3) := by decide +kernel
theorem dX7_takeTurn_58 : decode cX7_takeTurn 58 = .ok (.invokevirtual 212, 3) := by decide +kernel
theorem dX7_takeTurn_61 : decode cX7_takeTurn 61 = .ok (.return_, 1) := by decide +kernel
theorem dX7_takeTurn_62 : decode cX7_takeTurn 62 = .ok (.aload_n 2, 1) := by decide +kernel
theorem dX7_takeTurn_63 : decode cX7_takeTurn 63 = .ok (.dup, 1) := by decide +kernel
theorem dX7_takeTurn_64 : decode cX7_takeTurn 64 = .ok (.getfield 178, 3) := by decide +kernel
theorem dX7_takeTurn_67 : decode cX7_takeTurn 67 = .ok (.iconst 1, 1) := by decide +kernel
theorem dX7_takeTurn_68 : decode cX7_takeTurn 68 = .ok (.iadd, 1) := by decide +kernel
theorem dX7_takeTurn_69 : decode cX7_takeTurn 69 = .ok (.putfield 178, 3) := by decide +kernel
theorem dX7_takeTurn_72 : decode cX7_takeTurn 72 = .ok (.aload_n 2, 1) := by decide +kernel
theorem dX7_takeTurn_73 : decode cX7_takeTurn 73 = .ok (.getfield 178, 3) := by decide +kernel
theorem dX7_takeTurn_76 : decode cX7_takeTurn 76 = .ok (.iconst 3, 1) := by decide +kernel
theorem dX7_takeTurn_77 : decode cX7_takeTurn 77 = .ok (.if_icmp .ge 4, 3) := by decide +kernel
theorem dX7_takeTurn_80 : decode cX7_takeTurn 80 = .ok (.return_, 1) := by decide +kernel
theorem dX7_takeTurn_81 : decode cX7_takeTurn 81 = .ok (.aload_n 2, 1) := by decide +kernel
theorem dX7_takeTurn_82 : decode cX7_takeTurn 82 = .ok (.iconst 0, 1) := by decide +kernel
theorem dX7_takeTurn_83 : decode cX7_takeTurn 83 = .ok (.putfield 178, 3) := by decide +kernel
theorem dX7_takeTurn_86 : decode cX7_takeTurn 86 = .ok (.aload_n 2, 1) := by decide +kernel
theorem dX7_takeTurn_87 : decode cX7_takeTurn 87 = .ok (.dup, 1) := by decide +kernel
theorem dX7_takeTurn_88 : decode cX7_takeTurn 88 = .ok (.getfield 187, 3) := by decide +kernel
theorem dX7_takeTurn_91 : decode cX7_takeTurn 91 = .ok (.iconst 1, 1) := by decide +kernel
theorem dX7_takeTurn_92 : decode cX7_takeTurn 92 = .ok (.iadd, 1) := by decide +kernel
theorem dX7_takeTurn_93 : decode cX7_takeTurn 93 = .ok (.putfield 187, 3) := by decide +kernel
theorem dX7_takeTurn_96 : decode cX7_takeTurn 96 = .ok (.aload_n 0, 1) := by decide +kernel
theorem dX7_takeTurn_97 : decode cX7_takeTurn 97 = .ok (.iload_n 1, 1) := by decide +kernel
theorem dX7_takeTurn_98 : decode cX7_takeTurn 98 = .ok (.invokevirtual 215, 3) := by decide +kernel
theorem dX7_takeTurn_101 : decode cX7_takeTurn 101 = .ok (.aload_n 0, 1) := by decide +kernel
theorem dX7_takeTurn_102 : decode cX7_takeTurn 102 = .ok (.getfield 21, 3) := by decide +kernel
theorem dX7_takeTurn_105 : decode cX7_takeTurn 105 = .ok (.aload_n 2, 1) := by decide +kernel
theorem dX7_takeTurn_106 : decode cX7_takeTurn 106 = .ok (.getfield 57, 3) := by decide +kernel
theorem dX7_takeTurn_109 : decode cX7_takeTurn 109 = .ok (.aload_n 2, 1) := by decide +kernel
theorem dX7_takeTurn_110 : decode cX7_takeTurn 110 = .ok (.invokevirtual 218, 3) := by decide +kernel
theorem dX7_takeTurn_113 : decode cX7_takeTurn 113 = .ok (.iconst 0, 1) := by decide +kernel
theorem dX7_takeTurn_114 : decode cX7_takeTurn 114 = .ok (.invokevirtual 126, 3) := by decide +kernel
theorem dX7_takeTurn_117 : decode cX7_takeTurn 117 = .ok (.aload_n 0, 1) := by decide +kernel
theorem dX7_takeTurn_118 : decode cX7_takeTurn 118 = .ok (.getfield 21, 3) := by decide +kernel
theorem dX7_takeTurn_121 : decode cX7_takeTurn 121 = .ok (.invokevirtual 130, 3) := by decide +kernel
theorem dX7_takeTurn_124 : decode cX7_takeTurn 124 = .ok (.iconst (-1), 1) := by decide +kernel
theorem dX7_takeTurn_125 : decode cX7_takeTurn 125 = .ok (.if_icmp .ne 15, 3) := by decide +kernel
theorem dX7_takeTurn_128 : decode cX7_takeTurn 128 = .ok (.aload_n 2, 1) := by decide +kernel
theorem dX7_takeTurn_129 : decode cX7_takeTurn 129 = .ok (.invokevirtual 159, 3) := by decide +kernel
theorem dX7_takeTurn_132 : decode cX7_takeTurn 132 = .ok (.aload_n 2, 1) := by decide +kernel
theorem dX7_takeTurn_133 : decode cX7_takeTurn 133 = .ok (.iconst 1, 1) := by decide +kernel
theorem dX7_takeTurn_134 : decode cX7_takeTurn 134 = .ok (.putfield 156, 3) := by decide +kernel
theorem dX7_takeTurn_137 : decode cX7_takeTurn 137 = .ok (.goto 18, 3) := by decide +kernel
theorem dX7_takeTurn_140 : decode cX7_takeTurn 140 = .ok (.aload_n 0, 1) := by decide +kernel
theorem dX7_takeTurn_141 : decode cX7_takeTurn 141 = .ok (.getfield 21, 3) := by decide +kernel
theorem dX7_takeTurn_144 : decode cX7_takeTurn 144 = .ok (.aload_n 2, 1) := by decide +kernel
theorem dX7_takeTurn_145 : decode cX7_takeTurn 145 = .ok (.getfield 162, 3) := by decide +kernel
theorem dX7_takeTurn_148 : decode cX7_takeTurn 148 = .ok (.invokevirtual 134, 3) := by decide +kernel
theorem dX7_takeTurn_151 : decode cX7_takeTurn 151 = .ok (.aload_n 2, 1) := by decide +kernel
theorem dX7_takeTurn_152 : decode cX7_takeTurn 152 = .ok (.invokevirtual 165, 3) := by decide +kernel
theorem dX7_takeTurn_155 : decode cX7_takeTurn 155 = .ok (.return_, 1) := by decide +kernel
