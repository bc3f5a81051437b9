theorem dX0_holds_0 : decode cX0_holds 0 = .ok (.aload_n 0, 1) := by decide +kernel
theorem dX0_holds_1 : decode cX0_holds 1 = .ok (.getfield 7, 3) := by decide +kernel
theorem dX0_holds_4 : decode cX0_holds 4 = .ok (.iload_n 1, 1) := by decide +kernel
theorem dX0_holds_5 : decode cX0_holds 5 = .ok (.if_icmp .ne 39, 3) := by decide +kernel
theorem dX0_holds_8 : decode cX0_holds 8 = .ok (.aload_n 0, 1) := by decide +kernel
theorem dX0_holds_9 : decode cX0_holds 9 = .ok (.getfield 19, 3) := by decide +kernel
theorem dX0_holds_12 : decode cX0_holds 12 = .ok (.iload_n 2, 1) := by decide +kernel
theorem dX0_holds_13 : decode cX0_holds 13 = .ok (.if_icmp .gt 31, 3) := by decide +kernel
theorem dX0_holds_16 : decode cX0_holds 16 = .ok (.iload_n 2, 1) := by decide +kernel
theorem dX0_holds_17 : decode cX0_holds 17 = .ok (.aload_n 0, 1) := by decide +kernel
theorem dX0_holds_18 : decode cX0_holds 18 = .ok (.getfield 28, 3) := by decide +kernel
theorem dX0_holds_21 : decode cX0_holds 21 = .ok (.if_icmp .gt 23, 3) := by decide +kernel
theorem dX0_holds_24 : decode cX0_holds 24 = .ok (.aload_n 0, 1) := by decide +kernel
theorem dX0_holds_25 : decode cX0_holds 25 = .ok (.getfield 22, 3) := by decide +kernel
theorem dX0_holds_28 : decode cX0_holds 28 = .ok (.iload_n 3, 1) := by decide +kernel
theorem dX0_holds_29 : decode cX0_holds 29 = .ok (.if_icmp .gt 15, 3) := by decide +kernel
theorem dX0_holds_32 : decode cX0_holds 32 = .ok (.iload_n 3, 1) := by decide +kernel
theorem dX0_holds_33 : decode cX0_holds 33 = .ok (.aload_n 0, 1) := by decide +kernel
theorem dX0_holds_34 : decode cX0_holds 34 = .ok (.getfield 31, 3) := by decide +kernel
theorem dX0_holds_37 : decode cX0_holds 37 = .ok (.if_icmp .gt 7, 3) := by decide +kernel
theorem dX0_holds_40 : decode cX0_holds 40 = .ok (.iconst 1, 1) := by decide +kernel
theorem dX0_holds_41 : decode cX0_holds 41 = .ok (.goto 4, 3) := by decide +kernel
theorem dX0_holds_44 : decode cX0_holds 44 = .ok (.iconst 0, 1) := by decide +kernel
theorem dX0_holds_45 : decode cX0_holds 45 = .ok (.ireturn, 1) := by decide +kernel
theorem dX0_encloses_0 : decode cX0_encloses 0 = .ok (.aload_n 0, 1) := by decide +kernel
theorem dX0_encloses_1 : decode cX0_encloses 1 = .ok (.getfield 7, 3) := by decide +kernel
theorem dX0_encloses_4 : decode cX0_encloses 4 = .ok (.iload_n 1, 1) := by decide +kernel
theorem dX0_encloses_5 : decode cX0_encloses 5 = .ok (.if_icmp .ne 39, 3) := by decide +kernel
theorem dX0_encloses_8 : decode cX0_encloses 8 = .ok (.aload_n 0, 1) := by decide +kernel
theorem dX0_encloses_9 : decode cX0_encloses 9 = .ok (.getfield 19, 3) := by decide +kernel
theorem dX0_encloses_12 : decode cX0_encloses 12 = .ok (.iload_n 2, 1) := by decide +kernel
theorem dX0_encloses_13 : decode cX0_encloses 13 = .ok (.if_icmp .ge 31, 3) := by decide +kernel
theorem dX0_encloses_16 : decode cX0_encloses 16 = .ok (.iload_n 2, 1) := by decide +kernel
theorem dX0_encloses_17 : decode cX0_encloses 17 = .ok (.aload_n 0, 1) := by decide +kernel
theorem dX0_encloses_18 : decode cX0_encloses 18 = .ok (.getfield 28, 3) := by decide +kernel
theorem dX0_encloses_21 : decode cX0_encloses 21 = .ok (.if_icmp .ge 23, 3) := by decide +kernel
theorem dX0_encloses_24 : decode cX0_encloses 24 = .ok (.aload_n 0, 1) := by decide +kernel
theorem dX0_encloses_25 : decode cX0_encloses 25 = .ok (.getfield 22, 3) := by decide +kernel
theorem dX0_encloses_28 : decode cX0_encloses 28 = .ok (.iload_n 3, 1) := by decide +kernel
theorem dX0_encloses_29 : decode cX0_encloses 29 = .ok (.if_icmp .ge 15, 3) := by decide +kernel
theorem dX0_encloses_32 : decode cX0_encloses 32 = .ok (.iload_n 3, 1) := by decide +kernel
theorem dX0_encloses_33 : decode cX0_encloses 33 = .ok (.aload_n 0, 1) := by decide +kernel
theorem dX0_encloses_34 : decode cX0_encloses 34 = .ok (.getfield 31, 3) := by decide +kernel
theorem dX0_encloses_37 : decode cX0_encloses 37 = .ok (.if_icmp .ge 7, 3) := by decide +kernel
theorem dX0_encloses_40 : decode cX0_encloses 40 = .ok (.iconst 1, 1) := by decide +kernel
theorem dX0_encloses_41 : decode cX0_encloses 41 = .ok (.goto 4, 3) := by decide +kernel
theorem dX0_encloses_44 : decode cX0_encloses 44 = .ok (.iconst 0, 1) := by decide +kernel
theorem dX0_encloses_45 : decode cX0_encloses 45 = .ok (.ireturn, 1) := by decide +kernel
set_option maxRecDepth 20000 in
theorem ggX0_corner_X7_placeAt : GoodIn wsX0_corner wsX7_placeAt := goodIn_r _ [8] (by decide +kernel) (by decide +kernel)
set_option maxRecDepth 20000 in
theorem gX0_corner_X7_placeAt_n34 : GoodIn wsX0_corner (wsX7_placeAt) := ggX0_corner_X7_placeAt
theorem dX0_corner_0 : decode cX0_corner 0 = .ok (.aload_n 0, 1) := by decide +kernel
theorem dX0_corner_1 : decode cX0_corner 1 = .ok (.getfield 7, 3) := by decide +kernel
theorem dX0_corner_4 : decode cX0_corner 4 = .ok (.iload_n 1, 1) := by decide +kernel
theorem dX0_corner_5 : decode cX0_corner 5 = .ok (.iconst 1, 1) := by decide +kernel
theorem dX0_corner_6 : decode cX0_corner 6 = .ok (.if_icmp .eq 8, 3) := by decide +kernel
theorem dX0_corner_9 : decode cX0_corner 9 = .ok (.iload_n 1, 1) := by decide +kernel
theorem dX0_corner_10 : decode cX0_corner 10 = .ok (.iconst 2, 1) := by decide +kernel
theorem dX0_corner_11 : decode cX0_corner 11 = .ok (.if_icmp .ne 10, 3) := by decide +kernel
theorem dX0_corner_14 : decode cX0_corner 14 = .ok (.aload_n 0, 1) := by decide +kernel
theorem dX0_corner_15 : decode cX0_corner 15 = .ok (.getfield 28, 3) := by decide +kernel
theorem dX0_corner_18 : decode cX0_corner 18 = .ok (.goto 7, 3) := by decide +kernel
theorem dX0_corner_21 : decode cX0_corner 21 = .ok (.aload_n 0, 1) := by decide +kernel
theorem dX0_corner_22 : decode cX0_corner 22 = .ok (.getfield 19, 3) := by decide +kernel
theorem dX0_corner_25 : decode cX0_corner 25 = .ok (.iload_n 1, 1) := by decide +kernel
theorem dX0_corner_26 : decode cX0_corner 26 = .ok (.iconst 2, 1) := by decide +kernel
theorem dX0_corner_27 : decode cX0_corner 27 = .ok (.if_icmp .lt 10, 3) := by decide +kernel
theorem dX0_corner_30 : decode cX0_corner 30 = .ok (.aload_n 0, 1) := by decide +kernel
theorem dX0_corner_31 : decode cX0_corner 31 = .ok (.getfield 31, 3) := by decide +kernel
theorem dX0_corner_34 : decode cX0_corner 34 = .ok (.goto 7, 3) := by decide +kernel
theorem dX0_corner_37 : decode cX0_corner 37 = .ok (.aload_n 0, 1) := by decide +kernel
theorem dX0_corner_38 : decode cX0_corner 38 = .ok (.getfield 22, 3) := by decide +kernel
theorem dX0_corner_41 : decode cX0_corner 41 = .ok (.invokestatic 34, 3) := by decide +kernel
theorem dX0_corner_44 : decode cX0_corner 44 = .ok (.ireturn, 1) := by decide +kernel
theorem dX0_lay_0 : decode cX0_lay 0 = .ok (.aload_n 0, 1) := by decide +kernel
theorem dX0_lay_1 : decode cX0_lay 1 = .ok (.iload_n 1, 1) := by decide +kernel
theorem dX0_lay_2 : decode cX0_lay 2 = .ok (.putfield 7, 3) := by decide +kernel
theorem dX0_lay_5 : decode cX0_lay 5 = .ok (.aload_n 0, 1) := by decide +kernel
theorem dX0_lay_6 : decode cX0_lay 6 = .ok (.iload_n 2, 1) := by decide +kernel
theorem dX0_lay_7 : decode cX0_lay 7 = .ok (.iload 4, 2) := by decide +kernel
theorem dX0_lay_9 : decode cX0_lay 9 = .ok (.invokestatic 13, 3) := by decide +kernel
theorem dX0_lay_12 : decode cX0_lay 12 = .ok (.putfield 19, 3) := by decide +kernel
theorem dX0_lay_15 : decode cX0_lay 15 = .ok (.aload_n 0, 1) := by decide +kernel
theorem dX0_lay_16 : decode cX0_lay 16 = .ok (.iload_n 3, 1) := by decide +kernel
theorem dX0_lay_17 : decode cX0_lay 17 = .ok (.iload 5, 2) := by decide +kernel
theorem dX0_lay_19 : decode cX0_lay 19 = .ok (.invokestatic 13, 3) := by decide +kernel
theorem dX0_lay_22 : decode cX0_lay 22 = .ok (.putfield 22, 3) := by decide +kernel
theorem dX0_lay_25 : decode cX0_lay 25 = .ok (.aload_n 0, 1) := by decide +kernel
theorem dX0_lay_26 : decode cX0_lay 26 = .ok (.iload_n 2, 1) := by decide +kernel
theorem dX0_lay_27 : decode cX0_lay 27 = .ok (.iload 4, 2) := by decide +kernel
theorem dX0_lay_29 : decode cX0_lay 29 = .ok (.invokestatic 25, 3) := by decide +kernel
theorem dX0_lay_32 : decode cX0_lay 32 = .ok (.putfield 28, 3) := by decide +kernel
theorem dX0_lay_35 : decode cX0_lay 35 = .ok (.aload_n 0, 1) := by decide +kernel
theorem dX0_lay_36 : decode cX0_lay 36 = .ok (.iload_n 3, 1) := by decide +kernel
theorem dX0_lay_37 : decode cX0_lay 37 = .ok (.iload 5, 2) := by decide +kernel
theorem dX0_lay_39 : decode cX0_lay 39 = .ok (.invokestatic 25, 3) := by decide +kernel
theorem dX0_lay_42 : decode cX0_lay 42 = .ok (.putfield 31, 3) := by decide +kernel
theorem dX0_lay_45 : decode cX0_lay 45 = .ok (.return_, 1) := by decide +kernel
theorem dX1_countOn_0 : decode cX1_countOn 0 = .ok (.iconst 0, 1) := by decide +kernel
theorem dX1_countOn_1 : decode cX1_countOn 1 = .ok (.istore_n 1, 1) := by decide +kernel
theorem dX1_countOn_2 : decode cX1_countOn 2 = .ok (.iconst 0, 1) := by decide +kernel
theorem dX1_countOn_3 : decode cX1_countOn 3 = .ok (.istore_n 2, 1) := by decide +kernel
theorem dX1_countOn_4 : decode cX1_countOn 4 = .ok (.iload_n 2, 1) := by decide +kernel
theorem dX1_countOn_5 : decode cX1_countOn 5 = .ok (.aload_n 0, 1) := by decide +kernel
theorem dX1_countOn_6 : decode cX1_countOn 6 = .ok (.getfield 11, 3) := by decide +kernel
theorem dX1_countOn_9 : decode cX1_countOn 9 = .ok (.arraylength, 1) := by decide +kernel
theorem dX1_countOn_10 : decode cX1_countOn 10 = .ok (.if_icmp .ge 24, 3) := by decide +kernel
theorem dX1_countOn_13 : decode cX1_countOn 13 = .ok (.aload_n 0, 1) := by decide +kernel
theorem dX1_countOn_14 : decode cX1_countOn 14 = .ok (.getfield 11, 3) := by decide +kernel
theorem dX1_countOn_17 : decode cX1_countOn 17 = .ok (.iload_n 2, 1) := by decide +kernel
theorem dX1_countOn_18 : decode cX1_countOn 18 = .ok (.aaload, 1) := by decide +kernel
theorem dX1_countOn_19 : decode cX1_countOn 19 = .ok (.getfield 26, 3) := by decide +kernel
theorem dX1_countOn_22 : decode cX1_countOn 22 = .ok (.ifCond .eq 6, 3) := by decide +kernel
theorem dX1_countOn_25 : decode cX1_countOn 25 = .ok (.iinc 1 1, 3) := by decide +kernel
theorem dX1_countOn_28 : decode cX1_countOn 28 = .ok (.iinc 2 1, 3) := by decide +kernel
theorem dX1_countOn_31 : decode cX1_countOn 31 = .ok (.goto (-27), 3) := by decide +kernel
theorem dX1_countOn_34 : decode cX1_countOn 34 = .ok (.iload_n 1, 1) := by decide +kernel
theorem dX1_countOn_35 : decode cX1_countOn 35 = .ok (.ireturn, 1) := by decide +kernel
set_option maxRecDepth 20000 in
theorem ggX1_add_X0_lay : GoodIn wsX1_add wsX0_lay := goodIn_r _ [8, 9, 10, 11, 12, 13, 14, 15, 16, 17, 18, 19, 20, 23, 24, 25, 26, 27, 28] (by decide +kernel) (by decide +kernel)
set_option maxRecDepth 20000 in
theorem gX1_add_X0_lay : GoodIn wsX1_add (wsV RX1 22 RX0 yX0_lay wsX0_lay) := goodIn_app (goodIn_of _ (by decide +kernel)) ggX1_add_X0_lay
theorem dX1_add_0 : decode cX1_add 0 = .ok (.aload_n 0, 1) := by decide +kernel
theorem dX1_add_1 : decode cX1_add 1 = .ok (.getfield 18, 3) := by decide +kernel
theorem dX1_add_4 : decode cX1_add 4 = .ok (.aload_n 0, 1) := by decide +kernel
theorem dX1_add_5 : decode cX1_add 5 = .ok (.getfield 11, 3) := by decide +kernel
theorem dX1_add_8 : decode cX1_add 8 = .ok (.arraylength, 1) := by decide +kernel
theorem dX1_add_9 : decode cX1_add 9 = .ok (.if_icmp .lt 6, 3) := by decide +kernel
theorem dX1_add_12 : decode cX1_add 12 = .ok (.bipush (-4), 2) := by decide +kernel
theorem dX1_add_14 : decode cX1_add 14 = .ok (.ireturn, 1) := by decide +kernel
theorem dX1_add_15 : decode cX1_add 15 = .ok (.aload_n 0, 1) := by decide +kernel
theorem dX1_add_16 : decode cX1_add 16 = .ok (.getfield 11, 3) := by decide +kernel
theorem dX1_add_19 : decode cX1_add 19 = .ok (.aload_n 0, 1) := by decide +kernel
theorem dX1_add_20 : decode cX1_add 20 = .ok (.getfield 18, 3) := by decide +kernel
theorem dX1_add_23 : decode cX1_add 23 = .ok (.aaload, 1) := by decide +kernel
theorem dX1_add_24 : decode cX1_add 24 = .ok (.iload_n 1, 1) := by decide +kernel
theorem dX1_add_25 : decode cX1_add 25 = .ok (.iload_n 2, 1) := by decide +kernel
theorem dX1_add_26 : decode cX1_add 26 = .ok (.iload_n 3, 1) := by decide +kernel
theorem dX1_add_27 : decode cX1_add 27 = .ok (.iload 4, 2) := by decide +kernel
theorem dX1_add_29 : decode cX1_add 29 = .ok (.iload 5, 2) := by decide +kernel
theorem dX1_add_31 : decode cX1_add 31 = .ok (.invokevirtual 22, 3) := by decide +kernel
theorem dX1_add_34 : decode cX1_add 34 = .ok (.aload_n 0, 1) := by decide +kernel
theorem dX1_add_35 : decode cX1_add 35 = .ok (.getfield 11, 3) := by decide +kernel
theorem dX1_add_38 : decode cX1_add 38 = .ok (.aload_n 0, 1) := by decide +kernel
theorem dX1_add_39 : decode cX1_add 39 = .ok (.getfield 18, 3) := by decide +kernel
theorem dX1_add_42 : decode cX1_add 42 = .ok (.aaload, 1) := by decide +kernel
theorem dX1_add_43 : decode cX1_add 43 = .ok (.iload 6, 2) := by decide +kernel
theorem dX1_add_45 : decode cX1_add 45 = .ok (.putfield 26, 3) := by decide +kernel
theorem dX1_add_48 : decode cX1_add 48 = .ok (.aload_n 0, 1) := by decide +kernel
theorem dX1_add_49 : decode cX1_add 49 = .ok (.dup, 1) := by decide +kernel
theorem dX1_add_50 : decode cX1_add 50 = .ok (.getfield 18, 3) := by decide +kernel
theorem dX1_add_53 : decode cX1_add 53 = .ok (.iconst 1, 1) := by decide +kernel
theorem dX1_add_54 : decode cX1_add 54 = .ok (.iadd, 1) := by decide +kernel
theorem dX1_add_55 : decode cX1_add 55 = .ok (.putfield 18, 3) := by decide +kernel
theorem dX1_add_58 : decode cX1_add 58 = .ok (.aload_n 0, 1) := by decide +kernel
theorem dX1_add_59 : decode cX1_add 59 = .ok (.getfield 18, 3) := by decide +kernel
theorem dX1_add_62 : decode cX1_add 62 = .ok (.iconst 1, 1) := by decide +kernel
theorem dX1_add_63 : decode cX1_add 63 = .ok (.isub, 1) := by decide +kernel
theorem dX1_add_64 : decode cX1_add 64 = .ok (.ireturn, 1) := by decide +kernel
set_option maxRecDepth 20000 in
theorem ggX1_putDown_X0_lay : GoodIn wsX1_putDown wsX0_lay := goodIn_r _ [7, 8, 9, 10, 11, 12, 13, 14, 15, 16, 17, 18, 19, 22, 23, 24, 25, 26, 27] (by decide +kernel) (by decide +kernel)
set_option maxRecDepth 20000 in
theorem gX1_putDown_X0_lay : GoodIn wsX1_putDown (wsV RX1 22 RX0 yX0_lay wsX0_lay) := goodIn_app (goodIn_of _ (by decide +kernel)) ggX1_putDown_X0_lay
theorem dX1_putDown_0 : decode cX1_putDown 0 = .ok (.iconst 0, 1) := by decide +kernel
theorem dX1_putDown_1 : decode cX1_putDown 1 = .ok (.istore 6, 2) := by decide +kernel
theorem dX1_putDown_3 : decode cX1_putDown 3 = .ok (.iload 6, 2) := by decide +kernel
theorem dX1_putDown_5 : decode cX1_putDown 5 = .ok (.aload_n 0, 1) := by decide +kernel
theorem dX1_putDown_6 : decode cX1_putDown 6 = .ok (.getfield 11, 3) := by decide +kernel
theorem dX1_putDown_9 : decode cX1_putDown 9 = .ok (.arraylength, 1) := by decide +kernel
theorem dX1_putDown_10 : decode cX1_putDown 10 = .ok (.if_icmp .ge 53, 3) := by decide +kernel
theorem dX1_putDown_13 : decode cX1_putDown 13 = .ok (.aload_n 0, 1) := by decide +kernel
theorem dX1_putDown_14 : decode cX1_putDown 14 = .ok (.getfield 11, 3) := by decide +kernel
theorem dX1_putDown_17 : decode cX1_putDown 17 = .ok (.iload 6, 2) := by decide +kernel
theorem dX1_putDown_19 : decode cX1_putDown 19 = .ok (.aaload, 1) := by decide +kernel
theorem dX1_putDown_20 : decode cX1_putDown 20 = .ok (.getfield 26, 3) := by decide +kernel
theorem dX1_putDown_23 : decode cX1_putDown 23 = .ok (.ifCond .ne 34, 3) := by decide +kernel
theorem dX1_putDown_26 : decode cX1_putDown 26 = .ok (.aload_n 0, 1) := by decide +kernel
theorem dX1_putDown_27 : decode cX1_putDown 27 = .ok (.getfield 11, 3) := by decide +kernel
theorem dX1_putDown_30 : decode cX1_putDown 30 = .ok (.iload 6, 2) := by decide +kernel
theorem dX1_putDown_32 : decode cX1_putDown 32 = .ok (.aaload, 1) := by decide +kernel
theorem dX1_putDown_33 : decode cX1_putDown 33 = .ok (.iload_n 1, 1) := by decide +kernel
theorem dX1_putDown_34 : decode cX1_putDown 34 = .ok (.iload_n 2, 1) := by decide +kernel
theorem dX1_putDown_35 : decode cX1_putDown 35 = .ok (.iload_n 3, 1) := by decide +kernel
theorem dX1_putDown_36 : decode cX1_putDown 36 = .ok (.iload 4, 2) := by decide +kernel
theorem dX1_putDown_38 : decode cX1_putDown 38 = .ok (.iload 5, 2) := by decide +kernel
theorem dX1_putDown_40 : decode cX1_putDown 40 = .ok (.invokevirtual 22, 3) := by decide +kernel
theorem dX1_putDown_43 : decode cX1_putDown 43 = .ok (.aload_n 0, 1) := by decide +kernel
theorem dX1_putDown_44 : decode cX1_putDown 44 = .ok (.getfield 11, 3) := by decide +kernel
theorem dX1_putDown_47 : decode cX1_putDown 47 = .ok (.iload 6, 2) := by decide +kernel
theorem dX1_putDown_49 : decode cX1_putDown 49 = .ok (.aaload, 1) := by decide +kernel
theorem dX1_putDown_50 : decode cX1_putDown 50 = .ok (.iconst 1, 1) := by decide +kernel
theorem dX1_putDown_51 : decode cX1_putDown 51 = .ok (.putfield 26, 3) := by decide +kernel
theorem dX1_putDown_54 : decode cX1_putDown 54 = .ok (.iload 6, 2) := by decide +kernel
theorem dX1_putDown_56 : decode cX1_putDown 56 = .ok (.ireturn, 1) := by decide +kernel
theorem dX1_putDown_57 : decode cX1_putDown 57 = .ok (.iinc 6 1, 3) := by decide +kernel
theorem dX1_putDown_60 : decode cX1_putDown 60 = .ok (.goto (-57), 3) := by decide +kernel
theorem dX1_putDown_63 : decode cX1_putDown 63 = .ok (.bipush (-4), 2) := by decide +kernel
theorem dX1_putDown_65 : decode cX1_putDown 65 = .ok (.ireturn, 1) := by decide +kernel
