theorem dX7_isPlace_0 : decode cX7_isPlace 0 = .ok (.iload_n 0, 1) := by decide +kernel
theorem dX7_isPlace_1 : decode cX7_isPlace 1 = .ok (.ifCond .lt 32, 3) := by decide +kernel
theorem dX7_isPlace_4 : decode cX7_isPlace 4 = .ok (.iload_n 0, 1) := by decide +kernel
theorem dX7_isPlace_5 : decode cX7_isPlace 5 = .ok (.iconst 3, 1) := by decide +kernel
theorem dX7_isPlace_6 : decode cX7_isPlace 6 = .ok (.if_icmp .ge 27, 3) := by decide +kernel
theorem dX7_isPlace_9 : decode cX7_isPlace 9 = .ok (.iload_n 1, 1) := by decide +kernel
theorem dX7_isPlace_10 : decode cX7_isPlace 10 = .ok (.ifCond .lt 23, 3) := by decide +kernel
theorem dX7_isPlace_13 : decode cX7_isPlace 13 = .ok (.iload_n 1, 1) := by decide +kernel
theorem dX7_isPlace_14 : decode cX7_isPlace 14 = .ok (.bipush 100, 2) := by decide +kernel
theorem dX7_isPlace_16 : decode cX7_isPlace 16 = .ok (.if_icmp .gt 17, 3) := by decide +kernel
theorem dX7_isPlace_19 : decode cX7_isPlace 19 = .ok (.iload_n 2, 1) := by decide +kernel
theorem dX7_isPlace_20 : decode cX7_isPlace 20 = .ok (.ifCond .lt 13, 3) := by decide +kernel
theorem dX7_isPlace_23 : decode cX7_isPlace 23 = .ok (.iload_n 2, 1) := by decide +kernel
theorem dX7_isPlace_24 : decode cX7_isPlace 24 = .ok (.bipush 100, 2) := by decide +kernel
theorem dX7_isPlace_26 : decode cX7_isPlace 26 = .ok (.if_icmp .gt 7, 3) := by decide +kernel
theorem dX7_isPlace_29 : decode cX7_isPlace 29 = .ok (.iconst 1, 1) := by decide +kernel
theorem dX7_isPlace_30 : decode cX7_isPlace 30 = .ok (.goto 4, 3) := by decide +kernel
theorem dX7_isPlace_33 : decode cX7_isPlace 33 = .ok (.iconst 0, 1) := by decide +kernel
theorem dX7_isPlace_34 : decode cX7_isPlace 34 = .ok (.ireturn, 1) := by decide +kernel
set_option maxRecDepth 20000 in
theorem ggX7_isRectangle_X7_isPlace : GoodIn wsX7_isRectangle wsX7_isPlace := goodIn_r _ [4] (by decide +kernel) (by decide +kernel)
set_option maxRecDepth 20000 in
theorem gX7_isRectangle_X7_isPlace : GoodIn wsX7_isRectangle (va_wsS RX7 103 yX7_isPlace wsX7_isPlace) := goodIn_app (goodIn_of _ (by decide +kernel)) ggX7_isRectangle_X7_isPlace
theorem dX7_isRectangle_0 : decode cX7_isRectangle 0 = .ok (.iload_n 0, 1) := by decide +kernel
theorem dX7_isRectangle_1 : decode cX7_isRectangle 1 = .ok (.iload_n 1, 1) := by decide +kernel
theorem dX7_isRectangle_2 : decode cX7_isRectangle 2 = .ok (.iload_n 2, 1) := by decide +kernel
theorem dX7_isRectangle_3 : decode cX7_isRectangle 3 = .ok (.invokestatic 103, 3) := by decide +kernel
theorem dX7_isRectangle_6 : decode cX7_isRectangle 6 = .ok (.ifCond .eq 28, 3) := by decide +kernel
theorem dX7_isRectangle_9 : decode cX7_isRectangle 9 = .ok (.iload_n 0, 1) := by decide +kernel
theorem dX7_isRectangle_10 : decode cX7_isRectangle 10 = .ok (.iload_n 3, 1) := by decide +kernel
theorem dX7_isRectangle_11 : decode cX7_isRectangle 11 = .ok (.iload 4, 2) := by decide +kernel
theorem dX7_isRectangle_13 : decode cX7_isRectangle 13 = .ok (.invokestatic 103, 3) := by decide +kernel
theorem dX7_isRectangle_16 : decode cX7_isRectangle 16 = .ok (.ifCond .eq 18, 3) := by decide +kernel
theorem dX7_isRectangle_19 : decode cX7_isRectangle 19 = .ok (.iload_n 1, 1) := by decide +kernel
theorem dX7_isRectangle_20 : decode cX7_isRectangle 20 = .ok (.iload_n 3, 1) := by decide +kernel
theorem dX7_isRectangle_21 : decode cX7_isRectangle 21 = .ok (.if_icmp .ge 13, 3) := by decide +kernel
theorem dX7_isRectangle_24 : decode cX7_isRectangle 24 = .ok (.iload_n 2, 1) := by decide +kernel
theorem dX7_isRectangle_25 : decode cX7_isRectangle 25 = .ok (.iload 4, 2) := by decide +kernel
theorem dX7_isRectangle_27 : decode cX7_isRectangle 27 = .ok (.if_icmp .ge 7, 3) := by decide +kernel
theorem dX7_isRectangle_30 : decode cX7_isRectangle 30 = .ok (.iconst 1, 1) := by decide +kernel
theorem dX7_isRectangle_31 : decode cX7_isRectangle 31 = .ok (.goto 4, 3) := by decide +kernel
theorem dX7_isRectangle_34 : decode cX7_isRectangle 34 = .ok (.iconst 0, 1) := by decide +kernel
theorem dX7_isRectangle_35 : decode cX7_isRectangle 35 = .ok (.ireturn, 1) := by decide +kernel
set_option maxRecDepth 20000 in
theorem ggX7_isStraight_X7_isPlace : GoodIn wsX7_isStraight wsX7_isPlace := goodIn_r _ [4] (by decide +kernel) (by decide +kernel)
set_option maxRecDepth 20000 in
theorem gX7_isStraight_X7_isPlace : GoodIn wsX7_isStraight (va_wsS RX7 103 yX7_isPlace wsX7_isPlace) := goodIn_app (goodIn_of _ (by decide +kernel)) ggX7_isStraight_X7_isPlace
theorem dX7_isStraight_0 : decode cX7_isStraight 0 = .ok (.iload_n 0, 1) := by decide +kernel
theorem dX7_isStraight_1 : decode cX7_isStraight 1 = .ok (.iload_n 1, 1) := by decide +kernel
theorem dX7_isStraight_2 : decode cX7_isStraight 2 = .ok (.iload_n 2, 1) := by decide +kernel
theorem dX7_isStraight_3 : decode cX7_isStraight 3 = .ok (.invokestatic 103, 3) := by decide +kernel
theorem dX7_isStraight_6 : decode cX7_isStraight 6 = .ok (.ifCond .eq 41, 3) := by decide +kernel
theorem dX7_isStraight_9 : decode cX7_isStraight 9 = .ok (.iload_n 0, 1) := by decide +kernel
theorem dX7_isStraight_10 : decode cX7_isStraight 10 = .ok (.iload_n 3, 1) := by decide +kernel
theorem dX7_isStraight_11 : decode cX7_isStraight 11 = .ok (.iload 4, 2) := by decide +kernel
theorem dX7_isStraight_13 : decode cX7_isStraight 13 = .ok (.invokestatic 103, 3) := by decide +kernel
theorem dX7_isStraight_16 : decode cX7_isStraight 16 = .ok (.ifCond .eq 31, 3) := by decide +kernel
theorem dX7_isStraight_19 : decode cX7_isStraight 19 = .ok (.iload_n 1, 1) := by decide +kernel
theorem dX7_isStraight_20 : decode cX7_isStraight 20 = .ok (.iload_n 3, 1) := by decide +kernel
theorem dX7_isStraight_21 : decode cX7_isStraight 21 = .ok (.if_icmp .ne 7, 3) := by decide +kernel
theorem dX7_isStraight_24 : decode cX7_isStraight 24 = .ok (.iconst 1, 1) := by decide +kernel
theorem dX7_isStraight_25 : decode cX7_isStraight 25 = .ok (.goto 4, 3) := by decide +kernel
theorem dX7_isStraight_28 : decode cX7_isStraight 28 = .ok (.iconst 0, 1) := by decide +kernel
theorem dX7_isStraight_29 : decode cX7_isStraight 29 = .ok (.iload_n 2, 1) := by decide +kernel
theorem dX7_isStraight_30 : decode cX7_isStraight 30 = .ok (.iload 4, 2) := by decide +kernel
theorem dX7_isStraight_32 : decode cX7_isStraight 32 = .ok (.if_icmp .ne 7, 3) := by decide +kernel
theorem dX7_isStraight_35 : decode cX7_isStraight 35 = .ok (.iconst 1, 1) := by decide +kernel
theorem dX7_isStraight_36 : decode cX7_isStraight 36 = .ok (.goto 4, 3) := by decide +kernel
theorem dX7_isStraight_39 : decode cX7_isStraight 39 = .ok (.iconst 0, 1) := by decide +kernel
theorem dX7_isStraight_40 : decode cX7_isStraight 40 = .ok (.if_icmp .eq 7, 3) := by decide +kernel
theorem dX7_isStraight_43 : decode cX7_isStraight 43 = .ok (.iconst 1, 1) := by decide +kernel
theorem dX7_isStraight_44 : decode cX7_isStraight 44 = .ok (.goto 4, 3) := by decide +kernel
theorem dX7_isStraight_47 : decode cX7_isStraight 47 = .ok (.iconst 0, 1) := by decide +kernel
theorem dX7_isStraight_48 : decode cX7_isStraight 48 = .ok (.ireturn, 1) := by decide +kernel
theorem dX7_placeAt_0 : decode cX7_placeAt 0 = .ok (.iload_n 0, 1) := by decide +kernel
theorem dX7_placeAt_1 : decode cX7_placeAt 1 = .ok (.bipush 14, 2) := by decide +kernel
theorem dX7_placeAt_3 : decode cX7_placeAt 3 = .ok (.ishl, 1) := by decide +kernel
theorem dX7_placeAt_4 : decode cX7_placeAt 4 = .ok (.iload_n 2, 1) := by decide +kernel
theorem dX7_placeAt_5 : decode cX7_placeAt 5 = .ok (.bipush 7, 2) := by decide +kernel
theorem dX7_placeAt_7 : decode cX7_placeAt 7 = .ok (.ishl, 1) := by decide +kernel
theorem dX7_placeAt_8 : decode cX7_placeAt 8 = .ok (.ior, 1) := by decide +kernel
theorem dX7_placeAt_9 : decode cX7_placeAt 9 = .ok (.iload_n 1, 1) := by decide +kernel
theorem dX7_placeAt_10 : decode cX7_placeAt 10 = .ok (.ior, 1) := by decide +kernel
theorem dX7_placeAt_11 : decode cX7_placeAt 11 = .ok (.ireturn, 1) := by decide +kernel
theorem dX7_levelOf_0 : decode cX7_levelOf 0 = .ok (.iload_n 0, 1) := by decide +kernel
theorem dX7_levelOf_1 : decode cX7_levelOf 1 = .ok (.bipush 14, 2) := by decide +kernel
theorem dX7_levelOf_3 : decode cX7_levelOf 3 = .ok (.ishr, 1) := by decide +kernel
theorem dX7_levelOf_4 : decode cX7_levelOf 4 = .ok (.ireturn, 1) := by decide +kernel
theorem dX7_xOf_0 : decode cX7_xOf 0 = .ok (.iload_n 0, 1) := by decide +kernel
theorem dX7_xOf_1 : decode cX7_xOf 1 = .ok (.bipush 127, 2) := by decide +kernel
theorem dX7_xOf_3 : decode cX7_xOf 3 = .ok (.iand, 1) := by decide +kernel
theorem dX7_xOf_4 : decode cX7_xOf 4 = .ok (.ireturn, 1) := by decide +kernel
theorem dX7_yOf_0 : decode cX7_yOf 0 = .ok (.iload_n 0, 1) := by decide +kernel
theorem dX7_yOf_1 : decode cX7_yOf 1 = .ok (.bipush 7, 2) := by decide +kernel
theorem dX7_yOf_3 : decode cX7_yOf 3 = .ok (.ishr, 1) := by decide +kernel
theorem dX7_yOf_4 : decode cX7_yOf 4 = .ok (.bipush 127, 2) := by decide +kernel
theorem dX7_yOf_6 : decode cX7_yOf 6 = .ok (.iand, 1) := by decide +kernel
theorem dX7_yOf_7 : decode cX7_yOf 7 = .ok (.ireturn, 1) := by decide +kernel
set_option maxRecDepth 20000 in
theorem ggX7_coordinate_X7_xOf : GoodIn wsX7_coordinate wsX7_xOf := goodIn_r _ [4] (by decide +kernel) (by decide +kernel)
set_option maxRecDepth 20000 in
theorem gX7_coordinate_X7_xOf : GoodIn wsX7_coordinate (va_wsS RX7 60 yX7_xOf wsX7_xOf) := goodIn_app (goodIn_of _ (by decide +kernel)) ggX7_coordinate_X7_xOf
set_option maxRecDepth 20000 in
theorem ggX7_coordinate_X7_yOf : GoodIn wsX7_coordinate wsX7_yOf := goodIn_r _ [7] (by decide +kernel) (by decide +kernel)
set_option maxRecDepth 20000 in
theorem gX7_coordinate_X7_yOf : GoodIn wsX7_coordinate (va_wsS RX7 64 yX7_yOf wsX7_yOf) := goodIn_app (goodIn_of _ (by decide +kernel)) ggX7_coordinate_X7_yOf
set_option maxRecDepth 20000 in
theorem ggX7_coordinate_X7_levelOf : GoodIn wsX7_coordinate wsX7_levelOf := goodIn_r _ [10] (by decide +kernel) (by decide +kernel)
set_option maxRecDepth 20000 in
theorem gX7_coordinate_X7_levelOf : GoodIn wsX7_coordinate (va_wsS RX7 67 yX7_levelOf wsX7_levelOf) := goodIn_app (goodIn_of _ (by decide +kernel)) ggX7_coordinate_X7_levelOf
theorem dX7_coordinate_0 : decode cX7_coordinate 0 = .ok (.iload_n 1, 1) := by decide +kernel
theorem dX7_coordinate_1 : decode cX7_coordinate 1 = .ok (.ifCond .ne 8, 3) := by decide +kernel
theorem dX7_coordinate_4 : decode cX7_coordinate 4 = .ok (.iload_n 0, 1) := by decide +kernel
theorem dX7_coordinate_5 : decode cX7_coordinate 5 = .ok (.invokestatic 60, 3) := by decide +kernel
theorem dX7_coordinate_8 : decode cX7_coordinate 8 = .ok (.ireturn, 1) := by decide +kernel
theorem dX7_coordinate_9 : decode cX7_coordinate 9 = .ok (.iload_n 1, 1) := by decide +kernel
theorem dX7_coordinate_10 : decode cX7_coordinate 10 = .ok (.iconst 1, 1) := by decide +kernel
theorem dX7_coordinate_11 : decode cX7_coordinate 11 = .ok (.if_icmp .ne 10, 3) := by decide +kernel
theorem dX7_coordinate_14 : decode cX7_coordinate 14 = .ok (.iload_n 0, 1) := by decide +kernel
theorem dX7_coordinate_15 : decode cX7_coordinate 15 = .ok (.invokestatic 64, 3) := by decide +kernel
theorem dX7_coordinate_18 : decode cX7_coordinate 18 = .ok (.goto 7, 3) := by decide +kernel
theorem dX7_coordinate_21 : decode cX7_coordinate 21 = .ok (.iload_n 0, 1) := by decide +kernel
theorem dX7_coordinate_22 : decode cX7_coordinate 22 = .ok (.invokestatic 67, 3) := by decide +kernel
theorem dX7_coordinate_25 : decode cX7_coordinate 25 = .ok (.ireturn, 1) := by decide +kernel
theorem dX7_rootOf_0 : decode cX7_rootOf 0 = .ok (.iconst 0, 1) := by decide +kernel
theorem dX7_rootOf_1 : decode cX7_rootOf 1 = .ok (.istore_n 2, 1) := by decide +kernel
theorem dX7_rootOf_2 : decode cX7_rootOf 2 = .ok (.bipush 17, 2) := by decide +kernel
theorem dX7_rootOf_4 : decode cX7_rootOf 4 = .ok (.istore_n 3, 1) := by decide +kernel
theorem dX7_rootOf_5 : decode cX7_rootOf 5 = .ok (.iload_n 3, 1) := by decide +kernel
theorem dX7_rootOf_6 : decode cX7_rootOf 6 = .ok (.ifCond .lt 31, 3) := by decide +kernel
theorem dX7_rootOf_9 : decode cX7_rootOf 9 = .ok (.iload_n 2, 1) := by decide +kernel
theorem dX7_rootOf_10 : decode cX7_rootOf 10 = .ok (.iconst 1, 1) := by decide +kernel
theorem dX7_rootOf_11 : decode cX7_rootOf 11 = .ok (.iload_n 3, 1) := by decide +kernel
theorem dX7_rootOf_12 : decode cX7_rootOf 12 = .ok (.ishl, 1) := by decide +kernel
theorem dX7_rootOf_13 : decode cX7_rootOf 13 = .ok (.iadd, 1) := by decide +kernel
theorem dX7_rootOf_14 : decode cX7_rootOf 14 = .ok (.i2l, 1) := by decide +kernel
theorem dX7_rootOf_15 : decode cX7_rootOf 15 = .ok (.lstore 4, 2) := by decide +kernel
theorem dX7_rootOf_17 : decode cX7_rootOf 17 = .ok (.lload 4, 2) := by decide +kernel
theorem dX7_rootOf_19 : decode cX7_rootOf 19 = .ok (.lload 4, 2) := by decide +kernel
theorem dX7_rootOf_21 : decode cX7_rootOf 21 = .ok (.lmul, 1) := by decide +kernel
theorem dX7_rootOf_22 : decode cX7_rootOf 22 = .ok (.lload_n 0, 1) := by decide +kernel
theorem dX7_rootOf_23 : decode cX7_rootOf 23 = .ok (.lcmp, 1) := by decide +kernel
theorem dX7_rootOf_24 : decode cX7_rootOf 24 = .ok (.ifCond .gt 7, 3) := by decide +kernel
theorem dX7_rootOf_27 : decode cX7_rootOf 27 = .ok (.lload 4, 2) := by decide +kernel
theorem dX7_rootOf_29 : decode cX7_rootOf 29 = .ok (.l2i, 1) := by decide +kernel
theorem dX7_rootOf_30 : decode cX7_rootOf 30 = .ok (.istore_n 2, 1) := by decide +kernel
theorem dX7_rootOf_31 : decode cX7_rootOf 31 = .ok (.iinc 3 (-1), 3) := by decide +kernel
theorem dX7_rootOf_34 : decode cX7_rootOf 34 = .ok (.goto (-29), 3) := by decide +kernel
theorem dX7_rootOf_37 : decode cX7_rootOf 37 = .ok (.iload_n 2, 1) := by decide +kernel
theorem dX7_rootOf_38 : decode cX7_rootOf 38 = .ok (.ireturn, 1) := by decide +kernel
