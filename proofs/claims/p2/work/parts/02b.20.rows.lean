theorem dX8_in_0 : decode cX8_in 0 = .ok (.iload_n 0, 1) := by decide +kernel
theorem dX8_in_1 : decode cX8_in 1 = .ok (.iload_n 1, 1) := by decide +kernel
theorem dX8_in_2 : decode cX8_in 2 = .ok (.if_icmp .lt 12, 3) := by decide +kernel
theorem dX8_in_5 : decode cX8_in 5 = .ok (.iload_n 0, 1) := by decide +kernel
theorem dX8_in_6 : decode cX8_in 6 = .ok (.iload_n 2, 1) := by decide +kernel
theorem dX8_in_7 : decode cX8_in 7 = .ok (.if_icmp .gt 7, 3) := by decide +kernel
theorem dX8_in_10 : decode cX8_in 10 = .ok (.iconst 1, 1) := by decide +kernel
theorem dX8_in_11 : decode cX8_in 11 = .ok (.goto 4, 3) := by decide +kernel
theorem dX8_in_14 : decode cX8_in 14 = .ok (.iconst 0, 1) := by decide +kernel
theorem dX8_in_15 : decode cX8_in 15 = .ok (.ireturn, 1) := by decide +kernel
set_option maxRecDepth 20000 in
theorem ggX8_isPlace_X8_in : GoodIn wsX8_isPlace wsX8_in := goodIn_r _ [4] (by decide +kernel) (by decide +kernel)
set_option maxRecDepth 20000 in
theorem gX8_isPlace_X8_in : GoodIn wsX8_isPlace (va_wsS RX8 110 yX8_in wsX8_in) := goodIn_app (goodIn_of _ (by decide +kernel)) ggX8_isPlace_X8_in
theorem dX8_isPlace_0 : decode cX8_isPlace 0 = .ok (.iload_n 0, 1) := by decide +kernel
theorem dX8_isPlace_1 : decode cX8_isPlace 1 = .ok (.iconst 0, 1) := by decide +kernel
theorem dX8_isPlace_2 : decode cX8_isPlace 2 = .ok (.iconst 2, 1) := by decide +kernel
theorem dX8_isPlace_3 : decode cX8_isPlace 3 = .ok (.invokestatic 110, 3) := by decide +kernel
theorem dX8_isPlace_6 : decode cX8_isPlace 6 = .ok (.ifCond .eq 27, 3) := by decide +kernel
theorem dX8_isPlace_9 : decode cX8_isPlace 9 = .ok (.iload_n 1, 1) := by decide +kernel
theorem dX8_isPlace_10 : decode cX8_isPlace 10 = .ok (.iconst 0, 1) := by decide +kernel
theorem dX8_isPlace_11 : decode cX8_isPlace 11 = .ok (.bipush 100, 2) := by decide +kernel
theorem dX8_isPlace_13 : decode cX8_isPlace 13 = .ok (.invokestatic 110, 3) := by decide +kernel
theorem dX8_isPlace_16 : decode cX8_isPlace 16 = .ok (.ifCond .eq 17, 3) := by decide +kernel
theorem dX8_isPlace_19 : decode cX8_isPlace 19 = .ok (.iload_n 2, 1) := by decide +kernel
theorem dX8_isPlace_20 : decode cX8_isPlace 20 = .ok (.iconst 0, 1) := by decide +kernel
theorem dX8_isPlace_21 : decode cX8_isPlace 21 = .ok (.bipush 100, 2) := by decide +kernel
theorem dX8_isPlace_23 : decode cX8_isPlace 23 = .ok (.invokestatic 110, 3) := by decide +kernel
theorem dX8_isPlace_26 : decode cX8_isPlace 26 = .ok (.ifCond .eq 7, 3) := by decide +kernel
theorem dX8_isPlace_29 : decode cX8_isPlace 29 = .ok (.iconst 1, 1) := by decide +kernel
theorem dX8_isPlace_30 : decode cX8_isPlace 30 = .ok (.goto 4, 3) := by decide +kernel
theorem dX8_isPlace_33 : decode cX8_isPlace 33 = .ok (.iconst 0, 1) := by decide +kernel
theorem dX8_isPlace_34 : decode cX8_isPlace 34 = .ok (.ireturn, 1) := by decide +kernel
set_option maxRecDepth 20000 in
theorem ggX8_isField_X8_isPlace : GoodIn wsX8_isField wsX8_isPlace := goodIn_r _ [4, 5, 6, 3, 7] (by decide +kernel) (by decide +kernel)
set_option maxRecDepth 20000 in
theorem gX8_isField_X8_isPlace : GoodIn wsX8_isField (va_wsS RX8 114 yX8_isPlace wsX8_isPlace) := goodIn_app (goodIn_of _ (by decide +kernel)) ggX8_isField_X8_isPlace
theorem dX8_isField_0 : decode cX8_isField 0 = .ok (.iload_n 0, 1) := by decide +kernel
theorem dX8_isField_1 : decode cX8_isField 1 = .ok (.iload_n 1, 1) := by decide +kernel
theorem dX8_isField_2 : decode cX8_isField 2 = .ok (.iload_n 2, 1) := by decide +kernel
theorem dX8_isField_3 : decode cX8_isField 3 = .ok (.invokestatic 114, 3) := by decide +kernel
theorem dX8_isField_6 : decode cX8_isField 6 = .ok (.ifCond .eq 28, 3) := by decide +kernel
theorem dX8_isField_9 : decode cX8_isField 9 = .ok (.iload_n 0, 1) := by decide +kernel
theorem dX8_isField_10 : decode cX8_isField 10 = .ok (.iload_n 3, 1) := by decide +kernel
theorem dX8_isField_11 : decode cX8_isField 11 = .ok (.iload 4, 2) := by decide +kernel
theorem dX8_isField_13 : decode cX8_isField 13 = .ok (.invokestatic 114, 3) := by decide +kernel
theorem dX8_isField_16 : decode cX8_isField 16 = .ok (.ifCond .eq 18, 3) := by decide +kernel
theorem dX8_isField_19 : decode cX8_isField 19 = .ok (.iload_n 1, 1) := by decide +kernel
theorem dX8_isField_20 : decode cX8_isField 20 = .ok (.iload_n 3, 1) := by decide +kernel
theorem dX8_isField_21 : decode cX8_isField 21 = .ok (.if_icmp .ge 13, 3) := by decide +kernel
theorem dX8_isField_24 : decode cX8_isField 24 = .ok (.iload_n 2, 1) := by decide +kernel
theorem dX8_isField_25 : decode cX8_isField 25 = .ok (.iload 4, 2) := by decide +kernel
theorem dX8_isField_27 : decode cX8_isField 27 = .ok (.if_icmp .ge 7, 3) := by decide +kernel
theorem dX8_isField_30 : decode cX8_isField 30 = .ok (.iconst 1, 1) := by decide +kernel
theorem dX8_isField_31 : decode cX8_isField 31 = .ok (.goto 4, 3) := by decide +kernel
theorem dX8_isField_34 : decode cX8_isField 34 = .ok (.iconst 0, 1) := by decide +kernel
theorem dX8_isField_35 : decode cX8_isField 35 = .ok (.ireturn, 1) := by decide +kernel
set_option maxRecDepth 20000 in
theorem ggX8_isLine_X8_isPlace : GoodIn wsX8_isLine wsX8_isPlace := goodIn_r _ [4, 5, 6, 3, 7] (by decide +kernel) (by decide +kernel)
set_option maxRecDepth 20000 in
theorem gX8_isLine_X8_isPlace : GoodIn wsX8_isLine (va_wsS RX8 114 yX8_isPlace wsX8_isPlace) := goodIn_app (goodIn_of _ (by decide +kernel)) ggX8_isLine_X8_isPlace
theorem dX8_isLine_0 : decode cX8_isLine 0 = .ok (.iload_n 0, 1) := by decide +kernel
theorem dX8_isLine_1 : decode cX8_isLine 1 = .ok (.iload_n 1, 1) := by decide +kernel
theorem dX8_isLine_2 : decode cX8_isLine 2 = .ok (.iload_n 2, 1) := by decide +kernel
theorem dX8_isLine_3 : decode cX8_isLine 3 = .ok (.invokestatic 114, 3) := by decide +kernel
theorem dX8_isLine_6 : decode cX8_isLine 6 = .ok (.ifCond .eq 41, 3) := by decide +kernel
theorem dX8_isLine_9 : decode cX8_isLine 9 = .ok (.iload_n 0, 1) := by decide +kernel
theorem dX8_isLine_10 : decode cX8_isLine 10 = .ok (.iload_n 3, 1) := by decide +kernel
theorem dX8_isLine_11 : decode cX8_isLine 11 = .ok (.iload 4, 2) := by decide +kernel
theorem dX8_isLine_13 : decode cX8_isLine 13 = .ok (.invokestatic 114, 3) := by decide +kernel
theorem dX8_isLine_16 : decode cX8_isLine 16 = .ok (.ifCond .eq 31, 3) := by decide +kernel
theorem dX8_isLine_19 : decode cX8_isLine 19 = .ok (.iload_n 1, 1) := by decide +kernel
theorem dX8_isLine_20 : decode cX8_isLine 20 = .ok (.iload_n 3, 1) := by decide +kernel
theorem dX8_isLine_21 : decode cX8_isLine 21 = .ok (.if_icmp .ne 7, 3) := by decide +kernel
theorem dX8_isLine_24 : decode cX8_isLine 24 = .ok (.iconst 1, 1) := by decide +kernel
theorem dX8_isLine_25 : decode cX8_isLine 25 = .ok (.goto 4, 3) := by decide +kernel
theorem dX8_isLine_28 : decode cX8_isLine 28 = .ok (.iconst 0, 1) := by decide +kernel
theorem dX8_isLine_29 : decode cX8_isLine 29 = .ok (.iload_n 2, 1) := by decide +kernel
theorem dX8_isLine_30 : decode cX8_isLine 30 = .ok (.iload 4, 2) := by decide +kernel
theorem dX8_isLine_32 : decode cX8_isLine 32 = .ok (.if_icmp .ne 7, 3) := by decide +kernel
theorem dX8_isLine_35 : decode cX8_isLine 35 = .ok (.iconst 1, 1) := by decide +kernel
theorem dX8_isLine_36 : decode cX8_isLine 36 = .ok (.goto 4, 3) := by decide +kernel
theorem dX8_isLine_39 : decode cX8_isLine 39 = .ok (.iconst 0, 1) := by decide +kernel
theorem dX8_isLine_40 : decode cX8_isLine 40 = .ok (.if_icmp .eq 7, 3) := by decide +kernel
theorem dX8_isLine_43 : decode cX8_isLine 43 = .ok (.iconst 1, 1) := by decide +kernel
theorem dX8_isLine_44 : decode cX8_isLine 44 = .ok (.goto 4, 3) := by decide +kernel
theorem dX8_isLine_47 : decode cX8_isLine 47 = .ok (.iconst 0, 1) := by decide +kernel
theorem dX8_isLine_48 : decode cX8_isLine 48 = .ok (.ireturn, 1) := by decide +kernel
theorem dX8_size_0 : decode cX8_size 0 = .ok (.iload_n 0, 1) := by decide +kernel
theorem dX8_size_1 : decode cX8_size 1 = .ok (.ifCond .ge 8, 3) := by decide +kernel
theorem dX8_size_4 : decode cX8_size 4 = .ok (.iload_n 0, 1) := by decide +kernel
theorem dX8_size_5 : decode cX8_size 5 = .ok (.ineg, 1) := by decide +kernel
theorem dX8_size_6 : decode cX8_size 6 = .ok (.goto 4, 3) := by decide +kernel
theorem dX8_size_9 : decode cX8_size 9 = .ok (.iload_n 0, 1) := by decide +kernel
theorem dX8_size_10 : decode cX8_size 10 = .ok (.ireturn, 1) := by decide +kernel
theorem dX8_lengthOf_0 : decode cX8_lengthOf 0 = .ok (.ldc2_w 208, 3) := by decide +kernel
theorem dX8_lengthOf_3 : decode cX8_lengthOf 3 = .ok (.iload_n 2, 1) := by decide +kernel
theorem dX8_lengthOf_4 : decode cX8_lengthOf 4 = .ok (.iload_n 0, 1) := by decide +kernel
theorem dX8_lengthOf_5 : decode cX8_lengthOf 5 = .ok (.isub, 1) := by decide +kernel
theorem dX8_lengthOf_6 : decode cX8_lengthOf 6 = .ok (.iload_n 2, 1) := by decide +kernel
theorem dX8_lengthOf_7 : decode cX8_lengthOf 7 = .ok (.iload_n 0, 1) := by decide +kernel
theorem dX8_lengthOf_8 : decode cX8_lengthOf 8 = .ok (.isub, 1) := by decide +kernel
theorem dX8_lengthOf_9 : decode cX8_lengthOf 9 = .ok (.imul, 1) := by decide +kernel
theorem dX8_lengthOf_10 : decode cX8_lengthOf 10 = .ok (.iload_n 3, 1) := by decide +kernel
theorem dX8_lengthOf_11 : decode cX8_lengthOf 11 = .ok (.iload_n 1, 1) := by decide +kernel
theorem dX8_lengthOf_12 : decode cX8_lengthOf 12 = .ok (.isub, 1) := by decide +kernel
theorem dX8_lengthOf_13 : decode cX8_lengthOf 13 = .ok (.iload_n 3, 1) := by decide +kernel
theorem dX8_lengthOf_14 : decode cX8_lengthOf 14 = .ok (.iload_n 1, 1) := by decide +kernel
theorem dX8_lengthOf_15 : decode cX8_lengthOf 15 = .ok (.isub, 1) := by decide +kernel
theorem dX8_lengthOf_16 : decode cX8_lengthOf 16 = .ok (.imul, 1) := by decide +kernel
theorem dX8_lengthOf_17 : decode cX8_lengthOf 17 = .ok (.iadd, 1) := by decide +kernel
theorem dX8_lengthOf_18 : decode cX8_lengthOf 18 = .ok (.i2l, 1) := by decide +kernel
theorem dX8_lengthOf_19 : decode cX8_lengthOf 19 = .ok (.lmul, 1) := by decide +kernel
theorem dX8_lengthOf_20 : decode cX8_lengthOf 20 = .ok (.lstore 4, 2) := by decide +kernel
theorem dX8_lengthOf_22 : decode cX8_lengthOf 22 = .ok (.lconst 0, 1) := by decide +kernel
theorem dX8_lengthOf_23 : decode cX8_lengthOf 23 = .ok (.lstore 6, 2) := by decide +kernel
theorem dX8_lengthOf_25 : decode cX8_lengthOf 25 = .ok (.ldc2_w 210, 3) := by decide +kernel
theorem dX8_lengthOf_28 : decode cX8_lengthOf 28 = .ok (.lstore 8, 2) := by decide +kernel
theorem dX8_lengthOf_30 : decode cX8_lengthOf 30 = .ok (.lload 6, 2) := by decide +kernel
theorem dX8_lengthOf_32 : decode cX8_lengthOf 32 = .ok (.lload 8, 2) := by decide +kernel
theorem dX8_lengthOf_34 : decode cX8_lengthOf 34 = .ok (.lcmp, 1) := by decide +kernel
theorem dX8_lengthOf_35 : decode cX8_lengthOf 35 = .ok (.ifCond .ge 43, 3) := by decide +kernel
theorem dX8_lengthOf_38 : decode cX8_lengthOf 38 = .ok (.lload 6, 2) := by decide +kernel
theorem dX8_lengthOf_40 : decode cX8_lengthOf 40 = .ok (.lload 8, 2) := by decide +kernel
theorem dX8_lengthOf_42 : decode cX8_lengthOf 42 = .ok (.ladd, 1) := by decide +kernel
theorem dX8_lengthOf_43 : decode cX8_lengthOf 43 = .ok (.lconst 1, 1) := by decide +kernel
theorem dX8_lengthOf_44 : decode cX8_lengthOf 44 = .ok (.ladd, 1) := by decide +kernel
theorem dX8_lengthOf_45 : decode cX8_lengthOf 45 = .ok (.ldc2_w 212, 3) := by decide +kernel
theorem dX8_lengthOf_48 : decode cX8_lengthOf 48 = .ok (.ldiv, 1) := by decide +kernel
theorem dX8_lengthOf_49 : decode cX8_lengthOf 49 = .ok (.lstore 10, 2) := by decide +kernel
theorem dX8_lengthOf_51 : decode cX8_lengthOf 51 = .ok (.lload 10, 2) := by decide +kernel
theorem dX8_lengthOf_53 : decode cX8_lengthOf 53 = .ok (.lload 10, 2) := by decide +kernel
theorem dX8_lengthOf_55 : decode cX8_lengthOf 55 = .ok (.lmul, 1) := by decide +kernel
theorem dX8_lengthOf_56 : decode cX8_lengthOf 56 = .ok (.lload 4, 2) := by decide +kernel
theorem dX8_lengthOf_58 : decode cX8_lengthOf 58 = .ok (.lcmp, 1) := by decide +kernel
theorem dX8_lengthOf_59 : decode cX8_lengthOf 59 = .ok (.ifCond .gt 10, 3) := by decide +kernel
theorem dX8_lengthOf_62 : decode cX8_lengthOf 62 = .ok (.lload 10, 2) := by decide +kernel
theorem dX8_lengthOf_64 : decode cX8_lengthOf 64 = .ok (.lstore 6, 2) := by decide +kernel
theorem dX8_lengthOf_66 : decode cX8_lengthOf 66 = .ok (.goto 9, 3) := by decide +kernel
theorem dX8_lengthOf_69 : decode cX8_lengthOf 69 = .ok (.lload 10, 2) := by decide +kernel
theorem dX8_lengthOf_71 : decode cX8_lengthOf 71 = .ok (.lconst 1, 1) := by decide +kernel
theorem dX8_lengthOf_72 : decode cX8_lengthOf 72 = .ok (.lsub, 1) := by decide +kernel
theorem dX8_lengthOf_73 : decode cX8_lengthOf 73 = .ok (.lstore 8, 2) := by decide +kernel
theorem dX8_lengthOf_75 : decode cX8_lengthOf 75 = .ok (.goto (-45), 3) := by decide +kernel
theorem dX8_lengthOf_78 : decode cX8_lengthOf 78 = .ok (.lload 6, 2) := by decide +kernel
theorem dX8_lengthOf_80 : decode cX8_lengthOf 80 = .ok (.l2i, 1) := by decide +kernel
theorem dX8_lengthOf_81 : decode cX8_lengthOf 81 = .ok (.ireturn, 1) := by decide +kernel
theorem dX8_lays_0 : decode cX8_lays 0 = .ok (.aload_n 0, 1) := by decide +kernel
theorem dX8_lays_1 : decode cX8_lays 1 = .ok (.iconst 5, 1) := by decide +kernel
theorem dX8_lays_2 : decode cX8_lays 2 = .ok (.iload_n 1, 1) := by decide +kernel
theorem dX8_lays_3 : decode cX8_lays 3 = .ok (.imul, 1) := by decide +kernel
theorem dX8_lays_4 : decode cX8_lays 4 = .ok (.iload_n 2, 1) := by decide +kernel
theorem dX8_lays_5 : decode cX8_lays 5 = .ok (.iastore, 1) := by decide +kernel
theorem dX8_lays_6 : decode cX8_lays 6 = .ok (.aload_n 0, 1) := by decide +kernel
theorem dX8_lays_7 : decode cX8_lays 7 = .ok (.iconst 5, 1) := by decide +kernel
theorem dX8_lays_8 : decode cX8_lays 8 = .ok (.iload_n 1, 1) := by decide +kernel
theorem dX8_lays_9 : decode cX8_lays 9 = .ok (.imul, 1) := by decide +kernel
theorem dX8_lays_10 : decode cX8_lays 10 = .ok (.iconst 1, 1) := by decide +kernel
theorem dX8_lays_11 : decode cX8_lays 11 = .ok (.iadd, 1) := by decide +kernel
theorem dX8_lays_12 : decode cX8_lays 12 = .ok (.iload_n 3, 1) := by decide +kernel
theorem dX8_lays_13 : decode cX8_lays 13 = .ok (.iload 5, 2) := by decide +kernel
theorem dX8_lays_15 : decode cX8_lays 15 = .ok (.if_icmp .ge 7, 3) := by decide +kernel
theorem dX8_lays_18 : decode cX8_lays 18 = .ok (.iload_n 3, 1) := by decide +kernel
theorem dX8_lays_19 : decode cX8_lays 19 = .ok (.goto 5, 3) := by decide +kernel
theorem dX8_lays_22 : decode cX8_lays 22 = .ok (.iload 5, 2) := by decide +kernel
theorem dX8_lays_24 : decode cX8_lays 24 = .ok (.iastore, 1) := by decide +kernel
theorem dX8_lays_25 : decode cX8_lays 25 = .ok (.aload_n 0, 1) := by decide +kernel
theorem dX8_lays_26 : decode cX8_lays 26 = .ok (.iconst 5, 1) := by decide +kernel
theorem dX8_lays_27 : decode cX8_lays 27 = .ok (.iload_n 1, 1) := by decide +kernel
theorem dX8_lays_28 : decode cX8_lays 28 = .ok (.imul, 1) := by decide +kernel
theorem dX8_lays_29 : decode cX8_lays 29 = .ok (.iconst 2, 1) := by decide +kernel
theorem dX8_lays_30 : decode cX8_lays 30 = .ok (.iadd, 1) := by decide +kernel
theorem dX8_lays_31 : decode cX8_lays 31 = .ok (.iload 4, 2) := by decide +kernel
theorem dX8_lays_33 : decode cX8_lays 33 = .ok (.iload 6, 2) := by decide +kernel
theorem dX8_lays_35 : decode cX8_lays 35 = .ok (.if_icmp .ge 8, 3) := by decide +kernel
theorem dX8_lays_38 : decode cX8_lays 38 = .ok (.iload 4, 2) := by decide +kernel
theorem dX8_lays_40 : decode cX8_lays 40 = .ok (.goto 5, 3) := by decide +kernel
theorem dX8_lays_43 : decode cX8_lays 43 = .ok (.iload 6, 2) := by decide +kernel
theorem dX8_lays_45 : decode cX8_lays 45 = .ok (.iastore, 1) := by decide +kernel
theorem dX8_lays_46 : decode cX8_lays 46 = .ok (.aload_n 0, 1) := by decide +kernel
theorem dX8_lays_47 : decode cX8_lays 47 = .ok (.iconst 5, 1) := by decide +kernel
theorem dX8_lays_48 : decode cX8_lays 48 = .ok (.iload_n 1, 1) := by decide +kernel
theorem dX8_lays_49 : decode cX8_lays 49 = .ok (.imul, 1) := by decide +kernel
theorem dX8_lays_50 : decode cX8_lays 50 = .ok (.iconst 3, 1) := by decide +kernel
theorem dX8_lays_51 : decode cX8_lays 51 = .ok (.iadd, 1) := by decide +kernel
theorem dX8_lays_52 : decode cX8_lays 52 = .ok (.iload_n 3, 1) := by decide +kernel
theorem dX8_lays_53 : decode cX8_lays 53 = .ok (.iload 5, 2) := by decide +kernel
theorem dX8_lays_55 : decode cX8_lays 55 = .ok (.if_icmp .ge 8, 3) := by decide +kernel
theorem dX8_lays_58 : decode cX8_lays 58 = .ok (.iload 5, 2) := by decide +kernel
theorem dX8_lays_60 : decode cX8_lays 60 = .ok (.goto 4, 3) := by decide +kernel
theorem dX8_lays_63 : decode cX8_lays 63 = .ok (.iload_n 3, 1) := by decide +kernel
theorem dX8_lays_64 : decode cX8_lays 64 = .ok (.iastore, 1) := by decide +kernel
theorem dX8_lays_65 : decode cX8_lays 65 = .ok (.aload_n 0, 1) := by decide +kernel
theorem dX8_lays_66 : decode cX8_lays 66 = .ok (.iconst 5, 1) := by decide +kernel
theorem dX8_lays_67 : decode cX8_lays 67 = .ok (.iload_n 1, 1) := by decide +kernel
theorem dX8_lays_68 : decode cX8_lays 68 = .ok (.imul, 1) := by decide +kernel
theorem dX8_lays_69 : decode cX8_lays 69 = .ok (.iconst 4, 1) := by decide +kernel
theorem dX8_lays_70 : decode cX8_lays 70 = .ok (.iadd, 1) := by decide +kernel
theorem dX8_lays_71 : decode cX8_lays 71 = .ok (.iload 4, 2) := by decide +kernel
theorem dX8_lays_73 : decode cX8_lays 73 = .ok (.iload 6, 2) := by decide +kernel
theorem dX8_lays_75 : decode cX8_lays 75 = .ok (.if_icmp .ge 8, 3) := by decide +kernel
theorem dX8_lays_78 : decode cX8_lays 78 = .ok (.iload 6, 2) := by decide +kernel
theorem dX8_lays_80 : decode cX8_lays 80 = .ok (.goto 5, 3) := by decide +kernel
theorem dX8_lays_83 : decode cX8_lays 83 = .ok (.iload 4, 2) := by decide +kernel
theorem dX8_lays_85 : decode cX8_lays 85 = .ok (.iastore, 1) := by decide +kernel
theorem dX8_lays_86 : decode cX8_lays 86 = .ok (.return_, 1) := by decide +kernel
theorem dX8_isInside_0 : decode cX8_isInside 0 = .ok (.aload_n 0, 1) := by decide +kernel
theorem dX8_isInside_1 : decode cX8_isInside 1 = .ok (.iconst 5, 1) := by decide +kernel
theorem dX8_isInside_2 : decode cX8_isInside 2 = .ok (.iload_n 1, 1) := by decide +kernel
theorem dX8_isInside_3 : decode cX8_isInside 3 = .ok (.imul, 1) := by decide +kernel
theorem dX8_isInside_4 : decode cX8_isInside 4 = .ok (.iaload, 1) := by decide +kernel
theorem dX8_isInside_5 : decode cX8_isInside 5 = .ok (.iload_n 2, 1) := by decide +kernel
theorem dX8_isInside_6 : decode cX8_isInside 6 = .ok (.if_icmp .ne 53, 3) := by decide +kernel
theorem dX8_isInside_9 : decode cX8_isInside 9 = .ok (.iload_n 3, 1) := by decide +kernel
theorem dX8_isInside_10 : decode cX8_isInside 10 = .ok (.aload_n 0, 1) := by decide +kernel
theorem dX8_isInside_11 : decode cX8_isInside 11 = .ok (.iconst 5, 1) := by decide +kernel
theorem dX8_isInside_12 : decode cX8_isInside 12 = .ok (.iload_n 1, 1) := by decide +kernel
theorem dX8_isInside_13 : decode cX8_isInside 13 = .ok (.imul, 1) := by decide +kernel
theorem dX8_isInside_14 : decode cX8_isInside 14 = .ok (.iconst 1, 1) := by decide +kernel
theorem dX8_isInside_15 : decode cX8_isInside 15 = .ok (.iadd, 1) := by decide +kernel
theorem dX8_isInside_16 : decode cX8_isInside 16 = .ok (.iaload, 1) := by decide +kernel
theorem dX8_isInside_17 : decode cX8_isInside 17 = .ok (.if_icmp .le 42, 3) := by decide +kernel
theorem dX8_isInside_20 : decode cX8_isInside 20 = .ok (.iload_n 3, 1) := by decide +kernel
theorem dX8_isInside_21 : decode cX8_isInside 21 = .ok (.aload_n 0, 1) := by decide +kernel
theorem dX8_isInside_22 : decode cX8_isInside 22 = .ok (.iconst 5, 1) := by decide +kernel
theorem dX8_isInside_23 : decode cX8_isInside 23 = .ok (.iload_n 1, 1) := by decide +kernel
theorem dX8_isInside_24 : decode cX8_isInside 24 = .ok (.imul, 1) := by decide +kernel
theorem dX8_isInside_25 : decode cX8_isInside 25 = .ok (.iconst 3, 1) := by decide +kernel
theorem dX8_isInside_26 : decode cX8_isInside 26 = .ok (.iadd, 1) := by decide +kernel
theorem dX8_isInside_27 : decode cX8_isInside 27 = .ok (.iaload, 1) := by decide +kernel
theorem dX8_isInside_28 : decode cX8_isInside 28 = .ok (.if_icmp .ge 31, 3) := by decide +kernel
theorem dX8_isInside_31 : decode cX8_isInside 31 = .ok (.iload 4, 2) := by decide +kernel
theorem dX8_isInside_33 : decode cX8_isInside 33 = .ok (.aload_n 0, 1) := by decide +kernel
theorem dX8_isInside_34 : decode cX8_isInside 34 = .ok (.iconst 5, 1) := by decide +kernel
theorem dX8_isInside_35 : decode cX8_isInside 35 = .ok (.iload_n 1, 1) := by decide +kernel
theorem dX8_isInside_36 : decode cX8_isInside 36 = .ok (.imul, 1) := by decide +kernel
theorem dX8_isInside_37 : decode cX8_isInside 37 = .ok (.iconst 2, 1) := by decide +kernel
theorem dX8_isInside_38 : decode cX8_isInside 38 = .ok (.iadd, 1) := by decide +kernel
theorem dX8_isInside_39 : decode cX8_isInside 39 = .ok (.iaload, 1) := by decide +kernel
theorem dX8_isInside_40 : decode cX8_isInside 40 = .ok (.if_icmp .le 19, 3) := by decide +kernel
theorem dX8_isInside_43 : decode cX8_isInside 43 = .ok (.iload 4, 2) := by decide +kernel
theorem dX8_isInside_45 : decode cX8_isInside 45 = .ok (.aload_n 0, 1) := by decide +kernel
theorem dX8_isInside_46 : decode cX8_isInside 46 = .ok (.iconst 5, 1) := by decide +kernel
theorem dX8_isInside_47 : decode cX8_isInside 47 = .ok (.iload_n 1, 1) := by decide +kernel
theorem dX8_isInside_48 : decode cX8_isInside 48 = .ok (.imul, 1) := by decide +kernel
theorem dX8_isInside_49 : decode cX8_isInside 49 = .ok (.iconst 4, 1) := by decide +kernel
theorem dX8_isInside_50 : decode cX8_isInside 50 = .ok (.iadd, 1) := by decide +kernel
theorem dX8_isInside_51 : decode cX8_isInside 51 = .ok (.iaload, 1) := by decide +kernel
theorem dX8_isInside_52 : decode cX8_isInside 52 = .ok (.if_icmp .ge 7, 3) := by decide +kernel
theorem dX8_isInside_55 : decode cX8_isInside 55 = .ok (.iconst 1, 1) := by decide +kernel
theorem dX8_isInside_56 : decode cX8_isInside 56 = .ok (.goto 4, 3) := by decide +kernel
theorem dX8_isInside_59 : decode cX8_isInside 59 = .ok (.iconst 0, 1) := by decide +kernel
theorem dX8_isInside_60 : decode cX8_isInside 60 = .ok (.ireturn, 1) := by decide +kernel
set_option maxRecDepth 20000 in
theorem ggX8_isOn_X8_in : GoodIn wsX8_isOn wsX8_in := goodIn_r _ [4] (by decide +kernel) (by decide +kernel)
set_option maxRecDepth 20000 in
theorem gX8_isOn_X8_in : GoodIn wsX8_isOn (va_wsS RX8 110 yX8_in wsX8_in) := goodIn_app (goodIn_of _ (by decide +kernel)) ggX8_isOn_X8_in
theorem dX8_isOn_0 : decode cX8_isOn 0 = .ok (.aload_n 0, 1) := by decide +kernel
theorem dX8_isOn_1 : decode cX8_isOn 1 = .ok (.iconst 5, 1) := by decide +kernel
theorem dX8_isOn_2 : decode cX8_isOn 2 = .ok (.iload_n 1, 1) := by decide +kernel
theorem dX8_isOn_3 : decode cX8_isOn 3 = .ok (.imul, 1) := by decide +kernel
theorem dX8_isOn_4 : decode cX8_isOn 4 = .ok (.iaload, 1) := by decide +kernel
theorem dX8_isOn_5 : decode cX8_isOn 5 = .ok (.iload_n 2, 1) := by decide +kernel
theorem dX8_isOn_6 : decode cX8_isOn 6 = .ok (.if_icmp .ne 50, 3) := by decide +kernel
theorem dX8_isOn_9 : decode cX8_isOn 9 = .ok (.iload_n 3, 1) := by decide +kernel
theorem dX8_isOn_10 : decode cX8_isOn 10 = .ok (.aload_n 0, 1) := by decide +kernel
theorem dX8_isOn_11 : decode cX8_isOn 11 = .ok (.iconst 5, 1) := by decide +kernel
theorem dX8_isOn_12 : decode cX8_isOn 12 = .ok (.iload_n 1, 1) := by decide +kernel
theorem dX8_isOn_13 : decode cX8_isOn 13 = .ok (.imul, 1) := by decide +kernel
theorem dX8_isOn_14 : decode cX8_isOn 14 = .ok (.iconst 1, 1) := by decide +kernel
theorem dX8_isOn_15 : decode cX8_isOn 15 = .ok (.iadd, 1) := by decide +kernel
theorem dX8_isOn_16 : decode cX8_isOn 16 = .ok (.iaload, 1) := by decide +kernel
theorem dX8_isOn_17 : decode cX8_isOn 17 = .ok (.aload_n 0, 1) := by decide +kernel
theorem dX8_isOn_18 : decode cX8_isOn 18 = .ok (.iconst 5, 1) := by decide +kernel
theorem dX8_isOn_19 : decode cX8_isOn 19 = .ok (.iload_n 1, 1) := by decide +kernel
theorem dX8_isOn_20 : decode cX8_isOn 20 = .ok (.imul, 1) := by decide +kernel
theorem dX8_isOn_21 : decode cX8_isOn 21 = .ok (.iconst 3, 1) := by decide +kernel
theorem dX8_isOn_22 : decode cX8_isOn 22 = .ok (.iadd, 1) := by decide +kernel
theorem dX8_isOn_23 : decode cX8_isOn 23 = .ok (.iaload, 1) := by decide +kernel
theorem dX8_isOn_24 : decode cX8_isOn 24 = .ok (.invokestatic 110, 3) := by decide +kernel
theorem dX8_isOn_27 : decode cX8_isOn 27 = .ok (.ifCond .eq 29, 3) := by decide +kernel
theorem dX8_isOn_30 : decode cX8_isOn 30 = .ok (.iload 4, 2) := by decide +kernel
theorem dX8_isOn_32 : decode cX8_isOn 32 = .ok (.aload_n 0, 1) := by decide +kernel
theorem dX8_isOn_33 : decode cX8_isOn 33 = .ok (.iconst 5, 1) := by decide +kernel
theorem dX8_isOn_34 : decode cX8_isOn 34 = .ok (.iload_n 1, 1) := by decide +kernel
theorem dX8_isOn_35 : decode cX8_isOn 35 = .ok (.imul, 1) := by decide +kernel
theorem dX8_isOn_36 : decode cX8_isOn 36 = .ok (.iconst 2, 1) := by decide +kernel
theorem dX8_isOn_37 : decode cX8_isOn 37 = .ok (.iadd, 1) := by decide +kernel
theorem dX8_isOn_38 : decode cX8_isOn 38 = .ok (.iaload, 1) := by decide +kernel
theorem dX8_isOn_39 : decode cX8_isOn 39 = .ok (.aload_n 0, 1) := by decide +kernel
theorem dX8_isOn_40 : decode cX8_isOn 40 = .ok (.iconst 5, 1) := by decide +kernel
theorem dX8_isOn_41 : decode cX8_isOn 41 = .ok (.iload_n 1, 1) := by decide +kernel
theorem dX8_isOn_42 : decode cX8_isOn 42 = .ok (.imul, 1) := by decide +kernel
theorem dX8_isOn_43 : decode cX8_isOn 43 = .ok (.iconst 4, 1) := by decide +kernel
theorem dX8_isOn_44 : decode cX8_isOn 44 = .ok (.iadd, 1) := by decide +kernel
theorem dX8_isOn_45 : decode cX8_isOn 45 = .ok (.iaload, 1) := by decide +kernel
theorem dX8_isOn_46 : decode cX8_isOn 46 = .ok (.invokestatic 110, 3) := by decide +kernel
theorem dX8_isOn_49 : decode cX8_isOn 49 = .ok (.ifCond .eq 7, 3) := by decide +kernel
theorem dX8_isOn_52 : decode cX8_isOn 52 = .ok (.iconst 1, 1) := by decide +kernel
theorem dX8_isOn_53 : decode cX8_isOn 53 = .ok (.goto 4, 3) := by decide +kernel
theorem dX8_isOn_56 : decode cX8_isOn 56 = .ok (.iconst 0, 1) := by decide +kernel
theorem dX8_isOn_57 : decode cX8_isOn 57 = .ok (.ireturn, 1) := by decide +kernel
