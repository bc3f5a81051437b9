theorem dX0_corner_0 : decode cX0_corner 0 = .ok (.aload_n 0, 1) := by decide +kernel
theorem dX0_corner_1 : decode cX0_corner 1 = .ok (.getfield 7, 3) := by decide +kernel
theorem dX0_corner_4 : decode cX0_corner 4 = .ok (.iload_n 1, 1) := by decide +kernel
theorem dX0_corner_5 : decode cX0_corner 5 = .ok (.iconst 1, 1) := by decide +kernel
theorem dX0_corner_6 : decode cX0_corner 6 = .ok (.if_icmp .eq 8, 3) := by decide +kernel
theorem dX0_corner_9 : decode cX0_corner 9 = .ok (.iload_n 1, 1) := by decide +kernel
theorem dX0_corner_10 : decode cX0_corner 10 = .ok (.iconst 2, 1) := by decide +kernel
theorem dX0_corner_11 : decode cX0_corner 11 = .ok (.if_icmp .ne 10, 3) := by decide +kernel
theorem dX0_corner_14 : decode cX0_corner 14 = .ok (.aload_n 0, 1) := by decide +kernel
theorem dX0_corner_15 : decode cX0_corner 15 = .ok (.getfield 28, 3) := by decide +kernel
theorem dX0_corner_18 : decode cX0_corner 18 = .ok (.goto 7, 3) := by decide +kernel
theorem dX0_corner_21 : decode cX0_corner 21 = .ok (.aload_n 0, 1) := by decide +kernel
theorem dX0_corner_22 : decode cX0_corner 22 = .ok (.getfield 19, 3) := by decide +kernel
theorem dX0_corner_25 : decode cX0_corner 25 = .ok (.iload_n 1, 1) := by decide +kernel
theorem dX0_corner_26 : decode cX0_corner 26 = .ok (.iconst 2, 1) := by decide +kernel
theorem dX0_corner_27 : decode cX0_corner 27 = .ok (.if_icmp .lt 10, 3) := by decide +kernel
theorem dX0_corner_30 : decode cX0_corner 30 = .ok (.aload_n 0, 1) := by decide +kernel
theorem dX0_corner_31 : decode cX0_corner 31 = .ok (.getfield 31, 3) := by decide +kernel
theorem dX0_corner_34 : decode cX0_corner 34 = .ok (.goto 7, 3) := by decide +kernel
theorem dX0_corner_37 : decode cX0_corner 37 = .ok (.aload_n 0, 1) := by decide +kernel
theorem dX0_corner_38 : decode cX0_corner 38 = .ok (.getfield 22, 3) := by decide +kernel
theorem dX0_corner_41 : decode cX0_corner 41 = .ok (.invokestatic 34, 3) := by decide +kernel
theorem dX0_corner_44 : decode cX0_corner 44 = .ok (.ireturn, 1) := by decide +kernel
theorem dX0_encloses_0 : decode cX0_encloses 0 = .ok (.aload_n 0, 1) := by decide +kernel
theorem dX0_encloses_1 : decode cX0_encloses 1 = .ok (.getfield 7, 3) := by decide +kernel
theorem dX0_encloses_4 : decode cX0_encloses 4 = .ok (.iload_n 1, 1) := by decide +kernel
theorem dX0_encloses_5 : decode cX0_encloses 5 = .ok (.if_icmp .ne 39, 3) := by decide +kernel
theorem dX0_encloses_8 : decode cX0_encloses 8 = .ok (.aload_n 0, 1) := by decide +kernel
theorem dX0_encloses_9 : decode cX0_encloses 9 = .ok (.getfield 19, 3) := by decide +kernel
theorem dX0_encloses_12 : decode cX0_encloses 12 = .ok (.iload_n 2, 1) := by decide +kernel
theorem dX0_encloses_13 : decode cX0_encloses 13 = .ok (.if_icmp .ge 31, 3) := by decide +kernel
theorem dX0_encloses_16 : decode cX0_encloses 16 = .ok (.iload_n 2, 1) := by decide +kernel
theorem dX0_encloses_17 : decode cX0_encloses 17 = .ok (.aload_n 0, 1) := by decide +kernel
theorem dX0_encloses_18 : decode cX0_encloses 18 = .ok (.getfield 28, 3) := by decide +kernel
theorem dX0_encloses_21 : decode cX0_encloses 21 = .ok (.if_icmp .ge 23, 3) := by decide +kernel
theorem dX0_encloses_24 : decode cX0_encloses 24 = .ok (.aload_n 0, 1) := by decide +kernel
theorem dX0_encloses_25 : decode cX0_encloses 25 = .ok (.getfield 22, 3) := by decide +kernel
theorem dX0_encloses_28 : decode cX0_encloses 28 = .ok (.iload_n 3, 1) := by decide +kernel
theorem dX0_encloses_29 : decode cX0_encloses 29 = .ok (.if_icmp .ge 15, 3) := by decide +kernel
theorem dX0_encloses_32 : decode cX0_encloses 32 = .ok (.iload_n 3, 1) := by decide +kernel
theorem dX0_encloses_33 : decode cX0_encloses 33 = .ok (.aload_n 0, 1) := by decide +kernel
theorem dX0_encloses_34 : decode cX0_encloses 34 = .ok (.getfield 31, 3) := by decide +kernel
theorem dX0_encloses_37 : decode cX0_encloses 37 = .ok (.if_icmp .ge 7, 3) := by decide +kernel
theorem dX0_encloses_40 : decode cX0_encloses 40 = .ok (.iconst 1, 1) := by decide +kernel
theorem dX0_encloses_41 : decode cX0_encloses 41 = .ok (.goto 4, 3) := by decide +kernel
theorem dX0_encloses_44 : decode cX0_encloses 44 = .ok (.iconst 0, 1) := by decide +kernel
theorem dX0_encloses_45 : decode cX0_encloses 45 = .ok (.ireturn, 1) := by decide +kernel
theorem dX0_holds_0 : decode cX0_holds 0 = .ok (.aload_n 0, 1) := by decide +kernel
theorem dX0_holds_1 : decode cX0_holds 1 = .ok (.getfield 7, 3) := by decide +kernel
theorem dX0_holds_4 : decode cX0_holds 4 = .ok (.iload_n 1, 1) := by decide +kernel
theorem dX0_holds_5 : decode cX0_holds 5 = .ok (.if_icmp .ne 39, 3) := by decide +kernel
theorem dX0_holds_8 : decode cX0_holds 8 = .ok (.aload_n 0, 1) := by decide +kernel
theorem dX0_holds_9 : decode cX0_holds 9 = .ok (.getfield 19, 3) := by decide +kernel
theorem dX0_holds_12 : decode cX0_holds 12 = .ok (.iload_n 2, 1) := by decide +kernel
theorem dX0_holds_13 : decode cX0_holds 13 = .ok (.if_icmp .gt 31, 3) := by decide +kernel
theorem dX0_holds_16 : decode cX0_holds 16 = .ok (.iload_n 2, 1) := by decide +kernel
theorem dX0_holds_17 : decode cX0_holds 17 = .ok (.aload_n 0, 1) := by decide +kernel
theorem dX0_holds_18 : decode cX0_holds 18 = .ok (.getfield 28, 3) := by decide +kernel
theorem dX0_holds_21 : decode cX0_holds 21 = .ok (.if_icmp .gt 23, 3) := by decide +kernel
theorem dX0_holds_24 : decode cX0_holds 24 = .ok (.aload_n 0, 1) := by decide +kernel
theorem dX0_holds_25 : decode cX0_holds 25 = .ok (.getfield 22, 3) := by decide +kernel
theorem dX0_holds_28 : decode cX0_holds 28 = .ok (.iload_n 3, 1) := by decide +kernel
theorem dX0_holds_29 : decode cX0_holds 29 = .ok (.if_icmp .gt 15, 3) := by decide +kernel
theorem dX0_holds_32 : decode cX0_holds 32 = .ok (.iload_n 3, 1) := by decide +kernel
theorem dX0_holds_33 : decode cX0_holds 33 = .ok (.aload_n 0, 1) := by decide +kernel
theorem dX0_holds_34 : decode cX0_holds 34 = .ok (.getfield 31, 3) := by decide +kernel
theorem dX0_holds_37 : decode cX0_holds 37 = .ok (.if_icmp .gt 7, 3) := by decide +kernel
theorem dX0_holds_40 : decode cX0_holds 40 = .ok (.iconst 1, 1) := by decide +kernel
theorem dX0_holds_41 : decode cX0_holds 41 = .ok (.goto 4, 3) := by decide +kernel
theorem dX0_holds_44 : decode cX0_holds 44 = .ok (.iconst 0, 1) := by decide +kernel
theorem dX0_holds_45 : decode cX0_holds 45 = .ok (.ireturn, 1) := by decide +kernel
theorem dX0_init_0 : decode cX0_init 0 = .ok (.aload_n 0, 1) := by decide +kernel
theorem dX0_init_1 : decode cX0_init 1 = .ok (.invokespecial 1, 3) := by decide +kernel
theorem dX0_init_4 : decode cX0_init 4 = .ok (.return_, 1) := by decide +kernel
theorem dX0_lay_0 : decode cX0_lay 0 = .ok (.aload_n 0, 1) := by decide +kernel
theorem dX0_lay_1 : decode cX0_lay 1 = .ok (.iload_n 1, 1) := by decide +kernel
theorem dX0_lay_2 : decode cX0_lay 2 = .ok (.putfield 7, 3) := by decide +kernel
theorem dX0_lay_5 : decode cX0_lay 5 = .ok (.aload_n 0, 1) := by decide +kernel
theorem dX0_lay_6 : decode cX0_lay 6 = .ok (.iload_n 2, 1) := by decide +kernel
theorem dX0_lay_7 : decode cX0_lay 7 = .ok (.iload 4, 2) := by decide +kernel
theorem dX0_lay_9 : decode cX0_lay 9 = .ok (.invokestatic 13, 3) := by decide +kernel
theorem dX0_lay_12 : decode cX0_lay 12 = .ok (.putfield 19, 3) := by decide +kernel
theorem dX0_lay_15 : decode cX0_lay 15 = .ok (.aload_n 0, 1) := by decide +kernel
theorem dX0_lay_16 : decode cX0_lay 16 = .ok (.iload_n 3, 1) := by decide +kernel
theorem dX0_lay_17 : decode cX0_lay 17 = .ok (.iload 5, 2) := by decide +kernel
theorem dX0_lay_19 : decode cX0_lay 19 = .ok (.invokestatic 13, 3) := by decide +kernel
theorem dX0_lay_22 : decode cX0_lay 22 = .ok (.putfield 22, 3) := by decide +kernel
theorem dX0_lay_25 : decode cX0_lay 25 = .ok (.aload_n 0, 1) := by decide +kernel
theorem dX0_lay_26 : decode cX0_lay 26 = .ok (.iload_n 2, 1) := by decide +kernel
theorem dX0_lay_27 : decode cX0_lay 27 = .ok (.iload 4, 2) := by decide +kernel
theorem dX0_lay_29 : decode cX0_lay 29 = .ok (.invokestatic 25, 3) := by decide +kernel
theorem dX0_lay_32 : decode cX0_lay 32 = .ok (.putfield 28, 3) := by decide +kernel
theorem dX0_lay_35 : decode cX0_lay 35 = .ok (.aload_n 0, 1) := by decide +kernel
theorem dX0_lay_36 : decode cX0_lay 36 = .ok (.iload_n 3, 1) := by decide +kernel
theorem dX0_lay_37 : decode cX0_lay 37 = .ok (.iload 5, 2) := by decide +kernel
theorem dX0_lay_39 : decode cX0_lay 39 = .ok (.invokestatic 25, 3) := by decide +kernel
theorem dX0_lay_42 : decode cX0_lay 42 = .ok (.putfield 31, 3) := by decide +kernel
theorem dX0_lay_45 : decode cX0_lay 45 = .ok (.return_, 1) := by decide +kernel
theorem dX1_add_0 : decode cX1_add 0 = .ok (.aload_n 0, 1) := by decide +kernel
theorem dX1_add_1 : decode cX1_add 1 = .ok (.getfield 18, 3) := by decide +kernel
theorem dX1_add_4 : decode cX1_add 4 = .ok (.aload_n 0, 1) := by decide +kernel
theorem dX1_add_5 : decode cX1_add 5 = .ok (.getfield 11, 3) := by decide +kernel
theorem dX1_add_8 : decode cX1_add 8 = .ok (.arraylength, 1) := by decide +kernel
theorem dX1_add_9 : decode cX1_add 9 = .ok (.if_icmp .lt 6, 3) := by decide +kernel
theorem dX1_add_12 : decode cX1_add 12 = .ok (.bipush (-4), 2) := by decide +kernel
theorem dX1_add_14 : decode cX1_add 14 = .ok (.ireturn, 1) := by decide +kernel
theorem dX1_add_15 : decode cX1_add 15 = .ok (.aload_n 0, 1) := by decide +kernel
theorem dX1_add_16 : decode cX1_add 16 = .ok (.getfield 11, 3) := by decide +kernel
theorem dX1_add_19 : decode cX1_add 19 = .ok (.aload_n 0, 1) := by decide +kernel
theorem dX1_add_20 : decode cX1_add 20 = .ok (.getfield 18, 3) := by decide +kernel
theorem dX1_add_23 : decode cX1_add 23 = .ok (.aaload, 1) := by decide +kernel
theorem dX1_add_24 : decode cX1_add 24 = .ok (.iload_n 1, 1) := by decide +kernel
theorem dX1_add_25 : decode cX1_add 25 = .ok (.iload_n 2, 1) := by decide +kernel
theorem dX1_add_26 : decode cX1_add 26 = .ok (.iload_n 3, 1) := by decide +kernel
theorem dX1_add_27 : decode cX1_add 27 = .ok (.iload 4, 2) := by decide +kernel
theorem dX1_add_29 : decode cX1_add 29 = .ok (.iload 5, 2) := by decide +kernel
theorem dX1_add_31 : decode cX1_add 31 = .ok (.invokevirtual 22, 3) := by decide +kernel
theorem dX1_add_34 : decode cX1_add 34 = .ok (.aload_n 0, 1) := by decide +kernel
theorem dX1_add_35 : decode cX1_add 35 = .ok (.getfield 11, 3) := by decide +kernel
theorem dX1_add_38 : decode cX1_add 38 = .ok (.aload_n 0, 1) := by decide +kernel
theorem dX1_add_39 : decode cX1_add 39 = .ok (.getfield 18, 3) := by decide +kernel
theorem dX1_add_42 : decode cX1_add 42 = .ok (.aaload, 1) := by decide +kernel
theorem dX1_add_43 : decode cX1_add 43 = .ok (.iload 6, 2) := by decide +kernel
theorem dX1_add_45 : decode cX1_add 45 = .ok (.putfield 26, 3) := by decide +kernel
theorem dX1_add_48 : decode cX1_add 48 = .ok (.aload_n 0, 1) := by decide +kernel
theorem dX1_add_49 : decode cX1_add 49 = .ok (.dup, 1) := by decide +kernel
theorem dX1_add_50 : decode cX1_add 50 = .ok (.getfield 18, 3) := by decide +kernel
theorem dX1_add_53 : decode cX1_add 53 = .ok (.iconst 1, 1) := by decide +kernel
theorem dX1_add_54 : decode cX1_add 54 = .ok (.iadd, 1) := by decide +kernel
theorem dX1_add_55 : decode cX1_add 55 = .ok (.putfield 18, 3) := by decide +kernel
theorem dX1_add_58 : decode cX1_add 58 = .ok (.aload_n 0, 1) := by decide +kernel
theorem dX1_add_59 : decode cX1_add 59 = .ok (.getfield 18, 3) := by decide +kernel
theorem dX1_add_62 : decode cX1_add 62 = .ok (.iconst 1, 1) := by decide +kernel
theorem dX1_add_63 : decode cX1_add 63 = .ok (.isub, 1) := by decide +kernel
theorem dX1_add_64 : decode cX1_add 64 = .ok (.ireturn, 1) := by decide +kernel
theorem dX1_countOn_0 : decode cX1_countOn 0 = .ok (.iconst 0, 1) := by decide +kernel
theorem dX1_countOn_1 : decode cX1_countOn 1 = .ok (.istore_n 1, 1) := by decide +kernel
theorem dX1_countOn_2 : decode cX1_countOn 2 = .ok (.iconst 0, 1) := by decide +kernel
theorem dX1_countOn_3 : decode cX1_countOn 3 = .ok (.istore_n 2, 1) := by decide +kernel
theorem dX1_countOn_4 : decode cX1_countOn 4 = .ok (.iload_n 2, 1) := by decide +kernel
theorem dX1_countOn_5 : decode cX1_countOn 5 = .ok (.aload_n 0, 1) := by decide +kernel
theorem dX1_countOn_6 : decode cX1_countOn 6 = .ok (.getfield 11, 3) := by decide +kernel
theorem dX1_countOn_9 : decode cX1_countOn 9 = .ok (.arraylength, 1) := by decide +kernel
theorem dX1_countOn_10 : decode cX1_countOn 10 = .ok (.if_icmp .ge 24, 3) := by decide +kernel
theorem dX1_countOn_13 : decode cX1_countOn 13 = .ok (.aload_n 0, 1) := by decide +kernel
theorem dX1_countOn_14 : decode cX1_countOn 14 = .ok (.getfield 11, 3) := by decide +kernel
theorem dX1_countOn_17 : decode cX1_countOn 17 = .ok (.iload_n 2, 1) := by decide +kernel
theorem dX1_countOn_18 : decode cX1_countOn 18 = .ok (.aaload, 1) := by decide +kernel
theorem dX1_countOn_19 : decode cX1_countOn 19 = .ok (.getfield 26, 3) := by decide +kernel
theorem dX1_countOn_22 : decode cX1_countOn 22 = .ok (.ifCond .eq 6, 3) := by decide +kernel
theorem dX1_countOn_25 : decode cX1_countOn 25 = .ok (.iinc 1 1, 3) := by decide +kernel
theorem dX1_countOn_28 : decode cX1_countOn 28 = .ok (.iinc 2 1, 3) := by decide +kernel
theorem dX1_countOn_31 : decode cX1_countOn 31 = .ok (.goto (-27), 3) := by decide +kernel
theorem dX1_countOn_34 : decode cX1_countOn 34 = .ok (.iload_n 1, 1) := by decide +kernel
theorem dX1_countOn_35 : decode cX1_countOn 35 = .ok (.ireturn, 1) := by decide +kernel
theorem dX1_init_0 : decode cX1_init 0 = .ok (.aload_n 0, 1) := by decide +kernel
theorem dX1_init_1 : decode cX1_init 1 = .ok (.invokespecial 3, 3) := by decide +kernel
theorem dX1_init_4 : decode cX1_init 4 = .ok (.aload_n 0, 1) := by decide +kernel
theorem dX1_init_5 : decode cX1_init 5 = .ok (.iload_n 1, 1) := by decide +kernel
theorem dX1_init_6 : decode cX1_init 6 = .ok (.ifCond .ge 7, 3) := by decide +kernel
theorem dX1_init_9 : decode cX1_init 9 = .ok (.iconst 0, 1) := by decide +kernel
theorem dX1_init_10 : decode cX1_init 10 = .ok (.goto 4, 3) := by decide +kernel
theorem dX1_init_13 : decode cX1_init 13 = .ok (.iload_n 1, 1) := by decide +kernel
theorem dX1_init_14 : decode cX1_init 14 = .ok (.anewarray 9, 3) := by decide +kernel
theorem dX1_init_17 : decode cX1_init 17 = .ok (.putfield 11, 3) := by decide +kernel
theorem dX1_init_20 : decode cX1_init 20 = .ok (.iconst 0, 1) := by decide +kernel
theorem dX1_init_21 : decode cX1_init 21 = .ok (.istore_n 2, 1) := by decide +kernel
theorem dX1_init_22 : decode cX1_init 22 = .ok (.iload_n 2, 1) := by decide +kernel
theorem dX1_init_23 : decode cX1_init 23 = .ok (.aload_n 0, 1) := by decide +kernel
theorem dX1_init_24 : decode cX1_init 24 = .ok (.getfield 11, 3) := by decide +kernel
theorem dX1_init_27 : decode cX1_init 27 = .ok (.arraylength, 1) := by decide +kernel
theorem dX1_init_28 : decode cX1_init 28 = .ok (.if_icmp .ge 22, 3) := by decide +kernel
theorem dX1_init_31 : decode cX1_init 31 = .ok (.aload_n 0, 1) := by decide +kernel
theorem dX1_init_32 : decode cX1_init 32 = .ok (.getfield 11, 3) := by decide +kernel
theorem dX1_init_35 : decode cX1_init 35 = .ok (.iload_n 2, 1) := by decide +kernel
theorem dX1_init_36 : decode cX1_init 36 = .ok (.new 9, 3) := by decide +kernel
theorem dX1_init_39 : decode cX1_init 39 = .ok (.dup, 1) := by decide +kernel
theorem dX1_init_40 : decode cX1_init 40 = .ok (.invokespecial 17, 3) := by decide +kernel
theorem dX1_init_43 : decode cX1_init 43 = .ok (.aastore, 1) := by decide +kernel
theorem dX1_init_44 : decode cX1_init 44 = .ok (.iinc 2 1, 3) := by decide +kernel
theorem dX1_init_47 : decode cX1_init 47 = .ok (.goto (-25), 3) := by decide +kernel
theorem dX1_init_50 : decode cX1_init 50 = .ok (.return_, 1) := by decide +kernel
theorem dX1_putDown_0 : decode cX1_putDown 0 = .ok (.iconst 0, 1) := by decide +kernel
theorem dX1_putDown_1 : decode cX1_putDown 1 = .ok (.istore 6, 2) := by decide +kernel
theorem dX1_putDown_3 : decode cX1_putDown 3 = .ok (.iload 6, 2) := by decide +kernel
theorem dX1_putDown_5 : decode cX1_putDown 5 = .ok (.aload_n 0, 1) := by decide +kernel
theorem dX1_putDown_6 : decode cX1_putDown 6 = .ok (.getfield 11, 3) := by decide +kernel
theorem dX1_putDown_9 : decode cX1_putDown 9 = .ok (.arraylength, 1) := by decide +kernel
theorem dX1_putDown_10 : decode cX1_putDown 10 = .ok (.if_icmp .ge 53, 3) := by decide +kernel
theorem dX1_putDown_13 : decode cX1_putDown 13 = .ok (.aload_n 0, 1) := by decide +kernel
theorem dX1_putDown_14 : decode cX1_putDown 14 = .ok (.getfield 11, 3) := by decide +kernel
theorem dX1_putDown_17 : decode cX1_putDown 17 = .ok (.iload 6, 2) := by decide +kernel
theorem dX1_putDown_19 : decode cX1_putDown 19 = .ok (.aaload, 1) := by decide +kernel
theorem dX1_putDown_20 : decode cX1_putDown 20 = .ok (.getfield 26, 3) := by decide +kernel
theorem dX1_putDown_23 : decode cX1_putDown 23 = .ok (.ifCond .ne 34, 3) := by decide +kernel
theorem dX1_putDown_26 : decode cX1_putDown 26 = .ok (.aload_n 0, 1) := by decide +kernel
theorem dX1_putDown_27 : decode cX1_putDown 27 = .ok (.getfield 11, 3) := by decide +kernel
theorem dX1_putDown_30 : decode cX1_putDown 30 = .ok (.iload 6, 2) := by decide +kernel
theorem dX1_putDown_32 : decode cX1_putDown 32 = .ok (.aaload, 1) := by decide +kernel
theorem dX1_putDown_33 : decode cX1_putDown 33 = .ok (.iload_n 1, 1) := by decide +kernel
theorem dX1_putDown_34 : decode cX1_putDown 34 = .ok (.iload_n 2, 1) := by decide +kernel
theorem dX1_putDown_35 : decode cX1_putDown 35 = .ok (.iload_n 3, 1) := by decide +kernel
theorem dX1_putDown_36 : decode cX1_putDown 36 = .ok (.iload 4, 2) := by decide +kernel
theorem dX1_putDown_38 : decode cX1_putDown 38 = .ok (.iload 5, 2) := by decide +kernel
theorem dX1_putDown_40 : decode cX1_putDown 40 = .ok (.invokevirtual 22, 3) := by decide +kernel
theorem dX1_putDown_43 : decode cX1_putDown 43 = .ok (.aload_n 0, 1) := by decide +kernel
theorem dX1_putDown_44 : decode cX1_putDown 44 = .ok (.getfield 11, 3) := by decide +kernel
theorem dX1_putDown_47 : decode cX1_putDown 47 = .ok (.iload 6, 2) := by decide +kernel
theorem dX1_putDown_49 : decode cX1_putDown 49 = .ok (.aaload, 1) := by decide +kernel
theorem dX1_putDown_50 : decode cX1_putDown 50 = .ok (.iconst 1, 1) := by decide +kernel
theorem dX1_putDown_51 : decode cX1_putDown 51 = .ok (.putfield 26, 3) := by decide +kernel
theorem dX1_putDown_54 : decode cX1_putDown 54 = .ok (.iload 6, 2) := by decide +kernel
theorem dX1_putDown_56 : decode cX1_putDown 56 = .ok (.ireturn, 1) := by decide +kernel
theorem dX1_putDown_57 : decode cX1_putDown 57 = .ok (.iinc 6 1, 3) := by decide +kernel
theorem dX1_putDown_60 : decode cX1_putDown 60 = .ok (.goto (-57), 3) := by decide +kernel
theorem dX1_putDown_63 : decode cX1_putDown 63 = .ok (.bipush (-4), 2) := by decide +kernel
theorem dX1_putDown_65 : decode cX1_putDown 65 = .ok (.ireturn, 1) := by decide +kernel
theorem dX2_addIfFree_0 : decode cX2_addIfFree 0 = .ok (.iconst 0, 1) := by decide +kernel
theorem dX2_addIfFree_1 : decode cX2_addIfFree 1 = .ok (.istore_n 2, 1) := by decide +kernel
theorem dX2_addIfFree_2 : decode cX2_addIfFree 2 = .ok (.iload_n 2, 1) := by decide +kernel
theorem dX2_addIfFree_3 : decode cX2_addIfFree 3 = .ok (.aload_n 0, 1) := by decide +kernel
theorem dX2_addIfFree_4 : decode cX2_addIfFree 4 = .ok (.getfield 32, 3) := by decide +kernel
theorem dX2_addIfFree_7 : decode cX2_addIfFree 7 = .ok (.if_icmp .ge 20, 3) := by decide +kernel
theorem dX2_addIfFree_10 : decode cX2_addIfFree 10 = .ok (.aload_n 0, 1) := by decide +kernel
theorem dX2_addIfFree_11 : decode cX2_addIfFree 11 = .ok (.getfield 29, 3) := by decide +kernel
theorem dX2_addIfFree_14 : decode cX2_addIfFree 14 = .ok (.iload_n 2, 1) := by decide +kernel
theorem dX2_addIfFree_15 : decode cX2_addIfFree 15 = .ok (.iaload, 1) := by decide +kernel
theorem dX2_addIfFree_16 : decode cX2_addIfFree 16 = .ok (.iload_n 1, 1) := by decide +kernel
theorem dX2_addIfFree_17 : decode cX2_addIfFree 17 = .ok (.if_icmp .ne 4, 3) := by decide +kernel
theorem dX2_addIfFree_20 : decode cX2_addIfFree 20 = .ok (.return_, 1) := by decide +kernel
theorem dX2_addIfFree_21 : decode cX2_addIfFree 21 = .ok (.iinc 2 1, 3) := by decide +kernel
theorem dX2_addIfFree_24 : decode cX2_addIfFree 24 = .ok (.goto (-22), 3) := by decide +kernel
theorem dX2_addIfFree_27 : decode cX2_addIfFree 27 = .ok (.aload_n 0, 1) := by decide +kernel
theorem dX2_addIfFree_28 : decode cX2_addIfFree 28 = .ok (.getfield 9, 3) := by decide +kernel
theorem dX2_addIfFree_31 : decode cX2_addIfFree 31 = .ok (.iload_n 1, 1) := by decide +kernel
theorem dX2_addIfFree_32 : decode cX2_addIfFree 32 = .ok (.invokevirtual 99, 3) := by decide +kernel
theorem dX2_addIfFree_35 : decode cX2_addIfFree 35 = .ok (.ifCond .eq 8, 3) := by decide +kernel
theorem dX2_addIfFree_38 : decode cX2_addIfFree 38 = .ok (.aload_n 0, 1) := by decide +kernel
theorem dX2_addIfFree_39 : decode cX2_addIfFree 39 = .ok (.iload_n 1, 1) := by decide +kernel
theorem dX2_addIfFree_40 : decode cX2_addIfFree 40 = .ok (.invokevirtual 58, 3) := by decide +kernel
theorem dX2_addIfFree_43 : decode cX2_addIfFree 43 = .ok (.return_, 1) := by decide +kernel
theorem dX2_addNode_0 : decode cX2_addNode 0 = .ok (.aload_n 0, 1) := by decide +kernel
theorem dX2_addNode_1 : decode cX2_addNode 1 = .ok (.getfield 40, 3) := by decide +kernel
theorem dX2_addNode_4 : decode cX2_addNode 4 = .ok (.bipush 94, 2) := by decide +kernel
theorem dX2_addNode_6 : decode cX2_addNode 6 = .ok (.if_icmp .ge 53, 3) := by decide +kernel
theorem dX2_addNode_9 : decode cX2_addNode 9 = .ok (.aload_n 0, 1) := by decide +kernel
theorem dX2_addNode_10 : decode cX2_addNode 10 = .ok (.getfield 15, 3) := by decide +kernel
theorem dX2_addNode_13 : decode cX2_addNode 13 = .ok (.aload_n 0, 1) := by decide +kernel
theorem dX2_addNode_14 : decode cX2_addNode 14 = .ok (.getfield 40, 3) := by decide +kernel
theorem dX2_addNode_17 : decode cX2_addNode 17 = .ok (.iload_n 1, 1) := by decide +kernel
theorem dX2_addNode_18 : decode cX2_addNode 18 = .ok (.iastore, 1) := by decide +kernel
theorem dX2_addNode_19 : decode cX2_addNode 19 = .ok (.aload_n 0, 1) := by decide +kernel
theorem dX2_addNode_20 : decode cX2_addNode 20 = .ok (.getfield 19, 3) := by decide +kernel
theorem dX2_addNode_23 : decode cX2_addNode 23 = .ok (.aload_n 0, 1) := by decide +kernel
theorem dX2_addNode_24 : decode cX2_addNode 24 = .ok (.getfield 40, 3) := by decide +kernel
theorem dX2_addNode_27 : decode cX2_addNode 27 = .ok (.iconst (-1), 1) := by decide +kernel
theorem dX2_addNode_28 : decode cX2_addNode 28 = .ok (.iastore, 1) := by decide +kernel
theorem dX2_addNode_29 : decode cX2_addNode 29 = .ok (.aload_n 0, 1) := by decide +kernel
theorem dX2_addNode_30 : decode cX2_addNode 30 = .ok (.getfield 22, 3) := by decide +kernel
theorem dX2_addNode_33 : decode cX2_addNode 33 = .ok (.aload_n 0, 1) := by decide +kernel
theorem dX2_addNode_34 : decode cX2_addNode 34 = .ok (.getfield 40, 3) := by decide +kernel
theorem dX2_addNode_37 : decode cX2_addNode 37 = .ok (.iconst 0, 1) := by decide +kernel
theorem dX2_addNode_38 : decode cX2_addNode 38 = .ok (.iastore, 1) := by decide +kernel
theorem dX2_addNode_39 : decode cX2_addNode 39 = .ok (.aload_n 0, 1) := by decide +kernel
theorem dX2_addNode_40 : decode cX2_addNode 40 = .ok (.getfield 25, 3) := by decide +kernel
theorem dX2_addNode_43 : decode cX2_addNode 43 = .ok (.aload_n 0, 1) := by decide +kernel
theorem dX2_addNode_44 : decode cX2_addNode 44 = .ok (.getfield 40, 3) := by decide +kernel
theorem dX2_addNode_47 : decode cX2_addNode 47 = .ok (.iconst 0, 1) := by decide +kernel
theorem dX2_addNode_48 : decode cX2_addNode 48 = .ok (.bastore, 1) := by decide +kernel
theorem dX2_addNode_49 : decode cX2_addNode 49 = .ok (.aload_n 0, 1) := by decide +kernel
theorem dX2_addNode_50 : decode cX2_addNode 50 = .ok (.dup, 1) := by decide +kernel
theorem dX2_addNode_51 : decode cX2_addNode 51 = .ok (.getfield 40, 3) := by decide +kernel
theorem dX2_addNode_54 : decode cX2_addNode 54 = .ok (.iconst 1, 1) := by decide +kernel
theorem dX2_addNode_55 : decode cX2_addNode 55 = .ok (.iadd, 1) := by decide +kernel
theorem dX2_addNode_56 : decode cX2_addNode 56 = .ok (.putfield 40, 3) := by decide +kernel
theorem dX2_addNode_59 : decode cX2_addNode 59 = .ok (.return_, 1) := by decide +kernel
theorem dX2_avoid_0 : decode cX2_avoid 0 = .ok (.aload_n 0, 1) := by decide +kernel
theorem dX2_avoid_1 : decode cX2_avoid 1 = .ok (.getfield 32, 3) := by decide +kernel
theorem dX2_avoid_4 : decode cX2_avoid 4 = .ok (.bipush 6, 2) := by decide +kernel
theorem dX2_avoid_6 : decode cX2_avoid 6 = .ok (.if_icmp .ge 23, 3) := by decide +kernel
theorem dX2_avoid_9 : decode cX2_avoid 9 = .ok (.aload_n 0, 1) := by decide +kernel
theorem dX2_avoid_10 : decode cX2_avoid 10 = .ok (.getfield 29, 3) := by decide +kernel
theorem dX2_avoid_13 : decode cX2_avoid 13 = .ok (.aload_n 0, 1) := by decide +kernel
theorem dX2_avoid_14 : decode cX2_avoid 14 = .ok (.getfield 32, 3) := by decide +kernel
theorem dX2_avoid_17 : decode cX2_avoid 17 = .ok (.iload_n 1, 1) := by decide +kernel
theorem dX2_avoid_18 : decode cX2_avoid 18 = .ok (.iastore, 1) := by decide +kernel
theorem dX2_avoid_19 : decode cX2_avoid 19 = .ok (.aload_n 0, 1) := by decide +kernel
theorem dX2_avoid_20 : decode cX2_avoid 20 = .ok (.dup, 1) := by decide +kernel
theorem dX2_avoid_21 : decode cX2_avoid 21 = .ok (.getfield 32, 3) := by decide +kernel
theorem dX2_avoid_24 : decode cX2_avoid 24 = .ok (.iconst 1, 1) := by decide +kernel
theorem dX2_avoid_25 : decode cX2_avoid 25 = .ok (.iadd, 1) := by decide +kernel
theorem dX2_avoid_26 : decode cX2_avoid 26 = .ok (.putfield 32, 3) := by decide +kernel
theorem dX2_avoid_29 : decode cX2_avoid 29 = .ok (.return_, 1) := by decide +kernel
theorem dX2_avoidNothing_0 : decode cX2_avoidNothing 0 = .ok (.aload_n 0, 1) := by decide +kernel
theorem dX2_avoidNothing_1 : decode cX2_avoidNothing 1 = .ok (.iconst 0, 1) := by decide +kernel
theorem dX2_avoidNothing_2 : decode cX2_avoidNothing 2 = .ok (.putfield 32, 3) := by decide +kernel
theorem dX2_avoidNothing_5 : decode cX2_avoidNothing 5 = .ok (.return_, 1) := by decide +kernel
theorem dX2_countRoomCorners_0 : decode cX2_countRoomCorners 0 = .ok (.iconst 0, 1) := by decide +kernel
theorem dX2_countRoomCorners_1 : decode cX2_countRoomCorners 1 = .ok (.istore_n 1, 1) := by decide +kernel
theorem dX2_countRoomCorners_2 : decode cX2_countRoomCorners 2 = .ok (.iconst 2, 1) := by decide +kernel
theorem dX2_countRoomCorners_3 : decode cX2_countRoomCorners 3 = .ok (.istore_n 2, 1) := by decide +kernel
theorem dX2_countRoomCorners_4 : decode cX2_countRoomCorners 4 = .ok (.iload_n 2, 1) := by decide +kernel
theorem dX2_countRoomCorners_5 : decode cX2_countRoomCorners 5 = .ok (.aload_n 0, 1) := by decide +kernel
theorem dX2_countRoomCorners_6 : decode cX2_countRoomCorners 6 = .ok (.getfield 51, 3) := by decide +kernel
theorem dX2_countRoomCorners_9 : decode cX2_countRoomCorners 9 = .ok (.if_icmp .ge 22, 3) := by decide +kernel
theorem dX2_countRoomCorners_12 : decode cX2_countRoomCorners 12 = .ok (.aload_n 0, 1) := by decide +kernel
theorem dX2_countRoomCorners_13 : decode cX2_countRoomCorners 13 = .ok (.getfield 19, 3) := by decide +kernel
theorem dX2_countRoomCorners_16 : decode cX2_countRoomCorners 16 = .ok (.iload_n 2, 1) := by decide +kernel
theorem dX2_countRoomCorners_17 : decode cX2_countRoomCorners 17 = .ok (.iaload, 1) := by decide +kernel
theorem dX2_countRoomCorners_18 : decode cX2_countRoomCorners 18 = .ok (.iconst (-1), 1) := by decide +kernel
theorem dX2_countRoomCorners_19 : decode cX2_countRoomCorners 19 = .ok (.if_icmp .eq 6, 3) := by decide +kernel
theorem dX2_countRoomCorners_22 : decode cX2_countRoomCorners 22 = .ok (.iinc 1 1, 3) := by decide +kernel
theorem dX2_countRoomCorners_25 : decode cX2_countRoomCorners 25 = .ok (.iinc 2 1, 3) := by decide +kernel
theorem dX2_countRoomCorners_28 : decode cX2_countRoomCorners 28 = .ok (.goto (-24), 3) := by decide +kernel
theorem dX2_countRoomCorners_31 : decode cX2_countRoomCorners 31 = .ok (.iload_n 1, 1) := by decide +kernel
theorem dX2_countRoomCorners_32 : decode cX2_countRoomCorners 32 = .ok (.ireturn, 1) := by decide +kernel
theorem dX2_explore_0 : decode cX2_explore 0 = .ok (.aload_n 0, 1) := by decide +kernel
theorem dX2_explore_1 : decode cX2_explore 1 = .ok (.iload_n 1, 1) := by decide +kernel
theorem dX2_explore_2 : decode cX2_explore 2 = .ok (.iload_n 2, 1) := by decide +kernel
theorem dX2_explore_3 : decode cX2_explore 3 = .ok (.invokevirtual 36, 3) := by decide +kernel
theorem dX2_explore_6 : decode cX2_explore 6 = .ok (.aload_n 0, 1) := by decide +kernel
theorem dX2_explore_7 : decode cX2_explore 7 = .ok (.getfield 19, 3) := by decide +kernel
theorem dX2_explore_10 : decode cX2_explore 10 = .ok (.iconst 0, 1) := by decide +kernel
theorem dX2_explore_11 : decode cX2_explore 11 = .ok (.iconst 0, 1) := by decide +kernel
theorem dX2_explore_12 : decode cX2_explore 12 = .ok (.iastore, 1) := by decide +kernel
theorem dX2_explore_13 : decode cX2_explore 13 = .ok (.iconst 0, 1) := by decide +kernel
theorem dX2_explore_14 : decode cX2_explore 14 = .ok (.istore 4, 2) := by decide +kernel
theorem dX2_explore_16 : decode cX2_explore 16 = .ok (.iload 4, 2) := by decide +kernel
theorem dX2_explore_18 : decode cX2_explore 18 = .ok (.aload_n 0, 1) := by decide +kernel
theorem dX2_explore_19 : decode cX2_explore 19 = .ok (.getfield 40, 3) := by decide +kernel
theorem dX2_explore_22 : decode cX2_explore 22 = .ok (.if_icmp .ge 46, 3) := by decide +kernel
theorem dX2_explore_25 : decode cX2_explore 25 = .ok (.aload_n 0, 1) := by decide +kernel
theorem dX2_explore_26 : decode cX2_explore 26 = .ok (.invokevirtual 43, 3) := by decide +kernel
theorem dX2_explore_29 : decode cX2_explore 29 = .ok (.istore 5, 2) := by decide +kernel
theorem dX2_explore_31 : decode cX2_explore 31 = .ok (.iload 5, 2) := by decide +kernel
theorem dX2_explore_33 : decode cX2_explore 33 = .ok (.iconst (-1), 1) := by decide +kernel
theorem dX2_explore_34 : decode cX2_explore 34 = .ok (.if_icmp .eq 13, 3) := by decide +kernel
theorem dX2_explore_37 : decode cX2_explore 37 = .ok (.iload 5, 2) := by decide +kernel
theorem dX2_explore_39 : decode cX2_explore 39 = .ok (.iconst 1, 1) := by decide +kernel
theorem dX2_explore_40 : decode cX2_explore 40 = .ok (.if_icmp .ne 8, 3) := by decide +kernel
theorem dX2_explore_43 : decode cX2_explore 43 = .ok (.iload_n 3, 1) := by decide +kernel
theorem dX2_explore_44 : decode cX2_explore 44 = .ok (.ifCond .ne 4, 3) := by decide +kernel
theorem dX2_explore_47 : decode cX2_explore 47 = .ok (.return_, 1) := by decide +kernel
theorem dX2_explore_48 : decode cX2_explore 48 = .ok (.aload_n 0, 1) := by decide +kernel
theorem dX2_explore_49 : decode cX2_explore 49 = .ok (.getfield 25, 3) := by decide +kernel
theorem dX2_explore_52 : decode cX2_explore 52 = .ok (.iload 5, 2) := by decide +kernel
theorem dX2_explore_54 : decode cX2_explore 54 = .ok (.iconst 1, 1) := by decide +kernel
theorem dX2_explore_55 : decode cX2_explore 55 = .ok (.bastore, 1) := by decide +kernel
theorem dX2_explore_56 : decode cX2_explore 56 = .ok (.aload_n 0, 1) := by decide +kernel
theorem dX2_explore_57 : decode cX2_explore 57 = .ok (.iload 5, 2) := by decide +kernel
theorem dX2_explore_59 : decode cX2_explore 59 = .ok (.invokevirtual 47, 3) := by decide +kernel
theorem dX2_explore_62 : decode cX2_explore 62 = .ok (.iinc 4 1, 3) := by decide +kernel
theorem dX2_explore_65 : decode cX2_explore 65 = .ok (.goto (-49), 3) := by decide +kernel
theorem dX2_explore_68 : decode cX2_explore 68 = .ok (.return_, 1) := by decide +kernel
theorem dX2_foundLength_0 : decode cX2_foundLength 0 = .ok (.aload_n 0, 1) := by decide +kernel
theorem dX2_foundLength_1 : decode cX2_foundLength 1 = .ok (.getfield 19, 3) := by decide +kernel
theorem dX2_foundLength_4 : decode cX2_foundLength 4 = .ok (.iconst 1, 1) := by decide +kernel
theorem dX2_foundLength_5 : decode cX2_foundLength 5 = .ok (.iaload, 1) := by decide +kernel
theorem dX2_foundLength_6 : decode cX2_foundLength 6 = .ok (.ireturn, 1) := by decide +kernel
theorem dX2_gather_0 : decode cX2_gather 0 = .ok (.aload_n 0, 1) := by decide +kernel
theorem dX2_gather_1 : decode cX2_gather 1 = .ok (.iconst 0, 1) := by decide +kernel
theorem dX2_gather_2 : decode cX2_gather 2 = .ok (.putfield 40, 3) := by decide +kernel
theorem dX2_gather_5 : decode cX2_gather 5 = .ok (.aload_n 0, 1) := by decide +kernel
theorem dX2_gather_6 : decode cX2_gather 6 = .ok (.iload_n 1, 1) := by decide +kernel
theorem dX2_gather_7 : decode cX2_gather 7 = .ok (.invokevirtual 58, 3) := by decide +kernel
theorem dX2_gather_10 : decode cX2_gather 10 = .ok (.aload_n 0, 1) := by decide +kernel
theorem dX2_gather_11 : decode cX2_gather 11 = .ok (.iload_n 2, 1) := by decide +kernel
theorem dX2_gather_12 : decode cX2_gather 12 = .ok (.invokevirtual 58, 3) := by decide +kernel
theorem dX2_gather_15 : decode cX2_gather 15 = .ok (.iconst 0, 1) := by decide +kernel
theorem dX2_gather_16 : decode cX2_gather 16 = .ok (.istore_n 3, 1) := by decide +kernel
theorem dX2_gather_17 : decode cX2_gather 17 = .ok (.iload_n 3, 1) := by decide +kernel
theorem dX2_gather_18 : decode cX2_gather 18 = .ok (.aload_n 0, 1) := by decide +kernel
theorem dX2_gather_19 : decode cX2_gather 19 = .ok (.getfield 9, 3) := by decide +kernel
theorem dX2_gather_22 : decode cX2_gather 22 = .ok (.getfield 61, 3) := by decide +kernel
theorem dX2_gather_25 : decode cX2_gather 25 = .ok (.getfield 67, 3) := by decide +kernel
theorem dX2_gather_28 : decode cX2_gather 28 = .ok (.iconst 4, 1) := by decide +kernel
theorem dX2_gather_29 : decode cX2_gather 29 = .ok (.imul, 1) := by decide +kernel
theorem dX2_gather_30 : decode cX2_gather 30 = .ok (.if_icmp .ge 33, 3) := by decide +kernel
theorem dX2_gather_33 : decode cX2_gather 33 = .ok (.aload_n 0, 1) := by decide +kernel
theorem dX2_gather_34 : decode cX2_gather 34 = .ok (.aload_n 0, 1) := by decide +kernel
theorem dX2_gather_35 : decode cX2_gather 35 = .ok (.getfield 9, 3) := by decide +kernel
theorem dX2_gather_38 : decode cX2_gather 38 = .ok (.getfield 61, 3) := by decide +kernel
theorem dX2_gather_41 : decode cX2_gather 41 = .ok (.getfield 70, 3) := by decide +kernel
theorem dX2_gather_44 : decode cX2_gather 44 = .ok (.iload_n 3, 1) := by decide +kernel
theorem dX2_gather_45 : decode cX2_gather 45 = .ok (.iconst 4, 1) := by decide +kernel
theorem dX2_gather_46 : decode cX2_gather 46 = .ok (.idiv, 1) := by decide +kernel
theorem dX2_gather_47 : decode cX2_gather 47 = .ok (.aaload, 1) := by decide +kernel
theorem dX2_gather_48 : decode cX2_gather 48 = .ok (.iload_n 3, 1) := by decide +kernel
theorem dX2_gather_49 : decode cX2_gather 49 = .ok (.iconst 4, 1) := by decide +kernel
theorem dX2_gather_50 : decode cX2_gather 50 = .ok (.irem, 1) := by decide +kernel
theorem dX2_gather_51 : decode cX2_gather 51 = .ok (.invokevirtual 74, 3) := by decide +kernel
theorem dX2_gather_54 : decode cX2_gather 54 = .ok (.invokevirtual 80, 3) := by decide +kernel
theorem dX2_gather_57 : decode cX2_gather 57 = .ok (.iinc 3 1, 3) := by decide +kernel
theorem dX2_gather_60 : decode cX2_gather 60 = .ok (.goto (-43), 3) := by decide +kernel
theorem dX2_gather_63 : decode cX2_gather 63 = .ok (.aload_n 0, 1) := by decide +kernel
theorem dX2_gather_64 : decode cX2_gather 64 = .ok (.aload_n 0, 1) := by decide +kernel
theorem dX2_gather_65 : decode cX2_gather 65 = .ok (.getfield 40, 3) := by decide +kernel
theorem dX2_gather_68 : decode cX2_gather 68 = .ok (.putfield 51, 3) := by decide +kernel
theorem dX2_gather_71 : decode cX2_gather 71 = .ok (.iconst 0, 1) := by decide +kernel
theorem dX2_gather_72 : decode cX2_gather 72 = .ok (.istore_n 3, 1) := by decide +kernel
theorem dX2_gather_73 : decode cX2_gather 73 = .ok (.iload_n 3, 1) := by decide +kernel
theorem dX2_gather_74 : decode cX2_gather 74 = .ok (.bipush 32, 2) := by decide +kernel
theorem dX2_gather_76 : decode cX2_gather 76 = .ok (.if_icmp .ge 45, 3) := by decide +kernel
theorem dX2_gather_79 : decode cX2_gather 79 = .ok (.aload_n 0, 1) := by decide +kernel
theorem dX2_gather_80 : decode cX2_gather 80 = .ok (.getfield 9, 3) := by decide +kernel
theorem dX2_gather_83 : decode cX2_gather 83 = .ok (.getfield 83, 3) := by decide +kernel
theorem dX2_gather_86 : decode cX2_gather 86 = .ok (.getfield 70, 3) := by decide +kernel
theorem dX2_gather_89 : decode cX2_gather 89 = .ok (.iload_n 3, 1) := by decide +kernel
theorem dX2_gather_90 : decode cX2_gather 90 = .ok (.iconst 4, 1) := by decide +kernel
theorem dX2_gather_91 : decode cX2_gather 91 = .ok (.idiv, 1) := by decide +kernel
theorem dX2_gather_92 : decode cX2_gather 92 = .ok (.aaload, 1) := by decide +kernel
theorem dX2_gather_93 : decode cX2_gather 93 = .ok (.astore 4, 2) := by decide +kernel
theorem dX2_gather_95 : decode cX2_gather 95 = .ok (.aload 4, 2) := by decide +kernel
theorem dX2_gather_97 : decode cX2_gather 97 = .ok (.getfield 86, 3) := by decide +kernel
theorem dX2_gather_100 : decode cX2_gather 100 = .ok (.ifCond .eq 15, 3) := by decide +kernel
theorem dX2_gather_103 : decode cX2_gather 103 = .ok (.aload_n 0, 1) := by decide +kernel
theorem dX2_gather_104 : decode cX2_gather 104 = .ok (.aload 4, 2) := by decide +kernel
theorem dX2_gather_106 : decode cX2_gather 106 = .ok (.iload_n 3, 1) := by decide +kernel
theorem dX2_gather_107 : decode cX2_gather 107 = .ok (.iconst 4, 1) := by decide +kernel
theorem dX2_gather_108 : decode cX2_gather 108 = .ok (.irem, 1) := by decide +kernel
theorem dX2_gather_109 : decode cX2_gather 109 = .ok (.invokevirtual 74, 3) := by decide +kernel
theorem dX2_gather_112 : decode cX2_gather 112 = .ok (.invokevirtual 80, 3) := by decide +kernel
theorem dX2_gather_115 : decode cX2_gather 115 = .ok (.iinc 3 1, 3) := by decide +kernel
theorem dX2_gather_118 : decode cX2_gather 118 = .ok (.goto (-45), 3) := by decide +kernel
theorem dX2_gather_121 : decode cX2_gather 121 = .ok (.iconst 0, 1) := by decide +kernel
theorem dX2_gather_122 : decode cX2_gather 122 = .ok (.istore_n 3, 1) := by decide +kernel
theorem dX2_gather_123 : decode cX2_gather 123 = .ok (.iload_n 3, 1) := by decide +kernel
theorem dX2_gather_124 : decode cX2_gather 124 = .ok (.aload_n 0, 1) := by decide +kernel
theorem dX2_gather_125 : decode cX2_gather 125 = .ok (.getfield 9, 3) := by decide +kernel
theorem dX2_gather_128 : decode cX2_gather 128 = .ok (.getfield 90, 3) := by decide +kernel
theorem dX2_gather_131 : decode cX2_gather 131 = .ok (.if_icmp .ge 35, 3) := by decide +kernel
theorem dX2_gather_134 : decode cX2_gather 134 = .ok (.aload_n 0, 1) := by decide +kernel
theorem dX2_gather_135 : decode cX2_gather 135 = .ok (.aload_n 0, 1) := by decide +kernel
theorem dX2_gather_136 : decode cX2_gather 136 = .ok (.getfield 9, 3) := by decide +kernel
theorem dX2_gather_139 : decode cX2_gather 139 = .ok (.getfield 93, 3) := by decide +kernel
theorem dX2_gather_142 : decode cX2_gather 142 = .ok (.iload_n 3, 1) := by decide +kernel
theorem dX2_gather_143 : decode cX2_gather 143 = .ok (.iaload, 1) := by decide +kernel
theorem dX2_gather_144 : decode cX2_gather 144 = .ok (.invokevirtual 80, 3) := by decide +kernel
theorem dX2_gather_147 : decode cX2_gather 147 = .ok (.aload_n 0, 1) := by decide +kernel
theorem dX2_gather_148 : decode cX2_gather 148 = .ok (.aload_n 0, 1) := by decide +kernel
theorem dX2_gather_149 : decode cX2_gather 149 = .ok (.getfield 9, 3) := by decide +kernel
theorem dX2_gather_152 : decode cX2_gather 152 = .ok (.getfield 96, 3) := by decide +kernel
theorem dX2_gather_155 : decode cX2_gather 155 = .ok (.iload_n 3, 1) := by decide +kernel
theorem dX2_gather_156 : decode cX2_gather 156 = .ok (.iaload, 1) := by decide +kernel
theorem dX2_gather_157 : decode cX2_gather 157 = .ok (.invokevirtual 80, 3) := by decide +kernel
theorem dX2_gather_160 : decode cX2_gather 160 = .ok (.iinc 3 1, 3) := by decide +kernel
theorem dX2_gather_163 : decode cX2_gather 163 = .ok (.goto (-40), 3) := by decide +kernel
theorem dX2_gather_166 : decode cX2_gather 166 = .ok (.return_, 1) := by decide +kernel
theorem dX2_init_0 : decode cX2_init 0 = .ok (.aload_n 0, 1) := by decide +kernel
theorem dX2_init_1 : decode cX2_init 1 = .ok (.invokespecial 3, 3) := by decide +kernel
theorem dX2_init_4 : decode cX2_init 4 = .ok (.aload_n 0, 1) := by decide +kernel
theorem dX2_init_5 : decode cX2_init 5 = .ok (.aload_n 1, 1) := by decide +kernel
theorem dX2_init_6 : decode cX2_init 6 = .ok (.putfield 9, 3) := by decide +kernel
theorem dX2_init_9 : decode cX2_init 9 = .ok (.aload_n 0, 1) := by decide +kernel
theorem dX2_init_10 : decode cX2_init 10 = .ok (.bipush 94, 2) := by decide +kernel
theorem dX2_init_12 : decode cX2_init 12 = .ok (.newarray .int, 2) := by decide +kernel
theorem dX2_init_14 : decode cX2_init 14 = .ok (.putfield 15, 3) := by decide +kernel
theorem dX2_init_17 : decode cX2_init 17 = .ok (.aload_n 0, 1) := by decide +kernel
theorem dX2_init_18 : decode cX2_init 18 = .ok (.bipush 94, 2) := by decide +kernel
theorem dX2_init_20 : decode cX2_init 20 = .ok (.newarray .int, 2) := by decide +kernel
theorem dX2_init_22 : decode cX2_init 22 = .ok (.putfield 19, 3) := by decide +kernel
theorem dX2_init_25 : decode cX2_init 25 = .ok (.aload_n 0, 1) := by decide +kernel
theorem dX2_init_26 : decode cX2_init 26 = .ok (.bipush 94, 2) := by decide +kernel
theorem dX2_init_28 : decode cX2_init 28 = .ok (.newarray .int, 2) := by decide +kernel
theorem dX2_init_30 : decode cX2_init 30 = .ok (.putfield 22, 3) := by decide +kernel
theorem dX2_init_33 : decode cX2_init 33 = .ok (.aload_n 0, 1) := by decide +kernel
theorem dX2_init_34 : decode cX2_init 34 = .ok (.bipush 94, 2) := by decide +kernel
theorem dX2_init_36 : decode cX2_init 36 = .ok (.newarray .boolean, 2) := by decide +kernel
theorem dX2_init_38 : decode cX2_init 38 = .ok (.putfield 25, 3) := by decide +kernel
theorem dX2_init_41 : decode cX2_init 41 = .ok (.aload_n 0, 1) := by decide +kernel
theorem dX2_init_42 : decode cX2_init 42 = .ok (.bipush 6, 2) := by decide +kernel
theorem dX2_init_44 : decode cX2_init 44 = .ok (.newarray .int, 2) := by decide +kernel
theorem dX2_init_46 : decode cX2_init 46 = .ok (.putfield 29, 3) := by decide +kernel
theorem dX2_init_49 : decode cX2_init 49 = .ok (.return_, 1) := by decide +kernel
theorem dX2_nearest_0 : decode cX2_nearest 0 = .ok (.iconst (-1), 1) := by decide +kernel
theorem dX2_nearest_1 : decode cX2_nearest 1 = .ok (.istore_n 1, 1) := by decide +kernel
theorem dX2_nearest_2 : decode cX2_nearest 2 = .ok (.iconst 0, 1) := by decide +kernel
theorem dX2_nearest_3 : decode cX2_nearest 3 = .ok (.istore_n 2, 1) := by decide +kernel
theorem dX2_nearest_4 : decode cX2_nearest 4 = .ok (.iload_n 2, 1) := by decide +kernel
theorem dX2_nearest_5 : decode cX2_nearest 5 = .ok (.aload_n 0, 1) := by decide +kernel
theorem dX2_nearest_6 : decode cX2_nearest 6 = .ok (.getfield 40, 3) := by decide +kernel
theorem dX2_nearest_9 : decode cX2_nearest 9 = .ok (.if_icmp .ge 60, 3) := by decide +kernel
theorem dX2_nearest_12 : decode cX2_nearest 12 = .ok (.aload_n 0, 1) := by decide +kernel
theorem dX2_nearest_13 : decode cX2_nearest 13 = .ok (.getfield 25, 3) := by decide +kernel
theorem dX2_nearest_16 : decode cX2_nearest 16 = .ok (.iload_n 2, 1) := by decide +kernel
theorem dX2_nearest_17 : decode cX2_nearest 17 = .ok (.baload, 1) := by decide +kernel
theorem dX2_nearest_18 : decode cX2_nearest 18 = .ok (.ifCond .ne 17, 3) := by decide +kernel
theorem dX2_nearest_21 : decode cX2_nearest 21 = .ok (.aload_n 0, 1) := by decide +kernel
theorem dX2_nearest_22 : decode cX2_nearest 22 = .ok (.getfield 19, 3) := by decide +kernel
theorem dX2_nearest_25 : decode cX2_nearest 25 = .ok (.iload_n 2, 1) := by decide +kernel
theorem dX2_nearest_26 : decode cX2_nearest 26 = .ok (.iaload, 1) := by decide +kernel
theorem dX2_nearest_27 : decode cX2_nearest 27 = .ok (.iconst (-1), 1) := by decide +kernel
theorem dX2_nearest_28 : decode cX2_nearest 28 = .ok (.if_icmp .eq 7, 3) := by decide +kernel
theorem dX2_nearest_31 : decode cX2_nearest 31 = .ok (.iconst 1, 1) := by decide +kernel
theorem dX2_nearest_32 : decode cX2_nearest 32 = .ok (.goto 4, 3) := by decide +kernel
theorem dX2_nearest_35 : decode cX2_nearest 35 = .ok (.iconst 0, 1) := by decide +kernel
theorem dX2_nearest_36 : decode cX2_nearest 36 = .ok (.istore_n 3, 1) := by decide +kernel
theorem dX2_nearest_37 : decode cX2_nearest 37 = .ok (.iload_n 3, 1) := by decide +kernel
theorem dX2_nearest_38 : decode cX2_nearest 38 = .ok (.ifCond .eq 25, 3) := by decide +kernel
theorem dX2_nearest_41 : decode cX2_nearest 41 = .ok (.iload_n 1, 1) := by decide +kernel
theorem dX2_nearest_42 : decode cX2_nearest 42 = .ok (.iconst (-1), 1) := by decide +kernel
theorem dX2_nearest_43 : decode cX2_nearest 43 = .ok (.if_icmp .eq 18, 3) := by decide +kernel
theorem dX2_nearest_46 : decode cX2_nearest 46 = .ok (.aload_n 0, 1) := by decide +kernel
theorem dX2_nearest_47 : decode cX2_nearest 47 = .ok (.getfield 19, 3) := by decide +kernel
theorem dX2_nearest_50 : decode cX2_nearest 50 = .ok (.iload_n 2, 1) := by decide +kernel
theorem dX2_nearest_51 : decode cX2_nearest 51 = .ok (.iaload, 1) := by decide +kernel
theorem dX2_nearest_52 : decode cX2_nearest 52 = .ok (.aload_n 0, 1) := by decide +kernel
theorem dX2_nearest_53 : decode cX2_nearest 53 = .ok (.getfield 19, 3) := by decide +kernel
theorem dX2_nearest_56 : decode cX2_nearest 56 = .ok (.iload_n 1, 1) := by decide +kernel
theorem dX2_nearest_57 : decode cX2_nearest 57 = .ok (.iaload, 1) := by decide +kernel
theorem dX2_nearest_58 : decode cX2_nearest 58 = .ok (.if_icmp .ge 5, 3) := by decide +kernel
theorem dX2_nearest_61 : decode cX2_nearest 61 = .ok (.iload_n 2, 1) := by decide +kernel
theorem dX2_nearest_62 : decode cX2_nearest 62 = .ok (.istore_n 1, 1) := by decide +kernel
theorem dX2_nearest_63 : decode cX2_nearest 63 = .ok (.iinc 2 1, 3) := by decide +kernel
theorem dX2_nearest_66 : decode cX2_nearest 66 = .ok (.goto (-62), 3) := by decide +kernel
theorem dX2_nearest_69 : decode cX2_nearest 69 = .ok (.iload_n 1, 1) := by decide +kernel
theorem dX2_nearest_70 : decode cX2_nearest 70 = .ok (.ireturn, 1) := by decide +kernel
theorem dX2_spreadFrom_0 : decode cX2_spreadFrom 0 = .ok (.iconst 0, 1) := by decide +kernel
theorem dX2_spreadFrom_1 : decode cX2_spreadFrom 1 = .ok (.istore_n 2, 1) := by decide +kernel
theorem dX2_spreadFrom_2 : decode cX2_spreadFrom 2 = .ok (.iload_n 2, 1) := by decide +kernel
theorem dX2_spreadFrom_3 : decode cX2_spreadFrom 3 = .ok (.aload_n 0, 1) := by decide +kernel
theorem dX2_spreadFrom_4 : decode cX2_spreadFrom 4 = .ok (.getfield 40, 3) := by decide +kernel
theorem dX2_spreadFrom_7 : decode cX2_spreadFrom 7 = .ok (.if_icmp .ge 130, 3) := by decide +kernel
theorem dX2_spreadFrom_10 : decode cX2_spreadFrom 10 = .ok (.aload_n 0, 1) := by decide +kernel
theorem dX2_spreadFrom_11 : decode cX2_spreadFrom 11 = .ok (.getfield 25, 3) := by decide +kernel
theorem dX2_spreadFrom_14 : decode cX2_spreadFrom 14 = .ok (.iload_n 2, 1) := by decide +kernel
theorem dX2_spreadFrom_15 : decode cX2_spreadFrom 15 = .ok (.baload, 1) := by decide +kernel
theorem dX2_spreadFrom_16 : decode cX2_spreadFrom 16 = .ok (.ifCond .eq 6, 3) := by decide +kernel
theorem dX2_spreadFrom_19 : decode cX2_spreadFrom 19 = .ok (.goto 112, 3) := by decide +kernel
theorem dX2_spreadFrom_22 : decode cX2_spreadFrom 22 = .ok (.aload_n 0, 1) := by decide +kernel
theorem dX2_spreadFrom_23 : decode cX2_spreadFrom 23 = .ok (.getfield 9, 3) := by decide +kernel
theorem dX2_spreadFrom_26 : decode cX2_spreadFrom 26 = .ok (.aload_n 0, 1) := by decide +kernel
theorem dX2_spreadFrom_27 : decode cX2_spreadFrom 27 = .ok (.getfield 15, 3) := by decide +kernel
theorem dX2_spreadFrom_30 : decode cX2_spreadFrom 30 = .ok (.iload_n 1, 1) := by decide +kernel
theorem dX2_spreadFrom_31 : decode cX2_spreadFrom 31 = .ok (.iaload, 1) := by decide +kernel
theorem dX2_spreadFrom_32 : decode cX2_spreadFrom 32 = .ok (.aload_n 0, 1) := by decide +kernel
theorem dX2_spreadFrom_33 : decode cX2_spreadFrom 33 = .ok (.getfield 15, 3) := by decide +kernel
theorem dX2_spreadFrom_36 : decode cX2_spreadFrom 36 = .ok (.iload_n 2, 1) := by decide +kernel
theorem dX2_spreadFrom_37 : decode cX2_spreadFrom 37 = .ok (.iaload, 1) := by decide +kernel
theorem dX2_spreadFrom_38 : decode cX2_spreadFrom 38 = .ok (.invokevirtual 103, 3) := by decide +kernel
theorem dX2_spreadFrom_41 : decode cX2_spreadFrom 41 = .ok (.istore_n 3, 1) := by decide +kernel
theorem dX2_spreadFrom_42 : decode cX2_spreadFrom 42 = .ok (.iload_n 3, 1) := by decide +kernel
theorem dX2_spreadFrom_43 : decode cX2_spreadFrom 43 = .ok (.iconst (-1), 1) := by decide +kernel
theorem dX2_spreadFrom_44 : decode cX2_spreadFrom 44 = .ok (.if_icmp .ne 6, 3) := by decide +kernel
theorem dX2_spreadFrom_47 : decode cX2_spreadFrom 47 = .ok (.goto 84, 3) := by decide +kernel
theorem dX2_spreadFrom_50 : decode cX2_spreadFrom 50 = .ok (.aload_n 0, 1) := by decide +kernel
theorem dX2_spreadFrom_51 : decode cX2_spreadFrom 51 = .ok (.getfield 19, 3) := by decide +kernel
theorem dX2_spreadFrom_54 : decode cX2_spreadFrom 54 = .ok (.iload_n 1, 1) := by decide +kernel
theorem dX2_spreadFrom_55 : decode cX2_spreadFrom 55 = .ok (.iaload, 1) := by decide +kernel
theorem dX2_spreadFrom_56 : decode cX2_spreadFrom 56 = .ok (.iload_n 3, 1) := by decide +kernel
theorem dX2_spreadFrom_57 : decode cX2_spreadFrom 57 = .ok (.iadd, 1) := by decide +kernel
theorem dX2_spreadFrom_58 : decode cX2_spreadFrom 58 = .ok (.istore 4, 2) := by decide +kernel
theorem dX2_spreadFrom_60 : decode cX2_spreadFrom 60 = .ok (.aload_n 0, 1) := by decide +kernel
theorem dX2_spreadFrom_61 : decode cX2_spreadFrom 61 = .ok (.getfield 19, 3) := by decide +kernel
theorem dX2_spreadFrom_64 : decode cX2_spreadFrom 64 = .ok (.iload_n 2, 1) := by decide +kernel
theorem dX2_spreadFrom_65 : decode cX2_spreadFrom 65 = .ok (.iaload, 1) := by decide +kernel
theorem dX2_spreadFrom_66 : decode cX2_spreadFrom 66 = .ok (.iconst (-1), 1) := by decide +kernel
theorem dX2_spreadFrom_67 : decode cX2_spreadFrom 67 = .ok (.if_icmp .eq 14, 3) := by decide +kernel
theorem dX2_spreadFrom_70 : decode cX2_spreadFrom 70 = .ok (.iload 4, 2) := by decide +kernel
theorem dX2_spreadFrom_72 : decode cX2_spreadFrom 72 = .ok (.aload_n 0, 1) := by decide +kernel
theorem dX2_spreadFrom_73 : decode cX2_spreadFrom 73 = .ok (.getfield 19, 3) := by decide +kernel
theorem dX2_spreadFrom_76 : decode cX2_spreadFrom 76 = .ok (.iload_n 2, 1) := by decide +kernel
theorem dX2_spreadFrom_77 : decode cX2_spreadFrom 77 = .ok (.iaload, 1) := by decide +kernel
theorem dX2_spreadFrom_78 : decode cX2_spreadFrom 78 = .ok (.if_icmp .ge 7, 3) := by decide +kernel
theorem dX2_spreadFrom_81 : decode cX2_spreadFrom 81 = .ok (.iconst 1, 1) := by decide +kernel
theorem dX2_spreadFrom_82 : decode cX2_spreadFrom 82 = .ok (.goto 4, 3) := by decide +kernel
theorem dX2_spreadFrom_85 : decode cX2_spreadFrom 85 = .ok (.iconst 0, 1) := by decide +kernel
theorem dX2_spreadFrom_86 : decode cX2_spreadFrom 86 = .ok (.istore 5, 2) := by decide +kernel
theorem dX2_spreadFrom_88 : decode cX2_spreadFrom 88 = .ok (.iload 5, 2) := by decide +kernel
theorem dX2_spreadFrom_90 : decode cX2_spreadFrom 90 = .ok (.ifCond .eq 41, 3) := by decide +kernel
theorem dX2_spreadFrom_93 : decode cX2_spreadFrom 93 = .ok (.aload_n 0, 1) := by decide +kernel
theorem dX2_spreadFrom_94 : decode cX2_spreadFrom 94 = .ok (.getfield 9, 3) := by decide +kernel
theorem dX2_spreadFrom_97 : decode cX2_spreadFrom 97 = .ok (.aload_n 0, 1) := by decide +kernel
theorem dX2_spreadFrom_98 : decode cX2_spreadFrom 98 = .ok (.getfield 15, 3) := by decide +kernel
theorem dX2_spreadFrom_101 : decode cX2_spreadFrom 101 = .ok (.iload_n 1, 1) := by decide +kernel
theorem dX2_spreadFrom_102 : decode cX2_spreadFrom 102 = .ok (.iaload, 1) := by decide +kernel
theorem dX2_spreadFrom_103 : decode cX2_spreadFrom 103 = .ok (.aload_n 0, 1) := by decide +kernel
theorem dX2_spreadFrom_104 : decode cX2_spreadFrom 104 = .ok (.getfield 15, 3) := by decide +kernel
theorem dX2_spreadFrom_107 : decode cX2_spreadFrom 107 = .ok (.iload_n 2, 1) := by decide +kernel
theorem dX2_spreadFrom_108 : decode cX2_spreadFrom 108 = .ok (.iaload, 1) := by decide +kernel
theorem dX2_spreadFrom_109 : decode cX2_spreadFrom 109 = .ok (.invokevirtual 107, 3) := by decide +kernel
theorem dX2_spreadFrom_112 : decode cX2_spreadFrom 112 = .ok (.iconst 1, 1) := by decide +kernel
theorem dX2_spreadFrom_113 : decode cX2_spreadFrom 113 = .ok (.if_icmp .ne 18, 3) := by decide +kernel
theorem dX2_spreadFrom_116 : decode cX2_spreadFrom 116 = .ok (.aload_n 0, 1) := by decide +kernel
theorem dX2_spreadFrom_117 : decode cX2_spreadFrom 117 = .ok (.getfield 19, 3) := by decide +kernel
theorem dX2_spreadFrom_120 : decode cX2_spreadFrom 120 = .ok (.iload_n 2, 1) := by decide +kernel
theorem dX2_spreadFrom_121 : decode cX2_spreadFrom 121 = .ok (.iload 4, 2) := by decide +kernel
theorem dX2_spreadFrom_123 : decode cX2_spreadFrom 123 = .ok (.iastore, 1) := by decide +kernel
theorem dX2_spreadFrom_124 : decode cX2_spreadFrom 124 = .ok (.aload_n 0, 1) := by decide +kernel
theorem dX2_spreadFrom_125 : decode cX2_spreadFrom 125 = .ok (.getfield 22, 3) := by decide +kernel
theorem dX2_spreadFrom_128 : decode cX2_spreadFrom 128 = .ok (.iload_n 2, 1) := by decide +kernel
theorem dX2_spreadFrom_129 : decode cX2_spreadFrom 129 = .ok (.iload_n 1, 1) := by decide +kernel
theorem dX2_spreadFrom_130 : decode cX2_spreadFrom 130 = .ok (.iastore, 1) := by decide +kernel
theorem dX2_spreadFrom_131 : decode cX2_spreadFrom 131 = .ok (.iinc 2 1, 3) := by decide +kernel
theorem dX2_spreadFrom_134 : decode cX2_spreadFrom 134 = .ok (.goto (-132), 3) := by decide +kernel
theorem dX2_spreadFrom_137 : decode cX2_spreadFrom 137 = .ok (.return_, 1) := by decide +kernel
theorem dX2_writeWay_0 : decode cX2_writeWay 0 = .ok (.iconst 1, 1) := by decide +kernel
theorem dX2_writeWay_1 : decode cX2_writeWay 1 = .ok (.istore_n 2, 1) := by decide +kernel
theorem dX2_writeWay_2 : decode cX2_writeWay 2 = .ok (.iconst 1, 1) := by decide +kernel
theorem dX2_writeWay_3 : decode cX2_writeWay 3 = .ok (.istore_n 3, 1) := by decide +kernel
theorem dX2_writeWay_4 : decode cX2_writeWay 4 = .ok (.iload_n 3, 1) := by decide +kernel
theorem dX2_writeWay_5 : decode cX2_writeWay 5 = .ok (.ifCond .eq 22, 3) := by decide +kernel
theorem dX2_writeWay_8 : decode cX2_writeWay 8 = .ok (.iload_n 2, 1) := by decide +kernel
theorem dX2_writeWay_9 : decode cX2_writeWay 9 = .ok (.bipush 94, 2) := by decide +kernel
theorem dX2_writeWay_11 : decode cX2_writeWay 11 = .ok (.if_icmp .ge 16, 3) := by decide +kernel
theorem dX2_writeWay_14 : decode cX2_writeWay 14 = .ok (.iinc 2 1, 3) := by decide +kernel
theorem dX2_writeWay_17 : decode cX2_writeWay 17 = .ok (.aload_n 0, 1) := by decide +kernel
theorem dX2_writeWay_18 : decode cX2_writeWay 18 = .ok (.getfield 22, 3) := by decide +kernel
theorem dX2_writeWay_21 : decode cX2_writeWay 21 = .ok (.iload_n 3, 1) := by decide +kernel
theorem dX2_writeWay_22 : decode cX2_writeWay 22 = .ok (.iaload, 1) := by decide +kernel
theorem dX2_writeWay_23 : decode cX2_writeWay 23 = .ok (.istore_n 3, 1) := by decide +kernel
theorem dX2_writeWay_24 : decode cX2_writeWay 24 = .ok (.goto (-20), 3) := by decide +kernel
theorem dX2_writeWay_27 : decode cX2_writeWay 27 = .ok (.aload_n 1, 1) := by decide +kernel
theorem dX2_writeWay_28 : decode cX2_writeWay 28 = .ok (.iload_n 2, 1) := by decide +kernel
theorem dX2_writeWay_29 : decode cX2_writeWay 29 = .ok (.putfield 54, 3) := by decide +kernel
theorem dX2_writeWay_32 : decode cX2_writeWay 32 = .ok (.iconst 1, 1) := by decide +kernel
theorem dX2_writeWay_33 : decode cX2_writeWay 33 = .ok (.istore_n 3, 1) := by decide +kernel
theorem dX2_writeWay_34 : decode cX2_writeWay 34 = .ok (.iload_n 2, 1) := by decide +kernel
theorem dX2_writeWay_35 : decode cX2_writeWay 35 = .ok (.iconst 1, 1) := by decide +kernel
theorem dX2_writeWay_36 : decode cX2_writeWay 36 = .ok (.isub, 1) := by decide +kernel
theorem dX2_writeWay_37 : decode cX2_writeWay 37 = .ok (.istore 4, 2) := by decide +kernel
theorem dX2_writeWay_39 : decode cX2_writeWay 39 = .ok (.iload 4, 2) := by decide +kernel
theorem dX2_writeWay_41 : decode cX2_writeWay 41 = .ok (.ifCond .lt 29, 3) := by decide +kernel
theorem dX2_writeWay_44 : decode cX2_writeWay 44 = .ok (.aload_n 1, 1) := by decide +kernel
theorem dX2_writeWay_45 : decode cX2_writeWay 45 = .ok (.getfield 57, 3) := by decide +kernel
theorem dX2_writeWay_48 : decode cX2_writeWay 48 = .ok (.iload 4, 2) := by decide +kernel
theorem dX2_writeWay_50 : decode cX2_writeWay 50 = .ok (.aload_n 0, 1) := by decide +kernel
theorem dX2_writeWay_51 : decode cX2_writeWay 51 = .ok (.getfield 15, 3) := by decide +kernel
theorem dX2_writeWay_54 : decode cX2_writeWay 54 = .ok (.iload_n 3, 1) := by decide +kernel
theorem dX2_writeWay_55 : decode cX2_writeWay 55 = .ok (.iaload, 1) := by decide +kernel
theorem dX2_writeWay_56 : decode cX2_writeWay 56 = .ok (.iastore, 1) := by decide +kernel
theorem dX2_writeWay_57 : decode cX2_writeWay 57 = .ok (.aload_n 0, 1) := by decide +kernel
theorem dX2_writeWay_58 : decode cX2_writeWay 58 = .ok (.getfield 22, 3) := by decide +kernel
theorem dX2_writeWay_61 : decode cX2_writeWay 61 = .ok (.iload_n 3, 1) := by decide +kernel
theorem dX2_writeWay_62 : decode cX2_writeWay 62 = .ok (.iaload, 1) := by decide +kernel
theorem dX2_writeWay_63 : decode cX2_writeWay 63 = .ok (.istore_n 3, 1) := by decide +kernel
theorem dX2_writeWay_64 : decode cX2_writeWay 64 = .ok (.iinc 4 (-1), 3) := by decide +kernel
theorem dX2_writeWay_67 : decode cX2_writeWay 67 = .ok (.goto (-28), 3) := by decide +kernel
theorem dX2_writeWay_70 : decode cX2_writeWay 70 = .ok (.return_, 1) := by decide +kernel
theorem dX3_addLadder_0 : decode cX3_addLadder 0 = .ok (.aload_n 0, 1) := by decide +kernel
theorem dX3_addLadder_1 : decode cX3_addLadder 1 = .ok (.getfield 46, 3) := by decide +kernel
theorem dX3_addLadder_4 : decode cX3_addLadder 4 = .ok (.bipush 6, 2) := by decide +kernel
theorem dX3_addLadder_6 : decode cX3_addLadder 6 = .ok (.if_icmp .lt 6, 3) := by decide +kernel
theorem dX3_addLadder_9 : decode cX3_addLadder 9 = .ok (.bipush (-4), 2) := by decide +kernel
theorem dX3_addLadder_11 : decode cX3_addLadder 11 = .ok (.ireturn, 1) := by decide +kernel
theorem dX3_addLadder_12 : decode cX3_addLadder 12 = .ok (.aload_n 0, 1) := by decide +kernel
theorem dX3_addLadder_13 : decode cX3_addLadder 13 = .ok (.getfield 29, 3) := by decide +kernel
theorem dX3_addLadder_16 : decode cX3_addLadder 16 = .ok (.aload_n 0, 1) := by decide +kernel
theorem dX3_addLadder_17 : decode cX3_addLadder 17 = .ok (.getfield 46, 3) := by decide +kernel
theorem dX3_addLadder_20 : decode cX3_addLadder 20 = .ok (.iload_n 1, 1) := by decide +kernel
theorem dX3_addLadder_21 : decode cX3_addLadder 21 = .ok (.iastore, 1) := by decide +kernel
theorem dX3_addLadder_22 : decode cX3_addLadder 22 = .ok (.aload_n 0, 1) := by decide +kernel
theorem dX3_addLadder_23 : decode cX3_addLadder 23 = .ok (.getfield 33, 3) := by decide +kernel
theorem dX3_addLadder_26 : decode cX3_addLadder 26 = .ok (.aload_n 0, 1) := by decide +kernel
theorem dX3_addLadder_27 : decode cX3_addLadder 27 = .ok (.getfield 46, 3) := by decide +kernel
theorem dX3_addLadder_30 : decode cX3_addLadder 30 = .ok (.iload_n 2, 1) := by decide +kernel
theorem dX3_addLadder_31 : decode cX3_addLadder 31 = .ok (.iastore, 1) := by decide +kernel
theorem dX3_addLadder_32 : decode cX3_addLadder 32 = .ok (.aload_n 0, 1) := by decide +kernel
theorem dX3_addLadder_33 : decode cX3_addLadder 33 = .ok (.getfield 36, 3) := by decide +kernel
theorem dX3_addLadder_36 : decode cX3_addLadder 36 = .ok (.aload_n 0, 1) := by decide +kernel
theorem dX3_addLadder_37 : decode cX3_addLadder 37 = .ok (.getfield 46, 3) := by decide +kernel
theorem dX3_addLadder_40 : decode cX3_addLadder 40 = .ok (.iload_n 3, 1) := by decide +kernel
theorem dX3_addLadder_41 : decode cX3_addLadder 41 = .ok (.iastore, 1) := by decide +kernel
theorem dX3_addLadder_42 : decode cX3_addLadder 42 = .ok (.aload_n 0, 1) := by decide +kernel
theorem dX3_addLadder_43 : decode cX3_addLadder 43 = .ok (.dup, 1) := by decide +kernel
theorem dX3_addLadder_44 : decode cX3_addLadder 44 = .ok (.getfield 46, 3) := by decide +kernel
theorem dX3_addLadder_47 : decode cX3_addLadder 47 = .ok (.iconst 1, 1) := by decide +kernel
theorem dX3_addLadder_48 : decode cX3_addLadder 48 = .ok (.iadd, 1) := by decide +kernel
theorem dX3_addLadder_49 : decode cX3_addLadder 49 = .ok (.putfield 46, 3) := by decide +kernel
theorem dX3_addLadder_52 : decode cX3_addLadder 52 = .ok (.aload_n 0, 1) := by decide +kernel
theorem dX3_addLadder_53 : decode cX3_addLadder 53 = .ok (.getfield 46, 3) := by decide +kernel
theorem dX3_addLadder_56 : decode cX3_addLadder 56 = .ok (.iconst 1, 1) := by decide +kernel
theorem dX3_addLadder_57 : decode cX3_addLadder 57 = .ok (.isub, 1) := by decide +kernel
theorem dX3_addLadder_58 : decode cX3_addLadder 58 = .ok (.ireturn, 1) := by decide +kernel
theorem dX3_init_0 : decode cX3_init 0 = .ok (.aload_n 0, 1) := by decide +kernel
theorem dX3_init_1 : decode cX3_init 1 = .ok (.invokespecial 3, 3) := by decide +kernel
theorem dX3_init_4 : decode cX3_init 4 = .ok (.aload_n 0, 1) := by decide +kernel
theorem dX3_init_5 : decode cX3_init 5 = .ok (.new 9, 3) := by decide +kernel
theorem dX3_init_8 : decode cX3_init 8 = .ok (.dup, 1) := by decide +kernel
theorem dX3_init_9 : decode cX3_init 9 = .ok (.bipush 12, 2) := by decide +kernel
theorem dX3_init_11 : decode cX3_init 11 = .ok (.invokespecial 11, 3) := by decide +kernel
theorem dX3_init_14 : decode cX3_init 14 = .ok (.putfield 14, 3) := by decide +kernel
theorem dX3_init_17 : decode cX3_init 17 = .ok (.aload_n 0, 1) := by decide +kernel
theorem dX3_init_18 : decode cX3_init 18 = .ok (.new 9, 3) := by decide +kernel
theorem dX3_init_21 : decode cX3_init 21 = .ok (.dup, 1) := by decide +kernel
theorem dX3_init_22 : decode cX3_init 22 = .ok (.bipush 8, 2) := by decide +kernel
theorem dX3_init_24 : decode cX3_init 24 = .ok (.invokespecial 11, 3) := by decide +kernel
theorem dX3_init_27 : decode cX3_init 27 = .ok (.putfield 20, 3) := by decide +kernel
theorem dX3_init_30 : decode cX3_init 30 = .ok (.aload_n 0, 1) := by decide +kernel
theorem dX3_init_31 : decode cX3_init 31 = .ok (.new 9, 3) := by decide +kernel
theorem dX3_init_34 : decode cX3_init 34 = .ok (.dup, 1) := by decide +kernel
theorem dX3_init_35 : decode cX3_init 35 = .ok (.bipush 6, 2) := by decide +kernel
theorem dX3_init_37 : decode cX3_init 37 = .ok (.invokespecial 11, 3) := by decide +kernel
theorem dX3_init_40 : decode cX3_init 40 = .ok (.putfield 23, 3) := by decide +kernel
theorem dX3_init_43 : decode cX3_init 43 = .ok (.aload_n 0, 1) := by decide +kernel
theorem dX3_init_44 : decode cX3_init 44 = .ok (.new 9, 3) := by decide +kernel
theorem dX3_init_47 : decode cX3_init 47 = .ok (.dup, 1) := by decide +kernel
theorem dX3_init_48 : decode cX3_init 48 = .ok (.bipush 6, 2) := by decide +kernel
theorem dX3_init_50 : decode cX3_init 50 = .ok (.invokespecial 11, 3) := by decide +kernel
theorem dX3_init_53 : decode cX3_init 53 = .ok (.putfield 26, 3) := by decide +kernel
theorem dX3_init_56 : decode cX3_init 56 = .ok (.aload_n 0, 1) := by decide +kernel
theorem dX3_init_57 : decode cX3_init 57 = .ok (.bipush 6, 2) := by decide +kernel
theorem dX3_init_59 : decode cX3_init 59 = .ok (.newarray .int, 2) := by decide +kernel
theorem dX3_init_61 : decode cX3_init 61 = .ok (.putfield 29, 3) := by decide +kernel
theorem dX3_init_64 : decode cX3_init 64 = .ok (.aload_n 0, 1) := by decide +kernel
theorem dX3_init_65 : decode cX3_init 65 = .ok (.bipush 6, 2) := by decide +kernel
theorem dX3_init_67 : decode cX3_init 67 = .ok (.newarray .int, 2) := by decide +kernel
theorem dX3_init_69 : decode cX3_init 69 = .ok (.putfield 33, 3) := by decide +kernel
theorem dX3_init_72 : decode cX3_init 72 = .ok (.aload_n 0, 1) := by decide +kernel
theorem dX3_init_73 : decode cX3_init 73 = .ok (.bipush 6, 2) := by decide +kernel
theorem dX3_init_75 : decode cX3_init 75 = .ok (.newarray .int, 2) := by decide +kernel
theorem dX3_init_77 : decode cX3_init 77 = .ok (.putfield 36, 3) := by decide +kernel
theorem dX3_init_80 : decode cX3_init 80 = .ok (.aload_n 0, 1) := by decide +kernel
theorem dX3_init_81 : decode cX3_init 81 = .ok (.new 39, 3) := by decide +kernel
theorem dX3_init_84 : decode cX3_init 84 = .ok (.dup, 1) := by decide +kernel
theorem dX3_init_85 : decode cX3_init 85 = .ok (.invokespecial 41, 3) := by decide +kernel
theorem dX3_init_88 : decode cX3_init 88 = .ok (.putfield 42, 3) := by decide +kernel
theorem dX3_init_91 : decode cX3_init 91 = .ok (.return_, 1) := by decide +kernel
theorem dX3_isGround_0 : decode cX3_isGround 0 = .ok (.iload_n 1, 1) := by decide +kernel
theorem dX3_isGround_1 : decode cX3_isGround 1 = .ok (.invokestatic 50, 3) := by decide +kernel
theorem dX3_isGround_4 : decode cX3_isGround 4 = .ok (.istore_n 2, 1) := by decide +kernel
theorem dX3_isGround_5 : decode cX3_isGround 5 = .ok (.iload_n 1, 1) := by decide +kernel
theorem dX3_isGround_6 : decode cX3_isGround 6 = .ok (.invokestatic 54, 3) := by decide +kernel
theorem dX3_isGround_9 : decode cX3_isGround 9 = .ok (.istore_n 3, 1) := by decide +kernel
theorem dX3_isGround_10 : decode cX3_isGround 10 = .ok (.iload_n 1, 1) := by decide +kernel
theorem dX3_isGround_11 : decode cX3_isGround 11 = .ok (.invokestatic 57, 3) := by decide +kernel
theorem dX3_isGround_14 : decode cX3_isGround 14 = .ok (.istore 4, 2) := by decide +kernel
theorem dX3_isGround_16 : decode cX3_isGround 16 = .ok (.iconst 0, 1) := by decide +kernel
theorem dX3_isGround_17 : decode cX3_isGround 17 = .ok (.istore 5, 2) := by decide +kernel
theorem dX3_isGround_19 : decode cX3_isGround 19 = .ok (.iload 5, 2) := by decide +kernel
theorem dX3_isGround_21 : decode cX3_isGround 21 = .ok (.bipush 8, 2) := by decide +kernel
theorem dX3_isGround_23 : decode cX3_isGround 23 = .ok (.if_icmp .ge 47, 3) := by decide +kernel
theorem dX3_isGround_26 : decode cX3_isGround 26 = .ok (.aload_n 0, 1) := by decide +kernel
theorem dX3_isGround_27 : decode cX3_isGround 27 = .ok (.getfield 20, 3) := by decide +kernel
theorem dX3_isGround_30 : decode cX3_isGround 30 = .ok (.getfield 60, 3) := by decide +kernel
theorem dX3_isGround_33 : decode cX3_isGround 33 = .ok (.iload 5, 2) := by decide +kernel
theorem dX3_isGround_35 : decode cX3_isGround 35 = .ok (.aaload, 1) := by decide +kernel
theorem dX3_isGround_36 : decode cX3_isGround 36 = .ok (.getfield 64, 3) := by decide +kernel
theorem dX3_isGround_39 : decode cX3_isGround 39 = .ok (.ifCond .eq 25, 3) := by decide +kernel
theorem dX3_isGround_42 : decode cX3_isGround 42 = .ok (.aload_n 0, 1) := by decide +kernel
theorem dX3_isGround_43 : decode cX3_isGround 43 = .ok (.getfield 20, 3) := by decide +kernel
theorem dX3_isGround_46 : decode cX3_isGround 46 = .ok (.getfield 60, 3) := by decide +kernel
theorem dX3_isGround_49 : decode cX3_isGround 49 = .ok (.iload 5, 2) := by decide +kernel
theorem dX3_isGround_51 : decode cX3_isGround 51 = .ok (.aaload, 1) := by decide +kernel
theorem dX3_isGround_52 : decode cX3_isGround 52 = .ok (.iload_n 2, 1) := by decide +kernel
theorem dX3_isGround_53 : decode cX3_isGround 53 = .ok (.iload_n 3, 1) := by decide +kernel
theorem dX3_isGround_54 : decode cX3_isGround 54 = .ok (.iload 4, 2) := by decide +kernel
theorem dX3_isGround_56 : decode cX3_isGround 56 = .ok (.invokevirtual 70, 3) := by decide +kernel
theorem dX3_isGround_59 : decode cX3_isGround 59 = .ok (.ifCond .eq 5, 3) := by decide +kernel
theorem dX3_isGround_62 : decode cX3_isGround 62 = .ok (.iconst 0, 1) := by decide +kernel
theorem dX3_isGround_63 : decode cX3_isGround 63 = .ok (.ireturn, 1) := by decide +kernel
theorem dX3_isGround_64 : decode cX3_isGround 64 = .ok (.iinc 5 1, 3) := by decide +kernel
theorem dX3_isGround_67 : decode cX3_isGround 67 = .ok (.goto (-48), 3) := by decide +kernel
theorem dX3_isGround_70 : decode cX3_isGround 70 = .ok (.iconst 0, 1) := by decide +kernel
theorem dX3_isGround_71 : decode cX3_isGround 71 = .ok (.istore 5, 2) := by decide +kernel
theorem dX3_isGround_73 : decode cX3_isGround 73 = .ok (.iload 5, 2) := by decide +kernel
theorem dX3_isGround_75 : decode cX3_isGround 75 = .ok (.aload_n 0, 1) := by decide +kernel
theorem dX3_isGround_76 : decode cX3_isGround 76 = .ok (.getfield 14, 3) := by decide +kernel
theorem dX3_isGround_79 : decode cX3_isGround 79 = .ok (.getfield 74, 3) := by decide +kernel
theorem dX3_isGround_82 : decode cX3_isGround 82 = .ok (.if_icmp .ge 31, 3) := by decide +kernel
theorem dX3_isGround_85 : decode cX3_isGround 85 = .ok (.aload_n 0, 1) := by decide +kernel
theorem dX3_isGround_86 : decode cX3_isGround 86 = .ok (.getfield 14, 3) := by decide +kernel
theorem dX3_isGround_89 : decode cX3_isGround 89 = .ok (.getfield 60, 3) := by decide +kernel
theorem dX3_isGround_92 : decode cX3_isGround 92 = .ok (.iload 5, 2) := by decide +kernel
theorem dX3_isGround_94 : decode cX3_isGround 94 = .ok (.aaload, 1) := by decide +kernel
theorem dX3_isGround_95 : decode cX3_isGround 95 = .ok (.iload_n 2, 1) := by decide +kernel
theorem dX3_isGround_96 : decode cX3_isGround 96 = .ok (.iload_n 3, 1) := by decide +kernel
theorem dX3_isGround_97 : decode cX3_isGround 97 = .ok (.iload 4, 2) := by decide +kernel
theorem dX3_isGround_99 : decode cX3_isGround 99 = .ok (.invokevirtual 77, 3) := by decide +kernel
theorem dX3_isGround_102 : decode cX3_isGround 102 = .ok (.ifCond .eq 5, 3) := by decide +kernel
theorem dX3_isGround_105 : decode cX3_isGround 105 = .ok (.iconst 1, 1) := by decide +kernel
theorem dX3_isGround_106 : decode cX3_isGround 106 = .ok (.ireturn, 1) := by decide +kernel
theorem dX3_isGround_107 : decode cX3_isGround 107 = .ok (.iinc 5 1, 3) := by decide +kernel
theorem dX3_isGround_110 : decode cX3_isGround 110 = .ok (.goto (-37), 3) := by decide +kernel
theorem dX3_isGround_113 : decode cX3_isGround 113 = .ok (.iconst 0, 1) := by decide +kernel
theorem dX3_isGround_114 : decode cX3_isGround 114 = .ok (.ireturn, 1) := by decide +kernel
theorem dX3_isOnShutDoor_0 : decode cX3_isOnShutDoor 0 = .ok (.iconst 0, 1) := by decide +kernel
theorem dX3_isOnShutDoor_1 : decode cX3_isOnShutDoor 1 = .ok (.istore_n 2, 1) := by decide +kernel
theorem dX3_isOnShutDoor_2 : decode cX3_isOnShutDoor 2 = .ok (.iload_n 2, 1) := by decide +kernel
theorem dX3_isOnShutDoor_3 : decode cX3_isOnShutDoor 3 = .ok (.aload_n 0, 1) := by decide +kernel
theorem dX3_isOnShutDoor_4 : decode cX3_isOnShutDoor 4 = .ok (.getfield 23, 3) := by decide +kernel
theorem dX3_isOnShutDoor_7 : decode cX3_isOnShutDoor 7 = .ok (.getfield 74, 3) := by decide +kernel
theorem dX3_isOnShutDoor_10 : decode cX3_isOnShutDoor 10 = .ok (.if_icmp .ge 47, 3) := by decide +kernel
theorem dX3_isOnShutDoor_13 : decode cX3_isOnShutDoor 13 = .ok (.aload_n 0, 1) := by decide +kernel
theorem dX3_isOnShutDoor_14 : decode cX3_isOnShutDoor 14 = .ok (.getfield 23, 3) := by decide +kernel
theorem dX3_isOnShutDoor_17 : decode cX3_isOnShutDoor 17 = .ok (.getfield 60, 3) := by decide +kernel
theorem dX3_isOnShutDoor_20 : decode cX3_isOnShutDoor 20 = .ok (.iload_n 2, 1) := by decide +kernel
theorem dX3_isOnShutDoor_21 : decode cX3_isOnShutDoor 21 = .ok (.aaload, 1) := by decide +kernel
theorem dX3_isOnShutDoor_22 : decode cX3_isOnShutDoor 22 = .ok (.astore_n 3, 1) := by decide +kernel
theorem dX3_isOnShutDoor_23 : decode cX3_isOnShutDoor 23 = .ok (.aload_n 3, 1) := by decide +kernel
theorem dX3_isOnShutDoor_24 : decode cX3_isOnShutDoor 24 = .ok (.getfield 64, 3) := by decide +kernel
theorem dX3_isOnShutDoor_27 : decode cX3_isOnShutDoor 27 = .ok (.ifCond .eq 24, 3) := by decide +kernel
theorem dX3_isOnShutDoor_30 : decode cX3_isOnShutDoor 30 = .ok (.aload_n 3, 1) := by decide +kernel
theorem dX3_isOnShutDoor_31 : decode cX3_isOnShutDoor 31 = .ok (.iload_n 1, 1) := by decide +kernel
theorem dX3_isOnShutDoor_32 : decode cX3_isOnShutDoor 32 = .ok (.invokestatic 50, 3) := by decide +kernel
theorem dX3_isOnShutDoor_35 : decode cX3_isOnShutDoor 35 = .ok (.iload_n 1, 1) := by decide +kernel
theorem dX3_isOnShutDoor_36 : decode cX3_isOnShutDoor 36 = .ok (.invokestatic 54, 3) := by decide +kernel
theorem dX3_isOnShutDoor_39 : decode cX3_isOnShutDoor 39 = .ok (.iload_n 1, 1) := by decide +kernel
theorem dX3_isOnShutDoor_40 : decode cX3_isOnShutDoor 40 = .ok (.invokestatic 57, 3) := by decide +kernel
theorem dX3_isOnShutDoor_43 : decode cX3_isOnShutDoor 43 = .ok (.invokevirtual 77, 3) := by decide +kernel
