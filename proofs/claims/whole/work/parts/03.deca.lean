theorem dX0_init_0 : decode cX0_init 0 = .ok (.aload_n 0, 1) := by decide +kernel
theorem dX0_init_1 : decode cX0_init 1 = .ok (.invokespecial 3, 3) := by decide +kernel
theorem dX0_init_4 : decode cX0_init 4 = .ok (.aload_n 0, 1) := by decide +kernel
theorem dX0_init_5 : decode cX0_init 5 = .ok (.aload_n 1, 1) := by decide +kernel
theorem dX0_init_6 : decode cX0_init 6 = .ok (.putfield 9, 3) := by decide +kernel
theorem dX0_init_9 : decode cX0_init 9 = .ok (.aload_n 0, 1) := by decide +kernel
theorem dX0_init_10 : decode cX0_init 10 = .ok (.iload_n 2, 1) := by decide +kernel
theorem dX0_init_11 : decode cX0_init 11 = .ok (.putfield 15, 3) := by decide +kernel
theorem dX0_init_14 : decode cX0_init 14 = .ok (.aload_n 0, 1) := by decide +kernel
theorem dX0_init_15 : decode cX0_init 15 = .ok (.iload_n 3, 1) := by decide +kernel
theorem dX0_init_16 : decode cX0_init 16 = .ok (.putfield 19, 3) := by decide +kernel
theorem dX0_init_19 : decode cX0_init 19 = .ok (.aload_n 0, 1) := by decide +kernel
theorem dX0_init_20 : decode cX0_init 20 = .ok (.aload 4, 2) := by decide +kernel
theorem dX0_init_22 : decode cX0_init 22 = .ok (.putfield 22, 3) := by decide +kernel
theorem dX0_init_25 : decode cX0_init 25 = .ok (.return_, 1) := by decide +kernel
theorem dX0_isOfGroup_0 : decode cX0_isOfGroup 0 = .ok (.aload_n 0, 1) := by decide +kernel
theorem dX0_isOfGroup_1 : decode cX0_isOfGroup 1 = .ok (.getfield 22, 3) := by decide +kernel
theorem dX0_isOfGroup_4 : decode cX0_isOfGroup 4 = .ok (.aload_n 1, 1) := by decide +kernel
theorem dX0_isOfGroup_5 : decode cX0_isOfGroup 5 = .ok (.getfield 22, 3) := by decide +kernel
theorem dX0_isOfGroup_8 : decode cX0_isOfGroup 8 = .ok (.if_acmp .ne 29, 3) := by decide +kernel
theorem dX0_isOfGroup_11 : decode cX0_isOfGroup 11 = .ok (.aload_n 0, 1) := by decide +kernel
theorem dX0_isOfGroup_12 : decode cX0_isOfGroup 12 = .ok (.getfield 9, 3) := by decide +kernel
theorem dX0_isOfGroup_15 : decode cX0_isOfGroup 15 = .ok (.aload_n 1, 1) := by decide +kernel
theorem dX0_isOfGroup_16 : decode cX0_isOfGroup 16 = .ok (.getfield 9, 3) := by decide +kernel
theorem dX0_isOfGroup_19 : decode cX0_isOfGroup 19 = .ok (.if_acmp .ne 18, 3) := by decide +kernel
theorem dX0_isOfGroup_22 : decode cX0_isOfGroup 22 = .ok (.aload_n 0, 1) := by decide +kernel
theorem dX0_isOfGroup_23 : decode cX0_isOfGroup 23 = .ok (.getfield 15, 3) := by decide +kernel
theorem dX0_isOfGroup_26 : decode cX0_isOfGroup 26 = .ok (.aload_n 1, 1) := by decide +kernel
theorem dX0_isOfGroup_27 : decode cX0_isOfGroup 27 = .ok (.getfield 15, 3) := by decide +kernel
theorem dX0_isOfGroup_30 : decode cX0_isOfGroup 30 = .ok (.if_icmp .ne 7, 3) := by decide +kernel
theorem dX0_isOfGroup_33 : decode cX0_isOfGroup 33 = .ok (.iconst 1, 1) := by decide +kernel
theorem dX0_isOfGroup_34 : decode cX0_isOfGroup 34 = .ok (.goto 4, 3) := by decide +kernel
theorem dX0_isOfGroup_37 : decode cX0_isOfGroup 37 = .ok (.iconst 0, 1) := by decide +kernel
theorem dX0_isOfGroup_38 : decode cX0_isOfGroup 38 = .ok (.ireturn, 1) := by decide +kernel
theorem dX0_limitedLoss_0 : decode cX0_limitedLoss 0 = .ok (.aload_n 0, 1) := by decide +kernel
theorem dX0_limitedLoss_1 : decode cX0_limitedLoss 1 = .ok (.getfield 26, 3) := by decide +kernel
theorem dX0_limitedLoss_4 : decode cX0_limitedLoss 4 = .ok (.ifCond .eq 10, 3) := by decide +kernel
theorem dX0_limitedLoss_7 : decode cX0_limitedLoss 7 = .ok (.aload_n 0, 1) := by decide +kernel
theorem dX0_limitedLoss_8 : decode cX0_limitedLoss 8 = .ok (.getfield 19, 3) := by decide +kernel
theorem dX0_limitedLoss_11 : decode cX0_limitedLoss 11 = .ok (.goto 21, 3) := by decide +kernel
theorem dX0_limitedLoss_14 : decode cX0_limitedLoss 14 = .ok (.aload_n 0, 1) := by decide +kernel
theorem dX0_limitedLoss_15 : decode cX0_limitedLoss 15 = .ok (.getfield 19, 3) := by decide +kernel
theorem dX0_limitedLoss_18 : decode cX0_limitedLoss 18 = .ok (.sipush 5000, 3) := by decide +kernel
theorem dX0_limitedLoss_21 : decode cX0_limitedLoss 21 = .ok (.aload_n 0, 1) := by decide +kernel
theorem dX0_limitedLoss_22 : decode cX0_limitedLoss 22 = .ok (.getfield 9, 3) := by decide +kernel
theorem dX0_limitedLoss_25 : decode cX0_limitedLoss 25 = .ok (.getfield 30, 3) := by decide +kernel
theorem dX0_limitedLoss_28 : decode cX0_limitedLoss 28 = .ok (.imul, 1) := by decide +kernel
theorem dX0_limitedLoss_29 : decode cX0_limitedLoss 29 = .ok (.invokestatic 35, 3) := by decide +kernel
theorem dX0_limitedLoss_32 : decode cX0_limitedLoss 32 = .ok (.ireturn, 1) := by decide +kernel
theorem dX0_holdsShips_0 : decode cX0_holdsShips 0 = .ok (.aload_n 0, 1) := by decide +kernel
theorem dX0_holdsShips_1 : decode cX0_holdsShips 1 = .ok (.getfield 41, 3) := by decide +kernel
theorem dX0_holdsShips_4 : decode cX0_holdsShips 4 = .ok (.ifCond .ne 18, 3) := by decide +kernel
theorem dX0_holdsShips_7 : decode cX0_holdsShips 7 = .ok (.aload_n 0, 1) := by decide +kernel
theorem dX0_holdsShips_8 : decode cX0_holdsShips 8 = .ok (.getfield 44, 3) := by decide +kernel
theorem dX0_holdsShips_11 : decode cX0_holdsShips 11 = .ok (.aload_n 0, 1) := by decide +kernel
theorem dX0_holdsShips_12 : decode cX0_holdsShips 12 = .ok (.getfield 19, 3) := by decide +kernel
theorem dX0_holdsShips_15 : decode cX0_holdsShips 15 = .ok (.if_icmp .ge 7, 3) := by decide +kernel
theorem dX0_holdsShips_18 : decode cX0_holdsShips 18 = .ok (.iconst 1, 1) := by decide +kernel
theorem dX0_holdsShips_19 : decode cX0_holdsShips 19 = .ok (.goto 4, 3) := by decide +kernel
theorem dX0_holdsShips_22 : decode cX0_holdsShips 22 = .ok (.iconst 0, 1) := by decide +kernel
theorem dX0_holdsShips_23 : decode cX0_holdsShips 23 = .ok (.ireturn, 1) := by decide +kernel
theorem dX1_init_0 : decode cX1_init 0 = .ok (.aload_n 0, 1) := by decide +kernel
theorem dX1_init_1 : decode cX1_init 1 = .ok (.invokespecial 3, 3) := by decide +kernel
theorem dX1_init_4 : decode cX1_init 4 = .ok (.aload_n 0, 1) := by decide +kernel
theorem dX1_init_5 : decode cX1_init 5 = .ok (.sipush 2000, 3) := by decide +kernel
theorem dX1_init_8 : decode cX1_init 8 = .ok (.putfield 9, 3) := by decide +kernel
theorem dX1_init_11 : decode cX1_init 11 = .ok (.aload_n 0, 1) := by decide +kernel
theorem dX1_init_12 : decode cX1_init 12 = .ok (.aload_n 1, 1) := by decide +kernel
theorem dX1_init_13 : decode cX1_init 13 = .ok (.putfield 15, 3) := by decide +kernel
theorem dX1_init_16 : decode cX1_init 16 = .ok (.aload_n 0, 1) := by decide +kernel
theorem dX1_init_17 : decode cX1_init 17 = .ok (.iload_n 2, 1) := by decide +kernel
theorem dX1_init_18 : decode cX1_init 18 = .ok (.putfield 19, 3) := by decide +kernel
theorem dX1_init_21 : decode cX1_init 21 = .ok (.return_, 1) := by decide +kernel
theorem dX1_isOn_0 : decode cX1_isOn 0 = .ok (.aload_n 0, 1) := by decide +kernel
theorem dX1_isOn_1 : decode cX1_isOn 1 = .ok (.getfield 19, 3) := by decide +kernel
theorem dX1_isOn_4 : decode cX1_isOn 4 = .ok (.iload_n 1, 1) := by decide +kernel
theorem dX1_isOn_5 : decode cX1_isOn 5 = .ok (.if_icmp .gt 15, 3) := by decide +kernel
theorem dX1_isOn_8 : decode cX1_isOn 8 = .ok (.iload_n 1, 1) := by decide +kernel
theorem dX1_isOn_9 : decode cX1_isOn 9 = .ok (.aload_n 0, 1) := by decide +kernel
theorem dX1_isOn_10 : decode cX1_isOn 10 = .ok (.getfield 9, 3) := by decide +kernel
theorem dX1_isOn_13 : decode cX1_isOn 13 = .ok (.if_icmp .ge 7, 3) := by decide +kernel
theorem dX1_isOn_16 : decode cX1_isOn 16 = .ok (.iconst 1, 1) := by decide +kernel
theorem dX1_isOn_17 : decode cX1_isOn 17 = .ok (.goto 4, 3) := by decide +kernel
theorem dX1_isOn_20 : decode cX1_isOn 20 = .ok (.iconst 0, 1) := by decide +kernel
theorem dX1_isOn_21 : decode cX1_isOn 21 = .ok (.ireturn, 1) := by decide +kernel
theorem dX1_daysIn_0 : decode cX1_daysIn 0 = .ok (.aload_n 0, 1) := by decide +kernel
theorem dX1_daysIn_1 : decode cX1_daysIn 1 = .ok (.getfield 19, 3) := by decide +kernel
theorem dX1_daysIn_4 : decode cX1_daysIn 4 = .ok (.iload_n 1, 1) := by decide +kernel
theorem dX1_daysIn_5 : decode cX1_daysIn 5 = .ok (.bipush 100, 2) := by decide +kernel
theorem dX1_daysIn_7 : decode cX1_daysIn 7 = .ok (.imul, 1) := by decide +kernel
theorem dX1_daysIn_8 : decode cX1_daysIn 8 = .ok (.invokestatic 22, 3) := by decide +kernel
theorem dX1_daysIn_11 : decode cX1_daysIn 11 = .ok (.istore_n 2, 1) := by decide +kernel
theorem dX1_daysIn_12 : decode cX1_daysIn 12 = .ok (.aload_n 0, 1) := by decide +kernel
theorem dX1_daysIn_13 : decode cX1_daysIn 13 = .ok (.getfield 9, 3) := by decide +kernel
theorem dX1_daysIn_16 : decode cX1_daysIn 16 = .ok (.iload_n 1, 1) := by decide +kernel
theorem dX1_daysIn_17 : decode cX1_daysIn 17 = .ok (.iconst 1, 1) := by decide +kernel
theorem dX1_daysIn_18 : decode cX1_daysIn 18 = .ok (.iadd, 1) := by decide +kernel
theorem dX1_daysIn_19 : decode cX1_daysIn 19 = .ok (.bipush 100, 2) := by decide +kernel
theorem dX1_daysIn_21 : decode cX1_daysIn 21 = .ok (.imul, 1) := by decide +kernel
theorem dX1_daysIn_22 : decode cX1_daysIn 22 = .ok (.invokestatic 28, 3) := by decide +kernel
theorem dX1_daysIn_25 : decode cX1_daysIn 25 = .ok (.istore_n 3, 1) := by decide +kernel
theorem dX1_daysIn_26 : decode cX1_daysIn 26 = .ok (.iload_n 3, 1) := by decide +kernel
theorem dX1_daysIn_27 : decode cX1_daysIn 27 = .ok (.iload_n 2, 1) := by decide +kernel
theorem dX1_daysIn_28 : decode cX1_daysIn 28 = .ok (.isub, 1) := by decide +kernel
theorem dX1_daysIn_29 : decode cX1_daysIn 29 = .ok (.iconst 0, 1) := by decide +kernel
theorem dX1_daysIn_30 : decode cX1_daysIn 30 = .ok (.invokestatic 22, 3) := by decide +kernel
theorem dX1_daysIn_33 : decode cX1_daysIn 33 = .ok (.ireturn, 1) := by decide +kernel
theorem dX2_init_0 : decode cX2_init 0 = .ok (.aload_n 0, 1) := by decide +kernel
theorem dX2_init_1 : decode cX2_init 1 = .ok (.invokespecial 1, 3) := by decide +kernel
theorem dX2_init_4 : decode cX2_init 4 = .ok (.aload_n 0, 1) := by decide +kernel
theorem dX2_init_5 : decode cX2_init 5 = .ok (.iload_n 1, 1) := by decide +kernel
theorem dX2_init_6 : decode cX2_init 6 = .ok (.putfield 7, 3) := by decide +kernel
theorem dX2_init_9 : decode cX2_init 9 = .ok (.aload_n 0, 1) := by decide +kernel
theorem dX2_init_10 : decode cX2_init 10 = .ok (.iload_n 2, 1) := by decide +kernel
theorem dX2_init_11 : decode cX2_init 11 = .ok (.putfield 13, 3) := by decide +kernel
theorem dX2_init_14 : decode cX2_init 14 = .ok (.return_, 1) := by decide +kernel
set_option maxRecDepth 20000 in
theorem ggX3_init_J7_fill_53178 : GoodIn wsX3_init wsJ7_fill_53178 := goodIn_r _ [14] (by decide +kernel) (by decide +kernel)
set_option maxRecDepth 20000 in
theorem gX3_init_J7_fill_53178 : GoodIn wsX3_init (va_wsS RX3 27 yJ7_fill_53178 wsJ7_fill_53178) := goodIn_app (goodIn_of _ (by decide +kernel)) ggX3_init_J7_fill_53178
theorem dX3_init_0 : decode cX3_init 0 = .ok (.aload_n 0, 1) := by decide +kernel
theorem dX3_init_1 : decode cX3_init 1 = .ok (.invokespecial 3, 3) := by decide +kernel
theorem dX3_init_4 : decode cX3_init 4 = .ok (.aload_n 0, 1) := by decide +kernel
theorem dX3_init_5 : decode cX3_init 5 = .ok (.bipush 20, 2) := by decide +kernel
theorem dX3_init_7 : decode cX3_init 7 = .ok (.newarray .int, 2) := by decide +kernel
theorem dX3_init_9 : decode cX3_init 9 = .ok (.putfield 9, 3) := by decide +kernel
theorem dX3_init_12 : decode cX3_init 12 = .ok (.aload_n 0, 1) := by decide +kernel
theorem dX3_init_13 : decode cX3_init 13 = .ok (.bipush 20, 2) := by decide +kernel
theorem dX3_init_15 : decode cX3_init 15 = .ok (.newarray .boolean, 2) := by decide +kernel
theorem dX3_init_17 : decode cX3_init 17 = .ok (.putfield 15, 3) := by decide +kernel
theorem dX3_init_20 : decode cX3_init 20 = .ok (.aload_n 0, 1) := by decide +kernel
theorem dX3_init_21 : decode cX3_init 21 = .ok (.bipush 20, 2) := by decide +kernel
theorem dX3_init_23 : decode cX3_init 23 = .ok (.newarray .long, 2) := by decide +kernel
theorem dX3_init_25 : decode cX3_init 25 = .ok (.putfield 19, 3) := by decide +kernel
theorem dX3_init_28 : decode cX3_init 28 = .ok (.aload_n 0, 1) := by decide +kernel
theorem dX3_init_29 : decode cX3_init 29 = .ok (.iconst (-1), 1) := by decide +kernel
theorem dX3_init_30 : decode cX3_init 30 = .ok (.putfield 23, 3) := by decide +kernel
theorem dX3_init_33 : decode cX3_init 33 = .ok (.aload_n 0, 1) := by decide +kernel
theorem dX3_init_34 : decode cX3_init 34 = .ok (.getfield 9, 3) := by decide +kernel
theorem dX3_init_37 : decode cX3_init 37 = .ok (.bipush 100, 2) := by decide +kernel
theorem dX3_init_39 : decode cX3_init 39 = .ok (.invokestatic 27, 3) := by decide +kernel
theorem dX3_init_42 : decode cX3_init 42 = .ok (.return_, 1) := by decide +kernel
theorem dX3_rated_0 : decode cX3_rated 0 = .ok (.lload_n 1, 1) := by decide +kernel
theorem dX3_rated_1 : decode cX3_rated 1 = .ok (.aload_n 0, 1) := by decide +kernel
theorem dX3_rated_2 : decode cX3_rated 2 = .ok (.getfield 9, 3) := by decide +kernel
theorem dX3_rated_5 : decode cX3_rated 5 = .ok (.iload_n 3, 1) := by decide +kernel
theorem dX3_rated_6 : decode cX3_rated 6 = .ok (.iaload, 1) := by decide +kernel
theorem dX3_rated_7 : decode cX3_rated 7 = .ok (.i2l, 1) := by decide +kernel
theorem dX3_rated_8 : decode cX3_rated 8 = .ok (.lmul, 1) := by decide +kernel
theorem dX3_rated_9 : decode cX3_rated 9 = .ok (.ldc2_w 33, 3) := by decide +kernel
theorem dX3_rated_12 : decode cX3_rated 12 = .ok (.ldiv, 1) := by decide +kernel
theorem dX3_rated_13 : decode cX3_rated 13 = .ok (.lreturn, 1) := by decide +kernel
theorem dX3_isStoppedOn_0 : decode cX3_isStoppedOn 0 = .ok (.aload_n 0, 1) := by decide +kernel
theorem dX3_isStoppedOn_1 : decode cX3_isStoppedOn 1 = .ok (.getfield 23, 3) := by decide +kernel
theorem dX3_isStoppedOn_4 : decode cX3_isStoppedOn 4 = .ok (.iconst (-1), 1) := by decide +kernel
theorem dX3_isStoppedOn_5 : decode cX3_isStoppedOn 5 = .ok (.if_icmp .eq 15, 3) := by decide +kernel
theorem dX3_isStoppedOn_8 : decode cX3_isStoppedOn 8 = .ok (.aload_n 0, 1) := by decide +kernel
theorem dX3_isStoppedOn_9 : decode cX3_isStoppedOn 9 = .ok (.getfield 23, 3) := by decide +kernel
theorem dX3_isStoppedOn_12 : decode cX3_isStoppedOn 12 = .ok (.iload_n 1, 1) := by decide +kernel
theorem dX3_isStoppedOn_13 : decode cX3_isStoppedOn 13 = .ok (.if_icmp .gt 7, 3) := by decide +kernel
theorem dX3_isStoppedOn_16 : decode cX3_isStoppedOn 16 = .ok (.iconst 1, 1) := by decide +kernel
theorem dX3_isStoppedOn_17 : decode cX3_isStoppedOn 17 = .ok (.goto 4, 3) := by decide +kernel
theorem dX3_isStoppedOn_20 : decode cX3_isStoppedOn 20 = .ok (.iconst 0, 1) := by decide +kernel
theorem dX3_isStoppedOn_21 : decode cX3_isStoppedOn 21 = .ok (.ireturn, 1) := by decide +kernel
set_option maxRecDepth 20000 in
theorem ggX4_init_J7_fill_53178 : GoodIn wsX4_init wsJ7_fill_53178 := goodIn_r _ [10] (by decide +kernel) (by decide +kernel)
set_option maxRecDepth 20000 in
theorem gX4_init_J7_fill_53178 : GoodIn wsX4_init (va_wsS RX4 18 yJ7_fill_53178 wsJ7_fill_53178) := goodIn_app (goodIn_of _ (by decide +kernel)) ggX4_init_J7_fill_53178
theorem dX4_init_0 : decode cX4_init 0 = .ok (.aload_n 0, 1) := by decide +kernel
theorem dX4_init_1 : decode cX4_init 1 = .ok (.invokespecial 3, 3) := by decide +kernel
theorem dX4_init_4 : decode cX4_init 4 = .ok (.aload_n 0, 1) := by decide +kernel
theorem dX4_init_5 : decode cX4_init 5 = .ok (.bipush 80, 2) := by decide +kernel
theorem dX4_init_7 : decode cX4_init 7 = .ok (.newarray .int, 2) := by decide +kernel
theorem dX4_init_9 : decode cX4_init 9 = .ok (.putfield 9, 3) := by decide +kernel
theorem dX4_init_12 : decode cX4_init 12 = .ok (.aload_n 0, 1) := by decide +kernel
theorem dX4_init_13 : decode cX4_init 13 = .ok (.bipush 80, 2) := by decide +kernel
theorem dX4_init_15 : decode cX4_init 15 = .ok (.newarray .int, 2) := by decide +kernel
theorem dX4_init_17 : decode cX4_init 17 = .ok (.putfield 15, 3) := by decide +kernel
theorem dX4_init_20 : decode cX4_init 20 = .ok (.aload_n 0, 1) := by decide +kernel
theorem dX4_init_21 : decode cX4_init 21 = .ok (.getfield 15, 3) := by decide +kernel
theorem dX4_init_24 : decode cX4_init 24 = .ok (.iconst (-1), 1) := by decide +kernel
theorem dX4_init_25 : decode cX4_init 25 = .ok (.invokestatic 18, 3) := by decide +kernel
theorem dX4_init_28 : decode cX4_init 28 = .ok (.return_, 1) := by decide +kernel
theorem dX4_tell_0 : decode cX4_tell 0 = .ok (.aload_n 0, 1) := by decide +kernel
theorem dX4_tell_1 : decode cX4_tell 1 = .ok (.getfield 9, 3) := by decide +kernel
theorem dX4_tell_4 : decode cX4_tell 4 = .ok (.iload_n 1, 1) := by decide +kernel
theorem dX4_tell_5 : decode cX4_tell 5 = .ok (.bipush 20, 2) := by decide +kernel
theorem dX4_tell_7 : decode cX4_tell 7 = .ok (.imul, 1) := by decide +kernel
theorem dX4_tell_8 : decode cX4_tell 8 = .ok (.iload_n 2, 1) := by decide +kernel
theorem dX4_tell_9 : decode cX4_tell 9 = .ok (.iadd, 1) := by decide +kernel
theorem dX4_tell_10 : decode cX4_tell 10 = .ok (.iload_n 3, 1) := by decide +kernel
theorem dX4_tell_11 : decode cX4_tell 11 = .ok (.iastore, 1) := by decide +kernel
theorem dX4_tell_12 : decode cX4_tell 12 = .ok (.aload_n 0, 1) := by decide +kernel
theorem dX4_tell_13 : decode cX4_tell 13 = .ok (.getfield 15, 3) := by decide +kernel
theorem dX4_tell_16 : decode cX4_tell 16 = .ok (.iload_n 1, 1) := by decide +kernel
theorem dX4_tell_17 : decode cX4_tell 17 = .ok (.bipush 20, 2) := by decide +kernel
theorem dX4_tell_19 : decode cX4_tell 19 = .ok (.imul, 1) := by decide +kernel
theorem dX4_tell_20 : decode cX4_tell 20 = .ok (.iload_n 2, 1) := by decide +kernel
theorem dX4_tell_21 : decode cX4_tell 21 = .ok (.iadd, 1) := by decide +kernel
theorem dX4_tell_22 : decode cX4_tell 22 = .ok (.iload 4, 2) := by decide +kernel
theorem dX4_tell_24 : decode cX4_tell 24 = .ok (.iastore, 1) := by decide +kernel
theorem dX4_tell_25 : decode cX4_tell 25 = .ok (.return_, 1) := by decide +kernel
theorem dX4_applied_0 : decode cX4_applied 0 = .ok (.iload_n 1, 1) := by decide +kernel
theorem dX4_applied_1 : decode cX4_applied 1 = .ok (.bipush 20, 2) := by decide +kernel
theorem dX4_applied_3 : decode cX4_applied 3 = .ok (.imul, 1) := by decide +kernel
theorem dX4_applied_4 : decode cX4_applied 4 = .ok (.istore 5, 2) := by decide +kernel
theorem dX4_applied_6 : decode cX4_applied 6 = .ok (.iload 5, 2) := by decide +kernel
theorem dX4_applied_8 : decode cX4_applied 8 = .ok (.iload_n 2, 1) := by decide +kernel
theorem dX4_applied_9 : decode cX4_applied 9 = .ok (.iadd, 1) := by decide +kernel
theorem dX4_applied_10 : decode cX4_applied 10 = .ok (.istore 6, 2) := by decide +kernel
theorem dX4_applied_12 : decode cX4_applied 12 = .ok (.iload 6, 2) := by decide +kernel
theorem dX4_applied_14 : decode cX4_applied 14 = .ok (.iload 5, 2) := by decide +kernel
theorem dX4_applied_16 : decode cX4_applied 16 = .ok (.if_icmp .lt 46, 3) := by decide +kernel
theorem dX4_applied_19 : decode cX4_applied 19 = .ok (.aload_n 0, 1) := by decide +kernel
theorem dX4_applied_20 : decode cX4_applied 20 = .ok (.getfield 15, 3) := by decide +kernel
theorem dX4_applied_23 : decode cX4_applied 23 = .ok (.iload 6, 2) := by decide +kernel
theorem dX4_applied_25 : decode cX4_applied 25 = .ok (.iaload, 1) := by decide +kernel
theorem dX4_applied_26 : decode cX4_applied 26 = .ok (.iconst (-1), 1) := by decide +kernel
theorem dX4_applied_27 : decode cX4_applied 27 = .ok (.if_icmp .eq 29, 3) := by decide +kernel
theorem dX4_applied_30 : decode cX4_applied 30 = .ok (.lload_n 3, 1) := by decide +kernel
theorem dX4_applied_31 : decode cX4_applied 31 = .ok (.aload_n 0, 1) := by decide +kernel
theorem dX4_applied_32 : decode cX4_applied 32 = .ok (.getfield 15, 3) := by decide +kernel
theorem dX4_applied_35 : decode cX4_applied 35 = .ok (.iload 6, 2) := by decide +kernel
theorem dX4_applied_37 : decode cX4_applied 37 = .ok (.iaload, 1) := by decide +kernel
theorem dX4_applied_38 : decode cX4_applied 38 = .ok (.i2l, 1) := by decide +kernel
theorem dX4_applied_39 : decode cX4_applied 39 = .ok (.invokestatic 24, 3) := by decide +kernel
theorem dX4_applied_42 : decode cX4_applied 42 = .ok (.aload_n 0, 1) := by decide +kernel
theorem dX4_applied_43 : decode cX4_applied 43 = .ok (.getfield 9, 3) := by decide +kernel
theorem dX4_applied_46 : decode cX4_applied 46 = .ok (.iload 6, 2) := by decide +kernel
theorem dX4_applied_48 : decode cX4_applied 48 = .ok (.iaload, 1) := by decide +kernel
theorem dX4_applied_49 : decode cX4_applied 49 = .ok (.i2l, 1) := by decide +kernel
theorem dX4_applied_50 : decode cX4_applied 50 = .ok (.lsub, 1) := by decide +kernel
theorem dX4_applied_51 : decode cX4_applied 51 = .ok (.lconst 0, 1) := by decide +kernel
theorem dX4_applied_52 : decode cX4_applied 52 = .ok (.invokestatic 30, 3) := by decide +kernel
theorem dX4_applied_55 : decode cX4_applied 55 = .ok (.lreturn, 1) := by decide +kernel
theorem dX4_applied_56 : decode cX4_applied 56 = .ok (.iinc 6 (-1), 3) := by decide +kernel
theorem dX4_applied_59 : decode cX4_applied 59 = .ok (.goto (-47), 3) := by decide +kernel
theorem dX4_applied_62 : decode cX4_applied 62 = .ok (.lload_n 3, 1) := by decide +kernel
theorem dX4_applied_63 : decode cX4_applied 63 = .ok (.ldc2_w 33, 3) := by decide +kernel
theorem dX4_applied_66 : decode cX4_applied 66 = .ok (.invokestatic 24, 3) := by decide +kernel
theorem dX4_applied_69 : decode cX4_applied 69 = .ok (.lreturn, 1) := by decide +kernel
theorem dX5_init_0 : decode cX5_init 0 = .ok (.aload_n 0, 1) := by decide +kernel
theorem dX5_init_1 : decode cX5_init 1 = .ok (.invokespecial 1, 3) := by decide +kernel
theorem dX5_init_4 : decode cX5_init 4 = .ok (.aload_n 0, 1) := by decide +kernel
theorem dX5_init_5 : decode cX5_init 5 = .ok (.aload_n 1, 1) := by decide +kernel
theorem dX5_init_6 : decode cX5_init 6 = .ok (.putfield 7, 3) := by decide +kernel
theorem dX5_init_9 : decode cX5_init 9 = .ok (.aload_n 0, 1) := by decide +kernel
theorem dX5_init_10 : decode cX5_init 10 = .ok (.iload_n 2, 1) := by decide +kernel
theorem dX5_init_11 : decode cX5_init 11 = .ok (.putfield 13, 3) := by decide +kernel
theorem dX5_init_14 : decode cX5_init 14 = .ok (.return_, 1) := by decide +kernel
theorem dX6_init_0 : decode cX6_init 0 = .ok (.aload_n 0, 1) := by decide +kernel
theorem dX6_init_1 : decode cX6_init 1 = .ok (.invokespecial 1, 3) := by decide +kernel
theorem dX6_init_4 : decode cX6_init 4 = .ok (.return_, 1) := by decide +kernel
theorem dX6_tellPool_0 : decode cX6_tellPool 0 = .ok (.aload_n 0, 1) := by decide +kernel
theorem dX6_tellPool_1 : decode cX6_tellPool 1 = .ok (.iconst 1, 1) := by decide +kernel
theorem dX6_tellPool_2 : decode cX6_tellPool 2 = .ok (.putfield 7, 3) := by decide +kernel
theorem dX6_tellPool_5 : decode cX6_tellPool 5 = .ok (.aload_n 0, 1) := by decide +kernel
theorem dX6_tellPool_6 : decode cX6_tellPool 6 = .ok (.iload_n 1, 1) := by decide +kernel
theorem dX6_tellPool_7 : decode cX6_tellPool 7 = .ok (.putfield 13, 3) := by decide +kernel
theorem dX6_tellPool_10 : decode cX6_tellPool 10 = .ok (.aload_n 0, 1) := by decide +kernel
theorem dX6_tellPool_11 : decode cX6_tellPool 11 = .ok (.iload_n 2, 1) := by decide +kernel
theorem dX6_tellPool_12 : decode cX6_tellPool 12 = .ok (.putfield 17, 3) := by decide +kernel
theorem dX6_tellPool_15 : decode cX6_tellPool 15 = .ok (.aload_n 0, 1) := by decide +kernel
theorem dX6_tellPool_16 : decode cX6_tellPool 16 = .ok (.iload_n 3, 1) := by decide +kernel
theorem dX6_tellPool_17 : decode cX6_tellPool 17 = .ok (.putfield 20, 3) := by decide +kernel
theorem dX6_tellPool_20 : decode cX6_tellPool 20 = .ok (.return_, 1) := by decide +kernel
theorem dX6_borneOf_0 : decode cX6_borneOf 0 = .ok (.aload_n 0, 1) := by decide +kernel
theorem dX6_borneOf_1 : decode cX6_borneOf 1 = .ok (.getfield 7, 3) := by decide +kernel
theorem dX6_borneOf_4 : decode cX6_borneOf 4 = .ok (.ifCond .eq 13, 3) := by decide +kernel
theorem dX6_borneOf_7 : decode cX6_borneOf 7 = .ok (.lload_n 1, 1) := by decide +kernel
theorem dX6_borneOf_8 : decode cX6_borneOf 8 = .ok (.aload_n 0, 1) := by decide +kernel
theorem dX6_borneOf_9 : decode cX6_borneOf 9 = .ok (.getfield 13, 3) := by decide +kernel
theorem dX6_borneOf_12 : decode cX6_borneOf 12 = .ok (.i2l, 1) := by decide +kernel
theorem dX6_borneOf_13 : decode cX6_borneOf 13 = .ok (.lcmp, 1) := by decide +kernel
theorem dX6_borneOf_14 : decode cX6_borneOf 14 = .ok (.ifCond .gt 5, 3) := by decide +kernel
theorem dX6_borneOf_17 : decode cX6_borneOf 17 = .ok (.lload_n 1, 1) := by decide +kernel
theorem dX6_borneOf_18 : decode cX6_borneOf 18 = .ok (.lreturn, 1) := by decide +kernel
theorem dX6_borneOf_19 : decode cX6_borneOf 19 = .ok (.lload_n 1, 1) := by decide +kernel
theorem dX6_borneOf_20 : decode cX6_borneOf 20 = .ok (.aload_n 0, 1) := by decide +kernel
theorem dX6_borneOf_21 : decode cX6_borneOf 21 = .ok (.getfield 17, 3) := by decide +kernel
theorem dX6_borneOf_24 : decode cX6_borneOf 24 = .ok (.i2l, 1) := by decide +kernel
theorem dX6_borneOf_25 : decode cX6_borneOf 25 = .ok (.invokestatic 23, 3) := by decide +kernel
theorem dX6_borneOf_28 : decode cX6_borneOf 28 = .ok (.aload_n 0, 1) := by decide +kernel
theorem dX6_borneOf_29 : decode cX6_borneOf 29 = .ok (.getfield 13, 3) := by decide +kernel
theorem dX6_borneOf_32 : decode cX6_borneOf 32 = .ok (.i2l, 1) := by decide +kernel
theorem dX6_borneOf_33 : decode cX6_borneOf 33 = .ok (.lsub, 1) := by decide +kernel
theorem dX6_borneOf_34 : decode cX6_borneOf 34 = .ok (.lstore_n 3, 1) := by decide +kernel
theorem dX6_borneOf_35 : decode cX6_borneOf 35 = .ok (.aload_n 0, 1) := by decide +kernel
theorem dX6_borneOf_36 : decode cX6_borneOf 36 = .ok (.getfield 13, 3) := by decide +kernel
theorem dX6_borneOf_39 : decode cX6_borneOf 39 = .ok (.i2l, 1) := by decide +kernel
theorem dX6_borneOf_40 : decode cX6_borneOf 40 = .ok (.lload_n 3, 1) := by decide +kernel
theorem dX6_borneOf_41 : decode cX6_borneOf 41 = .ok (.aload_n 0, 1) := by decide +kernel
theorem dX6_borneOf_42 : decode cX6_borneOf 42 = .ok (.getfield 20, 3) := by decide +kernel
theorem dX6_borneOf_45 : decode cX6_borneOf 45 = .ok (.i2l, 1) := by decide +kernel
theorem dX6_borneOf_46 : decode cX6_borneOf 46 = .ok (.lmul, 1) := by decide +kernel
theorem dX6_borneOf_47 : decode cX6_borneOf 47 = .ok (.ldc2_w 29, 3) := by decide +kernel
theorem dX6_borneOf_50 : decode cX6_borneOf 50 = .ok (.ldiv, 1) := by decide +kernel
theorem dX6_borneOf_51 : decode cX6_borneOf 51 = .ok (.ladd, 1) := by decide +kernel
theorem dX6_borneOf_52 : decode cX6_borneOf 52 = .ok (.lload_n 1, 1) := by decide +kernel
theorem dX6_borneOf_53 : decode cX6_borneOf 53 = .ok (.aload_n 0, 1) := by decide +kernel
theorem dX6_borneOf_54 : decode cX6_borneOf 54 = .ok (.getfield 17, 3) := by decide +kernel
theorem dX6_borneOf_57 : decode cX6_borneOf 57 = .ok (.i2l, 1) := by decide +kernel
theorem dX6_borneOf_58 : decode cX6_borneOf 58 = .ok (.lsub, 1) := by decide +kernel
theorem dX6_borneOf_59 : decode cX6_borneOf 59 = .ok (.lconst 0, 1) := by decide +kernel
theorem dX6_borneOf_60 : decode cX6_borneOf 60 = .ok (.invokestatic 31, 3) := by decide +kernel
theorem dX6_borneOf_63 : decode cX6_borneOf 63 = .ok (.ladd, 1) := by decide +kernel
theorem dX6_borneOf_64 : decode cX6_borneOf 64 = .ok (.lreturn, 1) := by decide +kernel
theorem dJ9_floorDiv_f86c9_0 : decode cJ9_floorDiv_f86c9 0 = .ok (.lload_n 0, 1) := by decide +kernel
theorem dJ9_floorDiv_f86c9_1 : decode cJ9_floorDiv_f86c9 1 = .ok (.lload_n 2, 1) := by decide +kernel
theorem dJ9_floorDiv_f86c9_2 : decode cJ9_floorDiv_f86c9 2 = .ok (.ldiv, 1) := by decide +kernel
theorem dJ9_floorDiv_f86c9_3 : decode cJ9_floorDiv_f86c9 3 = .ok (.lstore 4, 2) := by decide +kernel
theorem dJ9_floorDiv_f86c9_5 : decode cJ9_floorDiv_f86c9 5 = .ok (.lload_n 0, 1) := by decide +kernel
theorem dJ9_floorDiv_f86c9_6 : decode cJ9_floorDiv_f86c9 6 = .ok (.lload_n 2, 1) := by decide +kernel
theorem dJ9_floorDiv_f86c9_7 : decode cJ9_floorDiv_f86c9 7 = .ok (.lxor, 1) := by decide +kernel
theorem dJ9_floorDiv_f86c9_8 : decode cJ9_floorDiv_f86c9 8 = .ok (.lconst 0, 1) := by decide +kernel
theorem dJ9_floorDiv_f86c9_9 : decode cJ9_floorDiv_f86c9 9 = .ok (.lcmp, 1) := by decide +kernel
theorem dJ9_floorDiv_f86c9_10 : decode cJ9_floorDiv_f86c9 10 = .ok (.ifCond .ge 17, 3) := by decide +kernel
theorem dJ9_floorDiv_f86c9_13 : decode cJ9_floorDiv_f86c9 13 = .ok (.lload 4, 2) := by decide +kernel
theorem dJ9_floorDiv_f86c9_15 : decode cJ9_floorDiv_f86c9 15 = .ok (.lload_n 2, 1) := by decide +kernel
theorem dJ9_floorDiv_f86c9_16 : decode cJ9_floorDiv_f86c9 16 = .ok (.lmul, 1) := by decide +kernel
theorem dJ9_floorDiv_f86c9_17 : decode cJ9_floorDiv_f86c9 17 = .ok (.lload_n 0, 1) := by decide +kernel
theorem dJ9_floorDiv_f86c9_18 : decode cJ9_floorDiv_f86c9 18 = .ok (.lcmp, 1) := by decide +kernel
theorem dJ9_floorDiv_f86c9_19 : decode cJ9_floorDiv_f86c9 19 = .ok (.ifCond .eq 8, 3) := by decide +kernel
theorem dJ9_floorDiv_f86c9_22 : decode cJ9_floorDiv_f86c9 22 = .ok (.lload 4, 2) := by decide +kernel
theorem dJ9_floorDiv_f86c9_24 : decode cJ9_floorDiv_f86c9 24 = .ok (.lconst 1, 1) := by decide +kernel
theorem dJ9_floorDiv_f86c9_25 : decode cJ9_floorDiv_f86c9 25 = .ok (.lsub, 1) := by decide +kernel
theorem dJ9_floorDiv_f86c9_26 : decode cJ9_floorDiv_f86c9 26 = .ok (.lreturn, 1) := by decide +kernel
theorem dJ9_floorDiv_f86c9_27 : decode cJ9_floorDiv_f86c9 27 = .ok (.lload 4, 2) := by decide +kernel
theorem dJ9_floorDiv_f86c9_29 : decode cJ9_floorDiv_f86c9 29 = .ok (.lreturn, 1) := by decide +kernel
theorem dJ9_max_7cf53_0 : decode cJ9_max_7cf53 0 = .ok (.iload_n 0, 1) := by decide +kernel
theorem dJ9_max_7cf53_1 : decode cJ9_max_7cf53 1 = .ok (.iload_n 1, 1) := by decide +kernel
theorem dJ9_max_7cf53_2 : decode cJ9_max_7cf53 2 = .ok (.if_icmp .lt 7, 3) := by decide +kernel
theorem dJ9_max_7cf53_5 : decode cJ9_max_7cf53 5 = .ok (.iload_n 0, 1) := by decide +kernel
theorem dJ9_max_7cf53_6 : decode cJ9_max_7cf53 6 = .ok (.goto 4, 3) := by decide +kernel
theorem dJ9_max_7cf53_9 : decode cJ9_max_7cf53 9 = .ok (.iload_n 1, 1) := by decide +kernel
theorem dJ9_max_7cf53_10 : decode cJ9_max_7cf53 10 = .ok (.ireturn, 1) := by decide +kernel
theorem dJ9_max_f86c9_0 : decode cJ9_max_f86c9 0 = .ok (.lload_n 0, 1) := by decide +kernel
theorem dJ9_max_f86c9_1 : decode cJ9_max_f86c9 1 = .ok (.lload_n 2, 1) := by decide +kernel
theorem dJ9_max_f86c9_2 : decode cJ9_max_f86c9 2 = .ok (.lcmp, 1) := by decide +kernel
theorem dJ9_max_f86c9_3 : decode cJ9_max_f86c9 3 = .ok (.ifCond .lt 7, 3) := by decide +kernel
theorem dJ9_max_f86c9_6 : decode cJ9_max_f86c9 6 = .ok (.lload_n 0, 1) := by decide +kernel
theorem dJ9_max_f86c9_7 : decode cJ9_max_f86c9 7 = .ok (.goto 4, 3) := by decide +kernel
theorem dJ9_max_f86c9_10 : decode cJ9_max_f86c9 10 = .ok (.lload_n 2, 1) := by decide +kernel
theorem dJ9_max_f86c9_11 : decode cJ9_max_f86c9 11 = .ok (.lreturn, 1) := by decide +kernel
theorem dJ9_min_7cf53_0 : decode cJ9_min_7cf53 0 = .ok (.iload_n 0, 1) := by decide +kernel
theorem dJ9_min_7cf53_1 : decode cJ9_min_7cf53 1 = .ok (.iload_n 1, 1) := by decide +kernel
theorem dJ9_min_7cf53_2 : decode cJ9_min_7cf53 2 = .ok (.if_icmp .gt 7, 3) := by decide +kernel
theorem dJ9_min_7cf53_5 : decode cJ9_min_7cf53 5 = .ok (.iload_n 0, 1) := by decide +kernel
theorem dJ9_min_7cf53_6 : decode cJ9_min_7cf53 6 = .ok (.goto 4, 3) := by decide +kernel
theorem dJ9_min_7cf53_9 : decode cJ9_min_7cf53 9 = .ok (.iload_n 1, 1) := by decide +kernel
theorem dJ9_min_7cf53_10 : decode cJ9_min_7cf53 10 = .ok (.ireturn, 1) := by decide +kernel
theorem dJ9_min_f86c9_0 : decode cJ9_min_f86c9 0 = .ok (.lload_n 0, 1) := by decide +kernel
theorem dJ9_min_f86c9_1 : decode cJ9_min_f86c9 1 = .ok (.lload_n 2, 1) := by decide +kernel
theorem dJ9_min_f86c9_2 : decode cJ9_min_f86c9 2 = .ok (.lcmp, 1) := by decide +kernel
theorem dJ9_min_f86c9_3 : decode cJ9_min_f86c9 3 = .ok (.ifCond .gt 7, 3) := by decide +kernel
theorem dJ9_min_f86c9_6 : decode cJ9_min_f86c9 6 = .ok (.lload_n 0, 1) := by decide +kernel
theorem dJ9_min_f86c9_7 : decode cJ9_min_f86c9 7 = .ok (.goto 4, 3) := by decide +kernel
theorem dJ9_min_f86c9_10 : decode cJ9_min_f86c9 10 = .ok (.lload_n 2, 1) := by decide +kernel
theorem dJ9_min_f86c9_11 : decode cJ9_min_f86c9 11 = .ok (.lreturn, 1) := by decide +kernel
theorem dJ7_fill_53178_0 : decode cJ7_fill_53178 0 = .ok (.iconst 0, 1) := by decide +kernel
theorem dJ7_fill_53178_1 : decode cJ7_fill_53178 1 = .ok (.istore_n 2, 1) := by decide +kernel
theorem dJ7_fill_53178_2 : decode cJ7_fill_53178 2 = .ok (.aload_n 0, 1) := by decide +kernel
theorem dJ7_fill_53178_3 : decode cJ7_fill_53178 3 = .ok (.arraylength, 1) := by decide +kernel
theorem dJ7_fill_53178_4 : decode cJ7_fill_53178 4 = .ok (.istore_n 3, 1) := by decide +kernel
theorem dJ7_fill_53178_5 : decode cJ7_fill_53178 5 = .ok (.iload_n 2, 1) := by decide +kernel
theorem dJ7_fill_53178_6 : decode cJ7_fill_53178 6 = .ok (.iload_n 3, 1) := by decide +kernel
theorem dJ7_fill_53178_7 : decode cJ7_fill_53178 7 = .ok (.if_icmp .ge 13, 3) := by decide +kernel
theorem dJ7_fill_53178_10 : decode cJ7_fill_53178 10 = .ok (.aload_n 0, 1) := by decide +kernel
theorem dJ7_fill_53178_11 : decode cJ7_fill_53178 11 = .ok (.iload_n 2, 1) := by decide +kernel
theorem dJ7_fill_53178_12 : decode cJ7_fill_53178 12 = .ok (.iload_n 1, 1) := by decide +kernel
theorem dJ7_fill_53178_13 : decode cJ7_fill_53178 13 = .ok (.iastore, 1) := by decide +kernel
theorem dJ7_fill_53178_14 : decode cJ7_fill_53178 14 = .ok (.iinc 2 1, 3) := by decide +kernel
theorem dJ7_fill_53178_17 : decode cJ7_fill_53178 17 = .ok (.goto (-12), 3) := by decide +kernel
theorem dJ7_fill_53178_20 : decode cJ7_fill_53178 20 = .ok (.return_, 1) := by decide +kernel
