theorem dX0_init_0 : decode cX0_init 0 = .ok (.aload_n 0, 1) := by decide +kernel
theorem dX0_init_1 : decode cX0_init 1 = .ok (.invokespecial 3, 3) := by decide +kernel
theorem dX0_init_4 : decode cX0_init 4 = .ok (.aload_n 0, 1) := by decide +kernel
theorem dX0_init_5 : decode cX0_init 5 = .ok (.aload_n 1, 1) := by decide +kernel
theorem dX0_init_6 : decode cX0_init 6 = .ok (.putfield 9, 3) := by decide +kernel
theorem dX0_init_9 : decode cX0_init 9 = .ok (.aload_n 0, 1) := by decide +kernel
theorem dX0_init_10 : decode cX0_init 10 = .ok (.iload_n 2, 1) := by decide +kernel
theorem dX0_init_11 : decode cX0_init 11 = .ok (.putfield 15, 3) := by decide +kernel
theorem dX0_init_14 : decode cX0_init 14 = .ok (.aload_n 0, 1) := by decide +kernel
theorem dX0_init_15 : decode cX0_init 15 = .ok (.iload_n 3, 1) := by decide +kernel
theorem dX0_init_16 : decode cX0_init 16 = .ok (.putfield 19, 3) := by decide +kernel
theorem dX0_init_19 : decode cX0_init 19 = .ok (.aload_n 0, 1) := by decide +kernel
theorem dX0_init_20 : decode cX0_init 20 = .ok (.aload 4, 2) := by decide +kernel
theorem dX0_init_22 : decode cX0_init 22 = .ok (.putfield 22, 3) := by decide +kernel
theorem dX0_init_25 : decode cX0_init 25 = .ok (.return_, 1) := by decide +kernel
theorem dX0_isOfGroup_0 : decode cX0_isOfGroup 0 = .ok (.aload_n 0, 1) := by decide +kernel
theorem dX0_isOfGroup_1 : decode cX0_isOfGroup 1 = .ok (.getfield 22, 3) := by decide +kernel
theorem dX0_isOfGroup_4 : decode cX0_isOfGroup 4 = .ok (.aload_n 1, 1) := by decide +kernel
theorem dX0_isOfGroup_5 : decode cX0_isOfGroup 5 = .ok (.getfield 22, 3) := by decide +kernel
theorem dX0_isOfGroup_8 : decode cX0_isOfGroup 8 = .ok (.if_acmp .ne 29, 3) := by decide +kernel
theorem dX0_isOfGroup_11 : decode cX0_isOfGroup 11 = .ok (.aload_n 0, 1) := by decide +kernel
theorem dX0_isOfGroup_12 : decode cX0_isOfGroup 12 = .ok (.getfield 9, 3) := by decide +kernel
theorem dX0_isOfGroup_15 : decode cX0_isOfGroup 15 = .ok (.aload_n 1, 1) := by decide +kernel
theorem dX0_isOfGroup_16 : decode cX0_isOfGroup 16 = .ok (.getfield 9, 3) := by decide +kernel
theorem dX0_isOfGroup_19 : decode cX0_isOfGroup 19 = .ok (.if_acmp .ne 18, 3) := by decide +kernel
theorem dX0_isOfGroup_22 : decode cX0_isOfGroup 22 = .ok (.aload_n 0, 1) := by decide +kernel
theorem dX0_isOfGroup_23 : decode cX0_isOfGroup 23 = .ok (.getfield 15, 3) := by decide +kernel
theorem dX0_isOfGroup_26 : decode cX0_isOfGroup 26 = .ok (.aload_n 1, 1) := by decide +kernel
theorem dX0_isOfGroup_27 : decode cX0_isOfGroup 27 = .ok (.getfield 15, 3) := by decide +kernel
theorem dX0_isOfGroup_30 : decode cX0_isOfGroup 30 = .ok (.if_icmp .ne 7, 3) := by decide +kernel
theorem dX0_isOfGroup_33 : decode cX0_isOfGroup 33 = .ok (.iconst 1, 1) := by decide +kernel
theorem dX0_isOfGroup_34 : decode cX0_isOfGroup 34 = .ok (.goto 4, 3) := by decide +kernel
theorem dX0_isOfGroup_37 : decode cX0_isOfGroup 37 = .ok (.iconst 0, 1) := by decide +kernel
theorem dX0_isOfGroup_38 : decode cX0_isOfGroup 38 = .ok (.ireturn, 1) := by decide +kernel
theorem dX0_limitedLoss_0 : decode cX0_limitedLoss 0 = .ok (.aload_n 0, 1) := by decide +kernel
theorem dX0_limitedLoss_1 : decode cX0_limitedLoss 1 = .ok (.getfield 26, 3) := by decide +kernel
theorem dX0_limitedLoss_4 : decode cX0_limitedLoss 4 = .ok (.ifCond .eq 10, 3) := by decide +kernel
theorem dX0_limitedLoss_7 : decode cX0_limitedLoss 7 = .ok (.aload_n 0, 1) := by decide +kernel
theorem dX0_limitedLoss_8 : decode cX0_limitedLoss 8 = .ok (.getfield 19, 3) := by decide +kernel
theorem dX0_limitedLoss_11 : decode cX0_limitedLoss 11 = .ok (.goto 21, 3) := by decide +kernel
theorem dX0_limitedLoss_14 : decode cX0_limitedLoss 14 = .ok (.aload_n 0, 1) := by decide +kernel
theorem dX0_limitedLoss_15 : decode cX0_limitedLoss 15 = .ok (.getfield 19, 3) := by decide +kernel
theorem dX0_limitedLoss_18 : decode cX0_limitedLoss 18 = .ok (.sipush 5000, 3) := by decide +kernel
theorem dX0_limitedLoss_21 : decode cX0_limitedLoss 21 = .ok (.aload_n 0, 1) := by decide +kernel
theorem dX0_limitedLoss_22 : decode cX0_limitedLoss 22 = .ok (.getfield 9, 3) := by decide +kernel
theorem dX0_limitedLoss_25 : decode cX0_limitedLoss 25 = .ok (.getfield 30, 3) := by decide +kernel
theorem dX0_limitedLoss_28 : decode cX0_limitedLoss 28 = .ok (.imul, 1) := by decide +kernel
theorem dX0_limitedLoss_29 : decode cX0_limitedLoss 29 = .ok (.invokestatic 35, 3) := by decide +kernel
theorem dX0_limitedLoss_32 : decode cX0_limitedLoss 32 = .ok (.ireturn, 1) := by decide +kernel
theorem dX1_init_0 : decode cX1_init 0 = .ok (.aload_n 0, 1) := by decide +kernel
theorem dX1_init_1 : decode cX1_init 1 = .ok (.invokespecial 3, 3) := by decide +kernel
theorem dX1_init_4 : decode cX1_init 4 = .ok (.aload_n 0, 1) := by decide +kernel
theorem dX1_init_5 : decode cX1_init 5 = .ok (.sipush 2000, 3) := by decide +kernel
theorem dX1_init_8 : decode cX1_init 8 = .ok (.putfield 9, 3) := by decide +kernel
theorem dX1_init_11 : decode cX1_init 11 = .ok (.aload_n 0, 1) := by decide +kernel
theorem dX1_init_12 : decode cX1_init 12 = .ok (.aload_n 1, 1) := by decide +kernel
theorem dX1_init_13 : decode cX1_init 13 = .ok (.putfield 15, 3) := by decide +kernel
theorem dX1_init_16 : decode cX1_init 16 = .ok (.aload_n 0, 1) := by decide +kernel
theorem dX1_init_17 : decode cX1_init 17 = .ok (.iload_n 2, 1) := by decide +kernel
theorem dX1_init_18 : decode cX1_init 18 = .ok (.putfield 19, 3) := by decide +kernel
theorem dX1_init_21 : decode cX1_init 21 = .ok (.return_, 1) := by decide +kernel
theorem dX1_isOn_0 : decode cX1_isOn 0 = .ok (.aload_n 0, 1) := by decide +kernel
theorem dX1_isOn_1 : decode cX1_isOn 1 = .ok (.getfield 19, 3) := by decide +kernel
theorem dX1_isOn_4 : decode cX1_isOn 4 = .ok (.iload_n 1, 1) := by decide +kernel
theorem dX1_isOn_5 : decode cX1_isOn 5 = .ok (.if_icmp .gt 15, 3) := by decide +kernel
theorem dX1_isOn_8 : decode cX1_isOn 8 = .ok (.iload_n 1, 1) := by decide +kernel
theorem dX1_isOn_9 : decode cX1_isOn 9 = .ok (.aload_n 0, 1) := by decide +kernel
theorem dX1_isOn_10 : decode cX1_isOn 10 = .ok (.getfield 9, 3) := by decide +kernel
theorem dX1_isOn_13 : decode cX1_isOn 13 = .ok (.if_icmp .ge 7, 3) := by decide +kernel
theorem dX1_isOn_16 : decode cX1_isOn 16 = .ok (.iconst 1, 1) := by decide +kernel
theorem dX1_isOn_17 : decode cX1_isOn 17 = .ok (.goto 4, 3) := by decide +kernel
theorem dX1_isOn_20 : decode cX1_isOn 20 = .ok (.iconst 0, 1) := by decide +kernel
theorem dX1_isOn_21 : decode cX1_isOn 21 = .ok (.ireturn, 1) := by decide +kernel
theorem dX1_daysIn_0 : decode cX1_daysIn 0 = .ok (.aload_n 0, 1) := by decide +kernel
theorem dX1_daysIn_1 : decode cX1_daysIn 1 = .ok (.getfield 19, 3) := by decide +kernel
theorem dX1_daysIn_4 : decode cX1_daysIn 4 = .ok (.iload_n 1, 1) := by decide +kernel
theorem dX1_daysIn_5 : decode cX1_daysIn 5 = .ok (.bipush 100, 2) := by decide +kernel
theorem dX1_daysIn_7 : decode cX1_daysIn 7 = .ok (.imul, 1) := by decide +kernel
theorem dX1_daysIn_8 : decode cX1_daysIn 8 = .ok (.invokestatic 22, 3) := by decide +kernel
theorem dX1_daysIn_11 : decode cX1_daysIn 11 = .ok (.istore_n 2, 1) := by decide +kernel
theorem dX1_daysIn_12 : decode cX1_daysIn 12 = .ok (.aload_n 0, 1) := by decide +kernel
theorem dX1_daysIn_13 : decode cX1_daysIn 13 = .ok (.getfield 9, 3) := by decide +kernel
theorem dX1_daysIn_16 : decode cX1_daysIn 16 = .ok (.iload_n 1, 1) := by decide +kernel
theorem dX1_daysIn_17 : decode cX1_daysIn 17 = .ok (.iconst 1, 1) := by decide +kernel
theorem dX1_daysIn_18 : decode cX1_daysIn 18 = .ok (.iadd, 1) := by decide +kernel
theorem dX1_daysIn_19 : decode cX1_daysIn 19 = .ok (.bipush 100, 2) := by decide +kernel
theorem dX1_daysIn_21 : decode cX1_daysIn 21 = .ok (.imul, 1) := by decide +kernel
theorem dX1_daysIn_22 : decode cX1_daysIn 22 = .ok (.invokestatic 28, 3) := by decide +kernel
theorem dX1_daysIn_25 : decode cX1_daysIn 25 = .ok (.istore_n 3, 1) := by decide +kernel
theorem dX1_daysIn_26 : decode cX1_daysIn 26 = .ok (.iload_n 3, 1) := by decide +kernel
theorem dX1_daysIn_27 : decode cX1_daysIn 27 = .ok (.iload_n 2, 1) := by decide +kernel
theorem dX1_daysIn_28 : decode cX1_daysIn 28 = .ok (.isub, 1) := by decide +kernel
theorem dX1_daysIn_29 : decode cX1_daysIn 29 = .ok (.iconst 0, 1) := by decide +kernel
theorem dX1_daysIn_30 : decode cX1_daysIn 30 = .ok (.invokestatic 22, 3) := by decide +kernel
theorem dX1_daysIn_33 : decode cX1_daysIn 33 = .ok (.ireturn, 1) := by decide +kernel
theorem dX2_init_0 : decode cX2_init 0 = .ok (.aload_n 0, 1) := by decide +kernel
theorem dX2_init_1 : decode cX2_init 1 = .ok (.invokespecial 1, 3) := by decide +kernel
theorem dX2_init_4 : decode cX2_init 4 = .ok (.aload_n 0, 1) := by decide +kernel
theorem dX2_init_5 : decode cX2_init 5 = .ok (.iload_n 1, 1) := by decide +kernel
theorem dX2_init_6 : decode cX2_init 6 = .ok (.putfield 7, 3) := by decide +kernel
theorem dX2_init_9 : decode cX2_init 9 = .ok (.aload_n 0, 1) := by decide +kernel
theorem dX2_init_10 : decode cX2_init 10 = .ok (.iload_n 2, 1) := by decide +kernel
theorem dX2_init_11 : decode cX2_init 11 = .ok (.putfield 13, 3) := by decide +kernel
theorem dX2_init_14 : decode cX2_init 14 = .ok (.return_, 1) := by decide +kernel
set_option maxRecDepth 20000 in
theorem ggX3_init_J7_fill_53178 : GoodIn wsX3_init wsJ7_fill_53178 := goodIn_r _ [14] (by decide +kernel) (by decide +kernel)
set_option maxRecDepth 20000 in
theorem gX3_init_J7_fill_53178 : GoodIn wsX3_init (va_wsS RX3 27 yJ7_fill_53178 wsJ7_fill_53178) := goodIn_app (goodIn_of _ (by decide +kernel)) ggX3_init_J7_fill_53178
theorem dX3_init_0 : decode cX3_init 0 = .ok (.aload_n 0, 1) := by decide +kernel
theorem dX3_init_1 : decode cX3_init 1 = .ok (.invokespecial 3, 3) := by decide +kernel
theorem dX3_init_4 : decode cX3_init 4 = .ok (.aload_n 0, 1) := by decide +kernel
theorem dX3_init_5 : decode cX3_init 5 = .ok (.bipush 20, 2) := by decide +kernel
theorem dX3_init_7 : decode cX3_init 7 = .ok (.newarray .int, 2) := by decide +kernel
theorem dX3_init_9 : decode cX3_init 9 = .ok (.putfield 9, 3) := by decide +kernel
theorem dX3_init_12 : decode cX3_init 12 = .ok (.aload_n 0, 1) := by decide +kernel
theorem dX3_init_13 : decode cX3_init 13 = .ok (.bipush 20, 2) := by decide +kernel
theorem dX3_init_15 : decode cX3_init 15 = .ok (.newarray .boolean, 2) := by decide +kernel
theorem dX3_init_17 : decode cX3_init 17 = .ok (.putfield 15, 3) := by decide +kernel
theorem dX3_init_20 : decode cX3_init 20 = .ok (.aload_n 0, 1) := by decide +kernel
theorem dX3_init_21 : decode cX3_init 21 = .ok (.bipush 20, 2) := by decide +kernel
theorem dX3_init_23 : decode cX3_init 23 = .ok (.newarray .long, 2) := by decide +kernel
theorem dX3_init_25 : decode cX3_init 25 = .ok (.putfield 19, 3) := by decide +kernel
theorem dX3_init_28 : decode cX3_init 28 = .ok (.aload_n 0, 1) := by decide +kernel
theorem dX3_init_29 : decode cX3_init 29 = .ok (.iconst (-1), 1) := by decide +kernel
theorem dX3_init_30 : decode cX3_init 30 = .ok (.putfield 23, 3) := by decide +kernel
theorem dX3_init_33 : decode cX3_init 33 = .ok (.aload_n 0, 1) := by decide +kernel
theorem dX3_init_34 : decode cX3_init 34 = .ok (.getfield 9, 3) := by decide +kernel
theorem dX3_init_37 : decode cX3_init 37 = .ok (.bipush 100, 2) := by decide +kernel
theorem dX3_init_39 : decode cX3_init 39 = .ok (.invokestatic 27, 3) := by decide +kernel
theorem dX3_init_42 : decode cX3_init 42 = .ok (.return_, 1) := by decide +kernel
theorem dX3_rated_0 : decode cX3_rated 0 = .ok (.lload_n 1, 1) := by decide +kernel
theorem dX3_rated_1 : decode cX3_rated 1 = .ok (.aload_n 0, 1) := by decide +kernel
theorem dX3_rated_2 : decode cX3_rated 2 = .ok (.getfield 9, 3) := by decide +kernel
theorem dX3_rated_5 : decode cX3_rated 5 = .ok (.iload_n 3, 1) := by decide +kernel
theorem dX3_rated_6 : decode cX3_rated 6 = .ok (.iaload, 1) := by decide +kernel
theorem dX3_rated_7 : decode cX3_rated 7 = .ok (.i2l, 1) := by decide +kernel
theorem dX3_rated_8 : decode cX3_rated 8 = .ok (.lmul, 1) := by decide +kernel
theorem dX3_rated_9 : decode cX3_rated 9 = .ok (.ldc2_w 33, 3) := by decide +kernel
theorem dX3_rated_12 : decode cX3_rated 12 = .ok (.ldiv, 1) := by decide +kernel
theorem dX3_rated_13 : decode cX3_rated 13 = .ok (.lreturn, 1) := by decide +kernel
theorem dX3_isStoppedOn_0 : decode cX3_isStoppedOn 0 = .ok (.aload_n 0, 1) := by decide +kernel
theorem dX3_isStoppedOn_1 : decode cX3_isStoppedOn 1 = .ok (.getfield 23, 3) := by decide +kernel
theorem dX3_isStoppedOn_4 : decode cX3_isStoppedOn 4 = .ok (.iconst (-1), 1) := by decide +kernel
theorem dX3_isStoppedOn_5 : decode cX3_isStoppedOn 5 = .ok (.if_icmp .eq 15, 3) := by decide +kernel
theorem dX3_isStoppedOn_8 : decode cX3_isStoppedOn 8 = .ok (.aload_n 0, 1) := by decide +kernel
theorem dX3_isStoppedOn_9 : decode cX3_isStoppedOn 9 = .ok (.getfield 23, 3) := by decide +kernel
theorem dX3_isStoppedOn_12 : decode cX3_isStoppedOn 12 = .ok (.iload_n 1, 1) := by decide +kernel
theorem dX3_isStoppedOn_13 : decode cX3_isStoppedOn 13 = .ok (.if_icmp .gt 7, 3) := by decide +kernel
theorem dX3_isStoppedOn_16 : decode cX3_isStoppedOn 16 = .ok (.iconst 1, 1) := by decide +kernel
theorem dX3_isStoppedOn_17 : decode cX3_isStoppedOn 17 = .ok (.goto 4, 3) := by decide +kernel
theorem dX3_isStoppedOn_20 : decode cX3_isStoppedOn 20 = .ok (.iconst 0, 1) := by decide +kernel
theorem dX3_isStoppedOn_21 : decode cX3_isStoppedOn 21 = .ok (.ireturn, 1) := by decide +kernel
set_option maxRecDepth 20000 in
theorem ggX4_init_J7_fill_53178 : GoodIn wsX4_init wsJ7_fill_53178 := goodIn_r _ [10] (by decide +kernel) (by decide +kernel)
set_option maxRecDepth 20000 in
theorem gX4_init_J7_fill_53178 : GoodIn wsX4_init (va_wsS RX4 18 yJ7_fill_53178 wsJ7_fill_53178) := goodIn_app (goodIn_of _ (by decide +kernel)) ggX4_init_J7_fill_53178
theorem dX4_init_0 : decode cX4_init 0 = .ok (.aload_n 0, 1) := by decide +kernel
theorem dX4_init_1 : decode cX4_init 1 = .ok (.invokespecial 3, 3) := by decide +kernel
theorem dX4_init_4 : decode cX4_init 4 = .ok (.aload_n 0, 1) := by decide +kernel
theorem dX4_init_5 : decode cX4_init 5 = .ok (.bipush 80, 2) := by decide +kernel
theorem dX4_init_7 : decode cX4_init 7 = .ok (.newarray .int, 2) := by decide +kernel
theorem dX4_init_9 : decode cX4_init 9 = .ok (.putfield 9, 3) := by decide +kernel
theorem dX4_init_12 : decode cX4_init 12 = .ok (.aload_n 0, 1) := by decide +kernel
theorem dX4_init_13 : decode cX4_init 13 = .ok (.bipush 80, 2) := by decide +kernel
theorem dX4_init_15 : decode cX4_init 15 = .ok (.newarray .int, 2) := by decide +kernel
theorem dX4_init_17 : decode cX4_init 17 = .ok (.putfield 15, 3) := by decide +kernel
theorem dX4_init_20 : decode cX4_init 20 = .ok (.aload_n 0, 1) := by decide +kernel
theorem dX4_init_21 : decode cX4_init 21 = .ok (.getfield 15, 3) := by decide +kernel
theorem dX4_init_24 : decode cX4_init 24 = .ok (.iconst (-1), 1) := by decide +kernel
theorem dX4_init_25 : decode cX4_init 25 = .ok (.invokestatic 18, 3) := by decide +kernel
theorem dX4_init_28 : decode cX4_init 28 = .ok (.return_, 1) := by decide +kernel
theorem dX4_tell_0 : decode cX4_tell 0 = .ok (.aload_n 0, 1) := by decide +kernel
theorem dX4_tell_1 : decode cX4_tell 1 = .ok (.getfield 9, 3) := by decide +kernel
theorem dX4_tell_4 : decode cX4_tell 4 = .ok (.iload_n 1, 1) := by decide +kernel
theorem dX4_tell_5 : decode cX4_tell 5 = .ok (.bipush 20, 2) := by decide +kernel
theorem dX4_tell_7 : decode cX4_tell 7 = .ok (.imul, 1) := by decide +kernel
theorem dX4_tell_8 : decode cX4_tell 8 = .ok (.iload_n 2, 1) := by decide +kernel
theorem dX4_tell_9 : decode cX4_tell 9 = .ok (.iadd, 1) := by decide +kernel
theorem dX4_tell_10 : decode cX4_tell 10 = .ok (.iload_n 3, 1) := by decide +kernel
theorem dX4_tell_11 : decode cX4_tell 11 = .ok (.iastore, 1) := by decide +kernel
theorem dX4_tell_12 : decode cX4_tell 12 = .ok (.aload_n 0, 1) := by decide +kernel
theorem dX4_tell_13 : decode cX4_tell 13 = .ok (.getfield 15, 3) := by decide +kernel
theorem dX4_tell_16 : decode cX4_tell 16 = .ok (.iload_n 1, 1) := by decide +kernel
theorem dX4_tell_17 : decode cX4_tell 17 = .ok (.bipush 20, 2) := by decide +kernel
theorem dX4_tell_19 : decode cX4_tell 19 = .ok (.imul, 1) := by decide +kernel
theorem dX4_tell_20 : decode cX4_tell 20 = .ok (.iload_n 2, 1) := by decide +kernel
theorem dX4_tell_21 : decode cX4_tell 21 = .ok (.iadd, 1) := by decide +kernel
theorem dX4_tell_22 : decode cX4_tell 22 = .ok (.iload 4, 2) := by decide +kernel
theorem dX4_tell_24 : decode cX4_tell 24 = .ok (.iastore, 1) := by decide +kernel
theorem dX4_tell_25 : decode cX4_tell 25 = .ok (.return_, 1) := by decide +kernel
theorem dX4_applied_0 : decode cX4_applied 0 = .ok (.iload_n 1, 1) := by decide +kernel
theorem dX4_applied_1 : decode cX4_applied 1 = .ok (.bipush 20, 2) := by decide +kernel
theorem dX4_applied_3 : decode cX4_applied 3 = .ok (.imul, 1) := by decide +kernel
theorem dX4_applied_4 : decode cX4_applied 4 = .ok (.istore 5, 2) := by decide +kernel
theorem dX4_applied_6 : decode cX4_applied 6 = .ok (.iload 5, 2) := by decide +kernel
theorem dX4_applied_8 : decode cX4_applied 8 = .ok (.iload_n 2, 1) := by decide +kernel
theorem dX4_applied_9 : decode cX4_applied 9 = .ok (.iadd, 1) := by decide +kernel
theorem dX4_applied_10 : decode cX4_applied 10 = .ok (.istore 6, 2) := by decide +kernel
theorem dX4_applied_12 : decode cX4_applied 12 = .ok (.iload 6, 2) := by decide +kernel
theorem dX4_applied_14 : decode cX4_applied 14 = .ok (.iload 5, 2) := by decide +kernel
theorem dX4_applied_16 : decode cX4_applied 16 = .ok (.if_icmp .lt 46, 3) := by decide +kernel
theorem dX4_applied_19 : decode cX4_applied 19 = .ok (.aload_n 0, 1) := by decide +kernel
theorem dX4_applied_20 : decode cX4_applied 20 = .ok (.getfield 15, 3) := by decide +kernel
theorem dX4_applied_23 : decode cX4_applied 23 = .ok (.iload 6, 2) := by decide +kernel
theorem dX4_applied_25 : decode cX4_applied 25 = .ok (.iaload, 1) := by decide +kernel
theorem dX4_applied_26 : decode cX4_applied 26 = .ok (.iconst (-1), 1) := by decide +kernel
theorem dX4_applied_27 : decode cX4_applied 27 = .ok (.if_icmp .eq 29, 3) := by decide +kernel
theorem dX4_applied_30 : decode cX4_applied 30 = .ok (.lload_n 3, 1) := by decide +kernel
theorem dX4_applied_31 : decode cX4_applied 31 = .ok (.aload_n 0, 1) := by decide +kernel
theorem dX4_applied_32 : decode cX4_applied 32 = .ok (.getfield 15, 3) := by decide +kernel
theorem dX4_applied_35 : decode cX4_applied 35 = .ok (.iload 6, 2) := by decide +kernel
theorem dX4_applied_37 : decode cX4_applied 37 = .ok (.iaload, 1) := by decide +kernel
theorem dX4_applied_38 : decode cX4_applied 38 = .ok (.i2l, 1) := by decide +kernel
theorem dX4_applied_39 : decode cX4_applied 39 = .ok (.invokestatic 24, 3) := by decide +kernel
theorem dX4_applied_42 : decode cX4_applied 42 = .ok (.aload_n 0, 1) := by decide +kernel
theorem dX4_applied_43 : decode cX4_applied 43 = .ok (.getfield 9, 3) := by decide +kernel
theorem dX4_applied_46 : decode cX4_applied 46 = .ok (.iload 6, 2) := by decide +kernel
theorem dX4_applied_48 : decode cX4_applied 48 = .ok (.iaload, 1) := by decide +kernel
theorem dX4_applied_49 : decode cX4_applied 49 = .ok (.i2l, 1) := by decide +kernel
theorem dX4_applied_50 : decode cX4_applied 50 = .ok (.lsub, 1) := by decide +kernel
theorem dX4_applied_51 : decode cX4_applied 51 = .ok (.lconst 0, 1) := by decide +kernel
theorem dX4_applied_52 : decode cX4_applied 52 = .ok (.invokestatic 30, 3) := by decide +kernel
theorem dX4_applied_55 : decode cX4_applied 55 = .ok (.lreturn, 1) := by decide +kernel
theorem dX4_applied_56 : decode cX4_applied 56 = .ok (.iinc 6 (-1), 3) := by decide +kernel
theorem dX4_applied_59 : decode cX4_applied 59 = .ok (.goto (-47), 3) := by decide +kernel
theorem dX4_applied_62 : decode cX4_applied 62 = .ok (.lload_n 3, 1) := by decide +kernel
theorem dX4_applied_63 : decode cX4_applied 63 = .ok (.ldc2_w 33, 3) := by decide +kernel
theorem dX4_applied_66 : decode cX4_applied 66 = .ok (.invokestatic 24, 3) := by decide +kernel
theorem dX4_applied_69 : decode cX4_applied 69 = .ok (.lreturn, 1) := by decide +kernel
theorem dX5_init_0 : decode cX5_init 0 = .ok (.aload_n 0, 1) := by decide +kernel
theorem dX5_init_1 : decode cX5_init 1 = .ok (.invokespecial 1, 3) := by decide +kernel
theorem dX5_init_4 : decode cX5_init 4 = .ok (.aload_n 0, 1) := by decide +kernel
theorem dX5_init_5 : decode cX5_init 5 = .ok (.aload_n 1, 1) := by decide +kernel
theorem dX5_init_6 : decode cX5_init 6 = .ok (.putfield 7, 3) := by decide +kernel
theorem dX5_init_9 : decode cX5_init 9 = .ok (.aload_n 0, 1) := by decide +kernel
theorem dX5_init_10 : decode cX5_init 10 = .ok (.iload_n 2, 1) := by decide +kernel
theorem dX5_init_11 : decode cX5_init 11 = .ok (.putfield 13, 3) := by decide +kernel
theorem dX5_init_14 : decode cX5_init 14 = .ok (.return_, 1) := by decide +kernel
theorem dX6_init_0 : decode cX6_init 0 = .ok (.aload_n 0, 1) := by decide +kernel
theorem dX6_init_1 : decode cX6_init 1 = .ok (.invokespecial 1, 3) := by decide +kernel
theorem dX6_init_4 : decode cX6_init 4 = .ok (.return_, 1) := by decide +kernel
theorem dX6_tellPool_0 : decode cX6_tellPool 0 = .ok (.aload_n 0, 1) := by decide +kernel
theorem dX6_tellPool_1 : decode cX6_tellPool 1 = .ok (.iconst 1, 1) := by decide +kernel
theorem dX6_tellPool_2 : decode cX6_tellPool 2 = .ok (.putfield 7, 3) := by decide +kernel
theorem dX6_tellPool_5 : decode cX6_tellPool 5 = .ok (.aload_n 0, 1) := by decide +kernel
theorem dX6_tellPool_6 : decode cX6_tellPool 6 = .ok (.iload_n 1, 1) := by decide +kernel
theorem dX6_tellPool_7 : decode cX6_tellPool 7 = .ok (.putfield 13, 3) := by decide +kernel
theorem dX6_tellPool_10 : decode cX6_tellPool 10 = .ok (.aload_n 0, 1) := by decide +kernel
theorem dX6_tellPool_11 : decode cX6_tellPool 11 = .ok (.iload_n 2, 1) := by decide +kernel
theorem dX6_tellPool_12 : decode cX6_tellPool 12 = .ok (.putfield 17, 3) := by decide +kernel
theorem dX6_tellPool_15 : decode cX6_tellPool 15 = .ok (.aload_n 0, 1) := by decide +kernel
theorem dX6_tellPool_16 : decode cX6_tellPool 16 = .ok (.iload_n 3, 1) := by decide +kernel
theorem dX6_tellPool_17 : decode cX6_tellPool 17 = .ok (.putfield 20, 3) := by decide +kernel
theorem dX6_tellPool_20 : decode cX6_tellPool 20 = .ok (.return_, 1) := by decide +kernel
theorem dX6_borneOf_0 : decode cX6_borneOf 0 = .ok (.aload_n 0, 1) := by decide +kernel
theorem dX6_borneOf_1 : decode cX6_borneOf 1 = .ok (.getfield 7, 3) := by decide +kernel
theorem dX6_borneOf_4 : decode cX6_borneOf 4 = .ok (.ifCond .eq 13, 3) := by decide +kernel
theorem dX6_borneOf_7 : decode cX6_borneOf 7 = .ok (.lload_n 1, 1) := by decide +kernel
theorem dX6_borneOf_8 : decode cX6_borneOf 8 = .ok (.aload_n 0, 1) := by decide +kernel
theorem dX6_borneOf_9 : decode cX6_borneOf 9 = .ok (.getfield 13, 3) := by decide +kernel
theorem dX6_borneOf_12 : decode cX6_borneOf 12 = .ok (.i2l, 1) := by decide +kernel
theorem dX6_borneOf_13 : decode cX6_borneOf 13 = .ok (.lcmp, 1) := by decide +kernel
theorem dX6_borneOf_14 : decode cX6_borneOf 14 = .ok (.ifCond .gt 5, 3) := by decide +kernel
theorem dX6_borneOf_17 : decode cX6_borneOf 17 = .ok (.lload_n 1, 1) := by decide +kernel
theorem dX6_borneOf_18 : decode cX6_borneOf 18 = .ok (.lreturn, 1) := by decide +kernel
theorem dX6_borneOf_19 : decode cX6_borneOf 19 = .ok (.lload_n 1, 1) := by decide +kernel
theorem dX6_borneOf_20 : decode cX6_borneOf 20 = .ok (.aload_n 0, 1) := by decide +kernel
theorem dX6_borneOf_21 : decode cX6_borneOf 21 = .ok (.getfield 17, 3) := by decide +kernel
theorem dX6_borneOf_24 : decode cX6_borneOf 24 = .ok (.i2l, 1) := by decide +kernel
theorem dX6_borneOf_25 : decode cX6_borneOf 25 = .ok (.invokestatic 23, 3) := by decide +kernel
theorem dX6_borneOf_28 : decode cX6_borneOf 28 = .ok (.aload_n 0, 1) := by decide +kernel
theorem dX6_borneOf_29 : decode cX6_borneOf 29 = .ok (.getfield 13, 3) := by decide +kernel
theorem dX6_borneOf_32 : decode cX6_borneOf 32 = .ok (.i2l, 1) := by decide +kernel
theorem dX6_borneOf_33 : decode cX6_borneOf 33 = .ok (.lsub, 1) := by decide +kernel
theorem dX6_borneOf_34 : decode cX6_borneOf 34 = .ok (.lstore_n 3, 1) := by decide +kernel
theorem dX6_borneOf_35 : decode cX6_borneOf 35 = .ok (.aload_n 0, 1) := by decide +kernel
theorem dX6_borneOf_36 : decode cX6_borneOf 36 = .ok (.getfield 13, 3) := by decide +kernel
theorem dX6_borneOf_39 : decode cX6_borneOf 39 = .ok (.i2l, 1) := by decide +kernel
theorem dX6_borneOf_40 : decode cX6_borneOf 40 = .ok (.lload_n 3, 1) := by decide +kernel
theorem dX6_borneOf_41 : decode cX6_borneOf 41 = .ok (.aload_n 0, 1) := by decide +kernel
theorem dX6_borneOf_42 : decode cX6_borneOf 42 = .ok (.getfield 20, 3) := by decide +kernel
theorem dX6_borneOf_45 : decode cX6_borneOf 45 = .ok (.i2l, 1) := by decide +kernel
theorem dX6_borneOf_46 : decode cX6_borneOf 46 = .ok (.lmul, 1) := by decide +kernel
theorem dX6_borneOf_47 : decode cX6_borneOf 47 = .ok (.ldc2_w 29, 3) := by decide +kernel
theorem dX6_borneOf_50 : decode cX6_borneOf 50 = .ok (.ldiv, 1) := by decide +kernel
theorem dX6_borneOf_51 : decode cX6_borneOf 51 = .ok (.ladd, 1) := by decide +kernel
theorem dX6_borneOf_52 : decode cX6_borneOf 52 = .ok (.lload_n 1, 1) := by decide +kernel
theorem dX6_borneOf_53 : decode cX6_borneOf 53 = .ok (.aload_n 0, 1) := by decide +kernel
theorem dX6_borneOf_54 : decode cX6_borneOf 54 = .ok (.getfield 17, 3) := by decide +kernel
theorem dX6_borneOf_57 : decode cX6_borneOf 57 = .ok (.i2l, 1) := by decide +kernel
theorem dX6_borneOf_58 : decode cX6_borneOf 58 = .ok (.lsub, 1) := by decide +kernel
theorem dX6_borneOf_59 : decode cX6_borneOf 59 = .ok (.lconst 0, 1) := by decide +kernel
theorem dX6_borneOf_60 : decode cX6_borneOf 60 = .ok (.invokestatic 31, 3) := by decide +kernel
theorem dX6_borneOf_63 : decode cX6_borneOf 63 = .ok (.ladd, 1) := by decide +kernel
theorem dX6_borneOf_64 : decode cX6_borneOf 64 = .ok (.lreturn, 1) := by decide +kernel
set_option maxRecDepth 20000 in
theorem ggX7_init_X4_init : GoodIn wsX7_init wsX4_init := goodIn_r _ [24, 25, 2, 3, 26, 27, 28, 29, 30, 31, 32, 50, 51] (by decide +kernel) (by decide +kernel)
set_option maxRecDepth 20000 in
theorem gX7_init_X4_init : GoodIn wsX7_init (wsX4_init) := ggX7_init_X4_init
set_option maxRecDepth 20000 in
theorem ggX7_init_X6_init : GoodIn wsX7_init wsX6_init := goodIn_r _ [34, 35, 2, 3] (by decide +kernel) (by decide +kernel)
set_option maxRecDepth 20000 in
theorem gX7_init_X6_init_n52 : GoodIn wsX7_init (wsX6_init) := ggX7_init_X6_init
theorem dX7_init_0 : decode cX7_init 0 = .ok (.aload_n 0, 1) := by decide +kernel
theorem dX7_init_1 : decode cX7_init 1 = .ok (.invokespecial 3, 3) := by decide +kernel
theorem dX7_init_4 : decode cX7_init 4 = .ok (.aload_n 0, 1) := by decide +kernel
theorem dX7_init_5 : decode cX7_init 5 = .ok (.bipush 12, 2) := by decide +kernel
theorem dX7_init_7 : decode cX7_init 7 = .ok (.anewarray 9, 3) := by decide +kernel
theorem dX7_init_10 : decode cX7_init 10 = .ok (.putfield 11, 3) := by decide +kernel
theorem dX7_init_13 : decode cX7_init 13 = .ok (.aload_n 0, 1) := by decide +kernel
theorem dX7_init_14 : decode cX7_init 14 = .ok (.bipush 24, 2) := by decide +kernel
theorem dX7_init_16 : decode cX7_init 16 = .ok (.anewarray 15, 3) := by decide +kernel
theorem dX7_init_19 : decode cX7_init 19 = .ok (.putfield 17, 3) := by decide +kernel
theorem dX7_init_22 : decode cX7_init 22 = .ok (.aload_n 0, 1) := by decide +kernel
theorem dX7_init_23 : decode cX7_init 23 = .ok (.bipush 60, 2) := by decide +kernel
theorem dX7_init_25 : decode cX7_init 25 = .ok (.anewarray 21, 3) := by decide +kernel
theorem dX7_init_28 : decode cX7_init 28 = .ok (.putfield 23, 3) := by decide +kernel
theorem dX7_init_31 : decode cX7_init 31 = .ok (.aload_n 0, 1) := by decide +kernel
theorem dX7_init_32 : decode cX7_init 32 = .ok (.bipush 60, 2) := by decide +kernel
theorem dX7_init_34 : decode cX7_init 34 = .ok (.anewarray 27, 3) := by decide +kernel
theorem dX7_init_37 : decode cX7_init 37 = .ok (.putfield 29, 3) := by decide +kernel
theorem dX7_init_40 : decode cX7_init 40 = .ok (.aload_n 0, 1) := by decide +kernel
theorem dX7_init_41 : decode cX7_init 41 = .ok (.bipush 60, 2) := by decide +kernel
theorem dX7_init_43 : decode cX7_init 43 = .ok (.anewarray 33, 3) := by decide +kernel
theorem dX7_init_46 : decode cX7_init 46 = .ok (.putfield 35, 3) := by decide +kernel
theorem dX7_init_49 : decode cX7_init 49 = .ok (.aload_n 0, 1) := by decide +kernel
theorem dX7_init_50 : decode cX7_init 50 = .ok (.bipush 20, 2) := by decide +kernel
theorem dX7_init_52 : decode cX7_init 52 = .ok (.anewarray 39, 3) := by decide +kernel
theorem dX7_init_55 : decode cX7_init 55 = .ok (.putfield 41, 3) := by decide +kernel
theorem dX7_init_58 : decode cX7_init 58 = .ok (.aload_n 0, 1) := by decide +kernel
theorem dX7_init_59 : decode cX7_init 59 = .ok (.new 45, 3) := by decide +kernel
theorem dX7_init_62 : decode cX7_init 62 = .ok (.dup, 1) := by decide +kernel
theorem dX7_init_63 : decode cX7_init 63 = .ok (.invokespecial 47, 3) := by decide +kernel
theorem dX7_init_66 : decode cX7_init 66 = .ok (.putfield 48, 3) := by decide +kernel
theorem dX7_init_69 : decode cX7_init 69 = .ok (.iconst 0, 1) := by decide +kernel
theorem dX7_init_70 : decode cX7_init 70 = .ok (.istore_n 1, 1) := by decide +kernel
theorem dX7_init_71 : decode cX7_init 71 = .ok (.iload_n 1, 1) := by decide +kernel
theorem dX7_init_72 : decode cX7_init 72 = .ok (.bipush 20, 2) := by decide +kernel
theorem dX7_init_74 : decode cX7_init 74 = .ok (.if_icmp .ge 22, 3) := by decide +kernel
theorem dX7_init_77 : decode cX7_init 77 = .ok (.aload_n 0, 1) := by decide +kernel
theorem dX7_init_78 : decode cX7_init 78 = .ok (.getfield 41, 3) := by decide +kernel
theorem dX7_init_81 : decode cX7_init 81 = .ok (.iload_n 1, 1) := by decide +kernel
theorem dX7_init_82 : decode cX7_init 82 = .ok (.new 39, 3) := by decide +kernel
theorem dX7_init_85 : decode cX7_init 85 = .ok (.dup, 1) := by decide +kernel
theorem dX7_init_86 : decode cX7_init 86 = .ok (.invokespecial 52, 3) := by decide +kernel
theorem dX7_init_89 : decode cX7_init 89 = .ok (.aastore, 1) := by decide +kernel
theorem dX7_init_90 : decode cX7_init 90 = .ok (.iinc 1 1, 3) := by decide +kernel
theorem dX7_init_93 : decode cX7_init 93 = .ok (.goto (-22), 3) := by decide +kernel
theorem dX7_init_96 : decode cX7_init 96 = .ok (.return_, 1) := by decide +kernel
set_option maxRecDepth 20000 in
theorem ggX7_member_X3_init : GoodIn wsX7_member wsX3_init := goodIn_r _ [10, 11, 12, 13, 14, 15, 16, 17, 18, 19, 20, 21, 22, 23, 24, 39, 40, 41, 42, 43] (by decide +kernel) (by decide +kernel)
set_option maxRecDepth 20000 in
theorem gX7_member_X3_init : GoodIn wsX7_member (wsX3_init) := ggX7_member_X3_init
theorem dX7_member_0 : decode cX7_member 0 = .ok (.aload_n 0, 1) := by decide +kernel
theorem dX7_member_1 : decode cX7_member 1 = .ok (.getfield 53, 3) := by decide +kernel
theorem dX7_member_4 : decode cX7_member 4 = .ok (.bipush 12, 2) := by decide +kernel
theorem dX7_member_6 : decode cX7_member 6 = .ok (.if_icmp .lt 13, 3) := by decide +kernel
theorem dX7_member_9 : decode cX7_member 9 = .ok (.new 57, 3) := by decide +kernel
theorem dX7_member_12 : decode cX7_member 12 = .ok (.dup, 1) := by decide +kernel
theorem dX7_member_13 : decode cX7_member 13 = .ok (.ldc 59, 2) := by decide +kernel
theorem dX7_member_15 : decode cX7_member 15 = .ok (.invokespecial 61, 3) := by decide +kernel
theorem dX7_member_18 : decode cX7_member 18 = .ok (.athrow, 1) := by decide +kernel
theorem dX7_member_19 : decode cX7_member 19 = .ok (.aload_n 0, 1) := by decide +kernel
theorem dX7_member_20 : decode cX7_member 20 = .ok (.getfield 11, 3) := by decide +kernel
theorem dX7_member_23 : decode cX7_member 23 = .ok (.aload_n 0, 1) := by decide +kernel
theorem dX7_member_24 : decode cX7_member 24 = .ok (.getfield 53, 3) := by decide +kernel
theorem dX7_member_27 : decode cX7_member 27 = .ok (.new 9, 3) := by decide +kernel
theorem dX7_member_30 : decode cX7_member 30 = .ok (.dup, 1) := by decide +kernel
theorem dX7_member_31 : decode cX7_member 31 = .ok (.invokespecial 64, 3) := by decide +kernel
theorem dX7_member_34 : decode cX7_member 34 = .ok (.aastore, 1) := by decide +kernel
theorem dX7_member_35 : decode cX7_member 35 = .ok (.aload_n 0, 1) := by decide +kernel
theorem dX7_member_36 : decode cX7_member 36 = .ok (.dup, 1) := by decide +kernel
theorem dX7_member_37 : decode cX7_member 37 = .ok (.getfield 53, 3) := by decide +kernel
theorem dX7_member_40 : decode cX7_member 40 = .ok (.iconst 1, 1) := by decide +kernel
theorem dX7_member_41 : decode cX7_member 41 = .ok (.iadd, 1) := by decide +kernel
theorem dX7_member_42 : decode cX7_member 42 = .ok (.putfield 53, 3) := by decide +kernel
theorem dX7_member_45 : decode cX7_member 45 = .ok (.aload_n 0, 1) := by decide +kernel
theorem dX7_member_46 : decode cX7_member 46 = .ok (.getfield 53, 3) := by decide +kernel
theorem dX7_member_49 : decode cX7_member 49 = .ok (.iconst 1, 1) := by decide +kernel
theorem dX7_member_50 : decode cX7_member 50 = .ok (.isub, 1) := by decide +kernel
theorem dX7_member_51 : decode cX7_member 51 = .ok (.ireturn, 1) := by decide +kernel
set_option maxRecDepth 20000 in
theorem ggX7_ship_X7_memberOf : GoodIn wsX7_ship wsX7_memberOf := goodIn_ca (goodIn_r _ [12, 13, 14, 15, 16, 30, 31, 32, 33, 34, 35, 36, 37, 38, 39, 40, 41, 42, 43] (by decide +kernel) (by decide +kernel)) (goodIn_sub (fun _ h => List.mem_cons_of_mem _ (List.mem_append_left _ (List.mem_append_right _ h))) (by decide +kernel))
set_option maxRecDepth 20000 in
theorem gX7_ship_X7_memberOf : GoodIn wsX7_ship (wsV RX7 65 RX7 yX7_memberOf wsX7_memberOf) := goodIn_app (goodIn_of _ (by decide +kernel)) ggX7_ship_X7_memberOf
set_option maxRecDepth 20000 in
theorem ggX7_ship_X7_checkRange : GoodIn wsX7_ship wsX7_checkRange := goodIn_ca (goodIn_r _ [19, 20, 21] (by decide +kernel) (by decide +kernel)) (goodIn_sub (fun _ h => List.mem_cons_of_mem _ (List.mem_append_right _ h)) (by decide +kernel))
set_option maxRecDepth 20000 in
theorem gX7_ship_X7_checkRange : GoodIn wsX7_ship (va_wsS RX7 69 yX7_checkRange wsX7_checkRange) := goodIn_app (goodIn_of _ (by decide +kernel)) ggX7_ship_X7_checkRange
set_option maxRecDepth 20000 in
theorem ggX7_ship_X5_init : GoodIn wsX7_ship wsX5_init := goodIn_r _ [24, 25, 26, 27, 28, 29, 44, 45, 46, 47] (by decide +kernel) (by decide +kernel)
set_option maxRecDepth 20000 in
theorem gX7_ship_X5_init : GoodIn wsX7_ship (wsX5_init) := ggX7_ship_X5_init
theorem dX7_ship_0 : decode cX7_ship 0 = .ok (.aload_n 0, 1) := by decide +kernel
theorem dX7_ship_1 : decode cX7_ship 1 = .ok (.iload_n 1, 1) := by decide +kernel
theorem dX7_ship_2 : decode cX7_ship 2 = .ok (.invokevirtual 65, 3) := by decide +kernel
theorem dX7_ship_5 : decode cX7_ship 5 = .ok (.astore_n 3, 1) := by decide +kernel
theorem dX7_ship_6 : decode cX7_ship 6 = .ok (.iload_n 2, 1) := by decide +kernel
theorem dX7_ship_7 : decode cX7_ship 7 = .ok (.iconst 1, 1) := by decide +kernel
theorem dX7_ship_8 : decode cX7_ship 8 = .ok (.sipush 999, 3) := by decide +kernel
theorem dX7_ship_11 : decode cX7_ship 11 = .ok (.invokestatic 69, 3) := by decide +kernel
theorem dX7_ship_14 : decode cX7_ship 14 = .ok (.aload_n 0, 1) := by decide +kernel
theorem dX7_ship_15 : decode cX7_ship 15 = .ok (.getfield 73, 3) := by decide +kernel
theorem dX7_ship_18 : decode cX7_ship 18 = .ok (.bipush 24, 2) := by decide +kernel
theorem dX7_ship_20 : decode cX7_ship 20 = .ok (.if_icmp .lt 13, 3) := by decide +kernel
theorem dX7_ship_23 : decode cX7_ship 23 = .ok (.new 57, 3) := by decide +kernel
theorem dX7_ship_26 : decode cX7_ship 26 = .ok (.dup, 1) := by decide +kernel
theorem dX7_ship_27 : decode cX7_ship 27 = .ok (.ldc 76, 2) := by decide +kernel
theorem dX7_ship_29 : decode cX7_ship 29 = .ok (.invokespecial 61, 3) := by decide +kernel
theorem dX7_ship_32 : decode cX7_ship 32 = .ok (.athrow, 1) := by decide +kernel
theorem dX7_ship_33 : decode cX7_ship 33 = .ok (.aload_n 0, 1) := by decide +kernel
theorem dX7_ship_34 : decode cX7_ship 34 = .ok (.getfield 17, 3) := by decide +kernel
theorem dX7_ship_37 : decode cX7_ship 37 = .ok (.aload_n 0, 1) := by decide +kernel
theorem dX7_ship_38 : decode cX7_ship 38 = .ok (.getfield 73, 3) := by decide +kernel
theorem dX7_ship_41 : decode cX7_ship 41 = .ok (.new 15, 3) := by decide +kernel
theorem dX7_ship_44 : decode cX7_ship 44 = .ok (.dup, 1) := by decide +kernel
theorem dX7_ship_45 : decode cX7_ship 45 = .ok (.aload_n 3, 1) := by decide +kernel
theorem dX7_ship_46 : decode cX7_ship 46 = .ok (.iload_n 2, 1) := by decide +kernel
theorem dX7_ship_47 : decode cX7_ship 47 = .ok (.invokespecial 78, 3) := by decide +kernel
theorem dX7_ship_50 : decode cX7_ship 50 = .ok (.aastore, 1) := by decide +kernel
theorem dX7_ship_51 : decode cX7_ship 51 = .ok (.aload_n 0, 1) := by decide +kernel
theorem dX7_ship_52 : decode cX7_ship 52 = .ok (.dup, 1) := by decide +kernel
theorem dX7_ship_53 : decode cX7_ship 53 = .ok (.getfield 73, 3) := by decide +kernel
theorem dX7_ship_56 : decode cX7_ship 56 = .ok (.iconst 1, 1) := by decide +kernel
theorem dX7_ship_57 : decode cX7_ship 57 = .ok (.iadd, 1) := by decide +kernel
theorem dX7_ship_58 : decode cX7_ship 58 = .ok (.putfield 73, 3) := by decide +kernel
theorem dX7_ship_61 : decode cX7_ship 61 = .ok (.aload_n 0, 1) := by decide +kernel
theorem dX7_ship_62 : decode cX7_ship 62 = .ok (.getfield 73, 3) := by decide +kernel
theorem dX7_ship_65 : decode cX7_ship 65 = .ok (.iconst 1, 1) := by decide +kernel
theorem dX7_ship_66 : decode cX7_ship 66 = .ok (.isub, 1) := by decide +kernel
theorem dX7_ship_67 : decode cX7_ship 67 = .ok (.ireturn, 1) := by decide +kernel
set_option maxRecDepth 20000 in
theorem ggX7_enter_X7_shipOf : GoodIn wsX7_enter wsX7_shipOf := goodIn_ca (goodIn_r _ [16, 17, 18, 19, 20, 42, 43, 44, 45, 46, 47, 48, 49, 50, 51, 52, 53, 54, 55] (by decide +kernel) (by decide +kernel)) (goodIn_sub (fun _ h => List.mem_cons_of_mem _ (List.mem_append_right _ h)) (by decide +kernel))
set_option maxRecDepth 20000 in
theorem gX7_enter_X7_shipOf : GoodIn wsX7_enter (wsV RX7 81 RX7 yX7_shipOf wsX7_shipOf) := goodIn_app (goodIn_of _ (by decide +kernel)) ggX7_enter_X7_shipOf
set_option maxRecDepth 20000 in
theorem ggX7_enter_X7_yearOfDay : GoodIn wsX7_enter wsX7_yearOfDay := goodIn_r _ [23] (by decide +kernel) (by decide +kernel)
set_option maxRecDepth 20000 in
theorem gX7_enter_X7_yearOfDay : GoodIn wsX7_enter (va_wsS RX7 102 yX7_yearOfDay wsX7_yearOfDay) := goodIn_app (goodIn_of _ (by decide +kernel)) ggX7_enter_X7_yearOfDay
set_option maxRecDepth 20000 in
theorem ggX7_enter_X1_init : GoodIn wsX7_enter wsX1_init := goodIn_r _ [26, 27, 28, 29, 30, 31, 32, 56, 57, 58] (by decide +kernel) (by decide +kernel)
set_option maxRecDepth 20000 in
theorem gX7_enter_X1_init : GoodIn wsX7_enter (wsX1_init) := ggX7_enter_X1_init
theorem dX7_enter_0 : decode cX7_enter 0 = .ok (.aload_n 0, 1) := by decide +kernel
theorem dX7_enter_1 : decode cX7_enter 1 = .ok (.iload_n 1, 1) := by decide +kernel
theorem dX7_enter_2 : decode cX7_enter 2 = .ok (.invokevirtual 81, 3) := by decide +kernel
theorem dX7_enter_5 : decode cX7_enter 5 = .ok (.astore_n 2, 1) := by decide +kernel
theorem dX7_enter_6 : decode cX7_enter 6 = .ok (.aload_n 2, 1) := by decide +kernel
theorem dX7_enter_7 : decode cX7_enter 7 = .ok (.getfield 85, 3) := by decide +kernel
theorem dX7_enter_10 : decode cX7_enter 10 = .ok (.ifnull 13, 3) := by decide +kernel
theorem dX7_enter_13 : decode cX7_enter 13 = .ok (.new 57, 3) := by decide +kernel
theorem dX7_enter_16 : decode cX7_enter 16 = .ok (.dup, 1) := by decide +kernel
theorem dX7_enter_17 : decode cX7_enter 17 = .ok (.ldc 89, 2) := by decide +kernel
theorem dX7_enter_19 : decode cX7_enter 19 = .ok (.invokespecial 61, 3) := by decide +kernel
theorem dX7_enter_22 : decode cX7_enter 22 = .ok (.athrow, 1) := by decide +kernel
theorem dX7_enter_23 : decode cX7_enter 23 = .ok (.aload_n 2, 1) := by decide +kernel
theorem dX7_enter_24 : decode cX7_enter 24 = .ok (.getfield 91, 3) := by decide +kernel
theorem dX7_enter_27 : decode cX7_enter 27 = .ok (.getfield 95, 3) := by decide +kernel
theorem dX7_enter_30 : decode cX7_enter 30 = .ok (.aload_n 0, 1) := by decide +kernel
theorem dX7_enter_31 : decode cX7_enter 31 = .ok (.getfield 99, 3) := by decide +kernel
theorem dX7_enter_34 : decode cX7_enter 34 = .ok (.invokestatic 102, 3) := by decide +kernel
theorem dX7_enter_37 : decode cX7_enter 37 = .ok (.baload, 1) := by decide +kernel
theorem dX7_enter_38 : decode cX7_enter 38 = .ok (.ifCond .eq 13, 3) := by decide +kernel
theorem dX7_enter_41 : decode cX7_enter 41 = .ok (.new 57, 3) := by decide +kernel
theorem dX7_enter_44 : decode cX7_enter 44 = .ok (.dup, 1) := by decide +kernel
theorem dX7_enter_45 : decode cX7_enter 45 = .ok (.ldc 106, 2) := by decide +kernel
theorem dX7_enter_47 : decode cX7_enter 47 = .ok (.invokespecial 61, 3) := by decide +kernel
theorem dX7_enter_50 : decode cX7_enter 50 = .ok (.athrow, 1) := by decide +kernel
theorem dX7_enter_51 : decode cX7_enter 51 = .ok (.aload_n 0, 1) := by decide +kernel
theorem dX7_enter_52 : decode cX7_enter 52 = .ok (.getfield 108, 3) := by decide +kernel
theorem dX7_enter_55 : decode cX7_enter 55 = .ok (.bipush 60, 2) := by decide +kernel
theorem dX7_enter_57 : decode cX7_enter 57 = .ok (.if_icmp .lt 13, 3) := by decide +kernel
theorem dX7_enter_60 : decode cX7_enter 60 = .ok (.new 57, 3) := by decide +kernel
theorem dX7_enter_63 : decode cX7_enter 63 = .ok (.dup, 1) := by decide +kernel
theorem dX7_enter_64 : decode cX7_enter 64 = .ok (.ldc 111, 2) := by decide +kernel
theorem dX7_enter_66 : decode cX7_enter 66 = .ok (.invokespecial 61, 3) := by decide +kernel
theorem dX7_enter_69 : decode cX7_enter 69 = .ok (.athrow, 1) := by decide +kernel
theorem dX7_enter_70 : decode cX7_enter 70 = .ok (.new 21, 3) := by decide +kernel
theorem dX7_enter_73 : decode cX7_enter 73 = .ok (.dup, 1) := by decide +kernel
theorem dX7_enter_74 : decode cX7_enter 74 = .ok (.aload_n 2, 1) := by decide +kernel
theorem dX7_enter_75 : decode cX7_enter 75 = .ok (.aload_n 0, 1) := by decide +kernel
theorem dX7_enter_76 : decode cX7_enter 76 = .ok (.getfield 99, 3) := by decide +kernel
theorem dX7_enter_79 : decode cX7_enter 79 = .ok (.invokespecial 113, 3) := by decide +kernel
theorem dX7_enter_82 : decode cX7_enter 82 = .ok (.astore_n 3, 1) := by decide +kernel
theorem dX7_enter_83 : decode cX7_enter 83 = .ok (.aload_n 0, 1) := by decide +kernel
theorem dX7_enter_84 : decode cX7_enter 84 = .ok (.getfield 23, 3) := by decide +kernel
theorem dX7_enter_87 : decode cX7_enter 87 = .ok (.aload_n 0, 1) := by decide +kernel
theorem dX7_enter_88 : decode cX7_enter 88 = .ok (.getfield 108, 3) := by decide +kernel
theorem dX7_enter_91 : decode cX7_enter 91 = .ok (.aload_n 3, 1) := by decide +kernel
theorem dX7_enter_92 : decode cX7_enter 92 = .ok (.aastore, 1) := by decide +kernel
theorem dX7_enter_93 : decode cX7_enter 93 = .ok (.aload_n 0, 1) := by decide +kernel
theorem dX7_enter_94 : decode cX7_enter 94 = .ok (.dup, 1) := by decide +kernel
theorem dX7_enter_95 : decode cX7_enter 95 = .ok (.getfield 108, 3) := by decide +kernel
theorem dX7_enter_98 : decode cX7_enter 98 = .ok (.iconst 1, 1) := by decide +kernel
theorem dX7_enter_99 : decode cX7_enter 99 = .ok (.iadd, 1) := by decide +kernel
theorem dX7_enter_100 : decode cX7_enter 100 = .ok (.putfield 108, 3) := by decide +kernel
theorem dX7_enter_103 : decode cX7_enter 103 = .ok (.aload_n 2, 1) := by decide +kernel
theorem dX7_enter_104 : decode cX7_enter 104 = .ok (.aload_n 3, 1) := by decide +kernel
theorem dX7_enter_105 : decode cX7_enter 105 = .ok (.putfield 85, 3) := by decide +kernel
theorem dX7_enter_108 : decode cX7_enter 108 = .ok (.return_, 1) := by decide +kernel
set_option maxRecDepth 20000 in
theorem ggX7_leave_X7_shipOf : GoodIn wsX7_leave wsX7_shipOf := goodIn_ca (goodIn_r _ [11, 12, 13, 14, 15, 20, 21, 22, 23, 24, 25, 26, 27, 28, 29, 30, 31, 32, 33] (by decide +kernel) (by decide +kernel)) (goodIn_sub (fun _ h => List.mem_cons_of_mem _ (List.mem_append_right _ h)) (by decide +kernel))
set_option maxRecDepth 20000 in
theorem gX7_leave_X7_shipOf : GoodIn wsX7_leave (wsV RX7 81 RX7 yX7_shipOf wsX7_shipOf) := goodIn_app (goodIn_of _ (by decide +kernel)) ggX7_leave_X7_shipOf
theorem dX7_leave_0 : decode cX7_leave 0 = .ok (.aload_n 0, 1) := by decide +kernel
theorem dX7_leave_1 : decode cX7_leave 1 = .ok (.iload_n 1, 1) := by decide +kernel
theorem dX7_leave_2 : decode cX7_leave 2 = .ok (.invokevirtual 81, 3) := by decide +kernel
theorem dX7_leave_5 : decode cX7_leave 5 = .ok (.astore_n 2, 1) := by decide +kernel
theorem dX7_leave_6 : decode cX7_leave 6 = .ok (.aload_n 2, 1) := by decide +kernel
theorem dX7_leave_7 : decode cX7_leave 7 = .ok (.getfield 85, 3) := by decide +kernel
theorem dX7_leave_10 : decode cX7_leave 10 = .ok (.astore_n 3, 1) := by decide +kernel
theorem dX7_leave_11 : decode cX7_leave 11 = .ok (.aload_n 3, 1) := by decide +kernel
theorem dX7_leave_12 : decode cX7_leave 12 = .ok (.ifnonnull 13, 3) := by decide +kernel
theorem dX7_leave_15 : decode cX7_leave 15 = .ok (.new 57, 3) := by decide +kernel
theorem dX7_leave_18 : decode cX7_leave 18 = .ok (.dup, 1) := by decide +kernel
theorem dX7_leave_19 : decode cX7_leave 19 = .ok (.ldc 116, 2) := by decide +kernel
theorem dX7_leave_21 : decode cX7_leave 21 = .ok (.invokespecial 61, 3) := by decide +kernel
theorem dX7_leave_24 : decode cX7_leave 24 = .ok (.athrow, 1) := by decide +kernel
theorem dX7_leave_25 : decode cX7_leave 25 = .ok (.aload_n 3, 1) := by decide +kernel
theorem dX7_leave_26 : decode cX7_leave 26 = .ok (.aload_n 0, 1) := by decide +kernel
theorem dX7_leave_27 : decode cX7_leave 27 = .ok (.getfield 99, 3) := by decide +kernel
theorem dX7_leave_30 : decode cX7_leave 30 = .ok (.putfield 118, 3) := by decide +kernel
theorem dX7_leave_33 : decode cX7_leave 33 = .ok (.aload_n 2, 1) := by decide +kernel
theorem dX7_leave_34 : decode cX7_leave 34 = .ok (.aconst_null, 1) := by decide +kernel
theorem dX7_leave_35 : decode cX7_leave 35 = .ok (.putfield 85, 3) := by decide +kernel
theorem dX7_leave_38 : decode cX7_leave 38 = .ok (.aload_n 0, 1) := by decide +kernel
theorem dX7_leave_39 : decode cX7_leave 39 = .ok (.getfield 99, 3) := by decide +kernel
theorem dX7_leave_42 : decode cX7_leave 42 = .ok (.aload_n 3, 1) := by decide +kernel
theorem dX7_leave_43 : decode cX7_leave 43 = .ok (.getfield 121, 3) := by decide +kernel
theorem dX7_leave_46 : decode cX7_leave 46 = .ok (.isub, 1) := by decide +kernel
theorem dX7_leave_47 : decode cX7_leave 47 = .ok (.ireturn, 1) := by decide +kernel
set_option maxRecDepth 20000 in
theorem ggX7_pass_X7_checkRange : GoodIn wsX7_pass wsX7_checkRange := goodIn_ca (goodIn_r _ [7, 8, 9] (by decide +kernel) (by decide +kernel)) (goodIn_sub (fun _ h => List.mem_cons_of_mem _ (List.mem_append_right _ h)) (by decide +kernel))
set_option maxRecDepth 20000 in
theorem gX7_pass_X7_checkRange : GoodIn wsX7_pass (va_wsS RX7 69 yX7_checkRange wsX7_checkRange) := goodIn_app (goodIn_of _ (by decide +kernel)) ggX7_pass_X7_checkRange
theorem dX7_pass_0 : decode cX7_pass 0 = .ok (.iload_n 1, 1) := by decide +kernel
theorem dX7_pass_1 : decode cX7_pass 1 = .ok (.iconst 1, 1) := by decide +kernel
theorem dX7_pass_2 : decode cX7_pass 2 = .ok (.sipush 200, 3) := by decide +kernel
theorem dX7_pass_5 : decode cX7_pass 5 = .ok (.invokestatic 69, 3) := by decide +kernel
theorem dX7_pass_8 : decode cX7_pass 8 = .ok (.aload_n 0, 1) := by decide +kernel
theorem dX7_pass_9 : decode cX7_pass 9 = .ok (.getfield 99, 3) := by decide +kernel
theorem dX7_pass_12 : decode cX7_pass 12 = .ok (.iload_n 1, 1) := by decide +kernel
theorem dX7_pass_13 : decode cX7_pass 13 = .ok (.iadd, 1) := by decide +kernel
theorem dX7_pass_14 : decode cX7_pass 14 = .ok (.sipush 2000, 3) := by decide +kernel
theorem dX7_pass_17 : decode cX7_pass 17 = .ok (.if_icmp .lt 13, 3) := by decide +kernel
theorem dX7_pass_20 : decode cX7_pass 20 = .ok (.new 57, 3) := by decide +kernel
theorem dX7_pass_23 : decode cX7_pass 23 = .ok (.dup, 1) := by decide +kernel
theorem dX7_pass_24 : decode cX7_pass 24 = .ok (.ldc 124, 2) := by decide +kernel
theorem dX7_pass_26 : decode cX7_pass 26 = .ok (.invokespecial 61, 3) := by decide +kernel
theorem dX7_pass_29 : decode cX7_pass 29 = .ok (.athrow, 1) := by decide +kernel
theorem dX7_pass_30 : decode cX7_pass 30 = .ok (.aload_n 0, 1) := by decide +kernel
theorem dX7_pass_31 : decode cX7_pass 31 = .ok (.dup, 1) := by decide +kernel
theorem dX7_pass_32 : decode cX7_pass 32 = .ok (.getfield 99, 3) := by decide +kernel
theorem dX7_pass_35 : decode cX7_pass 35 = .ok (.iload_n 1, 1) := by decide +kernel
theorem dX7_pass_36 : decode cX7_pass 36 = .ok (.iadd, 1) := by decide +kernel
theorem dX7_pass_37 : decode cX7_pass 37 = .ok (.putfield 99, 3) := by decide +kernel
theorem dX7_pass_40 : decode cX7_pass 40 = .ok (.aload_n 0, 1) := by decide +kernel
theorem dX7_pass_41 : decode cX7_pass 41 = .ok (.getfield 99, 3) := by decide +kernel
theorem dX7_pass_44 : decode cX7_pass 44 = .ok (.ireturn, 1) := by decide +kernel
set_option maxRecDepth 20000 in
theorem ggX7_rate_X7_memberOf : GoodIn wsX7_rate wsX7_memberOf := goodIn_ca (goodIn_r _ [9, 10, 11, 12, 13, 33, 34, 35, 36, 37, 38, 39, 40, 41, 42, 43, 44, 45, 46] (by decide +kernel) (by decide +kernel)) (goodIn_sub (fun _ h => List.mem_cons_of_mem _ (List.mem_append_left _ (List.mem_append_right _ h))) (by decide +kernel))
set_option maxRecDepth 20000 in
theorem gX7_rate_X7_memberOf : GoodIn wsX7_rate (wsV RX7 65 RX7 yX7_memberOf wsX7_memberOf) := goodIn_app (goodIn_of _ (by decide +kernel)) ggX7_rate_X7_memberOf
set_option maxRecDepth 20000 in
theorem ggX7_rate_X7_checkYear : GoodIn wsX7_rate wsX7_checkYear := goodIn_ca (goodIn_r _ [16, 17, 18, 8, 19, 20, 21] (by decide +kernel) (by decide +kernel)) (goodIn_sub (fun _ h => List.mem_cons_of_mem _ (List.mem_append_right _ h)) (by decide +kernel))
set_option maxRecDepth 20000 in
theorem gX7_rate_X7_checkYear : GoodIn wsX7_rate (va_wsS RX7 126 yX7_checkYear wsX7_checkYear) := goodIn_app (goodIn_of _ (by decide +kernel)) ggX7_rate_X7_checkYear
set_option maxRecDepth 20000 in
theorem ggX7_rate_X7_checkRange : GoodIn wsX7_rate wsX7_checkRange := goodIn_ca (goodIn_r _ [19, 20, 21] (by decide +kernel) (by decide +kernel)) (goodIn_sub (fun _ h => List.mem_cons_of_mem _ (List.mem_append_right _ h)) (by decide +kernel))
set_option maxRecDepth 20000 in
theorem gX7_rate_X7_checkRange : GoodIn wsX7_rate (va_wsS RX7 69 yX7_checkRange wsX7_checkRange) := goodIn_app (goodIn_of _ (by decide +kernel)) ggX7_rate_X7_checkRange
set_option maxRecDepth 20000 in
theorem ggX7_rate_X7_checkOpen : GoodIn wsX7_rate wsX7_checkOpen := goodIn_ca (goodIn_r _ [25, 1, 2, 26, 27, 33, 34, 35, 36, 37, 38, 39, 40, 41, 42, 43, 44, 45, 46, 47, 48, 49, 50, 51, 52, 53] (by decide +kernel) (by decide +kernel)) (goodIn_sub (fun _ h => List.mem_cons_of_mem _ (List.mem_append_left _ (List.mem_append_left _ (List.mem_append_right _ h)))) (by decide +kernel))
set_option maxRecDepth 20000 in
theorem gX7_rate_X7_checkOpen : GoodIn wsX7_rate (wsV RX7 130 RX7 yX7_checkOpen wsX7_checkOpen) := goodIn_app (goodIn_of _ (by decide +kernel)) ggX7_rate_X7_checkOpen
theorem dX7_rate_0 : decode cX7_rate 0 = .ok (.aload_n 0, 1) := by decide +kernel
theorem dX7_rate_1 : decode cX7_rate 1 = .ok (.iload_n 1, 1) := by decide +kernel
theorem dX7_rate_2 : decode cX7_rate 2 = .ok (.invokevirtual 65, 3) := by decide +kernel
theorem dX7_rate_5 : decode cX7_rate 5 = .ok (.astore 4, 2) := by decide +kernel
theorem dX7_rate_7 : decode cX7_rate 7 = .ok (.iload_n 2, 1) := by decide +kernel
theorem dX7_rate_8 : decode cX7_rate 8 = .ok (.invokestatic 126, 3) := by decide +kernel
theorem dX7_rate_11 : decode cX7_rate 11 = .ok (.iload_n 3, 1) := by decide +kernel
theorem dX7_rate_12 : decode cX7_rate 12 = .ok (.bipush 10, 2) := by decide +kernel
theorem dX7_rate_14 : decode cX7_rate 14 = .ok (.sipush 500, 3) := by decide +kernel
theorem dX7_rate_17 : decode cX7_rate 17 = .ok (.invokestatic 69, 3) := by decide +kernel
theorem dX7_rate_20 : decode cX7_rate 20 = .ok (.aload_n 0, 1) := by decide +kernel
theorem dX7_rate_21 : decode cX7_rate 21 = .ok (.iload_n 2, 1) := by decide +kernel
theorem dX7_rate_22 : decode cX7_rate 22 = .ok (.invokevirtual 130, 3) := by decide +kernel
theorem dX7_rate_25 : decode cX7_rate 25 = .ok (.aload 4, 2) := by decide +kernel
theorem dX7_rate_27 : decode cX7_rate 27 = .ok (.getfield 95, 3) := by decide +kernel
theorem dX7_rate_30 : decode cX7_rate 30 = .ok (.iload_n 2, 1) := by decide +kernel
theorem dX7_rate_31 : decode cX7_rate 31 = .ok (.baload, 1) := by decide +kernel
theorem dX7_rate_32 : decode cX7_rate 32 = .ok (.ifCond .eq 13, 3) := by decide +kernel
theorem dX7_rate_35 : decode cX7_rate 35 = .ok (.new 57, 3) := by decide +kernel
theorem dX7_rate_38 : decode cX7_rate 38 = .ok (.dup, 1) := by decide +kernel
theorem dX7_rate_39 : decode cX7_rate 39 = .ok (.ldc 133, 2) := by decide +kernel
theorem dX7_rate_41 : decode cX7_rate 41 = .ok (.invokespecial 61, 3) := by decide +kernel
theorem dX7_rate_44 : decode cX7_rate 44 = .ok (.athrow, 1) := by decide +kernel
theorem dX7_rate_45 : decode cX7_rate 45 = .ok (.aload 4, 2) := by decide +kernel
theorem dX7_rate_47 : decode cX7_rate 47 = .ok (.getfield 135, 3) := by decide +kernel
theorem dX7_rate_50 : decode cX7_rate 50 = .ok (.iload_n 2, 1) := by decide +kernel
theorem dX7_rate_51 : decode cX7_rate 51 = .ok (.iaload, 1) := by decide +kernel
theorem dX7_rate_52 : decode cX7_rate 52 = .ok (.istore 5, 2) := by decide +kernel
theorem dX7_rate_54 : decode cX7_rate 54 = .ok (.aload 4, 2) := by decide +kernel
theorem dX7_rate_56 : decode cX7_rate 56 = .ok (.getfield 135, 3) := by decide +kernel
theorem dX7_rate_59 : decode cX7_rate 59 = .ok (.iload_n 2, 1) := by decide +kernel
theorem dX7_rate_60 : decode cX7_rate 60 = .ok (.iload_n 3, 1) := by decide +kernel
theorem dX7_rate_61 : decode cX7_rate 61 = .ok (.iastore, 1) := by decide +kernel
theorem dX7_rate_62 : decode cX7_rate 62 = .ok (.iload 5, 2) := by decide +kernel
theorem dX7_rate_64 : decode cX7_rate 64 = .ok (.ireturn, 1) := by decide +kernel
set_option maxRecDepth 20000 in
theorem ggX7_weight_X7_memberOf : GoodIn wsX7_weight wsX7_memberOf := goodIn_ca (goodIn_r _ [5, 6, 7, 8, 9, 48, 49, 50, 51, 52, 53, 54, 55, 56, 57, 58, 59, 60, 61] (by decide +kernel) (by decide +kernel)) (goodIn_sub (fun _ h => List.mem_cons_of_mem _ (List.mem_append_left _ (List.mem_append_right _ h))) (by decide +kernel))
set_option maxRecDepth 20000 in
theorem gX7_weight_X7_memberOf : GoodIn wsX7_weight (wsV RX7 65 RX7 yX7_memberOf wsX7_memberOf) := goodIn_app (goodIn_of _ (by decide +kernel)) ggX7_weight_X7_memberOf
set_option maxRecDepth 20000 in
theorem ggX7_weight_X7_checkYear : GoodIn wsX7_weight wsX7_checkYear := goodIn_ca (goodIn_r _ [12, 13, 14, 4, 15, 16, 17] (by decide +kernel) (by decide +kernel)) (goodIn_sub (fun _ h => List.mem_cons_of_mem _ (List.mem_append_right _ h)) (by decide +kernel))
set_option maxRecDepth 20000 in
theorem gX7_weight_X7_checkYear : GoodIn wsX7_weight (va_wsS RX7 126 yX7_checkYear wsX7_checkYear) := goodIn_app (goodIn_of _ (by decide +kernel)) ggX7_weight_X7_checkYear
set_option maxRecDepth 20000 in
theorem ggX7_weight_X7_weightIn : GoodIn wsX7_weight wsX7_weightIn := goodIn_r _ [21, 22, 23, 24, 25, 26, 27, 28, 29, 30, 31, 32, 33, 34, 35, 36, 37, 38, 39, 40, 41, 42, 43, 44, 45, 46, 47, 48, 49, 50, 51, 52, 53, 54, 55, 56, 57, 58, 59, 60, 61, 62, 63, 64, 65, 66, 67, 68, 69, 70, 71, 72, 73] (by decide +kernel) (by decide +kernel)
set_option maxRecDepth 20000 in
theorem gX7_weight_X7_weightIn : GoodIn wsX7_weight (wsV RX7 139 RX7 yX7_weightIn wsX7_weightIn) := goodIn_app (goodIn_of _ (by decide +kernel)) ggX7_weight_X7_weightIn
theorem dX7_weight_0 : decode cX7_weight 0 = .ok (.aload_n 0, 1) := by decide +kernel
theorem dX7_weight_1 : decode cX7_weight 1 = .ok (.iload_n 1, 1) := by decide +kernel
theorem dX7_weight_2 : decode cX7_weight 2 = .ok (.invokevirtual 65, 3) := by decide +kernel
theorem dX7_weight_5 : decode cX7_weight 5 = .ok (.astore_n 3, 1) := by decide +kernel
theorem dX7_weight_6 : decode cX7_weight 6 = .ok (.iload_n 2, 1) := by decide +kernel
theorem dX7_weight_7 : decode cX7_weight 7 = .ok (.invokestatic 126, 3) := by decide +kernel
theorem dX7_weight_10 : decode cX7_weight 10 = .ok (.aload_n 0, 1) := by decide +kernel
theorem dX7_weight_11 : decode cX7_weight 11 = .ok (.aload_n 3, 1) := by decide +kernel
theorem dX7_weight_12 : decode cX7_weight 12 = .ok (.iload_n 2, 1) := by decide +kernel
theorem dX7_weight_13 : decode cX7_weight 13 = .ok (.invokevirtual 139, 3) := by decide +kernel
theorem dX7_weight_16 : decode cX7_weight 16 = .ok (.lreturn, 1) := by decide +kernel
set_option maxRecDepth 20000 in
theorem ggX7_rule_X7_checkKind : GoodIn wsX7_rule wsX7_checkKind := goodIn_ca (goodIn_r _ [7, 8, 9, 6, 10, 11, 12] (by decide +kernel) (by decide +kernel)) (goodIn_sub (fun _ h => List.mem_cons_of_mem _ (List.mem_append_left _ (List.mem_append_right _ h))) (by decide +kernel))
set_option maxRecDepth 20000 in
theorem gX7_rule_X7_checkKind : GoodIn wsX7_rule (va_wsS RX7 150 yX7_checkKind wsX7_checkKind) := goodIn_app (goodIn_of _ (by decide +kernel)) ggX7_rule_X7_checkKind
set_option maxRecDepth 20000 in
theorem ggX7_rule_X7_checkYear : GoodIn wsX7_rule wsX7_checkYear := goodIn_ca (goodIn_r _ [15, 8, 9, 6, 10, 11, 12] (by decide +kernel) (by decide +kernel)) (goodIn_sub (fun _ h => List.mem_cons_of_mem _ (List.mem_append_left _ (List.mem_append_right _ h))) (by decide +kernel))
set_option maxRecDepth 20000 in
theorem gX7_rule_X7_checkYear : GoodIn wsX7_rule (va_wsS RX7 126 yX7_checkYear wsX7_checkYear) := goodIn_app (goodIn_of _ (by decide +kernel)) ggX7_rule_X7_checkYear
set_option maxRecDepth 20000 in
theorem ggX7_rule_X7_checkRange : GoodIn wsX7_rule wsX7_checkRange := goodIn_ca (goodIn_r _ [10, 11, 12] (by decide +kernel) (by decide +kernel)) (goodIn_sub (fun _ h => List.mem_cons_of_mem _ (List.mem_append_left _ (List.mem_append_right _ h))) (by decide +kernel))
set_option maxRecDepth 20000 in
theorem gX7_rule_X7_checkRange : GoodIn wsX7_rule (va_wsS RX7 69 yX7_checkRange wsX7_checkRange) := goodIn_app (goodIn_of _ (by decide +kernel)) ggX7_rule_X7_checkRange
set_option maxRecDepth 20000 in
theorem ggX7_rule_X7_checkOpen : GoodIn wsX7_rule wsX7_checkOpen := goodIn_ca (goodIn_r _ [19, 20, 21, 22, 23, 31, 32, 33, 34, 35, 36, 37, 38, 39, 40, 41, 42, 43, 44, 45, 46, 47, 48, 49, 50, 51] (by decide +kernel) (by decide +kernel)) (goodIn_sub (fun _ h => List.mem_cons_of_mem _ (List.mem_append_right _ h)) (by decide +kernel))
set_option maxRecDepth 20000 in
theorem gX7_rule_X7_checkOpen : GoodIn wsX7_rule (wsV RX7 130 RX7 yX7_checkOpen wsX7_checkOpen) := goodIn_app (goodIn_of _ (by decide +kernel)) ggX7_rule_X7_checkOpen
set_option maxRecDepth 20000 in
theorem ggX7_rule_X4_tell : GoodIn wsX7_rule wsX4_tell := goodIn_r _ [28, 29, 30, 52, 53] (by decide +kernel) (by decide +kernel)
set_option maxRecDepth 20000 in
theorem gX7_rule_X4_tell : GoodIn wsX7_rule (wsV RX7 155 RX4 yX4_tell wsX4_tell) := goodIn_app (goodIn_of _ (by decide +kernel)) ggX7_rule_X4_tell
theorem dX7_rule_0 : decode cX7_rule 0 = .ok (.iload_n 1, 1) := by decide +kernel
theorem dX7_rule_1 : decode cX7_rule 1 = .ok (.invokestatic 150, 3) := by decide +kernel
theorem dX7_rule_4 : decode cX7_rule 4 = .ok (.iload_n 2, 1) := by decide +kernel
theorem dX7_rule_5 : decode cX7_rule 5 = .ok (.invokestatic 126, 3) := by decide +kernel
theorem dX7_rule_8 : decode cX7_rule 8 = .ok (.iload_n 3, 1) := by decide +kernel
theorem dX7_rule_9 : decode cX7_rule 9 = .ok (.iconst 0, 1) := by decide +kernel
theorem dX7_rule_10 : decode cX7_rule 10 = .ok (.ldc 153, 2) := by decide +kernel
theorem dX7_rule_12 : decode cX7_rule 12 = .ok (.invokestatic 69, 3) := by decide +kernel
theorem dX7_rule_15 : decode cX7_rule 15 = .ok (.iload 4, 2) := by decide +kernel
theorem dX7_rule_17 : decode cX7_rule 17 = .ok (.iconst 0, 1) := by decide +kernel
theorem dX7_rule_18 : decode cX7_rule 18 = .ok (.ldc 154, 2) := by decide +kernel
theorem dX7_rule_20 : decode cX7_rule 20 = .ok (.invokestatic 69, 3) := by decide +kernel
theorem dX7_rule_23 : decode cX7_rule 23 = .ok (.aload_n 0, 1) := by decide +kernel
theorem dX7_rule_24 : decode cX7_rule 24 = .ok (.iload_n 2, 1) := by decide +kernel
theorem dX7_rule_25 : decode cX7_rule 25 = .ok (.invokevirtual 130, 3) := by decide +kernel
theorem dX7_rule_28 : decode cX7_rule 28 = .ok (.aload_n 0, 1) := by decide +kernel
theorem dX7_rule_29 : decode cX7_rule 29 = .ok (.getfield 48, 3) := by decide +kernel
theorem dX7_rule_32 : decode cX7_rule 32 = .ok (.iload_n 1, 1) := by decide +kernel
theorem dX7_rule_33 : decode cX7_rule 33 = .ok (.iload_n 2, 1) := by decide +kernel
theorem dX7_rule_34 : decode cX7_rule 34 = .ok (.iload_n 3, 1) := by decide +kernel
theorem dX7_rule_35 : decode cX7_rule 35 = .ok (.iload 4, 2) := by decide +kernel
theorem dX7_rule_37 : decode cX7_rule 37 = .ok (.invokevirtual 155, 3) := by decide +kernel
theorem dX7_rule_40 : decode cX7_rule 40 = .ok (.return_, 1) := by decide +kernel
set_option maxRecDepth 20000 in
theorem ggX7_pool_X7_checkYear : GoodIn wsX7_pool wsX7_checkYear := goodIn_ca (goodIn_r _ [7, 8, 9, 6, 10, 11, 12] (by decide +kernel) (by decide +kernel)) (goodIn_sub (fun _ h => List.mem_cons_of_mem _ (List.mem_append_left _ (List.mem_append_right _ h))) (by decide +kernel))
set_option maxRecDepth 20000 in
theorem gX7_pool_X7_checkYear : GoodIn wsX7_pool (va_wsS RX7 126 yX7_checkYear wsX7_checkYear) := goodIn_app (goodIn_of _ (by decide +kernel)) ggX7_pool_X7_checkYear
set_option maxRecDepth 20000 in
theorem ggX7_pool_X7_checkRange : GoodIn wsX7_pool wsX7_checkRange := goodIn_ca (goodIn_r _ [10, 11, 12] (by decide +kernel) (by decide +kernel)) (goodIn_sub (fun _ h => List.mem_cons_of_mem _ (List.mem_append_left _ (List.mem_append_right _ h))) (by decide +kernel))
set_option maxRecDepth 20000 in
theorem gX7_pool_X7_checkRange : GoodIn wsX7_pool (va_wsS RX7 69 yX7_checkRange wsX7_checkRange) := goodIn_app (goodIn_of _ (by decide +kernel)) ggX7_pool_X7_checkRange
set_option maxRecDepth 20000 in
theorem ggX7_pool_X7_checkOpen : GoodIn wsX7_pool wsX7_checkOpen := goodIn_ca (goodIn_r _ [16, 17, 18, 3, 19, 29, 30, 31, 32, 33, 34, 35, 36, 37, 38, 39, 40, 41, 42, 43, 44, 45, 46, 47, 48, 49] (by decide +kernel) (by decide +kernel)) (goodIn_sub (fun _ h => List.mem_cons_of_mem _ (List.mem_append_right _ h)) (by decide +kernel))
set_option maxRecDepth 20000 in
theorem gX7_pool_X7_checkOpen : GoodIn wsX7_pool (wsV RX7 130 RX7 yX7_checkOpen wsX7_checkOpen) := goodIn_app (goodIn_of _ (by decide +kernel)) ggX7_pool_X7_checkOpen
set_option maxRecDepth 20000 in
theorem ggX7_pool_X6_tellPool : GoodIn wsX7_pool wsX6_tellPool := goodIn_r _ [24, 25, 26, 27, 28, 43, 44, 45, 46, 47, 48, 49] (by decide +kernel) (by decide +kernel)
set_option maxRecDepth 20000 in
theorem gX7_pool_X6_tellPool : GoodIn wsX7_pool (wsV RX7 160 RX6 yX6_tellPool wsX6_tellPool) := goodIn_app (goodIn_of _ (by decide +kernel)) ggX7_pool_X6_tellPool
theorem dX7_pool_0 : decode cX7_pool 0 = .ok (.iload_n 1, 1) := by decide +kernel
theorem dX7_pool_1 : decode cX7_pool 1 = .ok (.invokestatic 126, 3) := by decide +kernel
theorem dX7_pool_4 : decode cX7_pool 4 = .ok (.iload_n 2, 1) := by decide +kernel
theorem dX7_pool_5 : decode cX7_pool 5 = .ok (.iconst 0, 1) := by decide +kernel
theorem dX7_pool_6 : decode cX7_pool 6 = .ok (.ldc 154, 2) := by decide +kernel
theorem dX7_pool_8 : decode cX7_pool 8 = .ok (.invokestatic 69, 3) := by decide +kernel
theorem dX7_pool_11 : decode cX7_pool 11 = .ok (.iload_n 3, 1) := by decide +kernel
theorem dX7_pool_12 : decode cX7_pool 12 = .ok (.iload_n 2, 1) := by decide +kernel
theorem dX7_pool_13 : decode cX7_pool 13 = .ok (.ldc 159, 2) := by decide +kernel
theorem dX7_pool_15 : decode cX7_pool 15 = .ok (.invokestatic 69, 3) := by decide +kernel
theorem dX7_pool_18 : decode cX7_pool 18 = .ok (.iload 4, 2) := by decide +kernel
theorem dX7_pool_20 : decode cX7_pool 20 = .ok (.iconst 0, 1) := by decide +kernel
theorem dX7_pool_21 : decode cX7_pool 21 = .ok (.bipush 100, 2) := by decide +kernel
theorem dX7_pool_23 : decode cX7_pool 23 = .ok (.invokestatic 69, 3) := by decide +kernel
theorem dX7_pool_26 : decode cX7_pool 26 = .ok (.aload_n 0, 1) := by decide +kernel
theorem dX7_pool_27 : decode cX7_pool 27 = .ok (.iload_n 1, 1) := by decide +kernel
theorem dX7_pool_28 : decode cX7_pool 28 = .ok (.invokevirtual 130, 3) := by decide +kernel
theorem dX7_pool_31 : decode cX7_pool 31 = .ok (.aload_n 0, 1) := by decide +kernel
theorem dX7_pool_32 : decode cX7_pool 32 = .ok (.getfield 41, 3) := by decide +kernel
theorem dX7_pool_35 : decode cX7_pool 35 = .ok (.iload_n 1, 1) := by decide +kernel
theorem dX7_pool_36 : decode cX7_pool 36 = .ok (.aaload, 1) := by decide +kernel
theorem dX7_pool_37 : decode cX7_pool 37 = .ok (.iload_n 2, 1) := by decide +kernel
theorem dX7_pool_38 : decode cX7_pool 38 = .ok (.iload_n 3, 1) := by decide +kernel
theorem dX7_pool_39 : decode cX7_pool 39 = .ok (.iload 4, 2) := by decide +kernel
theorem dX7_pool_41 : decode cX7_pool 41 = .ok (.invokevirtual 160, 3) := by decide +kernel
theorem dX7_pool_44 : decode cX7_pool 44 = .ok (.return_, 1) := by decide +kernel
set_option maxRecDepth 20000 in
theorem ggX7_claim_X7_shipOf : GoodIn wsX7_claim wsX7_shipOf := goodIn_ca (goodIn_r _ [9, 10, 11, 12, 13, 78, 79, 80, 81, 82, 83, 84, 85, 86, 87, 88, 89, 90, 91] (by decide +kernel) (by decide +kernel)) (goodIn_sub (fun _ h => List.mem_cons_of_mem _ (List.mem_append_left _ (List.mem_append_right _ h))) (by decide +kernel))
set_option maxRecDepth 20000 in
theorem gX7_claim_X7_shipOf : GoodIn wsX7_claim (wsV RX7 81 RX7 yX7_shipOf wsX7_shipOf) := goodIn_app (goodIn_of _ (by decide +kernel)) ggX7_claim_X7_shipOf
set_option maxRecDepth 20000 in
theorem ggX7_claim_X7_eventOf : GoodIn wsX7_claim wsX7_eventOf := goodIn_ca (goodIn_r _ [17, 10, 11, 18, 19, 78, 79, 80, 81, 82, 83, 84, 85, 86, 87, 88, 89, 90, 91] (by decide +kernel) (by decide +kernel)) (goodIn_sub (fun _ h => List.mem_cons_of_mem _ (List.mem_append_left _ (List.mem_append_right _ h))) (by decide +kernel))
set_option maxRecDepth 20000 in
theorem gX7_claim_X7_eventOf : GoodIn wsX7_claim (wsV RX7 163 RX7 yX7_eventOf wsX7_eventOf) := goodIn_app (goodIn_of _ (by decide +kernel)) ggX7_claim_X7_eventOf
set_option maxRecDepth 20000 in
theorem ggX7_claim_X7_checkKind : GoodIn wsX7_claim wsX7_checkKind := goodIn_ca (goodIn_r _ [22, 23, 24, 8, 25, 1, 2] (by decide +kernel) (by decide +kernel)) (goodIn_sub (fun _ h => List.mem_cons_of_mem _ (List.mem_append_left _ (List.mem_append_left _ (List.mem_append_right _ h)))) (by decide +kernel))
set_option maxRecDepth 20000 in
theorem gX7_claim_X7_checkKind : GoodIn wsX7_claim (va_wsS RX7 150 yX7_checkKind wsX7_checkKind) := goodIn_app (goodIn_of _ (by decide +kernel)) ggX7_claim_X7_checkKind
set_option maxRecDepth 20000 in
theorem ggX7_claim_X7_checkRange : GoodIn wsX7_claim wsX7_checkRange := goodIn_ca (goodIn_r _ [25, 1, 2] (by decide +kernel) (by decide +kernel)) (goodIn_sub (fun _ h => List.mem_cons_of_mem _ (List.mem_append_left _ (List.mem_append_left _ (List.mem_append_right _ h)))) (by decide +kernel))
set_option maxRecDepth 20000 in
theorem gX7_claim_X7_checkRange : GoodIn wsX7_claim (va_wsS RX7 69 yX7_checkRange wsX7_checkRange) := goodIn_app (goodIn_of _ (by decide +kernel)) ggX7_claim_X7_checkRange
set_option maxRecDepth 20000 in
theorem ggX7_claim_X7_checkLoss : GoodIn wsX7_claim wsX7_checkLoss := goodIn_ca (goodIn_r _ [28, 29, 23, 24, 8, 25, 1, 2] (by decide +kernel) (by decide +kernel)) (goodIn_sub (fun _ h => List.mem_cons_of_mem _ (List.mem_append_left _ (List.mem_append_left _ (List.mem_append_right _ h)))) (by decide +kernel))
set_option maxRecDepth 20000 in
theorem gX7_claim_X7_checkLoss : GoodIn wsX7_claim (va_wsS RX7 167 yX7_checkLoss wsX7_checkLoss) := goodIn_app (goodIn_of _ (by decide +kernel)) ggX7_claim_X7_checkLoss
set_option maxRecDepth 20000 in
theorem ggX7_claim_X7_yearOfDay : GoodIn wsX7_claim wsX7_yearOfDay := goodIn_r _ [32] (by decide +kernel) (by decide +kernel)
set_option maxRecDepth 20000 in
theorem gX7_claim_X7_yearOfDay : GoodIn wsX7_claim (va_wsS RX7 102 yX7_yearOfDay wsX7_yearOfDay) := goodIn_app (goodIn_of _ (by decide +kernel)) ggX7_claim_X7_yearOfDay
set_option maxRecDepth 20000 in
theorem ggX7_claim_X7_checkOpen : GoodIn wsX7_claim wsX7_checkOpen := goodIn_ca (goodIn_r _ [36, 37, 38, 39, 40, 78, 79, 80, 81, 82, 83, 84, 85, 86, 87, 88, 89, 90, 91, 95, 96, 97, 98, 99, 100, 101] (by decide +kernel) (by decide +kernel)) (goodIn_sub (fun _ h => List.mem_cons_of_mem _ (List.mem_append_right _ h)) (by decide +kernel))
set_option maxRecDepth 20000 in
theorem gX7_claim_X7_checkOpen : GoodIn wsX7_claim (wsV RX7 130 RX7 yX7_checkOpen wsX7_checkOpen) := goodIn_app (goodIn_of _ (by decide +kernel)) ggX7_claim_X7_checkOpen
set_option maxRecDepth 20000 in
theorem ggX7_claim_X7_checkRoomForClaims : GoodIn wsX7_claim wsX7_checkRoomForClaims := goodIn_ca (goodIn_r _ [44, 37, 38, 45, 78, 79, 80, 81, 82, 83, 84, 85, 86, 87, 88, 89, 90, 91] (by decide +kernel) (by decide +kernel)) (goodIn_sub (fun _ h => List.mem_cons_of_mem _ (List.mem_append_right _ h)) (by decide +kernel))
set_option maxRecDepth 20000 in
theorem gX7_claim_X7_checkRoomForClaims : GoodIn wsX7_claim (wsV RX7 178 RX7 yX7_checkRoomForClaims wsX7_checkRoomForClaims) := goodIn_app (goodIn_of _ (by decide +kernel)) ggX7_claim_X7_checkRoomForClaims
set_option maxRecDepth 20000 in
theorem ggX7_claim_X7_newEvent : GoodIn wsX7_claim wsX7_newEvent := goodIn_r _ [49, 50, 51, 52, 18, 19, 53, 54, 55, 56, 57, 58, 59, 60, 92, 93, 94, 78, 79, 80, 81, 82, 83, 84, 85, 86, 87, 88, 89, 90, 91] (by decide +kernel) (by decide +kernel)
set_option maxRecDepth 20000 in
theorem gX7_claim_X7_newEvent : GoodIn wsX7_claim (wsV RX7 181 RX7 yX7_newEvent wsX7_newEvent) := goodIn_app (goodIn_of _ (by decide +kernel)) ggX7_claim_X7_newEvent
set_option maxRecDepth 20000 in
theorem ggX7_claim_X7_newClaim : GoodIn wsX7_claim wsX7_newClaim := goodIn_r _ [64, 65, 45, 66, 67, 68, 69, 70, 71, 72, 73, 57, 58, 74, 75, 76, 77, 78, 79, 80, 81, 82, 83, 84, 85, 86, 87, 88, 89, 90, 91, 102, 103, 104, 105, 106, 107, 108, 109, 92, 93, 94] (by decide +kernel) (by decide +kernel)
set_option maxRecDepth 20000 in
theorem gX7_claim_X7_newClaim : GoodIn wsX7_claim (wsV RX7 184 RX7 yX7_newClaim wsX7_newClaim) := goodIn_app (goodIn_of _ (by decide +kernel)) ggX7_claim_X7_newClaim
theorem dX7_claim_0 : decode cX7_claim 0 = .ok (.aload_n 0, 1) := by decide +kernel
theorem dX7_claim_1 : decode cX7_claim 1 = .ok (.iload_n 1, 1) := by decide +kernel
theorem dX7_claim_2 : decode cX7_claim 2 = .ok (.invokevirtual 81, 3) := by decide +kernel
theorem dX7_claim_5 : decode cX7_claim 5 = .ok (.astore 6, 2) := by decide +kernel
theorem dX7_claim_7 : decode cX7_claim 7 = .ok (.iload 5, 2) := by decide +kernel
theorem dX7_claim_9 : decode cX7_claim 9 = .ok (.iconst (-1), 1) := by decide +kernel
theorem dX7_claim_10 : decode cX7_claim 10 = .ok (.if_icmp .ne 7, 3) := by decide +kernel
theorem dX7_claim_13 : decode cX7_claim 13 = .ok (.aconst_null, 1) := by decide +kernel
theorem dX7_claim_14 : decode cX7_claim 14 = .ok (.goto 9, 3) := by decide +kernel
theorem dX7_claim_17 : decode cX7_claim 17 = .ok (.aload_n 0, 1) := by decide +kernel
theorem dX7_claim_18 : decode cX7_claim 18 = .ok (.iload 5, 2) := by decide +kernel
theorem dX7_claim_20 : decode cX7_claim 20 = .ok (.invokevirtual 163, 3) := by decide +kernel
theorem dX7_claim_23 : decode cX7_claim 23 = .ok (.astore 7, 2) := by decide +kernel
theorem dX7_claim_25 : decode cX7_claim 25 = .ok (.iload_n 2, 1) := by decide +kernel
theorem dX7_claim_26 : decode cX7_claim 26 = .ok (.invokestatic 150, 3) := by decide +kernel
theorem dX7_claim_29 : decode cX7_claim 29 = .ok (.iload_n 3, 1) := by decide +kernel
theorem dX7_claim_30 : decode cX7_claim 30 = .ok (.iconst 0, 1) := by decide +kernel
theorem dX7_claim_31 : decode cX7_claim 31 = .ok (.aload_n 0, 1) := by decide +kernel
theorem dX7_claim_32 : decode cX7_claim 32 = .ok (.getfield 99, 3) := by decide +kernel
theorem dX7_claim_35 : decode cX7_claim 35 = .ok (.invokestatic 69, 3) := by decide +kernel
theorem dX7_claim_38 : decode cX7_claim 38 = .ok (.iload 4, 2) := by decide +kernel
theorem dX7_claim_40 : decode cX7_claim 40 = .ok (.invokestatic 167, 3) := by decide +kernel
theorem dX7_claim_43 : decode cX7_claim 43 = .ok (.aload 7, 2) := by decide +kernel
theorem dX7_claim_45 : decode cX7_claim 45 = .ok (.ifnull 22, 3) := by decide +kernel
theorem dX7_claim_48 : decode cX7_claim 48 = .ok (.aload 7, 2) := by decide +kernel
theorem dX7_claim_50 : decode cX7_claim 50 = .ok (.getfield 170, 3) := by decide +kernel
theorem dX7_claim_53 : decode cX7_claim 53 = .ok (.iload_n 3, 1) := by decide +kernel
theorem dX7_claim_54 : decode cX7_claim 54 = .ok (.if_icmp .eq 13, 3) := by decide +kernel
theorem dX7_claim_57 : decode cX7_claim 57 = .ok (.new 173, 3) := by decide +kernel
theorem dX7_claim_60 : decode cX7_claim 60 = .ok (.dup, 1) := by decide +kernel
theorem dX7_claim_61 : decode cX7_claim 61 = .ok (.ldc 175, 2) := by decide +kernel
theorem dX7_claim_63 : decode cX7_claim 63 = .ok (.invokespecial 177, 3) := by decide +kernel
theorem dX7_claim_66 : decode cX7_claim 66 = .ok (.athrow, 1) := by decide +kernel
theorem dX7_claim_67 : decode cX7_claim 67 = .ok (.aload_n 0, 1) := by decide +kernel
theorem dX7_claim_68 : decode cX7_claim 68 = .ok (.iload_n 3, 1) := by decide +kernel
theorem dX7_claim_69 : decode cX7_claim 69 = .ok (.invokestatic 102, 3) := by decide +kernel
theorem dX7_claim_72 : decode cX7_claim 72 = .ok (.invokevirtual 130, 3) := by decide +kernel
theorem dX7_claim_75 : decode cX7_claim 75 = .ok (.aload_n 0, 1) := by decide +kernel
theorem dX7_claim_76 : decode cX7_claim 76 = .ok (.iconst 1, 1) := by decide +kernel
theorem dX7_claim_77 : decode cX7_claim 77 = .ok (.invokevirtual 178, 3) := by decide +kernel
theorem dX7_claim_80 : decode cX7_claim 80 = .ok (.aload 7, 2) := by decide +kernel
theorem dX7_claim_82 : decode cX7_claim 82 = .ok (.ifnonnull 10, 3) := by decide +kernel
theorem dX7_claim_85 : decode cX7_claim 85 = .ok (.aload_n 0, 1) := by decide +kernel
theorem dX7_claim_86 : decode cX7_claim 86 = .ok (.iload_n 3, 1) := by decide +kernel
theorem dX7_claim_87 : decode cX7_claim 87 = .ok (.invokevirtual 181, 3) := by decide +kernel
theorem dX7_claim_90 : decode cX7_claim 90 = .ok (.astore 7, 2) := by decide +kernel
theorem dX7_claim_92 : decode cX7_claim 92 = .ok (.aload_n 0, 1) := by decide +kernel
theorem dX7_claim_93 : decode cX7_claim 93 = .ok (.aload 6, 2) := by decide +kernel
theorem dX7_claim_95 : decode cX7_claim 95 = .ok (.iload_n 2, 1) := by decide +kernel
theorem dX7_claim_96 : decode cX7_claim 96 = .ok (.iload 4, 2) := by decide +kernel
theorem dX7_claim_98 : decode cX7_claim 98 = .ok (.aload 7, 2) := by decide +kernel
theorem dX7_claim_100 : decode cX7_claim 100 = .ok (.invokevirtual 184, 3) := by decide +kernel
theorem dX7_claim_103 : decode cX7_claim 103 = .ok (.ireturn, 1) := by decide +kernel
set_option maxRecDepth 20000 in
theorem ggX7_estimate_X7_claimOf : GoodIn wsX7_estimate wsX7_claimOf := goodIn_ca (goodIn_r _ [6, 7, 8, 9, 10, 34, 35, 36, 37, 38, 39, 40, 41, 42, 43, 44, 45, 46, 47] (by decide +kernel) (by decide +kernel)) (goodIn_sub (fun _ h => List.mem_cons_of_mem _ (List.mem_append_left _ (List.mem_append_left _ (List.mem_append_right _ h)))) (by decide +kernel))
set_option maxRecDepth 20000 in
theorem gX7_estimate_X7_claimOf : GoodIn wsX7_estimate (wsV RX7 194 RX7 yX7_claimOf wsX7_claimOf) := goodIn_app (goodIn_of _ (by decide +kernel)) ggX7_estimate_X7_claimOf
set_option maxRecDepth 20000 in
theorem ggX7_estimate_X7_checkLoss : GoodIn wsX7_estimate wsX7_checkLoss := goodIn_ca (goodIn_r _ [13, 14, 15, 16, 5, 17, 18, 19] (by decide +kernel) (by decide +kernel)) (goodIn_sub (fun _ h => List.mem_cons_of_mem _ (List.mem_append_left _ (List.mem_append_right _ h))) (by decide +kernel))
set_option maxRecDepth 20000 in
theorem gX7_estimate_X7_checkLoss : GoodIn wsX7_estimate (va_wsS RX7 167 yX7_checkLoss wsX7_checkLoss) := goodIn_app (goodIn_of _ (by decide +kernel)) ggX7_estimate_X7_checkLoss
set_option maxRecDepth 20000 in
theorem ggX7_estimate_X7_checkUnsettled : GoodIn wsX7_estimate wsX7_checkUnsettled := goodIn_ca (goodIn_r _ [22, 23, 24, 25, 26, 27, 28, 29, 30, 31, 32, 33] (by decide +kernel) (by decide +kernel)) (goodIn_sub (fun _ h => List.mem_cons_of_mem _ (List.mem_append_right _ h)) (by decide +kernel))
set_option maxRecDepth 20000 in
theorem gX7_estimate_X7_checkUnsettled : GoodIn wsX7_estimate (va_wsS RX7 198 yX7_checkUnsettled wsX7_checkUnsettled) := goodIn_app (goodIn_of _ (by decide +kernel)) ggX7_estimate_X7_checkUnsettled
theorem dX7_estimate_0 : decode cX7_estimate 0 = .ok (.aload_n 0, 1) := by decide +kernel
theorem dX7_estimate_1 : decode cX7_estimate 1 = .ok (.iload_n 1, 1) := by decide +kernel
theorem dX7_estimate_2 : decode cX7_estimate 2 = .ok (.invokevirtual 194, 3) := by decide +kernel
theorem dX7_estimate_5 : decode cX7_estimate 5 = .ok (.astore_n 3, 1) := by decide +kernel
theorem dX7_estimate_6 : decode cX7_estimate 6 = .ok (.iload_n 2, 1) := by decide +kernel
theorem dX7_estimate_7 : decode cX7_estimate 7 = .ok (.invokestatic 167, 3) := by decide +kernel
theorem dX7_estimate_10 : decode cX7_estimate 10 = .ok (.aload_n 3, 1) := by decide +kernel
theorem dX7_estimate_11 : decode cX7_estimate 11 = .ok (.invokestatic 198, 3) := by decide +kernel
theorem dX7_estimate_14 : decode cX7_estimate 14 = .ok (.aload_n 3, 1) := by decide +kernel
theorem dX7_estimate_15 : decode cX7_estimate 15 = .ok (.getfield 202, 3) := by decide +kernel
theorem dX7_estimate_18 : decode cX7_estimate 18 = .ok (.istore 4, 2) := by decide +kernel
theorem dX7_estimate_20 : decode cX7_estimate 20 = .ok (.aload_n 3, 1) := by decide +kernel
theorem dX7_estimate_21 : decode cX7_estimate 21 = .ok (.iload_n 2, 1) := by decide +kernel
theorem dX7_estimate_22 : decode cX7_estimate 22 = .ok (.putfield 202, 3) := by decide +kernel
theorem dX7_estimate_25 : decode cX7_estimate 25 = .ok (.iload 4, 2) := by decide +kernel
theorem dX7_estimate_27 : decode cX7_estimate 27 = .ok (.ireturn, 1) := by decide +kernel
set_option maxRecDepth 20000 in
theorem ggX7_settle_X7_claimOf : GoodIn wsX7_settle wsX7_claimOf := goodIn_ca (goodIn_r _ [7, 8, 9, 10, 11, 25, 26, 27, 28, 29, 30, 31, 32, 33, 34, 35, 36, 37, 38] (by decide +kernel) (by decide +kernel)) (goodIn_sub (fun _ h => List.mem_cons_of_mem _ (List.mem_append_left _ (List.mem_append_right _ h))) (by decide +kernel))
set_option maxRecDepth 20000 in
theorem gX7_settle_X7_claimOf : GoodIn wsX7_settle (wsV RX7 194 RX7 yX7_claimOf wsX7_claimOf) := goodIn_app (goodIn_of _ (by decide +kernel)) ggX7_settle_X7_claimOf
set_option maxRecDepth 20000 in
theorem ggX7_settle_X7_checkUnsettled : GoodIn wsX7_settle wsX7_checkUnsettled := goodIn_ca (goodIn_r _ [14, 15, 16, 1, 17, 18, 19, 20, 21, 22, 23, 24] (by decide +kernel) (by decide +kernel)) (goodIn_sub (fun _ h => List.mem_cons_of_mem _ (List.mem_append_right _ h)) (by decide +kernel))
set_option maxRecDepth 20000 in
theorem gX7_settle_X7_checkUnsettled : GoodIn wsX7_settle (va_wsS RX7 198 yX7_checkUnsettled wsX7_checkUnsettled) := goodIn_app (goodIn_of _ (by decide +kernel)) ggX7_settle_X7_checkUnsettled
theorem dX7_settle_0 : decode cX7_settle 0 = .ok (.aload_n 0, 1) := by decide +kernel
theorem dX7_settle_1 : decode cX7_settle 1 = .ok (.iload_n 1, 1) := by decide +kernel
theorem dX7_settle_2 : decode cX7_settle 2 = .ok (.invokevirtual 194, 3) := by decide +kernel
theorem dX7_settle_5 : decode cX7_settle 5 = .ok (.astore_n 3, 1) := by decide +kernel
theorem dX7_settle_6 : decode cX7_settle 6 = .ok (.aload_n 3, 1) := by decide +kernel
theorem dX7_settle_7 : decode cX7_settle 7 = .ok (.invokestatic 198, 3) := by decide +kernel
theorem dX7_settle_10 : decode cX7_settle 10 = .ok (.aload_n 3, 1) := by decide +kernel
theorem dX7_settle_11 : decode cX7_settle 11 = .ok (.iconst 1, 1) := by decide +kernel
theorem dX7_settle_12 : decode cX7_settle 12 = .ok (.putfield 205, 3) := by decide +kernel
theorem dX7_settle_15 : decode cX7_settle 15 = .ok (.iload_n 2, 1) := by decide +kernel
theorem dX7_settle_16 : decode cX7_settle 16 = .ok (.ifCond .eq 8, 3) := by decide +kernel
theorem dX7_settle_19 : decode cX7_settle 19 = .ok (.aload_n 3, 1) := by decide +kernel
theorem dX7_settle_20 : decode cX7_settle 20 = .ok (.iconst 0, 1) := by decide +kernel
theorem dX7_settle_21 : decode cX7_settle 21 = .ok (.putfield 202, 3) := by decide +kernel
theorem dX7_settle_24 : decode cX7_settle 24 = .ok (.return_, 1) := by decide +kernel
set_option maxRecDepth 20000 in
theorem ggX7_broken_X7_claimOf : GoodIn wsX7_broken wsX7_claimOf := goodIn_ca (goodIn_r _ [8, 9, 10, 11, 12, 25, 26, 27, 28, 29, 30, 31, 32, 33, 34, 35, 36, 37, 38] (by decide +kernel) (by decide +kernel)) (goodIn_sub (fun _ h => List.mem_cons_of_mem _ (List.mem_append_right _ h)) (by decide +kernel))
set_option maxRecDepth 20000 in
theorem gX7_broken_X7_claimOf : GoodIn wsX7_broken (wsV RX7 194 RX7 yX7_claimOf wsX7_claimOf) := goodIn_app (goodIn_of _ (by decide +kernel)) ggX7_broken_X7_claimOf
set_option maxRecDepth 20000 in
theorem ggX7_broken_X7_checkUnsettled : GoodIn wsX7_broken wsX7_checkUnsettled := goodIn_ca (goodIn_r _ [15, 1, 2, 16, 17, 18, 19, 20, 21, 22, 23, 24] (by decide +kernel) (by decide +kernel)) (goodIn_sub (fun _ h => List.mem_cons_of_mem _ (List.mem_append_left _ (List.mem_append_right _ h))) (by decide +kernel))
set_option maxRecDepth 20000 in
theorem gX7_broken_X7_checkUnsettled : GoodIn wsX7_broken (va_wsS RX7 198 yX7_checkUnsettled wsX7_checkUnsettled) := goodIn_app (goodIn_of _ (by decide +kernel)) ggX7_broken_X7_checkUnsettled
theorem dX7_broken_0 : decode cX7_broken 0 = .ok (.aload_n 0, 1) := by decide +kernel
theorem dX7_broken_1 : decode cX7_broken 1 = .ok (.iload_n 1, 1) := by decide +kernel
theorem dX7_broken_2 : decode cX7_broken 2 = .ok (.invokevirtual 194, 3) := by decide +kernel
theorem dX7_broken_5 : decode cX7_broken 5 = .ok (.astore_n 2, 1) := by decide +kernel
theorem dX7_broken_6 : decode cX7_broken 6 = .ok (.aload_n 2, 1) := by decide +kernel
theorem dX7_broken_7 : decode cX7_broken 7 = .ok (.invokestatic 198, 3) := by decide +kernel
theorem dX7_broken_10 : decode cX7_broken 10 = .ok (.aload_n 2, 1) := by decide +kernel
theorem dX7_broken_11 : decode cX7_broken 11 = .ok (.getfield 209, 3) := by decide +kernel
theorem dX7_broken_14 : decode cX7_broken 14 = .ok (.ifCond .eq 13, 3) := by decide +kernel
theorem dX7_broken_17 : decode cX7_broken 17 = .ok (.new 57, 3) := by decide +kernel
theorem dX7_broken_20 : decode cX7_broken 20 = .ok (.dup, 1) := by decide +kernel
theorem dX7_broken_21 : decode cX7_broken 21 = .ok (.ldc 212, 2) := by decide +kernel
theorem dX7_broken_23 : decode cX7_broken 23 = .ok (.invokespecial 61, 3) := by decide +kernel
theorem dX7_broken_26 : decode cX7_broken 26 = .ok (.athrow, 1) := by decide +kernel
theorem dX7_broken_27 : decode cX7_broken 27 = .ok (.aload_n 2, 1) := by decide +kernel
theorem dX7_broken_28 : decode cX7_broken 28 = .ok (.iconst 1, 1) := by decide +kernel
theorem dX7_broken_29 : decode cX7_broken 29 = .ok (.putfield 209, 3) := by decide +kernel
theorem dX7_broken_32 : decode cX7_broken 32 = .ok (.return_, 1) := by decide +kernel
set_option maxRecDepth 20000 in
theorem ggX7_ofClaim_X7_claimOf : GoodIn wsX7_ofClaim wsX7_claimOf := goodIn_ca (goodIn_r _ [10, 11, 12, 13, 14, 77, 78, 79, 80, 81, 82, 83, 84, 85, 86, 87, 88, 89, 90] (by decide +kernel) (by decide +kernel)) (goodIn_sub (fun _ h => List.mem_cons_of_mem _ (List.mem_append_left _ (List.mem_append_right _ h))) (by decide +kernel))
set_option maxRecDepth 20000 in
theorem gX7_ofClaim_X7_claimOf : GoodIn wsX7_ofClaim (wsV RX7 194 RX7 yX7_claimOf wsX7_claimOf) := goodIn_app (goodIn_of _ (by decide +kernel)) ggX7_ofClaim_X7_claimOf
set_option maxRecDepth 20000 in
theorem ggX7_ofClaim_X7_checkRange : GoodIn wsX7_ofClaim wsX7_checkRange := goodIn_ca (goodIn_r _ [17, 18, 19] (by decide +kernel) (by decide +kernel)) (goodIn_sub (fun _ h => List.mem_cons_of_mem _ (List.mem_append_right _ h)) (by decide +kernel))
set_option maxRecDepth 20000 in
theorem gX7_ofClaim_X7_checkRange : GoodIn wsX7_ofClaim (va_wsS RX7 69 yX7_checkRange wsX7_checkRange) := goodIn_app (goodIn_of _ (by decide +kernel)) ggX7_ofClaim_X7_checkRange
set_option maxRecDepth 20000 in
theorem ggX7_ofClaim_X7_isCovered : GoodIn wsX7_ofClaim wsX7_isCovered := goodIn_r _ [23, 2, 24, 25, 26, 27, 28, 29, 30, 31, 9, 32, 33, 34, 35, 36, 37, 38, 39, 40, 41, 42, 43, 44, 45, 46, 47, 48, 49, 50, 51, 52, 66, 67, 68, 69, 70, 71, 72, 73, 74, 75, 76, 77, 78, 79, 80, 81, 82, 83, 84, 85, 86, 87, 88, 89, 90, 91, 92, 93, 94, 95, 96, 97, 98, 99, 100, 101, 102, 103, 104, 105, 106, 107, 108, 109] (by decide +kernel) (by decide +kernel)
set_option maxRecDepth 20000 in
theorem gX7_ofClaim_X7_isCovered : GoodIn wsX7_ofClaim (wsV RX7 221 RX7 yX7_isCovered wsX7_isCovered) := goodIn_app (goodIn_of _ (by decide +kernel)) ggX7_ofClaim_X7_isCovered
set_option maxRecDepth 20000 in
theorem ggX7_ofClaim_X0_limitedLoss : GoodIn wsX7_ofClaim wsX0_limitedLoss := goodIn_r _ [57, 58, 59, 60, 61, 62, 63, 64, 65, 66, 67, 68, 69, 70, 71, 72, 73, 98, 99, 100, 101] (by decide +kernel) (by decide +kernel)
set_option maxRecDepth 20000 in
theorem gX7_ofClaim_X0_limitedLoss : GoodIn wsX7_ofClaim (wsV RX7 228 RX0 yX0_limitedLoss wsX0_limitedLoss) := goodIn_app (goodIn_of _ (by decide +kernel)) ggX7_ofClaim_X0_limitedLoss
theorem dX7_ofClaim_0 : decode cX7_ofClaim 0 = .ok (.aload_n 0, 1) := by decide +kernel
theorem dX7_ofClaim_1 : decode cX7_ofClaim 1 = .ok (.iload_n 1, 1) := by decide +kernel
theorem dX7_ofClaim_2 : decode cX7_ofClaim 2 = .ok (.invokevirtual 194, 3) := by decide +kernel
theorem dX7_ofClaim_5 : decode cX7_ofClaim 5 = .ok (.astore_n 3, 1) := by decide +kernel
theorem dX7_ofClaim_6 : decode cX7_ofClaim 6 = .ok (.iload_n 2, 1) := by decide +kernel
theorem dX7_ofClaim_7 : decode cX7_ofClaim 7 = .ok (.iconst 0, 1) := by decide +kernel
theorem dX7_ofClaim_8 : decode cX7_ofClaim 8 = .ok (.iconst 5, 1) := by decide +kernel
theorem dX7_ofClaim_9 : decode cX7_ofClaim 9 = .ok (.invokestatic 69, 3) := by decide +kernel
theorem dX7_ofClaim_12 : decode cX7_ofClaim 12 = .ok (.iload_n 2, 1) := by decide +kernel
theorem dX7_ofClaim_13 : decode cX7_ofClaim 13 = .ok (.tableswitch 83 0 4 #[35, 41, 50, 64, 77], 35) := by decide +kernel
theorem dX7_ofClaim_48 : decode cX7_ofClaim 48 = .ok (.aload_n 3, 1) := by decide +kernel
theorem dX7_ofClaim_49 : decode cX7_ofClaim 49 = .ok (.getfield 202, 3) := by decide +kernel
theorem dX7_ofClaim_52 : decode cX7_ofClaim 52 = .ok (.i2l, 1) := by decide +kernel
theorem dX7_ofClaim_53 : decode cX7_ofClaim 53 = .ok (.lreturn, 1) := by decide +kernel
theorem dX7_ofClaim_54 : decode cX7_ofClaim 54 = .ok (.aload_n 3, 1) := by decide +kernel
theorem dX7_ofClaim_55 : decode cX7_ofClaim 55 = .ok (.getfield 214, 3) := by decide +kernel
theorem dX7_ofClaim_58 : decode cX7_ofClaim 58 = .ok (.getfield 218, 3) := by decide +kernel
theorem dX7_ofClaim_61 : decode cX7_ofClaim 61 = .ok (.i2l, 1) := by decide +kernel
theorem dX7_ofClaim_62 : decode cX7_ofClaim 62 = .ok (.lreturn, 1) := by decide +kernel
theorem dX7_ofClaim_63 : decode cX7_ofClaim 63 = .ok (.aload_n 0, 1) := by decide +kernel
theorem dX7_ofClaim_64 : decode cX7_ofClaim 64 = .ok (.aload_n 3, 1) := by decide +kernel
theorem dX7_ofClaim_65 : decode cX7_ofClaim 65 = .ok (.invokevirtual 221, 3) := by decide +kernel
theorem dX7_ofClaim_68 : decode cX7_ofClaim 68 = .ok (.ifCond .eq 7, 3) := by decide +kernel
theorem dX7_ofClaim_71 : decode cX7_ofClaim 71 = .ok (.lconst 1, 1) := by decide +kernel
theorem dX7_ofClaim_72 : decode cX7_ofClaim 72 = .ok (.goto 4, 3) := by decide +kernel
theorem dX7_ofClaim_75 : decode cX7_ofClaim 75 = .ok (.lconst 0, 1) := by decide +kernel
theorem dX7_ofClaim_76 : decode cX7_ofClaim 76 = .ok (.lreturn, 1) := by decide +kernel
theorem dX7_ofClaim_77 : decode cX7_ofClaim 77 = .ok (.aload_n 3, 1) := by decide +kernel
theorem dX7_ofClaim_78 : decode cX7_ofClaim 78 = .ok (.getfield 205, 3) := by decide +kernel
theorem dX7_ofClaim_81 : decode cX7_ofClaim 81 = .ok (.ifCond .eq 7, 3) := by decide +kernel
theorem dX7_ofClaim_84 : decode cX7_ofClaim 84 = .ok (.lconst 1, 1) := by decide +kernel
theorem dX7_ofClaim_85 : decode cX7_ofClaim 85 = .ok (.goto 4, 3) := by decide +kernel
theorem dX7_ofClaim_88 : decode cX7_ofClaim 88 = .ok (.lconst 0, 1) := by decide +kernel
theorem dX7_ofClaim_89 : decode cX7_ofClaim 89 = .ok (.lreturn, 1) := by decide +kernel
theorem dX7_ofClaim_90 : decode cX7_ofClaim 90 = .ok (.aload_n 3, 1) := by decide +kernel
theorem dX7_ofClaim_91 : decode cX7_ofClaim 91 = .ok (.getfield 225, 3) := by decide +kernel
theorem dX7_ofClaim_94 : decode cX7_ofClaim 94 = .ok (.i2l, 1) := by decide +kernel
theorem dX7_ofClaim_95 : decode cX7_ofClaim 95 = .ok (.lreturn, 1) := by decide +kernel
theorem dX7_ofClaim_96 : decode cX7_ofClaim 96 = .ok (.aload_n 0, 1) := by decide +kernel
theorem dX7_ofClaim_97 : decode cX7_ofClaim 97 = .ok (.aload_n 3, 1) := by decide +kernel
theorem dX7_ofClaim_98 : decode cX7_ofClaim 98 = .ok (.invokevirtual 221, 3) := by decide +kernel
theorem dX7_ofClaim_101 : decode cX7_ofClaim 101 = .ok (.ifCond .eq 11, 3) := by decide +kernel
theorem dX7_ofClaim_104 : decode cX7_ofClaim 104 = .ok (.aload_n 3, 1) := by decide +kernel
theorem dX7_ofClaim_105 : decode cX7_ofClaim 105 = .ok (.invokevirtual 228, 3) := by decide +kernel
theorem dX7_ofClaim_108 : decode cX7_ofClaim 108 = .ok (.i2l, 1) := by decide +kernel
theorem dX7_ofClaim_109 : decode cX7_ofClaim 109 = .ok (.goto 4, 3) := by decide +kernel
theorem dX7_ofClaim_112 : decode cX7_ofClaim 112 = .ok (.lconst 0, 1) := by decide +kernel
theorem dX7_ofClaim_113 : decode cX7_ofClaim 113 = .ok (.lreturn, 1) := by decide +kernel
set_option maxRecDepth 20000 in
theorem ggX7_ofEvent_X7_eventOf : GoodIn wsX7_ofEvent wsX7_eventOf := goodIn_ca (goodIn_r _ [7, 8, 9, 10, 11, 118, 119, 120, 121, 122, 123, 124, 125, 126, 127, 128, 129, 130, 131] (by decide +kernel) (by decide +kernel)) (goodIn_sub (fun _ h => List.mem_cons_of_mem _ (List.mem_append_left _ (List.mem_append_right _ h))) (by decide +kernel))
set_option maxRecDepth 20000 in
theorem gX7_ofEvent_X7_eventOf : GoodIn wsX7_ofEvent (wsV RX7 163 RX7 yX7_eventOf wsX7_eventOf) := goodIn_app (goodIn_of _ (by decide +kernel)) ggX7_ofEvent_X7_eventOf
set_option maxRecDepth 20000 in
theorem ggX7_ofEvent_X7_checkRange : GoodIn wsX7_ofEvent wsX7_checkRange := goodIn_ca (goodIn_r _ [14, 15, 16] (by decide +kernel) (by decide +kernel)) (goodIn_sub (fun _ h => List.mem_cons_of_mem _ (List.mem_append_right _ h)) (by decide +kernel))
set_option maxRecDepth 20000 in
theorem gX7_ofEvent_X7_checkRange : GoodIn wsX7_ofEvent (va_wsS RX7 69 yX7_checkRange wsX7_checkRange) := goodIn_app (goodIn_of _ (by decide +kernel)) ggX7_ofEvent_X7_checkRange
set_option maxRecDepth 20000 in
theorem ggX7_ofEvent_X7_costOf : GoodIn wsX7_ofEvent wsX7_costOf := goodIn_r _ [20, 1, 21, 22, 23, 24, 25, 26, 27, 6, 28, 29, 30, 31, 32, 33, 34, 35, 36, 37, 38, 39, 40, 41, 42, 43, 44, 45, 46, 47, 48, 49, 50, 51, 52, 53, 54, 55, 56, 57, 58, 59, 60, 61, 62, 63, 64, 65, 66, 67, 68, 69, 70, 71, 72, 73, 74, 75, 76, 77, 78, 79, 80, 81, 82, 83, 84, 85, 86, 87, 88, 89, 90, 91, 92, 93, 94, 95, 96, 97, 98, 115, 116, 117, 118, 119, 120, 121, 122, 123, 124, 125, 126, 127, 128, 129, 130, 131, 132, 133, 134, 135, 136, 137, 138, 139, 140, 141, 142, 143, 144, 145, 146, 147, 148, 149, 150, 151, 152, 153, 154, 155, 156, 157, 158, 159, 160] (by decide +kernel) (by decide +kernel)
set_option maxRecDepth 20000 in
theorem gX7_ofEvent_X7_costOf : GoodIn wsX7_ofEvent (wsV RX7 232 RX7 yX7_costOf wsX7_costOf) := goodIn_app (goodIn_of _ (by decide +kernel)) ggX7_ofEvent_X7_costOf
set_option maxRecDepth 20000 in
theorem ggX7_ofEvent_X7_borneOf : GoodIn wsX7_ofEvent wsX7_borneOf := goodIn_r _ [102, 45, 1, 26, 27, 6, 28, 17, 18, 19, 20, 21, 22, 23, 24, 25, 29, 30, 31, 32, 33, 34, 35, 36, 37, 38, 39, 40, 41, 42, 43, 44, 46, 47, 48, 49, 50, 51, 52, 53, 54, 55, 56, 57, 58, 59, 60, 61, 62, 63, 64, 65, 66, 67, 68, 69, 70, 71, 72, 73, 74, 75, 76, 77, 78, 79, 80, 81, 82, 83, 84, 85, 86, 87, 88, 89, 90, 91, 92, 93, 94, 95, 96, 97, 98, 103, 104, 105, 106, 107, 108, 109, 110, 111, 112, 113, 114, 118, 119, 120, 121, 122, 123, 124, 125, 126, 127, 128, 129, 130, 131, 115, 116, 117, 132, 133, 134, 135, 136, 137, 138, 139, 140, 141, 142, 143, 144, 145, 146, 147, 148, 149, 150, 151, 152, 153, 154, 155, 156, 157, 158, 159, 160] (by decide +kernel) (by decide +kernel)
set_option maxRecDepth 20000 in
theorem gX7_ofEvent_X7_borneOf : GoodIn wsX7_ofEvent (wsV RX7 236 RX7 yX7_borneOf wsX7_borneOf) := goodIn_app (goodIn_of _ (by decide +kernel)) ggX7_ofEvent_X7_borneOf
theorem dX7_ofEvent_0 : decode cX7_ofEvent 0 = .ok (.aload_n 0, 1) := by decide +kernel
theorem dX7_ofEvent_1 : decode cX7_ofEvent 1 = .ok (.iload_n 1, 1) := by decide +kernel
theorem dX7_ofEvent_2 : decode cX7_ofEvent 2 = .ok (.invokevirtual 163, 3) := by decide +kernel
theorem dX7_ofEvent_5 : decode cX7_ofEvent 5 = .ok (.astore_n 3, 1) := by decide +kernel
theorem dX7_ofEvent_6 : decode cX7_ofEvent 6 = .ok (.iload_n 2, 1) := by decide +kernel
theorem dX7_ofEvent_7 : decode cX7_ofEvent 7 = .ok (.iconst 0, 1) := by decide +kernel
theorem dX7_ofEvent_8 : decode cX7_ofEvent 8 = .ok (.iconst 3, 1) := by decide +kernel
theorem dX7_ofEvent_9 : decode cX7_ofEvent 9 = .ok (.invokestatic 69, 3) := by decide +kernel
theorem dX7_ofEvent_12 : decode cX7_ofEvent 12 = .ok (.iload_n 2, 1) := by decide +kernel
theorem dX7_ofEvent_13 : decode cX7_ofEvent 13 = .ok (.tableswitch 45 0 2 #[27, 33, 39], 27) := by decide +kernel
theorem dX7_ofEvent_40 : decode cX7_ofEvent 40 = .ok (.aload_n 0, 1) := by decide +kernel
theorem dX7_ofEvent_41 : decode cX7_ofEvent 41 = .ok (.aload_n 3, 1) := by decide +kernel
theorem dX7_ofEvent_42 : decode cX7_ofEvent 42 = .ok (.invokevirtual 232, 3) := by decide +kernel
theorem dX7_ofEvent_45 : decode cX7_ofEvent 45 = .ok (.lreturn, 1) := by decide +kernel
theorem dX7_ofEvent_46 : decode cX7_ofEvent 46 = .ok (.aload_n 0, 1) := by decide +kernel
theorem dX7_ofEvent_47 : decode cX7_ofEvent 47 = .ok (.aload_n 3, 1) := by decide +kernel
theorem dX7_ofEvent_48 : decode cX7_ofEvent 48 = .ok (.invokevirtual 236, 3) := by decide +kernel
theorem dX7_ofEvent_51 : decode cX7_ofEvent 51 = .ok (.lreturn, 1) := by decide +kernel
theorem dX7_ofEvent_52 : decode cX7_ofEvent 52 = .ok (.aload_n 3, 1) := by decide +kernel
theorem dX7_ofEvent_53 : decode cX7_ofEvent 53 = .ok (.getfield 170, 3) := by decide +kernel
theorem dX7_ofEvent_56 : decode cX7_ofEvent 56 = .ok (.i2l, 1) := by decide +kernel
theorem dX7_ofEvent_57 : decode cX7_ofEvent 57 = .ok (.lreturn, 1) := by decide +kernel
theorem dX7_ofEvent_58 : decode cX7_ofEvent 58 = .ok (.aload_n 3, 1) := by decide +kernel
theorem dX7_ofEvent_59 : decode cX7_ofEvent 59 = .ok (.getfield 239, 3) := by decide +kernel
theorem dX7_ofEvent_62 : decode cX7_ofEvent 62 = .ok (.i2l, 1) := by decide +kernel
theorem dX7_ofEvent_63 : decode cX7_ofEvent 63 = .ok (.lreturn, 1) := by decide +kernel
set_option maxRecDepth 20000 in
theorem ggX7_cost_X7_checkYear : GoodIn wsX7_cost wsX7_checkYear := goodIn_ca (goodIn_r _ [4, 5, 6, 3, 7, 8, 9] (by decide +kernel) (by decide +kernel)) (goodIn_sub (fun _ h => List.mem_cons_of_mem _ (List.mem_append_right _ h)) (by decide +kernel))
set_option maxRecDepth 20000 in
theorem gX7_cost_X7_checkYear : GoodIn wsX7_cost (va_wsS RX7 126 yX7_checkYear wsX7_checkYear) := goodIn_app (goodIn_of _ (by decide +kernel)) ggX7_cost_X7_checkYear
set_option maxRecDepth 20000 in
theorem ggX7_cost_X7_costIn : GoodIn wsX7_cost wsX7_costIn := goodIn_r _ [13, 14, 15, 16, 17, 18, 3, 19, 20, 21, 22, 23, 24, 25, 26, 27, 28, 29, 30, 31, 32, 33, 34, 35, 36, 37, 38, 39, 40, 41, 42, 43, 44, 45, 46, 47, 48, 49, 50, 51, 52, 53, 54, 55, 56, 57, 58, 59, 60, 61, 62, 63, 64, 65, 66, 67, 68, 69, 70, 71, 72, 73, 74, 75, 76, 77, 78, 79, 80, 81, 82, 83, 84, 85, 86, 87, 88, 89, 90, 91, 92, 93, 94, 95, 96, 97, 98, 99, 100, 101, 102, 103, 104, 105, 106, 107, 108, 109, 110, 111, 112, 113, 114, 115, 116, 117, 118, 119, 120, 121, 122, 123, 124, 125, 126, 127, 128, 129, 130, 131, 132, 133, 134, 135, 136, 137, 138, 139, 140, 141, 142, 143, 144, 145, 146, 147, 148, 149, 150, 151, 152, 153, 154, 155, 156, 157, 158, 159, 160] (by decide +kernel) (by decide +kernel)
set_option maxRecDepth 20000 in
theorem gX7_cost_X7_costIn : GoodIn wsX7_cost (wsV RX7 242 RX7 yX7_costIn wsX7_costIn) := goodIn_app (goodIn_of _ (by decide +kernel)) ggX7_cost_X7_costIn
theorem dX7_cost_0 : decode cX7_cost 0 = .ok (.iload_n 1, 1) := by decide +kernel
theorem dX7_cost_1 : decode cX7_cost 1 = .ok (.invokestatic 126, 3) := by decide +kernel
theorem dX7_cost_4 : decode cX7_cost 4 = .ok (.aload_n 0, 1) := by decide +kernel
theorem dX7_cost_5 : decode cX7_cost 5 = .ok (.iload_n 1, 1) := by decide +kernel
theorem dX7_cost_6 : decode cX7_cost 6 = .ok (.invokevirtual 242, 3) := by decide +kernel
theorem dX7_cost_9 : decode cX7_cost 9 = .ok (.lreturn, 1) := by decide +kernel
set_option maxRecDepth 20000 in
theorem ggX7_advance_X7_checkYear : GoodIn wsX7_advance wsX7_checkYear := goodIn_ca (goodIn_r _ [12, 13, 14, 11, 15, 16, 17] (by decide +kernel) (by decide +kernel)) (goodIn_sub (fun _ h => List.mem_cons_of_mem _ (List.mem_append_right _ h)) (by decide +kernel))
set_option maxRecDepth 20000 in
theorem gX7_advance_X7_checkYear : GoodIn wsX7_advance (va_wsS RX7 126 yX7_checkYear wsX7_checkYear) := goodIn_app (goodIn_of _ (by decide +kernel)) ggX7_advance_X7_checkYear
set_option maxRecDepth 20000 in
theorem ggX7_advance_X7_checkRange : GoodIn wsX7_advance wsX7_checkRange := goodIn_ca (goodIn_r _ [15, 16, 17] (by decide +kernel) (by decide +kernel)) (goodIn_sub (fun _ h => List.mem_cons_of_mem _ (List.mem_append_right _ h)) (by decide +kernel))
set_option maxRecDepth 20000 in
theorem gX7_advance_X7_checkRange : GoodIn wsX7_advance (va_wsS RX7 69 yX7_checkRange wsX7_checkRange) := goodIn_app (goodIn_of _ (by decide +kernel)) ggX7_advance_X7_checkRange
