set_option maxRecDepth 20000 in
theorem ggX7_init_X4_init : GoodIn wsX7_init wsX4_init := goodIn_r _ [24, 25, 2, 3, 26, 27, 28, 29, 30, 31, 32, 50, 51] (by decide +kernel) (by decide +kernel)
set_option maxRecDepth 20000 in
theorem gX7_init_X4_init : GoodIn wsX7_init (wsX4_init) := ggX7_init_X4_init
set_option maxRecDepth 20000 in
theorem ggX7_init_X6_init : GoodIn wsX7_init wsX6_init := goodIn_r _ [34, 35, 2, 3] (by decide +kernel) (by decide +kernel)
set_option maxRecDepth 20000 in
theorem gX7_init_X6_init_n52 : GoodIn wsX7_init (wsX6_init) := ggX7_init_X6_init
theorem dX7_init_0 : decode cX7_init 0 = .ok (.aload_n 0, 1) := by decide +kernel
theorem dX7_init_1 : decode cX7_init 1 = .ok (.invokespecial 3, 3) := by decide +kernel
theorem dX7_init_4 : decode cX7_init 4 = .ok (.aload_n 0, 1) := by decide +kernel
theorem dX7_init_5 : decode cX7_init 5 = .ok (.bipush 12, 2) := by decide +kernel
theorem dX7_init_7 : decode cX7_init 7 = .ok (.anewarray 9, 3) := by decide +kernel
theorem dX7_init_10 : decode cX7_init 10 = .ok (.putfield 11, 3) := by decide +kernel
theorem dX7_init_13 : decode cX7_init 13 = .ok (.aload_n 0, 1) := by decide +kernel
theorem dX7_init_14 : decode cX7_init 14 = .ok (.bipush 24, 2) := by decide +kernel
theorem dX7_init_16 : decode cX7_init 16 = .ok (.anewarray 15, 3) := by decide +kernel
theorem dX7_init_19 : decode cX7_init 19 = .ok (.putfield 17, 3) := by decide +kernel
theorem dX7_init_22 : decode cX7_init 22 = .ok (.aload_n 0, 1) := by decide +kernel
theorem dX7_init_23 : decode cX7_init 23 = .ok (.bipush 60, 2) := by decide +kernel
theorem dX7_init_25 : decode cX7_init 25 = .ok (.anewarray 21, 3) := by decide +kernel
theorem dX7_init_28 : decode cX7_init 28 = .ok (.putfield 23, 3) := by decide +kernel
theorem dX7_init_31 : decode cX7_init 31 = .ok (.aload_n 0, 1) := by decide +kernel
theorem dX7_init_32 : decode cX7_init 32 = .ok (.bipush 60, 2) := by decide +kernel
theorem dX7_init_34 : decode cX7_init 34 = .ok (.anewarray 27, 3) := by decide +kernel
theorem dX7_init_37 : decode cX7_init 37 = .ok (.putfield 29, 3) := by decide +kernel
theorem dX7_init_40 : decode cX7_init 40 = .ok (.aload_n 0, 1) := by decide +kernel
theorem dX7_init_41 : decode cX7_init 41 = .ok (.bipush 60, 2) := by decide +kernel
theorem dX7_init_43 : decode cX7_init 43 = .ok (.anewarray 33, 3) := by decide +kernel
theorem dX7_init_46 : decode cX7_init 46 = .ok (.putfield 35, 3) := by decide +kernel
theorem dX7_init_49 : decode cX7_init 49 = .ok (.aload_n 0, 1) := by decide +kernel
theorem dX7_init_50 : decode cX7_init 50 = .ok (.bipush 20, 2) := by decide +kernel
theorem dX7_init_52 : decode cX7_init 52 = .ok (.anewarray 39, 3) := by decide +kernel
theorem dX7_init_55 : decode cX7_init 55 = .ok (.putfield 41, 3) := by decide +kernel
theorem dX7_init_58 : decode cX7_init 58 = .ok (.aload_n 0, 1) := by decide +kernel
theorem dX7_init_59 : decode cX7_init 59 = .ok (.new 45, 3) := by decide +kernel
theorem dX7_init_62 : decode cX7_init 62 = .ok (.dup, 1) := by decide +kernel
theorem dX7_init_63 : decode cX7_init 63 = .ok (.invokespecial 47, 3) := by decide +kernel
theorem dX7_init_66 : decode cX7_init 66 = .ok (.putfield 48, 3) := by decide +kernel
theorem dX7_init_69 : decode cX7_init 69 = .ok (.iconst 0, 1) := by decide +kernel
theorem dX7_init_70 : decode cX7_init 70 = .ok (.istore_n 1, 1) := by decide +kernel
theorem dX7_init_71 : decode cX7_init 71 = .ok (.iload_n 1, 1) := by decide +kernel
theorem dX7_init_72 : decode cX7_init 72 = .ok (.bipush 20, 2) := by decide +kernel
theorem dX7_init_74 : decode cX7_init 74 = .ok (.if_icmp .ge 22, 3) := by decide +kernel
theorem dX7_init_77 : decode cX7_init 77 = .ok (.aload_n 0, 1) := by decide +kernel
theorem dX7_init_78 : decode cX7_init 78 = .ok (.getfield 41, 3) := by decide +kernel
theorem dX7_init_81 : decode cX7_init 81 = .ok (.iload_n 1, 1) := by decide +kernel
theorem dX7_init_82 : decode cX7_init 82 = .ok (.new 39, 3) := by decide +kernel
theorem dX7_init_85 : decode cX7_init 85 = .ok (.dup, 1) := by decide +kernel
theorem dX7_init_86 : decode cX7_init 86 = .ok (.invokespecial 52, 3) := by decide +kernel
theorem dX7_init_89 : decode cX7_init 89 = .ok (.aastore, 1) := by decide +kernel
theorem dX7_init_90 : decode cX7_init 90 = .ok (.iinc 1 1, 3) := by decide +kernel
theorem dX7_init_93 : decode cX7_init 93 = .ok (.goto (-22), 3) := by decide +kernel
theorem dX7_init_96 : decode cX7_init 96 = .ok (.return_, 1) := by decide +kernel
set_option maxRecDepth 20000 in
theorem ggX7_member_X3_init : GoodIn wsX7_member wsX3_init := goodIn_r _ [10, 11, 12, 13, 14, 15, 16, 17, 18, 19, 20, 21, 22, 23, 24, 39, 40, 41, 42, 43] (by decide +kernel) (by decide +kernel)
set_option maxRecDepth 20000 in
theorem gX7_member_X3_init : GoodIn wsX7_member (wsX3_init) := ggX7_member_X3_init
theorem dX7_member_0 : decode cX7_member 0 = .ok (.aload_n 0, 1) := by decide +kernel
theorem dX7_member_1 : decode cX7_member 1 = .ok (.getfield 53, 3) := by decide +kernel
theorem dX7_member_4 : decode cX7_member 4 = .ok (.bipush 12, 2) := by decide +kernel
theorem dX7_member_6 : decode cX7_member 6 = .ok (.if_icmp .lt 13, 3) := by decide +kernel
theorem dX7_member_9 : decode cX7_member 9 = .ok (.new 57, 3) := by decide +kernel
theorem dX7_member_12 : decode cX7_member 12 = .ok (.dup, 1) := by decide +kernel
theorem dX7_member_13 : decode cX7_member 13 = .ok (.ldc 59, 2) := by decide +kernel
theorem dX7_member_15 : decode cX7_member 15 = .ok (.invokespecial 61, 3) := by decide +kernel
theorem dX7_member_18 : decode cX7_member 18 = .ok (.athrow, 1) := by decide +kernel
theorem dX7_member_19 : decode cX7_member 19 = .ok (.aload_n 0, 1) := by decide +kernel
theorem dX7_member_20 : decode cX7_member 20 = .ok (.getfield 11, 3) := by decide +kernel
theorem dX7_member_23 : decode cX7_member 23 = .ok (.aload_n 0, 1) := by decide +kernel
theorem dX7_member_24 : decode cX7_member 24 = .ok (.getfield 53, 3) := by decide +kernel
theorem dX7_member_27 : decode cX7_member 27 = .ok (.new 9, 3) := by decide +kernel
theorem dX7_member_30 : decode cX7_member 30 = .ok (.dup, 1) := by decide +kernel
theorem dX7_member_31 : decode cX7_member 31 = .ok (.invokespecial 64, 3) := by decide +kernel
theorem dX7_member_34 : decode cX7_member 34 = .ok (.aastore, 1) := by decide +kernel
theorem dX7_member_35 : decode cX7_member 35 = .ok (.aload_n 0, 1) := by decide +kernel
theorem dX7_member_36 : decode cX7_member 36 = .ok (.dup, 1) := by decide +kernel
theorem dX7_member_37 : decode cX7_member 37 = .ok (.getfield 53, 3) := by decide +kernel
theorem dX7_member_40 : decode cX7_member 40 = .ok (.iconst 1, 1) := by decide +kernel
theorem dX7_member_41 : decode cX7_member 41 = .ok (.iadd, 1) := by decide +kernel
theorem dX7_member_42 : decode cX7_member 42 = .ok (.putfield 53, 3) := by decide +kernel
theorem dX7_member_45 : decode cX7_member 45 = .ok (.aload_n 0, 1) := by decide +kernel
theorem dX7_member_46 : decode cX7_member 46 = .ok (.getfield 53, 3) := by decide +kernel
theorem dX7_member_49 : decode cX7_member 49 = .ok (.iconst 1, 1) := by decide +kernel
theorem dX7_member_50 : decode cX7_member 50 = .ok (.isub, 1) := by decide +kernel
theorem dX7_member_51 : decode cX7_member 51 = .ok (.ireturn, 1) := by decide +kernel
set_option maxRecDepth 20000 in
theorem ggX7_ship_X7_memberOf : GoodIn wsX7_ship wsX7_memberOf := goodIn_ca (goodIn_r _ [12, 13, 14, 15, 16, 30, 31, 32, 33, 34, 35, 36, 37, 38, 39, 40, 41, 42, 43] (by decide +kernel) (by decide +kernel)) (goodIn_sub (fun _ h => List.mem_cons_of_mem _ (List.mem_append_left _ (List.mem_append_right _ h))) (by decide +kernel))
set_option maxRecDepth 20000 in
theorem gX7_ship_X7_memberOf : GoodIn wsX7_ship (wsV RX7 65 RX7 yX7_memberOf wsX7_memberOf) := goodIn_app (goodIn_of _ (by decide +kernel)) ggX7_ship_X7_memberOf
set_option maxRecDepth 20000 in
theorem ggX7_ship_X7_checkRange : GoodIn wsX7_ship wsX7_checkRange := goodIn_ca (goodIn_r _ [19, 20, 21] (by decide +kernel) (by decide +kernel)) (goodIn_sub (fun _ h => List.mem_cons_of_mem _ (List.mem_append_right _ h)) (by decide +kernel))
set_option maxRecDepth 20000 in
theorem gX7_ship_X7_checkRange : GoodIn wsX7_ship (va_wsS RX7 69 yX7_checkRange wsX7_checkRange) := goodIn_app (goodIn_of _ (by decide +kernel)) ggX7_ship_X7_checkRange
set_option maxRecDepth 20000 in
theorem ggX7_ship_X5_init : GoodIn wsX7_ship wsX5_init := goodIn_r _ [24, 25, 26, 27, 28, 29, 44, 45, 46, 47] (by decide +kernel) (by decide +kernel)
set_option maxRecDepth 20000 in
theorem gX7_ship_X5_init : GoodIn wsX7_ship (wsX5_init) := ggX7_ship_X5_init
theorem dX7_ship_0 : decode cX7_ship 0 = .ok (.aload_n 0, 1) := by decide +kernel
theorem dX7_ship_1 : decode cX7_ship 1 = .ok (.iload_n 1, 1) := by decide +kernel
theorem dX7_ship_2 : decode cX7_ship 2 = .ok (.invokevirtual 65, 3) := by decide +kernel
theorem dX7_ship_5 : decode cX7_ship 5 = .ok (.astore_n 3, 1) := by decide +kernel
theorem dX7_ship_6 : decode cX7_ship 6 = .ok (.iload_n 2, 1) := by decide +kernel
theorem dX7_ship_7 : decode cX7_ship 7 = .ok (.iconst 1, 1) := by decide +kernel
theorem dX7_ship_8 : decode cX7_ship 8 = .ok (.sipush 999, 3) := by decide +kernel
theorem dX7_ship_11 : decode cX7_ship 11 = .ok (.invokestatic 69, 3) := by decide +kernel
theorem dX7_ship_14 : decode cX7_ship 14 = .ok (.aload_n 0, 1) := by decide +kernel
theorem dX7_ship_15 : decode cX7_ship 15 = .ok (.getfield 73, 3) := by decide +kernel
theorem dX7_ship_18 : decode cX7_ship 18 = .ok (.bipush 24, 2) := by decide +kernel
theorem dX7_ship_20 : decode cX7_ship 20 = .ok (.if_icmp .lt 13, 3) := by decide +kernel
theorem dX7_ship_23 : decode cX7_ship 23 = .ok (.new 57, 3) := by decide +kernel
theorem dX7_ship_26 : decode cX7_ship 26 = .ok (.dup, 1) := by decide +kernel
theorem dX7_ship_27 : decode cX7_ship 27 = .ok (.ldc 76, 2) := by decide +kernel
theorem dX7_ship_29 : decode cX7_ship 29 = .ok (.invokespecial 61, 3) := by decide +kernel
theorem dX7_ship_32 : decode cX7_ship 32 = .ok (.athrow, 1) := by decide +kernel
theorem dX7_ship_33 : decode cX7_ship 33 = .ok (.aload_n 0, 1) := by decide +kernel
theorem dX7_ship_34 : decode cX7_ship 34 = .ok (.getfield 17, 3) := by decide +kernel
theorem dX7_ship_37 : decode cX7_ship 37 = .ok (.aload_n 0, 1) := by decide +kernel
theorem dX7_ship_38 : decode cX7_ship 38 = .ok (.getfield 73, 3) := by decide +kernel
theorem dX7_ship_41 : decode cX7_ship 41 = .ok (.new 15, 3) := by decide +kernel
theorem dX7_ship_44 : decode cX7_ship 44 = .ok (.dup, 1) := by decide +kernel
theorem dX7_ship_45 : decode cX7_ship 45 = .ok (.aload_n 3, 1) := by decide +kernel
theorem dX7_ship_46 : decode cX7_ship 46 = .ok (.iload_n 2, 1) := by decide +kernel
theorem dX7_ship_47 : decode cX7_ship 47 = .ok (.invokespecial 78, 3) := by decide +kernel
theorem dX7_ship_50 : decode cX7_ship 50 = .ok (.aastore, 1) := by decide +kernel
theorem dX7_ship_51 : decode cX7_ship 51 = .ok (.aload_n 0, 1) := by decide +kernel
theorem dX7_ship_52 : decode cX7_ship 52 = .ok (.dup, 1) := by decide +kernel
theorem dX7_ship_53 : decode cX7_ship 53 = .ok (.getfield 73, 3) := by decide +kernel
theorem dX7_ship_56 : decode cX7_ship 56 = .ok (.iconst 1, 1) := by decide +kernel
theorem dX7_ship_57 : decode cX7_ship 57 = .ok (.iadd, 1) := by decide +kernel
theorem dX7_ship_58 : decode cX7_ship 58 = .ok (.putfield 73, 3) := by decide +kernel
theorem dX7_ship_61 : decode cX7_ship 61 = .ok (.aload_n 0, 1) := by decide +kernel
theorem dX7_ship_62 : decode cX7_ship 62 = .ok (.getfield 73, 3) := by decide +kernel
theorem dX7_ship_65 : decode cX7_ship 65 = .ok (.iconst 1, 1) := by decide +kernel
theorem dX7_ship_66 : decode cX7_ship 66 = .ok (.isub, 1) := by decide +kernel
theorem dX7_ship_67 : decode cX7_ship 67 = .ok (.ireturn, 1) := by decide +kernel
set_option maxRecDepth 20000 in
theorem ggX7_enter_X7_shipOf : GoodIn wsX7_enter wsX7_shipOf := goodIn_ca (goodIn_r _ [16, 17, 18, 19, 20, 42, 43, 44, 45, 46, 47, 48, 49, 50, 51, 52, 53, 54, 55] (by decide +kernel) (by decide +kernel)) (goodIn_sub (fun _ h => List.mem_cons_of_mem _ (List.mem_append_right _ h)) (by decide +kernel))
set_option maxRecDepth 20000 in
theorem gX7_enter_X7_shipOf : GoodIn wsX7_enter (wsV RX7 81 RX7 yX7_shipOf wsX7_shipOf) := goodIn_app (goodIn_of _ (by decide +kernel)) ggX7_enter_X7_shipOf
set_option maxRecDepth 20000 in
theorem ggX7_enter_X7_yearOfDay : GoodIn wsX7_enter wsX7_yearOfDay := goodIn_r _ [23] (by decide +kernel) (by decide +kernel)
set_option maxRecDepth 20000 in
theorem gX7_enter_X7_yearOfDay : GoodIn wsX7_enter (va_wsS RX7 102 yX7_yearOfDay wsX7_yearOfDay) := goodIn_app (goodIn_of _ (by decide +kernel)) ggX7_enter_X7_yearOfDay
set_option maxRecDepth 20000 in
theorem ggX7_enter_X1_init : GoodIn wsX7_enter wsX1_init := goodIn_r _ [26, 27, 28, 29, 30, 31, 32, 56, 57, 58] (by decide +kernel) (by decide +kernel)
set_option maxRecDepth 20000 in
theorem gX7_enter_X1_init : GoodIn wsX7_enter (wsX1_init) := ggX7_enter_X1_init
theorem dX7_enter_0 : decode cX7_enter 0 = .ok (.aload_n 0, 1) := by decide +kernel
theorem dX7_enter_1 : decode cX7_enter 1 = .ok (.iload_n 1, 1) := by decide +kernel
theorem dX7_enter_2 : decode cX7_enter 2 = .ok (.invokevirtual 81, 3) := by decide +kernel
theorem dX7_enter_5 : decode cX7_enter 5 = .ok (.astore_n 2, 1) := by decide +kernel
theorem dX7_enter_6 : decode cX7_enter 6 = .ok (.aload_n 2, 1) := by decide +kernel
theorem dX7_enter_7 : decode cX7_enter 7 = .ok (.getfield 85, 3) := by decide +kernel
theorem dX7_enter_10 : decode cX7_enter 10 = .ok (.ifnull 13, 3) := by decide +kernel
theorem dX7_enter_13 : decode cX7_enter 13 = .ok (.new 57, 3) := by decide +kernel
theorem dX7_enter_16 : decode cX7_enter 16 = .ok (.dup, 1) := by decide +kernel
theorem dX7_enter_17 : decode cX7_enter 17 = .ok (.ldc 89, 2) := by decide +kernel
theorem dX7_enter_19 : decode cX7_enter 19 = .ok (.invokespecial 61, 3) := by decide +kernel
theorem dX7_enter_22 : decode cX7_enter 22 = .ok (.athrow, 1) := by decide +kernel
theorem dX7_enter_23 : decode cX7_enter 23 = .ok (.aload_n 2, 1) := by decide +kernel
theorem dX7_enter_24 : decode cX7_enter 24 = .ok (.getfield 91, 3) := by decide +kernel
theorem dX7_enter_27 : decode cX7_enter 27 = .ok (.getfield 95, 3) := by decide +kernel
theorem dX7_enter_30 : decode cX7_enter 30 = .ok (.aload_n 0, 1) := by decide +kernel
theorem dX7_enter_31 : decode cX7_enter 31 = .ok (.getfield 99, 3) := by decide +kernel
theorem dX7_enter_34 : decode cX7_enter 34 = .ok (.invokestatic 102, 3) := by decide +kernel
theorem dX7_enter_37 : decode cX7_enter 37 = .ok (.baload, 1) := by decide +kernel
theorem dX7_enter_38 : decode cX7_enter 38 = .ok (.ifCond .eq 13, 3) := by decide +kernel
theorem dX7_enter_41 : decode cX7_enter 41 = .ok (.new 57, 3) := by decide +kernel
theorem dX7_enter_44 : decode cX7_enter 44 = .ok (.dup, 1) := by decide +kernel
theorem dX7_enter_45 : decode cX7_enter 45 = .ok (.ldc 106, 2) := by decide +kernel
theorem dX7_enter_47 : decode cX7_enter 47 = .ok (.invokespecial 61, 3) := by decide +kernel
theorem dX7_enter_50 : decode cX7_enter 50 = .ok (.athrow, 1) := by decide +kernel
theorem dX7_enter_51 : decode cX7_enter 51 = .ok (.aload_n 0, 1) := by decide +kernel
theorem dX7_enter_52 : decode cX7_enter 52 = .ok (.getfield 108, 3) := by decide +kernel
theorem dX7_enter_55 : decode cX7_enter 55 = .ok (.bipush 60, 2) := by decide +kernel
theorem dX7_enter_57 : decode cX7_enter 57 = .ok (.if_icmp .lt 13, 3) := by decide +kernel
theorem dX7_enter_60 : decode cX7_enter 60 = .ok (.new 57, 3) := by decide +kernel
theorem dX7_enter_63 : decode cX7_enter 63 = .ok (.dup, 1) := by decide +kernel
theorem dX7_enter_64 : decode cX7_enter 64 = .ok (.ldc 111, 2) := by decide +kernel
theorem dX7_enter_66 : decode cX7_enter 66 = .ok (.invokespecial 61, 3) := by decide +kernel
theorem dX7_enter_69 : decode cX7_enter 69 = .ok (.athrow, 1) := by decide +kernel
theorem dX7_enter_70 : decode cX7_enter 70 = .ok (.new 21, 3) := by decide +kernel
theorem dX7_enter_73 : decode cX7_enter 73 = .ok (.dup, 1) := by decide +kernel
theorem dX7_enter_74 : decode cX7_enter 74 = .ok (.aload_n 2, 1) := by decide +kernel
theorem dX7_enter_75 : decode cX7_enter 75 = .ok (.aload_n 0, 1) := by decide +kernel
theorem dX7_enter_76 : decode cX7_enter 76 = .ok (.getfield 99, 3) := by decide +kernel
theorem dX7_enter_79 : decode cX7_enter 79 = .ok (.invokespecial 113, 3) := by decide +kernel
theorem dX7_enter_82 : decode cX7_enter 82 = .ok (.astore_n 3, 1) := by decide +kernel
theorem dX7_enter_83 : decode cX7_enter 83 = .ok (.aload_n 0, 1) := by decide +kernel
theorem dX7_enter_84 : decode cX7_enter 84 = .ok (.getfield 23, 3) := by decide +kernel
theorem dX7_enter_87 : decode cX7_enter 87 = .ok (.aload_n 0, 1) := by decide +kernel
theorem dX7_enter_88 : decode cX7_enter 88 = .ok (.getfield 108, 3) := by decide +kernel
theorem dX7_enter_91 : decode cX7_enter 91 = .ok (.aload_n 3, 1) := by decide +kernel
theorem dX7_enter_92 : decode cX7_enter 92 = .ok (.aastore, 1) := by decide +kernel
theorem dX7_enter_93 : decode cX7_enter 93 = .ok (.aload_n 0, 1) := by decide +kernel
theorem dX7_enter_94 : decode cX7_enter 94 = .ok (.dup, 1) := by decide +kernel
theorem dX7_enter_95 : decode cX7_enter 95 = .ok (.getfield 108, 3) := by decide +kernel
theorem dX7_enter_98 : decode cX7_enter 98 = .ok (.iconst 1, 1) := by decide +kernel
theorem dX7_enter_99 : decode cX7_enter 99 = .ok (.iadd, 1) := by decide +kernel
theorem dX7_enter_100 : decode cX7_enter 100 = .ok (.putfield 108, 3) := by decide +kernel
theorem dX7_enter_103 : decode cX7_enter 103 = .ok (.aload_n 2, 1) := by decide +kernel
theorem dX7_enter_104 : decode cX7_enter 104 = .ok (.aload_n 3, 1) := by decide +kernel
theorem dX7_enter_105 : decode cX7_enter 105 = .ok (.putfield 85, 3) := by decide +kernel
theorem dX7_enter_108 : decode cX7_enter 108 = .ok (.return_, 1) := by decide +kernel
set_option maxRecDepth 20000 in
theorem ggX7_leave_X7_shipOf : GoodIn wsX7_leave wsX7_shipOf := goodIn_ca (goodIn_r _ [11, 12, 13, 14, 15, 20, 21, 22, 23, 24, 25, 26, 27, 28, 29, 30, 31, 32, 33] (by decide +kernel) (by decide +kernel)) (goodIn_sub (fun _ h => List.mem_cons_of_mem _ (List.mem_append_right _ h)) (by decide +kernel))
set_option maxRecDepth 20000 in
theorem gX7_leave_X7_shipOf : GoodIn wsX7_leave (wsV RX7 81 RX7 yX7_shipOf wsX7_shipOf) := goodIn_app (goodIn_of _ (by decide +kernel)) ggX7_leave_X7_shipOf
theorem dX7_leave_0 : decode cX7_leave 0 = .ok (.aload_n 0, 1) := by decide +kernel
theorem dX7_leave_1 : decode cX7_leave 1 = .ok (.iload_n 1, 1) := by decide +kernel
theorem dX7_leave_2 : decode cX7_leave 2 = .ok (.invokevirtual 81, 3) := by decide +kernel
theorem dX7_leave_5 : decode cX7_leave 5 = .ok (.astore_n 2, 1) := by decide +kernel
theorem dX7_leave_6 : decode cX7_leave 6 = .ok (.aload_n 2, 1) := by decide +kernel
theorem dX7_leave_7 : decode cX7_leave 7 = .ok (.getfield 85, 3) := by decide +kernel
theorem dX7_leave_10 : decode cX7_leave 10 = .ok (.astore_n 3, 1) := by decide +kernel
theorem dX7_leave_11 : decode cX7_leave 11 = .ok (.aload_n 3, 1) := by decide +kernel
theorem dX7_leave_12 : decode cX7_leave 12 = .ok (.ifnonnull 13, 3) := by decide +kernel
theorem dX7_leave_15 : decode cX7_leave 15 = .ok (.new 57, 3) := by decide +kernel
theorem dX7_leave_18 : decode cX7_leave 18 = .ok (.dup, 1) := by decide +kernel
theorem dX7_leave_19 : decode cX7_leave 19 = .ok (.ldc 116, 2) := by decide +kernel
theorem dX7_leave_21 : decode cX7_leave 21 = .ok (.invokespecial 61, 3) := by decide +kernel
theorem dX7_leave_24 : decode cX7_leave 24 = .ok (.athrow, 1) := by decide +kernel
theorem dX7_leave_25 : decode cX7_leave 25 = .ok (.aload_n 3, 1) := by decide +kernel
theorem dX7_leave_26 : decode cX7_leave 26 = .ok (.aload_n 0, 1) := by decide +kernel
theorem dX7_leave_27 : decode cX7_leave 27 = .ok (.getfield 99, 3) := by decide +kernel
theorem dX7_leave_30 : decode cX7_leave 30 = .ok (.putfield 118, 3) := by decide +kernel
theorem dX7_leave_33 : decode cX7_leave 33 = .ok (.aload_n 2, 1) := by decide +kernel
theorem dX7_leave_34 : decode cX7_leave 34 = .ok (.aconst_null, 1) := by decide +kernel
theorem dX7_leave_35 : decode cX7_leave 35 = .ok (.putfield 85, 3) := by decide +kernel
theorem dX7_leave_38 : decode cX7_leave 38 = .ok (.aload_n 0, 1) := by decide +kernel
theorem dX7_leave_39 : decode cX7_leave 39 = .ok (.getfield 99, 3) := by decide +kernel
theorem dX7_leave_42 : decode cX7_leave 42 = .ok (.aload_n 3, 1) := by decide +kernel
theorem dX7_leave_43 : decode cX7_leave 43 = .ok (.getfield 121, 3) := by decide +kernel
theorem dX7_leave_46 : decode cX7_leave 46 = .ok (.isub, 1) := by decide +kernel
theorem dX7_leave_47 : decode cX7_leave 47 = .ok (.ireturn, 1) := by decide +kernel
set_option maxRecDepth 20000 in
theorem ggX7_pass_X7_checkRange : GoodIn wsX7_pass wsX7_checkRange := goodIn_ca (goodIn_r _ [7, 8, 9] (by decide +kernel) (by decide +kernel)) (goodIn_sub (fun _ h => List.mem_cons_of_mem _ (List.mem_append_right _ h)) (by decide +kernel))
set_option maxRecDepth 20000 in
theorem gX7_pass_X7_checkRange : GoodIn wsX7_pass (va_wsS RX7 69 yX7_checkRange wsX7_checkRange) := goodIn_app (goodIn_of _ (by decide +kernel)) ggX7_pass_X7_checkRange
theorem dX7_pass_0 : decode cX7_pass 0 = .ok (.iload_n 1, 1) := by decide +kernel
theorem dX7_pass_1 : decode cX7_pass 1 = .ok (.iconst 1, 1) := by decide +kernel
theorem dX7_pass_2 : decode cX7_pass 2 = .ok (.sipush 200, 3) := by decide +kernel
theorem dX7_pass_5 : decode cX7_pass 5 = .ok (.invokestatic 69, 3) := by decide +kernel
theorem dX7_pass_8 : decode cX7_pass 8 = .ok (.aload_n 0, 1) := by decide +kernel
theorem dX7_pass_9 : decode cX7_pass 9 = .ok (.getfield 99, 3) := by decide +kernel
theorem dX7_pass_12 : decode cX7_pass 12 = .ok (.iload_n 1, 1) := by decide +kernel
theorem dX7_pass_13 : decode cX7_pass 13 = .ok (.iadd, 1) := by decide +kernel
theorem dX7_pass_14 : decode cX7_pass 14 = .ok (.sipush 2000, 3) := by decide +kernel
theorem dX7_pass_17 : decode cX7_pass 17 = .ok (.if_icmp .lt 13, 3) := by decide +kernel
theorem dX7_pass_20 : decode cX7_pass 20 = .ok (.new 57, 3) := by decide +kernel
theorem dX7_pass_23 : decode cX7_pass 23 = .ok (.dup, 1) := by decide +kernel
theorem dX7_pass_24 : decode cX7_pass 24 = .ok (.ldc 124, 2) := by decide +kernel
theorem dX7_pass_26 : decode cX7_pass 26 = .ok (.invokespecial 61, 3) := by decide +kernel
theorem dX7_pass_29 : decode cX7_pass 29 = .ok (.athrow, 1) := by decide +kernel
theorem dX7_pass_30 : decode cX7_pass 30 = .ok (.aload_n 0, 1) := by decide +kernel
theorem dX7_pass_31 : decode cX7_pass 31 = .ok (.dup, 1) := by decide +kernel
theorem dX7_pass_32 : decode cX7_pass 32 = .ok (.getfield 99, 3) := by decide +kernel
theorem dX7_pass_35 : decode cX7_pass 35 = .ok (.iload_n 1, 1) := by decide +kernel
theorem dX7_pass_36 : decode cX7_pass 36 = .ok (.iadd, 1) := by decide +kernel
theorem dX7_pass_37 : decode cX7_pass 37 = .ok (.putfield 99, 3) := by decide +kernel
theorem dX7_pass_40 : decode cX7_pass 40 = .ok (.aload_n 0, 1) := by decide +kernel
theorem dX7_pass_41 : decode cX7_pass 41 = .ok (.getfield 99, 3) := by decide +kernel
theorem dX7_pass_44 : decode cX7_pass 44 = .ok (.ireturn, 1) := by decide +kernel
theorem dX7_day_0 : decode cX7_day 0 = .ok (.aload_n 0, 1) := by decide +kernel
theorem dX7_day_1 : decode cX7_day 1 = .ok (.getfield 99, 3) := by decide +kernel
theorem dX7_day_4 : decode cX7_day 4 = .ok (.ireturn, 1) := by decide +kernel
set_option maxRecDepth 20000 in
theorem ggX7_rate_X7_memberOf : GoodIn wsX7_rate wsX7_memberOf := goodIn_ca (goodIn_r _ [9, 10, 11, 12, 13, 33, 34, 35, 36, 37, 38, 39, 40, 41, 42, 43, 44, 45, 46] (by decide +kernel) (by decide +kernel)) (goodIn_sub (fun _ h => List.mem_cons_of_mem _ (List.mem_append_left _ (List.mem_append_right _ h))) (by decide +kernel))
set_option maxRecDepth 20000 in
theorem gX7_rate_X7_memberOf : GoodIn wsX7_rate (wsV RX7 65 RX7 yX7_memberOf wsX7_memberOf) := goodIn_app (goodIn_of _ (by decide +kernel)) ggX7_rate_X7_memberOf
set_option maxRecDepth 20000 in
theorem ggX7_rate_X7_checkYear : GoodIn wsX7_rate wsX7_checkYear := goodIn_ca (goodIn_r _ [16, 17, 18, 8, 19, 20, 21] (by decide +kernel) (by decide +kernel)) (goodIn_sub (fun _ h => List.mem_cons_of_mem _ (List.mem_append_right _ h)) (by decide +kernel))
set_option maxRecDepth 20000 in
theorem gX7_rate_X7_checkYear : GoodIn wsX7_rate (va_wsS RX7 126 yX7_checkYear wsX7_checkYear) := goodIn_app (goodIn_of _ (by decide +kernel)) ggX7_rate_X7_checkYear
set_option maxRecDepth 20000 in
theorem ggX7_rate_X7_checkRange : GoodIn wsX7_rate wsX7_checkRange := goodIn_ca (goodIn_r _ [19, 20, 21] (by decide +kernel) (by decide +kernel)) (goodIn_sub (fun _ h => List.mem_cons_of_mem _ (List.mem_append_right _ h)) (by decide +kernel))
set_option maxRecDepth 20000 in
theorem gX7_rate_X7_checkRange : GoodIn wsX7_rate (va_wsS RX7 69 yX7_checkRange wsX7_checkRange) := goodIn_app (goodIn_of _ (by decide +kernel)) ggX7_rate_X7_checkRange
set_option maxRecDepth 20000 in
theorem ggX7_rate_X7_checkOpen : GoodIn wsX7_rate wsX7_checkOpen := goodIn_ca (goodIn_r _ [25, 1, 2, 26, 27, 33, 34, 35, 36, 37, 38, 39, 40, 41, 42, 43, 44, 45, 46, 47, 48, 49, 50, 51, 52, 53] (by decide +kernel) (by decide +kernel)) (goodIn_sub (fun _ h => List.mem_cons_of_mem _ (List.mem_append_left _ (List.mem_append_left _ (List.mem_append_right _ h)))) (by decide +kernel))
set_option maxRecDepth 20000 in
theorem gX7_rate_X7_checkOpen : GoodIn wsX7_rate (wsV RX7 130 RX7 yX7_checkOpen wsX7_checkOpen) := goodIn_app (goodIn_of _ (by decide +kernel)) ggX7_rate_X7_checkOpen
theorem dX7_rate_0 : decode cX7_rate 0 = .ok (.aload_n 0, 1) := by decide +kernel
theorem dX7_rate_1 : decode cX7_rate 1 = .ok (.iload_n 1, 1) := by decide +kernel
theorem dX7_rate_2 : decode cX7_rate 2 = .ok (.invokevirtual 65, 3) := by decide +kernel
theorem dX7_rate_5 : decode cX7_rate 5 = .ok (.astore 4, 2) := by decide +kernel
theorem dX7_rate_7 : decode cX7_rate 7 = .ok (.iload_n 2, 1) := by decide +kernel
theorem dX7_rate_8 : decode cX7_rate 8 = .ok (.invokestatic 126, 3) := by decide +kernel
theorem dX7_rate_11 : decode cX7_rate 11 = .ok (.iload_n 3, 1) := by decide +kernel
theorem dX7_rate_12 : decode cX7_rate 12 = .ok (.bipush 10, 2) := by decide +kernel
theorem dX7_rate_14 : decode cX7_rate 14 = .ok (.sipush 500, 3) := by decide +kernel
theorem dX7_rate_17 : decode cX7_rate 17 = .ok (.invokestatic 69, 3) := by decide +kernel
theorem dX7_rate_20 : decode cX7_rate 20 = .ok (.aload_n 0, 1) := by decide +kernel
theorem dX7_rate_21 : decode cX7_rate 21 = .ok (.iload_n 2, 1) := by decide +kernel
theorem dX7_rate_22 : decode cX7_rate 22 = .ok (.invokevirtual 130, 3) := by decide +kernel
theorem dX7_rate_25 : decode cX7_rate 25 = .ok (.aload 4, 2) := by decide +kernel
theorem dX7_rate_27 : decode cX7_rate 27 = .ok (.getfield 95, 3) := by decide +kernel
theorem dX7_rate_30 : decode cX7_rate 30 = .ok (.iload_n 2, 1) := by decide +kernel
theorem dX7_rate_31 : decode cX7_rate 31 = .ok (.baload, 1) := by decide +kernel
theorem dX7_rate_32 : decode cX7_rate 32 = .ok (.ifCond .eq 13, 3) := by decide +kernel
theorem dX7_rate_35 : decode cX7_rate 35 = .ok (.new 57, 3) := by decide +kernel
theorem dX7_rate_38 : decode cX7_rate 38 = .ok (.dup, 1) := by decide +kernel
theorem dX7_rate_39 : decode cX7_rate 39 = .ok (.ldc 133, 2) := by decide +kernel
theorem dX7_rate_41 : decode cX7_rate 41 = .ok (.invokespecial 61, 3) := by decide +kernel
theorem dX7_rate_44 : decode cX7_rate 44 = .ok (.athrow, 1) := by decide +kernel
theorem dX7_rate_45 : decode cX7_rate 45 = .ok (.aload 4, 2) := by decide +kernel
theorem dX7_rate_47 : decode cX7_rate 47 = .ok (.getfield 135, 3) := by decide +kernel
theorem dX7_rate_50 : decode cX7_rate 50 = .ok (.iload_n 2, 1) := by decide +kernel
theorem dX7_rate_51 : decode cX7_rate 51 = .ok (.iaload, 1) := by decide +kernel
theorem dX7_rate_52 : decode cX7_rate 52 = .ok (.istore 5, 2) := by decide +kernel
theorem dX7_rate_54 : decode cX7_rate 54 = .ok (.aload 4, 2) := by decide +kernel
theorem dX7_rate_56 : decode cX7_rate 56 = .ok (.getfield 135, 3) := by decide +kernel
theorem dX7_rate_59 : decode cX7_rate 59 = .ok (.iload_n 2, 1) := by decide +kernel
theorem dX7_rate_60 : decode cX7_rate 60 = .ok (.iload_n 3, 1) := by decide +kernel
theorem dX7_rate_61 : decode cX7_rate 61 = .ok (.iastore, 1) := by decide +kernel
theorem dX7_rate_62 : decode cX7_rate 62 = .ok (.iload 5, 2) := by decide +kernel
theorem dX7_rate_64 : decode cX7_rate 64 = .ok (.ireturn, 1) := by decide +kernel
set_option maxRecDepth 20000 in
theorem ggX7_weight_X7_memberOf : GoodIn wsX7_weight wsX7_memberOf := goodIn_ca (goodIn_r _ [5, 6, 7, 8, 9, 48, 49, 50, 51, 52, 53, 54, 55, 56, 57, 58, 59, 60, 61] (by decide +kernel) (by decide +kernel)) (goodIn_sub (fun _ h => List.mem_cons_of_mem _ (List.mem_append_left _ (List.mem_append_right _ h))) (by decide +kernel))
set_option maxRecDepth 20000 in
theorem gX7_weight_X7_memberOf : GoodIn wsX7_weight (wsV RX7 65 RX7 yX7_memberOf wsX7_memberOf) := goodIn_app (goodIn_of _ (by decide +kernel)) ggX7_weight_X7_memberOf
set_option maxRecDepth 20000 in
theorem ggX7_weight_X7_checkYear : GoodIn wsX7_weight wsX7_checkYear := goodIn_ca (goodIn_r _ [12, 13, 14, 4, 15, 16, 17] (by decide +kernel) (by decide +kernel)) (goodIn_sub (fun _ h => List.mem_cons_of_mem _ (List.mem_append_right _ h)) (by decide +kernel))
set_option maxRecDepth 20000 in
theorem gX7_weight_X7_checkYear : GoodIn wsX7_weight (va_wsS RX7 126 yX7_checkYear wsX7_checkYear) := goodIn_app (goodIn_of _ (by decide +kernel)) ggX7_weight_X7_checkYear
set_option maxRecDepth 20000 in
theorem ggX7_weight_X7_weightIn : GoodIn wsX7_weight wsX7_weightIn := goodIn_r _ [21, 22, 23, 24, 25, 26, 27, 28, 29, 30, 31, 32, 33, 34, 35, 36, 37, 38, 39, 40, 41, 42, 43, 44, 45, 46, 47, 48, 49, 50, 51, 52, 53, 54, 55, 56, 57, 58, 59, 60, 61, 62, 63, 64, 65, 66, 67, 68, 69, 70, 71, 72, 73] (by decide +kernel) (by decide +kernel)
set_option maxRecDepth 20000 in
theorem gX7_weight_X7_weightIn : GoodIn wsX7_weight (wsV RX7 139 RX7 yX7_weightIn wsX7_weightIn) := goodIn_app (goodIn_of _ (by decide +kernel)) ggX7_weight_X7_weightIn
theorem dX7_weight_0 : decode cX7_weight 0 = .ok (.aload_n 0, 1) := by decide +kernel
theorem dX7_weight_1 : decode cX7_weight 1 = .ok (.iload_n 1, 1) := by decide +kernel
theorem dX7_weight_2 : decode cX7_weight 2 = .ok (.invokevirtual 65, 3) := by decide +kernel
theorem dX7_weight_5 : decode cX7_weight 5 = .ok (.astore_n 3, 1) := by decide +kernel
theorem dX7_weight_6 : decode cX7_weight 6 = .ok (.iload_n 2, 1) := by decide +kernel
theorem dX7_weight_7 : decode cX7_weight 7 = .ok (.invokestatic 126, 3) := by decide +kernel
theorem dX7_weight_10 : decode cX7_weight 10 = .ok (.aload_n 0, 1) := by decide +kernel
theorem dX7_weight_11 : decode cX7_weight 11 = .ok (.aload_n 3, 1) := by decide +kernel
theorem dX7_weight_12 : decode cX7_weight 12 = .ok (.iload_n 2, 1) := by decide +kernel
theorem dX7_weight_13 : decode cX7_weight 13 = .ok (.invokevirtual 139, 3) := by decide +kernel
theorem dX7_weight_16 : decode cX7_weight 16 = .ok (.lreturn, 1) := by decide +kernel
set_option maxRecDepth 20000 in
theorem ggX7_weightAnew_X7_memberOf : GoodIn wsX7_weightAnew wsX7_memberOf := goodIn_ca (goodIn_r _ [5, 6, 7, 8, 9, 41, 42, 43, 44, 45, 46, 47, 48, 49, 50, 51, 52, 53, 54] (by decide +kernel) (by decide +kernel)) (goodIn_sub (fun _ h => List.mem_cons_of_mem _ (List.mem_append_left _ (List.mem_append_right _ h))) (by decide +kernel))
set_option maxRecDepth 20000 in
theorem gX7_weightAnew_X7_memberOf : GoodIn wsX7_weightAnew (wsV RX7 65 RX7 yX7_memberOf wsX7_memberOf) := goodIn_app (goodIn_of _ (by decide +kernel)) ggX7_weightAnew_X7_memberOf
set_option maxRecDepth 20000 in
theorem ggX7_weightAnew_X7_checkYear : GoodIn wsX7_weightAnew wsX7_checkYear := goodIn_ca (goodIn_r _ [12, 13, 14, 4, 15, 16, 17] (by decide +kernel) (by decide +kernel)) (goodIn_sub (fun _ h => List.mem_cons_of_mem _ (List.mem_append_right _ h)) (by decide +kernel))
set_option maxRecDepth 20000 in
theorem gX7_weightAnew_X7_checkYear : GoodIn wsX7_weightAnew (va_wsS RX7 126 yX7_checkYear wsX7_checkYear) := goodIn_app (goodIn_of _ (by decide +kernel)) ggX7_weightAnew_X7_checkYear
set_option maxRecDepth 20000 in
theorem ggX7_weightAnew_X7_tonsOn : GoodIn wsX7_weightAnew wsX7_tonsOn := goodIn_r _ [21, 22, 23, 24, 25, 26, 27, 28, 29, 30, 31, 32, 33, 41, 42, 43, 44, 45, 46, 47, 48, 49, 50, 51, 52, 53, 54, 55, 56, 57, 58, 59, 60, 61] (by decide +kernel) (by decide +kernel)
set_option maxRecDepth 20000 in
theorem gX7_weightAnew_X7_tonsOn : GoodIn wsX7_weightAnew (wsV RX7 143 RX7 yX7_tonsOn wsX7_tonsOn) := goodIn_app (goodIn_of _ (by decide +kernel)) ggX7_weightAnew_X7_tonsOn
set_option maxRecDepth 20000 in
theorem ggX7_weightAnew_X3_rated : GoodIn wsX7_weightAnew wsX3_rated := goodIn_r _ [38, 39, 40, 62, 63, 64, 65, 66] (by decide +kernel) (by decide +kernel)
set_option maxRecDepth 20000 in
theorem gX7_weightAnew_X3_rated : GoodIn wsX7_weightAnew (wsV RX7 146 RX3 yX3_rated wsX3_rated) := goodIn_app (goodIn_of _ (by decide +kernel)) ggX7_weightAnew_X3_rated
theorem dX7_weightAnew_0 : decode cX7_weightAnew 0 = .ok (.aload_n 0, 1) := by decide +kernel
theorem dX7_weightAnew_1 : decode cX7_weightAnew 1 = .ok (.iload_n 1, 1) := by decide +kernel
theorem dX7_weightAnew_2 : decode cX7_weightAnew 2 = .ok (.invokevirtual 65, 3) := by decide +kernel
theorem dX7_weightAnew_5 : decode cX7_weightAnew 5 = .ok (.astore_n 3, 1) := by decide +kernel
theorem dX7_weightAnew_6 : decode cX7_weightAnew 6 = .ok (.iload_n 2, 1) := by decide +kernel
theorem dX7_weightAnew_7 : decode cX7_weightAnew 7 = .ok (.invokestatic 126, 3) := by decide +kernel
theorem dX7_weightAnew_10 : decode cX7_weightAnew 10 = .ok (.lconst 0, 1) := by decide +kernel
theorem dX7_weightAnew_11 : decode cX7_weightAnew 11 = .ok (.lstore 4, 2) := by decide +kernel
theorem dX7_weightAnew_13 : decode cX7_weightAnew 13 = .ok (.iload_n 2, 1) := by decide +kernel
theorem dX7_weightAnew_14 : decode cX7_weightAnew 14 = .ok (.iconst 1, 1) := by decide +kernel
theorem dX7_weightAnew_15 : decode cX7_weightAnew 15 = .ok (.iadd, 1) := by decide +kernel
theorem dX7_weightAnew_16 : decode cX7_weightAnew 16 = .ok (.bipush 100, 2) := by decide +kernel
theorem dX7_weightAnew_18 : decode cX7_weightAnew 18 = .ok (.imul, 1) := by decide +kernel
theorem dX7_weightAnew_19 : decode cX7_weightAnew 19 = .ok (.istore 6, 2) := by decide +kernel
theorem dX7_weightAnew_21 : decode cX7_weightAnew 21 = .ok (.iload_n 2, 1) := by decide +kernel
theorem dX7_weightAnew_22 : decode cX7_weightAnew 22 = .ok (.bipush 100, 2) := by decide +kernel
theorem dX7_weightAnew_24 : decode cX7_weightAnew 24 = .ok (.imul, 1) := by decide +kernel
theorem dX7_weightAnew_25 : decode cX7_weightAnew 25 = .ok (.istore 7, 2) := by decide +kernel
theorem dX7_weightAnew_27 : decode cX7_weightAnew 27 = .ok (.iload 7, 2) := by decide +kernel
theorem dX7_weightAnew_29 : decode cX7_weightAnew 29 = .ok (.iload 6, 2) := by decide +kernel
theorem dX7_weightAnew_31 : decode cX7_weightAnew 31 = .ok (.if_icmp .ge 21, 3) := by decide +kernel
theorem dX7_weightAnew_34 : decode cX7_weightAnew 34 = .ok (.lload 4, 2) := by decide +kernel
theorem dX7_weightAnew_36 : decode cX7_weightAnew 36 = .ok (.aload_n 0, 1) := by decide +kernel
theorem dX7_weightAnew_37 : decode cX7_weightAnew 37 = .ok (.aload_n 3, 1) := by decide +kernel
theorem dX7_weightAnew_38 : decode cX7_weightAnew 38 = .ok (.iload 7, 2) := by decide +kernel
theorem dX7_weightAnew_40 : decode cX7_weightAnew 40 = .ok (.invokevirtual 143, 3) := by decide +kernel
theorem dX7_weightAnew_43 : decode cX7_weightAnew 43 = .ok (.ladd, 1) := by decide +kernel
theorem dX7_weightAnew_44 : decode cX7_weightAnew 44 = .ok (.lstore 4, 2) := by decide +kernel
theorem dX7_weightAnew_46 : decode cX7_weightAnew 46 = .ok (.iinc 7 1, 3) := by decide +kernel
theorem dX7_weightAnew_49 : decode cX7_weightAnew 49 = .ok (.goto (-22), 3) := by decide +kernel
theorem dX7_weightAnew_52 : decode cX7_weightAnew 52 = .ok (.aload_n 3, 1) := by decide +kernel
theorem dX7_weightAnew_53 : decode cX7_weightAnew 53 = .ok (.lload 4, 2) := by decide +kernel
theorem dX7_weightAnew_55 : decode cX7_weightAnew 55 = .ok (.iload_n 2, 1) := by decide +kernel
theorem dX7_weightAnew_56 : decode cX7_weightAnew 56 = .ok (.invokevirtual 146, 3) := by decide +kernel
theorem dX7_weightAnew_59 : decode cX7_weightAnew 59 = .ok (.lreturn, 1) := by decide +kernel
set_option maxRecDepth 20000 in
theorem ggX7_rule_X7_checkKind : GoodIn wsX7_rule wsX7_checkKind := goodIn_ca (goodIn_r _ [7, 8, 9, 6, 10, 11, 12] (by decide +kernel) (by decide +kernel)) (goodIn_sub (fun _ h => List.mem_cons_of_mem _ (List.mem_append_left _ (List.mem_append_right _ h))) (by decide +kernel))
set_option maxRecDepth 20000 in
theorem gX7_rule_X7_checkKind : GoodIn wsX7_rule (va_wsS RX7 150 yX7_checkKind wsX7_checkKind) := goodIn_app (goodIn_of _ (by decide +kernel)) ggX7_rule_X7_checkKind
set_option maxRecDepth 20000 in
theorem ggX7_rule_X7_checkYear : GoodIn wsX7_rule wsX7_checkYear := goodIn_ca (goodIn_r _ [15, 8, 9, 6, 10, 11, 12] (by decide +kernel) (by decide +kernel)) (goodIn_sub (fun _ h => List.mem_cons_of_mem _ (List.mem_append_left _ (List.mem_append_right _ h))) (by decide +kernel))
set_option maxRecDepth 20000 in
theorem gX7_rule_X7_checkYear : GoodIn wsX7_rule (va_wsS RX7 126 yX7_checkYear wsX7_checkYear) := goodIn_app (goodIn_of _ (by decide +kernel)) ggX7_rule_X7_checkYear
set_option maxRecDepth 20000 in
theorem ggX7_rule_X7_checkRange : GoodIn wsX7_rule wsX7_checkRange := goodIn_ca (goodIn_r _ [10, 11, 12] (by decide +kernel) (by decide +kernel)) (goodIn_sub (fun _ h => List.mem_cons_of_mem _ (List.mem_append_left _ (List.mem_append_right _ h))) (by decide +kernel))
set_option maxRecDepth 20000 in
theorem gX7_rule_X7_checkRange : GoodIn wsX7_rule (va_wsS RX7 69 yX7_checkRange wsX7_checkRange) := goodIn_app (goodIn_of _ (by decide +kernel)) ggX7_rule_X7_checkRange
set_option maxRecDepth 20000 in
theorem ggX7_rule_X7_checkOpen : GoodIn wsX7_rule wsX7_checkOpen := goodIn_ca (goodIn_r _ [19, 20, 21, 22, 23, 31, 32, 33, 34, 35, 36, 37, 38, 39, 40, 41, 42, 43, 44, 45, 46, 47, 48, 49, 50, 51] (by decide +kernel) (by decide +kernel)) (goodIn_sub (fun _ h => List.mem_cons_of_mem _ (List.mem_append_right _ h)) (by decide +kernel))
set_option maxRecDepth 20000 in
theorem gX7_rule_X7_checkOpen : GoodIn wsX7_rule (wsV RX7 130 RX7 yX7_checkOpen wsX7_checkOpen) := goodIn_app (goodIn_of _ (by decide +kernel)) ggX7_rule_X7_checkOpen
set_option maxRecDepth 20000 in
theorem ggX7_rule_X4_tell : GoodIn wsX7_rule wsX4_tell := goodIn_r _ [28, 29, 30, 52, 53] (by decide +kernel) (by decide +kernel)
set_option maxRecDepth 20000 in
theorem gX7_rule_X4_tell : GoodIn wsX7_rule (wsV RX7 155 RX4 yX4_tell wsX4_tell) := goodIn_app (goodIn_of _ (by decide +kernel)) ggX7_rule_X4_tell
theorem dX7_rule_0 : decode cX7_rule 0 = .ok (.iload_n 1, 1) := by decide +kernel
theorem dX7_rule_1 : decode cX7_rule 1 = .ok (.invokestatic 150, 3) := by decide +kernel
theorem dX7_rule_4 : decode cX7_rule 4 = .ok (.iload_n 2, 1) := by decide +kernel
theorem dX7_rule_5 : decode cX7_rule 5 = .ok (.invokestatic 126, 3) := by decide +kernel
theorem dX7_rule_8 : decode cX7_rule 8 = .ok (.iload_n 3, 1) := by decide +kernel
theorem dX7_rule_9 : decode cX7_rule 9 = .ok (.iconst 0, 1) := by decide +kernel
theorem dX7_rule_10 : decode cX7_rule 10 = .ok (.ldc 153, 2) := by decide +kernel
theorem dX7_rule_12 : decode cX7_rule 12 = .ok (.invokestatic 69, 3) := by decide +kernel
theorem dX7_rule_15 : decode cX7_rule 15 = .ok (.iload 4, 2) := by decide +kernel
theorem dX7_rule_17 : decode cX7_rule 17 = .ok (.iconst 0, 1) := by decide +kernel
theorem dX7_rule_18 : decode cX7_rule 18 = .ok (.ldc 154, 2) := by decide +kernel
theorem dX7_rule_20 : decode cX7_rule 20 = .ok (.invokestatic 69, 3) := by decide +kernel
theorem dX7_rule_23 : decode cX7_rule 23 = .ok (.aload_n 0, 1) := by decide +kernel
theorem dX7_rule_24 : decode cX7_rule 24 = .ok (.iload_n 2, 1) := by decide +kernel
theorem dX7_rule_25 : decode cX7_rule 25 = .ok (.invokevirtual 130, 3) := by decide +kernel
theorem dX7_rule_28 : decode cX7_rule 28 = .ok (.aload_n 0, 1) := by decide +kernel
theorem dX7_rule_29 : decode cX7_rule 29 = .ok (.getfield 48, 3) := by decide +kernel
theorem dX7_rule_32 : decode cX7_rule 32 = .ok (.iload_n 1, 1) := by decide +kernel
theorem dX7_rule_33 : decode cX7_rule 33 = .ok (.iload_n 2, 1) := by decide +kernel
theorem dX7_rule_34 : decode cX7_rule 34 = .ok (.iload_n 3, 1) := by decide +kernel
theorem dX7_rule_35 : decode cX7_rule 35 = .ok (.iload 4, 2) := by decide +kernel
theorem dX7_rule_37 : decode cX7_rule 37 = .ok (.invokevirtual 155, 3) := by decide +kernel
theorem dX7_rule_40 : decode cX7_rule 40 = .ok (.return_, 1) := by decide +kernel
set_option maxRecDepth 20000 in
theorem ggX7_pool_X7_checkYear : GoodIn wsX7_pool wsX7_checkYear := goodIn_ca (goodIn_r _ [7, 8, 9, 6, 10, 11, 12] (by decide +kernel) (by decide +kernel)) (goodIn_sub (fun _ h => List.mem_cons_of_mem _ (List.mem_append_left _ (List.mem_append_right _ h))) (by decide +kernel))
set_option maxRecDepth 20000 in
theorem gX7_pool_X7_checkYear : GoodIn wsX7_pool (va_wsS RX7 126 yX7_checkYear wsX7_checkYear) := goodIn_app (goodIn_of _ (by decide +kernel)) ggX7_pool_X7_checkYear
set_option maxRecDepth 20000 in
theorem ggX7_pool_X7_checkRange : GoodIn wsX7_pool wsX7_checkRange := goodIn_ca (goodIn_r _ [10, 11, 12] (by decide +kernel) (by decide +kernel)) (goodIn_sub (fun _ h => List.mem_cons_of_mem _ (List.mem_append_left _ (List.mem_append_right _ h))) (by decide +kernel))
set_option maxRecDepth 20000 in
theorem gX7_pool_X7_checkRange : GoodIn wsX7_pool (va_wsS RX7 69 yX7_checkRange wsX7_checkRange) := goodIn_app (goodIn_of _ (by decide +kernel)) ggX7_pool_X7_checkRange
set_option maxRecDepth 20000 in
theorem ggX7_pool_X7_checkOpen : GoodIn wsX7_pool wsX7_checkOpen := goodIn_ca (goodIn_r _ [16, 17, 18, 3, 19, 29, 30, 31, 32, 33, 34, 35, 36, 37, 38, 39, 40, 41, 42, 43, 44, 45, 46, 47, 48, 49] (by decide +kernel) (by decide +kernel)) (goodIn_sub (fun _ h => List.mem_cons_of_mem _ (List.mem_append_right _ h)) (by decide +kernel))
set_option maxRecDepth 20000 in
theorem gX7_pool_X7_checkOpen : GoodIn wsX7_pool (wsV RX7 130 RX7 yX7_checkOpen wsX7_checkOpen) := goodIn_app (goodIn_of _ (by decide +kernel)) ggX7_pool_X7_checkOpen
set_option maxRecDepth 20000 in
theorem ggX7_pool_X6_tellPool : GoodIn wsX7_pool wsX6_tellPool := goodIn_r _ [24, 25, 26, 27, 28, 43, 44, 45, 46, 47, 48, 49] (by decide +kernel) (by decide +kernel)
set_option maxRecDepth 20000 in
theorem gX7_pool_X6_tellPool : GoodIn wsX7_pool (wsV RX7 160 RX6 yX6_tellPool wsX6_tellPool) := goodIn_app (goodIn_of _ (by decide +kernel)) ggX7_pool_X6_tellPool
theorem dX7_pool_0 : decode cX7_pool 0 = .ok (.iload_n 1, 1) := by decide +kernel
theorem dX7_pool_1 : decode cX7_pool 1 = .ok (.invokestatic 126, 3) := by decide +kernel
theorem dX7_pool_4 : decode cX7_pool 4 = .ok (.iload_n 2, 1) := by decide +kernel
theorem dX7_pool_5 : decode cX7_pool 5 = .ok (.iconst 0, 1) := by decide +kernel
theorem dX7_pool_6 : decode cX7_pool 6 = .ok (.ldc 154, 2) := by decide +kernel
theorem dX7_pool_8 : decode cX7_pool 8 = .ok (.invokestatic 69, 3) := by decide +kernel
theorem dX7_pool_11 : decode cX7_pool 11 = .ok (.iload_n 3, 1) := by decide +kernel
theorem dX7_pool_12 : decode cX7_pool 12 = .ok (.iload_n 2, 1) := by decide +kernel
theorem dX7_pool_13 : decode cX7_pool 13 = .ok (.ldc 159, 2) := by decide +kernel
theorem dX7_pool_15 : decode cX7_pool 15 = .ok (.invokestatic 69, 3) := by decide +kernel
theorem dX7_pool_18 : decode cX7_pool 18 = .ok (.iload 4, 2) := by decide +kernel
theorem dX7_pool_20 : decode cX7_pool 20 = .ok (.iconst 0, 1) := by decide +kernel
theorem dX7_pool_21 : decode cX7_pool 21 = .ok (.bipush 100, 2) := by decide +kernel
theorem dX7_pool_23 : decode cX7_pool 23 = .ok (.invokestatic 69, 3) := by decide +kernel
theorem dX7_pool_26 : decode cX7_pool 26 = .ok (.aload_n 0, 1) := by decide +kernel
theorem dX7_pool_27 : decode cX7_pool 27 = .ok (.iload_n 1, 1) := by decide +kernel
theorem dX7_pool_28 : decode cX7_pool 28 = .ok (.invokevirtual 130, 3) := by decide +kernel
theorem dX7_pool_31 : decode cX7_pool 31 = .ok (.aload_n 0, 1) := by decide +kernel
theorem dX7_pool_32 : decode cX7_pool 32 = .ok (.getfield 41, 3) := by decide +kernel
theorem dX7_pool_35 : decode cX7_pool 35 = .ok (.iload_n 1, 1) := by decide +kernel
theorem dX7_pool_36 : decode cX7_pool 36 = .ok (.aaload, 1) := by decide +kernel
theorem dX7_pool_37 : decode cX7_pool 37 = .ok (.iload_n 2, 1) := by decide +kernel
theorem dX7_pool_38 : decode cX7_pool 38 = .ok (.iload_n 3, 1) := by decide +kernel
theorem dX7_pool_39 : decode cX7_pool 39 = .ok (.iload 4, 2) := by decide +kernel
theorem dX7_pool_41 : decode cX7_pool 41 = .ok (.invokevirtual 160, 3) := by decide +kernel
theorem dX7_pool_44 : decode cX7_pool 44 = .ok (.return_, 1) := by decide +kernel
set_option maxRecDepth 20000 in
theorem ggX7_claim_X7_shipOf : GoodIn wsX7_claim wsX7_shipOf := goodIn_ca (goodIn_r _ [9, 10, 11, 12, 13, 78, 79, 80, 81, 82, 83, 84, 85, 86, 87, 88, 89, 90, 91] (by decide +kernel) (by decide +kernel)) (goodIn_sub (fun _ h => List.mem_cons_of_mem _ (List.mem_append_left _ (List.mem_append_right _ h))) (by decide +kernel))
set_option maxRecDepth 20000 in
theorem gX7_claim_X7_shipOf : GoodIn wsX7_claim (wsV RX7 81 RX7 yX7_shipOf wsX7_shipOf) := goodIn_app (goodIn_of _ (by decide +kernel)) ggX7_claim_X7_shipOf
set_option maxRecDepth 20000 in
theorem ggX7_claim_X7_eventOf : GoodIn wsX7_claim wsX7_eventOf := goodIn_ca (goodIn_r _ [17, 10, 11, 18, 19, 78, 79, 80, 81, 82, 83, 84, 85, 86, 87, 88, 89, 90, 91] (by decide +kernel) (by decide +kernel)) (goodIn_sub (fun _ h => List.mem_cons_of_mem _ (List.mem_append_left _ (List.mem_append_right _ h))) (by decide +kernel))
set_option maxRecDepth 20000 in
theorem gX7_claim_X7_eventOf : GoodIn wsX7_claim (wsV RX7 163 RX7 yX7_eventOf wsX7_eventOf) := goodIn_app (goodIn_of _ (by decide +kernel)) ggX7_claim_X7_eventOf
set_option maxRecDepth 20000 in
theorem ggX7_claim_X7_checkKind : GoodIn wsX7_claim wsX7_checkKind := goodIn_ca (goodIn_r _ [22, 23, 24, 8, 25, 1, 2] (by decide +kernel) (by decide +kernel)) (goodIn_sub (fun _ h => List.mem_cons_of_mem _ (List.mem_append_left _ (List.mem_append_left _ (List.mem_append_right _ h)))) (by decide +kernel))
set_option maxRecDepth 20000 in
theorem gX7_claim_X7_checkKind : GoodIn wsX7_claim (va_wsS RX7 150 yX7_checkKind wsX7_checkKind) := goodIn_app (goodIn_of _ (by decide +kernel)) ggX7_claim_X7_checkKind
set_option maxRecDepth 20000 in
theorem ggX7_claim_X7_checkRange : GoodIn wsX7_claim wsX7_checkRange := goodIn_ca (goodIn_r _ [25, 1, 2] (by decide +kernel) (by decide +kernel)) (goodIn_sub (fun _ h => List.mem_cons_of_mem _ (List.mem_append_left _ (List.mem_append_left _ (List.mem_append_right _ h)))) (by decide +kernel))
set_option maxRecDepth 20000 in
theorem gX7_claim_X7_checkRange : GoodIn wsX7_claim (va_wsS RX7 69 yX7_checkRange wsX7_checkRange) := goodIn_app (goodIn_of _ (by decide +kernel)) ggX7_claim_X7_checkRange
set_option maxRecDepth 20000 in
theorem ggX7_claim_X7_checkLoss : GoodIn wsX7_claim wsX7_checkLoss := goodIn_ca (goodIn_r _ [28, 29, 23, 24, 8, 25, 1, 2] (by decide +kernel) (by decide +kernel)) (goodIn_sub (fun _ h => List.mem_cons_of_mem _ (List.mem_append_left _ (List.mem_append_left _ (List.mem_append_right _ h)))) (by decide +kernel))
set_option maxRecDepth 20000 in
theorem gX7_claim_X7_checkLoss : GoodIn wsX7_claim (va_wsS RX7 167 yX7_checkLoss wsX7_checkLoss) := goodIn_app (goodIn_of _ (by decide +kernel)) ggX7_claim_X7_checkLoss
set_option maxRecDepth 20000 in
theorem ggX7_claim_X7_yearOfDay : GoodIn wsX7_claim wsX7_yearOfDay := goodIn_r _ [32] (by decide +kernel) (by decide +kernel)
set_option maxRecDepth 20000 in
theorem gX7_claim_X7_yearOfDay : GoodIn wsX7_claim (va_wsS RX7 102 yX7_yearOfDay wsX7_yearOfDay) := goodIn_app (goodIn_of _ (by decide +kernel)) ggX7_claim_X7_yearOfDay
set_option maxRecDepth 20000 in
theorem ggX7_claim_X7_checkOpen : GoodIn wsX7_claim wsX7_checkOpen := goodIn_ca (goodIn_r _ [36, 37, 38, 39, 40, 78, 79, 80, 81, 82, 83, 84, 85, 86, 87, 88, 89, 90, 91, 95, 96, 97, 98, 99, 100, 101] (by decide +kernel) (by decide +kernel)) (goodIn_sub (fun _ h => List.mem_cons_of_mem _ (List.mem_append_right _ h)) (by decide +kernel))
set_option maxRecDepth 20000 in
theorem gX7_claim_X7_checkOpen : GoodIn wsX7_claim (wsV RX7 130 RX7 yX7_checkOpen wsX7_checkOpen) := goodIn_app (goodIn_of _ (by decide +kernel)) ggX7_claim_X7_checkOpen
set_option maxRecDepth 20000 in
theorem ggX7_claim_X7_checkRoomForClaims : GoodIn wsX7_claim wsX7_checkRoomForClaims := goodIn_ca (goodIn_r _ [44, 37, 38, 45, 78, 79, 80, 81, 82, 83, 84, 85, 86, 87, 88, 89, 90, 91] (by decide +kernel) (by decide +kernel)) (goodIn_sub (fun _ h => List.mem_cons_of_mem _ (List.mem_append_right _ h)) (by decide +kernel))
set_option maxRecDepth 20000 in
theorem gX7_claim_X7_checkRoomForClaims : GoodIn wsX7_claim (wsV RX7 178 RX7 yX7_checkRoomForClaims wsX7_checkRoomForClaims) := goodIn_app (goodIn_of _ (by decide +kernel)) ggX7_claim_X7_checkRoomForClaims
set_option maxRecDepth 20000 in
theorem ggX7_claim_X7_newEvent : GoodIn wsX7_claim wsX7_newEvent := goodIn_r _ [49, 50, 51, 52, 18, 19, 53, 54, 55, 56, 57, 58, 59, 60, 92, 93, 94, 78, 79, 80, 81, 82, 83, 84, 85, 86, 87, 88, 89, 90, 91] (by decide +kernel) (by decide +kernel)
set_option maxRecDepth 20000 in
theorem gX7_claim_X7_newEvent : GoodIn wsX7_claim (wsV RX7 181 RX7 yX7_newEvent wsX7_newEvent) := goodIn_app (goodIn_of _ (by decide +kernel)) ggX7_claim_X7_newEvent
set_option maxRecDepth 20000 in
theorem ggX7_claim_X7_newClaim : GoodIn wsX7_claim wsX7_newClaim := goodIn_r _ [64, 65, 45, 66, 67, 68, 69, 70, 71, 72, 73, 57, 58, 74, 75, 76, 77, 78, 79, 80, 81, 82, 83, 84, 85, 86, 87, 88, 89, 90, 91, 102, 103, 104, 105, 106, 107, 108, 109, 92, 93, 94] (by decide +kernel) (by decide +kernel)
set_option maxRecDepth 20000 in
theorem gX7_claim_X7_newClaim : GoodIn wsX7_claim (wsV RX7 184 RX7 yX7_newClaim wsX7_newClaim) := goodIn_app (goodIn_of _ (by decide +kernel)) ggX7_claim_X7_newClaim
theorem dX7_claim_0 : decode cX7_claim 0 = .ok (.aload_n 0, 1) := by decide +kernel
theorem dX7_claim_1 : decode cX7_claim 1 = .ok (.iload_n 1, 1) := by decide +kernel
theorem dX7_claim_2 : decode cX7_claim 2 = .ok (.invokevirtual 81, 3) := by decide +kernel
theorem dX7_claim_5 : decode cX7_claim 5 = .ok (.astore 6, 2) := by decide +kernel
theorem dX7_claim_7 : decode cX7_claim 7 = .ok (.iload 5, 2) := by decide +kernel
theorem dX7_claim_9 : decode cX7_claim 9 = .ok (.iconst (-1), 1) := by decide +kernel
theorem dX7_claim_10 : decode cX7_claim 10 = .ok (.if_icmp .ne 7, 3) := by decide +kernel
theorem dX7_claim_13 : decode cX7_claim 13 = .ok (.aconst_null, 1) := by decide +kernel
theorem dX7_claim_14 : decode cX7_claim 14 = .ok (.goto 9, 3) := by decide +kernel
theorem dX7_claim_17 : decode cX7_claim 17 = .ok (.aload_n 0, 1) := by decide +kernel
theorem dX7_claim_18 : decode cX7_claim 18 = .ok (.iload 5, 2) := by decide +kernel
theorem dX7_claim_20 : decode cX7_claim 20 = .ok (.invokevirtual 163, 3) := by decide +kernel
theorem dX7_claim_23 : decode cX7_claim 23 = .ok (.astore 7, 2) := by decide +kernel
theorem dX7_claim_25 : decode cX7_claim 25 = .ok (.iload_n 2, 1) := by decide +kernel
theorem dX7_claim_26 : decode cX7_claim 26 = .ok (.invokestatic 150, 3) := by decide +kernel
theorem dX7_claim_29 : decode cX7_claim 29 = .ok (.iload_n 3, 1) := by decide +kernel
theorem dX7_claim_30 : decode cX7_claim 30 = .ok (.iconst 0, 1) := by decide +kernel
theorem dX7_claim_31 : decode cX7_claim 31 = .ok (.aload_n 0, 1) := by decide +kernel
theorem dX7_claim_32 : decode cX7_claim 32 = .ok (.getfield 99, 3) := by decide +kernel
theorem dX7_claim_35 : decode cX7_claim 35 = .ok (.invokestatic 69, 3) := by decide +kernel
theorem dX7_claim_38 : decode cX7_claim 38 = .ok (.iload 4, 2) := by decide +kernel
theorem dX7_claim_40 : decode cX7_claim 40 = .ok (.invokestatic 167, 3) := by decide +kernel
theorem dX7_claim_43 : decode cX7_claim 43 = .ok (.aload 7, 2) := by decide +kernel
theorem dX7_claim_45 : decode cX7_claim 45 = .ok (.ifnull 22, 3) := by decide +kernel
theorem dX7_claim_48 : decode cX7_claim 48 = .ok (.aload 7, 2) := by decide +kernel
theorem dX7_claim_50 : decode cX7_claim 50 = .ok (.getfield 170, 3) := by decide +kernel
theorem dX7_claim_53 : decode cX7_claim 53 = .ok (.iload_n 3, 1) := by decide +kernel
theorem dX7_claim_54 : decode cX7_claim 54 = .ok (.if_icmp .eq 13, 3) := by decide +kernel
theorem dX7_claim_57 : decode cX7_claim 57 = .ok (.new 173, 3) := by decide +kernel
theorem dX7_claim_60 : decode cX7_claim 60 = .ok (.dup, 1) := by decide +kernel
theorem dX7_claim_61 : decode cX7_claim 61 = .ok (.ldc 175, 2) := by decide +kernel
theorem dX7_claim_63 : decode cX7_claim 63 = .ok (.invokespecial 177, 3) := by decide +kernel
theorem dX7_claim_66 : decode cX7_claim 66 = .ok (.athrow, 1) := by decide +kernel
theorem dX7_claim_67 : decode cX7_claim 67 = .ok (.aload_n 0, 1) := by decide +kernel
theorem dX7_claim_68 : decode cX7_claim 68 = .ok (.iload_n 3, 1) := by decide +kernel
theorem dX7_claim_69 : decode cX7_claim 69 = .ok (.invokestatic 102, 3) := by decide +kernel
theorem dX7_claim_72 : decode cX7_claim 72 = .ok (.invokevirtual 130, 3) := by decide +kernel
theorem dX7_claim_75 : decode cX7_claim 75 = .ok (.aload_n 0, 1) := by decide +kernel
theorem dX7_claim_76 : decode cX7_claim 76 = .ok (.iconst 1, 1) := by decide +kernel
theorem dX7_claim_77 : decode cX7_claim 77 = .ok (.invokevirtual 178, 3) := by decide +kernel
theorem dX7_claim_80 : decode cX7_claim 80 = .ok (.aload 7, 2) := by decide +kernel
theorem dX7_claim_82 : decode cX7_claim 82 = .ok (.ifnonnull 10, 3) := by decide +kernel
theorem dX7_claim_85 : decode cX7_claim 85 = .ok (.aload_n 0, 1) := by decide +kernel
theorem dX7_claim_86 : decode cX7_claim 86 = .ok (.iload_n 3, 1) := by decide +kernel
theorem dX7_claim_87 : decode cX7_claim 87 = .ok (.invokevirtual 181, 3) := by decide +kernel
theorem dX7_claim_90 : decode cX7_claim 90 = .ok (.astore 7, 2) := by decide +kernel
theorem dX7_claim_92 : decode cX7_claim 92 = .ok (.aload_n 0, 1) := by decide +kernel
theorem dX7_claim_93 : decode cX7_claim 93 = .ok (.aload 6, 2) := by decide +kernel
theorem dX7_claim_95 : decode cX7_claim 95 = .ok (.iload_n 2, 1) := by decide +kernel
theorem dX7_claim_96 : decode cX7_claim 96 = .ok (.iload 4, 2) := by decide +kernel
theorem dX7_claim_98 : decode cX7_claim 98 = .ok (.aload 7, 2) := by decide +kernel
theorem dX7_claim_100 : decode cX7_claim 100 = .ok (.invokevirtual 184, 3) := by decide +kernel
theorem dX7_claim_103 : decode cX7_claim 103 = .ok (.ireturn, 1) := by decide +kernel
set_option maxRecDepth 20000 in
theorem ggX7_collide_X7_shipOf : GoodIn wsX7_collide wsX7_shipOf := goodIn_ca (goodIn_r _ [8, 9, 10, 11, 12, 65, 66, 67, 68, 69, 70, 71, 72, 73, 74, 75, 76, 77, 78] (by decide +kernel) (by decide +kernel)) (goodIn_sub (fun _ h => List.mem_cons_of_mem _ (List.mem_append_left _ (List.mem_append_right _ h))) (by decide +kernel))
set_option maxRecDepth 20000 in
theorem gX7_collide_X7_shipOf : GoodIn wsX7_collide (wsV RX7 81 RX7 yX7_shipOf wsX7_shipOf) := goodIn_app (goodIn_of _ (by decide +kernel)) ggX7_collide_X7_shipOf
set_option maxRecDepth 20000 in
theorem ggX7_collide_X7_checkRange : GoodIn wsX7_collide wsX7_checkRange := goodIn_ca (goodIn_r _ [15, 1, 2] (by decide +kernel) (by decide +kernel)) (goodIn_sub (fun _ h => List.mem_cons_of_mem _ (List.mem_append_left _ (List.mem_append_left _ (List.mem_append_right _ h)))) (by decide +kernel))
set_option maxRecDepth 20000 in
theorem gX7_collide_X7_checkRange : GoodIn wsX7_collide (va_wsS RX7 69 yX7_checkRange wsX7_checkRange) := goodIn_app (goodIn_of _ (by decide +kernel)) ggX7_collide_X7_checkRange
set_option maxRecDepth 20000 in
theorem ggX7_collide_X7_checkLoss : GoodIn wsX7_collide wsX7_checkLoss := goodIn_ca (goodIn_r _ [18, 19, 13, 14, 7, 15, 1, 2] (by decide +kernel) (by decide +kernel)) (goodIn_sub (fun _ h => List.mem_cons_of_mem _ (List.mem_append_left _ (List.mem_append_left _ (List.mem_append_right _ h)))) (by decide +kernel))
set_option maxRecDepth 20000 in
theorem gX7_collide_X7_checkLoss : GoodIn wsX7_collide (va_wsS RX7 167 yX7_checkLoss wsX7_checkLoss) := goodIn_app (goodIn_of _ (by decide +kernel)) ggX7_collide_X7_checkLoss
set_option maxRecDepth 20000 in
theorem ggX7_collide_X7_checkRoomForClaims : GoodIn wsX7_collide wsX7_checkRoomForClaims := goodIn_ca (goodIn_r _ [23, 24, 25, 26, 65, 66, 67, 68, 69, 70, 71, 72, 73, 74, 75, 76, 77, 78] (by decide +kernel) (by decide +kernel)) (goodIn_sub (fun _ h => List.mem_cons_of_mem _ (List.mem_append_right _ h)) (by decide +kernel))
set_option maxRecDepth 20000 in
theorem gX7_collide_X7_checkRoomForClaims : GoodIn wsX7_collide (wsV RX7 178 RX7 yX7_checkRoomForClaims wsX7_checkRoomForClaims) := goodIn_app (goodIn_of _ (by decide +kernel)) ggX7_collide_X7_checkRoomForClaims
set_option maxRecDepth 20000 in
theorem ggX7_collide_X7_newEvent : GoodIn wsX7_collide wsX7_newEvent := goodIn_r _ [30, 31, 32, 33, 34, 35, 36, 37, 38, 39, 40, 41, 42, 43, 79, 80, 81, 65, 66, 67, 68, 69, 70, 71, 72, 73, 74, 75, 76, 77, 78] (by decide +kernel) (by decide +kernel)
set_option maxRecDepth 20000 in
theorem gX7_collide_X7_newEvent : GoodIn wsX7_collide (wsV RX7 181 RX7 yX7_newEvent wsX7_newEvent) := goodIn_app (goodIn_of _ (by decide +kernel)) ggX7_collide_X7_newEvent
set_option maxRecDepth 20000 in
theorem ggX7_collide_X7_hundredthsOf : GoodIn wsX7_collide wsX7_hundredthsOf := goodIn_r _ [46, 47] (by decide +kernel) (by decide +kernel)
set_option maxRecDepth 20000 in
theorem gX7_collide_X7_hundredthsOf : GoodIn wsX7_collide (va_wsS RX7 190 yX7_hundredthsOf wsX7_hundredthsOf) := goodIn_app (goodIn_of _ (by decide +kernel)) ggX7_collide_X7_hundredthsOf
set_option maxRecDepth 20000 in
theorem ggX7_collide_X7_newClaim : GoodIn wsX7_collide wsX7_newClaim := goodIn_r _ [51, 52, 26, 53, 54, 55, 56, 57, 58, 59, 60, 40, 41, 61, 62, 63, 64, 65, 66, 67, 68, 69, 70, 71, 72, 73, 74, 75, 76, 77, 78, 82, 83, 84, 85, 86, 87, 88, 89, 79, 80, 81] (by decide +kernel) (by decide +kernel)
set_option maxRecDepth 20000 in
theorem gX7_collide_X7_newClaim : GoodIn wsX7_collide (wsV RX7 184 RX7 yX7_newClaim wsX7_newClaim) := goodIn_app (goodIn_of _ (by decide +kernel)) ggX7_collide_X7_newClaim
theorem dX7_collide_0 : decode cX7_collide 0 = .ok (.aload_n 0, 1) := by decide +kernel
theorem dX7_collide_1 : decode cX7_collide 1 = .ok (.iload_n 1, 1) := by decide +kernel
theorem dX7_collide_2 : decode cX7_collide 2 = .ok (.invokevirtual 81, 3) := by decide +kernel
theorem dX7_collide_5 : decode cX7_collide 5 = .ok (.astore 6, 2) := by decide +kernel
theorem dX7_collide_7 : decode cX7_collide 7 = .ok (.aload_n 0, 1) := by decide +kernel
theorem dX7_collide_8 : decode cX7_collide 8 = .ok (.iload_n 2, 1) := by decide +kernel
theorem dX7_collide_9 : decode cX7_collide 9 = .ok (.invokevirtual 81, 3) := by decide +kernel
theorem dX7_collide_12 : decode cX7_collide 12 = .ok (.astore 7, 2) := by decide +kernel
theorem dX7_collide_14 : decode cX7_collide 14 = .ok (.iload_n 1, 1) := by decide +kernel
theorem dX7_collide_15 : decode cX7_collide 15 = .ok (.iload_n 2, 1) := by decide +kernel
theorem dX7_collide_16 : decode cX7_collide 16 = .ok (.if_icmp .ne 13, 3) := by decide +kernel
theorem dX7_collide_19 : decode cX7_collide 19 = .ok (.new 173, 3) := by decide +kernel
theorem dX7_collide_22 : decode cX7_collide 22 = .ok (.dup, 1) := by decide +kernel
theorem dX7_collide_23 : decode cX7_collide 23 = .ok (.ldc 188, 2) := by decide +kernel
theorem dX7_collide_25 : decode cX7_collide 25 = .ok (.invokespecial 177, 3) := by decide +kernel
theorem dX7_collide_28 : decode cX7_collide 28 = .ok (.athrow, 1) := by decide +kernel
theorem dX7_collide_29 : decode cX7_collide 29 = .ok (.iload_n 3, 1) := by decide +kernel
theorem dX7_collide_30 : decode cX7_collide 30 = .ok (.iconst 0, 1) := by decide +kernel
theorem dX7_collide_31 : decode cX7_collide 31 = .ok (.bipush 100, 2) := by decide +kernel
theorem dX7_collide_33 : decode cX7_collide 33 = .ok (.invokestatic 69, 3) := by decide +kernel
theorem dX7_collide_36 : decode cX7_collide 36 = .ok (.iload 4, 2) := by decide +kernel
theorem dX7_collide_38 : decode cX7_collide 38 = .ok (.invokestatic 167, 3) := by decide +kernel
theorem dX7_collide_41 : decode cX7_collide 41 = .ok (.iload 5, 2) := by decide +kernel
theorem dX7_collide_43 : decode cX7_collide 43 = .ok (.invokestatic 167, 3) := by decide +kernel
theorem dX7_collide_46 : decode cX7_collide 46 = .ok (.aload_n 0, 1) := by decide +kernel
theorem dX7_collide_47 : decode cX7_collide 47 = .ok (.iconst 2, 1) := by decide +kernel
theorem dX7_collide_48 : decode cX7_collide 48 = .ok (.invokevirtual 178, 3) := by decide +kernel
theorem dX7_collide_51 : decode cX7_collide 51 = .ok (.aload_n 0, 1) := by decide +kernel
theorem dX7_collide_52 : decode cX7_collide 52 = .ok (.aload_n 0, 1) := by decide +kernel
theorem dX7_collide_53 : decode cX7_collide 53 = .ok (.getfield 99, 3) := by decide +kernel
theorem dX7_collide_56 : decode cX7_collide 56 = .ok (.invokevirtual 181, 3) := by decide +kernel
theorem dX7_collide_59 : decode cX7_collide 59 = .ok (.astore 8, 2) := by decide +kernel
theorem dX7_collide_61 : decode cX7_collide 61 = .ok (.aload_n 0, 1) := by decide +kernel
theorem dX7_collide_62 : decode cX7_collide 62 = .ok (.aload 6, 2) := by decide +kernel
theorem dX7_collide_64 : decode cX7_collide 64 = .ok (.iconst 2, 1) := by decide +kernel
theorem dX7_collide_65 : decode cX7_collide 65 = .ok (.iload 5, 2) := by decide +kernel
theorem dX7_collide_67 : decode cX7_collide 67 = .ok (.iload_n 3, 1) := by decide +kernel
theorem dX7_collide_68 : decode cX7_collide 68 = .ok (.invokestatic 190, 3) := by decide +kernel
theorem dX7_collide_71 : decode cX7_collide 71 = .ok (.aload 8, 2) := by decide +kernel
theorem dX7_collide_73 : decode cX7_collide 73 = .ok (.invokevirtual 184, 3) := by decide +kernel
theorem dX7_collide_76 : decode cX7_collide 76 = .ok (.istore 9, 2) := by decide +kernel
theorem dX7_collide_78 : decode cX7_collide 78 = .ok (.aload_n 0, 1) := by decide +kernel
theorem dX7_collide_79 : decode cX7_collide 79 = .ok (.aload 7, 2) := by decide +kernel
theorem dX7_collide_81 : decode cX7_collide 81 = .ok (.iconst 2, 1) := by decide +kernel
theorem dX7_collide_82 : decode cX7_collide 82 = .ok (.iload 4, 2) := by decide +kernel
theorem dX7_collide_84 : decode cX7_collide 84 = .ok (.bipush 100, 2) := by decide +kernel
theorem dX7_collide_86 : decode cX7_collide 86 = .ok (.iload_n 3, 1) := by decide +kernel
theorem dX7_collide_87 : decode cX7_collide 87 = .ok (.isub, 1) := by decide +kernel
theorem dX7_collide_88 : decode cX7_collide 88 = .ok (.invokestatic 190, 3) := by decide +kernel
theorem dX7_collide_91 : decode cX7_collide 91 = .ok (.aload 8, 2) := by decide +kernel
theorem dX7_collide_93 : decode cX7_collide 93 = .ok (.invokevirtual 184, 3) := by decide +kernel
theorem dX7_collide_96 : decode cX7_collide 96 = .ok (.pop, 1) := by decide +kernel
theorem dX7_collide_97 : decode cX7_collide 97 = .ok (.iload 9, 2) := by decide +kernel
theorem dX7_collide_99 : decode cX7_collide 99 = .ok (.ireturn, 1) := by decide +kernel
set_option maxRecDepth 20000 in
theorem ggX7_estimate_X7_claimOf : GoodIn wsX7_estimate wsX7_claimOf := goodIn_ca (goodIn_r _ [6, 7, 8, 9, 10, 34, 35, 36, 37, 38, 39, 40, 41, 42, 43, 44, 45, 46, 47] (by decide +kernel) (by decide +kernel)) (goodIn_sub (fun _ h => List.mem_cons_of_mem _ (List.mem_append_left _ (List.mem_append_left _ (List.mem_append_right _ h)))) (by decide +kernel))
set_option maxRecDepth 20000 in
theorem gX7_estimate_X7_claimOf : GoodIn wsX7_estimate (wsV RX7 194 RX7 yX7_claimOf wsX7_claimOf) := goodIn_app (goodIn_of _ (by decide +kernel)) ggX7_estimate_X7_claimOf
set_option maxRecDepth 20000 in
theorem ggX7_estimate_X7_checkLoss : GoodIn wsX7_estimate wsX7_checkLoss := goodIn_ca (goodIn_r _ [13, 14, 15, 16, 5, 17, 18, 19] (by decide +kernel) (by decide +kernel)) (goodIn_sub (fun _ h => List.mem_cons_of_mem _ (List.mem_append_left _ (List.mem_append_right _ h))) (by decide +kernel))
set_option maxRecDepth 20000 in
theorem gX7_estimate_X7_checkLoss : GoodIn wsX7_estimate (va_wsS RX7 167 yX7_checkLoss wsX7_checkLoss) := goodIn_app (goodIn_of _ (by decide +kernel)) ggX7_estimate_X7_checkLoss
set_option maxRecDepth 20000 in
theorem ggX7_estimate_X7_checkUnsettled : GoodIn wsX7_estimate wsX7_checkUnsettled := goodIn_ca (goodIn_r _ [22, 23, 24, 25, 26, 27, 28, 29, 30, 31, 32, 33] (by decide +kernel) (by decide +kernel)) (goodIn_sub (fun _ h => List.mem_cons_of_mem _ (List.mem_append_right _ h)) (by decide +kernel))
set_option maxRecDepth 20000 in
theorem gX7_estimate_X7_checkUnsettled : GoodIn wsX7_estimate (va_wsS RX7 198 yX7_checkUnsettled wsX7_checkUnsettled) := goodIn_app (goodIn_of _ (by decide +kernel)) ggX7_estimate_X7_checkUnsettled
theorem dX7_estimate_0 : decode cX7_estimate 0 = .ok (.aload_n 0, 1) := by decide +kernel
theorem dX7_estimate_1 : decode cX7_estimate 1 = .ok (.iload_n 1, 1) := by decide +kernel
theorem dX7_estimate_2 : decode cX7_estimate 2 = .ok (.invokevirtual 194, 3) := by decide +kernel
theorem dX7_estimate_5 : decode cX7_estimate 5 = .ok (.astore_n 3, 1) := by decide +kernel
theorem dX7_estimate_6 : decode cX7_estimate 6 = .ok (.iload_n 2, 1) := by decide +kernel
theorem dX7_estimate_7 : decode cX7_estimate 7 = .ok (.invokestatic 167, 3) := by decide +kernel
theorem dX7_estimate_10 : decode cX7_estimate 10 = .ok (.aload_n 3, 1) := by decide +kernel
theorem dX7_estimate_11 : decode cX7_estimate 11 = .ok (.invokestatic 198, 3) := by decide +kernel
theorem dX7_estimate_14 : decode cX7_estimate 14 = .ok (.aload_n 3, 1) := by decide +kernel
theorem dX7_estimate_15 : decode cX7_estimate 15 = .ok (.getfield 202, 3) := by decide +kernel
theorem dX7_estimate_18 : decode cX7_estimate 18 = .ok (.istore 4, 2) := by decide +kernel
theorem dX7_estimate_20 : decode cX7_estimate 20 = .ok (.aload_n 3, 1) := by decide +kernel
theorem dX7_estimate_21 : decode cX7_estimate 21 = .ok (.iload_n 2, 1) := by decide +kernel
theorem dX7_estimate_22 : decode cX7_estimate 22 = .ok (.putfield 202, 3) := by decide +kernel
theorem dX7_estimate_25 : decode cX7_estimate 25 = .ok (.iload 4, 2) := by decide +kernel
theorem dX7_estimate_27 : decode cX7_estimate 27 = .ok (.ireturn, 1) := by decide +kernel
set_option maxRecDepth 20000 in
theorem ggX7_settle_X7_claimOf : GoodIn wsX7_settle wsX7_claimOf := goodIn_ca (goodIn_r _ [7, 8, 9, 10, 11, 25, 26, 27, 28, 29, 30, 31, 32, 33, 34, 35, 36, 37, 38] (by decide +kernel) (by decide +kernel)) (goodIn_sub (fun _ h => List.mem_cons_of_mem _ (List.mem_append_left _ (List.mem_append_right _ h))) (by decide +kernel))
set_option maxRecDepth 20000 in
theorem gX7_settle_X7_claimOf : GoodIn wsX7_settle (wsV RX7 194 RX7 yX7_claimOf wsX7_claimOf) := goodIn_app (goodIn_of _ (by decide +kernel)) ggX7_settle_X7_claimOf
set_option maxRecDepth 20000 in
theorem ggX7_settle_X7_checkUnsettled : GoodIn wsX7_settle wsX7_checkUnsettled := goodIn_ca (goodIn_r _ [14, 15, 16, 1, 17, 18, 19, 20, 21, 22, 23, 24] (by decide +kernel) (by decide +kernel)) (goodIn_sub (fun _ h => List.mem_cons_of_mem _ (List.mem_append_right _ h)) (by decide +kernel))
set_option maxRecDepth 20000 in
theorem gX7_settle_X7_checkUnsettled : GoodIn wsX7_settle (va_wsS RX7 198 yX7_checkUnsettled wsX7_checkUnsettled) := goodIn_app (goodIn_of _ (by decide +kernel)) ggX7_settle_X7_checkUnsettled
theorem dX7_settle_0 : decode cX7_settle 0 = .ok (.aload_n 0, 1) := by decide +kernel
theorem dX7_settle_1 : decode cX7_settle 1 = .ok (.iload_n 1, 1) := by decide +kernel
theorem dX7_settle_2 : decode cX7_settle 2 = .ok (.invokevirtual 194, 3) := by decide +kernel
theorem dX7_settle_5 : decode cX7_settle 5 = .ok (.astore_n 3, 1) := by decide +kernel
theorem dX7_settle_6 : decode cX7_settle 6 = .ok (.aload_n 3, 1) := by decide +kernel
theorem dX7_settle_7 : decode cX7_settle 7 = .ok (.invokestatic 198, 3) := by decide +kernel
theorem dX7_settle_10 : decode cX7_settle 10 = .ok (.aload_n 3, 1) := by decide +kernel
theorem dX7_settle_11 : decode cX7_settle 11 = .ok (.iconst 1, 1) := by decide +kernel
theorem dX7_settle_12 : decode cX7_settle 12 = .ok (.putfield 205, 3) := by decide +kernel
theorem dX7_settle_15 : decode cX7_settle 15 = .ok (.iload_n 2, 1) := by decide +kernel
theorem dX7_settle_16 : decode cX7_settle 16 = .ok (.ifCond .eq 8, 3) := by decide +kernel
theorem dX7_settle_19 : decode cX7_settle 19 = .ok (.aload_n 3, 1) := by decide +kernel
theorem dX7_settle_20 : decode cX7_settle 20 = .ok (.iconst 0, 1) := by decide +kernel
theorem dX7_settle_21 : decode cX7_settle 21 = .ok (.putfield 202, 3) := by decide +kernel
theorem dX7_settle_24 : decode cX7_settle 24 = .ok (.return_, 1) := by decide +kernel
set_option maxRecDepth 20000 in
theorem ggX7_broken_X7_claimOf : GoodIn wsX7_broken wsX7_claimOf := goodIn_ca (goodIn_r _ [8, 9, 10, 11, 12, 25, 26, 27, 28, 29, 30, 31, 32, 33, 34, 35, 36, 37, 38] (by decide +kernel) (by decide +kernel)) (goodIn_sub (fun _ h => List.mem_cons_of_mem _ (List.mem_append_right _ h)) (by decide +kernel))
set_option maxRecDepth 20000 in
theorem gX7_broken_X7_claimOf : GoodIn wsX7_broken (wsV RX7 194 RX7 yX7_claimOf wsX7_claimOf) := goodIn_app (goodIn_of _ (by decide +kernel)) ggX7_broken_X7_claimOf
set_option maxRecDepth 20000 in
theorem ggX7_broken_X7_checkUnsettled : GoodIn wsX7_broken wsX7_checkUnsettled := goodIn_ca (goodIn_r _ [15, 1, 2, 16, 17, 18, 19, 20, 21, 22, 23, 24] (by decide +kernel) (by decide +kernel)) (goodIn_sub (fun _ h => List.mem_cons_of_mem _ (List.mem_append_left _ (List.mem_append_right _ h))) (by decide +kernel))
set_option maxRecDepth 20000 in
theorem gX7_broken_X7_checkUnsettled : GoodIn wsX7_broken (va_wsS RX7 198 yX7_checkUnsettled wsX7_checkUnsettled) := goodIn_app (goodIn_of _ (by decide +kernel)) ggX7_broken_X7_checkUnsettled
theorem dX7_broken_0 : decode cX7_broken 0 = .ok (.aload_n 0, 1) := by decide +kernel
theorem dX7_broken_1 : decode cX7_broken 1 = .ok (.iload_n 1, 1) := by decide +kernel
theorem dX7_broken_2 : decode cX7_broken 2 = .ok (.invokevirtual 194, 3) := by decide +kernel
theorem dX7_broken_5 : decode cX7_broken 5 = .ok (.astore_n 2, 1) := by decide +kernel
theorem dX7_broken_6 : decode cX7_broken 6 = .ok (.aload_n 2, 1) := by decide +kernel
theorem dX7_broken_7 : decode cX7_broken 7 = .ok (.invokestatic 198, 3) := by decide +kernel
theorem dX7_broken_10 : decode cX7_broken 10 = .ok (.aload_n 2, 1) := by decide +kernel
theorem dX7_broken_11 : decode cX7_broken 11 = .ok (.getfield 209, 3) := by decide +kernel
theorem dX7_broken_14 : decode cX7_broken 14 = .ok (.ifCond .eq 13, 3) := by decide +kernel
theorem dX7_broken_17 : decode cX7_broken 17 = .ok (.new 57, 3) := by decide +kernel
theorem dX7_broken_20 : decode cX7_broken 20 = .ok (.dup, 1) := by decide +kernel
theorem dX7_broken_21 : decode cX7_broken 21 = .ok (.ldc 212, 2) := by decide +kernel
theorem dX7_broken_23 : decode cX7_broken 23 = .ok (.invokespecial 61, 3) := by decide +kernel
theorem dX7_broken_26 : decode cX7_broken 26 = .ok (.athrow, 1) := by decide +kernel
theorem dX7_broken_27 : decode cX7_broken 27 = .ok (.aload_n 2, 1) := by decide +kernel
theorem dX7_broken_28 : decode cX7_broken 28 = .ok (.iconst 1, 1) := by decide +kernel
theorem dX7_broken_29 : decode cX7_broken 29 = .ok (.putfield 209, 3) := by decide +kernel
theorem dX7_broken_32 : decode cX7_broken 32 = .ok (.return_, 1) := by decide +kernel
set_option maxRecDepth 20000 in
theorem ggX7_ofClaim_X7_claimOf : GoodIn wsX7_ofClaim wsX7_claimOf := goodIn_ca (goodIn_r _ [10, 11, 12, 13, 14, 77, 78, 79, 80, 81, 82, 83, 84, 85, 86, 87, 88, 89, 90] (by decide +kernel) (by decide +kernel)) (goodIn_sub (fun _ h => List.mem_cons_of_mem _ (List.mem_append_left _ (List.mem_append_right _ h))) (by decide +kernel))
set_option maxRecDepth 20000 in
theorem gX7_ofClaim_X7_claimOf : GoodIn wsX7_ofClaim (wsV RX7 194 RX7 yX7_claimOf wsX7_claimOf) := goodIn_app (goodIn_of _ (by decide +kernel)) ggX7_ofClaim_X7_claimOf
set_option maxRecDepth 20000 in
theorem ggX7_ofClaim_X7_checkRange : GoodIn wsX7_ofClaim wsX7_checkRange := goodIn_ca (goodIn_r _ [17, 18, 19] (by decide +kernel) (by decide +kernel)) (goodIn_sub (fun _ h => List.mem_cons_of_mem _ (List.mem_append_right _ h)) (by decide +kernel))
set_option maxRecDepth 20000 in
theorem gX7_ofClaim_X7_checkRange : GoodIn wsX7_ofClaim (va_wsS RX7 69 yX7_checkRange wsX7_checkRange) := goodIn_app (goodIn_of _ (by decide +kernel)) ggX7_ofClaim_X7_checkRange
set_option maxRecDepth 20000 in
theorem ggX7_ofClaim_X7_isCovered : GoodIn wsX7_ofClaim wsX7_isCovered := goodIn_r _ [23, 2, 24, 25, 26, 27, 28, 29, 30, 31, 9, 32, 33, 34, 35, 36, 37, 38, 39, 40, 41, 42, 43, 44, 45, 46, 47, 48, 49, 50, 51, 52, 66, 67, 68, 69, 70, 71, 72, 73, 74, 75, 76, 77, 78, 79, 80, 81, 82, 83, 84, 85, 86, 87, 88, 89, 90, 91, 92, 93, 94, 95, 96, 97, 98, 99, 100, 101, 102, 103, 104, 105, 106, 107, 108, 109] (by decide +kernel) (by decide +kernel)
set_option maxRecDepth 20000 in
theorem gX7_ofClaim_X7_isCovered : GoodIn wsX7_ofClaim (wsV RX7 221 RX7 yX7_isCovered wsX7_isCovered) := goodIn_app (goodIn_of _ (by decide +kernel)) ggX7_ofClaim_X7_isCovered
set_option maxRecDepth 20000 in
theorem ggX7_ofClaim_X0_limitedLoss : GoodIn wsX7_ofClaim wsX0_limitedLoss := goodIn_r _ [57, 58, 59, 60, 61, 62, 63, 64, 65, 66, 67, 68, 69, 70, 71, 72, 73, 98, 99, 100, 101] (by decide +kernel) (by decide +kernel)
set_option maxRecDepth 20000 in
theorem gX7_ofClaim_X0_limitedLoss : GoodIn wsX7_ofClaim (wsV RX7 228 RX0 yX0_limitedLoss wsX0_limitedLoss) := goodIn_app (goodIn_of _ (by decide +kernel)) ggX7_ofClaim_X0_limitedLoss
theorem dX7_ofClaim_0 : decode cX7_ofClaim 0 = .ok (.aload_n 0, 1) := by decide +kernel
theorem dX7_ofClaim_1 : decode cX7_ofClaim 1 = .ok (.iload_n 1, 1) := by decide +kernel
theorem dX7_ofClaim_2 : decode cX7_ofClaim 2 = .ok (.invokevirtual 194, 3) := by decide +kernel
theorem dX7_ofClaim_5 : decode cX7_ofClaim 5 = .ok (.astore_n 3, 1) := by decide +kernel
theorem dX7_ofClaim_6 : decode cX7_ofClaim 6 = .ok (.iload_n 2, 1) := by decide +kernel
theorem dX7_ofClaim_7 : decode cX7_ofClaim 7 = .ok (.iconst 0, 1) := by decide +kernel
theorem dX7_ofClaim_8 : decode cX7_ofClaim 8 = .ok (.iconst 5, 1) := by decide +kernel
theorem dX7_ofClaim_9 : decode cX7_ofClaim 9 = .ok (.invokestatic 69, 3) := by decide +kernel
theorem dX7_ofClaim_12 : decode cX7_ofClaim 12 = .ok (.iload_n 2, 1) := by decide +kernel
theorem dX7_ofClaim_13 : decode cX7_ofClaim 13 = .ok (.tableswitch 83 0 4 #[35, 41, 50, 64, 77], 35) := by decide +kernel
theorem dX7_ofClaim_48 : decode cX7_ofClaim 48 = .ok (.aload_n 3, 1) := by decide +kernel
theorem dX7_ofClaim_49 : decode cX7_ofClaim 49 = .ok (.getfield 202, 3) := by decide +kernel
theorem dX7_ofClaim_52 : decode cX7_ofClaim 52 = .ok (.i2l, 1) := by decide +kernel
theorem dX7_ofClaim_53 : decode cX7_ofClaim 53 = .ok (.lreturn, 1) := by decide +kernel
theorem dX7_ofClaim_54 : decode cX7_ofClaim 54 = .ok (.aload_n 3, 1) := by decide +kernel
theorem dX7_ofClaim_55 : decode cX7_ofClaim 55 = .ok (.getfield 214, 3) := by decide +kernel
theorem dX7_ofClaim_58 : decode cX7_ofClaim 58 = .ok (.getfield 218, 3) := by decide +kernel
theorem dX7_ofClaim_61 : decode cX7_ofClaim 61 = .ok (.i2l, 1) := by decide +kernel
theorem dX7_ofClaim_62 : decode cX7_ofClaim 62 = .ok (.lreturn, 1) := by decide +kernel
theorem dX7_ofClaim_63 : decode cX7_ofClaim 63 = .ok (.aload_n 0, 1) := by decide +kernel
theorem dX7_ofClaim_64 : decode cX7_ofClaim 64 = .ok (.aload_n 3, 1) := by decide +kernel
theorem dX7_ofClaim_65 : decode cX7_ofClaim 65 = .ok (.invokevirtual 221, 3) := by decide +kernel
theorem dX7_ofClaim_68 : decode cX7_ofClaim 68 = .ok (.ifCond .eq 7, 3) := by decide +kernel
theorem dX7_ofClaim_71 : decode cX7_ofClaim 71 = .ok (.lconst 1, 1) := by decide +kernel
theorem dX7_ofClaim_72 : decode cX7_ofClaim 72 = .ok (.goto 4, 3) := by decide +kernel
theorem dX7_ofClaim_75 : decode cX7_ofClaim 75 = .ok (.lconst 0, 1) := by decide +kernel
theorem dX7_ofClaim_76 : decode cX7_ofClaim 76 = .ok (.lreturn, 1) := by decide +kernel
theorem dX7_ofClaim_77 : decode cX7_ofClaim 77 = .ok (.aload_n 3, 1) := by decide +kernel
theorem dX7_ofClaim_78 : decode cX7_ofClaim 78 = .ok (.getfield 205, 3) := by decide +kernel
theorem dX7_ofClaim_81 : decode cX7_ofClaim 81 = .ok (.ifCond .eq 7, 3) := by decide +kernel
theorem dX7_ofClaim_84 : decode cX7_ofClaim 84 = .ok (.lconst 1, 1) := by decide +kernel
theorem dX7_ofClaim_85 : decode cX7_ofClaim 85 = .ok (.goto 4, 3) := by decide +kernel
theorem dX7_ofClaim_88 : decode cX7_ofClaim 88 = .ok (.lconst 0, 1) := by decide +kernel
theorem dX7_ofClaim_89 : decode cX7_ofClaim 89 = .ok (.lreturn, 1) := by decide +kernel
theorem dX7_ofClaim_90 : decode cX7_ofClaim 90 = .ok (.aload_n 3, 1) := by decide +kernel
theorem dX7_ofClaim_91 : decode cX7_ofClaim 91 = .ok (.getfield 225, 3) := by decide +kernel
theorem dX7_ofClaim_94 : decode cX7_ofClaim 94 = .ok (.i2l, 1) := by decide +kernel
theorem dX7_ofClaim_95 : decode cX7_ofClaim 95 = .ok (.lreturn, 1) := by decide +kernel
theorem dX7_ofClaim_96 : decode cX7_ofClaim 96 = .ok (.aload_n 0, 1) := by decide +kernel
theorem dX7_ofClaim_97 : decode cX7_ofClaim 97 = .ok (.aload_n 3, 1) := by decide +kernel
theorem dX7_ofClaim_98 : decode cX7_ofClaim 98 = .ok (.invokevirtual 221, 3) := by decide +kernel
theorem dX7_ofClaim_101 : decode cX7_ofClaim 101 = .ok (.ifCond .eq 11, 3) := by decide +kernel
theorem dX7_ofClaim_104 : decode cX7_ofClaim 104 = .ok (.aload_n 3, 1) := by decide +kernel
theorem dX7_ofClaim_105 : decode cX7_ofClaim 105 = .ok (.invokevirtual 228, 3) := by decide +kernel
theorem dX7_ofClaim_108 : decode cX7_ofClaim 108 = .ok (.i2l, 1) := by decide +kernel
theorem dX7_ofClaim_109 : decode cX7_ofClaim 109 = .ok (.goto 4, 3) := by decide +kernel
theorem dX7_ofClaim_112 : decode cX7_ofClaim 112 = .ok (.lconst 0, 1) := by decide +kernel
theorem dX7_ofClaim_113 : decode cX7_ofClaim 113 = .ok (.lreturn, 1) := by decide +kernel
set_option maxRecDepth 20000 in
theorem ggX7_ofEvent_X7_eventOf : GoodIn wsX7_ofEvent wsX7_eventOf := goodIn_ca (goodIn_r _ [7, 8, 9, 10, 11, 118, 119, 120, 121, 122, 123, 124, 125, 126, 127, 128, 129, 130, 131] (by decide +kernel) (by decide +kernel)) (goodIn_sub (fun _ h => List.mem_cons_of_mem _ (List.mem_append_left _ (List.mem_append_right _ h))) (by decide +kernel))
set_option maxRecDepth 20000 in
theorem gX7_ofEvent_X7_eventOf : GoodIn wsX7_ofEvent (wsV RX7 163 RX7 yX7_eventOf wsX7_eventOf) := goodIn_app (goodIn_of _ (by decide +kernel)) ggX7_ofEvent_X7_eventOf
set_option maxRecDepth 20000 in
theorem ggX7_ofEvent_X7_checkRange : GoodIn wsX7_ofEvent wsX7_checkRange := goodIn_ca (goodIn_r _ [14, 15, 16] (by decide +kernel) (by decide +kernel)) (goodIn_sub (fun _ h => List.mem_cons_of_mem _ (List.mem_append_right _ h)) (by decide +kernel))
set_option maxRecDepth 20000 in
theorem gX7_ofEvent_X7_checkRange : GoodIn wsX7_ofEvent (va_wsS RX7 69 yX7_checkRange wsX7_checkRange) := goodIn_app (goodIn_of _ (by decide +kernel)) ggX7_ofEvent_X7_checkRange
set_option maxRecDepth 20000 in
theorem ggX7_ofEvent_X7_costOf : GoodIn wsX7_ofEvent wsX7_costOf := goodIn_r _ [20, 1, 21, 22, 23, 24, 25, 26, 27, 6, 28, 29, 30, 31, 32, 33, 34, 35, 36, 37, 38, 39, 40, 41, 42, 43, 44, 45, 46, 47, 48, 49, 50, 51, 52, 53, 54, 55, 56, 57, 58, 59, 60, 61, 62, 63, 64, 65, 66, 67, 68, 69, 70, 71, 72, 73, 74, 75, 76, 77, 78, 79, 80, 81, 82, 83, 84, 85, 86, 87, 88, 89, 90, 91, 92, 93, 94, 95, 96, 97, 98, 115, 116, 117, 118, 119, 120, 121, 122, 123, 124, 125, 126, 127, 128, 129, 130, 131, 132, 133, 134, 135, 136, 137, 138, 139, 140, 141, 142, 143, 144, 145, 146, 147, 148, 149, 150, 151, 152, 153, 154, 155, 156, 157, 158, 159, 160] (by decide +kernel) (by decide +kernel)
set_option maxRecDepth 20000 in
theorem gX7_ofEvent_X7_costOf : GoodIn wsX7_ofEvent (wsV RX7 232 RX7 yX7_costOf wsX7_costOf) := goodIn_app (goodIn_of _ (by decide +kernel)) ggX7_ofEvent_X7_costOf
set_option maxRecDepth 20000 in
theorem ggX7_ofEvent_X7_borneOf : GoodIn wsX7_ofEvent wsX7_borneOf := goodIn_r _ [102, 45, 1, 26, 27, 6, 28, 17, 18, 19, 20, 21, 22, 23, 24, 25, 29, 30, 31, 32, 33, 34, 35, 36, 37, 38, 39, 40, 41, 42, 43, 44, 46, 47, 48, 49, 50, 51, 52, 53, 54, 55, 56, 57, 58, 59, 60, 61, 62, 63, 64, 65, 66, 67, 68, 69, 70, 71, 72, 73, 74, 75, 76, 77, 78, 79, 80, 81, 82, 83, 84, 85, 86, 87, 88, 89, 90, 91, 92, 93, 94, 95, 96, 97, 98, 103, 104, 105, 106, 107, 108, 109, 110, 111, 112, 113, 114, 118, 119, 120, 121, 122, 123, 124, 125, 126, 127, 128, 129, 130, 131, 115, 116, 117, 132, 133, 134, 135, 136, 137, 138, 139, 140, 141, 142, 143, 144, 145, 146, 147, 148, 149, 150, 151, 152, 153, 154, 155, 156, 157, 158, 159, 160] (by decide +kernel) (by decide +kernel)
set_option maxRecDepth 20000 in
theorem gX7_ofEvent_X7_borneOf : GoodIn wsX7_ofEvent (wsV RX7 236 RX7 yX7_borneOf wsX7_borneOf) := goodIn_app (goodIn_of _ (by decide +kernel)) ggX7_ofEvent_X7_borneOf
theorem dX7_ofEvent_0 : decode cX7_ofEvent 0 = .ok (.aload_n 0, 1) := by decide +kernel
theorem dX7_ofEvent_1 : decode cX7_ofEvent 1 = .ok (.iload_n 1, 1) := by decide +kernel
theorem dX7_ofEvent_2 : decode cX7_ofEvent 2 = .ok (.invokevirtual 163, 3) := by decide +kernel
theorem dX7_ofEvent_5 : decode cX7_ofEvent 5 = .ok (.astore_n 3, 1) := by decide +kernel
theorem dX7_ofEvent_6 : decode cX7_ofEvent 6 = .ok (.iload_n 2, 1) := by decide +kernel
theorem dX7_ofEvent_7 : decode cX7_ofEvent 7 = .ok (.iconst 0, 1) := by decide +kernel
theorem dX7_ofEvent_8 : decode cX7_ofEvent 8 = .ok (.iconst 3, 1) := by decide +kernel
theorem dX7_ofEvent_9 : decode cX7_ofEvent 9 = .ok (.invokestatic 69, 3) := by decide +kernel
theorem dX7_ofEvent_12 : decode cX7_ofEvent 12 = .ok (.iload_n 2, 1) := by decide +kernel
theorem dX7_ofEvent_13 : decode cX7_ofEvent 13 = .ok (.tableswitch 45 0 2 #[27, 33, 39], 27) := by decide +kernel
theorem dX7_ofEvent_40 : decode cX7_ofEvent 40 = .ok (.aload_n 0, 1) := by decide +kernel
theorem dX7_ofEvent_41 : decode cX7_ofEvent 41 = .ok (.aload_n 3, 1) := by decide +kernel
theorem dX7_ofEvent_42 : decode cX7_ofEvent 42 = .ok (.invokevirtual 232, 3) := by decide +kernel
theorem dX7_ofEvent_45 : decode cX7_ofEvent 45 = .ok (.lreturn, 1) := by decide +kernel
theorem dX7_ofEvent_46 : decode cX7_ofEvent 46 = .ok (.aload_n 0, 1) := by decide +kernel
theorem dX7_ofEvent_47 : decode cX7_ofEvent 47 = .ok (.aload_n 3, 1) := by decide +kernel
theorem dX7_ofEvent_48 : decode cX7_ofEvent 48 = .ok (.invokevirtual 236, 3) := by decide +kernel
theorem dX7_ofEvent_51 : decode cX7_ofEvent 51 = .ok (.lreturn, 1) := by decide +kernel
theorem dX7_ofEvent_52 : decode cX7_ofEvent 52 = .ok (.aload_n 3, 1) := by decide +kernel
theorem dX7_ofEvent_53 : decode cX7_ofEvent 53 = .ok (.getfield 170, 3) := by decide +kernel
theorem dX7_ofEvent_56 : decode cX7_ofEvent 56 = .ok (.i2l, 1) := by decide +kernel
theorem dX7_ofEvent_57 : decode cX7_ofEvent 57 = .ok (.lreturn, 1) := by decide +kernel
theorem dX7_ofEvent_58 : decode cX7_ofEvent 58 = .ok (.aload_n 3, 1) := by decide +kernel
theorem dX7_ofEvent_59 : decode cX7_ofEvent 59 = .ok (.getfield 239, 3) := by decide +kernel
theorem dX7_ofEvent_62 : decode cX7_ofEvent 62 = .ok (.i2l, 1) := by decide +kernel
theorem dX7_ofEvent_63 : decode cX7_ofEvent 63 = .ok (.lreturn, 1) := by decide +kernel
set_option maxRecDepth 20000 in
theorem ggX7_cost_X7_checkYear : GoodIn wsX7_cost wsX7_checkYear := goodIn_ca (goodIn_r _ [4, 5, 6, 3, 7, 8, 9] (by decide +kernel) (by decide +kernel)) (goodIn_sub (fun _ h => List.mem_cons_of_mem _ (List.mem_append_right _ h)) (by decide +kernel))
set_option maxRecDepth 20000 in
theorem gX7_cost_X7_checkYear : GoodIn wsX7_cost (va_wsS RX7 126 yX7_checkYear wsX7_checkYear) := goodIn_app (goodIn_of _ (by decide +kernel)) ggX7_cost_X7_checkYear
set_option maxRecDepth 20000 in
theorem ggX7_cost_X7_costIn : GoodIn wsX7_cost wsX7_costIn := goodIn_r _ [13, 14, 15, 16, 17, 18, 3, 19, 20, 21, 22, 23, 24, 25, 26, 27, 28, 29, 30, 31, 32, 33, 34, 35, 36, 37, 38, 39, 40, 41, 42, 43, 44, 45, 46, 47, 48, 49, 50, 51, 52, 53, 54, 55, 56, 57, 58, 59, 60, 61, 62, 63, 64, 65, 66, 67, 68, 69, 70, 71, 72, 73, 74, 75, 76, 77, 78, 79, 80, 81, 82, 83, 84, 85, 86, 87, 88, 89, 90, 91, 92, 93, 94, 95, 96, 97, 98, 99, 100, 101, 102, 103, 104, 105, 106, 107, 108, 109, 110, 111, 112, 113, 114, 115, 116, 117, 118, 119, 120, 121, 122, 123, 124, 125, 126, 127, 128, 129, 130, 131, 132, 133, 134, 135, 136, 137, 138, 139, 140, 141, 142, 143, 144, 145, 146, 147, 148, 149, 150, 151, 152, 153, 154, 155, 156, 157, 158, 159, 160] (by decide +kernel) (by decide +kernel)
set_option maxRecDepth 20000 in
theorem gX7_cost_X7_costIn : GoodIn wsX7_cost (wsV RX7 242 RX7 yX7_costIn wsX7_costIn) := goodIn_app (goodIn_of _ (by decide +kernel)) ggX7_cost_X7_costIn
theorem dX7_cost_0 : decode cX7_cost 0 = .ok (.iload_n 1, 1) := by decide +kernel
theorem dX7_cost_1 : decode cX7_cost 1 = .ok (.invokestatic 126, 3) := by decide +kernel
theorem dX7_cost_4 : decode cX7_cost 4 = .ok (.aload_n 0, 1) := by decide +kernel
theorem dX7_cost_5 : decode cX7_cost 5 = .ok (.iload_n 1, 1) := by decide +kernel
theorem dX7_cost_6 : decode cX7_cost 6 = .ok (.invokevirtual 242, 3) := by decide +kernel
theorem dX7_cost_9 : decode cX7_cost 9 = .ok (.lreturn, 1) := by decide +kernel
set_option maxRecDepth 20000 in
theorem ggX7_advance_X7_checkYear : GoodIn wsX7_advance wsX7_checkYear := goodIn_ca (goodIn_r _ [12, 13, 14, 11, 15, 16, 17] (by decide +kernel) (by decide +kernel)) (goodIn_sub (fun _ h => List.mem_cons_of_mem _ (List.mem_append_right _ h)) (by decide +kernel))
set_option maxRecDepth 20000 in
theorem gX7_advance_X7_checkYear : GoodIn wsX7_advance (va_wsS RX7 126 yX7_checkYear wsX7_checkYear) := goodIn_app (goodIn_of _ (by decide +kernel)) ggX7_advance_X7_checkYear
set_option maxRecDepth 20000 in
theorem ggX7_advance_X7_checkRange : GoodIn wsX7_advance wsX7_checkRange := goodIn_ca (goodIn_r _ [15, 16, 17] (by decide +kernel) (by decide +kernel)) (goodIn_sub (fun _ h => List.mem_cons_of_mem _ (List.mem_append_right _ h)) (by decide +kernel))
set_option maxRecDepth 20000 in
theorem gX7_advance_X7_checkRange : GoodIn wsX7_advance (va_wsS RX7 69 yX7_checkRange wsX7_checkRange) := goodIn_app (goodIn_of _ (by decide +kernel)) ggX7_advance_X7_checkRange
set_option maxRecDepth 20000 in
theorem ggX7_advance_X7_checkOpen : GoodIn wsX7_advance wsX7_checkOpen := goodIn_ca (goodIn_r _ [21, 1, 2, 7, 22, 23, 24, 25, 26, 27, 28, 29, 30, 31, 32, 33, 34, 35, 36, 42, 43, 44, 45, 46, 47, 48] (by decide +kernel) (by decide +kernel)) (goodIn_sub (fun _ h => List.mem_cons_of_mem _ (List.mem_append_left _ (List.mem_append_right _ h))) (by decide +kernel))
set_option maxRecDepth 20000 in
theorem gX7_advance_X7_checkOpen : GoodIn wsX7_advance (wsV RX7 130 RX7 yX7_checkOpen wsX7_checkOpen) := goodIn_app (goodIn_of _ (by decide +kernel)) ggX7_advance_X7_checkOpen
theorem dX7_advance_0 : decode cX7_advance 0 = .ok (.iload_n 1, 1) := by decide +kernel
theorem dX7_advance_1 : decode cX7_advance 1 = .ok (.invokestatic 126, 3) := by decide +kernel
theorem dX7_advance_4 : decode cX7_advance 4 = .ok (.iload_n 2, 1) := by decide +kernel
theorem dX7_advance_5 : decode cX7_advance 5 = .ok (.iconst 0, 1) := by decide +kernel
theorem dX7_advance_6 : decode cX7_advance 6 = .ok (.ldc 153, 2) := by decide +kernel
theorem dX7_advance_8 : decode cX7_advance 8 = .ok (.invokestatic 69, 3) := by decide +kernel
theorem dX7_advance_11 : decode cX7_advance 11 = .ok (.aload_n 0, 1) := by decide +kernel
theorem dX7_advance_12 : decode cX7_advance 12 = .ok (.iload_n 1, 1) := by decide +kernel
theorem dX7_advance_13 : decode cX7_advance 13 = .ok (.invokevirtual 130, 3) := by decide +kernel
theorem dX7_advance_16 : decode cX7_advance 16 = .ok (.iconst 0, 1) := by decide +kernel
theorem dX7_advance_17 : decode cX7_advance 17 = .ok (.istore_n 3, 1) := by decide +kernel
theorem dX7_advance_18 : decode cX7_advance 18 = .ok (.iload_n 3, 1) := by decide +kernel
theorem dX7_advance_19 : decode cX7_advance 19 = .ok (.aload_n 0, 1) := by decide +kernel
theorem dX7_advance_20 : decode cX7_advance 20 = .ok (.getfield 53, 3) := by decide +kernel
theorem dX7_advance_23 : decode cX7_advance 23 = .ok (.if_icmp .ge 33, 3) := by decide +kernel
theorem dX7_advance_26 : decode cX7_advance 26 = .ok (.aload_n 0, 1) := by decide +kernel
theorem dX7_advance_27 : decode cX7_advance 27 = .ok (.getfield 11, 3) := by decide +kernel
theorem dX7_advance_30 : decode cX7_advance 30 = .ok (.iload_n 3, 1) := by decide +kernel
theorem dX7_advance_31 : decode cX7_advance 31 = .ok (.aaload, 1) := by decide +kernel
theorem dX7_advance_32 : decode cX7_advance 32 = .ok (.getfield 95, 3) := by decide +kernel
theorem dX7_advance_35 : decode cX7_advance 35 = .ok (.iload_n 1, 1) := by decide +kernel
theorem dX7_advance_36 : decode cX7_advance 36 = .ok (.baload, 1) := by decide +kernel
theorem dX7_advance_37 : decode cX7_advance 37 = .ok (.ifCond .eq 13, 3) := by decide +kernel
theorem dX7_advance_40 : decode cX7_advance 40 = .ok (.new 57, 3) := by decide +kernel
theorem dX7_advance_43 : decode cX7_advance 43 = .ok (.dup, 1) := by decide +kernel
theorem dX7_advance_44 : decode cX7_advance 44 = .ok (.ldc 246, 2) := by decide +kernel
theorem dX7_advance_46 : decode cX7_advance 46 = .ok (.invokespecial 61, 3) := by decide +kernel
theorem dX7_advance_49 : decode cX7_advance 49 = .ok (.athrow, 1) := by decide +kernel
theorem dX7_advance_50 : decode cX7_advance 50 = .ok (.iinc 3 1, 3) := by decide +kernel
theorem dX7_advance_53 : decode cX7_advance 53 = .ok (.goto (-35), 3) := by decide +kernel
theorem dX7_advance_56 : decode cX7_advance 56 = .ok (.aload_n 0, 1) := by decide +kernel
theorem dX7_advance_57 : decode cX7_advance 57 = .ok (.getfield 41, 3) := by decide +kernel
theorem dX7_advance_60 : decode cX7_advance 60 = .ok (.iload_n 1, 1) := by decide +kernel
theorem dX7_advance_61 : decode cX7_advance 61 = .ok (.aaload, 1) := by decide +kernel
theorem dX7_advance_62 : decode cX7_advance 62 = .ok (.getfield 248, 3) := by decide +kernel
theorem dX7_advance_65 : decode cX7_advance 65 = .ok (.istore_n 3, 1) := by decide +kernel
theorem dX7_advance_66 : decode cX7_advance 66 = .ok (.aload_n 0, 1) := by decide +kernel
theorem dX7_advance_67 : decode cX7_advance 67 = .ok (.getfield 41, 3) := by decide +kernel
theorem dX7_advance_70 : decode cX7_advance 70 = .ok (.iload_n 1, 1) := by decide +kernel
theorem dX7_advance_71 : decode cX7_advance 71 = .ok (.aaload, 1) := by decide +kernel
theorem dX7_advance_72 : decode cX7_advance 72 = .ok (.iload_n 2, 1) := by decide +kernel
theorem dX7_advance_73 : decode cX7_advance 73 = .ok (.putfield 248, 3) := by decide +kernel
theorem dX7_advance_76 : decode cX7_advance 76 = .ok (.iload_n 3, 1) := by decide +kernel
theorem dX7_advance_77 : decode cX7_advance 77 = .ok (.ireturn, 1) := by decide +kernel
set_option maxRecDepth 20000 in
theorem ggX7_further_X7_checkYear : GoodIn wsX7_further wsX7_checkYear := goodIn_ca (goodIn_r _ [8, 9, 10, 7, 11, 12, 13] (by decide +kernel) (by decide +kernel)) (goodIn_sub (fun _ h => List.mem_cons_of_mem _ (List.mem_append_right _ h)) (by decide +kernel))
set_option maxRecDepth 20000 in
theorem gX7_further_X7_checkYear : GoodIn wsX7_further (va_wsS RX7 126 yX7_checkYear wsX7_checkYear) := goodIn_app (goodIn_of _ (by decide +kernel)) ggX7_further_X7_checkYear
set_option maxRecDepth 20000 in
theorem ggX7_further_X7_checkRange : GoodIn wsX7_further wsX7_checkRange := goodIn_ca (goodIn_r _ [11, 12, 13] (by decide +kernel) (by decide +kernel)) (goodIn_sub (fun _ h => List.mem_cons_of_mem _ (List.mem_append_right _ h)) (by decide +kernel))
set_option maxRecDepth 20000 in
theorem gX7_further_X7_checkRange : GoodIn wsX7_further (va_wsS RX7 69 yX7_checkRange wsX7_checkRange) := goodIn_app (goodIn_of _ (by decide +kernel)) ggX7_further_X7_checkRange
set_option maxRecDepth 20000 in
theorem ggX7_further_X7_checkOpen : GoodIn wsX7_further wsX7_checkOpen := goodIn_ca (goodIn_r _ [17, 1, 2, 3, 18, 19, 20, 21, 22, 23, 24, 25, 26, 27, 28, 29, 30, 31, 32, 33, 34, 35, 36, 37, 38, 39] (by decide +kernel) (by decide +kernel)) (goodIn_sub (fun _ h => List.mem_cons_of_mem _ (List.mem_append_left _ (List.mem_append_right _ h))) (by decide +kernel))
set_option maxRecDepth 20000 in
theorem gX7_further_X7_checkOpen : GoodIn wsX7_further (wsV RX7 130 RX7 yX7_checkOpen wsX7_checkOpen) := goodIn_app (goodIn_of _ (by decide +kernel)) ggX7_further_X7_checkOpen
theorem dX7_further_0 : decode cX7_further 0 = .ok (.iload_n 1, 1) := by decide +kernel
theorem dX7_further_1 : decode cX7_further 1 = .ok (.invokestatic 126, 3) := by decide +kernel
theorem dX7_further_4 : decode cX7_further 4 = .ok (.iload_n 2, 1) := by decide +kernel
theorem dX7_further_5 : decode cX7_further 5 = .ok (.iconst 1, 1) := by decide +kernel
theorem dX7_further_6 : decode cX7_further 6 = .ok (.sipush 200, 3) := by decide +kernel
theorem dX7_further_9 : decode cX7_further 9 = .ok (.invokestatic 69, 3) := by decide +kernel
theorem dX7_further_12 : decode cX7_further 12 = .ok (.aload_n 0, 1) := by decide +kernel
theorem dX7_further_13 : decode cX7_further 13 = .ok (.iload_n 1, 1) := by decide +kernel
theorem dX7_further_14 : decode cX7_further 14 = .ok (.invokevirtual 130, 3) := by decide +kernel
theorem dX7_further_17 : decode cX7_further 17 = .ok (.aload_n 0, 1) := by decide +kernel
theorem dX7_further_18 : decode cX7_further 18 = .ok (.getfield 41, 3) := by decide +kernel
theorem dX7_further_21 : decode cX7_further 21 = .ok (.iload_n 1, 1) := by decide +kernel
theorem dX7_further_22 : decode cX7_further 22 = .ok (.aaload, 1) := by decide +kernel
theorem dX7_further_23 : decode cX7_further 23 = .ok (.getfield 251, 3) := by decide +kernel
theorem dX7_further_26 : decode cX7_further 26 = .ok (.iload_n 2, 1) := by decide +kernel
theorem dX7_further_27 : decode cX7_further 27 = .ok (.iadd, 1) := by decide +kernel
theorem dX7_further_28 : decode cX7_further 28 = .ok (.istore_n 3, 1) := by decide +kernel
theorem dX7_further_29 : decode cX7_further 29 = .ok (.iload_n 3, 1) := by decide +kernel
theorem dX7_further_30 : decode cX7_further 30 = .ok (.sipush 1000, 3) := by decide +kernel
theorem dX7_further_33 : decode cX7_further 33 = .ok (.if_icmp .le 13, 3) := by decide +kernel
theorem dX7_further_36 : decode cX7_further 36 = .ok (.new 57, 3) := by decide +kernel
theorem dX7_further_39 : decode cX7_further 39 = .ok (.dup, 1) := by decide +kernel
theorem dX7_further_40 : decode cX7_further 40 = .ok (.ldc 254, 2) := by decide +kernel
theorem dX7_further_42 : decode cX7_further 42 = .ok (.invokespecial 61, 3) := by decide +kernel
theorem dX7_further_45 : decode cX7_further 45 = .ok (.athrow, 1) := by decide +kernel
theorem dX7_further_46 : decode cX7_further 46 = .ok (.aload_n 0, 1) := by decide +kernel
theorem dX7_further_47 : decode cX7_further 47 = .ok (.getfield 41, 3) := by decide +kernel
theorem dX7_further_50 : decode cX7_further 50 = .ok (.iload_n 1, 1) := by decide +kernel
theorem dX7_further_51 : decode cX7_further 51 = .ok (.aaload, 1) := by decide +kernel
theorem dX7_further_52 : decode cX7_further 52 = .ok (.iload_n 3, 1) := by decide +kernel
theorem dX7_further_53 : decode cX7_further 53 = .ok (.putfield 251, 3) := by decide +kernel
theorem dX7_further_56 : decode cX7_further 56 = .ok (.iload_n 3, 1) := by decide +kernel
theorem dX7_further_57 : decode cX7_further 57 = .ok (.ireturn, 1) := by decide +kernel
set_option maxRecDepth 20000 in
theorem ggX7_release_X7_memberOf : GoodIn wsX7_release wsX7_memberOf := goodIn_ca (goodIn_r _ [9, 10, 11, 12, 13, 78, 79, 80, 81, 82, 83, 84, 85, 86, 87, 88, 89, 90, 91] (by decide +kernel) (by decide +kernel)) (goodIn_sub (fun _ h => List.mem_cons_of_mem _ (List.mem_append_left _ (List.mem_append_right _ h))) (by decide +kernel))
set_option maxRecDepth 20000 in
theorem gX7_release_X7_memberOf : GoodIn wsX7_release (wsV RX7 65 RX7 yX7_memberOf wsX7_memberOf) := goodIn_app (goodIn_of _ (by decide +kernel)) ggX7_release_X7_memberOf
set_option maxRecDepth 20000 in
theorem ggX7_release_X7_checkRange : GoodIn wsX7_release wsX7_checkRange := goodIn_ca (goodIn_r _ [16, 17, 18] (by decide +kernel) (by decide +kernel)) (goodIn_sub (fun _ h => List.mem_cons_of_mem _ (List.mem_append_right _ h)) (by decide +kernel))
set_option maxRecDepth 20000 in
theorem gX7_release_X7_checkRange : GoodIn wsX7_release (va_wsS RX7 69 yX7_checkRange wsX7_checkRange) := goodIn_app (goodIn_of _ (by decide +kernel)) ggX7_release_X7_checkRange
set_option maxRecDepth 20000 in
theorem ggX7_release_X7_hasShipEntered : GoodIn wsX7_release wsX7_hasShipEntered := goodIn_r _ [22, 23, 24, 25, 26, 78, 79, 80, 81, 82, 83, 84, 85, 86, 87, 88, 89, 90, 91, 99, 100, 101, 102] (by decide +kernel) (by decide +kernel)
set_option maxRecDepth 20000 in
theorem gX7_release_X7_hasShipEntered : GoodIn wsX7_release (wsV RX7 256 RX7 yX7_hasShipEntered wsX7_hasShipEntered) := goodIn_app (goodIn_of _ (by decide +kernel)) ggX7_release_X7_hasShipEntered
set_option maxRecDepth 20000 in
theorem ggX7_release_X7_isShared : GoodIn wsX7_release wsX7_isShared := goodIn_r _ [30, 31, 32, 33, 34, 8, 35, 36, 37, 38, 25, 39, 40, 41, 42, 43, 44, 45, 46, 47, 48, 49, 50, 51, 52, 53, 54, 55, 56, 57, 58, 59, 60, 103, 104, 105, 106, 107, 78, 79, 80, 81, 82, 83, 84, 85, 86, 87, 88, 89, 90, 91, 108, 109, 110, 99, 100, 101, 102] (by decide +kernel) (by decide +kernel)
set_option maxRecDepth 20000 in
theorem gX7_release_X7_isShared : GoodIn wsX7_release (wsV RX7 262 RX7 yX7_isShared wsX7_isShared) := goodIn_app (goodIn_of _ (by decide +kernel)) ggX7_release_X7_isShared
set_option maxRecDepth 20000 in
theorem ggX7_release_X7_releaseFrom : GoodIn wsX7_release wsX7_releaseFrom := goodIn_r _ [64, 65, 66, 31, 67, 68, 69, 8, 70, 3, 71, 72, 32, 33, 34, 35, 36, 37, 38, 25, 39, 40, 41, 42, 43, 44, 45, 46, 47, 48, 49, 50, 51, 52, 53, 54, 55, 56, 57, 58, 59, 60, 73, 74, 75, 76, 4, 77, 103, 104, 105, 106, 107, 78, 79, 80, 81, 82, 83, 84, 85, 86, 87, 88, 89, 90, 91, 92, 93, 94, 95, 96, 97, 98, 108, 109, 110, 99, 100, 101, 102] (by decide +kernel) (by decide +kernel)
set_option maxRecDepth 20000 in
theorem gX7_release_X7_releaseFrom : GoodIn wsX7_release (wsV RX7 269 RX7 yX7_releaseFrom wsX7_releaseFrom) := goodIn_app (goodIn_of _ (by decide +kernel)) ggX7_release_X7_releaseFrom
theorem dX7_release_0 : decode cX7_release 0 = .ok (.aload_n 0, 1) := by decide +kernel
theorem dX7_release_1 : decode cX7_release 1 = .ok (.iload_n 1, 1) := by decide +kernel
theorem dX7_release_2 : decode cX7_release 2 = .ok (.invokevirtual 65, 3) := by decide +kernel
theorem dX7_release_5 : decode cX7_release 5 = .ok (.astore_n 3, 1) := by decide +kernel
theorem dX7_release_6 : decode cX7_release 6 = .ok (.iload_n 2, 1) := by decide +kernel
theorem dX7_release_7 : decode cX7_release 7 = .ok (.iconst 0, 1) := by decide +kernel
theorem dX7_release_8 : decode cX7_release 8 = .ok (.sipush 200, 3) := by decide +kernel
theorem dX7_release_11 : decode cX7_release 11 = .ok (.invokestatic 69, 3) := by decide +kernel
theorem dX7_release_14 : decode cX7_release 14 = .ok (.aload_n 0, 1) := by decide +kernel
theorem dX7_release_15 : decode cX7_release 15 = .ok (.aload_n 3, 1) := by decide +kernel
theorem dX7_release_16 : decode cX7_release 16 = .ok (.invokevirtual 256, 3) := by decide +kernel
theorem dX7_release_19 : decode cX7_release 19 = .ok (.ifCond .eq 14, 3) := by decide +kernel
theorem dX7_release_22 : decode cX7_release 22 = .ok (.new 57, 3) := by decide +kernel
theorem dX7_release_25 : decode cX7_release 25 = .ok (.dup, 1) := by decide +kernel
theorem dX7_release_26 : decode cX7_release 26 = .ok (.ldc_w 260, 3) := by decide +kernel
theorem dX7_release_29 : decode cX7_release 29 = .ok (.invokespecial 61, 3) := by decide +kernel
theorem dX7_release_32 : decode cX7_release 32 = .ok (.athrow, 1) := by decide +kernel
theorem dX7_release_33 : decode cX7_release 33 = .ok (.iconst 0, 1) := by decide +kernel
theorem dX7_release_34 : decode cX7_release 34 = .ok (.istore 4, 2) := by decide +kernel
theorem dX7_release_36 : decode cX7_release 36 = .ok (.iconst 0, 1) := by decide +kernel
theorem dX7_release_37 : decode cX7_release 37 = .ok (.istore 5, 2) := by decide +kernel
theorem dX7_release_39 : decode cX7_release 39 = .ok (.iload 5, 2) := by decide +kernel
theorem dX7_release_41 : decode cX7_release 41 = .ok (.bipush 20, 2) := by decide +kernel
theorem dX7_release_43 : decode cX7_release 43 = .ok (.if_icmp .ge 43, 3) := by decide +kernel
theorem dX7_release_46 : decode cX7_release 46 = .ok (.aload_n 0, 1) := by decide +kernel
theorem dX7_release_47 : decode cX7_release 47 = .ok (.aload_n 3, 1) := by decide +kernel
theorem dX7_release_48 : decode cX7_release 48 = .ok (.iload 5, 2) := by decide +kernel
theorem dX7_release_50 : decode cX7_release 50 = .ok (.invokevirtual 262, 3) := by decide +kernel
theorem dX7_release_53 : decode cX7_release 53 = .ok (.ifCond .eq 27, 3) := by decide +kernel
theorem dX7_release_56 : decode cX7_release 56 = .ok (.aload_n 0, 1) := by decide +kernel
theorem dX7_release_57 : decode cX7_release 57 = .ok (.getfield 41, 3) := by decide +kernel
theorem dX7_release_60 : decode cX7_release 60 = .ok (.iload 5, 2) := by decide +kernel
theorem dX7_release_62 : decode cX7_release 62 = .ok (.aaload, 1) := by decide +kernel
theorem dX7_release_63 : decode cX7_release 63 = .ok (.getfield 266, 3) := by decide +kernel
theorem dX7_release_66 : decode cX7_release 66 = .ok (.ifCond .ne 14, 3) := by decide +kernel
theorem dX7_release_69 : decode cX7_release 69 = .ok (.aload_n 0, 1) := by decide +kernel
theorem dX7_release_70 : decode cX7_release 70 = .ok (.aload_n 3, 1) := by decide +kernel
theorem dX7_release_71 : decode cX7_release 71 = .ok (.iload 5, 2) := by decide +kernel
theorem dX7_release_73 : decode cX7_release 73 = .ok (.iload_n 2, 1) := by decide +kernel
theorem dX7_release_74 : decode cX7_release 74 = .ok (.invokevirtual 269, 3) := by decide +kernel
theorem dX7_release_77 : decode cX7_release 77 = .ok (.iinc 4 1, 3) := by decide +kernel
theorem dX7_release_80 : decode cX7_release 80 = .ok (.iinc 5 1, 3) := by decide +kernel
theorem dX7_release_83 : decode cX7_release 83 = .ok (.goto (-44), 3) := by decide +kernel
theorem dX7_release_86 : decode cX7_release 86 = .ok (.iload 4, 2) := by decide +kernel
theorem dX7_release_88 : decode cX7_release 88 = .ok (.ifCond .ne 14, 3) := by decide +kernel
theorem dX7_release_91 : decode cX7_release 91 = .ok (.new 57, 3) := by decide +kernel
theorem dX7_release_94 : decode cX7_release 94 = .ok (.dup, 1) := by decide +kernel
theorem dX7_release_95 : decode cX7_release 95 = .ok (.ldc_w 273, 3) := by decide +kernel
theorem dX7_release_98 : decode cX7_release 98 = .ok (.invokespecial 61, 3) := by decide +kernel
theorem dX7_release_101 : decode cX7_release 101 = .ok (.athrow, 1) := by decide +kernel
theorem dX7_release_102 : decode cX7_release 102 = .ok (.iload 4, 2) := by decide +kernel
theorem dX7_release_104 : decode cX7_release 104 = .ok (.ireturn, 1) := by decide +kernel
set_option maxRecDepth 20000 in
theorem ggX7_pay_X7_memberOf : GoodIn wsX7_pay wsX7_memberOf := goodIn_ca (goodIn_r _ [8, 9, 10, 11, 12, 73, 74, 75, 76, 77, 78, 79, 80, 81, 82, 83, 84, 85, 86] (by decide +kernel) (by decide +kernel)) (goodIn_sub (fun _ h => List.mem_cons_of_mem _ (List.mem_append_left _ (List.mem_append_right _ h))) (by decide +kernel))
set_option maxRecDepth 20000 in
theorem gX7_pay_X7_memberOf : GoodIn wsX7_pay (wsV RX7 65 RX7 yX7_memberOf wsX7_memberOf) := goodIn_app (goodIn_of _ (by decide +kernel)) ggX7_pay_X7_memberOf
set_option maxRecDepth 20000 in
theorem ggX7_pay_X7_checkRange : GoodIn wsX7_pay wsX7_checkRange := goodIn_ca (goodIn_r _ [15, 16, 17] (by decide +kernel) (by decide +kernel)) (goodIn_sub (fun _ h => List.mem_cons_of_mem _ (List.mem_append_right _ h)) (by decide +kernel))
set_option maxRecDepth 20000 in
theorem gX7_pay_X7_checkRange : GoodIn wsX7_pay (va_wsS RX7 69 yX7_checkRange wsX7_checkRange) := goodIn_app (goodIn_of _ (by decide +kernel)) ggX7_pay_X7_checkRange
set_option maxRecDepth 20000 in
theorem ggX7_pay_X7_owedBy : GoodIn wsX7_pay wsX7_owedBy := goodIn_r _ [21, 2, 22, 23, 24, 7, 25, 26, 27, 28, 29, 30, 31, 32, 33, 34, 35, 36, 37, 38, 39, 40, 41, 42, 43, 44, 45, 46, 47, 48, 49, 50, 51, 52, 53, 54, 55, 56, 57, 58, 59, 60, 61, 62, 63, 64, 65, 66, 67, 68, 69, 70, 71, 72, 73, 74, 75, 76, 77, 78, 79, 80, 81, 82, 83, 84, 85, 86, 87, 88, 89, 90, 91, 92, 93, 94, 95, 96, 97, 98, 99, 100] (by decide +kernel) (by decide +kernel)
set_option maxRecDepth 20000 in
theorem gX7_pay_X7_owedBy : GoodIn wsX7_pay (wsV RX7 280 RX7 yX7_owedBy wsX7_owedBy) := goodIn_app (goodIn_of _ (by decide +kernel)) ggX7_pay_X7_owedBy
theorem dX7_pay_0 : decode cX7_pay 0 = .ok (.aload_n 0, 1) := by decide +kernel
theorem dX7_pay_1 : decode cX7_pay 1 = .ok (.iload_n 1, 1) := by decide +kernel
theorem dX7_pay_2 : decode cX7_pay 2 = .ok (.invokevirtual 65, 3) := by decide +kernel
theorem dX7_pay_5 : decode cX7_pay 5 = .ok (.astore_n 3, 1) := by decide +kernel
theorem dX7_pay_6 : decode cX7_pay 6 = .ok (.iload_n 2, 1) := by decide +kernel
theorem dX7_pay_7 : decode cX7_pay 7 = .ok (.iconst 1, 1) := by decide +kernel
theorem dX7_pay_8 : decode cX7_pay 8 = .ok (.ldc_w 275, 3) := by decide +kernel
theorem dX7_pay_11 : decode cX7_pay 11 = .ok (.invokestatic 69, 3) := by decide +kernel
theorem dX7_pay_14 : decode cX7_pay 14 = .ok (.aload_n 3, 1) := by decide +kernel
theorem dX7_pay_15 : decode cX7_pay 15 = .ok (.dup, 1) := by decide +kernel
theorem dX7_pay_16 : decode cX7_pay 16 = .ok (.getfield 276, 3) := by decide +kernel
theorem dX7_pay_19 : decode cX7_pay 19 = .ok (.iload_n 2, 1) := by decide +kernel
theorem dX7_pay_20 : decode cX7_pay 20 = .ok (.i2l, 1) := by decide +kernel
theorem dX7_pay_21 : decode cX7_pay 21 = .ok (.ladd, 1) := by decide +kernel
theorem dX7_pay_22 : decode cX7_pay 22 = .ok (.putfield 276, 3) := by decide +kernel
theorem dX7_pay_25 : decode cX7_pay 25 = .ok (.aload_n 0, 1) := by decide +kernel
theorem dX7_pay_26 : decode cX7_pay 26 = .ok (.aload_n 3, 1) := by decide +kernel
theorem dX7_pay_27 : decode cX7_pay 27 = .ok (.invokevirtual 280, 3) := by decide +kernel
theorem dX7_pay_30 : decode cX7_pay 30 = .ok (.lstore 4, 2) := by decide +kernel
theorem dX7_pay_32 : decode cX7_pay 32 = .ok (.lload 4, 2) := by decide +kernel
theorem dX7_pay_34 : decode cX7_pay 34 = .ok (.lconst 0, 1) := by decide +kernel
theorem dX7_pay_35 : decode cX7_pay 35 = .ok (.lcmp, 1) := by decide +kernel
theorem dX7_pay_36 : decode cX7_pay 36 = .ok (.ifCond .gt 8, 3) := by decide +kernel
theorem dX7_pay_39 : decode cX7_pay 39 = .ok (.aload_n 3, 1) := by decide +kernel
theorem dX7_pay_40 : decode cX7_pay 40 = .ok (.iconst (-1), 1) := by decide +kernel
theorem dX7_pay_41 : decode cX7_pay 41 = .ok (.putfield 284, 3) := by decide +kernel
theorem dX7_pay_44 : decode cX7_pay 44 = .ok (.lload 4, 2) := by decide +kernel
theorem dX7_pay_46 : decode cX7_pay 46 = .ok (.lreturn, 1) := by decide +kernel
set_option maxRecDepth 20000 in
theorem ggX7_stop_X7_memberOf : GoodIn wsX7_stop wsX7_memberOf := goodIn_ca (goodIn_r _ [9, 10, 11, 12, 13, 70, 71, 72, 73, 74, 75, 76, 77, 78, 79, 80, 81, 82, 83] (by decide +kernel) (by decide +kernel)) (goodIn_sub (fun _ h => List.mem_cons_of_mem _ (List.mem_append_left _ (List.mem_append_right _ h))) (by decide +kernel))
set_option maxRecDepth 20000 in
theorem gX7_stop_X7_memberOf : GoodIn wsX7_stop (wsV RX7 65 RX7 yX7_memberOf wsX7_memberOf) := goodIn_app (goodIn_of _ (by decide +kernel)) ggX7_stop_X7_memberOf
set_option maxRecDepth 20000 in
theorem ggX7_stop_X7_checkRange : GoodIn wsX7_stop wsX7_checkRange := goodIn_ca (goodIn_r _ [16, 17, 18] (by decide +kernel) (by decide +kernel)) (goodIn_sub (fun _ h => List.mem_cons_of_mem _ (List.mem_append_right _ h)) (by decide +kernel))
set_option maxRecDepth 20000 in
theorem gX7_stop_X7_checkRange : GoodIn wsX7_stop (va_wsS RX7 69 yX7_checkRange wsX7_checkRange) := goodIn_app (goodIn_of _ (by decide +kernel)) ggX7_stop_X7_checkRange
set_option maxRecDepth 20000 in
theorem ggX7_stop_X7_owedBy : GoodIn wsX7_stop wsX7_owedBy := goodIn_r _ [22, 23, 24, 25, 26, 8, 27, 28, 29, 30, 31, 32, 33, 34, 35, 36, 37, 38, 39, 40, 41, 42, 43, 44, 45, 46, 47, 48, 49, 50, 51, 52, 53, 54, 55, 56, 57, 58, 59, 60, 61, 62, 63, 64, 65, 66, 67, 68, 69, 84, 85, 86, 87, 88, 70, 71, 72, 73, 74, 75, 76, 77, 78, 79, 80, 81, 82, 83, 89, 90, 91, 92, 93, 94, 95, 96, 97, 98, 99, 100, 101, 102] (by decide +kernel) (by decide +kernel)
set_option maxRecDepth 20000 in
theorem gX7_stop_X7_owedBy : GoodIn wsX7_stop (wsV RX7 280 RX7 yX7_owedBy wsX7_owedBy) := goodIn_app (goodIn_of _ (by decide +kernel)) ggX7_stop_X7_owedBy
theorem dX7_stop_0 : decode cX7_stop 0 = .ok (.aload_n 0, 1) := by decide +kernel
theorem dX7_stop_1 : decode cX7_stop 1 = .ok (.iload_n 1, 1) := by decide +kernel
theorem dX7_stop_2 : decode cX7_stop 2 = .ok (.invokevirtual 65, 3) := by decide +kernel
theorem dX7_stop_5 : decode cX7_stop 5 = .ok (.astore_n 3, 1) := by decide +kernel
theorem dX7_stop_6 : decode cX7_stop 6 = .ok (.iload_n 2, 1) := by decide +kernel
theorem dX7_stop_7 : decode cX7_stop 7 = .ok (.iconst 0, 1) := by decide +kernel
theorem dX7_stop_8 : decode cX7_stop 8 = .ok (.aload_n 0, 1) := by decide +kernel
theorem dX7_stop_9 : decode cX7_stop 9 = .ok (.getfield 99, 3) := by decide +kernel
theorem dX7_stop_12 : decode cX7_stop 12 = .ok (.invokestatic 69, 3) := by decide +kernel
theorem dX7_stop_15 : decode cX7_stop 15 = .ok (.aload_n 0, 1) := by decide +kernel
theorem dX7_stop_16 : decode cX7_stop 16 = .ok (.aload_n 3, 1) := by decide +kernel
theorem dX7_stop_17 : decode cX7_stop 17 = .ok (.invokevirtual 280, 3) := by decide +kernel
theorem dX7_stop_20 : decode cX7_stop 20 = .ok (.lconst 0, 1) := by decide +kernel
theorem dX7_stop_21 : decode cX7_stop 21 = .ok (.lcmp, 1) := by decide +kernel
theorem dX7_stop_22 : decode cX7_stop 22 = .ok (.ifCond .gt 14, 3) := by decide +kernel
theorem dX7_stop_25 : decode cX7_stop 25 = .ok (.new 57, 3) := by decide +kernel
theorem dX7_stop_28 : decode cX7_stop 28 = .ok (.dup, 1) := by decide +kernel
theorem dX7_stop_29 : decode cX7_stop 29 = .ok (.ldc_w 287, 3) := by decide +kernel
theorem dX7_stop_32 : decode cX7_stop 32 = .ok (.invokespecial 61, 3) := by decide +kernel
theorem dX7_stop_35 : decode cX7_stop 35 = .ok (.athrow, 1) := by decide +kernel
theorem dX7_stop_36 : decode cX7_stop 36 = .ok (.aload_n 3, 1) := by decide +kernel
theorem dX7_stop_37 : decode cX7_stop 37 = .ok (.getfield 284, 3) := by decide +kernel
theorem dX7_stop_40 : decode cX7_stop 40 = .ok (.istore 4, 2) := by decide +kernel
theorem dX7_stop_42 : decode cX7_stop 42 = .ok (.aload_n 3, 1) := by decide +kernel
theorem dX7_stop_43 : decode cX7_stop 43 = .ok (.iload_n 2, 1) := by decide +kernel
theorem dX7_stop_44 : decode cX7_stop 44 = .ok (.putfield 284, 3) := by decide +kernel
theorem dX7_stop_47 : decode cX7_stop 47 = .ok (.iload 4, 2) := by decide +kernel
theorem dX7_stop_49 : decode cX7_stop 49 = .ok (.ireturn, 1) := by decide +kernel
set_option maxRecDepth 20000 in
theorem ggX7_close_X7_checkYear : GoodIn wsX7_close wsX7_checkYear := goodIn_ca (goodIn_r _ [11, 12, 13, 10, 14, 15, 16] (by decide +kernel) (by decide +kernel)) (goodIn_sub (fun _ h => List.mem_cons_of_mem _ (List.mem_append_left _ (List.mem_append_right _ h))) (by decide +kernel))
set_option maxRecDepth 20000 in
theorem gX7_close_X7_checkYear : GoodIn wsX7_close (va_wsS RX7 126 yX7_checkYear wsX7_checkYear) := goodIn_app (goodIn_of _ (by decide +kernel)) ggX7_close_X7_checkYear
set_option maxRecDepth 20000 in
theorem ggX7_close_X7_checkClosable : GoodIn wsX7_close wsX7_checkClosable := goodIn_ca (goodIn_r _ [20, 21, 22, 23, 6, 7, 1, 2, 3, 4, 24, 25, 26, 27, 10, 28, 29, 30, 31, 171, 172, 173, 174, 175, 176, 177, 178, 179, 180, 181, 182, 183, 184, 196, 197, 198, 199, 200, 201, 202, 185, 186, 187, 188, 189, 190, 191, 192, 193, 194, 195] (by decide +kernel) (by decide +kernel)) (goodIn_sub (fun _ h => List.mem_cons_of_mem _ (List.mem_append_right _ h)) (by decide +kernel))
set_option maxRecDepth 20000 in
theorem gX7_close_X7_checkClosable : GoodIn wsX7_close (wsV RX7 289 RX7 yX7_checkClosable wsX7_checkClosable) := goodIn_app (goodIn_of _ (by decide +kernel)) ggX7_close_X7_checkClosable
set_option maxRecDepth 20000 in
theorem ggX7_close_X7_costIn : GoodIn wsX7_close wsX7_costIn := goodIn_r _ [35, 36, 37, 4, 29, 30, 10, 31, 38, 39, 40, 41, 6, 42, 43, 44, 45, 1, 2, 3, 46, 47, 48, 49, 50, 51, 52, 53, 54, 55, 56, 57, 58, 59, 60, 61, 62, 63, 7, 5, 64, 65, 66, 67, 68, 69, 70, 71, 72, 73, 74, 75, 76, 77, 78, 79, 80, 81, 82, 83, 84, 85, 86, 87, 88, 89, 90, 91, 92, 93, 94, 95, 96, 97, 98, 99, 100, 101, 102, 103, 104, 105, 106, 107, 108, 109, 110, 111, 112, 113, 114, 115, 116, 117, 118, 119, 120, 121, 122, 123, 124, 125, 126, 171, 172, 173, 174, 175, 176, 177, 178, 179, 180, 181, 182, 183, 184, 193, 194, 195, 185, 186, 187, 188, 189, 190, 191, 192, 196, 197, 198, 199, 200, 201, 202, 203, 204, 205, 206, 207, 208, 209, 210, 211, 212, 213, 214, 215, 216] (by decide +kernel) (by decide +kernel)
set_option maxRecDepth 20000 in
theorem gX7_close_X7_costIn : GoodIn wsX7_close (wsV RX7 242 RX7 yX7_costIn wsX7_costIn) := goodIn_app (goodIn_of _ (by decide +kernel)) ggX7_close_X7_costIn
set_option maxRecDepth 20000 in
theorem ggX7_close_X7_dueOfReleased : GoodIn wsX7_close wsX7_dueOfReleased := goodIn_r _ [130, 131, 132, 133, 134, 171, 172, 173, 174, 175, 176, 177, 178, 179, 180, 181, 182, 183, 184, 207, 208, 209, 210, 211] (by decide +kernel) (by decide +kernel)
set_option maxRecDepth 20000 in
theorem gX7_close_X7_dueOfReleased : GoodIn wsX7_close (wsV RX7 292 RX7 yX7_dueOfReleased wsX7_dueOfReleased) := goodIn_app (goodIn_of _ (by decide +kernel)) ggX7_close_X7_dueOfReleased
set_option maxRecDepth 20000 in
theorem ggX7_close_X7_share : GoodIn wsX7_close wsX7_share := goodIn_r _ [138, 131, 132, 139, 134, 140, 141, 142, 10, 143, 133, 144, 145, 146, 147, 76, 77, 78, 65, 148, 149, 150, 151, 82, 152, 84, 153, 154, 99, 155, 85, 156, 98, 100, 157, 158, 159, 69, 160, 161, 162, 163, 164, 165, 166, 167, 168, 169, 170, 171, 172, 173, 174, 175, 176, 177, 178, 179, 180, 181, 182, 183, 184, 207, 208, 209, 210, 211, 212, 213, 214, 203, 204, 205, 206] (by decide +kernel) (by decide +kernel)
set_option maxRecDepth 20000 in
theorem gX7_close_X7_share : GoodIn wsX7_close (wsV RX7 295 RX7 yX7_share wsX7_share) := goodIn_app (goodIn_of _ (by decide +kernel)) ggX7_close_X7_share
set_option maxRecDepth 20000 in
theorem ggX7_close_X7_yearOfDay : GoodIn wsX7_close wsX7_yearOfDay := goodIn_r _ [31] (by decide +kernel) (by decide +kernel)
set_option maxRecDepth 20000 in
theorem gX7_close_X7_yearOfDay : GoodIn wsX7_close (va_wsS RX7 102 yX7_yearOfDay wsX7_yearOfDay) := goodIn_app (goodIn_of _ (by decide +kernel)) ggX7_close_X7_yearOfDay
set_option maxRecDepth 20000 in
theorem ggX7_close_X7_isCovered : GoodIn wsX7_close wsX7_isCovered := goodIn_r _ [63, 3, 4, 6, 7, 5, 64, 65, 29, 30, 10, 31, 66, 67, 68, 69, 70, 71, 72, 73, 74, 75, 76, 77, 78, 79, 80, 81, 82, 83, 84, 85, 185, 186, 187, 188, 189, 190, 191, 192, 193, 194, 195, 171, 172, 173, 174, 175, 176, 177, 178, 179, 180, 181, 182, 183, 184, 196, 197, 198, 199, 200, 201, 202, 203, 204, 205, 206, 207, 208, 209, 210, 211, 212, 213, 214] (by decide +kernel) (by decide +kernel)
set_option maxRecDepth 20000 in
theorem gX7_close_X7_isCovered : GoodIn wsX7_close (wsV RX7 221 RX7 yX7_isCovered wsX7_isCovered) := goodIn_app (goodIn_of _ (by decide +kernel)) ggX7_close_X7_isCovered
theorem dX7_close_0 : decode cX7_close 0 = .ok (.iload_n 1, 1) := by decide +kernel
theorem dX7_close_1 : decode cX7_close 1 = .ok (.invokestatic 126, 3) := by decide +kernel
theorem dX7_close_4 : decode cX7_close 4 = .ok (.aload_n 0, 1) := by decide +kernel
theorem dX7_close_5 : decode cX7_close 5 = .ok (.iload_n 1, 1) := by decide +kernel
theorem dX7_close_6 : decode cX7_close 6 = .ok (.invokevirtual 289, 3) := by decide +kernel
theorem dX7_close_9 : decode cX7_close 9 = .ok (.aload_n 0, 1) := by decide +kernel
theorem dX7_close_10 : decode cX7_close 10 = .ok (.iload_n 1, 1) := by decide +kernel
theorem dX7_close_11 : decode cX7_close 11 = .ok (.invokevirtual 242, 3) := by decide +kernel
theorem dX7_close_14 : decode cX7_close 14 = .ok (.lstore_n 2, 1) := by decide +kernel
theorem dX7_close_15 : decode cX7_close 15 = .ok (.aload_n 0, 1) := by decide +kernel
theorem dX7_close_16 : decode cX7_close 16 = .ok (.iload_n 1, 1) := by decide +kernel
theorem dX7_close_17 : decode cX7_close 17 = .ok (.lload_n 2, 1) := by decide +kernel
theorem dX7_close_18 : decode cX7_close 18 = .ok (.aload_n 0, 1) := by decide +kernel
theorem dX7_close_19 : decode cX7_close 19 = .ok (.iload_n 1, 1) := by decide +kernel
theorem dX7_close_20 : decode cX7_close 20 = .ok (.invokevirtual 292, 3) := by decide +kernel
theorem dX7_close_23 : decode cX7_close 23 = .ok (.lsub, 1) := by decide +kernel
theorem dX7_close_24 : decode cX7_close 24 = .ok (.invokevirtual 295, 3) := by decide +kernel
theorem dX7_close_27 : decode cX7_close 27 = .ok (.iconst 0, 1) := by decide +kernel
theorem dX7_close_28 : decode cX7_close 28 = .ok (.istore 4, 2) := by decide +kernel
theorem dX7_close_30 : decode cX7_close 30 = .ok (.iload 4, 2) := by decide +kernel
theorem dX7_close_32 : decode cX7_close 32 = .ok (.aload_n 0, 1) := by decide +kernel
theorem dX7_close_33 : decode cX7_close 33 = .ok (.getfield 299, 3) := by decide +kernel
theorem dX7_close_36 : decode cX7_close 36 = .ok (.if_icmp .ge 50, 3) := by decide +kernel
theorem dX7_close_39 : decode cX7_close 39 = .ok (.aload_n 0, 1) := by decide +kernel
theorem dX7_close_40 : decode cX7_close 40 = .ok (.getfield 29, 3) := by decide +kernel
theorem dX7_close_43 : decode cX7_close 43 = .ok (.iload 4, 2) := by decide +kernel
theorem dX7_close_45 : decode cX7_close 45 = .ok (.aaload, 1) := by decide +kernel
theorem dX7_close_46 : decode cX7_close 46 = .ok (.getfield 214, 3) := by decide +kernel
theorem dX7_close_49 : decode cX7_close 49 = .ok (.getfield 170, 3) := by decide +kernel
theorem dX7_close_52 : decode cX7_close 52 = .ok (.invokestatic 102, 3) := by decide +kernel
theorem dX7_close_55 : decode cX7_close 55 = .ok (.iload_n 1, 1) := by decide +kernel
theorem dX7_close_56 : decode cX7_close 56 = .ok (.if_icmp .ne 24, 3) := by decide +kernel
theorem dX7_close_59 : decode cX7_close 59 = .ok (.aload_n 0, 1) := by decide +kernel
theorem dX7_close_60 : decode cX7_close 60 = .ok (.getfield 29, 3) := by decide +kernel
theorem dX7_close_63 : decode cX7_close 63 = .ok (.iload 4, 2) := by decide +kernel
theorem dX7_close_65 : decode cX7_close 65 = .ok (.aaload, 1) := by decide +kernel
theorem dX7_close_66 : decode cX7_close 66 = .ok (.aload_n 0, 1) := by decide +kernel
theorem dX7_close_67 : decode cX7_close 67 = .ok (.aload_n 0, 1) := by decide +kernel
theorem dX7_close_68 : decode cX7_close 68 = .ok (.getfield 29, 3) := by decide +kernel
theorem dX7_close_71 : decode cX7_close 71 = .ok (.iload 4, 2) := by decide +kernel
theorem dX7_close_73 : decode cX7_close 73 = .ok (.aaload, 1) := by decide +kernel
theorem dX7_close_74 : decode cX7_close 74 = .ok (.invokevirtual 221, 3) := by decide +kernel
theorem dX7_close_77 : decode cX7_close 77 = .ok (.putfield 300, 3) := by decide +kernel
theorem dX7_close_80 : decode cX7_close 80 = .ok (.iinc 4 1, 3) := by decide +kernel
theorem dX7_close_83 : decode cX7_close 83 = .ok (.goto (-53), 3) := by decide +kernel
theorem dX7_close_86 : decode cX7_close 86 = .ok (.aload_n 0, 1) := by decide +kernel
theorem dX7_close_87 : decode cX7_close 87 = .ok (.getfield 41, 3) := by decide +kernel
theorem dX7_close_90 : decode cX7_close 90 = .ok (.iload_n 1, 1) := by decide +kernel
theorem dX7_close_91 : decode cX7_close 91 = .ok (.aaload, 1) := by decide +kernel
theorem dX7_close_92 : decode cX7_close 92 = .ok (.iconst 1, 1) := by decide +kernel
theorem dX7_close_93 : decode cX7_close 93 = .ok (.putfield 266, 3) := by decide +kernel
theorem dX7_close_96 : decode cX7_close 96 = .ok (.lload_n 2, 1) := by decide +kernel
theorem dX7_close_97 : decode cX7_close 97 = .ok (.lreturn, 1) := by decide +kernel
set_option maxRecDepth 20000 in
theorem ggX7_due_X7_memberOf : GoodIn wsX7_due wsX7_memberOf := goodIn_ca (goodIn_r _ [5, 6, 7, 8, 9, 64, 65, 66, 67, 68, 69, 70, 71, 72, 73, 74, 75, 76, 77] (by decide +kernel) (by decide +kernel)) (goodIn_sub (fun _ h => List.mem_cons_of_mem _ (List.mem_append_left _ (List.mem_append_right _ h))) (by decide +kernel))
set_option maxRecDepth 20000 in
theorem gX7_due_X7_memberOf : GoodIn wsX7_due (wsV RX7 65 RX7 yX7_memberOf wsX7_memberOf) := goodIn_app (goodIn_of _ (by decide +kernel)) ggX7_due_X7_memberOf
set_option maxRecDepth 20000 in
theorem ggX7_due_X7_checkYear : GoodIn wsX7_due wsX7_checkYear := goodIn_ca (goodIn_r _ [12, 13, 14, 4, 15, 16, 17] (by decide +kernel) (by decide +kernel)) (goodIn_sub (fun _ h => List.mem_cons_of_mem _ (List.mem_append_right _ h)) (by decide +kernel))
set_option maxRecDepth 20000 in
theorem gX7_due_X7_checkYear : GoodIn wsX7_due (va_wsS RX7 126 yX7_checkYear wsX7_checkYear) := goodIn_app (goodIn_of _ (by decide +kernel)) ggX7_due_X7_checkYear
set_option maxRecDepth 20000 in
theorem ggX7_due_X7_dueOf : GoodIn wsX7_due wsX7_dueOf := goodIn_r _ [21, 22, 23, 24, 25, 26, 27, 28, 29, 30, 4, 31, 32, 33, 34, 35, 36, 37, 38, 39, 40, 41, 42, 43, 44, 45, 46, 47, 48, 49, 50, 51, 52, 53, 54, 55, 56, 57, 58, 59, 60, 61, 62, 63, 64, 65, 66, 67, 68, 69, 70, 71, 72, 73, 74, 75, 76, 77, 78, 79, 80, 81, 82, 83, 84, 85, 86, 87, 88, 89, 90, 91, 92, 93, 94, 95, 96] (by decide +kernel) (by decide +kernel)
set_option maxRecDepth 20000 in
theorem gX7_due_X7_dueOf : GoodIn wsX7_due (wsV RX7 303 RX7 yX7_dueOf wsX7_dueOf) := goodIn_app (goodIn_of _ (by decide +kernel)) ggX7_due_X7_dueOf
theorem dX7_due_0 : decode cX7_due 0 = .ok (.aload_n 0, 1) := by decide +kernel
theorem dX7_due_1 : decode cX7_due 1 = .ok (.iload_n 1, 1) := by decide +kernel
theorem dX7_due_2 : decode cX7_due 2 = .ok (.invokevirtual 65, 3) := by decide +kernel
theorem dX7_due_5 : decode cX7_due 5 = .ok (.astore_n 3, 1) := by decide +kernel
theorem dX7_due_6 : decode cX7_due 6 = .ok (.iload_n 2, 1) := by decide +kernel
theorem dX7_due_7 : decode cX7_due 7 = .ok (.invokestatic 126, 3) := by decide +kernel
theorem dX7_due_10 : decode cX7_due 10 = .ok (.aload_n 0, 1) := by decide +kernel
theorem dX7_due_11 : decode cX7_due 11 = .ok (.aload_n 3, 1) := by decide +kernel
theorem dX7_due_12 : decode cX7_due 12 = .ok (.iload_n 2, 1) := by decide +kernel
theorem dX7_due_13 : decode cX7_due 13 = .ok (.invokevirtual 303, 3) := by decide +kernel
theorem dX7_due_16 : decode cX7_due 16 = .ok (.lreturn, 1) := by decide +kernel
set_option maxRecDepth 20000 in
theorem ggX7_owes_X7_memberOf : GoodIn wsX7_owes wsX7_memberOf := goodIn_ca (goodIn_r _ [5, 6, 7, 8, 9, 61, 62, 63, 64, 65, 66, 67, 68, 69, 70, 71, 72, 73, 74] (by decide +kernel) (by decide +kernel)) (goodIn_sub (fun _ h => List.mem_cons_of_mem _ (List.mem_append_right _ h)) (by decide +kernel))
set_option maxRecDepth 20000 in
theorem gX7_owes_X7_memberOf : GoodIn wsX7_owes (wsV RX7 65 RX7 yX7_memberOf wsX7_memberOf) := goodIn_app (goodIn_of _ (by decide +kernel)) ggX7_owes_X7_memberOf
set_option maxRecDepth 20000 in
theorem ggX7_owes_X7_owedBy : GoodIn wsX7_owes wsX7_owedBy := goodIn_r _ [13, 14, 15, 16, 17, 4, 18, 19, 20, 21, 22, 23, 24, 25, 26, 27, 28, 29, 30, 31, 32, 33, 34, 35, 36, 37, 38, 39, 40, 41, 42, 43, 44, 45, 46, 47, 48, 49, 50, 51, 52, 53, 54, 55, 56, 57, 58, 59, 60, 75, 76, 77, 78, 79, 61, 62, 63, 64, 65, 66, 67, 68, 69, 70, 71, 72, 73, 74, 80, 81, 82, 83, 84, 85, 86, 87, 88, 89, 90, 91, 92, 93] (by decide +kernel) (by decide +kernel)
set_option maxRecDepth 20000 in
theorem gX7_owes_X7_owedBy : GoodIn wsX7_owes (wsV RX7 280 RX7 yX7_owedBy wsX7_owedBy) := goodIn_app (goodIn_of _ (by decide +kernel)) ggX7_owes_X7_owedBy
theorem dX7_owes_0 : decode cX7_owes 0 = .ok (.aload_n 0, 1) := by decide +kernel
theorem dX7_owes_1 : decode cX7_owes 1 = .ok (.aload_n 0, 1) := by decide +kernel
theorem dX7_owes_2 : decode cX7_owes 2 = .ok (.iload_n 1, 1) := by decide +kernel
theorem dX7_owes_3 : decode cX7_owes 3 = .ok (.invokevirtual 65, 3) := by decide +kernel
theorem dX7_owes_6 : decode cX7_owes 6 = .ok (.invokevirtual 280, 3) := by decide +kernel
theorem dX7_owes_9 : decode cX7_owes 9 = .ok (.lreturn, 1) := by decide +kernel
set_option maxRecDepth 20000 in
theorem ggX7_result_X7_checkYear : GoodIn wsX7_result wsX7_checkYear := goodIn_ca (goodIn_r _ [6, 7, 8, 5, 9, 10, 11] (by decide +kernel) (by decide +kernel)) (goodIn_sub (fun _ h => List.mem_cons_of_mem _ (List.mem_append_right _ h)) (by decide +kernel))
set_option maxRecDepth 20000 in
theorem gX7_result_X7_checkYear : GoodIn wsX7_result (va_wsS RX7 126 yX7_checkYear wsX7_checkYear) := goodIn_app (goodIn_of _ (by decide +kernel)) ggX7_result_X7_checkYear
set_option maxRecDepth 20000 in
theorem ggX7_result_X7_dueOf : GoodIn wsX7_result wsX7_dueOf := goodIn_r _ [15, 16, 17, 18, 19, 20, 21, 22, 23, 24, 5, 25, 26, 27, 28, 29, 30, 31, 32, 33, 34, 35, 36, 37, 38, 39, 40, 41, 42, 43, 44, 45, 46, 47, 48, 49, 50, 51, 52, 53, 54, 55, 56, 57, 150, 151, 152, 153, 154, 155, 156, 157, 158, 159, 160, 161, 162, 163, 164, 165, 166, 167, 168, 169, 170, 171, 172, 173, 174, 175, 176, 177, 178, 179, 180, 181, 182] (by decide +kernel) (by decide +kernel)
set_option maxRecDepth 20000 in
theorem gX7_result_X7_dueOf : GoodIn wsX7_result (wsV RX7 303 RX7 yX7_dueOf wsX7_dueOf) := goodIn_app (goodIn_of _ (by decide +kernel)) ggX7_result_X7_dueOf
set_option maxRecDepth 20000 in
theorem ggX7_result_X7_costIn : GoodIn wsX7_result wsX7_costIn := goodIn_r _ [61, 62, 63, 64, 65, 66, 5, 67, 68, 69, 70, 71, 16, 72, 73, 74, 75, 76, 77, 78, 79, 80, 81, 82, 83, 84, 85, 86, 87, 88, 89, 90, 91, 92, 93, 94, 95, 96, 17, 97, 98, 35, 99, 100, 101, 54, 102, 103, 104, 105, 106, 107, 32, 33, 34, 108, 109, 110, 40, 111, 42, 47, 112, 113, 114, 115, 116, 117, 118, 119, 120, 121, 122, 123, 49, 45, 50, 124, 125, 126, 127, 128, 129, 130, 131, 132, 133, 134, 135, 136, 137, 138, 139, 140, 141, 142, 143, 144, 145, 146, 147, 148, 149, 150, 151, 152, 153, 154, 155, 156, 157, 158, 159, 160, 161, 162, 163, 183, 184, 185, 186, 187, 188, 189, 190, 191, 192, 193, 164, 165, 166, 167, 168, 169, 170, 179, 180, 181, 182, 171, 172, 173, 174, 175, 176, 177, 178, 194, 195] (by decide +kernel) (by decide +kernel)
set_option maxRecDepth 20000 in
theorem gX7_result_X7_costIn : GoodIn wsX7_result (wsV RX7 242 RX7 yX7_costIn wsX7_costIn) := goodIn_app (goodIn_of _ (by decide +kernel)) ggX7_result_X7_costIn
theorem dX7_result_0 : decode cX7_result 0 = .ok (.iload_n 1, 1) := by decide +kernel
theorem dX7_result_1 : decode cX7_result 1 = .ok (.invokestatic 126, 3) := by decide +kernel
theorem dX7_result_4 : decode cX7_result 4 = .ok (.lconst 0, 1) := by decide +kernel
theorem dX7_result_5 : decode cX7_result 5 = .ok (.lstore_n 2, 1) := by decide +kernel
theorem dX7_result_6 : decode cX7_result 6 = .ok (.iconst 0, 1) := by decide +kernel
theorem dX7_result_7 : decode cX7_result 7 = .ok (.istore 4, 2) := by decide +kernel
theorem dX7_result_9 : decode cX7_result 9 = .ok (.iload 4, 2) := by decide +kernel
theorem dX7_result_11 : decode cX7_result 11 = .ok (.aload_n 0, 1) := by decide +kernel
theorem dX7_result_12 : decode cX7_result 12 = .ok (.getfield 53, 3) := by decide +kernel
theorem dX7_result_15 : decode cX7_result 15 = .ok (.if_icmp .ge 24, 3) := by decide +kernel
theorem dX7_result_18 : decode cX7_result 18 = .ok (.lload_n 2, 1) := by decide +kernel
theorem dX7_result_19 : decode cX7_result 19 = .ok (.aload_n 0, 1) := by decide +kernel
theorem dX7_result_20 : decode cX7_result 20 = .ok (.aload_n 0, 1) := by decide +kernel
theorem dX7_result_21 : decode cX7_result 21 = .ok (.getfield 11, 3) := by decide +kernel
theorem dX7_result_24 : decode cX7_result 24 = .ok (.iload 4, 2) := by decide +kernel
theorem dX7_result_26 : decode cX7_result 26 = .ok (.aaload, 1) := by decide +kernel
theorem dX7_result_27 : decode cX7_result 27 = .ok (.iload_n 1, 1) := by decide +kernel
theorem dX7_result_28 : decode cX7_result 28 = .ok (.invokevirtual 303, 3) := by decide +kernel
theorem dX7_result_31 : decode cX7_result 31 = .ok (.ladd, 1) := by decide +kernel
theorem dX7_result_32 : decode cX7_result 32 = .ok (.lstore_n 2, 1) := by decide +kernel
theorem dX7_result_33 : decode cX7_result 33 = .ok (.iinc 4 1, 3) := by decide +kernel
theorem dX7_result_36 : decode cX7_result 36 = .ok (.goto (-27), 3) := by decide +kernel
theorem dX7_result_39 : decode cX7_result 39 = .ok (.lload_n 2, 1) := by decide +kernel
theorem dX7_result_40 : decode cX7_result 40 = .ok (.aload_n 0, 1) := by decide +kernel
theorem dX7_result_41 : decode cX7_result 41 = .ok (.iload_n 1, 1) := by decide +kernel
theorem dX7_result_42 : decode cX7_result 42 = .ok (.invokevirtual 242, 3) := by decide +kernel
theorem dX7_result_45 : decode cX7_result 45 = .ok (.lsub, 1) := by decide +kernel
theorem dX7_result_46 : decode cX7_result 46 = .ok (.lreturn, 1) := by decide +kernel
set_option maxRecDepth 20000 in
theorem ggX7_isClosed_X7_checkYear : GoodIn wsX7_isClosed wsX7_checkYear := goodIn_ca (goodIn_r _ [6, 7, 8, 5, 9, 10, 11] (by decide +kernel) (by decide +kernel)) (goodIn_sub (fun _ h => List.mem_cons_of_mem _ (List.mem_append_right _ h)) (by decide +kernel))
set_option maxRecDepth 20000 in
theorem gX7_isClosed_X7_checkYear : GoodIn wsX7_isClosed (va_wsS RX7 126 yX7_checkYear wsX7_checkYear) := goodIn_app (goodIn_of _ (by decide +kernel)) ggX7_isClosed_X7_checkYear
theorem dX7_isClosed_0 : decode cX7_isClosed 0 = .ok (.iload_n 1, 1) := by decide +kernel
theorem dX7_isClosed_1 : decode cX7_isClosed 1 = .ok (.invokestatic 126, 3) := by decide +kernel
theorem dX7_isClosed_4 : decode cX7_isClosed 4 = .ok (.aload_n 0, 1) := by decide +kernel
theorem dX7_isClosed_5 : decode cX7_isClosed 5 = .ok (.getfield 41, 3) := by decide +kernel
theorem dX7_isClosed_8 : decode cX7_isClosed 8 = .ok (.iload_n 1, 1) := by decide +kernel
theorem dX7_isClosed_9 : decode cX7_isClosed 9 = .ok (.aaload, 1) := by decide +kernel
theorem dX7_isClosed_10 : decode cX7_isClosed 10 = .ok (.getfield 266, 3) := by decide +kernel
theorem dX7_isClosed_13 : decode cX7_isClosed 13 = .ok (.ireturn, 1) := by decide +kernel
theorem dX7_reserve_0 : decode cX7_reserve 0 = .ok (.aload_n 0, 1) := by decide +kernel
theorem dX7_reserve_1 : decode cX7_reserve 1 = .ok (.getfield 306, 3) := by decide +kernel
theorem dX7_reserve_4 : decode cX7_reserve 4 = .ok (.lreturn, 1) := by decide +kernel
set_option maxRecDepth 20000 in
theorem ggX7_letter_X7_claimOf : GoodIn wsX7_letter wsX7_claimOf := goodIn_ca (goodIn_r _ [10, 11, 12, 13, 14, 32, 33, 34, 35, 36, 37, 38, 39, 40, 41, 42, 43, 44, 45] (by decide +kernel) (by decide +kernel)) (goodIn_sub (fun _ h => List.mem_cons_of_mem _ (List.mem_append_left _ (List.mem_append_right _ h))) (by decide +kernel))
set_option maxRecDepth 20000 in
theorem gX7_letter_X7_claimOf : GoodIn wsX7_letter (wsV RX7 194 RX7 yX7_claimOf wsX7_claimOf) := goodIn_app (goodIn_of _ (by decide +kernel)) ggX7_letter_X7_claimOf
set_option maxRecDepth 20000 in
theorem ggX7_letter_X7_checkRange : GoodIn wsX7_letter wsX7_checkRange := goodIn_ca (goodIn_r _ [17, 18, 19] (by decide +kernel) (by decide +kernel)) (goodIn_sub (fun _ h => List.mem_cons_of_mem _ (List.mem_append_right _ h)) (by decide +kernel))
set_option maxRecDepth 20000 in
theorem gX7_letter_X7_checkRange : GoodIn wsX7_letter (va_wsS RX7 69 yX7_checkRange wsX7_checkRange) := goodIn_app (goodIn_of _ (by decide +kernel)) ggX7_letter_X7_checkRange
set_option maxRecDepth 20000 in
theorem ggX7_letter_X7_checkUnsettled : GoodIn wsX7_letter wsX7_checkUnsettled := goodIn_ca (goodIn_r _ [22, 1, 2, 23, 24, 25, 26, 27, 28, 29, 30, 31] (by decide +kernel) (by decide +kernel)) (goodIn_sub (fun _ h => List.mem_cons_of_mem _ (List.mem_append_left _ (List.mem_append_left _ (List.mem_append_right _ h)))) (by decide +kernel))
set_option maxRecDepth 20000 in
theorem gX7_letter_X7_checkUnsettled : GoodIn wsX7_letter (va_wsS RX7 198 yX7_checkUnsettled wsX7_checkUnsettled) := goodIn_app (goodIn_of _ (by decide +kernel)) ggX7_letter_X7_checkUnsettled
theorem dX7_letter_0 : decode cX7_letter 0 = .ok (.aload_n 0, 1) := by decide +kernel
theorem dX7_letter_1 : decode cX7_letter 1 = .ok (.iload_n 1, 1) := by decide +kernel
theorem dX7_letter_2 : decode cX7_letter 2 = .ok (.invokevirtual 194, 3) := by decide +kernel
theorem dX7_letter_5 : decode cX7_letter 5 = .ok (.astore_n 3, 1) := by decide +kernel
theorem dX7_letter_6 : decode cX7_letter 6 = .ok (.iload_n 2, 1) := by decide +kernel
theorem dX7_letter_7 : decode cX7_letter 7 = .ok (.iconst 1, 1) := by decide +kernel
theorem dX7_letter_8 : decode cX7_letter 8 = .ok (.ldc 159, 2) := by decide +kernel
theorem dX7_letter_10 : decode cX7_letter 10 = .ok (.invokestatic 69, 3) := by decide +kernel
theorem dX7_letter_13 : decode cX7_letter 13 = .ok (.aload_n 3, 1) := by decide +kernel
theorem dX7_letter_14 : decode cX7_letter 14 = .ok (.invokestatic 198, 3) := by decide +kernel
theorem dX7_letter_17 : decode cX7_letter 17 = .ok (.aload_n 3, 1) := by decide +kernel
theorem dX7_letter_18 : decode cX7_letter 18 = .ok (.getfield 225, 3) := by decide +kernel
theorem dX7_letter_21 : decode cX7_letter 21 = .ok (.iload_n 2, 1) := by decide +kernel
theorem dX7_letter_22 : decode cX7_letter 22 = .ok (.iadd, 1) := by decide +kernel
theorem dX7_letter_23 : decode cX7_letter 23 = .ok (.istore 4, 2) := by decide +kernel
theorem dX7_letter_25 : decode cX7_letter 25 = .ok (.iload 4, 2) := by decide +kernel
theorem dX7_letter_27 : decode cX7_letter 27 = .ok (.aload_n 3, 1) := by decide +kernel
theorem dX7_letter_28 : decode cX7_letter 28 = .ok (.getfield 202, 3) := by decide +kernel
theorem dX7_letter_31 : decode cX7_letter 31 = .ok (.if_icmp .le 14, 3) := by decide +kernel
theorem dX7_letter_34 : decode cX7_letter 34 = .ok (.new 57, 3) := by decide +kernel
theorem dX7_letter_37 : decode cX7_letter 37 = .ok (.dup, 1) := by decide +kernel
theorem dX7_letter_38 : decode cX7_letter 38 = .ok (.ldc_w 309, 3) := by decide +kernel
theorem dX7_letter_41 : decode cX7_letter 41 = .ok (.invokespecial 61, 3) := by decide +kernel
theorem dX7_letter_44 : decode cX7_letter 44 = .ok (.athrow, 1) := by decide +kernel
theorem dX7_letter_45 : decode cX7_letter 45 = .ok (.aload_n 3, 1) := by decide +kernel
theorem dX7_letter_46 : decode cX7_letter 46 = .ok (.iload 4, 2) := by decide +kernel
theorem dX7_letter_48 : decode cX7_letter 48 = .ok (.putfield 225, 3) := by decide +kernel
theorem dX7_letter_51 : decode cX7_letter 51 = .ok (.iload 4, 2) := by decide +kernel
theorem dX7_letter_53 : decode cX7_letter 53 = .ok (.ireturn, 1) := by decide +kernel
set_option maxRecDepth 20000 in
theorem ggX7_arrest_X7_shipOf : GoodIn wsX7_arrest wsX7_shipOf := goodIn_ca (goodIn_r _ [10, 11, 12, 13, 14, 45, 46, 47, 48, 49, 50, 51, 52, 53, 54, 55, 56, 57, 58] (by decide +kernel) (by decide +kernel)) (goodIn_sub (fun _ h => List.mem_cons_of_mem _ (List.mem_append_right _ h)) (by decide +kernel))
set_option maxRecDepth 20000 in
theorem gX7_arrest_X7_shipOf : GoodIn wsX7_arrest (wsV RX7 81 RX7 yX7_shipOf wsX7_shipOf) := goodIn_app (goodIn_of _ (by decide +kernel)) ggX7_arrest_X7_shipOf
set_option maxRecDepth 20000 in
theorem ggX7_arrest_X7_claimOf : GoodIn wsX7_arrest wsX7_claimOf := goodIn_ca (goodIn_r _ [18, 11, 12, 19, 20, 45, 46, 47, 48, 49, 50, 51, 52, 53, 54, 55, 56, 57, 58] (by decide +kernel) (by decide +kernel)) (goodIn_sub (fun _ h => List.mem_cons_of_mem _ (List.mem_append_right _ h)) (by decide +kernel))
set_option maxRecDepth 20000 in
theorem gX7_arrest_X7_claimOf : GoodIn wsX7_arrest (wsV RX7 194 RX7 yX7_claimOf wsX7_claimOf) := goodIn_app (goodIn_of _ (by decide +kernel)) ggX7_arrest_X7_claimOf
set_option maxRecDepth 20000 in
theorem ggX7_arrest_X0_holdsShips : GoodIn wsX7_arrest wsX0_holdsShips := goodIn_r _ [25, 26, 27, 28, 37, 38, 39, 40, 41, 42, 43, 44] (by decide +kernel) (by decide +kernel)
set_option maxRecDepth 20000 in
theorem gX7_arrest_X0_holdsShips : GoodIn wsX7_arrest (wsV RX7 317 RX0 yX0_holdsShips wsX0_holdsShips) := goodIn_app (goodIn_of _ (by decide +kernel)) ggX7_arrest_X0_holdsShips
set_option maxRecDepth 20000 in
theorem ggX7_arrest_X7_isHeld : GoodIn wsX7_arrest wsX7_isHeld := goodIn_r _ [32, 19, 5, 20, 21, 22, 23, 24, 25, 26, 27, 28, 45, 46, 47, 48, 49, 50, 51, 52, 53, 54, 55, 56, 57, 58, 33, 34, 35, 36, 37, 38, 39, 40, 41, 42, 43, 44] (by decide +kernel) (by decide +kernel)
set_option maxRecDepth 20000 in
theorem gX7_arrest_X7_isHeld : GoodIn wsX7_arrest (wsV RX7 323 RX7 yX7_isHeld wsX7_isHeld) := goodIn_app (goodIn_of _ (by decide +kernel)) ggX7_arrest_X7_isHeld
theorem dX7_arrest_0 : decode cX7_arrest 0 = .ok (.aload_n 0, 1) := by decide +kernel
theorem dX7_arrest_1 : decode cX7_arrest 1 = .ok (.iload_n 1, 1) := by decide +kernel
theorem dX7_arrest_2 : decode cX7_arrest 2 = .ok (.invokevirtual 81, 3) := by decide +kernel
theorem dX7_arrest_5 : decode cX7_arrest 5 = .ok (.astore_n 3, 1) := by decide +kernel
theorem dX7_arrest_6 : decode cX7_arrest 6 = .ok (.aload_n 0, 1) := by decide +kernel
theorem dX7_arrest_7 : decode cX7_arrest 7 = .ok (.iload_n 2, 1) := by decide +kernel
theorem dX7_arrest_8 : decode cX7_arrest 8 = .ok (.invokevirtual 194, 3) := by decide +kernel
theorem dX7_arrest_11 : decode cX7_arrest 11 = .ok (.astore 4, 2) := by decide +kernel
theorem dX7_arrest_13 : decode cX7_arrest 13 = .ok (.aload_n 3, 1) := by decide +kernel
theorem dX7_arrest_14 : decode cX7_arrest 14 = .ok (.getfield 91, 3) := by decide +kernel
theorem dX7_arrest_17 : decode cX7_arrest 17 = .ok (.aload 4, 2) := by decide +kernel
theorem dX7_arrest_19 : decode cX7_arrest 19 = .ok (.getfield 311, 3) := by decide +kernel
theorem dX7_arrest_22 : decode cX7_arrest 22 = .ok (.getfield 91, 3) := by decide +kernel
theorem dX7_arrest_25 : decode cX7_arrest 25 = .ok (.if_acmp .eq 14, 3) := by decide +kernel
theorem dX7_arrest_28 : decode cX7_arrest 28 = .ok (.new 57, 3) := by decide +kernel
theorem dX7_arrest_31 : decode cX7_arrest 31 = .ok (.dup, 1) := by decide +kernel
theorem dX7_arrest_32 : decode cX7_arrest 32 = .ok (.ldc_w 315, 3) := by decide +kernel
theorem dX7_arrest_35 : decode cX7_arrest 35 = .ok (.invokespecial 61, 3) := by decide +kernel
theorem dX7_arrest_38 : decode cX7_arrest 38 = .ok (.athrow, 1) := by decide +kernel
theorem dX7_arrest_39 : decode cX7_arrest 39 = .ok (.aload 4, 2) := by decide +kernel
theorem dX7_arrest_41 : decode cX7_arrest 41 = .ok (.invokevirtual 317, 3) := by decide +kernel
theorem dX7_arrest_44 : decode cX7_arrest 44 = .ok (.ifCond .ne 14, 3) := by decide +kernel
theorem dX7_arrest_47 : decode cX7_arrest 47 = .ok (.new 57, 3) := by decide +kernel
theorem dX7_arrest_50 : decode cX7_arrest 50 = .ok (.dup, 1) := by decide +kernel
theorem dX7_arrest_51 : decode cX7_arrest 51 = .ok (.ldc_w 321, 3) := by decide +kernel
theorem dX7_arrest_54 : decode cX7_arrest 54 = .ok (.invokespecial 61, 3) := by decide +kernel
theorem dX7_arrest_57 : decode cX7_arrest 57 = .ok (.athrow, 1) := by decide +kernel
theorem dX7_arrest_58 : decode cX7_arrest 58 = .ok (.aload_n 0, 1) := by decide +kernel
theorem dX7_arrest_59 : decode cX7_arrest 59 = .ok (.aload_n 3, 1) := by decide +kernel
theorem dX7_arrest_60 : decode cX7_arrest 60 = .ok (.invokevirtual 323, 3) := by decide +kernel
theorem dX7_arrest_63 : decode cX7_arrest 63 = .ok (.ifCond .ne 7, 3) := by decide +kernel
theorem dX7_arrest_66 : decode cX7_arrest 66 = .ok (.iconst 1, 1) := by decide +kernel
theorem dX7_arrest_67 : decode cX7_arrest 67 = .ok (.goto 4, 3) := by decide +kernel
theorem dX7_arrest_70 : decode cX7_arrest 70 = .ok (.iconst 0, 1) := by decide +kernel
theorem dX7_arrest_71 : decode cX7_arrest 71 = .ok (.istore 5, 2) := by decide +kernel
theorem dX7_arrest_73 : decode cX7_arrest 73 = .ok (.aload_n 3, 1) := by decide +kernel
theorem dX7_arrest_74 : decode cX7_arrest 74 = .ok (.dup, 1) := by decide +kernel
theorem dX7_arrest_75 : decode cX7_arrest 75 = .ok (.getfield 327, 3) := by decide +kernel
theorem dX7_arrest_78 : decode cX7_arrest 78 = .ok (.lconst 1, 1) := by decide +kernel
theorem dX7_arrest_79 : decode cX7_arrest 79 = .ok (.iload_n 2, 1) := by decide +kernel
theorem dX7_arrest_80 : decode cX7_arrest 80 = .ok (.lshl, 1) := by decide +kernel
theorem dX7_arrest_81 : decode cX7_arrest 81 = .ok (.lor, 1) := by decide +kernel
theorem dX7_arrest_82 : decode cX7_arrest 82 = .ok (.putfield 327, 3) := by decide +kernel
theorem dX7_arrest_85 : decode cX7_arrest 85 = .ok (.iload 5, 2) := by decide +kernel
theorem dX7_arrest_87 : decode cX7_arrest 87 = .ok (.ireturn, 1) := by decide +kernel
set_option maxRecDepth 20000 in
theorem ggX7_isArrested_X7_shipOf : GoodIn wsX7_isArrested wsX7_shipOf := goodIn_ca (goodIn_r _ [5, 6, 7, 8, 9, 25, 26, 27, 28, 29, 30, 31, 32, 33, 34, 35, 36, 37, 38] (by decide +kernel) (by decide +kernel)) (goodIn_sub (fun _ h => List.mem_cons_of_mem _ (List.mem_append_right _ h)) (by decide +kernel))
set_option maxRecDepth 20000 in
theorem gX7_isArrested_X7_shipOf : GoodIn wsX7_isArrested (wsV RX7 81 RX7 yX7_shipOf wsX7_shipOf) := goodIn_app (goodIn_of _ (by decide +kernel)) ggX7_isArrested_X7_shipOf
set_option maxRecDepth 20000 in
theorem ggX7_isArrested_X7_isHeld : GoodIn wsX7_isArrested wsX7_isHeld := goodIn_r _ [13, 14, 15, 16, 17, 18, 19, 20, 21, 22, 23, 24, 25, 26, 27, 28, 29, 30, 31, 32, 33, 34, 35, 36, 37, 38, 39, 40, 41, 42, 43, 44, 45, 46, 47, 48, 49, 50] (by decide +kernel) (by decide +kernel)
set_option maxRecDepth 20000 in
theorem gX7_isArrested_X7_isHeld : GoodIn wsX7_isArrested (wsV RX7 323 RX7 yX7_isHeld wsX7_isHeld) := goodIn_app (goodIn_of _ (by decide +kernel)) ggX7_isArrested_X7_isHeld
theorem dX7_isArrested_0 : decode cX7_isArrested 0 = .ok (.aload_n 0, 1) := by decide +kernel
theorem dX7_isArrested_1 : decode cX7_isArrested 1 = .ok (.aload_n 0, 1) := by decide +kernel
theorem dX7_isArrested_2 : decode cX7_isArrested 2 = .ok (.iload_n 1, 1) := by decide +kernel
theorem dX7_isArrested_3 : decode cX7_isArrested 3 = .ok (.invokevirtual 81, 3) := by decide +kernel
theorem dX7_isArrested_6 : decode cX7_isArrested 6 = .ok (.invokevirtual 323, 3) := by decide +kernel
theorem dX7_isArrested_9 : decode cX7_isArrested 9 = .ok (.ireturn, 1) := by decide +kernel
theorem dX7_memberOf_0 : decode cX7_memberOf 0 = .ok (.iload_n 1, 1) := by decide +kernel
theorem dX7_memberOf_1 : decode cX7_memberOf 1 = .ok (.ifCond .lt 11, 3) := by decide +kernel
theorem dX7_memberOf_4 : decode cX7_memberOf 4 = .ok (.iload_n 1, 1) := by decide +kernel
theorem dX7_memberOf_5 : decode cX7_memberOf 5 = .ok (.aload_n 0, 1) := by decide +kernel
theorem dX7_memberOf_6 : decode cX7_memberOf 6 = .ok (.getfield 53, 3) := by decide +kernel
theorem dX7_memberOf_9 : decode cX7_memberOf 9 = .ok (.if_icmp .lt 14, 3) := by decide +kernel
theorem dX7_memberOf_12 : decode cX7_memberOf 12 = .ok (.new 330, 3) := by decide +kernel
theorem dX7_memberOf_15 : decode cX7_memberOf 15 = .ok (.dup, 1) := by decide +kernel
theorem dX7_memberOf_16 : decode cX7_memberOf 16 = .ok (.ldc_w 332, 3) := by decide +kernel
theorem dX7_memberOf_19 : decode cX7_memberOf 19 = .ok (.invokespecial 334, 3) := by decide +kernel
theorem dX7_memberOf_22 : decode cX7_memberOf 22 = .ok (.athrow, 1) := by decide +kernel
theorem dX7_memberOf_23 : decode cX7_memberOf 23 = .ok (.aload_n 0, 1) := by decide +kernel
theorem dX7_memberOf_24 : decode cX7_memberOf 24 = .ok (.getfield 11, 3) := by decide +kernel
theorem dX7_memberOf_27 : decode cX7_memberOf 27 = .ok (.iload_n 1, 1) := by decide +kernel
theorem dX7_memberOf_28 : decode cX7_memberOf 28 = .ok (.aaload, 1) := by decide +kernel
theorem dX7_memberOf_29 : decode cX7_memberOf 29 = .ok (.areturn, 1) := by decide +kernel
theorem dX7_shipOf_0 : decode cX7_shipOf 0 = .ok (.iload_n 1, 1) := by decide +kernel
theorem dX7_shipOf_1 : decode cX7_shipOf 1 = .ok (.ifCond .lt 11, 3) := by decide +kernel
theorem dX7_shipOf_4 : decode cX7_shipOf 4 = .ok (.iload_n 1, 1) := by decide +kernel
theorem dX7_shipOf_5 : decode cX7_shipOf 5 = .ok (.aload_n 0, 1) := by decide +kernel
theorem dX7_shipOf_6 : decode cX7_shipOf 6 = .ok (.getfield 73, 3) := by decide +kernel
theorem dX7_shipOf_9 : decode cX7_shipOf 9 = .ok (.if_icmp .lt 14, 3) := by decide +kernel
theorem dX7_shipOf_12 : decode cX7_shipOf 12 = .ok (.new 330, 3) := by decide +kernel
theorem dX7_shipOf_15 : decode cX7_shipOf 15 = .ok (.dup, 1) := by decide +kernel
theorem dX7_shipOf_16 : decode cX7_shipOf 16 = .ok (.ldc_w 335, 3) := by decide +kernel
theorem dX7_shipOf_19 : decode cX7_shipOf 19 = .ok (.invokespecial 334, 3) := by decide +kernel
theorem dX7_shipOf_22 : decode cX7_shipOf 22 = .ok (.athrow, 1) := by decide +kernel
theorem dX7_shipOf_23 : decode cX7_shipOf 23 = .ok (.aload_n 0, 1) := by decide +kernel
theorem dX7_shipOf_24 : decode cX7_shipOf 24 = .ok (.getfield 17, 3) := by decide +kernel
theorem dX7_shipOf_27 : decode cX7_shipOf 27 = .ok (.iload_n 1, 1) := by decide +kernel
theorem dX7_shipOf_28 : decode cX7_shipOf 28 = .ok (.aaload, 1) := by decide +kernel
theorem dX7_shipOf_29 : decode cX7_shipOf 29 = .ok (.areturn, 1) := by decide +kernel
theorem dX7_claimOf_0 : decode cX7_claimOf 0 = .ok (.iload_n 1, 1) := by decide +kernel
theorem dX7_claimOf_1 : decode cX7_claimOf 1 = .ok (.ifCond .lt 11, 3) := by decide +kernel
theorem dX7_claimOf_4 : decode cX7_claimOf 4 = .ok (.iload_n 1, 1) := by decide +kernel
theorem dX7_claimOf_5 : decode cX7_claimOf 5 = .ok (.aload_n 0, 1) := by decide +kernel
theorem dX7_claimOf_6 : decode cX7_claimOf 6 = .ok (.getfield 299, 3) := by decide +kernel
theorem dX7_claimOf_9 : decode cX7_claimOf 9 = .ok (.if_icmp .lt 14, 3) := by decide +kernel
theorem dX7_claimOf_12 : decode cX7_claimOf 12 = .ok (.new 330, 3) := by decide +kernel
theorem dX7_claimOf_15 : decode cX7_claimOf 15 = .ok (.dup, 1) := by decide +kernel
theorem dX7_claimOf_16 : decode cX7_claimOf 16 = .ok (.ldc_w 337, 3) := by decide +kernel
theorem dX7_claimOf_19 : decode cX7_claimOf 19 = .ok (.invokespecial 334, 3) := by decide +kernel
theorem dX7_claimOf_22 : decode cX7_claimOf 22 = .ok (.athrow, 1) := by decide +kernel
theorem dX7_claimOf_23 : decode cX7_claimOf 23 = .ok (.aload_n 0, 1) := by decide +kernel
theorem dX7_claimOf_24 : decode cX7_claimOf 24 = .ok (.getfield 29, 3) := by decide +kernel
theorem dX7_claimOf_27 : decode cX7_claimOf 27 = .ok (.iload_n 1, 1) := by decide +kernel
theorem dX7_claimOf_28 : decode cX7_claimOf 28 = .ok (.aaload, 1) := by decide +kernel
theorem dX7_claimOf_29 : decode cX7_claimOf 29 = .ok (.areturn, 1) := by decide +kernel
theorem dX7_eventOf_0 : decode cX7_eventOf 0 = .ok (.iload_n 1, 1) := by decide +kernel
theorem dX7_eventOf_1 : decode cX7_eventOf 1 = .ok (.ifCond .lt 11, 3) := by decide +kernel
theorem dX7_eventOf_4 : decode cX7_eventOf 4 = .ok (.iload_n 1, 1) := by decide +kernel
theorem dX7_eventOf_5 : decode cX7_eventOf 5 = .ok (.aload_n 0, 1) := by decide +kernel
theorem dX7_eventOf_6 : decode cX7_eventOf 6 = .ok (.getfield 339, 3) := by decide +kernel
theorem dX7_eventOf_9 : decode cX7_eventOf 9 = .ok (.if_icmp .lt 14, 3) := by decide +kernel
theorem dX7_eventOf_12 : decode cX7_eventOf 12 = .ok (.new 330, 3) := by decide +kernel
theorem dX7_eventOf_15 : decode cX7_eventOf 15 = .ok (.dup, 1) := by decide +kernel
theorem dX7_eventOf_16 : decode cX7_eventOf 16 = .ok (.ldc_w 342, 3) := by decide +kernel
theorem dX7_eventOf_19 : decode cX7_eventOf 19 = .ok (.invokespecial 334, 3) := by decide +kernel
theorem dX7_eventOf_22 : decode cX7_eventOf 22 = .ok (.athrow, 1) := by decide +kernel
theorem dX7_eventOf_23 : decode cX7_eventOf 23 = .ok (.aload_n 0, 1) := by decide +kernel
theorem dX7_eventOf_24 : decode cX7_eventOf 24 = .ok (.getfield 35, 3) := by decide +kernel
theorem dX7_eventOf_27 : decode cX7_eventOf 27 = .ok (.iload_n 1, 1) := by decide +kernel
theorem dX7_eventOf_28 : decode cX7_eventOf 28 = .ok (.aaload, 1) := by decide +kernel
theorem dX7_eventOf_29 : decode cX7_eventOf 29 = .ok (.areturn, 1) := by decide +kernel
theorem dX7_checkRange_0 : decode cX7_checkRange 0 = .ok (.iload_n 0, 1) := by decide +kernel
theorem dX7_checkRange_1 : decode cX7_checkRange 1 = .ok (.iload_n 1, 1) := by decide +kernel
theorem dX7_checkRange_2 : decode cX7_checkRange 2 = .ok (.if_icmp .lt 8, 3) := by decide +kernel
theorem dX7_checkRange_5 : decode cX7_checkRange 5 = .ok (.iload_n 0, 1) := by decide +kernel
theorem dX7_checkRange_6 : decode cX7_checkRange 6 = .ok (.iload_n 2, 1) := by decide +kernel
theorem dX7_checkRange_7 : decode cX7_checkRange 7 = .ok (.if_icmp .le 14, 3) := by decide +kernel
theorem dX7_checkRange_10 : decode cX7_checkRange 10 = .ok (.new 173, 3) := by decide +kernel
theorem dX7_checkRange_13 : decode cX7_checkRange 13 = .ok (.dup, 1) := by decide +kernel
theorem dX7_checkRange_14 : decode cX7_checkRange 14 = .ok (.ldc_w 344, 3) := by decide +kernel
theorem dX7_checkRange_17 : decode cX7_checkRange 17 = .ok (.invokespecial 177, 3) := by decide +kernel
theorem dX7_checkRange_20 : decode cX7_checkRange 20 = .ok (.athrow, 1) := by decide +kernel
theorem dX7_checkRange_21 : decode cX7_checkRange 21 = .ok (.return_, 1) := by decide +kernel
set_option maxRecDepth 20000 in
theorem ggX7_checkYear_X7_checkRange : GoodIn wsX7_checkYear wsX7_checkRange := goodIn_ca (goodIn_r _ [4, 5, 6] (by decide +kernel) (by decide +kernel)) (goodIn_sub (fun _ h => List.mem_cons_of_mem _ (List.mem_append_right _ h)) (by decide +kernel))
set_option maxRecDepth 20000 in
theorem gX7_checkYear_X7_checkRange : GoodIn wsX7_checkYear (va_wsS RX7 69 yX7_checkRange wsX7_checkRange) := goodIn_app (goodIn_of _ (by decide +kernel)) ggX7_checkYear_X7_checkRange
theorem dX7_checkYear_0 : decode cX7_checkYear 0 = .ok (.iload_n 0, 1) := by decide +kernel
theorem dX7_checkYear_1 : decode cX7_checkYear 1 = .ok (.iconst 0, 1) := by decide +kernel
theorem dX7_checkYear_2 : decode cX7_checkYear 2 = .ok (.bipush 19, 2) := by decide +kernel
theorem dX7_checkYear_4 : decode cX7_checkYear 4 = .ok (.invokestatic 69, 3) := by decide +kernel
theorem dX7_checkYear_7 : decode cX7_checkYear 7 = .ok (.return_, 1) := by decide +kernel
set_option maxRecDepth 20000 in
theorem ggX7_checkKind_X7_checkRange : GoodIn wsX7_checkKind wsX7_checkRange := goodIn_ca (goodIn_r _ [4, 5, 6] (by decide +kernel) (by decide +kernel)) (goodIn_sub (fun _ h => List.mem_cons_of_mem _ (List.mem_append_right _ h)) (by decide +kernel))
set_option maxRecDepth 20000 in
theorem gX7_checkKind_X7_checkRange : GoodIn wsX7_checkKind (va_wsS RX7 69 yX7_checkRange wsX7_checkRange) := goodIn_app (goodIn_of _ (by decide +kernel)) ggX7_checkKind_X7_checkRange
theorem dX7_checkKind_0 : decode cX7_checkKind 0 = .ok (.iload_n 0, 1) := by decide +kernel
theorem dX7_checkKind_1 : decode cX7_checkKind 1 = .ok (.iconst 0, 1) := by decide +kernel
theorem dX7_checkKind_2 : decode cX7_checkKind 2 = .ok (.iconst 3, 1) := by decide +kernel
theorem dX7_checkKind_3 : decode cX7_checkKind 3 = .ok (.invokestatic 69, 3) := by decide +kernel
theorem dX7_checkKind_6 : decode cX7_checkKind 6 = .ok (.return_, 1) := by decide +kernel
set_option maxRecDepth 20000 in
theorem ggX7_checkLoss_X7_checkRange : GoodIn wsX7_checkLoss wsX7_checkRange := goodIn_ca (goodIn_r _ [5, 6, 7] (by decide +kernel) (by decide +kernel)) (goodIn_sub (fun _ h => List.mem_cons_of_mem _ (List.mem_append_right _ h)) (by decide +kernel))
set_option maxRecDepth 20000 in
theorem gX7_checkLoss_X7_checkRange : GoodIn wsX7_checkLoss (va_wsS RX7 69 yX7_checkRange wsX7_checkRange) := goodIn_app (goodIn_of _ (by decide +kernel)) ggX7_checkLoss_X7_checkRange
theorem dX7_checkLoss_0 : decode cX7_checkLoss 0 = .ok (.iload_n 0, 1) := by decide +kernel
theorem dX7_checkLoss_1 : decode cX7_checkLoss 1 = .ok (.iconst 0, 1) := by decide +kernel
theorem dX7_checkLoss_2 : decode cX7_checkLoss 2 = .ok (.ldc 159, 2) := by decide +kernel
theorem dX7_checkLoss_4 : decode cX7_checkLoss 4 = .ok (.invokestatic 69, 3) := by decide +kernel
theorem dX7_checkLoss_7 : decode cX7_checkLoss 7 = .ok (.return_, 1) := by decide +kernel
theorem dX7_checkOpen_0 : decode cX7_checkOpen 0 = .ok (.aload_n 0, 1) := by decide +kernel
theorem dX7_checkOpen_1 : decode cX7_checkOpen 1 = .ok (.getfield 41, 3) := by decide +kernel
theorem dX7_checkOpen_4 : decode cX7_checkOpen 4 = .ok (.iload_n 1, 1) := by decide +kernel
theorem dX7_checkOpen_5 : decode cX7_checkOpen 5 = .ok (.aaload, 1) := by decide +kernel
theorem dX7_checkOpen_6 : decode cX7_checkOpen 6 = .ok (.getfield 266, 3) := by decide +kernel
theorem dX7_checkOpen_9 : decode cX7_checkOpen 9 = .ok (.ifCond .eq 14, 3) := by decide +kernel
theorem dX7_checkOpen_12 : decode cX7_checkOpen 12 = .ok (.new 57, 3) := by decide +kernel
theorem dX7_checkOpen_15 : decode cX7_checkOpen 15 = .ok (.dup, 1) := by decide +kernel
theorem dX7_checkOpen_16 : decode cX7_checkOpen 16 = .ok (.ldc_w 346, 3) := by decide +kernel
theorem dX7_checkOpen_19 : decode cX7_checkOpen 19 = .ok (.invokespecial 61, 3) := by decide +kernel
theorem dX7_checkOpen_22 : decode cX7_checkOpen 22 = .ok (.athrow, 1) := by decide +kernel
theorem dX7_checkOpen_23 : decode cX7_checkOpen 23 = .ok (.return_, 1) := by decide +kernel
theorem dX7_checkUnsettled_0 : decode cX7_checkUnsettled 0 = .ok (.aload_n 0, 1) := by decide +kernel
theorem dX7_checkUnsettled_1 : decode cX7_checkUnsettled 1 = .ok (.getfield 205, 3) := by decide +kernel
theorem dX7_checkUnsettled_4 : decode cX7_checkUnsettled 4 = .ok (.ifCond .eq 14, 3) := by decide +kernel
theorem dX7_checkUnsettled_7 : decode cX7_checkUnsettled 7 = .ok (.new 57, 3) := by decide +kernel
theorem dX7_checkUnsettled_10 : decode cX7_checkUnsettled 10 = .ok (.dup, 1) := by decide +kernel
theorem dX7_checkUnsettled_11 : decode cX7_checkUnsettled 11 = .ok (.ldc_w 348, 3) := by decide +kernel
theorem dX7_checkUnsettled_14 : decode cX7_checkUnsettled 14 = .ok (.invokespecial 61, 3) := by decide +kernel
theorem dX7_checkUnsettled_17 : decode cX7_checkUnsettled 17 = .ok (.athrow, 1) := by decide +kernel
theorem dX7_checkUnsettled_18 : decode cX7_checkUnsettled 18 = .ok (.return_, 1) := by decide +kernel
theorem dX7_checkRoomForClaims_0 : decode cX7_checkRoomForClaims 0 = .ok (.aload_n 0, 1) := by decide +kernel
theorem dX7_checkRoomForClaims_1 : decode cX7_checkRoomForClaims 1 = .ok (.getfield 299, 3) := by decide +kernel
theorem dX7_checkRoomForClaims_4 : decode cX7_checkRoomForClaims 4 = .ok (.iload_n 1, 1) := by decide +kernel
theorem dX7_checkRoomForClaims_5 : decode cX7_checkRoomForClaims 5 = .ok (.iadd, 1) := by decide +kernel
theorem dX7_checkRoomForClaims_6 : decode cX7_checkRoomForClaims 6 = .ok (.bipush 60, 2) := by decide +kernel
theorem dX7_checkRoomForClaims_8 : decode cX7_checkRoomForClaims 8 = .ok (.if_icmp .le 14, 3) := by decide +kernel
theorem dX7_checkRoomForClaims_11 : decode cX7_checkRoomForClaims 11 = .ok (.new 57, 3) := by decide +kernel
theorem dX7_checkRoomForClaims_14 : decode cX7_checkRoomForClaims 14 = .ok (.dup, 1) := by decide +kernel
theorem dX7_checkRoomForClaims_15 : decode cX7_checkRoomForClaims 15 = .ok (.ldc_w 350, 3) := by decide +kernel
theorem dX7_checkRoomForClaims_18 : decode cX7_checkRoomForClaims 18 = .ok (.invokespecial 61, 3) := by decide +kernel
theorem dX7_checkRoomForClaims_21 : decode cX7_checkRoomForClaims 21 = .ok (.athrow, 1) := by decide +kernel
theorem dX7_checkRoomForClaims_22 : decode cX7_checkRoomForClaims 22 = .ok (.return_, 1) := by decide +kernel
set_option maxRecDepth 20000 in
theorem ggX7_checkClosable_X7_checkOpen : GoodIn wsX7_checkClosable wsX7_checkOpen := goodIn_ca (goodIn_r _ [15, 1, 2, 4, 5, 19, 20, 21, 22, 23, 24, 25, 26, 27, 28, 29, 30, 31, 32, 33, 34, 35, 36, 37, 38, 39] (by decide +kernel) (by decide +kernel)) (goodIn_sub (fun _ h => List.mem_cons_of_mem _ (List.mem_append_right _ h)) (by decide +kernel))
set_option maxRecDepth 20000 in
theorem gX7_checkClosable_X7_checkOpen : GoodIn wsX7_checkClosable (wsV RX7 130 RX7 yX7_checkOpen wsX7_checkOpen) := goodIn_app (goodIn_of _ (by decide +kernel)) ggX7_checkClosable_X7_checkOpen
set_option maxRecDepth 20000 in
theorem ggX7_checkClosable_X7_yearOfDay : GoodIn wsX7_checkClosable wsX7_yearOfDay := goodIn_r _ [18] (by decide +kernel) (by decide +kernel)
set_option maxRecDepth 20000 in
theorem gX7_checkClosable_X7_yearOfDay : GoodIn wsX7_checkClosable (va_wsS RX7 102 yX7_yearOfDay wsX7_yearOfDay) := goodIn_app (goodIn_of _ (by decide +kernel)) ggX7_checkClosable_X7_yearOfDay
theorem dX7_checkClosable_0 : decode cX7_checkClosable 0 = .ok (.aload_n 0, 1) := by decide +kernel
theorem dX7_checkClosable_1 : decode cX7_checkClosable 1 = .ok (.iload_n 1, 1) := by decide +kernel
theorem dX7_checkClosable_2 : decode cX7_checkClosable 2 = .ok (.invokevirtual 130, 3) := by decide +kernel
theorem dX7_checkClosable_5 : decode cX7_checkClosable 5 = .ok (.aload_n 0, 1) := by decide +kernel
theorem dX7_checkClosable_6 : decode cX7_checkClosable 6 = .ok (.getfield 99, 3) := by decide +kernel
theorem dX7_checkClosable_9 : decode cX7_checkClosable 9 = .ok (.iload_n 1, 1) := by decide +kernel
theorem dX7_checkClosable_10 : decode cX7_checkClosable 10 = .ok (.iconst 1, 1) := by decide +kernel
theorem dX7_checkClosable_11 : decode cX7_checkClosable 11 = .ok (.iadd, 1) := by decide +kernel
theorem dX7_checkClosable_12 : decode cX7_checkClosable 12 = .ok (.bipush 100, 2) := by decide +kernel
theorem dX7_checkClosable_14 : decode cX7_checkClosable 14 = .ok (.imul, 1) := by decide +kernel
theorem dX7_checkClosable_15 : decode cX7_checkClosable 15 = .ok (.if_icmp .ge 14, 3) := by decide +kernel
theorem dX7_checkClosable_18 : decode cX7_checkClosable 18 = .ok (.new 57, 3) := by decide +kernel
theorem dX7_checkClosable_21 : decode cX7_checkClosable 21 = .ok (.dup, 1) := by decide +kernel
theorem dX7_checkClosable_22 : decode cX7_checkClosable 22 = .ok (.ldc_w 352, 3) := by decide +kernel
theorem dX7_checkClosable_25 : decode cX7_checkClosable 25 = .ok (.invokespecial 61, 3) := by decide +kernel
theorem dX7_checkClosable_28 : decode cX7_checkClosable 28 = .ok (.athrow, 1) := by decide +kernel
theorem dX7_checkClosable_29 : decode cX7_checkClosable 29 = .ok (.iload_n 1, 1) := by decide +kernel
theorem dX7_checkClosable_30 : decode cX7_checkClosable 30 = .ok (.ifCond .le 28, 3) := by decide +kernel
theorem dX7_checkClosable_33 : decode cX7_checkClosable 33 = .ok (.aload_n 0, 1) := by decide +kernel
theorem dX7_checkClosable_34 : decode cX7_checkClosable 34 = .ok (.getfield 41, 3) := by decide +kernel
theorem dX7_checkClosable_37 : decode cX7_checkClosable 37 = .ok (.iload_n 1, 1) := by decide +kernel
theorem dX7_checkClosable_38 : decode cX7_checkClosable 38 = .ok (.iconst 1, 1) := by decide +kernel
theorem dX7_checkClosable_39 : decode cX7_checkClosable 39 = .ok (.isub, 1) := by decide +kernel
theorem dX7_checkClosable_40 : decode cX7_checkClosable 40 = .ok (.aaload, 1) := by decide +kernel
theorem dX7_checkClosable_41 : decode cX7_checkClosable 41 = .ok (.getfield 266, 3) := by decide +kernel
theorem dX7_checkClosable_44 : decode cX7_checkClosable 44 = .ok (.ifCond .ne 14, 3) := by decide +kernel
theorem dX7_checkClosable_47 : decode cX7_checkClosable 47 = .ok (.new 57, 3) := by decide +kernel
theorem dX7_checkClosable_50 : decode cX7_checkClosable 50 = .ok (.dup, 1) := by decide +kernel
theorem dX7_checkClosable_51 : decode cX7_checkClosable 51 = .ok (.ldc_w 354, 3) := by decide +kernel
theorem dX7_checkClosable_54 : decode cX7_checkClosable 54 = .ok (.invokespecial 61, 3) := by decide +kernel
theorem dX7_checkClosable_57 : decode cX7_checkClosable 57 = .ok (.athrow, 1) := by decide +kernel
theorem dX7_checkClosable_58 : decode cX7_checkClosable 58 = .ok (.iconst 0, 1) := by decide +kernel
theorem dX7_checkClosable_59 : decode cX7_checkClosable 59 = .ok (.istore_n 2, 1) := by decide +kernel
theorem dX7_checkClosable_60 : decode cX7_checkClosable 60 = .ok (.iload_n 2, 1) := by decide +kernel
theorem dX7_checkClosable_61 : decode cX7_checkClosable 61 = .ok (.aload_n 0, 1) := by decide +kernel
theorem dX7_checkClosable_62 : decode cX7_checkClosable 62 = .ok (.getfield 299, 3) := by decide +kernel
theorem dX7_checkClosable_65 : decode cX7_checkClosable 65 = .ok (.if_icmp .ge 51, 3) := by decide +kernel
theorem dX7_checkClosable_68 : decode cX7_checkClosable 68 = .ok (.aload_n 0, 1) := by decide +kernel
theorem dX7_checkClosable_69 : decode cX7_checkClosable 69 = .ok (.getfield 29, 3) := by decide +kernel
theorem dX7_checkClosable_72 : decode cX7_checkClosable 72 = .ok (.iload_n 2, 1) := by decide +kernel
theorem dX7_checkClosable_73 : decode cX7_checkClosable 73 = .ok (.aaload, 1) := by decide +kernel
theorem dX7_checkClosable_74 : decode cX7_checkClosable 74 = .ok (.getfield 214, 3) := by decide +kernel
theorem dX7_checkClosable_77 : decode cX7_checkClosable 77 = .ok (.getfield 170, 3) := by decide +kernel
theorem dX7_checkClosable_80 : decode cX7_checkClosable 80 = .ok (.invokestatic 102, 3) := by decide +kernel
theorem dX7_checkClosable_83 : decode cX7_checkClosable 83 = .ok (.iload_n 1, 1) := by decide +kernel
theorem dX7_checkClosable_84 : decode cX7_checkClosable 84 = .ok (.if_icmp .ne 26, 3) := by decide +kernel
theorem dX7_checkClosable_87 : decode cX7_checkClosable 87 = .ok (.aload_n 0, 1) := by decide +kernel
theorem dX7_checkClosable_88 : decode cX7_checkClosable 88 = .ok (.getfield 29, 3) := by decide +kernel
theorem dX7_checkClosable_91 : decode cX7_checkClosable 91 = .ok (.iload_n 2, 1) := by decide +kernel
theorem dX7_checkClosable_92 : decode cX7_checkClosable 92 = .ok (.aaload, 1) := by decide +kernel
theorem dX7_checkClosable_93 : decode cX7_checkClosable 93 = .ok (.getfield 205, 3) := by decide +kernel
theorem dX7_checkClosable_96 : decode cX7_checkClosable 96 = .ok (.ifCond .ne 14, 3) := by decide +kernel
theorem dX7_checkClosable_99 : decode cX7_checkClosable 99 = .ok (.new 57, 3) := by decide +kernel
theorem dX7_checkClosable_102 : decode cX7_checkClosable 102 = .ok (.dup, 1) := by decide +kernel
theorem dX7_checkClosable_103 : decode cX7_checkClosable 103 = .ok (.ldc_w 356, 3) := by decide +kernel
theorem dX7_checkClosable_106 : decode cX7_checkClosable 106 = .ok (.invokespecial 61, 3) := by decide +kernel
theorem dX7_checkClosable_109 : decode cX7_checkClosable 109 = .ok (.athrow, 1) := by decide +kernel
theorem dX7_checkClosable_110 : decode cX7_checkClosable 110 = .ok (.iinc 2 1, 3) := by decide +kernel
theorem dX7_checkClosable_113 : decode cX7_checkClosable 113 = .ok (.goto (-53), 3) := by decide +kernel
theorem dX7_checkClosable_116 : decode cX7_checkClosable 116 = .ok (.return_, 1) := by decide +kernel
theorem dX7_yearOfDay_0 : decode cX7_yearOfDay 0 = .ok (.iload_n 0, 1) := by decide +kernel
theorem dX7_yearOfDay_1 : decode cX7_yearOfDay 1 = .ok (.bipush 100, 2) := by decide +kernel
theorem dX7_yearOfDay_3 : decode cX7_yearOfDay 3 = .ok (.idiv, 1) := by decide +kernel
theorem dX7_yearOfDay_4 : decode cX7_yearOfDay 4 = .ok (.ireturn, 1) := by decide +kernel
set_option maxRecDepth 20000 in
theorem ggX7_weightIn_X1_daysIn : GoodIn wsX7_weightIn wsX1_daysIn := goodIn_r _ [10, 11, 12, 13, 14, 15, 16, 17, 18, 19, 41, 42, 43] (by decide +kernel) (by decide +kernel)
set_option maxRecDepth 20000 in
theorem gX7_weightIn_X1_daysIn : GoodIn wsX7_weightIn (wsV RX7 362 RX1 yX1_daysIn wsX1_daysIn) := goodIn_app (goodIn_of _ (by decide +kernel)) ggX7_weightIn_X1_daysIn
set_option maxRecDepth 20000 in
theorem ggX7_weightIn_X3_rated : GoodIn wsX7_weightIn wsX3_rated := goodIn_r _ [24, 25, 26, 48, 49, 50, 51, 52] (by decide +kernel) (by decide +kernel)
set_option maxRecDepth 20000 in
theorem gX7_weightIn_X3_rated : GoodIn wsX7_weightIn (wsV RX7 146 RX3 yX3_rated wsX3_rated) := goodIn_app (goodIn_of _ (by decide +kernel)) ggX7_weightIn_X3_rated
theorem dX7_weightIn_0 : decode cX7_weightIn 0 = .ok (.lconst 0, 1) := by decide +kernel
theorem dX7_weightIn_1 : decode cX7_weightIn 1 = .ok (.lstore_n 3, 1) := by decide +kernel
theorem dX7_weightIn_2 : decode cX7_weightIn 2 = .ok (.iconst 0, 1) := by decide +kernel
theorem dX7_weightIn_3 : decode cX7_weightIn 3 = .ok (.istore 5, 2) := by decide +kernel
theorem dX7_weightIn_5 : decode cX7_weightIn 5 = .ok (.iload 5, 2) := by decide +kernel
theorem dX7_weightIn_7 : decode cX7_weightIn 7 = .ok (.aload_n 0, 1) := by decide +kernel
theorem dX7_weightIn_8 : decode cX7_weightIn 8 = .ok (.getfield 108, 3) := by decide +kernel
theorem dX7_weightIn_11 : decode cX7_weightIn 11 = .ok (.if_icmp .ge 50, 3) := by decide +kernel
theorem dX7_weightIn_14 : decode cX7_weightIn 14 = .ok (.aload_n 0, 1) := by decide +kernel
theorem dX7_weightIn_15 : decode cX7_weightIn 15 = .ok (.getfield 23, 3) := by decide +kernel
theorem dX7_weightIn_18 : decode cX7_weightIn 18 = .ok (.iload 5, 2) := by decide +kernel
theorem dX7_weightIn_20 : decode cX7_weightIn 20 = .ok (.aaload, 1) := by decide +kernel
theorem dX7_weightIn_21 : decode cX7_weightIn 21 = .ok (.astore 6, 2) := by decide +kernel
theorem dX7_weightIn_23 : decode cX7_weightIn 23 = .ok (.aload 6, 2) := by decide +kernel
theorem dX7_weightIn_25 : decode cX7_weightIn 25 = .ok (.getfield 358, 3) := by decide +kernel
theorem dX7_weightIn_28 : decode cX7_weightIn 28 = .ok (.getfield 91, 3) := by decide +kernel
theorem dX7_weightIn_31 : decode cX7_weightIn 31 = .ok (.aload_n 1, 1) := by decide +kernel
theorem dX7_weightIn_32 : decode cX7_weightIn 32 = .ok (.if_acmp .ne 23, 3) := by decide +kernel
theorem dX7_weightIn_35 : decode cX7_weightIn 35 = .ok (.lload_n 3, 1) := by decide +kernel
theorem dX7_weightIn_36 : decode cX7_weightIn 36 = .ok (.aload 6, 2) := by decide +kernel
theorem dX7_weightIn_38 : decode cX7_weightIn 38 = .ok (.getfield 358, 3) := by decide +kernel
theorem dX7_weightIn_41 : decode cX7_weightIn 41 = .ok (.getfield 359, 3) := by decide +kernel
theorem dX7_weightIn_44 : decode cX7_weightIn 44 = .ok (.i2l, 1) := by decide +kernel
theorem dX7_weightIn_45 : decode cX7_weightIn 45 = .ok (.aload 6, 2) := by decide +kernel
theorem dX7_weightIn_47 : decode cX7_weightIn 47 = .ok (.iload_n 2, 1) := by decide +kernel
theorem dX7_weightIn_48 : decode cX7_weightIn 48 = .ok (.invokevirtual 362, 3) := by decide +kernel
theorem dX7_weightIn_51 : decode cX7_weightIn 51 = .ok (.i2l, 1) := by decide +kernel
theorem dX7_weightIn_52 : decode cX7_weightIn 52 = .ok (.lmul, 1) := by decide +kernel
theorem dX7_weightIn_53 : decode cX7_weightIn 53 = .ok (.ladd, 1) := by decide +kernel
theorem dX7_weightIn_54 : decode cX7_weightIn 54 = .ok (.lstore_n 3, 1) := by decide +kernel
theorem dX7_weightIn_55 : decode cX7_weightIn 55 = .ok (.iinc 5 1, 3) := by decide +kernel
theorem dX7_weightIn_58 : decode cX7_weightIn 58 = .ok (.goto (-53), 3) := by decide +kernel
theorem dX7_weightIn_61 : decode cX7_weightIn 61 = .ok (.aload_n 1, 1) := by decide +kernel
theorem dX7_weightIn_62 : decode cX7_weightIn 62 = .ok (.lload_n 3, 1) := by decide +kernel
theorem dX7_weightIn_63 : decode cX7_weightIn 63 = .ok (.iload_n 2, 1) := by decide +kernel
theorem dX7_weightIn_64 : decode cX7_weightIn 64 = .ok (.invokevirtual 146, 3) := by decide +kernel
theorem dX7_weightIn_67 : decode cX7_weightIn 67 = .ok (.lreturn, 1) := by decide +kernel
set_option maxRecDepth 20000 in
theorem ggX7_tonsOn_X1_isOn : GoodIn wsX7_tonsOn wsX1_isOn := goodIn_r _ [10, 11, 12, 27, 28, 29] (by decide +kernel) (by decide +kernel)
set_option maxRecDepth 20000 in
theorem gX7_tonsOn_X1_isOn : GoodIn wsX7_tonsOn (wsV RX7 365 RX1 yX1_isOn wsX1_isOn) := goodIn_app (goodIn_of _ (by decide +kernel)) ggX7_tonsOn_X1_isOn
theorem dX7_tonsOn_0 : decode cX7_tonsOn 0 = .ok (.lconst 0, 1) := by decide +kernel
theorem dX7_tonsOn_1 : decode cX7_tonsOn 1 = .ok (.lstore_n 3, 1) := by decide +kernel
theorem dX7_tonsOn_2 : decode cX7_tonsOn 2 = .ok (.iconst 0, 1) := by decide +kernel
theorem dX7_tonsOn_3 : decode cX7_tonsOn 3 = .ok (.istore 5, 2) := by decide +kernel
theorem dX7_tonsOn_5 : decode cX7_tonsOn 5 = .ok (.iload 5, 2) := by decide +kernel
theorem dX7_tonsOn_7 : decode cX7_tonsOn 7 = .ok (.aload_n 0, 1) := by decide +kernel
theorem dX7_tonsOn_8 : decode cX7_tonsOn 8 = .ok (.getfield 108, 3) := by decide +kernel
theorem dX7_tonsOn_11 : decode cX7_tonsOn 11 = .ok (.if_icmp .ge 51, 3) := by decide +kernel
theorem dX7_tonsOn_14 : decode cX7_tonsOn 14 = .ok (.aload_n 0, 1) := by decide +kernel
theorem dX7_tonsOn_15 : decode cX7_tonsOn 15 = .ok (.getfield 23, 3) := by decide +kernel
theorem dX7_tonsOn_18 : decode cX7_tonsOn 18 = .ok (.iload 5, 2) := by decide +kernel
theorem dX7_tonsOn_20 : decode cX7_tonsOn 20 = .ok (.aaload, 1) := by decide +kernel
theorem dX7_tonsOn_21 : decode cX7_tonsOn 21 = .ok (.astore 6, 2) := by decide +kernel
theorem dX7_tonsOn_23 : decode cX7_tonsOn 23 = .ok (.aload 6, 2) := by decide +kernel
theorem dX7_tonsOn_25 : decode cX7_tonsOn 25 = .ok (.getfield 358, 3) := by decide +kernel
theorem dX7_tonsOn_28 : decode cX7_tonsOn 28 = .ok (.getfield 91, 3) := by decide +kernel
theorem dX7_tonsOn_31 : decode cX7_tonsOn 31 = .ok (.aload_n 1, 1) := by decide +kernel
theorem dX7_tonsOn_32 : decode cX7_tonsOn 32 = .ok (.if_acmp .ne 24, 3) := by decide +kernel
theorem dX7_tonsOn_35 : decode cX7_tonsOn 35 = .ok (.aload 6, 2) := by decide +kernel
theorem dX7_tonsOn_37 : decode cX7_tonsOn 37 = .ok (.iload_n 2, 1) := by decide +kernel
theorem dX7_tonsOn_38 : decode cX7_tonsOn 38 = .ok (.invokevirtual 365, 3) := by decide +kernel
theorem dX7_tonsOn_41 : decode cX7_tonsOn 41 = .ok (.ifCond .eq 15, 3) := by decide +kernel
theorem dX7_tonsOn_44 : decode cX7_tonsOn 44 = .ok (.lload_n 3, 1) := by decide +kernel
theorem dX7_tonsOn_45 : decode cX7_tonsOn 45 = .ok (.aload 6, 2) := by decide +kernel
theorem dX7_tonsOn_47 : decode cX7_tonsOn 47 = .ok (.getfield 358, 3) := by decide +kernel
theorem dX7_tonsOn_50 : decode cX7_tonsOn 50 = .ok (.getfield 359, 3) := by decide +kernel
theorem dX7_tonsOn_53 : decode cX7_tonsOn 53 = .ok (.i2l, 1) := by decide +kernel
theorem dX7_tonsOn_54 : decode cX7_tonsOn 54 = .ok (.ladd, 1) := by decide +kernel
theorem dX7_tonsOn_55 : decode cX7_tonsOn 55 = .ok (.lstore_n 3, 1) := by decide +kernel
theorem dX7_tonsOn_56 : decode cX7_tonsOn 56 = .ok (.iinc 5 1, 3) := by decide +kernel
theorem dX7_tonsOn_59 : decode cX7_tonsOn 59 = .ok (.goto (-54), 3) := by decide +kernel
theorem dX7_tonsOn_62 : decode cX7_tonsOn 62 = .ok (.lload_n 3, 1) := by decide +kernel
theorem dX7_tonsOn_63 : decode cX7_tonsOn 63 = .ok (.lreturn, 1) := by decide +kernel
theorem dX7_hasShipEntered_0 : decode cX7_hasShipEntered 0 = .ok (.iconst 0, 1) := by decide +kernel
theorem dX7_hasShipEntered_1 : decode cX7_hasShipEntered 1 = .ok (.istore_n 2, 1) := by decide +kernel
theorem dX7_hasShipEntered_2 : decode cX7_hasShipEntered 2 = .ok (.iload_n 2, 1) := by decide +kernel
theorem dX7_hasShipEntered_3 : decode cX7_hasShipEntered 3 = .ok (.aload_n 0, 1) := by decide +kernel
theorem dX7_hasShipEntered_4 : decode cX7_hasShipEntered 4 = .ok (.getfield 73, 3) := by decide +kernel
theorem dX7_hasShipEntered_7 : decode cX7_hasShipEntered 7 = .ok (.if_icmp .ge 36, 3) := by decide +kernel
theorem dX7_hasShipEntered_10 : decode cX7_hasShipEntered 10 = .ok (.aload_n 0, 1) := by decide +kernel
theorem dX7_hasShipEntered_11 : decode cX7_hasShipEntered 11 = .ok (.getfield 17, 3) := by decide +kernel
theorem dX7_hasShipEntered_14 : decode cX7_hasShipEntered 14 = .ok (.iload_n 2, 1) := by decide +kernel
theorem dX7_hasShipEntered_15 : decode cX7_hasShipEntered 15 = .ok (.aaload, 1) := by decide +kernel
theorem dX7_hasShipEntered_16 : decode cX7_hasShipEntered 16 = .ok (.getfield 91, 3) := by decide +kernel
theorem dX7_hasShipEntered_19 : decode cX7_hasShipEntered 19 = .ok (.aload_n 1, 1) := by decide +kernel
theorem dX7_hasShipEntered_20 : decode cX7_hasShipEntered 20 = .ok (.if_acmp .ne 17, 3) := by decide +kernel
theorem dX7_hasShipEntered_23 : decode cX7_hasShipEntered 23 = .ok (.aload_n 0, 1) := by decide +kernel
theorem dX7_hasShipEntered_24 : decode cX7_hasShipEntered 24 = .ok (.getfield 17, 3) := by decide +kernel
theorem dX7_hasShipEntered_27 : decode cX7_hasShipEntered 27 = .ok (.iload_n 2, 1) := by decide +kernel
theorem dX7_hasShipEntered_28 : decode cX7_hasShipEntered 28 = .ok (.aaload, 1) := by decide +kernel
theorem dX7_hasShipEntered_29 : decode cX7_hasShipEntered 29 = .ok (.getfield 85, 3) := by decide +kernel
theorem dX7_hasShipEntered_32 : decode cX7_hasShipEntered 32 = .ok (.ifnull 5, 3) := by decide +kernel
theorem dX7_hasShipEntered_35 : decode cX7_hasShipEntered 35 = .ok (.iconst 1, 1) := by decide +kernel
theorem dX7_hasShipEntered_36 : decode cX7_hasShipEntered 36 = .ok (.ireturn, 1) := by decide +kernel
theorem dX7_hasShipEntered_37 : decode cX7_hasShipEntered 37 = .ok (.iinc 2 1, 3) := by decide +kernel
theorem dX7_hasShipEntered_40 : decode cX7_hasShipEntered 40 = .ok (.goto (-38), 3) := by decide +kernel
theorem dX7_hasShipEntered_43 : decode cX7_hasShipEntered 43 = .ok (.iconst 0, 1) := by decide +kernel
theorem dX7_hasShipEntered_44 : decode cX7_hasShipEntered 44 = .ok (.ireturn, 1) := by decide +kernel
set_option maxRecDepth 20000 in
theorem ggX7_wasEntered_X1_isOn : GoodIn wsX7_wasEntered wsX1_isOn := goodIn_r _ [8, 9, 10, 25, 26, 27] (by decide +kernel) (by decide +kernel)
set_option maxRecDepth 20000 in
theorem gX7_wasEntered_X1_isOn : GoodIn wsX7_wasEntered (wsV RX7 365 RX1 yX1_isOn wsX1_isOn) := goodIn_app (goodIn_of _ (by decide +kernel)) ggX7_wasEntered_X1_isOn
theorem dX7_wasEntered_0 : decode cX7_wasEntered 0 = .ok (.iconst 0, 1) := by decide +kernel
theorem dX7_wasEntered_1 : decode cX7_wasEntered 1 = .ok (.istore_n 3, 1) := by decide +kernel
theorem dX7_wasEntered_2 : decode cX7_wasEntered 2 = .ok (.iload_n 3, 1) := by decide +kernel
theorem dX7_wasEntered_3 : decode cX7_wasEntered 3 = .ok (.aload_n 0, 1) := by decide +kernel
theorem dX7_wasEntered_4 : decode cX7_wasEntered 4 = .ok (.getfield 108, 3) := by decide +kernel
theorem dX7_wasEntered_7 : decode cX7_wasEntered 7 = .ok (.if_icmp .ge 37, 3) := by decide +kernel
theorem dX7_wasEntered_10 : decode cX7_wasEntered 10 = .ok (.aload_n 0, 1) := by decide +kernel
theorem dX7_wasEntered_11 : decode cX7_wasEntered 11 = .ok (.getfield 23, 3) := by decide +kernel
theorem dX7_wasEntered_14 : decode cX7_wasEntered 14 = .ok (.iload_n 3, 1) := by decide +kernel
theorem dX7_wasEntered_15 : decode cX7_wasEntered 15 = .ok (.aaload, 1) := by decide +kernel
theorem dX7_wasEntered_16 : decode cX7_wasEntered 16 = .ok (.getfield 358, 3) := by decide +kernel
theorem dX7_wasEntered_19 : decode cX7_wasEntered 19 = .ok (.aload_n 1, 1) := by decide +kernel
theorem dX7_wasEntered_20 : decode cX7_wasEntered 20 = .ok (.if_acmp .ne 18, 3) := by decide +kernel
theorem dX7_wasEntered_23 : decode cX7_wasEntered 23 = .ok (.aload_n 0, 1) := by decide +kernel
theorem dX7_wasEntered_24 : decode cX7_wasEntered 24 = .ok (.getfield 23, 3) := by decide +kernel
theorem dX7_wasEntered_27 : decode cX7_wasEntered 27 = .ok (.iload_n 3, 1) := by decide +kernel
theorem dX7_wasEntered_28 : decode cX7_wasEntered 28 = .ok (.aaload, 1) := by decide +kernel
theorem dX7_wasEntered_29 : decode cX7_wasEntered 29 = .ok (.iload_n 2, 1) := by decide +kernel
theorem dX7_wasEntered_30 : decode cX7_wasEntered 30 = .ok (.invokevirtual 365, 3) := by decide +kernel
theorem dX7_wasEntered_33 : decode cX7_wasEntered 33 = .ok (.ifCond .eq 5, 3) := by decide +kernel
theorem dX7_wasEntered_36 : decode cX7_wasEntered 36 = .ok (.iconst 1, 1) := by decide +kernel
theorem dX7_wasEntered_37 : decode cX7_wasEntered 37 = .ok (.ireturn, 1) := by decide +kernel
theorem dX7_wasEntered_38 : decode cX7_wasEntered 38 = .ok (.iinc 3 1, 3) := by decide +kernel
theorem dX7_wasEntered_41 : decode cX7_wasEntered 41 = .ok (.goto (-39), 3) := by decide +kernel
theorem dX7_wasEntered_44 : decode cX7_wasEntered 44 = .ok (.iconst 0, 1) := by decide +kernel
theorem dX7_wasEntered_45 : decode cX7_wasEntered 45 = .ok (.ireturn, 1) := by decide +kernel
set_option maxRecDepth 20000 in
theorem ggX7_newEvent_X2_init : GoodIn wsX7_newEvent wsX2_init := goodIn_r _ [8, 9, 10, 11, 12, 13, 14, 15, 16] (by decide +kernel) (by decide +kernel)
set_option maxRecDepth 20000 in
theorem gX7_newEvent_X2_init : GoodIn wsX7_newEvent (wsX2_init) := ggX7_newEvent_X2_init
theorem dX7_newEvent_0 : decode cX7_newEvent 0 = .ok (.new 33, 3) := by decide +kernel
theorem dX7_newEvent_3 : decode cX7_newEvent 3 = .ok (.dup, 1) := by decide +kernel
theorem dX7_newEvent_4 : decode cX7_newEvent 4 = .ok (.aload_n 0, 1) := by decide +kernel
theorem dX7_newEvent_5 : decode cX7_newEvent 5 = .ok (.getfield 339, 3) := by decide +kernel
theorem dX7_newEvent_8 : decode cX7_newEvent 8 = .ok (.iload_n 1, 1) := by decide +kernel
theorem dX7_newEvent_9 : decode cX7_newEvent 9 = .ok (.invokespecial 369, 3) := by decide +kernel
theorem dX7_newEvent_12 : decode cX7_newEvent 12 = .ok (.astore_n 2, 1) := by decide +kernel
theorem dX7_newEvent_13 : decode cX7_newEvent 13 = .ok (.aload_n 0, 1) := by decide +kernel
theorem dX7_newEvent_14 : decode cX7_newEvent 14 = .ok (.getfield 35, 3) := by decide +kernel
theorem dX7_newEvent_17 : decode cX7_newEvent 17 = .ok (.aload_n 0, 1) := by decide +kernel
theorem dX7_newEvent_18 : decode cX7_newEvent 18 = .ok (.getfield 339, 3) := by decide +kernel
theorem dX7_newEvent_21 : decode cX7_newEvent 21 = .ok (.aload_n 2, 1) := by decide +kernel
theorem dX7_newEvent_22 : decode cX7_newEvent 22 = .ok (.aastore, 1) := by decide +kernel
theorem dX7_newEvent_23 : decode cX7_newEvent 23 = .ok (.aload_n 0, 1) := by decide +kernel
theorem dX7_newEvent_24 : decode cX7_newEvent 24 = .ok (.dup, 1) := by decide +kernel
theorem dX7_newEvent_25 : decode cX7_newEvent 25 = .ok (.getfield 339, 3) := by decide +kernel
theorem dX7_newEvent_28 : decode cX7_newEvent 28 = .ok (.iconst 1, 1) := by decide +kernel
theorem dX7_newEvent_29 : decode cX7_newEvent 29 = .ok (.iadd, 1) := by decide +kernel
theorem dX7_newEvent_30 : decode cX7_newEvent 30 = .ok (.putfield 339, 3) := by decide +kernel
theorem dX7_newEvent_33 : decode cX7_newEvent 33 = .ok (.aload_n 2, 1) := by decide +kernel
theorem dX7_newEvent_34 : decode cX7_newEvent 34 = .ok (.areturn, 1) := by decide +kernel
set_option maxRecDepth 20000 in
theorem ggX7_newClaim_X0_init : GoodIn wsX7_newClaim wsX0_init := goodIn_r _ [9, 10, 11, 12, 13, 14, 15, 16, 31, 32, 33, 34, 35, 36, 37, 38] (by decide +kernel) (by decide +kernel)
set_option maxRecDepth 20000 in
theorem gX7_newClaim_X0_init : GoodIn wsX7_newClaim (wsX0_init) := ggX7_newClaim_X0_init
theorem dX7_newClaim_0 : decode cX7_newClaim 0 = .ok (.aload_n 0, 1) := by decide +kernel
theorem dX7_newClaim_1 : decode cX7_newClaim 1 = .ok (.getfield 29, 3) := by decide +kernel
theorem dX7_newClaim_4 : decode cX7_newClaim 4 = .ok (.aload_n 0, 1) := by decide +kernel
theorem dX7_newClaim_5 : decode cX7_newClaim 5 = .ok (.getfield 299, 3) := by decide +kernel
theorem dX7_newClaim_8 : decode cX7_newClaim 8 = .ok (.new 27, 3) := by decide +kernel
theorem dX7_newClaim_11 : decode cX7_newClaim 11 = .ok (.dup, 1) := by decide +kernel
theorem dX7_newClaim_12 : decode cX7_newClaim 12 = .ok (.aload_n 1, 1) := by decide +kernel
theorem dX7_newClaim_13 : decode cX7_newClaim 13 = .ok (.iload_n 2, 1) := by decide +kernel
theorem dX7_newClaim_14 : decode cX7_newClaim 14 = .ok (.iload_n 3, 1) := by decide +kernel
theorem dX7_newClaim_15 : decode cX7_newClaim 15 = .ok (.aload 4, 2) := by decide +kernel
theorem dX7_newClaim_17 : decode cX7_newClaim 17 = .ok (.invokespecial 372, 3) := by decide +kernel
theorem dX7_newClaim_20 : decode cX7_newClaim 20 = .ok (.aastore, 1) := by decide +kernel
theorem dX7_newClaim_21 : decode cX7_newClaim 21 = .ok (.aload_n 0, 1) := by decide +kernel
theorem dX7_newClaim_22 : decode cX7_newClaim 22 = .ok (.dup, 1) := by decide +kernel
theorem dX7_newClaim_23 : decode cX7_newClaim 23 = .ok (.getfield 299, 3) := by decide +kernel
theorem dX7_newClaim_26 : decode cX7_newClaim 26 = .ok (.iconst 1, 1) := by decide +kernel
theorem dX7_newClaim_27 : decode cX7_newClaim 27 = .ok (.iadd, 1) := by decide +kernel
theorem dX7_newClaim_28 : decode cX7_newClaim 28 = .ok (.putfield 299, 3) := by decide +kernel
theorem dX7_newClaim_31 : decode cX7_newClaim 31 = .ok (.aload 4, 2) := by decide +kernel
theorem dX7_newClaim_33 : decode cX7_newClaim 33 = .ok (.dup, 1) := by decide +kernel
theorem dX7_newClaim_34 : decode cX7_newClaim 34 = .ok (.getfield 239, 3) := by decide +kernel
theorem dX7_newClaim_37 : decode cX7_newClaim 37 = .ok (.iconst 1, 1) := by decide +kernel
theorem dX7_newClaim_38 : decode cX7_newClaim 38 = .ok (.iadd, 1) := by decide +kernel
theorem dX7_newClaim_39 : decode cX7_newClaim 39 = .ok (.putfield 239, 3) := by decide +kernel
theorem dX7_newClaim_42 : decode cX7_newClaim 42 = .ok (.aload_n 0, 1) := by decide +kernel
theorem dX7_newClaim_43 : decode cX7_newClaim 43 = .ok (.getfield 299, 3) := by decide +kernel
theorem dX7_newClaim_46 : decode cX7_newClaim 46 = .ok (.iconst 1, 1) := by decide +kernel
theorem dX7_newClaim_47 : decode cX7_newClaim 47 = .ok (.isub, 1) := by decide +kernel
theorem dX7_newClaim_48 : decode cX7_newClaim 48 = .ok (.ireturn, 1) := by decide +kernel
theorem dX7_hundredthsOf_0 : decode cX7_hundredthsOf 0 = .ok (.iload_n 0, 1) := by decide +kernel
theorem dX7_hundredthsOf_1 : decode cX7_hundredthsOf 1 = .ok (.i2l, 1) := by decide +kernel
theorem dX7_hundredthsOf_2 : decode cX7_hundredthsOf 2 = .ok (.iload_n 1, 1) := by decide +kernel
theorem dX7_hundredthsOf_3 : decode cX7_hundredthsOf 3 = .ok (.i2l, 1) := by decide +kernel
theorem dX7_hundredthsOf_4 : decode cX7_hundredthsOf 4 = .ok (.lmul, 1) := by decide +kernel
theorem dX7_hundredthsOf_5 : decode cX7_hundredthsOf 5 = .ok (.ldc2_w 375, 3) := by decide +kernel
theorem dX7_hundredthsOf_8 : decode cX7_hundredthsOf 8 = .ok (.ldiv, 1) := by decide +kernel
theorem dX7_hundredthsOf_9 : decode cX7_hundredthsOf 9 = .ok (.l2i, 1) := by decide +kernel
theorem dX7_hundredthsOf_10 : decode cX7_hundredthsOf 10 = .ok (.ireturn, 1) := by decide +kernel
set_option maxRecDepth 20000 in
theorem ggX7_isCovered_X7_yearOfDay : GoodIn wsX7_isCovered wsX7_yearOfDay := goodIn_r _ [11] (by decide +kernel) (by decide +kernel)
set_option maxRecDepth 20000 in
theorem gX7_isCovered_X7_yearOfDay : GoodIn wsX7_isCovered (va_wsS RX7 102 yX7_yearOfDay wsX7_yearOfDay) := goodIn_app (goodIn_of _ (by decide +kernel)) ggX7_isCovered_X7_yearOfDay
set_option maxRecDepth 20000 in
theorem ggX7_isCovered_X3_isStoppedOn : GoodIn wsX7_isCovered wsX3_isStoppedOn := goodIn_r _ [16, 17, 68, 69, 70, 71, 72] (by decide +kernel) (by decide +kernel)
set_option maxRecDepth 20000 in
theorem gX7_isCovered_X3_isStoppedOn : GoodIn wsX7_isCovered (wsV RX7 377 RX3 yX3_isStoppedOn wsX3_isStoppedOn) := goodIn_app (goodIn_of _ (by decide +kernel)) ggX7_isCovered_X3_isStoppedOn
set_option maxRecDepth 20000 in
theorem ggX7_isCovered_X7_wasEntered : GoodIn wsX7_isCovered wsX7_wasEntered := goodIn_r _ [21, 22, 23, 24, 25, 26, 27, 28, 29, 30, 31, 43, 44, 45, 46, 47, 48, 49, 50, 51, 52, 53, 54, 55, 56, 73, 74, 75] (by decide +kernel) (by decide +kernel)
set_option maxRecDepth 20000 in
theorem gX7_isCovered_X7_wasEntered : GoodIn wsX7_isCovered (wsV RX7 380 RX7 yX7_wasEntered wsX7_wasEntered) := goodIn_app (goodIn_of _ (by decide +kernel)) ggX7_isCovered_X7_wasEntered
theorem dX7_isCovered_0 : decode cX7_isCovered 0 = .ok (.aload_n 1, 1) := by decide +kernel
theorem dX7_isCovered_1 : decode cX7_isCovered 1 = .ok (.getfield 214, 3) := by decide +kernel
theorem dX7_isCovered_4 : decode cX7_isCovered 4 = .ok (.getfield 170, 3) := by decide +kernel
theorem dX7_isCovered_7 : decode cX7_isCovered 7 = .ok (.istore_n 2, 1) := by decide +kernel
theorem dX7_isCovered_8 : decode cX7_isCovered 8 = .ok (.aload_n 0, 1) := by decide +kernel
theorem dX7_isCovered_9 : decode cX7_isCovered 9 = .ok (.getfield 41, 3) := by decide +kernel
theorem dX7_isCovered_12 : decode cX7_isCovered 12 = .ok (.iload_n 2, 1) := by decide +kernel
theorem dX7_isCovered_13 : decode cX7_isCovered 13 = .ok (.invokestatic 102, 3) := by decide +kernel
theorem dX7_isCovered_16 : decode cX7_isCovered 16 = .ok (.aaload, 1) := by decide +kernel
theorem dX7_isCovered_17 : decode cX7_isCovered 17 = .ok (.getfield 266, 3) := by decide +kernel
theorem dX7_isCovered_20 : decode cX7_isCovered 20 = .ok (.ifCond .eq 8, 3) := by decide +kernel
theorem dX7_isCovered_23 : decode cX7_isCovered 23 = .ok (.aload_n 1, 1) := by decide +kernel
theorem dX7_isCovered_24 : decode cX7_isCovered 24 = .ok (.getfield 300, 3) := by decide +kernel
theorem dX7_isCovered_27 : decode cX7_isCovered 27 = .ok (.ireturn, 1) := by decide +kernel
theorem dX7_isCovered_28 : decode cX7_isCovered 28 = .ok (.aload_n 1, 1) := by decide +kernel
theorem dX7_isCovered_29 : decode cX7_isCovered 29 = .ok (.getfield 311, 3) := by decide +kernel
theorem dX7_isCovered_32 : decode cX7_isCovered 32 = .ok (.getfield 91, 3) := by decide +kernel
theorem dX7_isCovered_35 : decode cX7_isCovered 35 = .ok (.iload_n 2, 1) := by decide +kernel
theorem dX7_isCovered_36 : decode cX7_isCovered 36 = .ok (.invokevirtual 377, 3) := by decide +kernel
theorem dX7_isCovered_39 : decode cX7_isCovered 39 = .ok (.ifCond .ne 19, 3) := by decide +kernel
theorem dX7_isCovered_42 : decode cX7_isCovered 42 = .ok (.aload_n 0, 1) := by decide +kernel
theorem dX7_isCovered_43 : decode cX7_isCovered 43 = .ok (.aload_n 1, 1) := by decide +kernel
theorem dX7_isCovered_44 : decode cX7_isCovered 44 = .ok (.getfield 311, 3) := by decide +kernel
theorem dX7_isCovered_47 : decode cX7_isCovered 47 = .ok (.iload_n 2, 1) := by decide +kernel
theorem dX7_isCovered_48 : decode cX7_isCovered 48 = .ok (.invokevirtual 380, 3) := by decide +kernel
theorem dX7_isCovered_51 : decode cX7_isCovered 51 = .ok (.ifCond .eq 7, 3) := by decide +kernel
theorem dX7_isCovered_54 : decode cX7_isCovered 54 = .ok (.iconst 1, 1) := by decide +kernel
theorem dX7_isCovered_55 : decode cX7_isCovered 55 = .ok (.goto 4, 3) := by decide +kernel
theorem dX7_isCovered_58 : decode cX7_isCovered 58 = .ok (.iconst 0, 1) := by decide +kernel
theorem dX7_isCovered_59 : decode cX7_isCovered 59 = .ok (.ireturn, 1) := by decide +kernel
set_option maxRecDepth 20000 in
theorem ggX7_costOf_X7_yearOfDay : GoodIn wsX7_costOf wsX7_yearOfDay := goodIn_r _ [10] (by decide +kernel) (by decide +kernel)
set_option maxRecDepth 20000 in
theorem gX7_costOf_X7_yearOfDay : GoodIn wsX7_costOf (va_wsS RX7 102 yX7_yearOfDay wsX7_yearOfDay) := goodIn_app (goodIn_of _ (by decide +kernel)) ggX7_costOf_X7_yearOfDay
set_option maxRecDepth 20000 in
theorem ggX7_costOf_X7_isFirstOfItsGroup : GoodIn wsX7_costOf wsX7_isFirstOfItsGroup := goodIn_r _ [14, 3, 15, 16, 17, 18, 19, 20, 21, 22, 84, 85, 86, 87, 88, 89, 90, 91, 92, 93, 94, 95, 96, 97, 98, 99, 100, 101, 102, 103, 104, 105] (by decide +kernel) (by decide +kernel)
set_option maxRecDepth 20000 in
theorem gX7_costOf_X7_isFirstOfItsGroup : GoodIn wsX7_costOf (wsV RX7 384 RX7 yX7_isFirstOfItsGroup wsX7_isFirstOfItsGroup) := goodIn_app (goodIn_of _ (by decide +kernel)) ggX7_costOf_X7_isFirstOfItsGroup
set_option maxRecDepth 20000 in
theorem ggX7_costOf_X7_isCovered : GoodIn wsX7_costOf wsX7_isCovered := goodIn_r _ [26, 4, 1, 27, 28, 29, 30, 31, 7, 8, 9, 10, 32, 33, 34, 35, 36, 37, 38, 39, 40, 41, 42, 43, 44, 45, 46, 47, 48, 49, 50, 51, 98, 99, 100, 101, 102, 103, 104, 105, 81, 82, 83, 84, 85, 86, 87, 88, 89, 90, 91, 92, 93, 94, 95, 96, 97, 106, 107, 108, 109, 110, 111, 112, 113, 114, 115, 116, 117, 118, 119, 120, 121, 122, 123, 124] (by decide +kernel) (by decide +kernel)
set_option maxRecDepth 20000 in
theorem gX7_costOf_X7_isCovered : GoodIn wsX7_costOf (wsV RX7 221 RX7 yX7_isCovered wsX7_isCovered) := goodIn_app (goodIn_of _ (by decide +kernel)) ggX7_costOf_X7_isCovered
set_option maxRecDepth 20000 in
theorem ggX7_costOf_X7_lossesOfGroup : GoodIn wsX7_costOf wsX7_lossesOfGroup := goodIn_r _ [55, 2, 3, 15, 16, 17, 18, 19, 20, 21, 22, 56, 57, 58, 59, 60, 61, 62, 63, 64, 65, 66, 84, 85, 86, 87, 88, 89, 90, 91, 92, 93, 94, 95, 96, 97, 98, 99, 100, 101, 102, 103, 104, 105, 113, 114, 115, 116] (by decide +kernel) (by decide +kernel)
set_option maxRecDepth 20000 in
theorem gX7_costOf_X7_lossesOfGroup : GoodIn wsX7_costOf (wsV RX7 390 RX7 yX7_lossesOfGroup wsX7_lossesOfGroup) := goodIn_app (goodIn_of _ (by decide +kernel)) ggX7_costOf_X7_lossesOfGroup
set_option maxRecDepth 20000 in
theorem ggX7_costOf_X4_applied : GoodIn wsX7_costOf wsX4_applied := goodIn_r _ [71, 72, 73, 74, 65, 75, 76, 77, 78, 79, 80, 125, 126] (by decide +kernel) (by decide +kernel)
set_option maxRecDepth 20000 in
theorem gX7_costOf_X4_applied : GoodIn wsX7_costOf (wsV RX7 393 RX4 yX4_applied wsX4_applied) := goodIn_app (goodIn_of _ (by decide +kernel)) ggX7_costOf_X4_applied
theorem dX7_costOf_0 : decode cX7_costOf 0 = .ok (.aload_n 1, 1) := by decide +kernel
theorem dX7_costOf_1 : decode cX7_costOf 1 = .ok (.getfield 170, 3) := by decide +kernel
theorem dX7_costOf_4 : decode cX7_costOf 4 = .ok (.invokestatic 102, 3) := by decide +kernel
theorem dX7_costOf_7 : decode cX7_costOf 7 = .ok (.istore_n 2, 1) := by decide +kernel
theorem dX7_costOf_8 : decode cX7_costOf 8 = .ok (.lconst 0, 1) := by decide +kernel
theorem dX7_costOf_9 : decode cX7_costOf 9 = .ok (.lstore_n 3, 1) := by decide +kernel
theorem dX7_costOf_10 : decode cX7_costOf 10 = .ok (.iconst 0, 1) := by decide +kernel
theorem dX7_costOf_11 : decode cX7_costOf 11 = .ok (.istore 5, 2) := by decide +kernel
theorem dX7_costOf_13 : decode cX7_costOf 13 = .ok (.iload 5, 2) := by decide +kernel
theorem dX7_costOf_15 : decode cX7_costOf 15 = .ok (.aload_n 0, 1) := by decide +kernel
theorem dX7_costOf_16 : decode cX7_costOf 16 = .ok (.getfield 299, 3) := by decide +kernel
theorem dX7_costOf_19 : decode cX7_costOf 19 = .ok (.if_icmp .ge 67, 3) := by decide +kernel
theorem dX7_costOf_22 : decode cX7_costOf 22 = .ok (.aload_n 0, 1) := by decide +kernel
theorem dX7_costOf_23 : decode cX7_costOf 23 = .ok (.getfield 29, 3) := by decide +kernel
theorem dX7_costOf_26 : decode cX7_costOf 26 = .ok (.iload 5, 2) := by decide +kernel
theorem dX7_costOf_28 : decode cX7_costOf 28 = .ok (.aaload, 1) := by decide +kernel
theorem dX7_costOf_29 : decode cX7_costOf 29 = .ok (.astore 6, 2) := by decide +kernel
theorem dX7_costOf_31 : decode cX7_costOf 31 = .ok (.aload 6, 2) := by decide +kernel
theorem dX7_costOf_33 : decode cX7_costOf 33 = .ok (.getfield 214, 3) := by decide +kernel
theorem dX7_costOf_36 : decode cX7_costOf 36 = .ok (.aload_n 1, 1) := by decide +kernel
theorem dX7_costOf_37 : decode cX7_costOf 37 = .ok (.if_acmp .ne 43, 3) := by decide +kernel
theorem dX7_costOf_40 : decode cX7_costOf 40 = .ok (.aload_n 0, 1) := by decide +kernel
theorem dX7_costOf_41 : decode cX7_costOf 41 = .ok (.iload 5, 2) := by decide +kernel
theorem dX7_costOf_43 : decode cX7_costOf 43 = .ok (.invokevirtual 384, 3) := by decide +kernel
theorem dX7_costOf_46 : decode cX7_costOf 46 = .ok (.ifCond .eq 34, 3) := by decide +kernel
theorem dX7_costOf_49 : decode cX7_costOf 49 = .ok (.aload_n 0, 1) := by decide +kernel
theorem dX7_costOf_50 : decode cX7_costOf 50 = .ok (.aload 6, 2) := by decide +kernel
theorem dX7_costOf_52 : decode cX7_costOf 52 = .ok (.invokevirtual 221, 3) := by decide +kernel
theorem dX7_costOf_55 : decode cX7_costOf 55 = .ok (.ifCond .eq 25, 3) := by decide +kernel
theorem dX7_costOf_58 : decode cX7_costOf 58 = .ok (.lload_n 3, 1) := by decide +kernel
theorem dX7_costOf_59 : decode cX7_costOf 59 = .ok (.aload_n 0, 1) := by decide +kernel
theorem dX7_costOf_60 : decode cX7_costOf 60 = .ok (.getfield 48, 3) := by decide +kernel
theorem dX7_costOf_63 : decode cX7_costOf 63 = .ok (.aload 6, 2) := by decide +kernel
theorem dX7_costOf_65 : decode cX7_costOf 65 = .ok (.getfield 387, 3) := by decide +kernel
theorem dX7_costOf_68 : decode cX7_costOf 68 = .ok (.iload_n 2, 1) := by decide +kernel
theorem dX7_costOf_69 : decode cX7_costOf 69 = .ok (.aload_n 0, 1) := by decide +kernel
theorem dX7_costOf_70 : decode cX7_costOf 70 = .ok (.iload 5, 2) := by decide +kernel
theorem dX7_costOf_72 : decode cX7_costOf 72 = .ok (.invokevirtual 390, 3) := by decide +kernel
theorem dX7_costOf_75 : decode cX7_costOf 75 = .ok (.invokevirtual 393, 3) := by decide +kernel
theorem dX7_costOf_78 : decode cX7_costOf 78 = .ok (.ladd, 1) := by decide +kernel
theorem dX7_costOf_79 : decode cX7_costOf 79 = .ok (.lstore_n 3, 1) := by decide +kernel
theorem dX7_costOf_80 : decode cX7_costOf 80 = .ok (.iinc 5 1, 3) := by decide +kernel
theorem dX7_costOf_83 : decode cX7_costOf 83 = .ok (.goto (-70), 3) := by decide +kernel
theorem dX7_costOf_86 : decode cX7_costOf 86 = .ok (.lload_n 3, 1) := by decide +kernel
theorem dX7_costOf_87 : decode cX7_costOf 87 = .ok (.lreturn, 1) := by decide +kernel
set_option maxRecDepth 20000 in
theorem ggX7_isFirstOfItsGroup_X0_isOfGroup : GoodIn wsX7_isFirstOfItsGroup wsX0_isOfGroup := goodIn_r _ [6, 7, 8, 9, 24, 25, 26, 27, 28, 29, 30, 31] (by decide +kernel) (by decide +kernel)
set_option maxRecDepth 20000 in
theorem gX7_isFirstOfItsGroup_X0_isOfGroup : GoodIn wsX7_isFirstOfItsGroup (wsV RX7 397 RX0 yX0_isOfGroup wsX0_isOfGroup) := goodIn_app (goodIn_of _ (by decide +kernel)) ggX7_isFirstOfItsGroup_X0_isOfGroup
theorem dX7_isFirstOfItsGroup_0 : decode cX7_isFirstOfItsGroup 0 = .ok (.iconst 0, 1) := by decide +kernel
theorem dX7_isFirstOfItsGroup_1 : decode cX7_isFirstOfItsGroup 1 = .ok (.istore_n 2, 1) := by decide +kernel
theorem dX7_isFirstOfItsGroup_2 : decode cX7_isFirstOfItsGroup 2 = .ok (.iload_n 2, 1) := by decide +kernel
theorem dX7_isFirstOfItsGroup_3 : decode cX7_isFirstOfItsGroup 3 = .ok (.iload_n 1, 1) := by decide +kernel
theorem dX7_isFirstOfItsGroup_4 : decode cX7_isFirstOfItsGroup 4 = .ok (.if_icmp .ge 29, 3) := by decide +kernel
theorem dX7_isFirstOfItsGroup_7 : decode cX7_isFirstOfItsGroup 7 = .ok (.aload_n 0, 1) := by decide +kernel
theorem dX7_isFirstOfItsGroup_8 : decode cX7_isFirstOfItsGroup 8 = .ok (.getfield 29, 3) := by decide +kernel
theorem dX7_isFirstOfItsGroup_11 : decode cX7_isFirstOfItsGroup 11 = .ok (.iload_n 2, 1) := by decide +kernel
theorem dX7_isFirstOfItsGroup_12 : decode cX7_isFirstOfItsGroup 12 = .ok (.aaload, 1) := by decide +kernel
theorem dX7_isFirstOfItsGroup_13 : decode cX7_isFirstOfItsGroup 13 = .ok (.aload_n 0, 1) := by decide +kernel
theorem dX7_isFirstOfItsGroup_14 : decode cX7_isFirstOfItsGroup 14 = .ok (.getfield 29, 3) := by decide +kernel
theorem dX7_isFirstOfItsGroup_17 : decode cX7_isFirstOfItsGroup 17 = .ok (.iload_n 1, 1) := by decide +kernel
theorem dX7_isFirstOfItsGroup_18 : decode cX7_isFirstOfItsGroup 18 = .ok (.aaload, 1) := by decide +kernel
theorem dX7_isFirstOfItsGroup_19 : decode cX7_isFirstOfItsGroup 19 = .ok (.invokevirtual 397, 3) := by decide +kernel
theorem dX7_isFirstOfItsGroup_22 : decode cX7_isFirstOfItsGroup 22 = .ok (.ifCond .eq 5, 3) := by decide +kernel
theorem dX7_isFirstOfItsGroup_25 : decode cX7_isFirstOfItsGroup 25 = .ok (.iconst 0, 1) := by decide +kernel
theorem dX7_isFirstOfItsGroup_26 : decode cX7_isFirstOfItsGroup 26 = .ok (.ireturn, 1) := by decide +kernel
theorem dX7_isFirstOfItsGroup_27 : decode cX7_isFirstOfItsGroup 27 = .ok (.iinc 2 1, 3) := by decide +kernel
theorem dX7_isFirstOfItsGroup_30 : decode cX7_isFirstOfItsGroup 30 = .ok (.goto (-28), 3) := by decide +kernel
theorem dX7_isFirstOfItsGroup_33 : decode cX7_isFirstOfItsGroup 33 = .ok (.iconst 1, 1) := by decide +kernel
theorem dX7_isFirstOfItsGroup_34 : decode cX7_isFirstOfItsGroup 34 = .ok (.ireturn, 1) := by decide +kernel
set_option maxRecDepth 20000 in
theorem ggX7_lossesOfGroup_X0_isOfGroup : GoodIn wsX7_lossesOfGroup wsX0_isOfGroup := goodIn_r _ [7, 8, 9, 10, 36, 37, 38, 39, 40, 41, 42, 43] (by decide +kernel) (by decide +kernel)
set_option maxRecDepth 20000 in
theorem gX7_lossesOfGroup_X0_isOfGroup : GoodIn wsX7_lossesOfGroup (wsV RX7 397 RX0 yX0_isOfGroup wsX0_isOfGroup) := goodIn_app (goodIn_of _ (by decide +kernel)) ggX7_lossesOfGroup_X0_isOfGroup
set_option maxRecDepth 20000 in
theorem ggX7_lossesOfGroup_X0_limitedLoss : GoodIn wsX7_lossesOfGroup wsX0_limitedLoss := goodIn_r _ [14, 15, 16, 9, 17, 18, 19, 20, 21, 36, 37, 38, 39, 40, 41, 42, 43, 44, 45, 46, 47] (by decide +kernel) (by decide +kernel)
set_option maxRecDepth 20000 in
theorem gX7_lossesOfGroup_X0_limitedLoss : GoodIn wsX7_lossesOfGroup (wsV RX7 228 RX0 yX0_limitedLoss wsX0_limitedLoss) := goodIn_app (goodIn_of _ (by decide +kernel)) ggX7_lossesOfGroup_X0_limitedLoss
theorem dX7_lossesOfGroup_0 : decode cX7_lossesOfGroup 0 = .ok (.lconst 0, 1) := by decide +kernel
theorem dX7_lossesOfGroup_1 : decode cX7_lossesOfGroup 1 = .ok (.lstore_n 2, 1) := by decide +kernel
theorem dX7_lossesOfGroup_2 : decode cX7_lossesOfGroup 2 = .ok (.iload_n 1, 1) := by decide +kernel
theorem dX7_lossesOfGroup_3 : decode cX7_lossesOfGroup 3 = .ok (.istore 4, 2) := by decide +kernel
theorem dX7_lossesOfGroup_5 : decode cX7_lossesOfGroup 5 = .ok (.iload 4, 2) := by decide +kernel
theorem dX7_lossesOfGroup_7 : decode cX7_lossesOfGroup 7 = .ok (.aload_n 0, 1) := by decide +kernel
theorem dX7_lossesOfGroup_8 : decode cX7_lossesOfGroup 8 = .ok (.getfield 299, 3) := by decide +kernel
theorem dX7_lossesOfGroup_11 : decode cX7_lossesOfGroup 11 = .ok (.if_icmp .ge 42, 3) := by decide +kernel
theorem dX7_lossesOfGroup_14 : decode cX7_lossesOfGroup 14 = .ok (.aload_n 0, 1) := by decide +kernel
theorem dX7_lossesOfGroup_15 : decode cX7_lossesOfGroup 15 = .ok (.getfield 29, 3) := by decide +kernel
theorem dX7_lossesOfGroup_18 : decode cX7_lossesOfGroup 18 = .ok (.iload 4, 2) := by decide +kernel
theorem dX7_lossesOfGroup_20 : decode cX7_lossesOfGroup 20 = .ok (.aaload, 1) := by decide +kernel
theorem dX7_lossesOfGroup_21 : decode cX7_lossesOfGroup 21 = .ok (.aload_n 0, 1) := by decide +kernel
theorem dX7_lossesOfGroup_22 : decode cX7_lossesOfGroup 22 = .ok (.getfield 29, 3) := by decide +kernel
theorem dX7_lossesOfGroup_25 : decode cX7_lossesOfGroup 25 = .ok (.iload_n 1, 1) := by decide +kernel
theorem dX7_lossesOfGroup_26 : decode cX7_lossesOfGroup 26 = .ok (.aaload, 1) := by decide +kernel
theorem dX7_lossesOfGroup_27 : decode cX7_lossesOfGroup 27 = .ok (.invokevirtual 397, 3) := by decide +kernel
theorem dX7_lossesOfGroup_30 : decode cX7_lossesOfGroup 30 = .ok (.ifCond .eq 17, 3) := by decide +kernel
theorem dX7_lossesOfGroup_33 : decode cX7_lossesOfGroup 33 = .ok (.lload_n 2, 1) := by decide +kernel
theorem dX7_lossesOfGroup_34 : decode cX7_lossesOfGroup 34 = .ok (.aload_n 0, 1) := by decide +kernel
theorem dX7_lossesOfGroup_35 : decode cX7_lossesOfGroup 35 = .ok (.getfield 29, 3) := by decide +kernel
theorem dX7_lossesOfGroup_38 : decode cX7_lossesOfGroup 38 = .ok (.iload 4, 2) := by decide +kernel
theorem dX7_lossesOfGroup_40 : decode cX7_lossesOfGroup 40 = .ok (.aaload, 1) := by decide +kernel
theorem dX7_lossesOfGroup_41 : decode cX7_lossesOfGroup 41 = .ok (.invokevirtual 228, 3) := by decide +kernel
theorem dX7_lossesOfGroup_44 : decode cX7_lossesOfGroup 44 = .ok (.i2l, 1) := by decide +kernel
theorem dX7_lossesOfGroup_45 : decode cX7_lossesOfGroup 45 = .ok (.ladd, 1) := by decide +kernel
theorem dX7_lossesOfGroup_46 : decode cX7_lossesOfGroup 46 = .ok (.lstore_n 2, 1) := by decide +kernel
theorem dX7_lossesOfGroup_47 : decode cX7_lossesOfGroup 47 = .ok (.iinc 4 1, 3) := by decide +kernel
theorem dX7_lossesOfGroup_50 : decode cX7_lossesOfGroup 50 = .ok (.goto (-45), 3) := by decide +kernel
theorem dX7_lossesOfGroup_53 : decode cX7_lossesOfGroup 53 = .ok (.lload_n 2, 1) := by decide +kernel
theorem dX7_lossesOfGroup_54 : decode cX7_lossesOfGroup 54 = .ok (.lreturn, 1) := by decide +kernel
set_option maxRecDepth 20000 in
theorem ggX7_borneOf_X7_yearOfDay : GoodIn wsX7_borneOf wsX7_yearOfDay := goodIn_r _ [6] (by decide +kernel) (by decide +kernel)
set_option maxRecDepth 20000 in
theorem gX7_borneOf_X7_yearOfDay : GoodIn wsX7_borneOf (va_wsS RX7 102 yX7_yearOfDay wsX7_yearOfDay) := goodIn_app (goodIn_of _ (by decide +kernel)) ggX7_borneOf_X7_yearOfDay
set_option maxRecDepth 20000 in
theorem ggX7_borneOf_X7_costOf : GoodIn wsX7_borneOf wsX7_costOf := goodIn_r _ [10, 2, 11, 12, 13, 14, 15, 3, 4, 5, 6, 16, 17, 18, 19, 20, 21, 22, 23, 24, 25, 26, 27, 28, 29, 30, 31, 1, 32, 33, 34, 35, 36, 37, 38, 39, 40, 41, 42, 43, 44, 45, 46, 47, 48, 49, 50, 51, 52, 53, 54, 55, 56, 57, 58, 59, 60, 61, 62, 63, 64, 65, 66, 67, 68, 69, 70, 71, 72, 73, 74, 75, 76, 77, 78, 79, 80, 81, 82, 83, 84, 111, 112, 113, 97, 98, 99, 100, 101, 102, 103, 104, 105, 106, 107, 108, 109, 110, 114, 115, 116, 117, 118, 119, 120, 121, 122, 123, 124, 125, 126, 127, 128, 129, 130, 131, 132, 133, 134, 135, 136, 137, 138, 139, 140, 141, 142] (by decide +kernel) (by decide +kernel)
set_option maxRecDepth 20000 in
theorem gX7_borneOf_X7_costOf : GoodIn wsX7_borneOf (wsV RX7 232 RX7 yX7_costOf wsX7_costOf) := goodIn_app (goodIn_of _ (by decide +kernel)) ggX7_borneOf_X7_costOf
set_option maxRecDepth 20000 in
theorem ggX7_borneOf_X6_borneOf : GoodIn wsX7_borneOf wsX6_borneOf := goodIn_r _ [89, 90, 91, 92, 93, 78, 69, 79, 94, 95, 96, 82, 83, 122, 123, 124, 125, 126, 127, 128] (by decide +kernel) (by decide +kernel)
set_option maxRecDepth 20000 in
theorem gX7_borneOf_X6_borneOf : GoodIn wsX7_borneOf (wsV RX7 400 RX6 yX6_borneOf wsX6_borneOf) := goodIn_app (goodIn_of _ (by decide +kernel)) ggX7_borneOf_X6_borneOf
theorem dX7_borneOf_0 : decode cX7_borneOf 0 = .ok (.aload_n 0, 1) := by decide +kernel
theorem dX7_borneOf_1 : decode cX7_borneOf 1 = .ok (.getfield 41, 3) := by decide +kernel
theorem dX7_borneOf_4 : decode cX7_borneOf 4 = .ok (.aload_n 1, 1) := by decide +kernel
theorem dX7_borneOf_5 : decode cX7_borneOf 5 = .ok (.getfield 170, 3) := by decide +kernel
theorem dX7_borneOf_8 : decode cX7_borneOf 8 = .ok (.invokestatic 102, 3) := by decide +kernel
theorem dX7_borneOf_11 : decode cX7_borneOf 11 = .ok (.aaload, 1) := by decide +kernel
theorem dX7_borneOf_12 : decode cX7_borneOf 12 = .ok (.aload_n 0, 1) := by decide +kernel
theorem dX7_borneOf_13 : decode cX7_borneOf 13 = .ok (.aload_n 1, 1) := by decide +kernel
theorem dX7_borneOf_14 : decode cX7_borneOf 14 = .ok (.invokevirtual 232, 3) := by decide +kernel
theorem dX7_borneOf_17 : decode cX7_borneOf 17 = .ok (.invokevirtual 400, 3) := by decide +kernel
theorem dX7_borneOf_20 : decode cX7_borneOf 20 = .ok (.lreturn, 1) := by decide +kernel
set_option maxRecDepth 20000 in
theorem ggX7_costIn_X7_yearOfDay : GoodIn wsX7_costIn wsX7_yearOfDay := goodIn_r _ [7] (by decide +kernel) (by decide +kernel)
set_option maxRecDepth 20000 in
theorem gX7_costIn_X7_yearOfDay : GoodIn wsX7_costIn (va_wsS RX7 102 yX7_yearOfDay wsX7_yearOfDay) := goodIn_app (goodIn_of _ (by decide +kernel)) ggX7_costIn_X7_yearOfDay
set_option maxRecDepth 20000 in
theorem ggX7_costIn_X7_borneOf : GoodIn wsX7_costIn wsX7_borneOf := goodIn_r _ [11, 12, 3, 4, 5, 6, 7, 13, 14, 15, 16, 17, 18, 19, 20, 21, 22, 23, 24, 25, 26, 27, 28, 29, 30, 31, 32, 33, 34, 35, 36, 37, 38, 39, 40, 41, 42, 43, 44, 45, 46, 47, 48, 49, 50, 51, 52, 53, 54, 55, 56, 57, 58, 59, 60, 61, 62, 63, 64, 65, 66, 67, 68, 69, 70, 71, 72, 73, 74, 75, 76, 77, 78, 79, 80, 81, 82, 83, 84, 85, 86, 87, 88, 89, 90, 91, 92, 93, 94, 95, 96, 97, 98, 99, 100, 101, 102, 103, 104, 105, 106, 107, 108, 109, 110, 111, 112, 113, 114, 115, 116, 117, 118, 119, 120, 121, 122, 123, 124, 125, 126, 127, 128, 129, 130, 131, 132, 133, 134, 135, 136, 137, 138, 139, 140, 141, 142, 143, 144, 145, 146, 147, 148] (by decide +kernel) (by decide +kernel)
set_option maxRecDepth 20000 in
theorem gX7_costIn_X7_borneOf : GoodIn wsX7_costIn (wsV RX7 236 RX7 yX7_borneOf wsX7_borneOf) := goodIn_app (goodIn_of _ (by decide +kernel)) ggX7_costIn_X7_borneOf
theorem dX7_costIn_0 : decode cX7_costIn 0 = .ok (.lconst 0, 1) := by decide +kernel
theorem dX7_costIn_1 : decode cX7_costIn 1 = .ok (.lstore_n 2, 1) := by decide +kernel
theorem dX7_costIn_2 : decode cX7_costIn 2 = .ok (.iconst 0, 1) := by decide +kernel
theorem dX7_costIn_3 : decode cX7_costIn 3 = .ok (.istore 4, 2) := by decide +kernel
theorem dX7_costIn_5 : decode cX7_costIn 5 = .ok (.iload 4, 2) := by decide +kernel
theorem dX7_costIn_7 : decode cX7_costIn 7 = .ok (.aload_n 0, 1) := by decide +kernel
theorem dX7_costIn_8 : decode cX7_costIn 8 = .ok (.getfield 339, 3) := by decide +kernel
theorem dX7_costIn_11 : decode cX7_costIn 11 = .ok (.if_icmp .ge 40, 3) := by decide +kernel
theorem dX7_costIn_14 : decode cX7_costIn 14 = .ok (.aload_n 0, 1) := by decide +kernel
theorem dX7_costIn_15 : decode cX7_costIn 15 = .ok (.getfield 35, 3) := by decide +kernel
theorem dX7_costIn_18 : decode cX7_costIn 18 = .ok (.iload 4, 2) := by decide +kernel
theorem dX7_costIn_20 : decode cX7_costIn 20 = .ok (.aaload, 1) := by decide +kernel
theorem dX7_costIn_21 : decode cX7_costIn 21 = .ok (.getfield 170, 3) := by decide +kernel
theorem dX7_costIn_24 : decode cX7_costIn 24 = .ok (.invokestatic 102, 3) := by decide +kernel
theorem dX7_costIn_27 : decode cX7_costIn 27 = .ok (.iload_n 1, 1) := by decide +kernel
theorem dX7_costIn_28 : decode cX7_costIn 28 = .ok (.if_icmp .ne 17, 3) := by decide +kernel
theorem dX7_costIn_31 : decode cX7_costIn 31 = .ok (.lload_n 2, 1) := by decide +kernel
theorem dX7_costIn_32 : decode cX7_costIn 32 = .ok (.aload_n 0, 1) := by decide +kernel
theorem dX7_costIn_33 : decode cX7_costIn 33 = .ok (.aload_n 0, 1) := by decide +kernel
theorem dX7_costIn_34 : decode cX7_costIn 34 = .ok (.getfield 35, 3) := by decide +kernel
theorem dX7_costIn_37 : decode cX7_costIn 37 = .ok (.iload 4, 2) := by decide +kernel
theorem dX7_costIn_39 : decode cX7_costIn 39 = .ok (.aaload, 1) := by decide +kernel
theorem dX7_costIn_40 : decode cX7_costIn 40 = .ok (.invokevirtual 236, 3) := by decide +kernel
theorem dX7_costIn_43 : decode cX7_costIn 43 = .ok (.ladd, 1) := by decide +kernel
theorem dX7_costIn_44 : decode cX7_costIn 44 = .ok (.lstore_n 2, 1) := by decide +kernel
theorem dX7_costIn_45 : decode cX7_costIn 45 = .ok (.iinc 4 1, 3) := by decide +kernel
theorem dX7_costIn_48 : decode cX7_costIn 48 = .ok (.goto (-43), 3) := by decide +kernel
theorem dX7_costIn_51 : decode cX7_costIn 51 = .ok (.lload_n 2, 1) := by decide +kernel
theorem dX7_costIn_52 : decode cX7_costIn 52 = .ok (.lreturn, 1) := by decide +kernel
set_option maxRecDepth 20000 in
theorem ggX7_advanceOf_X7_weightIn : GoodIn wsX7_advanceOf wsX7_weightIn := goodIn_r _ [8, 9, 10, 11, 12, 13, 14, 15, 16, 17, 18, 19, 20, 21, 22, 23, 24, 25, 26, 27, 28, 29, 30, 31, 32, 33, 34, 35, 36, 37, 38, 39, 40, 41, 42, 43, 44, 45, 46, 47, 48, 56, 57, 58, 59, 60, 61, 62, 63, 64, 65, 66, 67] (by decide +kernel) (by decide +kernel)
set_option maxRecDepth 20000 in
theorem gX7_advanceOf_X7_weightIn : GoodIn wsX7_advanceOf (wsV RX7 139 RX7 yX7_weightIn wsX7_weightIn) := goodIn_app (goodIn_of _ (by decide +kernel)) ggX7_advanceOf_X7_weightIn
theorem dX7_advanceOf_0 : decode cX7_advanceOf 0 = .ok (.aload_n 0, 1) := by decide +kernel
theorem dX7_advanceOf_1 : decode cX7_advanceOf 1 = .ok (.aload_n 1, 1) := by decide +kernel
theorem dX7_advanceOf_2 : decode cX7_advanceOf 2 = .ok (.iload_n 2, 1) := by decide +kernel
theorem dX7_advanceOf_3 : decode cX7_advanceOf 3 = .ok (.invokevirtual 139, 3) := by decide +kernel
theorem dX7_advanceOf_6 : decode cX7_advanceOf 6 = .ok (.aload_n 0, 1) := by decide +kernel
theorem dX7_advanceOf_7 : decode cX7_advanceOf 7 = .ok (.getfield 41, 3) := by decide +kernel
theorem dX7_advanceOf_10 : decode cX7_advanceOf 10 = .ok (.iload_n 2, 1) := by decide +kernel
theorem dX7_advanceOf_11 : decode cX7_advanceOf 11 = .ok (.aaload, 1) := by decide +kernel
theorem dX7_advanceOf_12 : decode cX7_advanceOf 12 = .ok (.getfield 248, 3) := by decide +kernel
theorem dX7_advanceOf_15 : decode cX7_advanceOf 15 = .ok (.i2l, 1) := by decide +kernel
theorem dX7_advanceOf_16 : decode cX7_advanceOf 16 = .ok (.lmul, 1) := by decide +kernel
theorem dX7_advanceOf_17 : decode cX7_advanceOf 17 = .ok (.ldc2_w 403, 3) := by decide +kernel
theorem dX7_advanceOf_20 : decode cX7_advanceOf 20 = .ok (.ldiv, 1) := by decide +kernel
theorem dX7_advanceOf_21 : decode cX7_advanceOf 21 = .ok (.lreturn, 1) := by decide +kernel
set_option maxRecDepth 20000 in
theorem ggX7_dueOf_X7_advanceOf : GoodIn wsX7_dueOf wsX7_advanceOf := goodIn_r _ [11, 1, 12, 13, 14, 15, 16, 10, 17, 18, 19, 20, 21, 22, 23, 24, 25, 26, 27, 28, 29, 30, 31, 32, 33, 34, 35, 36, 37, 38, 39, 40, 41, 42, 43, 44, 45, 46, 47, 48, 49, 50, 51, 52, 53, 54, 55, 56, 57, 58, 59, 60, 61, 62, 63, 64, 70, 71, 72, 73, 74, 75, 76, 65, 66, 67, 68, 69] (by decide +kernel) (by decide +kernel)
set_option maxRecDepth 20000 in
theorem gX7_dueOf_X7_advanceOf : GoodIn wsX7_dueOf (wsV RX7 409 RX7 yX7_advanceOf wsX7_advanceOf) := goodIn_app (goodIn_of _ (by decide +kernel)) ggX7_dueOf_X7_advanceOf
theorem dX7_dueOf_0 : decode cX7_dueOf 0 = .ok (.aload_n 0, 1) := by decide +kernel
theorem dX7_dueOf_1 : decode cX7_dueOf 1 = .ok (.getfield 41, 3) := by decide +kernel
theorem dX7_dueOf_4 : decode cX7_dueOf 4 = .ok (.iload_n 2, 1) := by decide +kernel
theorem dX7_dueOf_5 : decode cX7_dueOf 5 = .ok (.aaload, 1) := by decide +kernel
theorem dX7_dueOf_6 : decode cX7_dueOf 6 = .ok (.getfield 266, 3) := by decide +kernel
theorem dX7_dueOf_9 : decode cX7_dueOf 9 = .ok (.ifCond .ne 12, 3) := by decide +kernel
theorem dX7_dueOf_12 : decode cX7_dueOf 12 = .ok (.aload_n 1, 1) := by decide +kernel
theorem dX7_dueOf_13 : decode cX7_dueOf 13 = .ok (.getfield 95, 3) := by decide +kernel
theorem dX7_dueOf_16 : decode cX7_dueOf 16 = .ok (.iload_n 2, 1) := by decide +kernel
theorem dX7_dueOf_17 : decode cX7_dueOf 17 = .ok (.baload, 1) := by decide +kernel
theorem dX7_dueOf_18 : decode cX7_dueOf 18 = .ok (.ifCond .eq 10, 3) := by decide +kernel
theorem dX7_dueOf_21 : decode cX7_dueOf 21 = .ok (.aload_n 1, 1) := by decide +kernel
theorem dX7_dueOf_22 : decode cX7_dueOf 22 = .ok (.getfield 405, 3) := by decide +kernel
theorem dX7_dueOf_25 : decode cX7_dueOf 25 = .ok (.iload_n 2, 1) := by decide +kernel
theorem dX7_dueOf_26 : decode cX7_dueOf 26 = .ok (.laload, 1) := by decide +kernel
theorem dX7_dueOf_27 : decode cX7_dueOf 27 = .ok (.lreturn, 1) := by decide +kernel
theorem dX7_dueOf_28 : decode cX7_dueOf 28 = .ok (.aload_n 0, 1) := by decide +kernel
theorem dX7_dueOf_29 : decode cX7_dueOf 29 = .ok (.aload_n 1, 1) := by decide +kernel
theorem dX7_dueOf_30 : decode cX7_dueOf 30 = .ok (.iload_n 2, 1) := by decide +kernel
theorem dX7_dueOf_31 : decode cX7_dueOf 31 = .ok (.invokevirtual 409, 3) := by decide +kernel
theorem dX7_dueOf_34 : decode cX7_dueOf 34 = .ok (.lstore_n 3, 1) := by decide +kernel
theorem dX7_dueOf_35 : decode cX7_dueOf 35 = .ok (.lload_n 3, 1) := by decide +kernel
theorem dX7_dueOf_36 : decode cX7_dueOf 36 = .ok (.lload_n 3, 1) := by decide +kernel
theorem dX7_dueOf_37 : decode cX7_dueOf 37 = .ok (.aload_n 0, 1) := by decide +kernel
theorem dX7_dueOf_38 : decode cX7_dueOf 38 = .ok (.getfield 41, 3) := by decide +kernel
theorem dX7_dueOf_41 : decode cX7_dueOf 41 = .ok (.iload_n 2, 1) := by decide +kernel
theorem dX7_dueOf_42 : decode cX7_dueOf 42 = .ok (.aaload, 1) := by decide +kernel
theorem dX7_dueOf_43 : decode cX7_dueOf 43 = .ok (.getfield 251, 3) := by decide +kernel
theorem dX7_dueOf_46 : decode cX7_dueOf 46 = .ok (.i2l, 1) := by decide +kernel
theorem dX7_dueOf_47 : decode cX7_dueOf 47 = .ok (.lmul, 1) := by decide +kernel
theorem dX7_dueOf_48 : decode cX7_dueOf 48 = .ok (.ldc2_w 375, 3) := by decide +kernel
theorem dX7_dueOf_51 : decode cX7_dueOf 51 = .ok (.ldiv, 1) := by decide +kernel
theorem dX7_dueOf_52 : decode cX7_dueOf 52 = .ok (.ladd, 1) := by decide +kernel
theorem dX7_dueOf_53 : decode cX7_dueOf 53 = .ok (.lreturn, 1) := by decide +kernel
set_option maxRecDepth 20000 in
theorem ggX7_owedBy_X7_dueOf : GoodIn wsX7_owedBy wsX7_dueOf := goodIn_r _ [6, 7, 8, 9, 10, 11, 12, 13, 14, 15, 5, 16, 17, 18, 19, 20, 21, 22, 23, 24, 25, 26, 27, 28, 29, 30, 31, 32, 33, 34, 35, 36, 37, 38, 39, 40, 41, 42, 43, 44, 45, 46, 47, 48, 54, 55, 56, 57, 58, 59, 60, 61, 62, 63, 64, 65, 66, 67, 68, 69, 70, 71, 72, 73, 74, 49, 50, 51, 52, 53, 75, 76, 77, 78, 79, 80, 81] (by decide +kernel) (by decide +kernel)
set_option maxRecDepth 20000 in
theorem gX7_owedBy_X7_dueOf : GoodIn wsX7_owedBy (wsV RX7 303 RX7 yX7_dueOf wsX7_dueOf) := goodIn_app (goodIn_of _ (by decide +kernel)) ggX7_owedBy_X7_dueOf
theorem dX7_owedBy_0 : decode cX7_owedBy 0 = .ok (.aload_n 1, 1) := by decide +kernel
theorem dX7_owedBy_1 : decode cX7_owedBy 1 = .ok (.getfield 276, 3) := by decide +kernel
theorem dX7_owedBy_4 : decode cX7_owedBy 4 = .ok (.lneg, 1) := by decide +kernel
theorem dX7_owedBy_5 : decode cX7_owedBy 5 = .ok (.lstore_n 2, 1) := by decide +kernel
theorem dX7_owedBy_6 : decode cX7_owedBy 6 = .ok (.iconst 0, 1) := by decide +kernel
theorem dX7_owedBy_7 : decode cX7_owedBy 7 = .ok (.istore 4, 2) := by decide +kernel
theorem dX7_owedBy_9 : decode cX7_owedBy 9 = .ok (.iload 4, 2) := by decide +kernel
theorem dX7_owedBy_11 : decode cX7_owedBy 11 = .ok (.bipush 20, 2) := by decide +kernel
theorem dX7_owedBy_13 : decode cX7_owedBy 13 = .ok (.if_icmp .ge 19, 3) := by decide +kernel
theorem dX7_owedBy_16 : decode cX7_owedBy 16 = .ok (.lload_n 2, 1) := by decide +kernel
theorem dX7_owedBy_17 : decode cX7_owedBy 17 = .ok (.aload_n 0, 1) := by decide +kernel
theorem dX7_owedBy_18 : decode cX7_owedBy 18 = .ok (.aload_n 1, 1) := by decide +kernel
theorem dX7_owedBy_19 : decode cX7_owedBy 19 = .ok (.iload 4, 2) := by decide +kernel
theorem dX7_owedBy_21 : decode cX7_owedBy 21 = .ok (.invokevirtual 303, 3) := by decide +kernel
theorem dX7_owedBy_24 : decode cX7_owedBy 24 = .ok (.ladd, 1) := by decide +kernel
theorem dX7_owedBy_25 : decode cX7_owedBy 25 = .ok (.lstore_n 2, 1) := by decide +kernel
theorem dX7_owedBy_26 : decode cX7_owedBy 26 = .ok (.iinc 4 1, 3) := by decide +kernel
theorem dX7_owedBy_29 : decode cX7_owedBy 29 = .ok (.goto (-20), 3) := by decide +kernel
theorem dX7_owedBy_32 : decode cX7_owedBy 32 = .ok (.lload_n 2, 1) := by decide +kernel
theorem dX7_owedBy_33 : decode cX7_owedBy 33 = .ok (.lreturn, 1) := by decide +kernel
set_option maxRecDepth 20000 in
theorem ggX7_releaseFrom_X7_advanceOf : GoodIn wsX7_releaseFrom wsX7_advanceOf := goodIn_r _ [8, 9, 10, 11, 12, 13, 14, 7, 15, 16, 17, 18, 19, 20, 21, 22, 23, 24, 25, 26, 27, 28, 29, 30, 31, 32, 33, 34, 35, 36, 37, 38, 39, 40, 41, 53, 54, 55, 56, 57, 58, 59, 60, 61, 62, 63, 64, 65, 66, 67, 68, 69, 70, 71, 72, 73, 74, 75, 76, 77, 78, 79, 80, 48, 49, 50, 51, 52] (by decide +kernel) (by decide +kernel)
set_option maxRecDepth 20000 in
theorem gX7_releaseFrom_X7_advanceOf : GoodIn wsX7_releaseFrom (wsV RX7 409 RX7 yX7_advanceOf wsX7_advanceOf) := goodIn_app (goodIn_of _ (by decide +kernel)) ggX7_releaseFrom_X7_advanceOf
set_option maxRecDepth 20000 in
theorem ggX7_releaseFrom_X7_dueOf : GoodIn wsX7_releaseFrom wsX7_dueOf := goodIn_r _ [45, 9, 46, 3, 2, 47, 1, 4, 5, 6, 7, 8, 10, 11, 12, 13, 14, 15, 16, 17, 18, 19, 20, 21, 22, 23, 24, 25, 26, 27, 28, 29, 30, 31, 32, 33, 34, 35, 36, 37, 38, 39, 40, 41, 53, 54, 55, 56, 57, 58, 59, 60, 61, 62, 63, 64, 65, 66, 67, 68, 69, 70, 71, 72, 73, 48, 49, 50, 51, 52, 74, 75, 76, 77, 78, 79, 80] (by decide +kernel) (by decide +kernel)
set_option maxRecDepth 20000 in
theorem gX7_releaseFrom_X7_dueOf : GoodIn wsX7_releaseFrom (wsV RX7 303 RX7 yX7_dueOf wsX7_dueOf) := goodIn_app (goodIn_of _ (by decide +kernel)) ggX7_releaseFrom_X7_dueOf
theorem dX7_releaseFrom_0 : decode cX7_releaseFrom 0 = .ok (.aload_n 0, 1) := by decide +kernel
theorem dX7_releaseFrom_1 : decode cX7_releaseFrom 1 = .ok (.aload_n 1, 1) := by decide +kernel
theorem dX7_releaseFrom_2 : decode cX7_releaseFrom 2 = .ok (.iload_n 2, 1) := by decide +kernel
theorem dX7_releaseFrom_3 : decode cX7_releaseFrom 3 = .ok (.invokevirtual 409, 3) := by decide +kernel
theorem dX7_releaseFrom_6 : decode cX7_releaseFrom 6 = .ok (.iload_n 3, 1) := by decide +kernel
theorem dX7_releaseFrom_7 : decode cX7_releaseFrom 7 = .ok (.i2l, 1) := by decide +kernel
theorem dX7_releaseFrom_8 : decode cX7_releaseFrom 8 = .ok (.lmul, 1) := by decide +kernel
theorem dX7_releaseFrom_9 : decode cX7_releaseFrom 9 = .ok (.ldc2_w 375, 3) := by decide +kernel
theorem dX7_releaseFrom_12 : decode cX7_releaseFrom 12 = .ok (.ldiv, 1) := by decide +kernel
theorem dX7_releaseFrom_13 : decode cX7_releaseFrom 13 = .ok (.lstore 4, 2) := by decide +kernel
theorem dX7_releaseFrom_15 : decode cX7_releaseFrom 15 = .ok (.aload_n 1, 1) := by decide +kernel
theorem dX7_releaseFrom_16 : decode cX7_releaseFrom 16 = .ok (.getfield 405, 3) := by decide +kernel
theorem dX7_releaseFrom_19 : decode cX7_releaseFrom 19 = .ok (.iload_n 2, 1) := by decide +kernel
theorem dX7_releaseFrom_20 : decode cX7_releaseFrom 20 = .ok (.aload_n 0, 1) := by decide +kernel
theorem dX7_releaseFrom_21 : decode cX7_releaseFrom 21 = .ok (.aload_n 1, 1) := by decide +kernel
theorem dX7_releaseFrom_22 : decode cX7_releaseFrom 22 = .ok (.iload_n 2, 1) := by decide +kernel
theorem dX7_releaseFrom_23 : decode cX7_releaseFrom 23 = .ok (.invokevirtual 303, 3) := by decide +kernel
theorem dX7_releaseFrom_26 : decode cX7_releaseFrom 26 = .ok (.lload 4, 2) := by decide +kernel
theorem dX7_releaseFrom_28 : decode cX7_releaseFrom 28 = .ok (.ladd, 1) := by decide +kernel
theorem dX7_releaseFrom_29 : decode cX7_releaseFrom 29 = .ok (.lastore, 1) := by decide +kernel
theorem dX7_releaseFrom_30 : decode cX7_releaseFrom 30 = .ok (.aload_n 1, 1) := by decide +kernel
theorem dX7_releaseFrom_31 : decode cX7_releaseFrom 31 = .ok (.getfield 95, 3) := by decide +kernel
theorem dX7_releaseFrom_34 : decode cX7_releaseFrom 34 = .ok (.iload_n 2, 1) := by decide +kernel
theorem dX7_releaseFrom_35 : decode cX7_releaseFrom 35 = .ok (.iconst 1, 1) := by decide +kernel
theorem dX7_releaseFrom_36 : decode cX7_releaseFrom 36 = .ok (.bastore, 1) := by decide +kernel
theorem dX7_releaseFrom_37 : decode cX7_releaseFrom 37 = .ok (.return_, 1) := by decide +kernel
theorem dX7_dueOfReleased_0 : decode cX7_dueOfReleased 0 = .ok (.lconst 0, 1) := by decide +kernel
theorem dX7_dueOfReleased_1 : decode cX7_dueOfReleased 1 = .ok (.lstore_n 2, 1) := by decide +kernel
theorem dX7_dueOfReleased_2 : decode cX7_dueOfReleased 2 = .ok (.iconst 0, 1) := by decide +kernel
theorem dX7_dueOfReleased_3 : decode cX7_dueOfReleased 3 = .ok (.istore 4, 2) := by decide +kernel
theorem dX7_dueOfReleased_5 : decode cX7_dueOfReleased 5 = .ok (.iload 4, 2) := by decide +kernel
theorem dX7_dueOfReleased_7 : decode cX7_dueOfReleased 7 = .ok (.aload_n 0, 1) := by decide +kernel
theorem dX7_dueOfReleased_8 : decode cX7_dueOfReleased 8 = .ok (.getfield 53, 3) := by decide +kernel
theorem dX7_dueOfReleased_11 : decode cX7_dueOfReleased 11 = .ok (.if_icmp .ge 39, 3) := by decide +kernel
theorem dX7_dueOfReleased_14 : decode cX7_dueOfReleased 14 = .ok (.aload_n 0, 1) := by decide +kernel
theorem dX7_dueOfReleased_15 : decode cX7_dueOfReleased 15 = .ok (.getfield 11, 3) := by decide +kernel
theorem dX7_dueOfReleased_18 : decode cX7_dueOfReleased 18 = .ok (.iload 4, 2) := by decide +kernel
theorem dX7_dueOfReleased_20 : decode cX7_dueOfReleased 20 = .ok (.aaload, 1) := by decide +kernel
theorem dX7_dueOfReleased_21 : decode cX7_dueOfReleased 21 = .ok (.getfield 95, 3) := by decide +kernel
theorem dX7_dueOfReleased_24 : decode cX7_dueOfReleased 24 = .ok (.iload_n 1, 1) := by decide +kernel
theorem dX7_dueOfReleased_25 : decode cX7_dueOfReleased 25 = .ok (.baload, 1) := by decide +kernel
theorem dX7_dueOfReleased_26 : decode cX7_dueOfReleased 26 = .ok (.ifCond .eq 18, 3) := by decide +kernel
theorem dX7_dueOfReleased_29 : decode cX7_dueOfReleased 29 = .ok (.lload_n 2, 1) := by decide +kernel
theorem dX7_dueOfReleased_30 : decode cX7_dueOfReleased 30 = .ok (.aload_n 0, 1) := by decide +kernel
theorem dX7_dueOfReleased_31 : decode cX7_dueOfReleased 31 = .ok (.getfield 11, 3) := by decide +kernel
theorem dX7_dueOfReleased_34 : decode cX7_dueOfReleased 34 = .ok (.iload 4, 2) := by decide +kernel
theorem dX7_dueOfReleased_36 : decode cX7_dueOfReleased 36 = .ok (.aaload, 1) := by decide +kernel
theorem dX7_dueOfReleased_37 : decode cX7_dueOfReleased 37 = .ok (.getfield 405, 3) := by decide +kernel
theorem dX7_dueOfReleased_40 : decode cX7_dueOfReleased 40 = .ok (.iload_n 1, 1) := by decide +kernel
theorem dX7_dueOfReleased_41 : decode cX7_dueOfReleased 41 = .ok (.laload, 1) := by decide +kernel
theorem dX7_dueOfReleased_42 : decode cX7_dueOfReleased 42 = .ok (.ladd, 1) := by decide +kernel
theorem dX7_dueOfReleased_43 : decode cX7_dueOfReleased 43 = .ok (.lstore_n 2, 1) := by decide +kernel
theorem dX7_dueOfReleased_44 : decode cX7_dueOfReleased 44 = .ok (.iinc 4 1, 3) := by decide +kernel
theorem dX7_dueOfReleased_47 : decode cX7_dueOfReleased 47 = .ok (.goto (-42), 3) := by decide +kernel
theorem dX7_dueOfReleased_50 : decode cX7_dueOfReleased 50 = .ok (.lload_n 2, 1) := by decide +kernel
theorem dX7_dueOfReleased_51 : decode cX7_dueOfReleased 51 = .ok (.lreturn, 1) := by decide +kernel
set_option maxRecDepth 20000 in
theorem ggX7_isShared_X7_weightIn : GoodIn wsX7_isShared wsX7_weightIn := goodIn_r _ [6, 7, 8, 9, 10, 11, 12, 13, 14, 15, 16, 17, 18, 19, 20, 21, 22, 23, 24, 25, 26, 27, 28, 29, 30, 31, 32, 38, 39, 40, 41, 42, 43, 44, 45, 46, 47, 48, 49, 50, 51, 52, 53, 54, 55, 56, 57, 58, 33, 34, 35, 36, 37] (by decide +kernel) (by decide +kernel)
set_option maxRecDepth 20000 in
theorem gX7_isShared_X7_weightIn : GoodIn wsX7_isShared (wsV RX7 139 RX7 yX7_weightIn wsX7_weightIn) := goodIn_app (goodIn_of _ (by decide +kernel)) ggX7_isShared_X7_weightIn
theorem dX7_isShared_0 : decode cX7_isShared 0 = .ok (.aload_n 1, 1) := by decide +kernel
theorem dX7_isShared_1 : decode cX7_isShared 1 = .ok (.getfield 95, 3) := by decide +kernel
theorem dX7_isShared_4 : decode cX7_isShared 4 = .ok (.iload_n 2, 1) := by decide +kernel
theorem dX7_isShared_5 : decode cX7_isShared 5 = .ok (.baload, 1) := by decide +kernel
theorem dX7_isShared_6 : decode cX7_isShared 6 = .ok (.ifCond .ne 18, 3) := by decide +kernel
theorem dX7_isShared_9 : decode cX7_isShared 9 = .ok (.aload_n 0, 1) := by decide +kernel
theorem dX7_isShared_10 : decode cX7_isShared 10 = .ok (.aload_n 1, 1) := by decide +kernel
theorem dX7_isShared_11 : decode cX7_isShared 11 = .ok (.iload_n 2, 1) := by decide +kernel
theorem dX7_isShared_12 : decode cX7_isShared 12 = .ok (.invokevirtual 139, 3) := by decide +kernel
theorem dX7_isShared_15 : decode cX7_isShared 15 = .ok (.lconst 0, 1) := by decide +kernel
theorem dX7_isShared_16 : decode cX7_isShared 16 = .ok (.lcmp, 1) := by decide +kernel
theorem dX7_isShared_17 : decode cX7_isShared 17 = .ok (.ifCond .le 7, 3) := by decide +kernel
theorem dX7_isShared_20 : decode cX7_isShared 20 = .ok (.iconst 1, 1) := by decide +kernel
theorem dX7_isShared_21 : decode cX7_isShared 21 = .ok (.goto 4, 3) := by decide +kernel
theorem dX7_isShared_24 : decode cX7_isShared 24 = .ok (.iconst 0, 1) := by decide +kernel
theorem dX7_isShared_25 : decode cX7_isShared 25 = .ok (.ireturn, 1) := by decide +kernel
set_option maxRecDepth 20000 in
theorem ggX7_share_X7_isShared : GoodIn wsX7_share wsX7_isShared := goodIn_r _ [9, 10, 11, 12, 13, 8, 14, 15, 16, 17, 18, 19, 20, 21, 22, 23, 24, 25, 26, 27, 28, 29, 30, 31, 32, 33, 34, 35, 36, 37, 38, 39, 40, 63, 64, 65, 66, 67, 49, 50, 51, 52, 53, 54, 55, 56, 57, 58, 59, 60, 61, 62, 68, 69, 70, 71, 72, 73, 74] (by decide +kernel) (by decide +kernel)
set_option maxRecDepth 20000 in
theorem gX7_share_X7_isShared : GoodIn wsX7_share (wsV RX7 262 RX7 yX7_isShared wsX7_isShared) := goodIn_app (goodIn_of _ (by decide +kernel)) ggX7_share_X7_isShared
set_option maxRecDepth 20000 in
theorem ggX7_share_X7_weightIn : GoodIn wsX7_share wsX7_weightIn := goodIn_r _ [14, 15, 16, 17, 18, 19, 20, 21, 22, 23, 24, 25, 26, 27, 28, 29, 30, 31, 32, 33, 34, 35, 36, 37, 38, 39, 40, 49, 50, 51, 52, 53, 54, 55, 56, 57, 58, 59, 60, 61, 62, 68, 69, 70, 71, 72, 73, 74, 63, 64, 65, 66, 67] (by decide +kernel) (by decide +kernel)
set_option maxRecDepth 20000 in
theorem gX7_share_X7_weightIn : GoodIn wsX7_share (wsV RX7 139 RX7 yX7_weightIn wsX7_weightIn) := goodIn_app (goodIn_of _ (by decide +kernel)) ggX7_share_X7_weightIn
set_option maxRecDepth 20000 in
theorem ggX7_share_J9_floorDiv_f86c9 : GoodIn wsX7_share wsJ9_floorDiv_f86c9 := goodIn_r _ [44] (by decide +kernel) (by decide +kernel)
set_option maxRecDepth 20000 in
theorem gX7_share_J9_floorDiv_f86c9 : GoodIn wsX7_share (va_wsS RX7 412 yJ9_floorDiv_f86c9 wsJ9_floorDiv_f86c9) := goodIn_app (goodIn_of _ (by decide +kernel)) ggX7_share_J9_floorDiv_f86c9
set_option maxRecDepth 20000 in
theorem ggX7_share_X7_shareOneEach : GoodIn wsX7_share wsX7_shareOneEach := goodIn_r _ [48, 1, 2, 4, 5, 6, 7, 8, 9, 10, 11, 12, 13, 14, 15, 16, 17, 18, 19, 20, 21, 22, 23, 24, 25, 26, 27, 28, 29, 30, 31, 32, 33, 34, 35, 36, 37, 38, 39, 40, 49, 50, 51, 52, 53, 54, 55, 56, 57, 58, 59, 60, 61, 62, 63, 64, 65, 66, 67, 68, 69, 70, 71, 72, 73, 74] (by decide +kernel) (by decide +kernel)
set_option maxRecDepth 20000 in
theorem gX7_share_X7_shareOneEach : GoodIn wsX7_share (wsV RX7 418 RX7 yX7_shareOneEach wsX7_shareOneEach) := goodIn_app (goodIn_of _ (by decide +kernel)) ggX7_share_X7_shareOneEach
theorem dX7_share_0 : decode cX7_share 0 = .ok (.lconst 0, 1) := by decide +kernel
theorem dX7_share_1 : decode cX7_share 1 = .ok (.lstore 4, 2) := by decide +kernel
theorem dX7_share_3 : decode cX7_share 3 = .ok (.iconst 0, 1) := by decide +kernel
theorem dX7_share_4 : decode cX7_share 4 = .ok (.istore 6, 2) := by decide +kernel
theorem dX7_share_6 : decode cX7_share 6 = .ok (.iload 6, 2) := by decide +kernel
theorem dX7_share_8 : decode cX7_share 8 = .ok (.aload_n 0, 1) := by decide +kernel
theorem dX7_share_9 : decode cX7_share 9 = .ok (.getfield 53, 3) := by decide +kernel
theorem dX7_share_12 : decode cX7_share 12 = .ok (.if_icmp .ge 41, 3) := by decide +kernel
theorem dX7_share_15 : decode cX7_share 15 = .ok (.aload_n 0, 1) := by decide +kernel
theorem dX7_share_16 : decode cX7_share 16 = .ok (.aload_n 0, 1) := by decide +kernel
theorem dX7_share_17 : decode cX7_share 17 = .ok (.getfield 11, 3) := by decide +kernel
theorem dX7_share_20 : decode cX7_share 20 = .ok (.iload 6, 2) := by decide +kernel
theorem dX7_share_22 : decode cX7_share 22 = .ok (.aaload, 1) := by decide +kernel
theorem dX7_share_23 : decode cX7_share 23 = .ok (.iload_n 1, 1) := by decide +kernel
theorem dX7_share_24 : decode cX7_share 24 = .ok (.invokevirtual 262, 3) := by decide +kernel
theorem dX7_share_27 : decode cX7_share 27 = .ok (.ifCond .eq 20, 3) := by decide +kernel
theorem dX7_share_30 : decode cX7_share 30 = .ok (.lload 4, 2) := by decide +kernel
theorem dX7_share_32 : decode cX7_share 32 = .ok (.aload_n 0, 1) := by decide +kernel
theorem dX7_share_33 : decode cX7_share 33 = .ok (.aload_n 0, 1) := by decide +kernel
theorem dX7_share_34 : decode cX7_share 34 = .ok (.getfield 11, 3) := by decide +kernel
theorem dX7_share_37 : decode cX7_share 37 = .ok (.iload 6, 2) := by decide +kernel
theorem dX7_share_39 : decode cX7_share 39 = .ok (.aaload, 1) := by decide +kernel
theorem dX7_share_40 : decode cX7_share 40 = .ok (.iload_n 1, 1) := by decide +kernel
theorem dX7_share_41 : decode cX7_share 41 = .ok (.invokevirtual 139, 3) := by decide +kernel
theorem dX7_share_44 : decode cX7_share 44 = .ok (.ladd, 1) := by decide +kernel
theorem dX7_share_45 : decode cX7_share 45 = .ok (.lstore 4, 2) := by decide +kernel
theorem dX7_share_47 : decode cX7_share 47 = .ok (.iinc 6 1, 3) := by decide +kernel
theorem dX7_share_50 : decode cX7_share 50 = .ok (.goto (-44), 3) := by decide +kernel
theorem dX7_share_53 : decode cX7_share 53 = .ok (.lload 4, 2) := by decide +kernel
theorem dX7_share_55 : decode cX7_share 55 = .ok (.lconst 0, 1) := by decide +kernel
theorem dX7_share_56 : decode cX7_share 56 = .ok (.lcmp, 1) := by decide +kernel
theorem dX7_share_57 : decode cX7_share 57 = .ok (.ifCond .gt 14, 3) := by decide +kernel
theorem dX7_share_60 : decode cX7_share 60 = .ok (.aload_n 0, 1) := by decide +kernel
theorem dX7_share_61 : decode cX7_share 61 = .ok (.dup, 1) := by decide +kernel
theorem dX7_share_62 : decode cX7_share 62 = .ok (.getfield 306, 3) := by decide +kernel
theorem dX7_share_65 : decode cX7_share 65 = .ok (.lload_n 2, 1) := by decide +kernel
theorem dX7_share_66 : decode cX7_share 66 = .ok (.lsub, 1) := by decide +kernel
theorem dX7_share_67 : decode cX7_share 67 = .ok (.putfield 306, 3) := by decide +kernel
theorem dX7_share_70 : decode cX7_share 70 = .ok (.return_, 1) := by decide +kernel
theorem dX7_share_71 : decode cX7_share 71 = .ok (.lload_n 2, 1) := by decide +kernel
theorem dX7_share_72 : decode cX7_share 72 = .ok (.lstore 6, 2) := by decide +kernel
theorem dX7_share_74 : decode cX7_share 74 = .ok (.iconst 0, 1) := by decide +kernel
theorem dX7_share_75 : decode cX7_share 75 = .ok (.istore 8, 2) := by decide +kernel
theorem dX7_share_77 : decode cX7_share 77 = .ok (.iload 8, 2) := by decide +kernel
theorem dX7_share_79 : decode cX7_share 79 = .ok (.aload_n 0, 1) := by decide +kernel
theorem dX7_share_80 : decode cX7_share 80 = .ok (.getfield 53, 3) := by decide +kernel
theorem dX7_share_83 : decode cX7_share 83 = .ok (.if_icmp .ge 66, 3) := by decide +kernel
theorem dX7_share_86 : decode cX7_share 86 = .ok (.aload_n 0, 1) := by decide +kernel
theorem dX7_share_87 : decode cX7_share 87 = .ok (.aload_n 0, 1) := by decide +kernel
theorem dX7_share_88 : decode cX7_share 88 = .ok (.getfield 11, 3) := by decide +kernel
theorem dX7_share_91 : decode cX7_share 91 = .ok (.iload 8, 2) := by decide +kernel
theorem dX7_share_93 : decode cX7_share 93 = .ok (.aaload, 1) := by decide +kernel
theorem dX7_share_94 : decode cX7_share 94 = .ok (.iload_n 1, 1) := by decide +kernel
theorem dX7_share_95 : decode cX7_share 95 = .ok (.invokevirtual 262, 3) := by decide +kernel
theorem dX7_share_98 : decode cX7_share 98 = .ok (.ifCond .eq 45, 3) := by decide +kernel
theorem dX7_share_101 : decode cX7_share 101 = .ok (.lload_n 2, 1) := by decide +kernel
theorem dX7_share_102 : decode cX7_share 102 = .ok (.aload_n 0, 1) := by decide +kernel
theorem dX7_share_103 : decode cX7_share 103 = .ok (.aload_n 0, 1) := by decide +kernel
theorem dX7_share_104 : decode cX7_share 104 = .ok (.getfield 11, 3) := by decide +kernel
theorem dX7_share_107 : decode cX7_share 107 = .ok (.iload 8, 2) := by decide +kernel
theorem dX7_share_109 : decode cX7_share 109 = .ok (.aaload, 1) := by decide +kernel
theorem dX7_share_110 : decode cX7_share 110 = .ok (.iload_n 1, 1) := by decide +kernel
theorem dX7_share_111 : decode cX7_share 111 = .ok (.invokevirtual 139, 3) := by decide +kernel
theorem dX7_share_114 : decode cX7_share 114 = .ok (.lmul, 1) := by decide +kernel
theorem dX7_share_115 : decode cX7_share 115 = .ok (.lload 4, 2) := by decide +kernel
theorem dX7_share_117 : decode cX7_share 117 = .ok (.invokestatic 412, 3) := by decide +kernel
theorem dX7_share_120 : decode cX7_share 120 = .ok (.lstore 9, 2) := by decide +kernel
theorem dX7_share_122 : decode cX7_share 122 = .ok (.aload_n 0, 1) := by decide +kernel
theorem dX7_share_123 : decode cX7_share 123 = .ok (.getfield 11, 3) := by decide +kernel
theorem dX7_share_126 : decode cX7_share 126 = .ok (.iload 8, 2) := by decide +kernel
theorem dX7_share_128 : decode cX7_share 128 = .ok (.aaload, 1) := by decide +kernel
theorem dX7_share_129 : decode cX7_share 129 = .ok (.getfield 405, 3) := by decide +kernel
theorem dX7_share_132 : decode cX7_share 132 = .ok (.iload_n 1, 1) := by decide +kernel
theorem dX7_share_133 : decode cX7_share 133 = .ok (.lload 9, 2) := by decide +kernel
theorem dX7_share_135 : decode cX7_share 135 = .ok (.lastore, 1) := by decide +kernel
theorem dX7_share_136 : decode cX7_share 136 = .ok (.lload 6, 2) := by decide +kernel
theorem dX7_share_138 : decode cX7_share 138 = .ok (.lload 9, 2) := by decide +kernel
theorem dX7_share_140 : decode cX7_share 140 = .ok (.lsub, 1) := by decide +kernel
theorem dX7_share_141 : decode cX7_share 141 = .ok (.lstore 6, 2) := by decide +kernel
theorem dX7_share_143 : decode cX7_share 143 = .ok (.iinc 8 1, 3) := by decide +kernel
theorem dX7_share_146 : decode cX7_share 146 = .ok (.goto (-69), 3) := by decide +kernel
theorem dX7_share_149 : decode cX7_share 149 = .ok (.aload_n 0, 1) := by decide +kernel
theorem dX7_share_150 : decode cX7_share 150 = .ok (.iload_n 1, 1) := by decide +kernel
theorem dX7_share_151 : decode cX7_share 151 = .ok (.lload 6, 2) := by decide +kernel
theorem dX7_share_153 : decode cX7_share 153 = .ok (.invokevirtual 418, 3) := by decide +kernel
theorem dX7_share_156 : decode cX7_share 156 = .ok (.return_, 1) := by decide +kernel
set_option maxRecDepth 20000 in
theorem ggX7_shareOneEach_X7_isShared : GoodIn wsX7_shareOneEach wsX7_isShared := goodIn_r _ [8, 9, 10, 11, 12, 7, 13, 14, 15, 16, 17, 18, 19, 20, 21, 22, 23, 24, 25, 26, 27, 28, 29, 30, 31, 32, 33, 34, 35, 36, 37, 38, 39, 54, 55, 56, 57, 58, 40, 41, 42, 43, 44, 45, 46, 47, 48, 49, 50, 51, 52, 53, 59, 60, 61, 62, 63, 64, 65] (by decide +kernel) (by decide +kernel)
set_option maxRecDepth 20000 in
theorem gX7_shareOneEach_X7_isShared : GoodIn wsX7_shareOneEach (wsV RX7 262 RX7 yX7_isShared wsX7_isShared) := goodIn_app (goodIn_of _ (by decide +kernel)) ggX7_shareOneEach_X7_isShared
theorem dX7_shareOneEach_0 : decode cX7_shareOneEach 0 = .ok (.lload_n 2, 1) := by decide +kernel
theorem dX7_shareOneEach_1 : decode cX7_shareOneEach 1 = .ok (.lstore 4, 2) := by decide +kernel
theorem dX7_shareOneEach_3 : decode cX7_shareOneEach 3 = .ok (.iconst 0, 1) := by decide +kernel
theorem dX7_shareOneEach_4 : decode cX7_shareOneEach 4 = .ok (.istore 6, 2) := by decide +kernel
theorem dX7_shareOneEach_6 : decode cX7_shareOneEach 6 = .ok (.iload 6, 2) := by decide +kernel
theorem dX7_shareOneEach_8 : decode cX7_shareOneEach 8 = .ok (.aload_n 0, 1) := by decide +kernel
theorem dX7_shareOneEach_9 : decode cX7_shareOneEach 9 = .ok (.getfield 53, 3) := by decide +kernel
theorem dX7_shareOneEach_12 : decode cX7_shareOneEach 12 = .ok (.if_icmp .ge 53, 3) := by decide +kernel
theorem dX7_shareOneEach_15 : decode cX7_shareOneEach 15 = .ok (.lload 4, 2) := by decide +kernel
theorem dX7_shareOneEach_17 : decode cX7_shareOneEach 17 = .ok (.lconst 0, 1) := by decide +kernel
theorem dX7_shareOneEach_18 : decode cX7_shareOneEach 18 = .ok (.lcmp, 1) := by decide +kernel
theorem dX7_shareOneEach_19 : decode cX7_shareOneEach 19 = .ok (.ifCond .le 46, 3) := by decide +kernel
theorem dX7_shareOneEach_22 : decode cX7_shareOneEach 22 = .ok (.aload_n 0, 1) := by decide +kernel
theorem dX7_shareOneEach_23 : decode cX7_shareOneEach 23 = .ok (.aload_n 0, 1) := by decide +kernel
theorem dX7_shareOneEach_24 : decode cX7_shareOneEach 24 = .ok (.getfield 11, 3) := by decide +kernel
theorem dX7_shareOneEach_27 : decode cX7_shareOneEach 27 = .ok (.iload 6, 2) := by decide +kernel
theorem dX7_shareOneEach_29 : decode cX7_shareOneEach 29 = .ok (.aaload, 1) := by decide +kernel
theorem dX7_shareOneEach_30 : decode cX7_shareOneEach 30 = .ok (.iload_n 1, 1) := by decide +kernel
theorem dX7_shareOneEach_31 : decode cX7_shareOneEach 31 = .ok (.invokevirtual 262, 3) := by decide +kernel
theorem dX7_shareOneEach_34 : decode cX7_shareOneEach 34 = .ok (.ifCond .eq 25, 3) := by decide +kernel
theorem dX7_shareOneEach_37 : decode cX7_shareOneEach 37 = .ok (.aload_n 0, 1) := by decide +kernel
theorem dX7_shareOneEach_38 : decode cX7_shareOneEach 38 = .ok (.getfield 11, 3) := by decide +kernel
theorem dX7_shareOneEach_41 : decode cX7_shareOneEach 41 = .ok (.iload 6, 2) := by decide +kernel
theorem dX7_shareOneEach_43 : decode cX7_shareOneEach 43 = .ok (.aaload, 1) := by decide +kernel
theorem dX7_shareOneEach_44 : decode cX7_shareOneEach 44 = .ok (.getfield 405, 3) := by decide +kernel
theorem dX7_shareOneEach_47 : decode cX7_shareOneEach 47 = .ok (.iload_n 1, 1) := by decide +kernel
theorem dX7_shareOneEach_48 : decode cX7_shareOneEach 48 = .ok (.dup2, 1) := by decide +kernel
theorem dX7_shareOneEach_49 : decode cX7_shareOneEach 49 = .ok (.laload, 1) := by decide +kernel
theorem dX7_shareOneEach_50 : decode cX7_shareOneEach 50 = .ok (.lconst 1, 1) := by decide +kernel
theorem dX7_shareOneEach_51 : decode cX7_shareOneEach 51 = .ok (.ladd, 1) := by decide +kernel
theorem dX7_shareOneEach_52 : decode cX7_shareOneEach 52 = .ok (.lastore, 1) := by decide +kernel
theorem dX7_shareOneEach_53 : decode cX7_shareOneEach 53 = .ok (.lload 4, 2) := by decide +kernel
theorem dX7_shareOneEach_55 : decode cX7_shareOneEach 55 = .ok (.lconst 1, 1) := by decide +kernel
theorem dX7_shareOneEach_56 : decode cX7_shareOneEach 56 = .ok (.lsub, 1) := by decide +kernel
theorem dX7_shareOneEach_57 : decode cX7_shareOneEach 57 = .ok (.lstore 4, 2) := by decide +kernel
theorem dX7_shareOneEach_59 : decode cX7_shareOneEach 59 = .ok (.iinc 6 1, 3) := by decide +kernel
theorem dX7_shareOneEach_62 : decode cX7_shareOneEach 62 = .ok (.goto (-56), 3) := by decide +kernel
theorem dX7_shareOneEach_65 : decode cX7_shareOneEach 65 = .ok (.return_, 1) := by decide +kernel
set_option maxRecDepth 20000 in
theorem ggX7_isHeld_X0_holdsShips : GoodIn wsX7_isHeld wsX0_holdsShips := goodIn_r _ [8, 9, 10, 11, 30, 31, 32, 33, 34, 35, 36, 37] (by decide +kernel) (by decide +kernel)
set_option maxRecDepth 20000 in
theorem gX7_isHeld_X0_holdsShips : GoodIn wsX7_isHeld (wsV RX7 317 RX0 yX0_holdsShips wsX0_holdsShips) := goodIn_app (goodIn_of _ (by decide +kernel)) ggX7_isHeld_X0_holdsShips
theorem dX7_isHeld_0 : decode cX7_isHeld 0 = .ok (.iconst 0, 1) := by decide +kernel
theorem dX7_isHeld_1 : decode cX7_isHeld 1 = .ok (.istore_n 2, 1) := by decide +kernel
theorem dX7_isHeld_2 : decode cX7_isHeld 2 = .ok (.iload_n 2, 1) := by decide +kernel
theorem dX7_isHeld_3 : decode cX7_isHeld 3 = .ok (.aload_n 0, 1) := by decide +kernel
theorem dX7_isHeld_4 : decode cX7_isHeld 4 = .ok (.getfield 299, 3) := by decide +kernel
theorem dX7_isHeld_7 : decode cX7_isHeld 7 = .ok (.if_icmp .ge 36, 3) := by decide +kernel
theorem dX7_isHeld_10 : decode cX7_isHeld 10 = .ok (.aload_n 1, 1) := by decide +kernel
theorem dX7_isHeld_11 : decode cX7_isHeld 11 = .ok (.getfield 327, 3) := by decide +kernel
theorem dX7_isHeld_14 : decode cX7_isHeld 14 = .ok (.iload_n 2, 1) := by decide +kernel
theorem dX7_isHeld_15 : decode cX7_isHeld 15 = .ok (.lshr, 1) := by decide +kernel
theorem dX7_isHeld_16 : decode cX7_isHeld 16 = .ok (.lconst 1, 1) := by decide +kernel
theorem dX7_isHeld_17 : decode cX7_isHeld 17 = .ok (.land, 1) := by decide +kernel
theorem dX7_isHeld_18 : decode cX7_isHeld 18 = .ok (.lconst 0, 1) := by decide +kernel
theorem dX7_isHeld_19 : decode cX7_isHeld 19 = .ok (.lcmp, 1) := by decide +kernel
theorem dX7_isHeld_20 : decode cX7_isHeld 20 = .ok (.ifCond .eq 17, 3) := by decide +kernel
theorem dX7_isHeld_23 : decode cX7_isHeld 23 = .ok (.aload_n 0, 1) := by decide +kernel
theorem dX7_isHeld_24 : decode cX7_isHeld 24 = .ok (.getfield 29, 3) := by decide +kernel
theorem dX7_isHeld_27 : decode cX7_isHeld 27 = .ok (.iload_n 2, 1) := by decide +kernel
theorem dX7_isHeld_28 : decode cX7_isHeld 28 = .ok (.aaload, 1) := by decide +kernel
theorem dX7_isHeld_29 : decode cX7_isHeld 29 = .ok (.invokevirtual 317, 3) := by decide +kernel
theorem dX7_isHeld_32 : decode cX7_isHeld 32 = .ok (.ifCond .eq 5, 3) := by decide +kernel
theorem dX7_isHeld_35 : decode cX7_isHeld 35 = .ok (.iconst 1, 1) := by decide +kernel
theorem dX7_isHeld_36 : decode cX7_isHeld 36 = .ok (.ireturn, 1) := by decide +kernel
theorem dX7_isHeld_37 : decode cX7_isHeld 37 = .ok (.iinc 2 1, 3) := by decide +kernel
theorem dX7_isHeld_40 : decode cX7_isHeld 40 = .ok (.goto (-38), 3) := by decide +kernel
theorem dX7_isHeld_43 : decode cX7_isHeld 43 = .ok (.iconst 0, 1) := by decide +kernel
theorem dX7_isHeld_44 : decode cX7_isHeld 44 = .ok (.ireturn, 1) := by decide +kernel
