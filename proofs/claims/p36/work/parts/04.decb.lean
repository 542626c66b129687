set_option maxRecDepth 20000 in
theorem ggX7_advance_X7_checkOpen : GoodIn wsX7_advance wsX7_checkOpen := goodIn_ca (goodIn_r _ [21, 1, 2, 7, 22, 23, 24, 25, 26, 27, 28, 29, 30, 31, 32, 33, 34, 35, 36, 42, 43, 44, 45, 46, 47, 48] (by decide +kernel) (by decide +kernel)) (goodIn_sub (fun _ h => List.mem_cons_of_mem _ (List.mem_append_left _ (List.mem_append_right _ h))) (by decide +kernel))
set_option maxRecDepth 20000 in
theorem gX7_advance_X7_checkOpen : GoodIn wsX7_advance (wsV RX7 130 RX7 yX7_checkOpen wsX7_checkOpen) := goodIn_app (goodIn_of _ (by decide +kernel)) ggX7_advance_X7_checkOpen
theorem dX7_advance_0 : decode cX7_advance 0 = .ok (.iload_n 1, 1) := by decide +kernel
theorem dX7_advance_1 : decode cX7_advance 1 = .ok (.invokestatic 126, 3) := by decide +kernel
theorem dX7_advance_4 : decode cX7_advance 4 = .ok (.iload_n 2, 1) := by decide +kernel
theorem dX7_advance_5 : decode cX7_advance 5 = .ok (.iconst 0, 1) := by decide +kernel
theorem dX7_advance_6 : decode cX7_advance 6 = .ok (.ldc 153, 2) := by decide +kernel
theorem dX7_advance_8 : decode cX7_advance 8 = .ok (.invokestatic 69, 3) := by decide +kernel
theorem dX7_advance_11 : decode cX7_advance 11 = .ok (.aload_n 0, 1) := by decide +kernel
theorem dX7_advance_12 : decode cX7_advance 12 = .ok (.iload_n 1, 1) := by decide +kernel
theorem dX7_advance_13 : decode cX7_advance 13 = .ok (.invokevirtual 130, 3) := by decide +kernel
theorem dX7_advance_16 : decode cX7_advance 16 = .ok (.iconst 0, 1) := by decide +kernel
theorem dX7_advance_17 : decode cX7_advance 17 = .ok (.istore_n 3, 1) := by decide +kernel
theorem dX7_advance_18 : decode cX7_advance 18 = .ok (.iload_n 3, 1) := by decide +kernel
theorem dX7_advance_19 : decode cX7_advance 19 = .ok (.aload_n 0, 1) := by decide +kernel
theorem dX7_advance_20 : decode cX7_advance 20 = .ok (.getfield 53, 3) := by decide +kernel
theorem dX7_advance_23 : decode cX7_advance 23 = .ok (.if_icmp .ge 33, 3) := by decide +kernel
theorem dX7_advance_26 : decode cX7_advance 26 = .ok (.aload_n 0, 1) := by decide +kernel
theorem dX7_advance_27 : decode cX7_advance 27 = .ok (.getfield 11, 3) := by decide +kernel
theorem dX7_advance_30 : decode cX7_advance 30 = .ok (.iload_n 3, 1) := by decide +kernel
theorem dX7_advance_31 : decode cX7_advance 31 = .ok (.aaload, 1) := by decide +kernel
theorem dX7_advance_32 : decode cX7_advance 32 = .ok (.getfield 95, 3) := by decide +kernel
theorem dX7_advance_35 : decode cX7_advance 35 = .ok (.iload_n 1, 1) := by decide +kernel
theorem dX7_advance_36 : decode cX7_advance 36 = .ok (.baload, 1) := by decide +kernel
theorem dX7_advance_37 : decode cX7_advance 37 = .ok (.ifCond .eq 13, 3) := by decide +kernel
theorem dX7_advance_40 : decode cX7_advance 40 = .ok (.new 57, 3) := by decide +kernel
theorem dX7_advance_43 : decode cX7_advance 43 = .ok (.dup, 1) := by decide +kernel
theorem dX7_advance_44 : decode cX7_advance 44 = .ok (.ldc 246, 2) := by decide +kernel
theorem dX7_advance_46 : decode cX7_advance 46 = .ok (.invokespecial 61, 3) := by decide +kernel
theorem dX7_advance_49 : decode cX7_advance 49 = .ok (.athrow, 1) := by decide +kernel
theorem dX7_advance_50 : decode cX7_advance 50 = .ok (.iinc 3 1, 3) := by decide +kernel
theorem dX7_advance_53 : decode cX7_advance 53 = .ok (.goto (-35), 3) := by decide +kernel
theorem dX7_advance_56 : decode cX7_advance 56 = .ok (.aload_n 0, 1) := by decide +kernel
theorem dX7_advance_57 : decode cX7_advance 57 = .ok (.getfield 41, 3) := by decide +kernel
theorem dX7_advance_60 : decode cX7_advance 60 = .ok (.iload_n 1, 1) := by decide +kernel
theorem dX7_advance_61 : decode cX7_advance 61 = .ok (.aaload, 1) := by decide +kernel
theorem dX7_advance_62 : decode cX7_advance 62 = .ok (.getfield 248, 3) := by decide +kernel
theorem dX7_advance_65 : decode cX7_advance 65 = .ok (.istore_n 3, 1) := by decide +kernel
theorem dX7_advance_66 : decode cX7_advance 66 = .ok (.aload_n 0, 1) := by decide +kernel
theorem dX7_advance_67 : decode cX7_advance 67 = .ok (.getfield 41, 3) := by decide +kernel
theorem dX7_advance_70 : decode cX7_advance 70 = .ok (.iload_n 1, 1) := by decide +kernel
theorem dX7_advance_71 : decode cX7_advance 71 = .ok (.aaload, 1) := by decide +kernel
theorem dX7_advance_72 : decode cX7_advance 72 = .ok (.iload_n 2, 1) := by decide +kernel
theorem dX7_advance_73 : decode cX7_advance 73 = .ok (.putfield 248, 3) := by decide +kernel
theorem dX7_advance_76 : decode cX7_advance 76 = .ok (.iload_n 3, 1) := by decide +kernel
theorem dX7_advance_77 : decode cX7_advance 77 = .ok (.ireturn, 1) := by decide +kernel
set_option maxRecDepth 20000 in
theorem ggX7_further_X7_checkYear : GoodIn wsX7_further wsX7_checkYear := goodIn_ca (goodIn_r _ [8, 9, 10, 7, 11, 12, 13] (by decide +kernel) (by decide +kernel)) (goodIn_sub (fun _ h => List.mem_cons_of_mem _ (List.mem_append_right _ h)) (by decide +kernel))
set_option maxRecDepth 20000 in
theorem gX7_further_X7_checkYear : GoodIn wsX7_further (va_wsS RX7 126 yX7_checkYear wsX7_checkYear) := goodIn_app (goodIn_of _ (by decide +kernel)) ggX7_further_X7_checkYear
set_option maxRecDepth 20000 in
theorem ggX7_further_X7_checkRange : GoodIn wsX7_further wsX7_checkRange := goodIn_ca (goodIn_r _ [11, 12, 13] (by decide +kernel) (by decide +kernel)) (goodIn_sub (fun _ h => List.mem_cons_of_mem _ (List.mem_append_right _ h)) (by decide +kernel))
set_option maxRecDepth 20000 in
theorem gX7_further_X7_checkRange : GoodIn wsX7_further (va_wsS RX7 69 yX7_checkRange wsX7_checkRange) := goodIn_app (goodIn_of _ (by decide +kernel)) ggX7_further_X7_checkRange
set_option maxRecDepth 20000 in
theorem ggX7_further_X7_checkOpen : GoodIn wsX7_further wsX7_checkOpen := goodIn_ca (goodIn_r _ [17, 1, 2, 3, 18, 19, 20, 21, 22, 23, 24, 25, 26, 27, 28, 29, 30, 31, 32, 33, 34, 35, 36, 37, 38, 39] (by decide +kernel) (by decide +kernel)) (goodIn_sub (fun _ h => List.mem_cons_of_mem _ (List.mem_append_left _ (List.mem_append_right _ h))) (by decide +kernel))
set_option maxRecDepth 20000 in
theorem gX7_further_X7_checkOpen : GoodIn wsX7_further (wsV RX7 130 RX7 yX7_checkOpen wsX7_checkOpen) := goodIn_app (goodIn_of _ (by decide +kernel)) ggX7_further_X7_checkOpen
theorem dX7_further_0 : decode cX7_further 0 = .ok (.iload_n 1, 1) := by decide +kernel
theorem dX7_further_1 : decode cX7_further 1 = .ok (.invokestatic 126, 3) := by decide +kernel
theorem dX7_further_4 : decode cX7_further 4 = .ok (.iload_n 2, 1) := by decide +kernel
theorem dX7_further_5 : decode cX7_further 5 = .ok (.iconst 1, 1) := by decide +kernel
theorem dX7_further_6 : decode cX7_further 6 = .ok (.sipush 200, 3) := by decide +kernel
theorem dX7_further_9 : decode cX7_further 9 = .ok (.invokestatic 69, 3) := by decide +kernel
theorem dX7_further_12 : decode cX7_further 12 = .ok (.aload_n 0, 1) := by decide +kernel
theorem dX7_further_13 : decode cX7_further 13 = .ok (.iload_n 1, 1) := by decide +kernel
theorem dX7_further_14 : decode cX7_further 14 = .ok (.invokevirtual 130, 3) := by decide +kernel
theorem dX7_further_17 : decode cX7_further 17 = .ok (.aload_n 0, 1) := by decide +kernel
theorem dX7_further_18 : decode cX7_further 18 = .ok (.getfield 41, 3) := by decide +kernel
theorem dX7_further_21 : decode cX7_further 21 = .ok (.iload_n 1, 1) := by decide +kernel
theorem dX7_further_22 : decode cX7_further 22 = .ok (.aaload, 1) := by decide +kernel
theorem dX7_further_23 : decode cX7_further 23 = .ok (.getfield 251, 3) := by decide +kernel
theorem dX7_further_26 : decode cX7_further 26 = .ok (.iload_n 2, 1) := by decide +kernel
theorem dX7_further_27 : decode cX7_further 27 = .ok (.iadd, 1) := by decide +kernel
theorem dX7_further_28 : decode cX7_further 28 = .ok (.istore_n 3, 1) := by decide +kernel
theorem dX7_further_29 : decode cX7_further 29 = .ok (.iload_n 3, 1) := by decide +kernel
theorem dX7_further_30 : decode cX7_further 30 = .ok (.sipush 1000, 3) := by decide +kernel
theorem dX7_further_33 : decode cX7_further 33 = .ok (.if_icmp .le 13, 3) := by decide +kernel
theorem dX7_further_36 : decode cX7_further 36 = .ok (.new 57, 3) := by decide +kernel
theorem dX7_further_39 : decode cX7_further 39 = .ok (.dup, 1) := by decide +kernel
theorem dX7_further_40 : decode cX7_further 40 = .ok (.ldc 254, 2) := by decide +kernel
theorem dX7_further_42 : decode cX7_further 42 = .ok (.invokespecial 61, 3) := by decide +kernel
theorem dX7_further_45 : decode cX7_further 45 = .ok (.athrow, 1) := by decide +kernel
theorem dX7_further_46 : decode cX7_further 46 = .ok (.aload_n 0, 1) := by decide +kernel
theorem dX7_further_47 : decode cX7_further 47 = .ok (.getfield 41, 3) := by decide +kernel
theorem dX7_further_50 : decode cX7_further 50 = .ok (.iload_n 1, 1) := by decide +kernel
theorem dX7_further_51 : decode cX7_further 51 = .ok (.aaload, 1) := by decide +kernel
theorem dX7_further_52 : decode cX7_further 52 = .ok (.iload_n 3, 1) := by decide +kernel
theorem dX7_further_53 : decode cX7_further 53 = .ok (.putfield 251, 3) := by decide +kernel
theorem dX7_further_56 : decode cX7_further 56 = .ok (.iload_n 3, 1) := by decide +kernel
theorem dX7_further_57 : decode cX7_further 57 = .ok (.ireturn, 1) := by decide +kernel
set_option maxRecDepth 20000 in
theorem ggX7_release_X7_memberOf : GoodIn wsX7_release wsX7_memberOf := goodIn_ca (goodIn_r _ [9, 10, 11, 12, 13, 78, 79, 80, 81, 82, 83, 84, 85, 86, 87, 88, 89, 90, 91] (by decide +kernel) (by decide +kernel)) (goodIn_sub (fun _ h => List.mem_cons_of_mem _ (List.mem_append_left _ (List.mem_append_right _ h))) (by decide +kernel))
set_option maxRecDepth 20000 in
theorem gX7_release_X7_memberOf : GoodIn wsX7_release (wsV RX7 65 RX7 yX7_memberOf wsX7_memberOf) := goodIn_app (goodIn_of _ (by decide +kernel)) ggX7_release_X7_memberOf
set_option maxRecDepth 20000 in
theorem ggX7_release_X7_checkRange : GoodIn wsX7_release wsX7_checkRange := goodIn_ca (goodIn_r _ [16, 17, 18] (by decide +kernel) (by decide +kernel)) (goodIn_sub (fun _ h => List.mem_cons_of_mem _ (List.mem_append_right _ h)) (by decide +kernel))
set_option maxRecDepth 20000 in
theorem gX7_release_X7_checkRange : GoodIn wsX7_release (va_wsS RX7 69 yX7_checkRange wsX7_checkRange) := goodIn_app (goodIn_of _ (by decide +kernel)) ggX7_release_X7_checkRange
set_option maxRecDepth 20000 in
theorem ggX7_release_X7_hasShipEntered : GoodIn wsX7_release wsX7_hasShipEntered := goodIn_r _ [22, 23, 24, 25, 26, 78, 79, 80, 81, 82, 83, 84, 85, 86, 87, 88, 89, 90, 91, 99, 100, 101, 102] (by decide +kernel) (by decide +kernel)
set_option maxRecDepth 20000 in
theorem gX7_release_X7_hasShipEntered : GoodIn wsX7_release (wsV RX7 256 RX7 yX7_hasShipEntered wsX7_hasShipEntered) := goodIn_app (goodIn_of _ (by decide +kernel)) ggX7_release_X7_hasShipEntered
set_option maxRecDepth 20000 in
theorem ggX7_release_X7_isShared : GoodIn wsX7_release wsX7_isShared := goodIn_r _ [30, 31, 32, 33, 34, 8, 35, 36, 37, 38, 25, 39, 40, 41, 42, 43, 44, 45, 46, 47, 48, 49, 50, 51, 52, 53, 54, 55, 56, 57, 58, 59, 60, 103, 104, 105, 106, 107, 78, 79, 80, 81, 82, 83, 84, 85, 86, 87, 88, 89, 90, 91, 108, 109, 110, 99, 100, 101, 102] (by decide +kernel) (by decide +kernel)
set_option maxRecDepth 20000 in
theorem gX7_release_X7_isShared : GoodIn wsX7_release (wsV RX7 262 RX7 yX7_isShared wsX7_isShared) := goodIn_app (goodIn_of _ (by decide +kernel)) ggX7_release_X7_isShared
set_option maxRecDepth 20000 in
theorem ggX7_release_X7_releaseFrom : GoodIn wsX7_release wsX7_releaseFrom := goodIn_r _ [64, 65, 66, 31, 67, 68, 69, 8, 70, 3, 71, 72, 32, 33, 34, 35, 36, 37, 38, 25, 39, 40, 41, 42, 43, 44, 45, 46, 47, 48, 49, 50, 51, 52, 53, 54, 55, 56, 57, 58, 59, 60, 73, 74, 75, 76, 4, 77, 103, 104, 105, 106, 107, 78, 79, 80, 81, 82, 83, 84, 85, 86, 87, 88, 89, 90, 91, 92, 93, 94, 95, 96, 97, 98, 108, 109, 110, 99, 100, 101, 102] (by decide +kernel) (by decide +kernel)
set_option maxRecDepth 20000 in
theorem gX7_release_X7_releaseFrom : GoodIn wsX7_release (wsV RX7 269 RX7 yX7_releaseFrom wsX7_releaseFrom) := goodIn_app (goodIn_of _ (by decide +kernel)) ggX7_release_X7_releaseFrom
theorem dX7_release_0 : decode cX7_release 0 = .ok (.aload_n 0, 1) := by decide +kernel
theorem dX7_release_1 : decode cX7_release 1 = .ok (.iload_n 1, 1) := by decide +kernel
theorem dX7_release_2 : decode cX7_release 2 = .ok (.invokevirtual 65, 3) := by decide +kernel
theorem dX7_release_5 : decode cX7_release 5 = .ok (.astore_n 3, 1) := by decide +kernel
theorem dX7_release_6 : decode cX7_release 6 = .ok (.iload_n 2, 1) := by decide +kernel
theorem dX7_release_7 : decode cX7_release 7 = .ok (.iconst 0, 1) := by decide +kernel
theorem dX7_release_8 : decode cX7_release 8 = .ok (.sipush 200, 3) := by decide +kernel
theorem dX7_release_11 : decode cX7_release 11 = .ok (.invokestatic 69, 3) := by decide +kernel
theorem dX7_release_14 : decode cX7_release 14 = .ok (.aload_n 0, 1) := by decide +kernel
theorem dX7_release_15 : decode cX7_release 15 = .ok (.aload_n 3, 1) := by decide +kernel
theorem dX7_release_16 : decode cX7_release 16 = .ok (.invokevirtual 256, 3) := by decide +kernel
theorem dX7_release_19 : decode cX7_release 19 = .ok (.ifCond .eq 14, 3) := by decide +kernel
theorem dX7_release_22 : decode cX7_release 22 = .ok (.new 57, 3) := by decide +kernel
theorem dX7_release_25 : decode cX7_release 25 = .ok (.dup, 1) := by decide +kernel
theorem dX7_release_26 : decode cX7_release 26 = .ok (.ldc_w 260, 3) := by decide +kernel
theorem dX7_release_29 : decode cX7_release 29 = .ok (.invokespecial 61, 3) := by decide +kernel
theorem dX7_release_32 : decode cX7_release 32 = .ok (.athrow, 1) := by decide +kernel
theorem dX7_release_33 : decode cX7_release 33 = .ok (.iconst 0, 1) := by decide +kernel
theorem dX7_release_34 : decode cX7_release 34 = .ok (.istore 4, 2) := by decide +kernel
theorem dX7_release_36 : decode cX7_release 36 = .ok (.iconst 0, 1) := by decide +kernel
theorem dX7_release_37 : decode cX7_release 37 = .ok (.istore 5, 2) := by decide +kernel
theorem dX7_release_39 : decode cX7_release 39 = .ok (.iload 5, 2) := by decide +kernel
theorem dX7_release_41 : decode cX7_release 41 = .ok (.bipush 20, 2) := by decide +kernel
theorem dX7_release_43 : decode cX7_release 43 = .ok (.if_icmp .ge 43, 3) := by decide +kernel
theorem dX7_release_46 : decode cX7_release 46 = .ok (.aload_n 0, 1) := by decide +kernel
theorem dX7_release_47 : decode cX7_release 47 = .ok (.aload_n 3, 1) := by decide +kernel
theorem dX7_release_48 : decode cX7_release 48 = .ok (.iload 5, 2) := by decide +kernel
theorem dX7_release_50 : decode cX7_release 50 = .ok (.invokevirtual 262, 3) := by decide +kernel
theorem dX7_release_53 : decode cX7_release 53 = .ok (.ifCond .eq 27, 3) := by decide +kernel
theorem dX7_release_56 : decode cX7_release 56 = .ok (.aload_n 0, 1) := by decide +kernel
theorem dX7_release_57 : decode cX7_release 57 = .ok (.getfield 41, 3) := by decide +kernel
theorem dX7_release_60 : decode cX7_release 60 = .ok (.iload 5, 2) := by decide +kernel
theorem dX7_release_62 : decode cX7_release 62 = .ok (.aaload, 1) := by decide +kernel
theorem dX7_release_63 : decode cX7_release 63 = .ok (.getfield 266, 3) := by decide +kernel
theorem dX7_release_66 : decode cX7_release 66 = .ok (.ifCond .ne 14, 3) := by decide +kernel
theorem dX7_release_69 : decode cX7_release 69 = .ok (.aload_n 0, 1) := by decide +kernel
theorem dX7_release_70 : decode cX7_release 70 = .ok (.aload_n 3, 1) := by decide +kernel
theorem dX7_release_71 : decode cX7_release 71 = .ok (.iload 5, 2) := by decide +kernel
theorem dX7_release_73 : decode cX7_release 73 = .ok (.iload_n 2, 1) := by decide +kernel
theorem dX7_release_74 : decode cX7_release 74 = .ok (.invokevirtual 269, 3) := by decide +kernel
theorem dX7_release_77 : decode cX7_release 77 = .ok (.iinc 4 1, 3) := by decide +kernel
theorem dX7_release_80 : decode cX7_release 80 = .ok (.iinc 5 1, 3) := by decide +kernel
theorem dX7_release_83 : decode cX7_release 83 = .ok (.goto (-44), 3) := by decide +kernel
theorem dX7_release_86 : decode cX7_release 86 = .ok (.iload 4, 2) := by decide +kernel
theorem dX7_release_88 : decode cX7_release 88 = .ok (.ifCond .ne 14, 3) := by decide +kernel
theorem dX7_release_91 : decode cX7_release 91 = .ok (.new 57, 3) := by decide +kernel
theorem dX7_release_94 : decode cX7_release 94 = .ok (.dup, 1) := by decide +kernel
theorem dX7_release_95 : decode cX7_release 95 = .ok (.ldc_w 273, 3) := by decide +kernel
theorem dX7_release_98 : decode cX7_release 98 = .ok (.invokespecial 61, 3) := by decide +kernel
theorem dX7_release_101 : decode cX7_release 101 = .ok (.athrow, 1) := by decide +kernel
theorem dX7_release_102 : decode cX7_release 102 = .ok (.iload 4, 2) := by decide +kernel
theorem dX7_release_104 : decode cX7_release 104 = .ok (.ireturn, 1) := by decide +kernel
set_option maxRecDepth 20000 in
theorem ggX7_pay_X7_memberOf : GoodIn wsX7_pay wsX7_memberOf := goodIn_ca (goodIn_r _ [8, 9, 10, 11, 12, 73, 74, 75, 76, 77, 78, 79, 80, 81, 82, 83, 84, 85, 86] (by decide +kernel) (by decide +kernel)) (goodIn_sub (fun _ h => List.mem_cons_of_mem _ (List.mem_append_left _ (List.mem_append_right _ h))) (by decide +kernel))
set_option maxRecDepth 20000 in
theorem gX7_pay_X7_memberOf : GoodIn wsX7_pay (wsV RX7 65 RX7 yX7_memberOf wsX7_memberOf) := goodIn_app (goodIn_of _ (by decide +kernel)) ggX7_pay_X7_memberOf
set_option maxRecDepth 20000 in
theorem ggX7_pay_X7_checkRange : GoodIn wsX7_pay wsX7_checkRange := goodIn_ca (goodIn_r _ [15, 16, 17] (by decide +kernel) (by decide +kernel)) (goodIn_sub (fun _ h => List.mem_cons_of_mem _ (List.mem_append_right _ h)) (by decide +kernel))
set_option maxRecDepth 20000 in
theorem gX7_pay_X7_checkRange : GoodIn wsX7_pay (va_wsS RX7 69 yX7_checkRange wsX7_checkRange) := goodIn_app (goodIn_of _ (by decide +kernel)) ggX7_pay_X7_checkRange
set_option maxRecDepth 20000 in
theorem ggX7_pay_X7_owedBy : GoodIn wsX7_pay wsX7_owedBy := goodIn_r _ [21, 2, 22, 23, 24, 7, 25, 26, 27, 28, 29, 30, 31, 32, 33, 34, 35, 36, 37, 38, 39, 40, 41, 42, 43, 44, 45, 46, 47, 48, 49, 50, 51, 52, 53, 54, 55, 56, 57, 58, 59, 60, 61, 62, 63, 64, 65, 66, 67, 68, 69, 70, 71, 72, 73, 74, 75, 76, 77, 78, 79, 80, 81, 82, 83, 84, 85, 86, 87, 88, 89, 90, 91, 92, 93, 94, 95, 96, 97, 98, 99, 100] (by decide +kernel) (by decide +kernel)
set_option maxRecDepth 20000 in
theorem gX7_pay_X7_owedBy : GoodIn wsX7_pay (wsV RX7 280 RX7 yX7_owedBy wsX7_owedBy) := goodIn_app (goodIn_of _ (by decide +kernel)) ggX7_pay_X7_owedBy
theorem dX7_pay_0 : decode cX7_pay 0 = .ok (.aload_n 0, 1) := by decide +kernel
theorem dX7_pay_1 : decode cX7_pay 1 = .ok (.iload_n 1, 1) := by decide +kernel
theorem dX7_pay_2 : decode cX7_pay 2 = .ok (.invokevirtual 65, 3) := by decide +kernel
theorem dX7_pay_5 : decode cX7_pay 5 = .ok (.astore_n 3, 1) := by decide +kernel
theorem dX7_pay_6 : decode cX7_pay 6 = .ok (.iload_n 2, 1) := by decide +kernel
theorem dX7_pay_7 : decode cX7_pay 7 = .ok (.iconst 1, 1) := by decide +kernel
theorem dX7_pay_8 : decode cX7_pay 8 = .ok (.ldc_w 275, 3) := by decide +kernel
theorem dX7_pay_11 : decode cX7_pay 11 = .ok (.invokestatic 69, 3) := by decide +kernel
theorem dX7_pay_14 : decode cX7_pay 14 = .ok (.aload_n 3, 1) := by decide +kernel
theorem dX7_pay_15 : decode cX7_pay 15 = .ok (.dup, 1) := by decide +kernel
theorem dX7_pay_16 : decode cX7_pay 16 = .ok (.getfield 276, 3) := by decide +kernel
theorem dX7_pay_19 : decode cX7_pay 19 = .ok (.iload_n 2, 1) := by decide +kernel
theorem dX7_pay_20 : decode cX7_pay 20 = .ok (.i2l, 1) := by decide +kernel
theorem dX7_pay_21 : decode cX7_pay 21 = .ok (.ladd, 1) := by decide +kernel
theorem dX7_pay_22 : decode cX7_pay 22 = .ok (.putfield 276, 3) := by decide +kernel
theorem dX7_pay_25 : decode cX7_pay 25 = .ok (.aload_n 0, 1) := by decide +kernel
theorem dX7_pay_26 : decode cX7_pay 26 = .ok (.aload_n 3, 1) := by decide +kernel
theorem dX7_pay_27 : decode cX7_pay 27 = .ok (.invokevirtual 280, 3) := by decide +kernel
theorem dX7_pay_30 : decode cX7_pay 30 = .ok (.lstore 4, 2) := by decide +kernel
theorem dX7_pay_32 : decode cX7_pay 32 = .ok (.lload 4, 2) := by decide +kernel
theorem dX7_pay_34 : decode cX7_pay 34 = .ok (.lconst 0, 1) := by decide +kernel
theorem dX7_pay_35 : decode cX7_pay 35 = .ok (.lcmp, 1) := by decide +kernel
theorem dX7_pay_36 : decode cX7_pay 36 = .ok (.ifCond .gt 8, 3) := by decide +kernel
theorem dX7_pay_39 : decode cX7_pay 39 = .ok (.aload_n 3, 1) := by decide +kernel
theorem dX7_pay_40 : decode cX7_pay 40 = .ok (.iconst (-1), 1) := by decide +kernel
theorem dX7_pay_41 : decode cX7_pay 41 = .ok (.putfield 284, 3) := by decide +kernel
theorem dX7_pay_44 : decode cX7_pay 44 = .ok (.lload 4, 2) := by decide +kernel
theorem dX7_pay_46 : decode cX7_pay 46 = .ok (.lreturn, 1) := by decide +kernel
set_option maxRecDepth 20000 in
theorem ggX7_stop_X7_memberOf : GoodIn wsX7_stop wsX7_memberOf := goodIn_ca (goodIn_r _ [9, 10, 11, 12, 13, 70, 71, 72, 73, 74, 75, 76, 77, 78, 79, 80, 81, 82, 83] (by decide +kernel) (by decide +kernel)) (goodIn_sub (fun _ h => List.mem_cons_of_mem _ (List.mem_append_left _ (List.mem_append_right _ h))) (by decide +kernel))
set_option maxRecDepth 20000 in
theorem gX7_stop_X7_memberOf : GoodIn wsX7_stop (wsV RX7 65 RX7 yX7_memberOf wsX7_memberOf) := goodIn_app (goodIn_of _ (by decide +kernel)) ggX7_stop_X7_memberOf
set_option maxRecDepth 20000 in
theorem ggX7_stop_X7_checkRange : GoodIn wsX7_stop wsX7_checkRange := goodIn_ca (goodIn_r _ [16, 17, 18] (by decide +kernel) (by decide +kernel)) (goodIn_sub (fun _ h => List.mem_cons_of_mem _ (List.mem_append_right _ h)) (by decide +kernel))
set_option maxRecDepth 20000 in
theorem gX7_stop_X7_checkRange : GoodIn wsX7_stop (va_wsS RX7 69 yX7_checkRange wsX7_checkRange) := goodIn_app (goodIn_of _ (by decide +kernel)) ggX7_stop_X7_checkRange
set_option maxRecDepth 20000 in
theorem ggX7_stop_X7_owedBy : GoodIn wsX7_stop wsX7_owedBy := goodIn_r _ [22, 23, 24, 25, 26, 8, 27, 28, 29, 30, 31, 32, 33, 34, 35, 36, 37, 38, 39, 40, 41, 42, 43, 44, 45, 46, 47, 48, 49, 50, 51, 52, 53, 54, 55, 56, 57, 58, 59, 60, 61, 62, 63, 64, 65, 66, 67, 68, 69, 84, 85, 86, 87, 88, 70, 71, 72, 73, 74, 75, 76, 77, 78, 79, 80, 81, 82, 83, 89, 90, 91, 92, 93, 94, 95, 96, 97, 98, 99, 100, 101, 102] (by decide +kernel) (by decide +kernel)
set_option maxRecDepth 20000 in
theorem gX7_stop_X7_owedBy : GoodIn wsX7_stop (wsV RX7 280 RX7 yX7_owedBy wsX7_owedBy) := goodIn_app (goodIn_of _ (by decide +kernel)) ggX7_stop_X7_owedBy
theorem dX7_stop_0 : decode cX7_stop 0 = .ok (.aload_n 0, 1) := by decide +kernel
theorem dX7_stop_1 : decode cX7_stop 1 = .ok (.iload_n 1, 1) := by decide +kernel
theorem dX7_stop_2 : decode cX7_stop 2 = .ok (.invokevirtual 65, 3) := by decide +kernel
theorem dX7_stop_5 : decode cX7_stop 5 = .ok (.astore_n 3, 1) := by decide +kernel
theorem dX7_stop_6 : decode cX7_stop 6 = .ok (.iload_n 2, 1) := by decide +kernel
theorem dX7_stop_7 : decode cX7_stop 7 = .ok (.iconst 0, 1) := by decide +kernel
theorem dX7_stop_8 : decode cX7_stop 8 = .ok (.aload_n 0, 1) := by decide +kernel
theorem dX7_stop_9 : decode cX7_stop 9 = .ok (.getfield 99, 3) := by decide +kernel
theorem dX7_stop_12 : decode cX7_stop 12 = .ok (.invokestatic 69, 3) := by decide +kernel
theorem dX7_stop_15 : decode cX7_stop 15 = .ok (.aload_n 0, 1) := by decide +kernel
theorem dX7_stop_16 : decode cX7_stop 16 = .ok (.aload_n 3, 1) := by decide +kernel
theorem dX7_stop_17 : decode cX7_stop 17 = .ok (.invokevirtual 280, 3) := by decide +kernel
theorem dX7_stop_20 : decode cX7_stop 20 = .ok (.lconst 0, 1) := by decide +kernel
theorem dX7_stop_21 : decode cX7_stop 21 = .ok (.lcmp, 1) := by decide +kernel
theorem dX7_stop_22 : decode cX7_stop 22 = .ok (.ifCond .gt 14, 3) := by decide +kernel
theorem dX7_stop_25 : decode cX7_stop 25 = .ok (.new 57, 3) := by decide +kernel
theorem dX7_stop_28 : decode cX7_stop 28 = .ok (.dup, 1) := by decide +kernel
theorem dX7_stop_29 : decode cX7_stop 29 = .ok (.ldc_w 287, 3) := by decide +kernel
theorem dX7_stop_32 : decode cX7_stop 32 = .ok (.invokespecial 61, 3) := by decide +kernel
theorem dX7_stop_35 : decode cX7_stop 35 = .ok (.athrow, 1) := by decide +kernel
theorem dX7_stop_36 : decode cX7_stop 36 = .ok (.aload_n 3, 1) := by decide +kernel
theorem dX7_stop_37 : decode cX7_stop 37 = .ok (.getfield 284, 3) := by decide +kernel
theorem dX7_stop_40 : decode cX7_stop 40 = .ok (.istore 4, 2) := by decide +kernel
theorem dX7_stop_42 : decode cX7_stop 42 = .ok (.aload_n 3, 1) := by decide +kernel
theorem dX7_stop_43 : decode cX7_stop 43 = .ok (.iload_n 2, 1) := by decide +kernel
theorem dX7_stop_44 : decode cX7_stop 44 = .ok (.putfield 284, 3) := by decide +kernel
theorem dX7_stop_47 : decode cX7_stop 47 = .ok (.iload 4, 2) := by decide +kernel
theorem dX7_stop_49 : decode cX7_stop 49 = .ok (.ireturn, 1) := by decide +kernel
set_option maxRecDepth 20000 in
theorem ggX7_close_X7_checkYear : GoodIn wsX7_close wsX7_checkYear := goodIn_ca (goodIn_r _ [11, 12, 13, 10, 14, 15, 16] (by decide +kernel) (by decide +kernel)) (goodIn_sub (fun _ h => List.mem_cons_of_mem _ (List.mem_append_left _ (List.mem_append_right _ h))) (by decide +kernel))
set_option maxRecDepth 20000 in
theorem gX7_close_X7_checkYear : GoodIn wsX7_close (va_wsS RX7 126 yX7_checkYear wsX7_checkYear) := goodIn_app (goodIn_of _ (by decide +kernel)) ggX7_close_X7_checkYear
set_option maxRecDepth 20000 in
theorem ggX7_close_X7_checkClosable : GoodIn wsX7_close wsX7_checkClosable := goodIn_ca (goodIn_r _ [20, 21, 22, 23, 6, 7, 1, 2, 3, 4, 24, 25, 26, 27, 10, 28, 29, 30, 31, 171, 172, 173, 174, 175, 176, 177, 178, 179, 180, 181, 182, 183, 184, 196, 197, 198, 199, 200, 201, 202, 185, 186, 187, 188, 189, 190, 191, 192, 193, 194, 195] (by decide +kernel) (by decide +kernel)) (goodIn_sub (fun _ h => List.mem_cons_of_mem _ (List.mem_append_right _ h)) (by decide +kernel))
set_option maxRecDepth 20000 in
theorem gX7_close_X7_checkClosable : GoodIn wsX7_close (wsV RX7 289 RX7 yX7_checkClosable wsX7_checkClosable) := goodIn_app (goodIn_of _ (by decide +kernel)) ggX7_close_X7_checkClosable
set_option maxRecDepth 20000 in
theorem ggX7_close_X7_costIn : GoodIn wsX7_close wsX7_costIn := goodIn_r _ [35, 36, 37, 4, 29, 30, 10, 31, 38, 39, 40, 41, 6, 42, 43, 44, 45, 1, 2, 3, 46, 47, 48, 49, 50, 51, 52, 53, 54, 55, 56, 57, 58, 59, 60, 61, 62, 63, 7, 5, 64, 65, 66, 67, 68, 69, 70, 71, 72, 73, 74, 75, 76, 77, 78, 79, 80, 81, 82, 83, 84, 85, 86, 87, 88, 89, 90, 91, 92, 93, 94, 95, 96, 97, 98, 99, 100, 101, 102, 103, 104, 105, 106, 107, 108, 109, 110, 111, 112, 113, 114, 115, 116, 117, 118, 119, 120, 121, 122, 123, 124, 125, 126, 171, 172, 173, 174, 175, 176, 177, 178, 179, 180, 181, 182, 183, 184, 193, 194, 195, 185, 186, 187, 188, 189, 190, 191, 192, 196, 197, 198, 199, 200, 201, 202, 203, 204, 205, 206, 207, 208, 209, 210, 211, 212, 213, 214, 215, 216] (by decide +kernel) (by decide +kernel)
set_option maxRecDepth 20000 in
theorem gX7_close_X7_costIn : GoodIn wsX7_close (wsV RX7 242 RX7 yX7_costIn wsX7_costIn) := goodIn_app (goodIn_of _ (by decide +kernel)) ggX7_close_X7_costIn
set_option maxRecDepth 20000 in
theorem ggX7_close_X7_dueOfReleased : GoodIn wsX7_close wsX7_dueOfReleased := goodIn_r _ [130, 131, 132, 133, 134, 171, 172, 173, 174, 175, 176, 177, 178, 179, 180, 181, 182, 183, 184, 207, 208, 209, 210, 211] (by decide +kernel) (by decide +kernel)
set_option maxRecDepth 20000 in
theorem gX7_close_X7_dueOfReleased : GoodIn wsX7_close (wsV RX7 292 RX7 yX7_dueOfReleased wsX7_dueOfReleased) := goodIn_app (goodIn_of _ (by decide +kernel)) ggX7_close_X7_dueOfReleased
set_option maxRecDepth 20000 in
theorem ggX7_close_X7_share : GoodIn wsX7_close wsX7_share := goodIn_r _ [138, 131, 132, 139, 134, 140, 141, 142, 10, 143, 133, 144, 145, 146, 147, 76, 77, 78, 65, 148, 149, 150, 151, 82, 152, 84, 153, 154, 99, 155, 85, 156, 98, 100, 157, 158, 159, 69, 160, 161, 162, 163, 164, 165, 166, 167, 168, 169, 170, 171, 172, 173, 174, 175, 176, 177, 178, 179, 180, 181, 182, 183, 184, 207, 208, 209, 210, 211, 212, 213, 214, 203, 204, 205, 206] (by decide +kernel) (by decide +kernel)
set_option maxRecDepth 20000 in
theorem gX7_close_X7_share : GoodIn wsX7_close (wsV RX7 295 RX7 yX7_share wsX7_share) := goodIn_app (goodIn_of _ (by decide +kernel)) ggX7_close_X7_share
set_option maxRecDepth 20000 in
theorem ggX7_close_X7_yearOfDay : GoodIn wsX7_close wsX7_yearOfDay := goodIn_r _ [31] (by decide +kernel) (by decide +kernel)
set_option maxRecDepth 20000 in
theorem gX7_close_X7_yearOfDay : GoodIn wsX7_close (va_wsS RX7 102 yX7_yearOfDay wsX7_yearOfDay) := goodIn_app (goodIn_of _ (by decide +kernel)) ggX7_close_X7_yearOfDay
set_option maxRecDepth 20000 in
theorem ggX7_close_X7_isCovered : GoodIn wsX7_close wsX7_isCovered := goodIn_r _ [63, 3, 4, 6, 7, 5, 64, 65, 29, 30, 10, 31, 66, 67, 68, 69, 70, 71, 72, 73, 74, 75, 76, 77, 78, 79, 80, 81, 82, 83, 84, 85, 185, 186, 187, 188, 189, 190, 191, 192, 193, 194, 195, 171, 172, 173, 174, 175, 176, 177, 178, 179, 180, 181, 182, 183, 184, 196, 197, 198, 199, 200, 201, 202, 203, 204, 205, 206, 207, 208, 209, 210, 211, 212, 213, 214] (by decide +kernel) (by decide +kernel)
set_option maxRecDepth 20000 in
theorem gX7_close_X7_isCovered : GoodIn wsX7_close (wsV RX7 221 RX7 yX7_isCovered wsX7_isCovered) := goodIn_app (goodIn_of _ (by decide +kernel)) ggX7_close_X7_isCovered
theorem dX7_close_0 : decode cX7_close 0 = .ok (.iload_n 1, 1) := by decide +kernel
theorem dX7_close_1 : decode cX7_close 1 = .ok (.invokestatic 126, 3) := by decide +kernel
theorem dX7_close_4 : decode cX7_close 4 = .ok (.aload_n 0, 1) := by decide +kernel
theorem dX7_close_5 : decode cX7_close 5 = .ok (.iload_n 1, 1) := by decide +kernel
theorem dX7_close_6 : decode cX7_close 6 = .ok (.invokevirtual 289, 3) := by decide +kernel
theorem dX7_close_9 : decode cX7_close 9 = .ok (.aload_n 0, 1) := by decide +kernel
theorem dX7_close_10 : decode cX7_close 10 = .ok (.iload_n 1, 1) := by decide +kernel
theorem dX7_close_11 : decode cX7_close 11 = .ok (.invokevirtual 242, 3) := by decide +kernel
theorem dX7_close_14 : decode cX7_close 14 = .ok (.lstore_n 2, 1) := by decide +kernel
theorem dX7_close_15 : decode cX7_close 15 = .ok (.aload_n 0, 1) := by decide +kernel
theorem dX7_close_16 : decode cX7_close 16 = .ok (.iload_n 1, 1) := by decide +kernel
theorem dX7_close_17 : decode cX7_close 17 = .ok (.lload_n 2, 1) := by decide +kernel
theorem dX7_close_18 : decode cX7_close 18 = .ok (.aload_n 0, 1) := by decide +kernel
theorem dX7_close_19 : decode cX7_close 19 = .ok (.iload_n 1, 1) := by decide +kernel
theorem dX7_close_20 : decode cX7_close 20 = .ok (.invokevirtual 292, 3) := by decide +kernel
theorem dX7_close_23 : decode cX7_close 23 = .ok (.lsub, 1) := by decide +kernel
theorem dX7_close_24 : decode cX7_close 24 = .ok (.invokevirtual 295, 3) := by decide +kernel
theorem dX7_close_27 : decode cX7_close 27 = .ok (.iconst 0, 1) := by decide +kernel
theorem dX7_close_28 : decode cX7_close 28 = .ok (.istore 4, 2) := by decide +kernel
theorem dX7_close_30 : decode cX7_close 30 = .ok (.iload 4, 2) := by decide +kernel
theorem dX7_close_32 : decode cX7_close 32 = .ok (.aload_n 0, 1) := by decide +kernel
theorem dX7_close_33 : decode cX7_close 33 = .ok (.getfield 299, 3) := by decide +kernel
theorem dX7_close_36 : decode cX7_close 36 = .ok (.if_icmp .ge 50, 3) := by decide +kernel
theorem dX7_close_39 : decode cX7_close 39 = .ok (.aload_n 0, 1) := by decide +kernel
theorem dX7_close_40 : decode cX7_close 40 = .ok (.getfield 29, 3) := by decide +kernel
theorem dX7_close_43 : decode cX7_close 43 = .ok (.iload 4, 2) := by decide +kernel
theorem dX7_close_45 : decode cX7_close 45 = .ok (.aaload, 1) := by decide +kernel
theorem dX7_close_46 : decode cX7_close 46 = .ok (.getfield 214, 3) := by decide +kernel
theorem dX7_close_49 : decode cX7_close 49 = .ok (.getfield 170, 3) := by decide +kernel
theorem dX7_close_52 : decode cX7_close 52 = .ok (.invokestatic 102, 3) := by decide +kernel
theorem dX7_close_55 : decode cX7_close 55 = .ok (.iload_n 1, 1) := by decide +kernel
theorem dX7_close_56 : decode cX7_close 56 = .ok (.if_icmp .ne 24, 3) := by decide +kernel
theorem dX7_close_59 : decode cX7_close 59 = .ok (.aload_n 0, 1) := by decide +kernel
theorem dX7_close_60 : decode cX7_close 60 = .ok (.getfield 29, 3) := by decide +kernel
theorem dX7_close_63 : decode cX7_close 63 = .ok (.iload 4, 2) := by decide +kernel
theorem dX7_close_65 : decode cX7_close 65 = .ok (.aaload, 1) := by decide +kernel
theorem dX7_close_66 : decode cX7_close 66 = .ok (.aload_n 0, 1) := by decide +kernel
theorem dX7_close_67 : decode cX7_close 67 = .ok (.aload_n 0, 1) := by decide +kernel
theorem dX7_close_68 : decode cX7_close 68 = .ok (.getfield 29, 3) := by decide +kernel
theorem dX7_close_71 : decode cX7_close 71 = .ok (.iload 4, 2) := by decide +kernel
theorem dX7_close_73 : decode cX7_close 73 = .ok (.aaload, 1) := by decide +kernel
theorem dX7_close_74 : decode cX7_close 74 = .ok (.invokevirtual 221, 3) := by decide +kernel
theorem dX7_close_77 : decode cX7_close 77 = .ok (.putfield 300, 3) := by decide +kernel
theorem dX7_close_80 : decode cX7_close 80 = .ok (.iinc 4 1, 3) := by decide +kernel
theorem dX7_close_83 : decode cX7_close 83 = .ok (.goto (-53), 3) := by decide +kernel
theorem dX7_close_86 : decode cX7_close 86 = .ok (.aload_n 0, 1) := by decide +kernel
theorem dX7_close_87 : decode cX7_close 87 = .ok (.getfield 41, 3) := by decide +kernel
theorem dX7_close_90 : decode cX7_close 90 = .ok (.iload_n 1, 1) := by decide +kernel
theorem dX7_close_91 : decode cX7_close 91 = .ok (.aaload, 1) := by decide +kernel
theorem dX7_close_92 : decode cX7_close 92 = .ok (.iconst 1, 1) := by decide +kernel
theorem dX7_close_93 : decode cX7_close 93 = .ok (.putfield 266, 3) := by decide +kernel
theorem dX7_close_96 : decode cX7_close 96 = .ok (.lload_n 2, 1) := by decide +kernel
theorem dX7_close_97 : decode cX7_close 97 = .ok (.lreturn, 1) := by decide +kernel
set_option maxRecDepth 20000 in
theorem ggX7_due_X7_memberOf : GoodIn wsX7_due wsX7_memberOf := goodIn_ca (goodIn_r _ [5, 6, 7, 8, 9, 64, 65, 66, 67, 68, 69, 70, 71, 72, 73, 74, 75, 76, 77] (by decide +kernel) (by decide +kernel)) (goodIn_sub (fun _ h => List.mem_cons_of_mem _ (List.mem_append_left _ (List.mem_append_right _ h))) (by decide +kernel))
set_option maxRecDepth 20000 in
theorem gX7_due_X7_memberOf : GoodIn wsX7_due (wsV RX7 65 RX7 yX7_memberOf wsX7_memberOf) := goodIn_app (goodIn_of _ (by decide +kernel)) ggX7_due_X7_memberOf
set_option maxRecDepth 20000 in
theorem ggX7_due_X7_checkYear : GoodIn wsX7_due wsX7_checkYear := goodIn_ca (goodIn_r _ [12, 13, 14, 4, 15, 16, 17] (by decide +kernel) (by decide +kernel)) (goodIn_sub (fun _ h => List.mem_cons_of_mem _ (List.mem_append_right _ h)) (by decide +kernel))
set_option maxRecDepth 20000 in
theorem gX7_due_X7_checkYear : GoodIn wsX7_due (va_wsS RX7 126 yX7_checkYear wsX7_checkYear) := goodIn_app (goodIn_of _ (by decide +kernel)) ggX7_due_X7_checkYear
set_option maxRecDepth 20000 in
theorem ggX7_due_X7_dueOf : GoodIn wsX7_due wsX7_dueOf := goodIn_r _ [21, 22, 23, 24, 25, 26, 27, 28, 29, 30, 4, 31, 32, 33, 34, 35, 36, 37, 38, 39, 40, 41, 42, 43, 44, 45, 46, 47, 48, 49, 50, 51, 52, 53, 54, 55, 56, 57, 58, 59, 60, 61, 62, 63, 64, 65, 66, 67, 68, 69, 70, 71, 72, 73, 74, 75, 76, 77, 78, 79, 80, 81, 82, 83, 84, 85, 86, 87, 88, 89, 90, 91, 92, 93, 94, 95, 96] (by decide +kernel) (by decide +kernel)
set_option maxRecDepth 20000 in
theorem gX7_due_X7_dueOf : GoodIn wsX7_due (wsV RX7 303 RX7 yX7_dueOf wsX7_dueOf) := goodIn_app (goodIn_of _ (by decide +kernel)) ggX7_due_X7_dueOf
theorem dX7_due_0 : decode cX7_due 0 = .ok (.aload_n 0, 1) := by decide +kernel
theorem dX7_due_1 : decode cX7_due 1 = .ok (.iload_n 1, 1) := by decide +kernel
theorem dX7_due_2 : decode cX7_due 2 = .ok (.invokevirtual 65, 3) := by decide +kernel
theorem dX7_due_5 : decode cX7_due 5 = .ok (.astore_n 3, 1) := by decide +kernel
theorem dX7_due_6 : decode cX7_due 6 = .ok (.iload_n 2, 1) := by decide +kernel
theorem dX7_due_7 : decode cX7_due 7 = .ok (.invokestatic 126, 3) := by decide +kernel
theorem dX7_due_10 : decode cX7_due 10 = .ok (.aload_n 0, 1) := by decide +kernel
theorem dX7_due_11 : decode cX7_due 11 = .ok (.aload_n 3, 1) := by decide +kernel
theorem dX7_due_12 : decode cX7_due 12 = .ok (.iload_n 2, 1) := by decide +kernel
theorem dX7_due_13 : decode cX7_due 13 = .ok (.invokevirtual 303, 3) := by decide +kernel
theorem dX7_due_16 : decode cX7_due 16 = .ok (.lreturn, 1) := by decide +kernel
set_option maxRecDepth 20000 in
theorem ggX7_owes_X7_memberOf : GoodIn wsX7_owes wsX7_memberOf := goodIn_ca (goodIn_r _ [5, 6, 7, 8, 9, 61, 62, 63, 64, 65, 66, 67, 68, 69, 70, 71, 72, 73, 74] (by decide +kernel) (by decide +kernel)) (goodIn_sub (fun _ h => List.mem_cons_of_mem _ (List.mem_append_right _ h)) (by decide +kernel))
set_option maxRecDepth 20000 in
theorem gX7_owes_X7_memberOf : GoodIn wsX7_owes (wsV RX7 65 RX7 yX7_memberOf wsX7_memberOf) := goodIn_app (goodIn_of _ (by decide +kernel)) ggX7_owes_X7_memberOf
set_option maxRecDepth 20000 in
theorem ggX7_owes_X7_owedBy : GoodIn wsX7_owes wsX7_owedBy := goodIn_r _ [13, 14, 15, 16, 17, 4, 18, 19, 20, 21, 22, 23, 24, 25, 26, 27, 28, 29, 30, 31, 32, 33, 34, 35, 36, 37, 38, 39, 40, 41, 42, 43, 44, 45, 46, 47, 48, 49, 50, 51, 52, 53, 54, 55, 56, 57, 58, 59, 60, 75, 76, 77, 78, 79, 61, 62, 63, 64, 65, 66, 67, 68, 69, 70, 71, 72, 73, 74, 80, 81, 82, 83, 84, 85, 86, 87, 88, 89, 90, 91, 92, 93] (by decide +kernel) (by decide +kernel)
set_option maxRecDepth 20000 in
theorem gX7_owes_X7_owedBy : GoodIn wsX7_owes (wsV RX7 280 RX7 yX7_owedBy wsX7_owedBy) := goodIn_app (goodIn_of _ (by decide +kernel)) ggX7_owes_X7_owedBy
theorem dX7_owes_0 : decode cX7_owes 0 = .ok (.aload_n 0, 1) := by decide +kernel
theorem dX7_owes_1 : decode cX7_owes 1 = .ok (.aload_n 0, 1) := by decide +kernel
theorem dX7_owes_2 : decode cX7_owes 2 = .ok (.iload_n 1, 1) := by decide +kernel
theorem dX7_owes_3 : decode cX7_owes 3 = .ok (.invokevirtual 65, 3) := by decide +kernel
theorem dX7_owes_6 : decode cX7_owes 6 = .ok (.invokevirtual 280, 3) := by decide +kernel
theorem dX7_owes_9 : decode cX7_owes 9 = .ok (.lreturn, 1) := by decide +kernel
set_option maxRecDepth 20000 in
theorem ggX7_isClosed_X7_checkYear : GoodIn wsX7_isClosed wsX7_checkYear := goodIn_ca (goodIn_r _ [6, 7, 8, 5, 9, 10, 11] (by decide +kernel) (by decide +kernel)) (goodIn_sub (fun _ h => List.mem_cons_of_mem _ (List.mem_append_right _ h)) (by decide +kernel))
set_option maxRecDepth 20000 in
theorem gX7_isClosed_X7_checkYear : GoodIn wsX7_isClosed (va_wsS RX7 126 yX7_checkYear wsX7_checkYear) := goodIn_app (goodIn_of _ (by decide +kernel)) ggX7_isClosed_X7_checkYear
theorem dX7_isClosed_0 : decode cX7_isClosed 0 = .ok (.iload_n 1, 1) := by decide +kernel
theorem dX7_isClosed_1 : decode cX7_isClosed 1 = .ok (.invokestatic 126, 3) := by decide +kernel
theorem dX7_isClosed_4 : decode cX7_isClosed 4 = .ok (.aload_n 0, 1) := by decide +kernel
theorem dX7_isClosed_5 : decode cX7_isClosed 5 = .ok (.getfield 41, 3) := by decide +kernel
theorem dX7_isClosed_8 : decode cX7_isClosed 8 = .ok (.iload_n 1, 1) := by decide +kernel
theorem dX7_isClosed_9 : decode cX7_isClosed 9 = .ok (.aaload, 1) := by decide +kernel
theorem dX7_isClosed_10 : decode cX7_isClosed 10 = .ok (.getfield 266, 3) := by decide +kernel
theorem dX7_isClosed_13 : decode cX7_isClosed 13 = .ok (.ireturn, 1) := by decide +kernel
theorem dX7_reserve_0 : decode cX7_reserve 0 = .ok (.aload_n 0, 1) := by decide +kernel
theorem dX7_reserve_1 : decode cX7_reserve 1 = .ok (.getfield 306, 3) := by decide +kernel
theorem dX7_reserve_4 : decode cX7_reserve 4 = .ok (.lreturn, 1) := by decide +kernel
theorem dX7_memberOf_0 : decode cX7_memberOf 0 = .ok (.iload_n 1, 1) := by decide +kernel
theorem dX7_memberOf_1 : decode cX7_memberOf 1 = .ok (.ifCond .lt 11, 3) := by decide +kernel
theorem dX7_memberOf_4 : decode cX7_memberOf 4 = .ok (.iload_n 1, 1) := by decide +kernel
theorem dX7_memberOf_5 : decode cX7_memberOf 5 = .ok (.aload_n 0, 1) := by decide +kernel
theorem dX7_memberOf_6 : decode cX7_memberOf 6 = .ok (.getfield 53, 3) := by decide +kernel
theorem dX7_memberOf_9 : decode cX7_memberOf 9 = .ok (.if_icmp .lt 14, 3) := by decide +kernel
theorem dX7_memberOf_12 : decode cX7_memberOf 12 = .ok (.new 330, 3) := by decide +kernel
theorem dX7_memberOf_15 : decode cX7_memberOf 15 = .ok (.dup, 1) := by decide +kernel
theorem dX7_memberOf_16 : decode cX7_memberOf 16 = .ok (.ldc_w 332, 3) := by decide +kernel
theorem dX7_memberOf_19 : decode cX7_memberOf 19 = .ok (.invokespecial 334, 3) := by decide +kernel
theorem dX7_memberOf_22 : decode cX7_memberOf 22 = .ok (.athrow, 1) := by decide +kernel
theorem dX7_memberOf_23 : decode cX7_memberOf 23 = .ok (.aload_n 0, 1) := by decide +kernel
theorem dX7_memberOf_24 : decode cX7_memberOf 24 = .ok (.getfield 11, 3) := by decide +kernel
theorem dX7_memberOf_27 : decode cX7_memberOf 27 = .ok (.iload_n 1, 1) := by decide +kernel
theorem dX7_memberOf_28 : decode cX7_memberOf 28 = .ok (.aaload, 1) := by decide +kernel
theorem dX7_memberOf_29 : decode cX7_memberOf 29 = .ok (.areturn, 1) := by decide +kernel
theorem dX7_shipOf_0 : decode cX7_shipOf 0 = .ok (.iload_n 1, 1) := by decide +kernel
theorem dX7_shipOf_1 : decode cX7_shipOf 1 = .ok (.ifCond .lt 11, 3) := by decide +kernel
theorem dX7_shipOf_4 : decode cX7_shipOf 4 = .ok (.iload_n 1, 1) := by decide +kernel
theorem dX7_shipOf_5 : decode cX7_shipOf 5 = .ok (.aload_n 0, 1) := by decide +kernel
theorem dX7_shipOf_6 : decode cX7_shipOf 6 = .ok (.getfield 73, 3) := by decide +kernel
theorem dX7_shipOf_9 : decode cX7_shipOf 9 = .ok (.if_icmp .lt 14, 3) := by decide +kernel
theorem dX7_shipOf_12 : decode cX7_shipOf 12 = .ok (.new 330, 3) := by decide +kernel
theorem dX7_shipOf_15 : decode cX7_shipOf 15 = .ok (.dup, 1) := by decide +kernel
theorem dX7_shipOf_16 : decode cX7_shipOf 16 = .ok (.ldc_w 335, 3) := by decide +kernel
theorem dX7_shipOf_19 : decode cX7_shipOf 19 = .ok (.invokespecial 334, 3) := by decide +kernel
theorem dX7_shipOf_22 : decode cX7_shipOf 22 = .ok (.athrow, 1) := by decide +kernel
theorem dX7_shipOf_23 : decode cX7_shipOf 23 = .ok (.aload_n 0, 1) := by decide +kernel
theorem dX7_shipOf_24 : decode cX7_shipOf 24 = .ok (.getfield 17, 3) := by decide +kernel
theorem dX7_shipOf_27 : decode cX7_shipOf 27 = .ok (.iload_n 1, 1) := by decide +kernel
theorem dX7_shipOf_28 : decode cX7_shipOf 28 = .ok (.aaload, 1) := by decide +kernel
theorem dX7_shipOf_29 : decode cX7_shipOf 29 = .ok (.areturn, 1) := by decide +kernel
theorem dX7_claimOf_0 : decode cX7_claimOf 0 = .ok (.iload_n 1, 1) := by decide +kernel
theorem dX7_claimOf_1 : decode cX7_claimOf 1 = .ok (.ifCond .lt 11, 3) := by decide +kernel
theorem dX7_claimOf_4 : decode cX7_claimOf 4 = .ok (.iload_n 1, 1) := by decide +kernel
theorem dX7_claimOf_5 : decode cX7_claimOf 5 = .ok (.aload_n 0, 1) := by decide +kernel
theorem dX7_claimOf_6 : decode cX7_claimOf 6 = .ok (.getfield 299, 3) := by decide +kernel
theorem dX7_claimOf_9 : decode cX7_claimOf 9 = .ok (.if_icmp .lt 14, 3) := by decide +kernel
theorem dX7_claimOf_12 : decode cX7_claimOf 12 = .ok (.new 330, 3) := by decide +kernel
theorem dX7_claimOf_15 : decode cX7_claimOf 15 = .ok (.dup, 1) := by decide +kernel
theorem dX7_claimOf_16 : decode cX7_claimOf 16 = .ok (.ldc_w 337, 3) := by decide +kernel
theorem dX7_claimOf_19 : decode cX7_claimOf 19 = .ok (.invokespecial 334, 3) := by decide +kernel
theorem dX7_claimOf_22 : decode cX7_claimOf 22 = .ok (.athrow, 1) := by decide +kernel
theorem dX7_claimOf_23 : decode cX7_claimOf 23 = .ok (.aload_n 0, 1) := by decide +kernel
theorem dX7_claimOf_24 : decode cX7_claimOf 24 = .ok (.getfield 29, 3) := by decide +kernel
theorem dX7_claimOf_27 : decode cX7_claimOf 27 = .ok (.iload_n 1, 1) := by decide +kernel
theorem dX7_claimOf_28 : decode cX7_claimOf 28 = .ok (.aaload, 1) := by decide +kernel
theorem dX7_claimOf_29 : decode cX7_claimOf 29 = .ok (.areturn, 1) := by decide +kernel
theorem dX7_eventOf_0 : decode cX7_eventOf 0 = .ok (.iload_n 1, 1) := by decide +kernel
theorem dX7_eventOf_1 : decode cX7_eventOf 1 = .ok (.ifCond .lt 11, 3) := by decide +kernel
theorem dX7_eventOf_4 : decode cX7_eventOf 4 = .ok (.iload_n 1, 1) := by decide +kernel
theorem dX7_eventOf_5 : decode cX7_eventOf 5 = .ok (.aload_n 0, 1) := by decide +kernel
theorem dX7_eventOf_6 : decode cX7_eventOf 6 = .ok (.getfield 339, 3) := by decide +kernel
theorem dX7_eventOf_9 : decode cX7_eventOf 9 = .ok (.if_icmp .lt 14, 3) := by decide +kernel
theorem dX7_eventOf_12 : decode cX7_eventOf 12 = .ok (.new 330, 3) := by decide +kernel
theorem dX7_eventOf_15 : decode cX7_eventOf 15 = .ok (.dup, 1) := by decide +kernel
theorem dX7_eventOf_16 : decode cX7_eventOf 16 = .ok (.ldc_w 342, 3) := by decide +kernel
theorem dX7_eventOf_19 : decode cX7_eventOf 19 = .ok (.invokespecial 334, 3) := by decide +kernel
theorem dX7_eventOf_22 : decode cX7_eventOf 22 = .ok (.athrow, 1) := by decide +kernel
theorem dX7_eventOf_23 : decode cX7_eventOf 23 = .ok (.aload_n 0, 1) := by decide +kernel
theorem dX7_eventOf_24 : decode cX7_eventOf 24 = .ok (.getfield 35, 3) := by decide +kernel
theorem dX7_eventOf_27 : decode cX7_eventOf 27 = .ok (.iload_n 1, 1) := by decide +kernel
theorem dX7_eventOf_28 : decode cX7_eventOf 28 = .ok (.aaload, 1) := by decide +kernel
theorem dX7_eventOf_29 : decode cX7_eventOf 29 = .ok (.areturn, 1) := by decide +kernel
theorem dX7_checkRange_0 : decode cX7_checkRange 0 = .ok (.iload_n 0, 1) := by decide +kernel
theorem dX7_checkRange_1 : decode cX7_checkRange 1 = .ok (.iload_n 1, 1) := by decide +kernel
theorem dX7_checkRange_2 : decode cX7_checkRange 2 = .ok (.if_icmp .lt 8, 3) := by decide +kernel
theorem dX7_checkRange_5 : decode cX7_checkRange 5 = .ok (.iload_n 0, 1) := by decide +kernel
theorem dX7_checkRange_6 : decode cX7_checkRange 6 = .ok (.iload_n 2, 1) := by decide +kernel
theorem dX7_checkRange_7 : decode cX7_checkRange 7 = .ok (.if_icmp .le 14, 3) := by decide +kernel
theorem dX7_checkRange_10 : decode cX7_checkRange 10 = .ok (.new 173, 3) := by decide +kernel
theorem dX7_checkRange_13 : decode cX7_checkRange 13 = .ok (.dup, 1) := by decide +kernel
theorem dX7_checkRange_14 : decode cX7_checkRange 14 = .ok (.ldc_w 344, 3) := by decide +kernel
theorem dX7_checkRange_17 : decode cX7_checkRange 17 = .ok (.invokespecial 177, 3) := by decide +kernel
theorem dX7_checkRange_20 : decode cX7_checkRange 20 = .ok (.athrow, 1) := by decide +kernel
theorem dX7_checkRange_21 : decode cX7_checkRange 21 = .ok (.return_, 1) := by decide +kernel
set_option maxRecDepth 20000 in
theorem ggX7_checkYear_X7_checkRange : GoodIn wsX7_checkYear wsX7_checkRange := goodIn_ca (goodIn_r _ [4, 5, 6] (by decide +kernel) (by decide +kernel)) (goodIn_sub (fun _ h => List.mem_cons_of_mem _ (List.mem_append_right _ h)) (by decide +kernel))
set_option maxRecDepth 20000 in
theorem gX7_checkYear_X7_checkRange : GoodIn wsX7_checkYear (va_wsS RX7 69 yX7_checkRange wsX7_checkRange) := goodIn_app (goodIn_of _ (by decide +kernel)) ggX7_checkYear_X7_checkRange
theorem dX7_checkYear_0 : decode cX7_checkYear 0 = .ok (.iload_n 0, 1) := by decide +kernel
theorem dX7_checkYear_1 : decode cX7_checkYear 1 = .ok (.iconst 0, 1) := by decide +kernel
theorem dX7_checkYear_2 : decode cX7_checkYear 2 = .ok (.bipush 19, 2) := by decide +kernel
theorem dX7_checkYear_4 : decode cX7_checkYear 4 = .ok (.invokestatic 69, 3) := by decide +kernel
theorem dX7_checkYear_7 : decode cX7_checkYear 7 = .ok (.return_, 1) := by decide +kernel
set_option maxRecDepth 20000 in
theorem ggX7_checkKind_X7_checkRange : GoodIn wsX7_checkKind wsX7_checkRange := goodIn_ca (goodIn_r _ [4, 5, 6] (by decide +kernel) (by decide +kernel)) (goodIn_sub (fun _ h => List.mem_cons_of_mem _ (List.mem_append_right _ h)) (by decide +kernel))
set_option maxRecDepth 20000 in
theorem gX7_checkKind_X7_checkRange : GoodIn wsX7_checkKind (va_wsS RX7 69 yX7_checkRange wsX7_checkRange) := goodIn_app (goodIn_of _ (by decide +kernel)) ggX7_checkKind_X7_checkRange
theorem dX7_checkKind_0 : decode cX7_checkKind 0 = .ok (.iload_n 0, 1) := by decide +kernel
theorem dX7_checkKind_1 : decode cX7_checkKind 1 = .ok (.iconst 0, 1) := by decide +kernel
theorem dX7_checkKind_2 : decode cX7_checkKind 2 = .ok (.iconst 3, 1) := by decide +kernel
theorem dX7_checkKind_3 : decode cX7_checkKind 3 = .ok (.invokestatic 69, 3) := by decide +kernel
theorem dX7_checkKind_6 : decode cX7_checkKind 6 = .ok (.return_, 1) := by decide +kernel
set_option maxRecDepth 20000 in
theorem ggX7_checkLoss_X7_checkRange : GoodIn wsX7_checkLoss wsX7_checkRange := goodIn_ca (goodIn_r _ [5, 6, 7] (by decide +kernel) (by decide +kernel)) (goodIn_sub (fun _ h => List.mem_cons_of_mem _ (List.mem_append_right _ h)) (by decide +kernel))
set_option maxRecDepth 20000 in
theorem gX7_checkLoss_X7_checkRange : GoodIn wsX7_checkLoss (va_wsS RX7 69 yX7_checkRange wsX7_checkRange) := goodIn_app (goodIn_of _ (by decide +kernel)) ggX7_checkLoss_X7_checkRange
theorem dX7_checkLoss_0 : decode cX7_checkLoss 0 = .ok (.iload_n 0, 1) := by decide +kernel
theorem dX7_checkLoss_1 : decode cX7_checkLoss 1 = .ok (.iconst 0, 1) := by decide +kernel
theorem dX7_checkLoss_2 : decode cX7_checkLoss 2 = .ok (.ldc 159, 2) := by decide +kernel
theorem dX7_checkLoss_4 : decode cX7_checkLoss 4 = .ok (.invokestatic 69, 3) := by decide +kernel
theorem dX7_checkLoss_7 : decode cX7_checkLoss 7 = .ok (.return_, 1) := by decide +kernel
theorem dX7_checkOpen_0 : decode cX7_checkOpen 0 = .ok (.aload_n 0, 1) := by decide +kernel
theorem dX7_checkOpen_1 : decode cX7_checkOpen 1 = .ok (.getfield 41, 3) := by decide +kernel
theorem dX7_checkOpen_4 : decode cX7_checkOpen 4 = .ok (.iload_n 1, 1) := by decide +kernel
theorem dX7_checkOpen_5 : decode cX7_checkOpen 5 = .ok (.aaload, 1) := by decide +kernel
theorem dX7_checkOpen_6 : decode cX7_checkOpen 6 = .ok (.getfield 266, 3) := by decide +kernel
theorem dX7_checkOpen_9 : decode cX7_checkOpen 9 = .ok (.ifCond .eq 14, 3) := by decide +kernel
theorem dX7_checkOpen_12 : decode cX7_checkOpen 12 = .ok (.new 57, 3) := by decide +kernel
theorem dX7_checkOpen_15 : decode cX7_checkOpen 15 = .ok (.dup, 1) := by decide +kernel
theorem dX7_checkOpen_16 : decode cX7_checkOpen 16 = .ok (.ldc_w 346, 3) := by decide +kernel
theorem dX7_checkOpen_19 : decode cX7_checkOpen 19 = .ok (.invokespecial 61, 3) := by decide +kernel
theorem dX7_checkOpen_22 : decode cX7_checkOpen 22 = .ok (.athrow, 1) := by decide +kernel
theorem dX7_checkOpen_23 : decode cX7_checkOpen 23 = .ok (.return_, 1) := by decide +kernel
theorem dX7_checkUnsettled_0 : decode cX7_checkUnsettled 0 = .ok (.aload_n 0, 1) := by decide +kernel
theorem dX7_checkUnsettled_1 : decode cX7_checkUnsettled 1 = .ok (.getfield 205, 3) := by decide +kernel
theorem dX7_checkUnsettled_4 : decode cX7_checkUnsettled 4 = .ok (.ifCond .eq 14, 3) := by decide +kernel
theorem dX7_checkUnsettled_7 : decode cX7_checkUnsettled 7 = .ok (.new 57, 3) := by decide +kernel
theorem dX7_checkUnsettled_10 : decode cX7_checkUnsettled 10 = .ok (.dup, 1) := by decide +kernel
theorem dX7_checkUnsettled_11 : decode cX7_checkUnsettled 11 = .ok (.ldc_w 348, 3) := by decide +kernel
theorem dX7_checkUnsettled_14 : decode cX7_checkUnsettled 14 = .ok (.invokespecial 61, 3) := by decide +kernel
theorem dX7_checkUnsettled_17 : decode cX7_checkUnsettled 17 = .ok (.athrow, 1) := by decide +kernel
theorem dX7_checkUnsettled_18 : decode cX7_checkUnsettled 18 = .ok (.return_, 1) := by decide +kernel
theorem dX7_checkRoomForClaims_0 : decode cX7_checkRoomForClaims 0 = .ok (.aload_n 0, 1) := by decide +kernel
theorem dX7_checkRoomForClaims_1 : decode cX7_checkRoomForClaims 1 = .ok (.getfield 299, 3) := by decide +kernel
theorem dX7_checkRoomForClaims_4 : decode cX7_checkRoomForClaims 4 = .ok (.iload_n 1, 1) := by decide +kernel
theorem dX7_checkRoomForClaims_5 : decode cX7_checkRoomForClaims 5 = .ok (.iadd, 1) := by decide +kernel
theorem dX7_checkRoomForClaims_6 : decode cX7_checkRoomForClaims 6 = .ok (.bipush 60, 2) := by decide +kernel
theorem dX7_checkRoomForClaims_8 : decode cX7_checkRoomForClaims 8 = .ok (.if_icmp .le 14, 3) := by decide +kernel
theorem dX7_checkRoomForClaims_11 : decode cX7_checkRoomForClaims 11 = .ok (.new 57, 3) := by decide +kernel
theorem dX7_checkRoomForClaims_14 : decode cX7_checkRoomForClaims 14 = .ok (.dup, 1) := by decide +kernel
theorem dX7_checkRoomForClaims_15 : decode cX7_checkRoomForClaims 15 = .ok (.ldc_w 350, 3) := by decide +kernel
theorem dX7_checkRoomForClaims_18 : decode cX7_checkRoomForClaims 18 = .ok (.invokespecial 61, 3) := by decide +kernel
theorem dX7_checkRoomForClaims_21 : decode cX7_checkRoomForClaims 21 = .ok (.athrow, 1) := by decide +kernel
theorem dX7_checkRoomForClaims_22 : decode cX7_checkRoomForClaims 22 = .ok (.return_, 1) := by decide +kernel
set_option maxRecDepth 20000 in
theorem ggX7_checkClosable_X7_checkOpen : GoodIn wsX7_checkClosable wsX7_checkOpen := goodIn_ca (goodIn_r _ [15, 1, 2, 4, 5, 19, 20, 21, 22, 23, 24, 25, 26, 27, 28, 29, 30, 31, 32, 33, 34, 35, 36, 37, 38, 39] (by decide +kernel) (by decide +kernel)) (goodIn_sub (fun _ h => List.mem_cons_of_mem _ (List.mem_append_right _ h)) (by decide +kernel))
set_option maxRecDepth 20000 in
theorem gX7_checkClosable_X7_checkOpen : GoodIn wsX7_checkClosable (wsV RX7 130 RX7 yX7_checkOpen wsX7_checkOpen) := goodIn_app (goodIn_of _ (by decide +kernel)) ggX7_checkClosable_X7_checkOpen
set_option maxRecDepth 20000 in
theorem ggX7_checkClosable_X7_yearOfDay : GoodIn wsX7_checkClosable wsX7_yearOfDay := goodIn_r _ [18] (by decide +kernel) (by decide +kernel)
set_option maxRecDepth 20000 in
theorem gX7_checkClosable_X7_yearOfDay : GoodIn wsX7_checkClosable (va_wsS RX7 102 yX7_yearOfDay wsX7_yearOfDay) := goodIn_app (goodIn_of _ (by decide +kernel)) ggX7_checkClosable_X7_yearOfDay
theorem dX7_checkClosable_0 : decode cX7_checkClosable 0 = .ok (.aload_n 0, 1) := by decide +kernel
theorem dX7_checkClosable_1 : decode cX7_checkClosable 1 = .ok (.iload_n 1, 1) := by decide +kernel
theorem dX7_checkClosable_2 : decode cX7_checkClosable 2 = .ok (.invokevirtual 130, 3) := by decide +kernel
theorem dX7_checkClosable_5 : decode cX7_checkClosable 5 = .ok (.aload_n 0, 1) := by decide +kernel
theorem dX7_checkClosable_6 : decode cX7_checkClosable 6 = .ok (.getfield 99, 3) := by decide +kernel
theorem dX7_checkClosable_9 : decode cX7_checkClosable 9 = .ok (.iload_n 1, 1) := by decide +kernel
theorem dX7_checkClosable_10 : decode cX7_checkClosable 10 = .ok (.iconst 1, 1) := by decide +kernel
theorem dX7_checkClosable_11 : decode cX7_checkClosable 11 = .ok (.iadd, 1) := by decide +kernel
theorem dX7_checkClosable_12 : decode cX7_checkClosable 12 = .ok (.bipush 100, 2) := by decide +kernel
theorem dX7_checkClosable_14 : decode cX7_checkClosable 14 = .ok (.imul, 1) := by decide +kernel
theorem dX7_checkClosable_15 : decode cX7_checkClosable 15 = .ok (.if_icmp .ge 14, 3) := by decide +kernel
theorem dX7_checkClosable_18 : decode cX7_checkClosable 18 = .ok (.new 57, 3) := by decide +kernel
theorem dX7_checkClosable_21 : decode cX7_checkClosable 21 = .ok (.dup, 1) := by decide +kernel
theorem dX7_checkClosable_22 : decode cX7_checkClosable 22 = .ok (.ldc_w 352, 3) := by decide +kernel
theorem dX7_checkClosable_25 : decode cX7_checkClosable 25 = .ok (.invokespecial 61, 3) := by decide +kernel
theorem dX7_checkClosable_28 : decode cX7_checkClosable 28 = .ok (.athrow, 1) := by decide +kernel
theorem dX7_checkClosable_29 : decode cX7_checkClosable 29 = .ok (.iload_n 1, 1) := by decide +kernel
theorem dX7_checkClosable_30 : decode cX7_checkClosable 30 = .ok (.ifCond .le 28, 3) := by decide +kernel
theorem dX7_checkClosable_33 : decode cX7_checkClosable 33 = .ok (.aload_n 0, 1) := by decide +kernel
theorem dX7_checkClosable_34 : decode cX7_checkClosable 34 = .ok (.getfield 41, 3) := by decide +kernel
theorem dX7_checkClosable_37 : decode cX7_checkClosable 37 = .ok (.iload_n 1, 1) := by decide +kernel
theorem dX7_checkClosable_38 : decode cX7_checkClosable 38 = .ok (.iconst 1, 1) := by decide +kernel
theorem dX7_checkClosable_39 : decode cX7_checkClosable 39 = .ok (.isub, 1) := by decide +kernel
theorem dX7_checkClosable_40 : decode cX7_checkClosable 40 = .ok (.aaload, 1) := by decide +kernel
theorem dX7_checkClosable_41 : decode cX7_checkClosable 41 = .ok (.getfield 266, 3) := by decide +kernel
theorem dX7_checkClosable_44 : decode cX7_checkClosable 44 = .ok (.ifCond .ne 14, 3) := by decide +kernel
theorem dX7_checkClosable_47 : decode cX7_checkClosable 47 = .ok (.new 57, 3) := by decide +kernel
theorem dX7_checkClosable_50 : decode cX7_checkClosable 50 = .ok (.dup, 1) := by decide +kernel
theorem dX7_checkClosable_51 : decode cX7_checkClosable 51 = .ok (.ldc_w 354, 3) := by decide +kernel
theorem dX7_checkClosable_54 : decode cX7_checkClosable 54 = .ok (.invokespecial 61, 3) := by decide +kernel
theorem dX7_checkClosable_57 : decode cX7_checkClosable 57 = .ok (.athrow, 1) := by decide +kernel
theorem dX7_checkClosable_58 : decode cX7_checkClosable 58 = .ok (.iconst 0, 1) := by decide +kernel
theorem dX7_checkClosable_59 : decode cX7_checkClosable 59 = .ok (.istore_n 2, 1) := by decide +kernel
theorem dX7_checkClosable_60 : decode cX7_checkClosable 60 = .ok (.iload_n 2, 1) := by decide +kernel
theorem dX7_checkClosable_61 : decode cX7_checkClosable 61 = .ok (.aload_n 0, 1) := by decide +kernel
theorem dX7_checkClosable_62 : decode cX7_checkClosable 62 = .ok (.getfield 299, 3) := by decide +kernel
theorem dX7_checkClosable_65 : decode cX7_checkClosable 65 = .ok (.if_icmp .ge 51, 3) := by decide +kernel
theorem dX7_checkClosable_68 : decode cX7_checkClosable 68 = .ok (.aload_n 0, 1) := by decide +kernel
theorem dX7_checkClosable_69 : decode cX7_checkClosable 69 = .ok (.getfield 29, 3) := by decide +kernel
theorem dX7_checkClosable_72 : decode cX7_checkClosable 72 = .ok (.iload_n 2, 1) := by decide +kernel
theorem dX7_checkClosable_73 : decode cX7_checkClosable 73 = .ok (.aaload, 1) := by decide +kernel
theorem dX7_checkClosable_74 : decode cX7_checkClosable 74 = .ok (.getfield 214, 3) := by decide +kernel
theorem dX7_checkClosable_77 : decode cX7_checkClosable 77 = .ok (.getfield 170, 3) := by decide +kernel
theorem dX7_checkClosable_80 : decode cX7_checkClosable 80 = .ok (.invokestatic 102, 3) := by decide +kernel
theorem dX7_checkClosable_83 : decode cX7_checkClosable 83 = .ok (.iload_n 1, 1) := by decide +kernel
theorem dX7_checkClosable_84 : decode cX7_checkClosable 84 = .ok (.if_icmp .ne 26, 3) := by decide +kernel
theorem dX7_checkClosable_87 : decode cX7_checkClosable 87 = .ok (.aload_n 0, 1) := by decide +kernel
theorem dX7_checkClosable_88 : decode cX7_checkClosable 88 = .ok (.getfield 29, 3) := by decide +kernel
theorem dX7_checkClosable_91 : decode cX7_checkClosable 91 = .ok (.iload_n 2, 1) := by decide +kernel
theorem dX7_checkClosable_92 : decode cX7_checkClosable 92 = .ok (.aaload, 1) := by decide +kernel
theorem dX7_checkClosable_93 : decode cX7_checkClosable 93 = .ok (.getfield 205, 3) := by decide +kernel
theorem dX7_checkClosable_96 : decode cX7_checkClosable 96 = .ok (.ifCond .ne 14, 3) := by decide +kernel
theorem dX7_checkClosable_99 : decode cX7_checkClosable 99 = .ok (.new 57, 3) := by decide +kernel
theorem dX7_checkClosable_102 : decode cX7_checkClosable 102 = .ok (.dup, 1) := by decide +kernel
theorem dX7_checkClosable_103 : decode cX7_checkClosable 103 = .ok (.ldc_w 356, 3) := by decide +kernel
theorem dX7_checkClosable_106 : decode cX7_checkClosable 106 = .ok (.invokespecial 61, 3) := by decide +kernel
theorem dX7_checkClosable_109 : decode cX7_checkClosable 109 = .ok (.athrow, 1) := by decide +kernel
theorem dX7_checkClosable_110 : decode cX7_checkClosable 110 = .ok (.iinc 2 1, 3) := by decide +kernel
theorem dX7_checkClosable_113 : decode cX7_checkClosable 113 = .ok (.goto (-53), 3) := by decide +kernel
theorem dX7_checkClosable_116 : decode cX7_checkClosable 116 = .ok (.return_, 1) := by decide +kernel
theorem dX7_yearOfDay_0 : decode cX7_yearOfDay 0 = .ok (.iload_n 0, 1) := by decide +kernel
theorem dX7_yearOfDay_1 : decode cX7_yearOfDay 1 = .ok (.bipush 100, 2) := by decide +kernel
theorem dX7_yearOfDay_3 : decode cX7_yearOfDay 3 = .ok (.idiv, 1) := by decide +kernel
theorem dX7_yearOfDay_4 : decode cX7_yearOfDay 4 = .ok (.ireturn, 1) := by decide +kernel
set_option maxRecDepth 20000 in
theorem ggX7_weightIn_X1_daysIn : GoodIn wsX7_weightIn wsX1_daysIn := goodIn_r _ [10, 11, 12, 13, 14, 15, 16, 17, 18, 19, 41, 42, 43] (by decide +kernel) (by decide +kernel)
set_option maxRecDepth 20000 in
theorem gX7_weightIn_X1_daysIn : GoodIn wsX7_weightIn (wsV RX7 362 RX1 yX1_daysIn wsX1_daysIn) := goodIn_app (goodIn_of _ (by decide +kernel)) ggX7_weightIn_X1_daysIn
set_option maxRecDepth 20000 in
theorem ggX7_weightIn_X3_rated : GoodIn wsX7_weightIn wsX3_rated := goodIn_r _ [24, 25, 26, 48, 49, 50, 51, 52] (by decide +kernel) (by decide +kernel)
set_option maxRecDepth 20000 in
theorem gX7_weightIn_X3_rated : GoodIn wsX7_weightIn (wsV RX7 146 RX3 yX3_rated wsX3_rated) := goodIn_app (goodIn_of _ (by decide +kernel)) ggX7_weightIn_X3_rated
theorem dX7_weightIn_0 : decode cX7_weightIn 0 = .ok (.lconst 0, 1) := by decide +kernel
theorem dX7_weightIn_1 : decode cX7_weightIn 1 = .ok (.lstore_n 3, 1) := by decide +kernel
theorem dX7_weightIn_2 : decode cX7_weightIn 2 = .ok (.iconst 0, 1) := by decide +kernel
theorem dX7_weightIn_3 : decode cX7_weightIn 3 = .ok (.istore 5, 2) := by decide +kernel
theorem dX7_weightIn_5 : decode cX7_weightIn 5 = .ok (.iload 5, 2) := by decide +kernel
theorem dX7_weightIn_7 : decode cX7_weightIn 7 = .ok (.aload_n 0, 1) := by decide +kernel
theorem dX7_weightIn_8 : decode cX7_weightIn 8 = .ok (.getfield 108, 3) := by decide +kernel
theorem dX7_weightIn_11 : decode cX7_weightIn 11 = .ok (.if_icmp .ge 50, 3) := by decide +kernel
theorem dX7_weightIn_14 : decode cX7_weightIn 14 = .ok (.aload_n 0, 1) := by decide +kernel
theorem dX7_weightIn_15 : decode cX7_weightIn 15 = .ok (.getfield 23, 3) := by decide +kernel
theorem dX7_weightIn_18 : decode cX7_weightIn 18 = .ok (.iload 5, 2) := by decide +kernel
theorem dX7_weightIn_20 : decode cX7_weightIn 20 = .ok (.aaload, 1) := by decide +kernel
theorem dX7_weightIn_21 : decode cX7_weightIn 21 = .ok (.astore 6, 2) := by decide +kernel
theorem dX7_weightIn_23 : decode cX7_weightIn 23 = .ok (.aload 6, 2) := by decide +kernel
theorem dX7_weightIn_25 : decode cX7_weightIn 25 = .ok (.getfield 358, 3) := by decide +kernel
theorem dX7_weightIn_28 : decode cX7_weightIn 28 = .ok (.getfield 91, 3) := by decide +kernel
theorem dX7_weightIn_31 : decode cX7_weightIn 31 = .ok (.aload_n 1, 1) := by decide +kernel
theorem dX7_weightIn_32 : decode cX7_weightIn 32 = .ok (.if_acmp .ne 23, 3) := by decide +kernel
theorem dX7_weightIn_35 : decode cX7_weightIn 35 = .ok (.lload_n 3, 1) := by decide +kernel
theorem dX7_weightIn_36 : decode cX7_weightIn 36 = .ok (.aload 6, 2) := by decide +kernel
theorem dX7_weightIn_38 : decode cX7_weightIn 38 = .ok (.getfield 358, 3) := by decide +kernel
theorem dX7_weightIn_41 : decode cX7_weightIn 41 = .ok (.getfield 359, 3) := by decide +kernel
theorem dX7_weightIn_44 : decode cX7_weightIn 44 = .ok (.i2l, 1) := by decide +kernel
theorem dX7_weightIn_45 : decode cX7_weightIn 45 = .ok (.aload 6, 2) := by decide +kernel
theorem dX7_weightIn_47 : decode cX7_weightIn 47 = .ok (.iload_n 2, 1) := by decide +kernel
theorem dX7_weightIn_48 : decode cX7_weightIn 48 = .ok (.invokevirtual 362, 3) := by decide +kernel
theorem dX7_weightIn_51 : decode cX7_weightIn 51 = .ok (.i2l, 1) := by decide +kernel
theorem dX7_weightIn_52 : decode cX7_weightIn 52 = .ok (.lmul, 1) := by decide +kernel
theorem dX7_weightIn_53 : decode cX7_weightIn 53 = .ok (.ladd, 1) := by decide +kernel
theorem dX7_weightIn_54 : decode cX7_weightIn 54 = .ok (.lstore_n 3, 1) := by decide +kernel
theorem dX7_weightIn_55 : decode cX7_weightIn 55 = .ok (.iinc 5 1, 3) := by decide +kernel
theorem dX7_weightIn_58 : decode cX7_weightIn 58 = .ok (.goto (-53), 3) := by decide +kernel
theorem dX7_weightIn_61 : decode cX7_weightIn 61 = .ok (.aload_n 1, 1) := by decide +kernel
theorem dX7_weightIn_62 : decode cX7_weightIn 62 = .ok (.lload_n 3, 1) := by decide +kernel
theorem dX7_weightIn_63 : decode cX7_weightIn 63 = .ok (.iload_n 2, 1) := by decide +kernel
theorem dX7_weightIn_64 : decode cX7_weightIn 64 = .ok (.invokevirtual 146, 3) := by decide +kernel
theorem dX7_weightIn_67 : decode cX7_weightIn 67 = .ok (.lreturn, 1) := by decide +kernel
theorem dX7_hasShipEntered_0 : decode cX7_hasShipEntered 0 = .ok (.iconst 0, 1) := by decide +kernel
theorem dX7_hasShipEntered_1 : decode cX7_hasShipEntered 1 = .ok (.istore_n 2, 1) := by decide +kernel
theorem dX7_hasShipEntered_2 : decode cX7_hasShipEntered 2 = .ok (.iload_n 2, 1) := by decide +kernel
theorem dX7_hasShipEntered_3 : decode cX7_hasShipEntered 3 = .ok (.aload_n 0, 1) := by decide +kernel
theorem dX7_hasShipEntered_4 : decode cX7_hasShipEntered 4 = .ok (.getfield 73, 3) := by decide +kernel
theorem dX7_hasShipEntered_7 : decode cX7_hasShipEntered 7 = .ok (.if_icmp .ge 36, 3) := by decide +kernel
theorem dX7_hasShipEntered_10 : decode cX7_hasShipEntered 10 = .ok (.aload_n 0, 1) := by decide +kernel
theorem dX7_hasShipEntered_11 : decode cX7_hasShipEntered 11 = .ok (.getfield 17, 3) := by decide +kernel
theorem dX7_hasShipEntered_14 : decode cX7_hasShipEntered 14 = .ok (.iload_n 2, 1) := by decide +kernel
theorem dX7_hasShipEntered_15 : decode cX7_hasShipEntered 15 = .ok (.aaload, 1) := by decide +kernel
theorem dX7_hasShipEntered_16 : decode cX7_hasShipEntered 16 = .ok (.getfield 91, 3) := by decide +kernel
theorem dX7_hasShipEntered_19 : decode cX7_hasShipEntered 19 = .ok (.aload_n 1, 1) := by decide +kernel
theorem dX7_hasShipEntered_20 : decode cX7_hasShipEntered 20 = .ok (.if_acmp .ne 17, 3) := by decide +kernel
theorem dX7_hasShipEntered_23 : decode cX7_hasShipEntered 23 = .ok (.aload_n 0, 1) := by decide +kernel
theorem dX7_hasShipEntered_24 : decode cX7_hasShipEntered 24 = .ok (.getfield 17, 3) := by decide +kernel
theorem dX7_hasShipEntered_27 : decode cX7_hasShipEntered 27 = .ok (.iload_n 2, 1) := by decide +kernel
theorem dX7_hasShipEntered_28 : decode cX7_hasShipEntered 28 = .ok (.aaload, 1) := by decide +kernel
theorem dX7_hasShipEntered_29 : decode cX7_hasShipEntered 29 = .ok (.getfield 85, 3) := by decide +kernel
theorem dX7_hasShipEntered_32 : decode cX7_hasShipEntered 32 = .ok (.ifnull 5, 3) := by decide +kernel
theorem dX7_hasShipEntered_35 : decode cX7_hasShipEntered 35 = .ok (.iconst 1, 1) := by decide +kernel
theorem dX7_hasShipEntered_36 : decode cX7_hasShipEntered 36 = .ok (.ireturn, 1) := by decide +kernel
theorem dX7_hasShipEntered_37 : decode cX7_hasShipEntered 37 = .ok (.iinc 2 1, 3) := by decide +kernel
theorem dX7_hasShipEntered_40 : decode cX7_hasShipEntered 40 = .ok (.goto (-38), 3) := by decide +kernel
theorem dX7_hasShipEntered_43 : decode cX7_hasShipEntered 43 = .ok (.iconst 0, 1) := by decide +kernel
theorem dX7_hasShipEntered_44 : decode cX7_hasShipEntered 44 = .ok (.ireturn, 1) := by decide +kernel
set_option maxRecDepth 20000 in
theorem ggX7_wasEntered_X1_isOn : GoodIn wsX7_wasEntered wsX1_isOn := goodIn_r _ [8, 9, 10, 25, 26, 27] (by decide +kernel) (by decide +kernel)
set_option maxRecDepth 20000 in
theorem gX7_wasEntered_X1_isOn : GoodIn wsX7_wasEntered (wsV RX7 365 RX1 yX1_isOn wsX1_isOn) := goodIn_app (goodIn_of _ (by decide +kernel)) ggX7_wasEntered_X1_isOn
theorem dX7_wasEntered_0 : decode cX7_wasEntered 0 = .ok (.iconst 0, 1) := by decide +kernel
theorem dX7_wasEntered_1 : decode cX7_wasEntered 1 = .ok (.istore_n 3, 1) := by decide +kernel
theorem dX7_wasEntered_2 : decode cX7_wasEntered 2 = .ok (.iload_n 3, 1) := by decide +kernel
theorem dX7_wasEntered_3 : decode cX7_wasEntered 3 = .ok (.aload_n 0, 1) := by decide +kernel
theorem dX7_wasEntered_4 : decode cX7_wasEntered 4 = .ok (.getfield 108, 3) := by decide +kernel
theorem dX7_wasEntered_7 : decode cX7_wasEntered 7 = .ok (.if_icmp .ge 37, 3) := by decide +kernel
theorem dX7_wasEntered_10 : decode cX7_wasEntered 10 = .ok (.aload_n 0, 1) := by decide +kernel
theorem dX7_wasEntered_11 : decode cX7_wasEntered 11 = .ok (.getfield 23, 3) := by decide +kernel
theorem dX7_wasEntered_14 : decode cX7_wasEntered 14 = .ok (.iload_n 3, 1) := by decide +kernel
theorem dX7_wasEntered_15 : decode cX7_wasEntered 15 = .ok (.aaload, 1) := by decide +kernel
theorem dX7_wasEntered_16 : decode cX7_wasEntered 16 = .ok (.getfield 358, 3) := by decide +kernel
theorem dX7_wasEntered_19 : decode cX7_wasEntered 19 = .ok (.aload_n 1, 1) := by decide +kernel
theorem dX7_wasEntered_20 : decode cX7_wasEntered 20 = .ok (.if_acmp .ne 18, 3) := by decide +kernel
theorem dX7_wasEntered_23 : decode cX7_wasEntered 23 = .ok (.aload_n 0, 1) := by decide +kernel
theorem dX7_wasEntered_24 : decode cX7_wasEntered 24 = .ok (.getfield 23, 3) := by decide +kernel
theorem dX7_wasEntered_27 : decode cX7_wasEntered 27 = .ok (.iload_n 3, 1) := by decide +kernel
theorem dX7_wasEntered_28 : decode cX7_wasEntered 28 = .ok (.aaload, 1) := by decide +kernel
theorem dX7_wasEntered_29 : decode cX7_wasEntered 29 = .ok (.iload_n 2, 1) := by decide +kernel
theorem dX7_wasEntered_30 : decode cX7_wasEntered 30 = .ok (.invokevirtual 365, 3) := by decide +kernel
theorem dX7_wasEntered_33 : decode cX7_wasEntered 33 = .ok (.ifCond .eq 5, 3) := by decide +kernel
theorem dX7_wasEntered_36 : decode cX7_wasEntered 36 = .ok (.iconst 1, 1) := by decide +kernel
theorem dX7_wasEntered_37 : decode cX7_wasEntered 37 = .ok (.ireturn, 1) := by decide +kernel
theorem dX7_wasEntered_38 : decode cX7_wasEntered 38 = .ok (.iinc 3 1, 3) := by decide +kernel
theorem dX7_wasEntered_41 : decode cX7_wasEntered 41 = .ok (.goto (-39), 3) := by decide +kernel
theorem dX7_wasEntered_44 : decode cX7_wasEntered 44 = .ok (.iconst 0, 1) := by decide +kernel
theorem dX7_wasEntered_45 : decode cX7_wasEntered 45 = .ok (.ireturn, 1) := by decide +kernel
set_option maxRecDepth 20000 in
theorem ggX7_newEvent_X2_init : GoodIn wsX7_newEvent wsX2_init := goodIn_r _ [8, 9, 10, 11, 12, 13, 14, 15, 16] (by decide +kernel) (by decide +kernel)
set_option maxRecDepth 20000 in
theorem gX7_newEvent_X2_init : GoodIn wsX7_newEvent (wsX2_init) := ggX7_newEvent_X2_init
theorem dX7_newEvent_0 : decode cX7_newEvent 0 = .ok (.new 33, 3) := by decide +kernel
theorem dX7_newEvent_3 : decode cX7_newEvent 3 = .ok (.dup, 1) := by decide +kernel
theorem dX7_newEvent_4 : decode cX7_newEvent 4 = .ok (.aload_n 0, 1) := by decide +kernel
theorem dX7_newEvent_5 : decode cX7_newEvent 5 = .ok (.getfield 339, 3) := by decide +kernel
theorem dX7_newEvent_8 : decode cX7_newEvent 8 = .ok (.iload_n 1, 1) := by decide +kernel
theorem dX7_newEvent_9 : decode cX7_newEvent 9 = .ok (.invokespecial 369, 3) := by decide +kernel
theorem dX7_newEvent_12 : decode cX7_newEvent 12 = .ok (.astore_n 2, 1) := by decide +kernel
theorem dX7_newEvent_13 : decode cX7_newEvent 13 = .ok (.aload_n 0, 1) := by decide +kernel
theorem dX7_newEvent_14 : decode cX7_newEvent 14 = .ok (.getfield 35, 3) := by decide +kernel
theorem dX7_newEvent_17 : decode cX7_newEvent 17 = .ok (.aload_n 0, 1) := by decide +kernel
theorem dX7_newEvent_18 : decode cX7_newEvent 18 = .ok (.getfield 339, 3) := by decide +kernel
theorem dX7_newEvent_21 : decode cX7_newEvent 21 = .ok (.aload_n 2, 1) := by decide +kernel
theorem dX7_newEvent_22 : decode cX7_newEvent 22 = .ok (.aastore, 1) := by decide +kernel
theorem dX7_newEvent_23 : decode cX7_newEvent 23 = .ok (.aload_n 0, 1) := by decide +kernel
theorem dX7_newEvent_24 : decode cX7_newEvent 24 = .ok (.dup, 1) := by decide +kernel
theorem dX7_newEvent_25 : decode cX7_newEvent 25 = .ok (.getfield 339, 3) := by decide +kernel
theorem dX7_newEvent_28 : decode cX7_newEvent 28 = .ok (.iconst 1, 1) := by decide +kernel
theorem dX7_newEvent_29 : decode cX7_newEvent 29 = .ok (.iadd, 1) := by decide +kernel
theorem dX7_newEvent_30 : decode cX7_newEvent 30 = .ok (.putfield 339, 3) := by decide +kernel
theorem dX7_newEvent_33 : decode cX7_newEvent 33 = .ok (.aload_n 2, 1) := by decide +kernel
theorem dX7_newEvent_34 : decode cX7_newEvent 34 = .ok (.areturn, 1) := by decide +kernel
set_option maxRecDepth 20000 in
theorem ggX7_newClaim_X0_init : GoodIn wsX7_newClaim wsX0_init := goodIn_r _ [9, 10, 11, 12, 13, 14, 15, 16, 31, 32, 33, 34, 35, 36, 37, 38] (by decide +kernel) (by decide +kernel)
set_option maxRecDepth 20000 in
theorem gX7_newClaim_X0_init : GoodIn wsX7_newClaim (wsX0_init) := ggX7_newClaim_X0_init
theorem dX7_newClaim_0 : decode cX7_newClaim 0 = .ok (.aload_n 0, 1) := by decide +kernel
theorem dX7_newClaim_1 : decode cX7_newClaim 1 = .ok (.getfield 29, 3) := by decide +kernel
theorem dX7_newClaim_4 : decode cX7_newClaim 4 = .ok (.aload_n 0, 1) := by decide +kernel
theorem dX7_newClaim_5 : decode cX7_newClaim 5 = .ok (.getfield 299, 3) := by decide +kernel
theorem dX7_newClaim_8 : decode cX7_newClaim 8 = .ok (.new 27, 3) := by decide +kernel
theorem dX7_newClaim_11 : decode cX7_newClaim 11 = .ok (.dup, 1) := by decide +kernel
theorem dX7_newClaim_12 : decode cX7_newClaim 12 = .ok (.aload_n 1, 1) := by decide +kernel
theorem dX7_newClaim_13 : decode cX7_newClaim 13 = .ok (.iload_n 2, 1) := by decide +kernel
theorem dX7_newClaim_14 : decode cX7_newClaim 14 = .ok (.iload_n 3, 1) := by decide +kernel
theorem dX7_newClaim_15 : decode cX7_newClaim 15 = .ok (.aload 4, 2) := by decide +kernel
theorem dX7_newClaim_17 : decode cX7_newClaim 17 = .ok (.invokespecial 372, 3) := by decide +kernel
theorem dX7_newClaim_20 : decode cX7_newClaim 20 = .ok (.aastore, 1) := by decide +kernel
theorem dX7_newClaim_21 : decode cX7_newClaim 21 = .ok (.aload_n 0, 1) := by decide +kernel
theorem dX7_newClaim_22 : decode cX7_newClaim 22 = .ok (.dup, 1) := by decide +kernel
theorem dX7_newClaim_23 : decode cX7_newClaim 23 = .ok (.getfield 299, 3) := by decide +kernel
theorem dX7_newClaim_26 : decode cX7_newClaim 26 = .ok (.iconst 1, 1) := by decide +kernel
theorem dX7_newClaim_27 : decode cX7_newClaim 27 = .ok (.iadd, 1) := by decide +kernel
theorem dX7_newClaim_28 : decode cX7_newClaim 28 = .ok (.putfield 299, 3) := by decide +kernel
theorem dX7_newClaim_31 : decode cX7_newClaim 31 = .ok (.aload 4, 2) := by decide +kernel
theorem dX7_newClaim_33 : decode cX7_newClaim 33 = .ok (.dup, 1) := by decide +kernel
theorem dX7_newClaim_34 : decode cX7_newClaim 34 = .ok (.getfield 239, 3) := by decide +kernel
theorem dX7_newClaim_37 : decode cX7_newClaim 37 = .ok (.iconst 1, 1) := by decide +kernel
theorem dX7_newClaim_38 : decode cX7_newClaim 38 = .ok (.iadd, 1) := by decide +kernel
theorem dX7_newClaim_39 : decode cX7_newClaim 39 = .ok (.putfield 239, 3) := by decide +kernel
theorem dX7_newClaim_42 : decode cX7_newClaim 42 = .ok (.aload_n 0, 1) := by decide +kernel
theorem dX7_newClaim_43 : decode cX7_newClaim 43 = .ok (.getfield 299, 3) := by decide +kernel
theorem dX7_newClaim_46 : decode cX7_newClaim 46 = .ok (.iconst 1, 1) := by decide +kernel
theorem dX7_newClaim_47 : decode cX7_newClaim 47 = .ok (.isub, 1) := by decide +kernel
theorem dX7_newClaim_48 : decode cX7_newClaim 48 = .ok (.ireturn, 1) := by decide +kernel
set_option maxRecDepth 20000 in
theorem ggX7_isCovered_X7_yearOfDay : GoodIn wsX7_isCovered wsX7_yearOfDay := goodIn_r _ [11] (by decide +kernel) (by decide +kernel)
set_option maxRecDepth 20000 in
theorem gX7_isCovered_X7_yearOfDay : GoodIn wsX7_isCovered (va_wsS RX7 102 yX7_yearOfDay wsX7_yearOfDay) := goodIn_app (goodIn_of _ (by decide +kernel)) ggX7_isCovered_X7_yearOfDay
set_option maxRecDepth 20000 in
theorem ggX7_isCovered_X3_isStoppedOn : GoodIn wsX7_isCovered wsX3_isStoppedOn := goodIn_r _ [16, 17, 68, 69, 70, 71, 72] (by decide +kernel) (by decide +kernel)
set_option maxRecDepth 20000 in
theorem gX7_isCovered_X3_isStoppedOn : GoodIn wsX7_isCovered (wsV RX7 377 RX3 yX3_isStoppedOn wsX3_isStoppedOn) := goodIn_app (goodIn_of _ (by decide +kernel)) ggX7_isCovered_X3_isStoppedOn
set_option maxRecDepth 20000 in
theorem ggX7_isCovered_X7_wasEntered : GoodIn wsX7_isCovered wsX7_wasEntered := goodIn_r _ [21, 22, 23, 24, 25, 26, 27, 28, 29, 30, 31, 43, 44, 45, 46, 47, 48, 49, 50, 51, 52, 53, 54, 55, 56, 73, 74, 75] (by decide +kernel) (by decide +kernel)
set_option maxRecDepth 20000 in
theorem gX7_isCovered_X7_wasEntered : GoodIn wsX7_isCovered (wsV RX7 380 RX7 yX7_wasEntered wsX7_wasEntered) := goodIn_app (goodIn_of _ (by decide +kernel)) ggX7_isCovered_X7_wasEntered
theorem dX7_isCovered_0 : decode cX7_isCovered 0 = .ok (.aload_n 1, 1) := by decide +kernel
theorem dX7_isCovered_1 : decode cX7_isCovered 1 = .ok (.getfield 214, 3) := by decide +kernel
theorem dX7_isCovered_4 : decode cX7_isCovered 4 = .ok (.getfield 170, 3) := by decide +kernel
theorem dX7_isCovered_7 : decode cX7_isCovered 7 = .ok (.istore_n 2, 1) := by decide +kernel
theorem dX7_isCovered_8 : decode cX7_isCovered 8 = .ok (.aload_n 0, 1) := by decide +kernel
theorem dX7_isCovered_9 : decode cX7_isCovered 9 = .ok (.getfield 41, 3) := by decide +kernel
theorem dX7_isCovered_12 : decode cX7_isCovered 12 = .ok (.iload_n 2, 1) := by decide +kernel
theorem dX7_isCovered_13 : decode cX7_isCovered 13 = .ok (.invokestatic 102, 3) := by decide +kernel
theorem dX7_isCovered_16 : decode cX7_isCovered 16 = .ok (.aaload, 1) := by decide +kernel
theorem dX7_isCovered_17 : decode cX7_isCovered 17 = .ok (.getfield 266, 3) := by decide +kernel
theorem dX7_isCovered_20 : decode cX7_isCovered 20 = .ok (.ifCond .eq 8, 3) := by decide +kernel
theorem dX7_isCovered_23 : decode cX7_isCovered 23 = .ok (.aload_n 1, 1) := by decide +kernel
theorem dX7_isCovered_24 : decode cX7_isCovered 24 = .ok (.getfield 300, 3) := by decide +kernel
theorem dX7_isCovered_27 : decode cX7_isCovered 27 = .ok (.ireturn, 1) := by decide +kernel
theorem dX7_isCovered_28 : decode cX7_isCovered 28 = .ok (.aload_n 1, 1) := by decide +kernel
theorem dX7_isCovered_29 : decode cX7_isCovered 29 = .ok (.getfield 311, 3) := by decide +kernel
theorem dX7_isCovered_32 : decode cX7_isCovered 32 = .ok (.getfield 91, 3) := by decide +kernel
theorem dX7_isCovered_35 : decode cX7_isCovered 35 = .ok (.iload_n 2, 1) := by decide +kernel
theorem dX7_isCovered_36 : decode cX7_isCovered 36 = .ok (.invokevirtual 377, 3) := by decide +kernel
theorem dX7_isCovered_39 : decode cX7_isCovered 39 = .ok (.ifCond .ne 19, 3) := by decide +kernel
theorem dX7_isCovered_42 : decode cX7_isCovered 42 = .ok (.aload_n 0, 1) := by decide +kernel
theorem dX7_isCovered_43 : decode cX7_isCovered 43 = .ok (.aload_n 1, 1) := by decide +kernel
theorem dX7_isCovered_44 : decode cX7_isCovered 44 = .ok (.getfield 311, 3) := by decide +kernel
theorem dX7_isCovered_47 : decode cX7_isCovered 47 = .ok (.iload_n 2, 1) := by decide +kernel
theorem dX7_isCovered_48 : decode cX7_isCovered 48 = .ok (.invokevirtual 380, 3) := by decide +kernel
theorem dX7_isCovered_51 : decode cX7_isCovered 51 = .ok (.ifCond .eq 7, 3) := by decide +kernel
theorem dX7_isCovered_54 : decode cX7_isCovered 54 = .ok (.iconst 1, 1) := by decide +kernel
theorem dX7_isCovered_55 : decode cX7_isCovered 55 = .ok (.goto 4, 3) := by decide +kernel
theorem dX7_isCovered_58 : decode cX7_isCovered 58 = .ok (.iconst 0, 1) := by decide +kernel
theorem dX7_isCovered_59 : decode cX7_isCovered 59 = .ok (.ireturn, 1) := by decide +kernel
set_option maxRecDepth 20000 in
theorem ggX7_costOf_X7_yearOfDay : GoodIn wsX7_costOf wsX7_yearOfDay := goodIn_r _ [10] (by decide +kernel) (by decide +kernel)
set_option maxRecDepth 20000 in
theorem gX7_costOf_X7_yearOfDay : GoodIn wsX7_costOf (va_wsS RX7 102 yX7_yearOfDay wsX7_yearOfDay) := goodIn_app (goodIn_of _ (by decide +kernel)) ggX7_costOf_X7_yearOfDay
set_option maxRecDepth 20000 in
theorem ggX7_costOf_X7_isFirstOfItsGroup : GoodIn wsX7_costOf wsX7_isFirstOfItsGroup := goodIn_r _ [14, 3, 15, 16, 17, 18, 19, 20, 21, 22, 84, 85, 86, 87, 88, 89, 90, 91, 92, 93, 94, 95, 96, 97, 98, 99, 100, 101, 102, 103, 104, 105] (by decide +kernel) (by decide +kernel)
set_option maxRecDepth 20000 in
theorem gX7_costOf_X7_isFirstOfItsGroup : GoodIn wsX7_costOf (wsV RX7 384 RX7 yX7_isFirstOfItsGroup wsX7_isFirstOfItsGroup) := goodIn_app (goodIn_of _ (by decide +kernel)) ggX7_costOf_X7_isFirstOfItsGroup
set_option maxRecDepth 20000 in
theorem ggX7_costOf_X7_isCovered : GoodIn wsX7_costOf wsX7_isCovered := goodIn_r _ [26, 4, 1, 27, 28, 29, 30, 31, 7, 8, 9, 10, 32, 33, 34, 35, 36, 37, 38, 39, 40, 41, 42, 43, 44, 45, 46, 47, 48, 49, 50, 51, 98, 99, 100, 101, 102, 103, 104, 105, 81, 82, 83, 84, 85, 86, 87, 88, 89, 90, 91, 92, 93, 94, 95, 96, 97, 106, 107, 108, 109, 110, 111, 112, 113, 114, 115, 116, 117, 118, 119, 120, 121, 122, 123, 124] (by decide +kernel) (by decide +kernel)
set_option maxRecDepth 20000 in
theorem gX7_costOf_X7_isCovered : GoodIn wsX7_costOf (wsV RX7 221 RX7 yX7_isCovered wsX7_isCovered) := goodIn_app (goodIn_of _ (by decide +kernel)) ggX7_costOf_X7_isCovered
set_option maxRecDepth 20000 in
theorem ggX7_costOf_X7_lossesOfGroup : GoodIn wsX7_costOf wsX7_lossesOfGroup := goodIn_r _ [55, 2, 3, 15, 16, 17, 18, 19, 20, 21, 22, 56, 57, 58, 59, 60, 61, 62, 63, 64, 65, 66, 84, 85, 86, 87, 88, 89, 90, 91, 92, 93, 94, 95, 96, 97, 98, 99, 100, 101, 102, 103, 104, 105, 113, 114, 115, 116] (by decide +kernel) (by decide +kernel)
set_option maxRecDepth 20000 in
theorem gX7_costOf_X7_lossesOfGroup : GoodIn wsX7_costOf (wsV RX7 390 RX7 yX7_lossesOfGroup wsX7_lossesOfGroup) := goodIn_app (goodIn_of _ (by decide +kernel)) ggX7_costOf_X7_lossesOfGroup
set_option maxRecDepth 20000 in
theorem ggX7_costOf_X4_applied : GoodIn wsX7_costOf wsX4_applied := goodIn_r _ [71, 72, 73, 74, 65, 75, 76, 77, 78, 79, 80, 125, 126] (by decide +kernel) (by decide +kernel)
set_option maxRecDepth 20000 in
theorem gX7_costOf_X4_applied : GoodIn wsX7_costOf (wsV RX7 393 RX4 yX4_applied wsX4_applied) := goodIn_app (goodIn_of _ (by decide +kernel)) ggX7_costOf_X4_applied
theorem dX7_costOf_0 : decode cX7_costOf 0 = .ok (.aload_n 1, 1) := by decide +kernel
theorem dX7_costOf_1 : decode cX7_costOf 1 = .ok (.getfield 170, 3) := by decide +kernel
theorem dX7_costOf_4 : decode cX7_costOf 4 = .ok (.invokestatic 102, 3) := by decide +kernel
theorem dX7_costOf_7 : decode cX7_costOf 7 = .ok (.istore_n 2, 1) := by decide +kernel
theorem dX7_costOf_8 : decode cX7_costOf 8 = .ok (.lconst 0, 1) := by decide +kernel
theorem dX7_costOf_9 : decode cX7_costOf 9 = .ok (.lstore_n 3, 1) := by decide +kernel
theorem dX7_costOf_10 : decode cX7_costOf 10 = .ok (.iconst 0, 1) := by decide +kernel
theorem dX7_costOf_11 : decode cX7_costOf 11 = .ok (.istore 5, 2) := by decide +kernel
theorem dX7_costOf_13 : decode cX7_costOf 13 = .ok (.iload 5, 2) := by decide +kernel
theorem dX7_costOf_15 : decode cX7_costOf 15 = .ok (.aload_n 0, 1) := by decide +kernel
theorem dX7_costOf_16 : decode cX7_costOf 16 = .ok (.getfield 299, 3) := by decide +kernel
theorem dX7_costOf_19 : decode cX7_costOf 19 = .ok (.if_icmp .ge 67, 3) := by decide +kernel
theorem dX7_costOf_22 : decode cX7_costOf 22 = .ok (.aload_n 0, 1) := by decide +kernel
theorem dX7_costOf_23 : decode cX7_costOf 23 = .ok (.getfield 29, 3) := by decide +kernel
theorem dX7_costOf_26 : decode cX7_costOf 26 = .ok (.iload 5, 2) := by decide +kernel
theorem dX7_costOf_28 : decode cX7_costOf 28 = .ok (.aaload, 1) := by decide +kernel
theorem dX7_costOf_29 : decode cX7_costOf 29 = .ok (.astore 6, 2) := by decide +kernel
theorem dX7_costOf_31 : decode cX7_costOf 31 = .ok (.aload 6, 2) := by decide +kernel
theorem dX7_costOf_33 : decode cX7_costOf 33 = .ok (.getfield 214, 3) := by decide +kernel
theorem dX7_costOf_36 : decode cX7_costOf 36 = .ok (.aload_n 1, 1) := by decide +kernel
theorem dX7_costOf_37 : decode cX7_costOf 37 = .ok (.if_acmp .ne 43, 3) := by decide +kernel
theorem dX7_costOf_40 : decode cX7_costOf 40 = .ok (.aload_n 0, 1) := by decide +kernel
theorem dX7_costOf_41 : decode cX7_costOf 41 = .ok (.iload 5, 2) := by decide +kernel
theorem dX7_costOf_43 : decode cX7_costOf 43 = .ok (.invokevirtual 384, 3) := by decide +kernel
theorem dX7_costOf_46 : decode cX7_costOf 46 = .ok (.ifCond .eq 34, 3) := by decide +kernel
theorem dX7_costOf_49 : decode cX7_costOf 49 = .ok (.aload_n 0, 1) := by decide +kernel
theorem dX7_costOf_50 : decode cX7_costOf 50 = .ok (.aload 6, 2) := by decide +kernel
theorem dX7_costOf_52 : decode cX7_costOf 52 = .ok (.invokevirtual 221, 3) := by decide +kernel
theorem dX7_costOf_55 : decode cX7_costOf 55 = .ok (.ifCond .eq 25, 3) := by decide +kernel
theorem dX7_costOf_58 : decode cX7_costOf 58 = .ok (.lload_n 3, 1) := by decide +kernel
theorem dX7_costOf_59 : decode cX7_costOf 59 = .ok (.aload_n 0, 1) := by decide +kernel
theorem dX7_costOf_60 : decode cX7_costOf 60 = .ok (.getfield 48, 3) := by decide +kernel
theorem dX7_costOf_63 : decode cX7_costOf 63 = .ok (.aload 6, 2) := by decide +kernel
theorem dX7_costOf_65 : decode cX7_costOf 65 = .ok (.getfield 387, 3) := by decide +kernel
theorem dX7_costOf_68 : decode cX7_costOf 68 = .ok (.iload_n 2, 1) := by decide +kernel
theorem dX7_costOf_69 : decode cX7_costOf 69 = .ok (.aload_n 0, 1) := by decide +kernel
theorem dX7_costOf_70 : decode cX7_costOf 70 = .ok (.iload 5, 2) := by decide +kernel
theorem dX7_costOf_72 : decode cX7_costOf 72 = .ok (.invokevirtual 390, 3) := by decide +kernel
theorem dX7_costOf_75 : decode cX7_costOf 75 = .ok (.invokevirtual 393, 3) := by decide +kernel
theorem dX7_costOf_78 : decode cX7_costOf 78 = .ok (.ladd, 1) := by decide +kernel
theorem dX7_costOf_79 : decode cX7_costOf 79 = .ok (.lstore_n 3, 1) := by decide +kernel
theorem dX7_costOf_80 : decode cX7_costOf 80 = .ok (.iinc 5 1, 3) := by decide +kernel
theorem dX7_costOf_83 : decode cX7_costOf 83 = .ok (.goto (-70), 3) := by decide +kernel
theorem dX7_costOf_86 : decode cX7_costOf 86 = .ok (.lload_n 3, 1) := by decide +kernel
theorem dX7_costOf_87 : decode cX7_costOf 87 = .ok (.lreturn, 1) := by decide +kernel
set_option maxRecDepth 20000 in
theorem ggX7_isFirstOfItsGroup_X0_isOfGroup : GoodIn wsX7_isFirstOfItsGroup wsX0_isOfGroup := goodIn_r _ [6, 7, 8, 9, 24, 25, 26, 27, 28, 29, 30, 31] (by decide +kernel) (by decide +kernel)
set_option maxRecDepth 20000 in
theorem gX7_isFirstOfItsGroup_X0_isOfGroup : GoodIn wsX7_isFirstOfItsGroup (wsV RX7 397 RX0 yX0_isOfGroup wsX0_isOfGroup) := goodIn_app (goodIn_of _ (by decide +kernel)) ggX7_isFirstOfItsGroup_X0_isOfGroup
theorem dX7_isFirstOfItsGroup_0 : decode cX7_isFirstOfItsGroup 0 = .ok (.iconst 0, 1) := by decide +kernel
theorem dX7_isFirstOfItsGroup_1 : decode cX7_isFirstOfItsGroup 1 = .ok (.istore_n 2, 1) := by decide +kernel
theorem dX7_isFirstOfItsGroup_2 : decode cX7_isFirstOfItsGroup 2 = .ok (.iload_n 2, 1) := by decide +kernel
theorem dX7_isFirstOfItsGroup_3 : decode cX7_isFirstOfItsGroup 3 = .ok (.iload_n 1, 1) := by decide +kernel
theorem dX7_isFirstOfItsGroup_4 : decode cX7_isFirstOfItsGroup 4 = .ok (.if_icmp .ge 29, 3) := by decide +kernel
theorem dX7_isFirstOfItsGroup_7 : decode cX7_isFirstOfItsGroup 7 = .ok (.aload_n 0, 1) := by decide +kernel
theorem dX7_isFirstOfItsGroup_8 : decode cX7_isFirstOfItsGroup 8 = .ok (.getfield 29, 3) := by decide +kernel
theorem dX7_isFirstOfItsGroup_11 : decode cX7_isFirstOfItsGroup 11 = .ok (.iload_n 2, 1) := by decide +kernel
theorem dX7_isFirstOfItsGroup_12 : decode cX7_isFirstOfItsGroup 12 = .ok (.aaload, 1) := by decide +kernel
theorem dX7_isFirstOfItsGroup_13 : decode cX7_isFirstOfItsGroup 13 = .ok (.aload_n 0, 1) := by decide +kernel
theorem dX7_isFirstOfItsGroup_14 : decode cX7_isFirstOfItsGroup 14 = .ok (.getfield 29, 3) := by decide +kernel
theorem dX7_isFirstOfItsGroup_17 : decode cX7_isFirstOfItsGroup 17 = .ok (.iload_n 1, 1) := by decide +kernel
theorem dX7_isFirstOfItsGroup_18 : decode cX7_isFirstOfItsGroup 18 = .ok (.aaload, 1) := by decide +kernel
theorem dX7_isFirstOfItsGroup_19 : decode cX7_isFirstOfItsGroup 19 = .ok (.invokevirtual 397, 3) := by decide +kernel
theorem dX7_isFirstOfItsGroup_22 : decode cX7_isFirstOfItsGroup 22 = .ok (.ifCond .eq 5, 3) := by decide +kernel
theorem dX7_isFirstOfItsGroup_25 : decode cX7_isFirstOfItsGroup 25 = .ok (.iconst 0, 1) := by decide +kernel
theorem dX7_isFirstOfItsGroup_26 : decode cX7_isFirstOfItsGroup 26 = .ok (.ireturn, 1) := by decide +kernel
theorem dX7_isFirstOfItsGroup_27 : decode cX7_isFirstOfItsGroup 27 = .ok (.iinc 2 1, 3) := by decide +kernel
theorem dX7_isFirstOfItsGroup_30 : decode cX7_isFirstOfItsGroup 30 = .ok (.goto (-28), 3) := by decide +kernel
theorem dX7_isFirstOfItsGroup_33 : decode cX7_isFirstOfItsGroup 33 = .ok (.iconst 1, 1) := by decide +kernel
theorem dX7_isFirstOfItsGroup_34 : decode cX7_isFirstOfItsGroup 34 = .ok (.ireturn, 1) := by decide +kernel
set_option maxRecDepth 20000 in
theorem ggX7_lossesOfGroup_X0_isOfGroup : GoodIn wsX7_lossesOfGroup wsX0_isOfGroup := goodIn_r _ [7, 8, 9, 10, 36, 37, 38, 39, 40, 41, 42, 43] (by decide +kernel) (by decide +kernel)
set_option maxRecDepth 20000 in
theorem gX7_lossesOfGroup_X0_isOfGroup : GoodIn wsX7_lossesOfGroup (wsV RX7 397 RX0 yX0_isOfGroup wsX0_isOfGroup) := goodIn_app (goodIn_of _ (by decide +kernel)) ggX7_lossesOfGroup_X0_isOfGroup
set_option maxRecDepth 20000 in
theorem ggX7_lossesOfGroup_X0_limitedLoss : GoodIn wsX7_lossesOfGroup wsX0_limitedLoss := goodIn_r _ [14, 15, 16, 9, 17, 18, 19, 20, 21, 36, 37, 38, 39, 40, 41, 42, 43, 44, 45, 46, 47] (by decide +kernel) (by decide +kernel)
set_option maxRecDepth 20000 in
theorem gX7_lossesOfGroup_X0_limitedLoss : GoodIn wsX7_lossesOfGroup (wsV RX7 228 RX0 yX0_limitedLoss wsX0_limitedLoss) := goodIn_app (goodIn_of _ (by decide +kernel)) ggX7_lossesOfGroup_X0_limitedLoss
theorem dX7_lossesOfGroup_0 : decode cX7_lossesOfGroup 0 = .ok (.lconst 0, 1) := by decide +kernel
theorem dX7_lossesOfGroup_1 : decode cX7_lossesOfGroup 1 = .ok (.lstore_n 2, 1) := by decide +kernel
theorem dX7_lossesOfGroup_2 : decode cX7_lossesOfGroup 2 = .ok (.iload_n 1, 1) := by decide +kernel
theorem dX7_lossesOfGroup_3 : decode cX7_lossesOfGroup 3 = .ok (.istore 4, 2) := by decide +kernel
theorem dX7_lossesOfGroup_5 : decode cX7_lossesOfGroup 5 = .ok (.iload 4, 2) := by decide +kernel
theorem dX7_lossesOfGroup_7 : decode cX7_lossesOfGroup 7 = .ok (.aload_n 0, 1) := by decide +kernel
theorem dX7_lossesOfGroup_8 : decode cX7_lossesOfGroup 8 = .ok (.getfield 299, 3) := by decide +kernel
theorem dX7_lossesOfGroup_11 : decode cX7_lossesOfGroup 11 = .ok (.if_icmp .ge 42, 3) := by decide +kernel
theorem dX7_lossesOfGroup_14 : decode cX7_lossesOfGroup 14 = .ok (.aload_n 0, 1) := by decide +kernel
theorem dX7_lossesOfGroup_15 : decode cX7_lossesOfGroup 15 = .ok (.getfield 29, 3) := by decide +kernel
theorem dX7_lossesOfGroup_18 : decode cX7_lossesOfGroup 18 = .ok (.iload 4, 2) := by decide +kernel
theorem dX7_lossesOfGroup_20 : decode cX7_lossesOfGroup 20 = .ok (.aaload, 1) := by decide +kernel
theorem dX7_lossesOfGroup_21 : decode cX7_lossesOfGroup 21 = .ok (.aload_n 0, 1) := by decide +kernel
theorem dX7_lossesOfGroup_22 : decode cX7_lossesOfGroup 22 = .ok (.getfield 29, 3) := by decide +kernel
theorem dX7_lossesOfGroup_25 : decode cX7_lossesOfGroup 25 = .ok (.iload_n 1, 1) := by decide +kernel
theorem dX7_lossesOfGroup_26 : decode cX7_lossesOfGroup 26 = .ok (.aaload, 1) := by decide +kernel
theorem dX7_lossesOfGroup_27 : decode cX7_lossesOfGroup 27 = .ok (.invokevirtual 397, 3) := by decide +kernel
theorem dX7_lossesOfGroup_30 : decode cX7_lossesOfGroup 30 = .ok (.ifCond .eq 17, 3) := by decide +kernel
theorem dX7_lossesOfGroup_33 : decode cX7_lossesOfGroup 33 = .ok (.lload_n 2, 1) := by decide +kernel
theorem dX7_lossesOfGroup_34 : decode cX7_lossesOfGroup 34 = .ok (.aload_n 0, 1) := by decide +kernel
theorem dX7_lossesOfGroup_35 : decode cX7_lossesOfGroup 35 = .ok (.getfield 29, 3) := by decide +kernel
theorem dX7_lossesOfGroup_38 : decode cX7_lossesOfGroup 38 = .ok (.iload 4, 2) := by decide +kernel
theorem dX7_lossesOfGroup_40 : decode cX7_lossesOfGroup 40 = .ok (.aaload, 1) := by decide +kernel
theorem dX7_lossesOfGroup_41 : decode cX7_lossesOfGroup 41 = .ok (.invokevirtual 228, 3) := by decide +kernel
theorem dX7_lossesOfGroup_44 : decode cX7_lossesOfGroup 44 = .ok (.i2l, 1) := by decide +kernel
theorem dX7_lossesOfGroup_45 : decode cX7_lossesOfGroup 45 = .ok (.ladd, 1) := by decide +kernel
theorem dX7_lossesOfGroup_46 : decode cX7_lossesOfGroup 46 = .ok (.lstore_n 2, 1) := by decide +kernel
theorem dX7_lossesOfGroup_47 : decode cX7_lossesOfGroup 47 = .ok (.iinc 4 1, 3) := by decide +kernel
theorem dX7_lossesOfGroup_50 : decode cX7_lossesOfGroup 50 = .ok (.goto (-45), 3) := by decide +kernel
theorem dX7_lossesOfGroup_53 : decode cX7_lossesOfGroup 53 = .ok (.lload_n 2, 1) := by decide +kernel
theorem dX7_lossesOfGroup_54 : decode cX7_lossesOfGroup 54 = .ok (.lreturn, 1) := by decide +kernel
set_option maxRecDepth 20000 in
theorem ggX7_borneOf_X7_yearOfDay : GoodIn wsX7_borneOf wsX7_yearOfDay := goodIn_r _ [6] (by decide +kernel) (by decide +kernel)
set_option maxRecDepth 20000 in
theorem gX7_borneOf_X7_yearOfDay : GoodIn wsX7_borneOf (va_wsS RX7 102 yX7_yearOfDay wsX7_yearOfDay) := goodIn_app (goodIn_of _ (by decide +kernel)) ggX7_borneOf_X7_yearOfDay
set_option maxRecDepth 20000 in
theorem ggX7_borneOf_X7_costOf : GoodIn wsX7_borneOf wsX7_costOf := goodIn_r _ [10, 2, 11, 12, 13, 14, 15, 3, 4, 5, 6, 16, 17, 18, 19, 20, 21, 22, 23, 24, 25, 26, 27, 28, 29, 30, 31, 1, 32, 33, 34, 35, 36, 37, 38, 39, 40, 41, 42, 43, 44, 45, 46, 47, 48, 49, 50, 51, 52, 53, 54, 55, 56, 57, 58, 59, 60, 61, 62, 63, 64, 65, 66, 67, 68, 69, 70, 71, 72, 73, 74, 75, 76, 77, 78, 79, 80, 81, 82, 83, 84, 111, 112, 113, 97, 98, 99, 100, 101, 102, 103, 104, 105, 106, 107, 108, 109, 110, 114, 115, 116, 117, 118, 119, 120, 121, 122, 123, 124, 125, 126, 127, 128, 129, 130, 131, 132, 133, 134, 135, 136, 137, 138, 139, 140, 141, 142] (by decide +kernel) (by decide +kernel)
set_option maxRecDepth 20000 in
theorem gX7_borneOf_X7_costOf : GoodIn wsX7_borneOf (wsV RX7 232 RX7 yX7_costOf wsX7_costOf) := goodIn_app (goodIn_of _ (by decide +kernel)) ggX7_borneOf_X7_costOf
set_option maxRecDepth 20000 in
theorem ggX7_borneOf_X6_borneOf : GoodIn wsX7_borneOf wsX6_borneOf := goodIn_r _ [89, 90, 91, 92, 93, 78, 69, 79, 94, 95, 96, 82, 83, 122, 123, 124, 125, 126, 127, 128] (by decide +kernel) (by decide +kernel)
set_option maxRecDepth 20000 in
theorem gX7_borneOf_X6_borneOf : GoodIn wsX7_borneOf (wsV RX7 400 RX6 yX6_borneOf wsX6_borneOf) := goodIn_app (goodIn_of _ (by decide +kernel)) ggX7_borneOf_X6_borneOf
theorem dX7_borneOf_0 : decode cX7_borneOf 0 = .ok (.aload_n 0, 1) := by decide +kernel
theorem dX7_borneOf_1 : decode cX7_borneOf 1 = .ok (.getfield 41, 3) := by decide +kernel
theorem dX7_borneOf_4 : decode cX7_borneOf 4 = .ok (.aload_n 1, 1) := by decide +kernel
theorem dX7_borneOf_5 : decode cX7_borneOf 5 = .ok (.getfield 170, 3) := by decide +kernel
theorem dX7_borneOf_8 : decode cX7_borneOf 8 = .ok (.invokestatic 102, 3) := by decide +kernel
theorem dX7_borneOf_11 : decode cX7_borneOf 11 = .ok (.aaload, 1) := by decide +kernel
theorem dX7_borneOf_12 : decode cX7_borneOf 12 = .ok (.aload_n 0, 1) := by decide +kernel
theorem dX7_borneOf_13 : decode cX7_borneOf 13 = .ok (.aload_n 1, 1) := by decide +kernel
theorem dX7_borneOf_14 : decode cX7_borneOf 14 = .ok (.invokevirtual 232, 3) := by decide +kernel
theorem dX7_borneOf_17 : decode cX7_borneOf 17 = .ok (.invokevirtual 400, 3) := by decide +kernel
theorem dX7_borneOf_20 : decode cX7_borneOf 20 = .ok (.lreturn, 1) := by decide +kernel
set_option maxRecDepth 20000 in
theorem ggX7_costIn_X7_yearOfDay : GoodIn wsX7_costIn wsX7_yearOfDay := goodIn_r _ [7] (by decide +kernel) (by decide +kernel)
set_option maxRecDepth 20000 in
theorem gX7_costIn_X7_yearOfDay : GoodIn wsX7_costIn (va_wsS RX7 102 yX7_yearOfDay wsX7_yearOfDay) := goodIn_app (goodIn_of _ (by decide +kernel)) ggX7_costIn_X7_yearOfDay
set_option maxRecDepth 20000 in
theorem ggX7_costIn_X7_borneOf : GoodIn wsX7_costIn wsX7_borneOf := goodIn_r _ [11, 12, 3, 4, 5, 6, 7, 13, 14, 15, 16, 17, 18, 19, 20, 21, 22, 23, 24, 25, 26, 27, 28, 29, 30, 31, 32, 33, 34, 35, 36, 37, 38, 39, 40, 41, 42, 43, 44, 45, 46, 47, 48, 49, 50, 51, 52, 53, 54, 55, 56, 57, 58, 59, 60, 61, 62, 63, 64, 65, 66, 67, 68, 69, 70, 71, 72, 73, 74, 75, 76, 77, 78, 79, 80, 81, 82, 83, 84, 85, 86, 87, 88, 89, 90, 91, 92, 93, 94, 95, 96, 97, 98, 99, 100, 101, 102, 103, 104, 105, 106, 107, 108, 109, 110, 111, 112, 113, 114, 115, 116, 117, 118, 119, 120, 121, 122, 123, 124, 125, 126, 127, 128, 129, 130, 131, 132, 133, 134, 135, 136, 137, 138, 139, 140, 141, 142, 143, 144, 145, 146, 147, 148] (by decide +kernel) (by decide +kernel)
set_option maxRecDepth 20000 in
theorem gX7_costIn_X7_borneOf : GoodIn wsX7_costIn (wsV RX7 236 RX7 yX7_borneOf wsX7_borneOf) := goodIn_app (goodIn_of _ (by decide +kernel)) ggX7_costIn_X7_borneOf
theorem dX7_costIn_0 : decode cX7_costIn 0 = .ok (.lconst 0, 1) := by decide +kernel
theorem dX7_costIn_1 : decode cX7_costIn 1 = .ok (.lstore_n 2, 1) := by decide +kernel
theorem dX7_costIn_2 : decode cX7_costIn 2 = .ok (.iconst 0, 1) := by decide +kernel
theorem dX7_costIn_3 : decode cX7_costIn 3 = .ok (.istore 4, 2) := by decide +kernel
theorem dX7_costIn_5 : decode cX7_costIn 5 = .ok (.iload 4, 2) := by decide +kernel
theorem dX7_costIn_7 : decode cX7_costIn 7 = .ok (.aload_n 0, 1) := by decide +kernel
theorem dX7_costIn_8 : decode cX7_costIn 8 = .ok (.getfield 339, 3) := by decide +kernel
theorem dX7_costIn_11 : decode cX7_costIn 11 = .ok (.if_icmp .ge 40, 3) := by decide +kernel
theorem dX7_costIn_14 : decode cX7_costIn 14 = .ok (.aload_n 0, 1) := by decide +kernel
theorem dX7_costIn_15 : decode cX7_costIn 15 = .ok (.getfield 35, 3) := by decide +kernel
theorem dX7_costIn_18 : decode cX7_costIn 18 = .ok (.iload 4, 2) := by decide +kernel
theorem dX7_costIn_20 : decode cX7_costIn 20 = .ok (.aaload, 1) := by decide +kernel
theorem dX7_costIn_21 : decode cX7_costIn 21 = .ok (.getfield 170, 3) := by decide +kernel
theorem dX7_costIn_24 : decode cX7_costIn 24 = .ok (.invokestatic 102, 3) := by decide +kernel
theorem dX7_costIn_27 : decode cX7_costIn 27 = .ok (.iload_n 1, 1) := by decide +kernel
theorem dX7_costIn_28 : decode cX7_costIn 28 = .ok (.if_icmp .ne 17, 3) := by decide +kernel
theorem dX7_costIn_31 : decode cX7_costIn 31 = .ok (.lload_n 2, 1) := by decide +kernel
theorem dX7_costIn_32 : decode cX7_costIn 32 = .ok (.aload_n 0, 1) := by decide +kernel
theorem dX7_costIn_33 : decode cX7_costIn 33 = .ok (.aload_n 0, 1) := by decide +kernel
theorem dX7_costIn_34 : decode cX7_costIn 34 = .ok (.getfield 35, 3) := by decide +kernel
theorem dX7_costIn_37 : decode cX7_costIn 37 = .ok (.iload 4, 2) := by decide +kernel
theorem dX7_costIn_39 : decode cX7_costIn 39 = .ok (.aaload, 1) := by decide +kernel
theorem dX7_costIn_40 : decode cX7_costIn 40 = .ok (.invokevirtual 236, 3) := by decide +kernel
theorem dX7_costIn_43 : decode cX7_costIn 43 = .ok (.ladd, 1) := by decide +kernel
theorem dX7_costIn_44 : decode cX7_costIn 44 = .ok (.lstore_n 2, 1) := by decide +kernel
theorem dX7_costIn_45 : decode cX7_costIn 45 = .ok (.iinc 4 1, 3) := by decide +kernel
theorem dX7_costIn_48 : decode cX7_costIn 48 = .ok (.goto (-43), 3) := by decide +kernel
theorem dX7_costIn_51 : decode cX7_costIn 51 = .ok (.lload_n 2, 1) := by decide +kernel
theorem dX7_costIn_52 : decode cX7_costIn 52 = .ok (.lreturn, 1) := by decide +kernel
set_option maxRecDepth 20000 in
theorem ggX7_advanceOf_X7_weightIn : GoodIn wsX7_advanceOf wsX7_weightIn := goodIn_r _ [8, 9, 10, 11, 12, 13, 14, 15, 16, 17, 18, 19, 20, 21, 22, 23, 24, 25, 26, 27, 28, 29, 30, 31, 32, 33, 34, 35, 36, 37, 38, 39, 40, 41, 42, 43, 44, 45, 46, 47, 48, 56, 57, 58, 59, 60, 61, 62, 63, 64, 65, 66, 67] (by decide +kernel) (by decide +kernel)
set_option maxRecDepth 20000 in
theorem gX7_advanceOf_X7_weightIn : GoodIn wsX7_advanceOf (wsV RX7 139 RX7 yX7_weightIn wsX7_weightIn) := goodIn_app (goodIn_of _ (by decide +kernel)) ggX7_advanceOf_X7_weightIn
theorem dX7_advanceOf_0 : decode cX7_advanceOf 0 = .ok (.aload_n 0, 1) := by decide +kernel
theorem dX7_advanceOf_1 : decode cX7_advanceOf 1 = .ok (.aload_n 1, 1) := by decide +kernel
theorem dX7_advanceOf_2 : decode cX7_advanceOf 2 = .ok (.iload_n 2, 1) := by decide +kernel
theorem dX7_advanceOf_3 : decode cX7_advanceOf 3 = .ok (.invokevirtual 139, 3) := by decide +kernel
theorem dX7_advanceOf_6 : decode cX7_advanceOf 6 = .ok (.aload_n 0, 1) := by decide +kernel
theorem dX7_advanceOf_7 : decode cX7_advanceOf 7 = .ok (.getfield 41, 3) := by decide +kernel
theorem dX7_advanceOf_10 : decode cX7_advanceOf 10 = .ok (.iload_n 2, 1) := by decide +kernel
theorem dX7_advanceOf_11 : decode cX7_advanceOf 11 = .ok (.aaload, 1) := by decide +kernel
theorem dX7_advanceOf_12 : decode cX7_advanceOf 12 = .ok (.getfield 248, 3) := by decide +kernel
theorem dX7_advanceOf_15 : decode cX7_advanceOf 15 = .ok (.i2l, 1) := by decide +kernel
theorem dX7_advanceOf_16 : decode cX7_advanceOf 16 = .ok (.lmul, 1) := by decide +kernel
theorem dX7_advanceOf_17 : decode cX7_advanceOf 17 = .ok (.ldc2_w 403, 3) := by decide +kernel
theorem dX7_advanceOf_20 : decode cX7_advanceOf 20 = .ok (.ldiv, 1) := by decide +kernel
theorem dX7_advanceOf_21 : decode cX7_advanceOf 21 = .ok (.lreturn, 1) := by decide +kernel
set_option maxRecDepth 20000 in
theorem ggX7_dueOf_X7_advanceOf : GoodIn wsX7_dueOf wsX7_advanceOf := goodIn_r _ [11, 1, 12, 13, 14, 15, 16, 10, 17, 18, 19, 20, 21, 22, 23, 24, 25, 26, 27, 28, 29, 30, 31, 32, 33, 34, 35, 36, 37, 38, 39, 40, 41, 42, 43, 44, 45, 46, 47, 48, 49, 50, 51, 52, 53, 54, 55, 56, 57, 58, 59, 60, 61, 62, 63, 64, 70, 71, 72, 73, 74, 75, 76, 65, 66, 67, 68, 69] (by decide +kernel) (by decide +kernel)
set_option maxRecDepth 20000 in
theorem gX7_dueOf_X7_advanceOf : GoodIn wsX7_dueOf (wsV RX7 409 RX7 yX7_advanceOf wsX7_advanceOf) := goodIn_app (goodIn_of _ (by decide +kernel)) ggX7_dueOf_X7_advanceOf
theorem dX7_dueOf_0 : decode cX7_dueOf 0 = .ok (.aload_n 0, 1) := by decide +kernel
theorem dX7_dueOf_1 : decode cX7_dueOf 1 = .ok (.getfield 41, 3) := by decide +kernel
theorem dX7_dueOf_4 : decode cX7_dueOf 4 = .ok (.iload_n 2, 1) := by decide +kernel
theorem dX7_dueOf_5 : decode cX7_dueOf 5 = .ok (.aaload, 1) := by decide +kernel
theorem dX7_dueOf_6 : decode cX7_dueOf 6 = .ok (.getfield 266, 3) := by decide +kernel
theorem dX7_dueOf_9 : decode cX7_dueOf 9 = .ok (.ifCond .ne 12, 3) := by decide +kernel
theorem dX7_dueOf_12 : decode cX7_dueOf 12 = .ok (.aload_n 1, 1) := by decide +kernel
theorem dX7_dueOf_13 : decode cX7_dueOf 13 = .ok (.getfield 95, 3) := by decide +kernel
theorem dX7_dueOf_16 : decode cX7_dueOf 16 = .ok (.iload_n 2, 1) := by decide +kernel
theorem dX7_dueOf_17 : decode cX7_dueOf 17 = .ok (.baload, 1) := by decide +kernel
theorem dX7_dueOf_18 : decode cX7_dueOf 18 = .ok (.ifCond .eq 10, 3) := by decide +kernel
theorem dX7_dueOf_21 : decode cX7_dueOf 21 = .ok (.aload_n 1, 1) := by decide +kernel
theorem dX7_dueOf_22 : decode cX7_dueOf 22 = .ok (.getfield 405, 3) := by decide +kernel
theorem dX7_dueOf_25 : decode cX7_dueOf 25 = .ok (.iload_n 2, 1) := by decide +kernel
theorem dX7_dueOf_26 : decode cX7_dueOf 26 = .ok (.laload, 1) := by decide +kernel
