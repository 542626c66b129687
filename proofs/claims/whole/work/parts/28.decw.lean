set_option maxRecDepth 20000 in
theorem ggL_member_X7_member : GoodIn wsL_member wsX7_member := goodIn_ca (goodIn_r _ [6, 7, 8, 9, 10, 11, 12, 13, 14, 15, 16, 17, 18, 19, 20, 21, 22, 23, 24, 25, 26, 27, 28, 29, 30, 31, 32, 33, 34, 35, 36, 37, 38, 39, 40, 41, 42, 43, 44, 45, 46, 47, 48, 49] (by decide +kernel) (by decide +kernel)) (goodIn_sub (fun _ h => List.mem_cons_of_mem _ (List.mem_append_right _ h)) (by decide +kernel))
set_option maxRecDepth 20000 in
theorem gL_member_X7_member : GoodIn wsL_member (wsV RL 7 RX7 yX7_member wsX7_member) := goodIn_app (goodIn_of _ (by decide +kernel)) ggL_member_X7_member
theorem dL_member_0 : decode cL_member 0 = .ok (.aload_n 1, 1) := by decide +kernel
theorem dL_member_1 : decode cL_member 1 = .ok (.iconst 0, 1) := by decide +kernel
theorem dL_member_2 : decode cL_member 2 = .ok (.aload_n 0, 1) := by decide +kernel
theorem dL_member_3 : decode cL_member 3 = .ok (.invokevirtual 7, 3) := by decide +kernel
theorem dL_member_6 : decode cL_member 6 = .ok (.i2l, 1) := by decide +kernel
theorem dL_member_7 : decode cL_member 7 = .ok (.lastore, 1) := by decide +kernel
theorem dL_member_8 : decode cL_member 8 = .ok (.goto 6, 3) := by decide +kernel
theorem dL_member_11 : decode cL_member 11 = .ok (.astore_n 2, 1) := by decide +kernel
theorem dL_member_12 : decode cL_member 12 = .ok (.iconst 1, 1) := by decide +kernel
theorem dL_member_13 : decode cL_member 13 = .ok (.ireturn, 1) := by decide +kernel
theorem dL_member_14 : decode cL_member 14 = .ok (.iconst 0, 1) := by decide +kernel
theorem dL_member_15 : decode cL_member 15 = .ok (.ireturn, 1) := by decide +kernel
set_option maxRecDepth 20000 in
theorem ggL_ship_X7_ship : GoodIn wsL_ship wsX7_ship := goodIn_ca (goodIn_ca (goodIn_ca (goodIn_r _ [8, 9, 10, 11, 12, 13, 14, 15, 16, 17, 18, 7, 19, 20, 21, 22, 23, 24, 25, 26, 27, 28, 29, 30, 31, 32, 33, 34, 35, 36, 37, 38, 39, 40, 41, 42, 43, 44, 45, 46, 47, 48, 49, 50, 51, 52, 53, 54] (by decide +kernel) (by decide +kernel)) (goodIn_sub (fun _ h => List.mem_cons_of_mem _ (List.mem_append_left _ (List.mem_append_left _ (List.mem_append_right _ h)))) (by decide +kernel))) (goodIn_sub (fun _ h => List.mem_cons_of_mem _ (List.mem_append_left _ (List.mem_append_right _ h))) (by decide +kernel))) (goodIn_sub (fun _ h => List.mem_cons_of_mem _ (List.mem_append_right _ h)) (by decide +kernel))
set_option maxRecDepth 20000 in
theorem gL_ship_X7_ship : GoodIn wsL_ship (wsV RL 15 RX7 yX7_ship wsX7_ship) := goodIn_app (goodIn_of _ (by decide +kernel)) ggL_ship_X7_ship
theorem dL_ship_0 : decode cL_ship 0 = .ok (.aload_n 3, 1) := by decide +kernel
theorem dL_ship_1 : decode cL_ship 1 = .ok (.iconst 0, 1) := by decide +kernel
theorem dL_ship_2 : decode cL_ship 2 = .ok (.aload_n 0, 1) := by decide +kernel
theorem dL_ship_3 : decode cL_ship 3 = .ok (.iload_n 1, 1) := by decide +kernel
theorem dL_ship_4 : decode cL_ship 4 = .ok (.iload_n 2, 1) := by decide +kernel
theorem dL_ship_5 : decode cL_ship 5 = .ok (.invokevirtual 15, 3) := by decide +kernel
theorem dL_ship_8 : decode cL_ship 8 = .ok (.i2l, 1) := by decide +kernel
theorem dL_ship_9 : decode cL_ship 9 = .ok (.lastore, 1) := by decide +kernel
theorem dL_ship_10 : decode cL_ship 10 = .ok (.goto 15, 3) := by decide +kernel
theorem dL_ship_13 : decode cL_ship 13 = .ok (.astore 4, 2) := by decide +kernel
theorem dL_ship_15 : decode cL_ship 15 = .ok (.iconst 1, 1) := by decide +kernel
theorem dL_ship_16 : decode cL_ship 16 = .ok (.ireturn, 1) := by decide +kernel
theorem dL_ship_17 : decode cL_ship 17 = .ok (.astore 4, 2) := by decide +kernel
theorem dL_ship_19 : decode cL_ship 19 = .ok (.iconst 2, 1) := by decide +kernel
theorem dL_ship_20 : decode cL_ship 20 = .ok (.ireturn, 1) := by decide +kernel
theorem dL_ship_21 : decode cL_ship 21 = .ok (.astore 4, 2) := by decide +kernel
theorem dL_ship_23 : decode cL_ship 23 = .ok (.iconst 3, 1) := by decide +kernel
theorem dL_ship_24 : decode cL_ship 24 = .ok (.ireturn, 1) := by decide +kernel
theorem dL_ship_25 : decode cL_ship 25 = .ok (.iconst 0, 1) := by decide +kernel
theorem dL_ship_26 : decode cL_ship 26 = .ok (.ireturn, 1) := by decide +kernel
set_option maxRecDepth 20000 in
theorem ggL_enter_X7_enter : GoodIn wsL_enter wsX7_enter := goodIn_ca (goodIn_ca (goodIn_r _ [7, 8, 9, 10, 11, 12, 13, 14, 15, 16, 17, 18, 19, 20, 21, 6, 22, 23, 24, 25, 26, 27, 28, 29, 30, 31, 32, 33, 34, 35, 36, 37, 38, 39, 40, 41, 42, 43, 44, 45, 46, 47, 48, 49, 50, 51, 52, 53, 54, 55, 56, 57, 58, 59, 60, 61, 62, 63, 64] (by decide +kernel) (by decide +kernel)) (goodIn_sub (fun _ h => List.mem_cons_of_mem _ (List.mem_append_left _ (List.mem_append_right _ h))) (by decide +kernel))) (goodIn_sub (fun _ h => List.mem_cons_of_mem _ (List.mem_append_right _ h)) (by decide +kernel))
set_option maxRecDepth 20000 in
theorem gL_enter_X7_enter : GoodIn wsL_enter (wsV RL 23 RX7 yX7_enter wsX7_enter) := goodIn_app (goodIn_of _ (by decide +kernel)) ggL_enter_X7_enter
theorem dL_enter_0 : decode cL_enter 0 = .ok (.aload_n 0, 1) := by decide +kernel
theorem dL_enter_1 : decode cL_enter 1 = .ok (.iload_n 1, 1) := by decide +kernel
theorem dL_enter_2 : decode cL_enter 2 = .ok (.invokevirtual 23, 3) := by decide +kernel
theorem dL_enter_5 : decode cL_enter 5 = .ok (.goto 9, 3) := by decide +kernel
theorem dL_enter_8 : decode cL_enter 8 = .ok (.astore_n 2, 1) := by decide +kernel
theorem dL_enter_9 : decode cL_enter 9 = .ok (.iconst 1, 1) := by decide +kernel
theorem dL_enter_10 : decode cL_enter 10 = .ok (.ireturn, 1) := by decide +kernel
theorem dL_enter_11 : decode cL_enter 11 = .ok (.astore_n 2, 1) := by decide +kernel
theorem dL_enter_12 : decode cL_enter 12 = .ok (.iconst 2, 1) := by decide +kernel
theorem dL_enter_13 : decode cL_enter 13 = .ok (.ireturn, 1) := by decide +kernel
theorem dL_enter_14 : decode cL_enter 14 = .ok (.iconst 0, 1) := by decide +kernel
theorem dL_enter_15 : decode cL_enter 15 = .ok (.ireturn, 1) := by decide +kernel
set_option maxRecDepth 20000 in
theorem ggL_leave_X7_leave : GoodIn wsL_leave wsX7_leave := goodIn_ca (goodIn_ca (goodIn_r _ [7, 8, 9, 10, 11, 12, 13, 14, 15, 16, 6, 17, 18, 19, 20, 21, 22, 23, 24, 25, 26, 27, 28, 29, 30, 31, 32, 33, 34, 35, 36, 37, 38, 39, 40, 41, 42] (by decide +kernel) (by decide +kernel)) (goodIn_sub (fun _ h => List.mem_cons_of_mem _ (List.mem_append_left _ (List.mem_append_right _ h))) (by decide +kernel))) (goodIn_sub (fun _ h => List.mem_cons_of_mem _ (List.mem_append_right _ h)) (by decide +kernel))
set_option maxRecDepth 20000 in
theorem gL_leave_X7_leave : GoodIn wsL_leave (wsV RL 27 RX7 yX7_leave wsX7_leave) := goodIn_app (goodIn_of _ (by decide +kernel)) ggL_leave_X7_leave
theorem dL_leave_0 : decode cL_leave 0 = .ok (.aload_n 2, 1) := by decide +kernel
theorem dL_leave_1 : decode cL_leave 1 = .ok (.iconst 0, 1) := by decide +kernel
theorem dL_leave_2 : decode cL_leave 2 = .ok (.aload_n 0, 1) := by decide +kernel
theorem dL_leave_3 : decode cL_leave 3 = .ok (.iload_n 1, 1) := by decide +kernel
theorem dL_leave_4 : decode cL_leave 4 = .ok (.invokevirtual 27, 3) := by decide +kernel
theorem dL_leave_7 : decode cL_leave 7 = .ok (.i2l, 1) := by decide +kernel
theorem dL_leave_8 : decode cL_leave 8 = .ok (.lastore, 1) := by decide +kernel
theorem dL_leave_9 : decode cL_leave 9 = .ok (.goto 9, 3) := by decide +kernel
theorem dL_leave_12 : decode cL_leave 12 = .ok (.astore_n 3, 1) := by decide +kernel
theorem dL_leave_13 : decode cL_leave 13 = .ok (.iconst 1, 1) := by decide +kernel
theorem dL_leave_14 : decode cL_leave 14 = .ok (.ireturn, 1) := by decide +kernel
theorem dL_leave_15 : decode cL_leave 15 = .ok (.astore_n 3, 1) := by decide +kernel
theorem dL_leave_16 : decode cL_leave 16 = .ok (.iconst 2, 1) := by decide +kernel
theorem dL_leave_17 : decode cL_leave 17 = .ok (.ireturn, 1) := by decide +kernel
theorem dL_leave_18 : decode cL_leave 18 = .ok (.iconst 0, 1) := by decide +kernel
theorem dL_leave_19 : decode cL_leave 19 = .ok (.ireturn, 1) := by decide +kernel
set_option maxRecDepth 20000 in
theorem ggL_pass_X7_pass : GoodIn wsL_pass wsX7_pass := goodIn_ca (goodIn_ca (goodIn_r _ [7, 8, 9, 10, 11, 12, 6, 13, 14, 15, 16, 17, 18, 19, 20, 21, 22, 23, 24, 25, 26, 27, 28, 29] (by decide +kernel) (by decide +kernel)) (goodIn_sub (fun _ h => List.mem_cons_of_mem _ (List.mem_append_left _ (List.mem_append_right _ h))) (by decide +kernel))) (goodIn_sub (fun _ h => List.mem_cons_of_mem _ (List.mem_append_right _ h)) (by decide +kernel))
set_option maxRecDepth 20000 in
theorem gL_pass_X7_pass : GoodIn wsL_pass (wsV RL 31 RX7 yX7_pass wsX7_pass) := goodIn_app (goodIn_of _ (by decide +kernel)) ggL_pass_X7_pass
theorem dL_pass_0 : decode cL_pass 0 = .ok (.aload_n 2, 1) := by decide +kernel
theorem dL_pass_1 : decode cL_pass 1 = .ok (.iconst 0, 1) := by decide +kernel
theorem dL_pass_2 : decode cL_pass 2 = .ok (.aload_n 0, 1) := by decide +kernel
theorem dL_pass_3 : decode cL_pass 3 = .ok (.iload_n 1, 1) := by decide +kernel
theorem dL_pass_4 : decode cL_pass 4 = .ok (.invokevirtual 31, 3) := by decide +kernel
theorem dL_pass_7 : decode cL_pass 7 = .ok (.i2l, 1) := by decide +kernel
theorem dL_pass_8 : decode cL_pass 8 = .ok (.lastore, 1) := by decide +kernel
theorem dL_pass_9 : decode cL_pass 9 = .ok (.goto 9, 3) := by decide +kernel
theorem dL_pass_12 : decode cL_pass 12 = .ok (.astore_n 3, 1) := by decide +kernel
theorem dL_pass_13 : decode cL_pass 13 = .ok (.iconst 1, 1) := by decide +kernel
theorem dL_pass_14 : decode cL_pass 14 = .ok (.ireturn, 1) := by decide +kernel
theorem dL_pass_15 : decode cL_pass 15 = .ok (.astore_n 3, 1) := by decide +kernel
theorem dL_pass_16 : decode cL_pass 16 = .ok (.iconst 2, 1) := by decide +kernel
theorem dL_pass_17 : decode cL_pass 17 = .ok (.ireturn, 1) := by decide +kernel
theorem dL_pass_18 : decode cL_pass 18 = .ok (.iconst 0, 1) := by decide +kernel
theorem dL_pass_19 : decode cL_pass 19 = .ok (.ireturn, 1) := by decide +kernel
set_option maxRecDepth 20000 in
theorem ggL_rate_X7_rate : GoodIn wsL_rate wsX7_rate := goodIn_ca (goodIn_ca (goodIn_ca (goodIn_r _ [8, 9, 10, 11, 12, 13, 14, 15, 7, 16, 17, 18, 19, 20, 21, 22, 23, 24, 25, 26, 27, 28, 29, 30, 31, 32, 33, 34, 35, 36, 37, 38, 39, 40, 41, 42, 43, 44, 45, 46, 47, 48, 49, 50, 51, 52, 53, 54, 55, 56, 57, 58, 59, 60] (by decide +kernel) (by decide +kernel)) (goodIn_sub (fun _ h => List.mem_cons_of_mem _ (List.mem_append_left _ (List.mem_append_left _ (List.mem_append_right _ h)))) (by decide +kernel))) (goodIn_sub (fun _ h => List.mem_cons_of_mem _ (List.mem_append_left _ (List.mem_append_right _ h))) (by decide +kernel))) (goodIn_sub (fun _ h => List.mem_cons_of_mem _ (List.mem_append_right _ h)) (by decide +kernel))
set_option maxRecDepth 20000 in
theorem gL_rate_X7_rate : GoodIn wsL_rate (wsV RL 34 RX7 yX7_rate wsX7_rate) := goodIn_app (goodIn_of _ (by decide +kernel)) ggL_rate_X7_rate
theorem dL_rate_0 : decode cL_rate 0 = .ok (.aload 4, 2) := by decide +kernel
theorem dL_rate_2 : decode cL_rate 2 = .ok (.iconst 0, 1) := by decide +kernel
theorem dL_rate_3 : decode cL_rate 3 = .ok (.aload_n 0, 1) := by decide +kernel
theorem dL_rate_4 : decode cL_rate 4 = .ok (.iload_n 1, 1) := by decide +kernel
theorem dL_rate_5 : decode cL_rate 5 = .ok (.iload_n 2, 1) := by decide +kernel
theorem dL_rate_6 : decode cL_rate 6 = .ok (.iload_n 3, 1) := by decide +kernel
theorem dL_rate_7 : decode cL_rate 7 = .ok (.invokevirtual 34, 3) := by decide +kernel
theorem dL_rate_10 : decode cL_rate 10 = .ok (.i2l, 1) := by decide +kernel
theorem dL_rate_11 : decode cL_rate 11 = .ok (.lastore, 1) := by decide +kernel
theorem dL_rate_12 : decode cL_rate 12 = .ok (.goto 15, 3) := by decide +kernel
theorem dL_rate_15 : decode cL_rate 15 = .ok (.astore 5, 2) := by decide +kernel
theorem dL_rate_17 : decode cL_rate 17 = .ok (.iconst 1, 1) := by decide +kernel
theorem dL_rate_18 : decode cL_rate 18 = .ok (.ireturn, 1) := by decide +kernel
theorem dL_rate_19 : decode cL_rate 19 = .ok (.astore 5, 2) := by decide +kernel
theorem dL_rate_21 : decode cL_rate 21 = .ok (.iconst 2, 1) := by decide +kernel
theorem dL_rate_22 : decode cL_rate 22 = .ok (.ireturn, 1) := by decide +kernel
theorem dL_rate_23 : decode cL_rate 23 = .ok (.astore 5, 2) := by decide +kernel
theorem dL_rate_25 : decode cL_rate 25 = .ok (.iconst 3, 1) := by decide +kernel
theorem dL_rate_26 : decode cL_rate 26 = .ok (.ireturn, 1) := by decide +kernel
theorem dL_rate_27 : decode cL_rate 27 = .ok (.iconst 0, 1) := by decide +kernel
theorem dL_rate_28 : decode cL_rate 28 = .ok (.ireturn, 1) := by decide +kernel
set_option maxRecDepth 20000 in
theorem ggL_weight_X7_weight : GoodIn wsL_weight wsX7_weight := goodIn_ca (goodIn_ca (goodIn_r _ [7, 8, 9, 10, 6, 11, 12, 13, 14, 15, 16, 17, 18, 19, 20, 21, 22, 23, 24, 25, 26, 27, 28, 29, 30, 31, 32, 33, 34, 35, 36, 37, 38, 39, 40, 41, 42, 43, 44, 45, 46, 47, 48, 49, 50, 51, 52, 53, 54, 55, 56, 57, 58, 59, 60, 61, 62, 63, 64, 65, 66, 67, 68, 69, 70, 71, 72, 73, 74, 75, 76, 77, 78, 79] (by decide +kernel) (by decide +kernel)) (goodIn_sub (fun _ h => List.mem_cons_of_mem _ (List.mem_append_left _ (List.mem_append_right _ h))) (by decide +kernel))) (goodIn_sub (fun _ h => List.mem_cons_of_mem _ (List.mem_append_right _ h)) (by decide +kernel))
set_option maxRecDepth 20000 in
theorem gL_weight_X7_weight : GoodIn wsL_weight (wsV RL 38 RX7 yX7_weight wsX7_weight) := goodIn_app (goodIn_of _ (by decide +kernel)) ggL_weight_X7_weight
theorem dL_weight_0 : decode cL_weight 0 = .ok (.aload_n 3, 1) := by decide +kernel
theorem dL_weight_1 : decode cL_weight 1 = .ok (.iconst 0, 1) := by decide +kernel
theorem dL_weight_2 : decode cL_weight 2 = .ok (.aload_n 0, 1) := by decide +kernel
theorem dL_weight_3 : decode cL_weight 3 = .ok (.iload_n 1, 1) := by decide +kernel
theorem dL_weight_4 : decode cL_weight 4 = .ok (.iload_n 2, 1) := by decide +kernel
theorem dL_weight_5 : decode cL_weight 5 = .ok (.invokevirtual 38, 3) := by decide +kernel
theorem dL_weight_8 : decode cL_weight 8 = .ok (.lastore, 1) := by decide +kernel
theorem dL_weight_9 : decode cL_weight 9 = .ok (.goto 11, 3) := by decide +kernel
theorem dL_weight_12 : decode cL_weight 12 = .ok (.astore 4, 2) := by decide +kernel
theorem dL_weight_14 : decode cL_weight 14 = .ok (.iconst 1, 1) := by decide +kernel
theorem dL_weight_15 : decode cL_weight 15 = .ok (.ireturn, 1) := by decide +kernel
theorem dL_weight_16 : decode cL_weight 16 = .ok (.astore 4, 2) := by decide +kernel
theorem dL_weight_18 : decode cL_weight 18 = .ok (.iconst 2, 1) := by decide +kernel
theorem dL_weight_19 : decode cL_weight 19 = .ok (.ireturn, 1) := by decide +kernel
theorem dL_weight_20 : decode cL_weight 20 = .ok (.iconst 0, 1) := by decide +kernel
theorem dL_weight_21 : decode cL_weight 21 = .ok (.ireturn, 1) := by decide +kernel
set_option maxRecDepth 20000 in
theorem ggL_weightAnew_X7_weightAnew : GoodIn wsL_weightAnew wsX7_weightAnew := goodIn_ca (goodIn_ca (goodIn_r _ [7, 8, 9, 10, 6, 11, 12, 13, 14, 15, 16, 17, 18, 19, 20, 21, 22, 23, 24, 25, 26, 27, 28, 29, 30, 31, 32, 33, 34, 35, 36, 37, 38, 39, 40, 41, 42, 43, 44, 45, 46, 47, 48, 49, 50, 51, 52, 53, 54, 55, 56, 57, 58, 59, 60, 61, 62, 63, 64, 65, 66, 67, 68, 69, 70, 71, 72] (by decide +kernel) (by decide +kernel)) (goodIn_sub (fun _ h => List.mem_cons_of_mem _ (List.mem_append_left _ (List.mem_append_right _ h))) (by decide +kernel))) (goodIn_sub (fun _ h => List.mem_cons_of_mem _ (List.mem_append_right _ h)) (by decide +kernel))
set_option maxRecDepth 20000 in
theorem gL_weightAnew_X7_weightAnew : GoodIn wsL_weightAnew (wsV RL 42 RX7 yX7_weightAnew wsX7_weightAnew) := goodIn_app (goodIn_of _ (by decide +kernel)) ggL_weightAnew_X7_weightAnew
theorem dL_weightAnew_0 : decode cL_weightAnew 0 = .ok (.aload_n 3, 1) := by decide +kernel
theorem dL_weightAnew_1 : decode cL_weightAnew 1 = .ok (.iconst 0, 1) := by decide +kernel
theorem dL_weightAnew_2 : decode cL_weightAnew 2 = .ok (.aload_n 0, 1) := by decide +kernel
theorem dL_weightAnew_3 : decode cL_weightAnew 3 = .ok (.iload_n 1, 1) := by decide +kernel
theorem dL_weightAnew_4 : decode cL_weightAnew 4 = .ok (.iload_n 2, 1) := by decide +kernel
theorem dL_weightAnew_5 : decode cL_weightAnew 5 = .ok (.invokevirtual 42, 3) := by decide +kernel
theorem dL_weightAnew_8 : decode cL_weightAnew 8 = .ok (.lastore, 1) := by decide +kernel
theorem dL_weightAnew_9 : decode cL_weightAnew 9 = .ok (.goto 11, 3) := by decide +kernel
theorem dL_weightAnew_12 : decode cL_weightAnew 12 = .ok (.astore 4, 2) := by decide +kernel
theorem dL_weightAnew_14 : decode cL_weightAnew 14 = .ok (.iconst 1, 1) := by decide +kernel
theorem dL_weightAnew_15 : decode cL_weightAnew 15 = .ok (.ireturn, 1) := by decide +kernel
theorem dL_weightAnew_16 : decode cL_weightAnew 16 = .ok (.astore 4, 2) := by decide +kernel
theorem dL_weightAnew_18 : decode cL_weightAnew 18 = .ok (.iconst 2, 1) := by decide +kernel
theorem dL_weightAnew_19 : decode cL_weightAnew 19 = .ok (.ireturn, 1) := by decide +kernel
theorem dL_weightAnew_20 : decode cL_weightAnew 20 = .ok (.iconst 0, 1) := by decide +kernel
theorem dL_weightAnew_21 : decode cL_weightAnew 21 = .ok (.ireturn, 1) := by decide +kernel
set_option maxRecDepth 20000 in
theorem ggL_rule_X7_rule : GoodIn wsL_rule wsX7_rule := goodIn_ca (goodIn_ca (goodIn_r _ [7, 8, 9, 10, 11, 12, 6, 13, 14, 15, 16, 17, 18, 19, 20, 21, 22, 23, 24, 25, 26, 27, 28, 29, 30, 31, 32, 33, 34, 35, 36, 37, 38, 39, 40, 41, 42, 43, 44, 45, 46, 47, 48, 49, 50, 51, 52, 53, 54, 55, 56, 57, 58, 59] (by decide +kernel) (by decide +kernel)) (goodIn_sub (fun _ h => List.mem_cons_of_mem _ (List.mem_append_left _ (List.mem_append_right _ h))) (by decide +kernel))) (goodIn_sub (fun _ h => List.mem_cons_of_mem _ (List.mem_append_right _ h)) (by decide +kernel))
set_option maxRecDepth 20000 in
theorem gL_rule_X7_rule : GoodIn wsL_rule (wsV RL 45 RX7 yX7_rule wsX7_rule) := goodIn_app (goodIn_of _ (by decide +kernel)) ggL_rule_X7_rule
theorem dL_rule_0 : decode cL_rule 0 = .ok (.aload_n 0, 1) := by decide +kernel
theorem dL_rule_1 : decode cL_rule 1 = .ok (.iload_n 1, 1) := by decide +kernel
theorem dL_rule_2 : decode cL_rule 2 = .ok (.iload_n 2, 1) := by decide +kernel
theorem dL_rule_3 : decode cL_rule 3 = .ok (.iload_n 3, 1) := by decide +kernel
theorem dL_rule_4 : decode cL_rule 4 = .ok (.iload 4, 2) := by decide +kernel
theorem dL_rule_6 : decode cL_rule 6 = .ok (.invokevirtual 45, 3) := by decide +kernel
theorem dL_rule_9 : decode cL_rule 9 = .ok (.goto 11, 3) := by decide +kernel
theorem dL_rule_12 : decode cL_rule 12 = .ok (.astore 5, 2) := by decide +kernel
theorem dL_rule_14 : decode cL_rule 14 = .ok (.iconst 1, 1) := by decide +kernel
theorem dL_rule_15 : decode cL_rule 15 = .ok (.ireturn, 1) := by decide +kernel
theorem dL_rule_16 : decode cL_rule 16 = .ok (.astore 5, 2) := by decide +kernel
theorem dL_rule_18 : decode cL_rule 18 = .ok (.iconst 2, 1) := by decide +kernel
theorem dL_rule_19 : decode cL_rule 19 = .ok (.ireturn, 1) := by decide +kernel
theorem dL_rule_20 : decode cL_rule 20 = .ok (.iconst 0, 1) := by decide +kernel
theorem dL_rule_21 : decode cL_rule 21 = .ok (.ireturn, 1) := by decide +kernel
set_option maxRecDepth 20000 in
theorem ggL_pool_X7_pool : GoodIn wsL_pool wsX7_pool := goodIn_ca (goodIn_ca (goodIn_r _ [7, 8, 9, 10, 11, 12, 6, 13, 14, 15, 16, 17, 18, 19, 20, 21, 22, 23, 24, 25, 26, 27, 28, 29, 30, 31, 32, 33, 34, 35, 36, 37, 38, 39, 40, 41, 42, 43, 44, 45, 46, 47, 48, 49, 50, 51, 52, 53, 54, 55] (by decide +kernel) (by decide +kernel)) (goodIn_sub (fun _ h => List.mem_cons_of_mem _ (List.mem_append_left _ (List.mem_append_right _ h))) (by decide +kernel))) (goodIn_sub (fun _ h => List.mem_cons_of_mem _ (List.mem_append_right _ h)) (by decide +kernel))
set_option maxRecDepth 20000 in
theorem gL_pool_X7_pool : GoodIn wsL_pool (wsV RL 49 RX7 yX7_pool wsX7_pool) := goodIn_app (goodIn_of _ (by decide +kernel)) ggL_pool_X7_pool
theorem dL_pool_0 : decode cL_pool 0 = .ok (.aload_n 0, 1) := by decide +kernel
theorem dL_pool_1 : decode cL_pool 1 = .ok (.iload_n 1, 1) := by decide +kernel
theorem dL_pool_2 : decode cL_pool 2 = .ok (.iload_n 2, 1) := by decide +kernel
theorem dL_pool_3 : decode cL_pool 3 = .ok (.iload_n 3, 1) := by decide +kernel
theorem dL_pool_4 : decode cL_pool 4 = .ok (.iload 4, 2) := by decide +kernel
theorem dL_pool_6 : decode cL_pool 6 = .ok (.invokevirtual 49, 3) := by decide +kernel
theorem dL_pool_9 : decode cL_pool 9 = .ok (.goto 11, 3) := by decide +kernel
theorem dL_pool_12 : decode cL_pool 12 = .ok (.astore 5, 2) := by decide +kernel
theorem dL_pool_14 : decode cL_pool 14 = .ok (.iconst 1, 1) := by decide +kernel
theorem dL_pool_15 : decode cL_pool 15 = .ok (.ireturn, 1) := by decide +kernel
theorem dL_pool_16 : decode cL_pool 16 = .ok (.astore 5, 2) := by decide +kernel
theorem dL_pool_18 : decode cL_pool 18 = .ok (.iconst 2, 1) := by decide +kernel
theorem dL_pool_19 : decode cL_pool 19 = .ok (.ireturn, 1) := by decide +kernel
theorem dL_pool_20 : decode cL_pool 20 = .ok (.iconst 0, 1) := by decide +kernel
theorem dL_pool_21 : decode cL_pool 21 = .ok (.ireturn, 1) := by decide +kernel
set_option maxRecDepth 20000 in
theorem ggL_claim_X7_claim : GoodIn wsL_claim wsX7_claim := goodIn_ca (goodIn_ca (goodIn_ca (goodIn_r _ [8, 9, 10, 11, 12, 13, 14, 15, 7, 16, 17, 18, 19, 20, 21, 22, 23, 24, 25, 26, 27, 28, 29, 30, 31, 32, 33, 34, 35, 36, 37, 38, 39, 40, 41, 42, 43, 44, 45, 46, 47, 48, 49, 50, 51, 52, 53, 54, 55, 56, 57, 58, 59, 60, 61, 62, 63, 64, 65, 66, 67, 68, 69, 70, 71, 72, 73, 74, 75, 76, 77, 78, 79, 80, 81, 82, 83, 84, 85, 86, 87, 88, 89, 90, 91, 92, 93, 94, 95, 96, 97, 98, 99, 100, 101, 102, 103, 104, 105, 106, 107, 108, 109, 110, 111, 112, 113, 114, 115, 116] (by decide +kernel) (by decide +kernel)) (goodIn_sub (fun _ h => List.mem_cons_of_mem _ (List.mem_append_left _ (List.mem_append_left _ (List.mem_append_right _ h)))) (by decide +kernel))) (goodIn_sub (fun _ h => List.mem_cons_of_mem _ (List.mem_append_left _ (List.mem_append_right _ h))) (by decide +kernel))) (goodIn_sub (fun _ h => List.mem_cons_of_mem _ (List.mem_append_right _ h)) (by decide +kernel))
set_option maxRecDepth 20000 in
theorem gL_claim_X7_claim : GoodIn wsL_claim (wsV RL 52 RX7 yX7_claim wsX7_claim) := goodIn_app (goodIn_of _ (by decide +kernel)) ggL_claim_X7_claim
theorem dL_claim_0 : decode cL_claim 0 = .ok (.aload 6, 2) := by decide +kernel
theorem dL_claim_2 : decode cL_claim 2 = .ok (.iconst 0, 1) := by decide +kernel
theorem dL_claim_3 : decode cL_claim 3 = .ok (.aload_n 0, 1) := by decide +kernel
theorem dL_claim_4 : decode cL_claim 4 = .ok (.iload_n 1, 1) := by decide +kernel
theorem dL_claim_5 : decode cL_claim 5 = .ok (.iload_n 2, 1) := by decide +kernel
theorem dL_claim_6 : decode cL_claim 6 = .ok (.iload_n 3, 1) := by decide +kernel
theorem dL_claim_7 : decode cL_claim 7 = .ok (.iload 4, 2) := by decide +kernel
theorem dL_claim_9 : decode cL_claim 9 = .ok (.iload 5, 2) := by decide +kernel
theorem dL_claim_11 : decode cL_claim 11 = .ok (.invokevirtual 52, 3) := by decide +kernel
theorem dL_claim_14 : decode cL_claim 14 = .ok (.i2l, 1) := by decide +kernel
theorem dL_claim_15 : decode cL_claim 15 = .ok (.lastore, 1) := by decide +kernel
theorem dL_claim_16 : decode cL_claim 16 = .ok (.goto 15, 3) := by decide +kernel
theorem dL_claim_19 : decode cL_claim 19 = .ok (.astore 7, 2) := by decide +kernel
theorem dL_claim_21 : decode cL_claim 21 = .ok (.iconst 1, 1) := by decide +kernel
theorem dL_claim_22 : decode cL_claim 22 = .ok (.ireturn, 1) := by decide +kernel
theorem dL_claim_23 : decode cL_claim 23 = .ok (.astore 7, 2) := by decide +kernel
theorem dL_claim_25 : decode cL_claim 25 = .ok (.iconst 2, 1) := by decide +kernel
theorem dL_claim_26 : decode cL_claim 26 = .ok (.ireturn, 1) := by decide +kernel
theorem dL_claim_27 : decode cL_claim 27 = .ok (.astore 7, 2) := by decide +kernel
theorem dL_claim_29 : decode cL_claim 29 = .ok (.iconst 3, 1) := by decide +kernel
theorem dL_claim_30 : decode cL_claim 30 = .ok (.ireturn, 1) := by decide +kernel
theorem dL_claim_31 : decode cL_claim 31 = .ok (.iconst 0, 1) := by decide +kernel
theorem dL_claim_32 : decode cL_claim 32 = .ok (.ireturn, 1) := by decide +kernel
set_option maxRecDepth 20000 in
theorem ggL_collide_X7_collide : GoodIn wsL_collide wsX7_collide := goodIn_ca (goodIn_ca (goodIn_ca (goodIn_r _ [8, 9, 10, 11, 12, 13, 14, 7, 15, 16, 17, 18, 19, 20, 21, 22, 23, 24, 25, 26, 27, 28, 29, 30, 31, 32, 33, 34, 35, 36, 37, 38, 39, 40, 41, 42, 43, 44, 45, 46, 47, 48, 49, 50, 51, 52, 53, 54, 55, 56, 57, 58, 59, 60, 61, 62, 63, 64, 65, 66, 67, 68, 69, 70, 71, 72, 73, 74, 75, 76, 77, 78, 79, 80, 81, 82, 83, 84, 85, 86, 87, 88, 89, 90, 91, 92, 93, 94, 95, 96] (by decide +kernel) (by decide +kernel)) (goodIn_sub (fun _ h => List.mem_cons_of_mem _ (List.mem_append_left _ (List.mem_append_left _ (List.mem_append_right _ h)))) (by decide +kernel))) (goodIn_sub (fun _ h => List.mem_cons_of_mem _ (List.mem_append_left _ (List.mem_append_right _ h))) (by decide +kernel))) (goodIn_sub (fun _ h => List.mem_cons_of_mem _ (List.mem_append_right _ h)) (by decide +kernel))
set_option maxRecDepth 20000 in
theorem gL_collide_X7_collide : GoodIn wsL_collide (wsV RL 56 RX7 yX7_collide wsX7_collide) := goodIn_app (goodIn_of _ (by decide +kernel)) ggL_collide_X7_collide
theorem dL_collide_0 : decode cL_collide 0 = .ok (.aload 6, 2) := by decide +kernel
theorem dL_collide_2 : decode cL_collide 2 = .ok (.iconst 0, 1) := by decide +kernel
theorem dL_collide_3 : decode cL_collide 3 = .ok (.aload_n 0, 1) := by decide +kernel
theorem dL_collide_4 : decode cL_collide 4 = .ok (.iload_n 1, 1) := by decide +kernel
theorem dL_collide_5 : decode cL_collide 5 = .ok (.iload_n 2, 1) := by decide +kernel
theorem dL_collide_6 : decode cL_collide 6 = .ok (.iload_n 3, 1) := by decide +kernel
theorem dL_collide_7 : decode cL_collide 7 = .ok (.iload 4, 2) := by decide +kernel
theorem dL_collide_9 : decode cL_collide 9 = .ok (.iload 5, 2) := by decide +kernel
theorem dL_collide_11 : decode cL_collide 11 = .ok (.invokevirtual 56, 3) := by decide +kernel
theorem dL_collide_14 : decode cL_collide 14 = .ok (.i2l, 1) := by decide +kernel
theorem dL_collide_15 : decode cL_collide 15 = .ok (.lastore, 1) := by decide +kernel
theorem dL_collide_16 : decode cL_collide 16 = .ok (.goto 15, 3) := by decide +kernel
theorem dL_collide_19 : decode cL_collide 19 = .ok (.astore 7, 2) := by decide +kernel
theorem dL_collide_21 : decode cL_collide 21 = .ok (.iconst 1, 1) := by decide +kernel
theorem dL_collide_22 : decode cL_collide 22 = .ok (.ireturn, 1) := by decide +kernel
theorem dL_collide_23 : decode cL_collide 23 = .ok (.astore 7, 2) := by decide +kernel
theorem dL_collide_25 : decode cL_collide 25 = .ok (.iconst 2, 1) := by decide +kernel
theorem dL_collide_26 : decode cL_collide 26 = .ok (.ireturn, 1) := by decide +kernel
theorem dL_collide_27 : decode cL_collide 27 = .ok (.astore 7, 2) := by decide +kernel
theorem dL_collide_29 : decode cL_collide 29 = .ok (.iconst 3, 1) := by decide +kernel
theorem dL_collide_30 : decode cL_collide 30 = .ok (.ireturn, 1) := by decide +kernel
theorem dL_collide_31 : decode cL_collide 31 = .ok (.iconst 0, 1) := by decide +kernel
theorem dL_collide_32 : decode cL_collide 32 = .ok (.ireturn, 1) := by decide +kernel
set_option maxRecDepth 20000 in
theorem ggL_estimate_X7_estimate : GoodIn wsL_estimate wsX7_estimate := goodIn_ca (goodIn_ca (goodIn_ca (goodIn_r _ [8, 9, 10, 11, 12, 7, 13, 14, 15, 16, 17, 18, 19, 20, 21, 22, 23, 24, 25, 26, 27, 28, 29, 30, 31, 32, 33, 34, 35, 36, 37, 38, 39, 40, 41, 42, 43, 44, 45, 46, 47, 48, 49, 50, 51, 52, 53, 54] (by decide +kernel) (by decide +kernel)) (goodIn_sub (fun _ h => List.mem_cons_of_mem _ (List.mem_append_left _ (List.mem_append_left _ (List.mem_append_right _ h)))) (by decide +kernel))) (goodIn_sub (fun _ h => List.mem_cons_of_mem _ (List.mem_append_left _ (List.mem_append_right _ h))) (by decide +kernel))) (goodIn_sub (fun _ h => List.mem_cons_of_mem _ (List.mem_append_right _ h)) (by decide +kernel))
set_option maxRecDepth 20000 in
theorem gL_estimate_X7_estimate : GoodIn wsL_estimate (wsV RL 59 RX7 yX7_estimate wsX7_estimate) := goodIn_app (goodIn_of _ (by decide +kernel)) ggL_estimate_X7_estimate
theorem dL_estimate_0 : decode cL_estimate 0 = .ok (.aload_n 3, 1) := by decide +kernel
theorem dL_estimate_1 : decode cL_estimate 1 = .ok (.iconst 0, 1) := by decide +kernel
theorem dL_estimate_2 : decode cL_estimate 2 = .ok (.aload_n 0, 1) := by decide +kernel
theorem dL_estimate_3 : decode cL_estimate 3 = .ok (.iload_n 1, 1) := by decide +kernel
theorem dL_estimate_4 : decode cL_estimate 4 = .ok (.iload_n 2, 1) := by decide +kernel
theorem dL_estimate_5 : decode cL_estimate 5 = .ok (.invokevirtual 59, 3) := by decide +kernel
theorem dL_estimate_8 : decode cL_estimate 8 = .ok (.i2l, 1) := by decide +kernel
theorem dL_estimate_9 : decode cL_estimate 9 = .ok (.lastore, 1) := by decide +kernel
theorem dL_estimate_10 : decode cL_estimate 10 = .ok (.goto 15, 3) := by decide +kernel
theorem dL_estimate_13 : decode cL_estimate 13 = .ok (.astore 4, 2) := by decide +kernel
theorem dL_estimate_15 : decode cL_estimate 15 = .ok (.iconst 1, 1) := by decide +kernel
theorem dL_estimate_16 : decode cL_estimate 16 = .ok (.ireturn, 1) := by decide +kernel
theorem dL_estimate_17 : decode cL_estimate 17 = .ok (.astore 4, 2) := by decide +kernel
theorem dL_estimate_19 : decode cL_estimate 19 = .ok (.iconst 2, 1) := by decide +kernel
theorem dL_estimate_20 : decode cL_estimate 20 = .ok (.ireturn, 1) := by decide +kernel
theorem dL_estimate_21 : decode cL_estimate 21 = .ok (.astore 4, 2) := by decide +kernel
theorem dL_estimate_23 : decode cL_estimate 23 = .ok (.iconst 3, 1) := by decide +kernel
theorem dL_estimate_24 : decode cL_estimate 24 = .ok (.ireturn, 1) := by decide +kernel
theorem dL_estimate_25 : decode cL_estimate 25 = .ok (.iconst 0, 1) := by decide +kernel
theorem dL_estimate_26 : decode cL_estimate 26 = .ok (.ireturn, 1) := by decide +kernel
set_option maxRecDepth 20000 in
theorem ggL_settle_X7_settle : GoodIn wsL_settle wsX7_settle := goodIn_ca (goodIn_ca (goodIn_r _ [7, 8, 9, 10, 11, 12, 6, 13, 14, 15, 16, 17, 18, 19, 20, 21, 22, 23, 24, 25, 26, 27, 28, 29, 30, 31, 32, 33, 34, 35, 36, 37, 38, 39, 40, 41, 42, 43, 44] (by decide +kernel) (by decide +kernel)) (goodIn_sub (fun _ h => List.mem_cons_of_mem _ (List.mem_append_left _ (List.mem_append_right _ h))) (by decide +kernel))) (goodIn_sub (fun _ h => List.mem_cons_of_mem _ (List.mem_append_right _ h)) (by decide +kernel))
set_option maxRecDepth 20000 in
theorem gL_settle_X7_settle : GoodIn wsL_settle (wsV RL 62 RX7 yX7_settle wsX7_settle) := goodIn_app (goodIn_of _ (by decide +kernel)) ggL_settle_X7_settle
theorem dL_settle_0 : decode cL_settle 0 = .ok (.aload_n 0, 1) := by decide +kernel
theorem dL_settle_1 : decode cL_settle 1 = .ok (.iload_n 1, 1) := by decide +kernel
theorem dL_settle_2 : decode cL_settle 2 = .ok (.iload_n 2, 1) := by decide +kernel
theorem dL_settle_3 : decode cL_settle 3 = .ok (.invokevirtual 62, 3) := by decide +kernel
theorem dL_settle_6 : decode cL_settle 6 = .ok (.goto 9, 3) := by decide +kernel
theorem dL_settle_9 : decode cL_settle 9 = .ok (.astore_n 3, 1) := by decide +kernel
theorem dL_settle_10 : decode cL_settle 10 = .ok (.iconst 1, 1) := by decide +kernel
theorem dL_settle_11 : decode cL_settle 11 = .ok (.ireturn, 1) := by decide +kernel
theorem dL_settle_12 : decode cL_settle 12 = .ok (.astore_n 3, 1) := by decide +kernel
theorem dL_settle_13 : decode cL_settle 13 = .ok (.iconst 2, 1) := by decide +kernel
theorem dL_settle_14 : decode cL_settle 14 = .ok (.ireturn, 1) := by decide +kernel
theorem dL_settle_15 : decode cL_settle 15 = .ok (.iconst 0, 1) := by decide +kernel
theorem dL_settle_16 : decode cL_settle 16 = .ok (.ireturn, 1) := by decide +kernel
set_option maxRecDepth 20000 in
theorem ggL_broken_X7_broken : GoodIn wsL_broken wsX7_broken := goodIn_ca (goodIn_ca (goodIn_r _ [7, 8, 9, 10, 11, 12, 13, 6, 14, 15, 16, 17, 18, 19, 20, 21, 22, 23, 24, 25, 26, 27, 28, 29, 30, 31, 32, 33, 34, 35, 36, 37, 38, 39, 40, 41, 42, 43, 44] (by decide +kernel) (by decide +kernel)) (goodIn_sub (fun _ h => List.mem_cons_of_mem _ (List.mem_append_left _ (List.mem_append_right _ h))) (by decide +kernel))) (goodIn_sub (fun _ h => List.mem_cons_of_mem _ (List.mem_append_right _ h)) (by decide +kernel))
set_option maxRecDepth 20000 in
theorem gL_broken_X7_broken : GoodIn wsL_broken (wsV RL 66 RX7 yX7_broken wsX7_broken) := goodIn_app (goodIn_of _ (by decide +kernel)) ggL_broken_X7_broken
theorem dL_broken_0 : decode cL_broken 0 = .ok (.aload_n 0, 1) := by decide +kernel
theorem dL_broken_1 : decode cL_broken 1 = .ok (.iload_n 1, 1) := by decide +kernel
theorem dL_broken_2 : decode cL_broken 2 = .ok (.invokevirtual 66, 3) := by decide +kernel
theorem dL_broken_5 : decode cL_broken 5 = .ok (.goto 9, 3) := by decide +kernel
theorem dL_broken_8 : decode cL_broken 8 = .ok (.astore_n 2, 1) := by decide +kernel
theorem dL_broken_9 : decode cL_broken 9 = .ok (.iconst 1, 1) := by decide +kernel
theorem dL_broken_10 : decode cL_broken 10 = .ok (.ireturn, 1) := by decide +kernel
theorem dL_broken_11 : decode cL_broken 11 = .ok (.astore_n 2, 1) := by decide +kernel
theorem dL_broken_12 : decode cL_broken 12 = .ok (.iconst 2, 1) := by decide +kernel
theorem dL_broken_13 : decode cL_broken 13 = .ok (.ireturn, 1) := by decide +kernel
theorem dL_broken_14 : decode cL_broken 14 = .ok (.iconst 0, 1) := by decide +kernel
theorem dL_broken_15 : decode cL_broken 15 = .ok (.ireturn, 1) := by decide +kernel
set_option maxRecDepth 20000 in
theorem ggL_ofClaim_X7_ofClaim : GoodIn wsL_ofClaim wsX7_ofClaim := goodIn_ca (goodIn_ca (goodIn_r _ [7, 8, 9, 10, 11, 12, 13, 14, 15, 6, 16, 17, 18, 19, 20, 21, 22, 23, 24, 25, 26, 27, 28, 29, 30, 31, 32, 33, 34, 35, 36, 37, 38, 39, 40, 41, 42, 43, 44, 45, 46, 47, 48, 49, 50, 51, 52, 53, 54, 55, 56, 57, 58, 59, 60, 61, 62, 63, 64, 65, 66, 67, 68, 69, 70, 71, 72, 73, 74, 75, 76, 77, 78, 79, 80, 81, 82, 83, 84, 85, 86, 87, 88, 89, 90, 91, 92, 93, 94, 95, 96, 97, 98, 99, 100, 101, 102, 103, 104, 105, 106, 107, 108, 109, 110, 111, 112, 113, 114, 115] (by decide +kernel) (by decide +kernel)) (goodIn_sub (fun _ h => List.mem_cons_of_mem _ (List.mem_append_left _ (List.mem_append_right _ h))) (by decide +kernel))) (goodIn_sub (fun _ h => List.mem_cons_of_mem _ (List.mem_append_right _ h)) (by decide +kernel))
set_option maxRecDepth 20000 in
theorem gL_ofClaim_X7_ofClaim : GoodIn wsL_ofClaim (wsV RL 69 RX7 yX7_ofClaim wsX7_ofClaim) := goodIn_app (goodIn_of _ (by decide +kernel)) ggL_ofClaim_X7_ofClaim
theorem dL_ofClaim_0 : decode cL_ofClaim 0 = .ok (.aload_n 3, 1) := by decide +kernel
theorem dL_ofClaim_1 : decode cL_ofClaim 1 = .ok (.iconst 0, 1) := by decide +kernel
theorem dL_ofClaim_2 : decode cL_ofClaim 2 = .ok (.aload_n 0, 1) := by decide +kernel
theorem dL_ofClaim_3 : decode cL_ofClaim 3 = .ok (.iload_n 1, 1) := by decide +kernel
theorem dL_ofClaim_4 : decode cL_ofClaim 4 = .ok (.iload_n 2, 1) := by decide +kernel
theorem dL_ofClaim_5 : decode cL_ofClaim 5 = .ok (.invokevirtual 69, 3) := by decide +kernel
theorem dL_ofClaim_8 : decode cL_ofClaim 8 = .ok (.lastore, 1) := by decide +kernel
theorem dL_ofClaim_9 : decode cL_ofClaim 9 = .ok (.goto 11, 3) := by decide +kernel
theorem dL_ofClaim_12 : decode cL_ofClaim 12 = .ok (.astore 4, 2) := by decide +kernel
theorem dL_ofClaim_14 : decode cL_ofClaim 14 = .ok (.iconst 1, 1) := by decide +kernel
theorem dL_ofClaim_15 : decode cL_ofClaim 15 = .ok (.ireturn, 1) := by decide +kernel
theorem dL_ofClaim_16 : decode cL_ofClaim 16 = .ok (.astore 4, 2) := by decide +kernel
theorem dL_ofClaim_18 : decode cL_ofClaim 18 = .ok (.iconst 2, 1) := by decide +kernel
theorem dL_ofClaim_19 : decode cL_ofClaim 19 = .ok (.ireturn, 1) := by decide +kernel
theorem dL_ofClaim_20 : decode cL_ofClaim 20 = .ok (.iconst 0, 1) := by decide +kernel
theorem dL_ofClaim_21 : decode cL_ofClaim 21 = .ok (.ireturn, 1) := by decide +kernel
set_option maxRecDepth 20000 in
theorem ggL_ofEvent_X7_ofEvent : GoodIn wsL_ofEvent wsX7_ofEvent := goodIn_ca (goodIn_ca (goodIn_r _ [7, 8, 9, 10, 11, 12, 6, 13, 14, 15, 16, 17, 18, 19, 20, 21, 22, 23, 24, 25, 26, 27, 28, 29, 30, 31, 32, 33, 34, 35, 36, 37, 38, 39, 40, 41, 42, 43, 44, 45, 46, 47, 48, 49, 50, 51, 52, 53, 54, 55, 56, 57, 58, 59, 60, 61, 62, 63, 64, 65, 66, 67, 68, 69, 70, 71, 72, 73, 74, 75, 76, 77, 78, 79, 80, 81, 82, 83, 84, 85, 86, 87, 88, 89, 90, 91, 92, 93, 94, 95, 96, 97, 98, 99, 100, 101, 102, 103, 104, 105, 106, 107, 108, 109, 110, 111, 112, 113, 114, 115, 116, 117, 118, 119, 120, 121, 122, 123, 124, 125, 126, 127, 128, 129, 130, 131, 132, 133, 134, 135, 136, 137, 138, 139, 140, 141, 142, 143, 144, 145, 146, 147, 148, 149, 150, 151, 152, 153, 154, 155, 156, 157, 158, 159, 160, 161, 162, 163, 164, 165, 166] (by decide +kernel) (by decide +kernel)) (goodIn_sub (fun _ h => List.mem_cons_of_mem _ (List.mem_append_left _ (List.mem_append_right _ h))) (by decide +kernel))) (goodIn_sub (fun _ h => List.mem_cons_of_mem _ (List.mem_append_right _ h)) (by decide +kernel))
set_option maxRecDepth 20000 in
theorem gL_ofEvent_X7_ofEvent : GoodIn wsL_ofEvent (wsV RL 72 RX7 yX7_ofEvent wsX7_ofEvent) := goodIn_app (goodIn_of _ (by decide +kernel)) ggL_ofEvent_X7_ofEvent
theorem dL_ofEvent_0 : decode cL_ofEvent 0 = .ok (.aload_n 3, 1) := by decide +kernel
theorem dL_ofEvent_1 : decode cL_ofEvent 1 = .ok (.iconst 0, 1) := by decide +kernel
theorem dL_ofEvent_2 : decode cL_ofEvent 2 = .ok (.aload_n 0, 1) := by decide +kernel
theorem dL_ofEvent_3 : decode cL_ofEvent 3 = .ok (.iload_n 1, 1) := by decide +kernel
theorem dL_ofEvent_4 : decode cL_ofEvent 4 = .ok (.iload_n 2, 1) := by decide +kernel
theorem dL_ofEvent_5 : decode cL_ofEvent 5 = .ok (.invokevirtual 72, 3) := by decide +kernel
theorem dL_ofEvent_8 : decode cL_ofEvent 8 = .ok (.lastore, 1) := by decide +kernel
theorem dL_ofEvent_9 : decode cL_ofEvent 9 = .ok (.goto 11, 3) := by decide +kernel
theorem dL_ofEvent_12 : decode cL_ofEvent 12 = .ok (.astore 4, 2) := by decide +kernel
theorem dL_ofEvent_14 : decode cL_ofEvent 14 = .ok (.iconst 1, 1) := by decide +kernel
theorem dL_ofEvent_15 : decode cL_ofEvent 15 = .ok (.ireturn, 1) := by decide +kernel
theorem dL_ofEvent_16 : decode cL_ofEvent 16 = .ok (.astore 4, 2) := by decide +kernel
theorem dL_ofEvent_18 : decode cL_ofEvent 18 = .ok (.iconst 2, 1) := by decide +kernel
theorem dL_ofEvent_19 : decode cL_ofEvent 19 = .ok (.ireturn, 1) := by decide +kernel
theorem dL_ofEvent_20 : decode cL_ofEvent 20 = .ok (.iconst 0, 1) := by decide +kernel
theorem dL_ofEvent_21 : decode cL_ofEvent 21 = .ok (.ireturn, 1) := by decide +kernel
set_option maxRecDepth 20000 in
theorem ggL_cost_X7_cost : GoodIn wsL_cost wsX7_cost := goodIn_ca (goodIn_r _ [6, 7, 8, 5, 9, 10, 11, 12, 13, 14, 15, 16, 17, 18, 19, 20, 21, 22, 23, 24, 25, 26, 27, 28, 29, 30, 31, 32, 33, 34, 35, 36, 37, 38, 39, 40, 41, 42, 43, 44, 45, 46, 47, 48, 49, 50, 51, 52, 53, 54, 55, 56, 57, 58, 59, 60, 61, 62, 63, 64, 65, 66, 67, 68, 69, 70, 71, 72, 73, 74, 75, 76, 77, 78, 79, 80, 81, 82, 83, 84, 85, 86, 87, 88, 89, 90, 91, 92, 93, 94, 95, 96, 97, 98, 99, 100, 101, 102, 103, 104, 105, 106, 107, 108, 109, 110, 111, 112, 113, 114, 115, 116, 117, 118, 119, 120, 121, 122, 123, 124, 125, 126, 127, 128, 129, 130, 131, 132, 133, 134, 135, 136, 137, 138, 139, 140, 141, 142, 143, 144, 145, 146, 147, 148, 149, 150, 151, 152, 153, 154, 155, 156, 157, 158, 159, 160, 161, 162, 163, 164, 165] (by decide +kernel) (by decide +kernel)) (goodIn_sub (fun _ h => List.mem_cons_of_mem _ (List.mem_append_right _ h)) (by decide +kernel))
set_option maxRecDepth 20000 in
theorem gL_cost_X7_cost : GoodIn wsL_cost (wsV RL 75 RX7 yX7_cost wsX7_cost) := goodIn_app (goodIn_of _ (by decide +kernel)) ggL_cost_X7_cost
theorem dL_cost_0 : decode cL_cost 0 = .ok (.aload_n 2, 1) := by decide +kernel
theorem dL_cost_1 : decode cL_cost 1 = .ok (.iconst 0, 1) := by decide +kernel
theorem dL_cost_2 : decode cL_cost 2 = .ok (.aload_n 0, 1) := by decide +kernel
theorem dL_cost_3 : decode cL_cost 3 = .ok (.iload_n 1, 1) := by decide +kernel
theorem dL_cost_4 : decode cL_cost 4 = .ok (.invokevirtual 75, 3) := by decide +kernel
theorem dL_cost_7 : decode cL_cost 7 = .ok (.lastore, 1) := by decide +kernel
theorem dL_cost_8 : decode cL_cost 8 = .ok (.goto 6, 3) := by decide +kernel
theorem dL_cost_11 : decode cL_cost 11 = .ok (.astore_n 3, 1) := by decide +kernel
theorem dL_cost_12 : decode cL_cost 12 = .ok (.iconst 1, 1) := by decide +kernel
theorem dL_cost_13 : decode cL_cost 13 = .ok (.ireturn, 1) := by decide +kernel
theorem dL_cost_14 : decode cL_cost 14 = .ok (.iconst 0, 1) := by decide +kernel
theorem dL_cost_15 : decode cL_cost 15 = .ok (.ireturn, 1) := by decide +kernel
set_option maxRecDepth 20000 in
theorem ggL_advance_X7_advance : GoodIn wsL_advance wsX7_advance := goodIn_ca (goodIn_ca (goodIn_r _ [7, 8, 9, 10, 11, 12, 13, 14, 15, 16, 17, 6, 18, 19, 20, 21, 22, 23, 24, 25, 26, 27, 28, 29, 30, 31, 32, 33, 34, 35, 36, 37, 38, 39, 40, 41, 42, 43, 44, 45, 46, 47, 48, 49, 50, 51, 52, 53, 54] (by decide +kernel) (by decide +kernel)) (goodIn_sub (fun _ h => List.mem_cons_of_mem _ (List.mem_append_left _ (List.mem_append_right _ h))) (by decide +kernel))) (goodIn_sub (fun _ h => List.mem_cons_of_mem _ (List.mem_append_right _ h)) (by decide +kernel))
set_option maxRecDepth 20000 in
theorem gL_advance_X7_advance : GoodIn wsL_advance (wsV RL 79 RX7 yX7_advance wsX7_advance) := goodIn_app (goodIn_of _ (by decide +kernel)) ggL_advance_X7_advance
theorem dL_advance_0 : decode cL_advance 0 = .ok (.aload_n 3, 1) := by decide +kernel
theorem dL_advance_1 : decode cL_advance 1 = .ok (.iconst 0, 1) := by decide +kernel
theorem dL_advance_2 : decode cL_advance 2 = .ok (.aload_n 0, 1) := by decide +kernel
theorem dL_advance_3 : decode cL_advance 3 = .ok (.iload_n 1, 1) := by decide +kernel
theorem dL_advance_4 : decode cL_advance 4 = .ok (.iload_n 2, 1) := by decide +kernel
theorem dL_advance_5 : decode cL_advance 5 = .ok (.invokevirtual 79, 3) := by decide +kernel
theorem dL_advance_8 : decode cL_advance 8 = .ok (.i2l, 1) := by decide +kernel
theorem dL_advance_9 : decode cL_advance 9 = .ok (.lastore, 1) := by decide +kernel
theorem dL_advance_10 : decode cL_advance 10 = .ok (.goto 11, 3) := by decide +kernel
theorem dL_advance_13 : decode cL_advance 13 = .ok (.astore 4, 2) := by decide +kernel
theorem dL_advance_15 : decode cL_advance 15 = .ok (.iconst 1, 1) := by decide +kernel
theorem dL_advance_16 : decode cL_advance 16 = .ok (.ireturn, 1) := by decide +kernel
theorem dL_advance_17 : decode cL_advance 17 = .ok (.astore 4, 2) := by decide +kernel
theorem dL_advance_19 : decode cL_advance 19 = .ok (.iconst 2, 1) := by decide +kernel
theorem dL_advance_20 : decode cL_advance 20 = .ok (.ireturn, 1) := by decide +kernel
theorem dL_advance_21 : decode cL_advance 21 = .ok (.iconst 0, 1) := by decide +kernel
theorem dL_advance_22 : decode cL_advance 22 = .ok (.ireturn, 1) := by decide +kernel
set_option maxRecDepth 20000 in
theorem ggL_further_X7_further : GoodIn wsL_further wsX7_further := goodIn_ca (goodIn_ca (goodIn_r _ [7, 8, 9, 10, 11, 12, 13, 6, 14, 15, 16, 17, 18, 19, 20, 21, 22, 23, 24, 25, 26, 27, 28, 29, 30, 31, 32, 33, 34, 35, 36, 37, 38, 39, 40, 41, 42, 43, 44, 45] (by decide +kernel) (by decide +kernel)) (goodIn_sub (fun _ h => List.mem_cons_of_mem _ (List.mem_append_left _ (List.mem_append_right _ h))) (by decide +kernel))) (goodIn_sub (fun _ h => List.mem_cons_of_mem _ (List.mem_append_right _ h)) (by decide +kernel))
set_option maxRecDepth 20000 in
theorem gL_further_X7_further : GoodIn wsL_further (wsV RL 82 RX7 yX7_further wsX7_further) := goodIn_app (goodIn_of _ (by decide +kernel)) ggL_further_X7_further
theorem dL_further_0 : decode cL_further 0 = .ok (.aload_n 3, 1) := by decide +kernel
theorem dL_further_1 : decode cL_further 1 = .ok (.iconst 0, 1) := by decide +kernel
theorem dL_further_2 : decode cL_further 2 = .ok (.aload_n 0, 1) := by decide +kernel
theorem dL_further_3 : decode cL_further 3 = .ok (.iload_n 1, 1) := by decide +kernel
theorem dL_further_4 : decode cL_further 4 = .ok (.iload_n 2, 1) := by decide +kernel
theorem dL_further_5 : decode cL_further 5 = .ok (.invokevirtual 82, 3) := by decide +kernel
theorem dL_further_8 : decode cL_further 8 = .ok (.i2l, 1) := by decide +kernel
theorem dL_further_9 : decode cL_further 9 = .ok (.lastore, 1) := by decide +kernel
theorem dL_further_10 : decode cL_further 10 = .ok (.goto 11, 3) := by decide +kernel
theorem dL_further_13 : decode cL_further 13 = .ok (.astore 4, 2) := by decide +kernel
theorem dL_further_15 : decode cL_further 15 = .ok (.iconst 1, 1) := by decide +kernel
theorem dL_further_16 : decode cL_further 16 = .ok (.ireturn, 1) := by decide +kernel
theorem dL_further_17 : decode cL_further 17 = .ok (.astore 4, 2) := by decide +kernel
theorem dL_further_19 : decode cL_further 19 = .ok (.iconst 2, 1) := by decide +kernel
theorem dL_further_20 : decode cL_further 20 = .ok (.ireturn, 1) := by decide +kernel
theorem dL_further_21 : decode cL_further 21 = .ok (.iconst 0, 1) := by decide +kernel
theorem dL_further_22 : decode cL_further 22 = .ok (.ireturn, 1) := by decide +kernel
set_option maxRecDepth 20000 in
theorem ggL_release_X7_release : GoodIn wsL_release wsX7_release := goodIn_ca (goodIn_ca (goodIn_ca (goodIn_r _ [8, 9, 10, 11, 12, 13, 14, 15, 7, 16, 17, 18, 19, 20, 21, 22, 23, 24, 25, 26, 27, 28, 29, 30, 31, 32, 33, 34, 35, 36, 37, 38, 39, 40, 41, 42, 43, 44, 45, 46, 47, 48, 49, 50, 51, 52, 53, 54, 55, 56, 57, 58, 59, 60, 61, 62, 63, 64, 65, 66, 67, 68, 69, 70, 71, 72, 73, 74, 75, 76, 77, 78, 79, 80, 81, 82, 83, 84, 85, 86, 87, 88, 89, 90, 91, 92, 93, 94, 95, 96, 97, 98, 99, 100, 101, 102, 103, 104, 105, 106, 107, 108, 109, 110, 111, 112, 113, 114, 115, 116, 117] (by decide +kernel) (by decide +kernel)) (goodIn_sub (fun _ h => List.mem_cons_of_mem _ (List.mem_append_left _ (List.mem_append_left _ (List.mem_append_right _ h)))) (by decide +kernel))) (goodIn_sub (fun _ h => List.mem_cons_of_mem _ (List.mem_append_left _ (List.mem_append_right _ h))) (by decide +kernel))) (goodIn_sub (fun _ h => List.mem_cons_of_mem _ (List.mem_append_right _ h)) (by decide +kernel))
set_option maxRecDepth 20000 in
theorem gL_release_X7_release : GoodIn wsL_release (wsV RL 85 RX7 yX7_release wsX7_release) := goodIn_app (goodIn_of _ (by decide +kernel)) ggL_release_X7_release
theorem dL_release_0 : decode cL_release 0 = .ok (.aload_n 3, 1) := by decide +kernel
theorem dL_release_1 : decode cL_release 1 = .ok (.iconst 0, 1) := by decide +kernel
theorem dL_release_2 : decode cL_release 2 = .ok (.aload_n 0, 1) := by decide +kernel
theorem dL_release_3 : decode cL_release 3 = .ok (.iload_n 1, 1) := by decide +kernel
theorem dL_release_4 : decode cL_release 4 = .ok (.iload_n 2, 1) := by decide +kernel
theorem dL_release_5 : decode cL_release 5 = .ok (.invokevirtual 85, 3) := by decide +kernel
theorem dL_release_8 : decode cL_release 8 = .ok (.i2l, 1) := by decide +kernel
theorem dL_release_9 : decode cL_release 9 = .ok (.lastore, 1) := by decide +kernel
theorem dL_release_10 : decode cL_release 10 = .ok (.goto 15, 3) := by decide +kernel
theorem dL_release_13 : decode cL_release 13 = .ok (.astore 4, 2) := by decide +kernel
theorem dL_release_15 : decode cL_release 15 = .ok (.iconst 1, 1) := by decide +kernel
theorem dL_release_16 : decode cL_release 16 = .ok (.ireturn, 1) := by decide +kernel
theorem dL_release_17 : decode cL_release 17 = .ok (.astore 4, 2) := by decide +kernel
theorem dL_release_19 : decode cL_release 19 = .ok (.iconst 2, 1) := by decide +kernel
theorem dL_release_20 : decode cL_release 20 = .ok (.ireturn, 1) := by decide +kernel
theorem dL_release_21 : decode cL_release 21 = .ok (.astore 4, 2) := by decide +kernel
theorem dL_release_23 : decode cL_release 23 = .ok (.iconst 3, 1) := by decide +kernel
theorem dL_release_24 : decode cL_release 24 = .ok (.ireturn, 1) := by decide +kernel
theorem dL_release_25 : decode cL_release 25 = .ok (.iconst 0, 1) := by decide +kernel
theorem dL_release_26 : decode cL_release 26 = .ok (.ireturn, 1) := by decide +kernel
set_option maxRecDepth 20000 in
theorem ggL_pay_X7_pay : GoodIn wsL_pay wsX7_pay := goodIn_ca (goodIn_ca (goodIn_r _ [7, 8, 9, 10, 11, 12, 13, 6, 14, 15, 16, 17, 18, 19, 20, 21, 22, 23, 24, 25, 26, 27, 28, 29, 30, 31, 32, 33, 34, 35, 36, 37, 38, 39, 40, 41, 42, 43, 44, 45, 46, 47, 48, 49, 50, 51, 52, 53, 54, 55, 56, 57, 58, 59, 60, 61, 62, 63, 64, 65, 66, 67, 68, 69, 70, 71, 72, 73, 74, 75, 76, 77, 78, 79, 80, 81, 82, 83, 84, 85, 86, 87, 88, 89, 90, 91, 92, 93, 94, 95, 96, 97, 98, 99, 100, 101, 102, 103, 104, 105, 106] (by decide +kernel) (by decide +kernel)) (goodIn_sub (fun _ h => List.mem_cons_of_mem _ (List.mem_append_left _ (List.mem_append_right _ h))) (by decide +kernel))) (goodIn_sub (fun _ h => List.mem_cons_of_mem _ (List.mem_append_right _ h)) (by decide +kernel))
set_option maxRecDepth 20000 in
theorem gL_pay_X7_pay : GoodIn wsL_pay (wsV RL 88 RX7 yX7_pay wsX7_pay) := goodIn_app (goodIn_of _ (by decide +kernel)) ggL_pay_X7_pay
theorem dL_pay_0 : decode cL_pay 0 = .ok (.aload_n 3, 1) := by decide +kernel
theorem dL_pay_1 : decode cL_pay 1 = .ok (.iconst 0, 1) := by decide +kernel
theorem dL_pay_2 : decode cL_pay 2 = .ok (.aload_n 0, 1) := by decide +kernel
theorem dL_pay_3 : decode cL_pay 3 = .ok (.iload_n 1, 1) := by decide +kernel
theorem dL_pay_4 : decode cL_pay 4 = .ok (.iload_n 2, 1) := by decide +kernel
theorem dL_pay_5 : decode cL_pay 5 = .ok (.invokevirtual 88, 3) := by decide +kernel
theorem dL_pay_8 : decode cL_pay 8 = .ok (.lastore, 1) := by decide +kernel
theorem dL_pay_9 : decode cL_pay 9 = .ok (.goto 11, 3) := by decide +kernel
theorem dL_pay_12 : decode cL_pay 12 = .ok (.astore 4, 2) := by decide +kernel
theorem dL_pay_14 : decode cL_pay 14 = .ok (.iconst 1, 1) := by decide +kernel
theorem dL_pay_15 : decode cL_pay 15 = .ok (.ireturn, 1) := by decide +kernel
theorem dL_pay_16 : decode cL_pay 16 = .ok (.astore 4, 2) := by decide +kernel
theorem dL_pay_18 : decode cL_pay 18 = .ok (.iconst 2, 1) := by decide +kernel
theorem dL_pay_19 : decode cL_pay 19 = .ok (.ireturn, 1) := by decide +kernel
theorem dL_pay_20 : decode cL_pay 20 = .ok (.iconst 0, 1) := by decide +kernel
theorem dL_pay_21 : decode cL_pay 21 = .ok (.ireturn, 1) := by decide +kernel
set_option maxRecDepth 20000 in
theorem ggL_stop_X7_stop : GoodIn wsL_stop wsX7_stop := goodIn_ca (goodIn_ca (goodIn_ca (goodIn_r _ [8, 9, 10, 11, 12, 13, 14, 15, 7, 16, 17, 18, 19, 20, 21, 22, 23, 24, 25, 26, 27, 28, 29, 30, 31, 32, 33, 34, 35, 36, 37, 38, 39, 40, 41, 42, 43, 44, 45, 46, 47, 48, 49, 50, 51, 52, 53, 54, 55, 56, 57, 58, 59, 60, 61, 62, 63, 64, 65, 66, 67, 68, 69, 70, 71, 72, 73, 74, 75, 76, 77, 78, 79, 80, 81, 82, 83, 84, 85, 86, 87, 88, 89, 90, 91, 92, 93, 94, 95, 96, 97, 98, 99, 100, 101, 102, 103, 104, 105, 106, 107, 108, 109] (by decide +kernel) (by decide +kernel)) (goodIn_sub (fun _ h => List.mem_cons_of_mem _ (List.mem_append_left _ (List.mem_append_left _ (List.mem_append_right _ h)))) (by decide +kernel))) (goodIn_sub (fun _ h => List.mem_cons_of_mem _ (List.mem_append_left _ (List.mem_append_right _ h))) (by decide +kernel))) (goodIn_sub (fun _ h => List.mem_cons_of_mem _ (List.mem_append_right _ h)) (by decide +kernel))
set_option maxRecDepth 20000 in
theorem gL_stop_X7_stop : GoodIn wsL_stop (wsV RL 91 RX7 yX7_stop wsX7_stop) := goodIn_app (goodIn_of _ (by decide +kernel)) ggL_stop_X7_stop
theorem dL_stop_0 : decode cL_stop 0 = .ok (.aload_n 3, 1) := by decide +kernel
theorem dL_stop_1 : decode cL_stop 1 = .ok (.iconst 0, 1) := by decide +kernel
theorem dL_stop_2 : decode cL_stop 2 = .ok (.aload_n 0, 1) := by decide +kernel
theorem dL_stop_3 : decode cL_stop 3 = .ok (.iload_n 1, 1) := by decide +kernel
theorem dL_stop_4 : decode cL_stop 4 = .ok (.iload_n 2, 1) := by decide +kernel
theorem dL_stop_5 : decode cL_stop 5 = .ok (.invokevirtual 91, 3) := by decide +kernel
theorem dL_stop_8 : decode cL_stop 8 = .ok (.i2l, 1) := by decide +kernel
theorem dL_stop_9 : decode cL_stop 9 = .ok (.lastore, 1) := by decide +kernel
theorem dL_stop_10 : decode cL_stop 10 = .ok (.goto 15, 3) := by decide +kernel
theorem dL_stop_13 : decode cL_stop 13 = .ok (.astore 4, 2) := by decide +kernel
theorem dL_stop_15 : decode cL_stop 15 = .ok (.iconst 1, 1) := by decide +kernel
theorem dL_stop_16 : decode cL_stop 16 = .ok (.ireturn, 1) := by decide +kernel
theorem dL_stop_17 : decode cL_stop 17 = .ok (.astore 4, 2) := by decide +kernel
theorem dL_stop_19 : decode cL_stop 19 = .ok (.iconst 2, 1) := by decide +kernel
theorem dL_stop_20 : decode cL_stop 20 = .ok (.ireturn, 1) := by decide +kernel
theorem dL_stop_21 : decode cL_stop 21 = .ok (.astore 4, 2) := by decide +kernel
theorem dL_stop_23 : decode cL_stop 23 = .ok (.iconst 3, 1) := by decide +kernel
theorem dL_stop_24 : decode cL_stop 24 = .ok (.ireturn, 1) := by decide +kernel
theorem dL_stop_25 : decode cL_stop 25 = .ok (.iconst 0, 1) := by decide +kernel
theorem dL_stop_26 : decode cL_stop 26 = .ok (.ireturn, 1) := by decide +kernel
set_option maxRecDepth 20000 in
theorem ggL_close_X7_close : GoodIn wsL_close wsX7_close := goodIn_ca (goodIn_ca (goodIn_r _ [7, 8, 9, 10, 11, 12, 13, 14, 15, 16, 6, 17, 18, 19, 20, 21, 22, 23, 24, 25, 26, 27, 28, 29, 30, 31, 32, 33, 34, 35, 36, 37, 38, 39, 40, 41, 42, 43, 44, 45, 46, 47, 48, 49, 50, 51, 52, 53, 54, 55, 56, 57, 58, 59, 60, 61, 62, 63, 64, 65, 66, 67, 68, 69, 70, 71, 72, 73, 74, 75, 76, 77, 78, 79, 80, 81, 82, 83, 84, 85, 86, 87, 88, 89, 90, 91, 92, 93, 94, 95, 96, 97, 98, 99, 100, 101, 102, 103, 104, 105, 106, 107, 108, 109, 110, 111, 112, 113, 114, 115, 116, 117, 118, 119, 120, 121, 122, 123, 124, 125, 126, 127, 128, 129, 130, 131, 132, 133, 134, 135, 136, 137, 138, 139, 140, 141, 142, 143, 144, 145, 146, 147, 148, 149, 150, 151, 152, 153, 154, 155, 156, 157, 158, 159, 160, 161, 162, 163, 164, 165, 166, 167, 168, 169, 170, 171, 172, 173, 174, 175, 176, 177, 178, 179, 180, 181, 182, 183, 184, 185, 186, 187, 188, 189, 190, 191, 192, 193, 194, 195, 196, 197, 198, 199, 200, 201, 202, 203, 204, 205, 206, 207, 208, 209, 210, 211, 212, 213, 214, 215, 216, 217, 218, 219, 220, 221, 222] (by decide +kernel) (by decide +kernel)) (goodIn_sub (fun _ h => List.mem_cons_of_mem _ (List.mem_append_left _ (List.mem_append_right _ h))) (by decide +kernel))) (goodIn_sub (fun _ h => List.mem_cons_of_mem _ (List.mem_append_right _ h)) (by decide +kernel))
set_option maxRecDepth 20000 in
theorem gL_close_X7_close : GoodIn wsL_close (wsV RL 94 RX7 yX7_close wsX7_close) := goodIn_app (goodIn_of _ (by decide +kernel)) ggL_close_X7_close
theorem dL_close_0 : decode cL_close 0 = .ok (.aload_n 2, 1) := by decide +kernel
theorem dL_close_1 : decode cL_close 1 = .ok (.iconst 0, 1) := by decide +kernel
theorem dL_close_2 : decode cL_close 2 = .ok (.aload_n 0, 1) := by decide +kernel
theorem dL_close_3 : decode cL_close 3 = .ok (.iload_n 1, 1) := by decide +kernel
theorem dL_close_4 : decode cL_close 4 = .ok (.invokevirtual 94, 3) := by decide +kernel
theorem dL_close_7 : decode cL_close 7 = .ok (.lastore, 1) := by decide +kernel
theorem dL_close_8 : decode cL_close 8 = .ok (.goto 9, 3) := by decide +kernel
theorem dL_close_11 : decode cL_close 11 = .ok (.astore_n 3, 1) := by decide +kernel
theorem dL_close_12 : decode cL_close 12 = .ok (.iconst 1, 1) := by decide +kernel
theorem dL_close_13 : decode cL_close 13 = .ok (.ireturn, 1) := by decide +kernel
theorem dL_close_14 : decode cL_close 14 = .ok (.astore_n 3, 1) := by decide +kernel
theorem dL_close_15 : decode cL_close 15 = .ok (.iconst 2, 1) := by decide +kernel
theorem dL_close_16 : decode cL_close 16 = .ok (.ireturn, 1) := by decide +kernel
theorem dL_close_17 : decode cL_close 17 = .ok (.iconst 0, 1) := by decide +kernel
theorem dL_close_18 : decode cL_close 18 = .ok (.ireturn, 1) := by decide +kernel
set_option maxRecDepth 20000 in
theorem ggL_due_X7_due : GoodIn wsL_due wsX7_due := goodIn_ca (goodIn_ca (goodIn_r _ [7, 8, 9, 10, 6, 11, 12, 13, 14, 15, 16, 17, 18, 19, 20, 21, 22, 23, 24, 25, 26, 27, 28, 29, 30, 31, 32, 33, 34, 35, 36, 37, 38, 39, 40, 41, 42, 43, 44, 45, 46, 47, 48, 49, 50, 51, 52, 53, 54, 55, 56, 57, 58, 59, 60, 61, 62, 63, 64, 65, 66, 67, 68, 69, 70, 71, 72, 73, 74, 75, 76, 77, 78, 79, 80, 81, 82, 83, 84, 85, 86, 87, 88, 89, 90, 91, 92, 93, 94, 95, 96, 97, 98, 99, 100, 101, 102] (by decide +kernel) (by decide +kernel)) (goodIn_sub (fun _ h => List.mem_cons_of_mem _ (List.mem_append_left _ (List.mem_append_right _ h))) (by decide +kernel))) (goodIn_sub (fun _ h => List.mem_cons_of_mem _ (List.mem_append_right _ h)) (by decide +kernel))
set_option maxRecDepth 20000 in
theorem gL_due_X7_due : GoodIn wsL_due (wsV RL 97 RX7 yX7_due wsX7_due) := goodIn_app (goodIn_of _ (by decide +kernel)) ggL_due_X7_due
theorem dL_due_0 : decode cL_due 0 = .ok (.aload_n 3, 1) := by decide +kernel
theorem dL_due_1 : decode cL_due 1 = .ok (.iconst 0, 1) := by decide +kernel
theorem dL_due_2 : decode cL_due 2 = .ok (.aload_n 0, 1) := by decide +kernel
theorem dL_due_3 : decode cL_due 3 = .ok (.iload_n 1, 1) := by decide +kernel
theorem dL_due_4 : decode cL_due 4 = .ok (.iload_n 2, 1) := by decide +kernel
theorem dL_due_5 : decode cL_due 5 = .ok (.invokevirtual 97, 3) := by decide +kernel
theorem dL_due_8 : decode cL_due 8 = .ok (.lastore, 1) := by decide +kernel
theorem dL_due_9 : decode cL_due 9 = .ok (.goto 11, 3) := by decide +kernel
theorem dL_due_12 : decode cL_due 12 = .ok (.astore 4, 2) := by decide +kernel
theorem dL_due_14 : decode cL_due 14 = .ok (.iconst 1, 1) := by decide +kernel
theorem dL_due_15 : decode cL_due 15 = .ok (.ireturn, 1) := by decide +kernel
theorem dL_due_16 : decode cL_due 16 = .ok (.astore 4, 2) := by decide +kernel
theorem dL_due_18 : decode cL_due 18 = .ok (.iconst 2, 1) := by decide +kernel
theorem dL_due_19 : decode cL_due 19 = .ok (.ireturn, 1) := by decide +kernel
theorem dL_due_20 : decode cL_due 20 = .ok (.iconst 0, 1) := by decide +kernel
theorem dL_due_21 : decode cL_due 21 = .ok (.ireturn, 1) := by decide +kernel
set_option maxRecDepth 20000 in
theorem ggL_owes_X7_owes : GoodIn wsL_owes wsX7_owes := goodIn_ca (goodIn_r _ [6, 7, 8, 9, 5, 10, 11, 12, 13, 14, 15, 16, 17, 18, 19, 20, 21, 22, 23, 24, 25, 26, 27, 28, 29, 30, 31, 32, 33, 34, 35, 36, 37, 38, 39, 40, 41, 42, 43, 44, 45, 46, 47, 48, 49, 50, 51, 52, 53, 54, 55, 56, 57, 58, 59, 60, 61, 62, 63, 64, 65, 66, 67, 68, 69, 70, 71, 72, 73, 74, 75, 76, 77, 78, 79, 80, 81, 82, 83, 84, 85, 86, 87, 88, 89, 90, 91, 92, 93, 94, 95, 96, 97, 98] (by decide +kernel) (by decide +kernel)) (goodIn_sub (fun _ h => List.mem_cons_of_mem _ (List.mem_append_right _ h)) (by decide +kernel))
set_option maxRecDepth 20000 in
theorem gL_owes_X7_owes : GoodIn wsL_owes (wsV RL 100 RX7 yX7_owes wsX7_owes) := goodIn_app (goodIn_of _ (by decide +kernel)) ggL_owes_X7_owes
theorem dL_owes_0 : decode cL_owes 0 = .ok (.aload_n 2, 1) := by decide +kernel
theorem dL_owes_1 : decode cL_owes 1 = .ok (.iconst 0, 1) := by decide +kernel
theorem dL_owes_2 : decode cL_owes 2 = .ok (.aload_n 0, 1) := by decide +kernel
theorem dL_owes_3 : decode cL_owes 3 = .ok (.iload_n 1, 1) := by decide +kernel
theorem dL_owes_4 : decode cL_owes 4 = .ok (.invokevirtual 100, 3) := by decide +kernel
theorem dL_owes_7 : decode cL_owes 7 = .ok (.lastore, 1) := by decide +kernel
theorem dL_owes_8 : decode cL_owes 8 = .ok (.goto 6, 3) := by decide +kernel
theorem dL_owes_11 : decode cL_owes 11 = .ok (.astore_n 3, 1) := by decide +kernel
theorem dL_owes_12 : decode cL_owes 12 = .ok (.iconst 1, 1) := by decide +kernel
theorem dL_owes_13 : decode cL_owes 13 = .ok (.ireturn, 1) := by decide +kernel
theorem dL_owes_14 : decode cL_owes 14 = .ok (.iconst 0, 1) := by decide +kernel
theorem dL_owes_15 : decode cL_owes 15 = .ok (.ireturn, 1) := by decide +kernel
set_option maxRecDepth 20000 in
theorem ggL_result_X7_result : GoodIn wsL_result wsX7_result := goodIn_ca (goodIn_r _ [6, 7, 8, 9, 10, 5, 11, 12, 13, 14, 15, 16, 17, 18, 19, 20, 21, 22, 23, 24, 25, 26, 27, 28, 29, 30, 31, 32, 33, 34, 35, 36, 37, 38, 39, 40, 41, 42, 43, 44, 45, 46, 47, 48, 49, 50, 51, 52, 53, 54, 55, 56, 57, 58, 59, 60, 61, 62, 63, 64, 65, 66, 67, 68, 69, 70, 71, 72, 73, 74, 75, 76, 77, 78, 79, 80, 81, 82, 83, 84, 85, 86, 87, 88, 89, 90, 91, 92, 93, 94, 95, 96, 97, 98, 99, 100, 101, 102, 103, 104, 105, 106, 107, 108, 109, 110, 111, 112, 113, 114, 115, 116, 117, 118, 119, 120, 121, 122, 123, 124, 125, 126, 127, 128, 129, 130, 131, 132, 133, 134, 135, 136, 137, 138, 139, 140, 141, 142, 143, 144, 145, 146, 147, 148, 149, 150, 151, 152, 153, 154, 155, 156, 157, 158, 159, 160, 161, 162, 163, 164, 165, 166, 167, 168, 169, 170, 171, 172, 173, 174, 175, 176, 177, 178, 179, 180, 181, 182, 183, 184, 185, 186, 187, 188, 189, 190, 191, 192, 193, 194, 195, 196, 197, 198, 199, 200] (by decide +kernel) (by decide +kernel)) (goodIn_sub (fun _ h => List.mem_cons_of_mem _ (List.mem_append_right _ h)) (by decide +kernel))
set_option maxRecDepth 20000 in
theorem gL_result_X7_result : GoodIn wsL_result (wsV RL 103 RX7 yX7_result wsX7_result) := goodIn_app (goodIn_of _ (by decide +kernel)) ggL_result_X7_result
theorem dL_result_0 : decode cL_result 0 = .ok (.aload_n 2, 1) := by decide +kernel
theorem dL_result_1 : decode cL_result 1 = .ok (.iconst 0, 1) := by decide +kernel
theorem dL_result_2 : decode cL_result 2 = .ok (.aload_n 0, 1) := by decide +kernel
theorem dL_result_3 : decode cL_result 3 = .ok (.iload_n 1, 1) := by decide +kernel
theorem dL_result_4 : decode cL_result 4 = .ok (.invokevirtual 103, 3) := by decide +kernel
theorem dL_result_7 : decode cL_result 7 = .ok (.lastore, 1) := by decide +kernel
theorem dL_result_8 : decode cL_result 8 = .ok (.goto 6, 3) := by decide +kernel
theorem dL_result_11 : decode cL_result 11 = .ok (.astore_n 3, 1) := by decide +kernel
theorem dL_result_12 : decode cL_result 12 = .ok (.iconst 1, 1) := by decide +kernel
theorem dL_result_13 : decode cL_result 13 = .ok (.ireturn, 1) := by decide +kernel
theorem dL_result_14 : decode cL_result 14 = .ok (.iconst 0, 1) := by decide +kernel
theorem dL_result_15 : decode cL_result 15 = .ok (.ireturn, 1) := by decide +kernel
set_option maxRecDepth 20000 in
theorem ggL_isClosed_X7_isClosed : GoodIn wsL_isClosed wsX7_isClosed := goodIn_ca (goodIn_r _ [6, 7, 8, 9, 10, 5, 11, 12, 13, 14, 15, 16, 17, 18, 19, 20, 21, 22, 23, 24, 25, 26, 27, 28, 29, 30, 31, 32, 33, 34, 35, 36, 37] (by decide +kernel) (by decide +kernel)) (goodIn_sub (fun _ h => List.mem_cons_of_mem _ (List.mem_append_right _ h)) (by decide +kernel))
set_option maxRecDepth 20000 in
theorem gL_isClosed_X7_isClosed : GoodIn wsL_isClosed (wsV RL 106 RX7 yX7_isClosed wsX7_isClosed) := goodIn_app (goodIn_of _ (by decide +kernel)) ggL_isClosed_X7_isClosed
theorem dL_isClosed_0 : decode cL_isClosed 0 = .ok (.aload_n 2, 1) := by decide +kernel
theorem dL_isClosed_1 : decode cL_isClosed 1 = .ok (.iconst 0, 1) := by decide +kernel
theorem dL_isClosed_2 : decode cL_isClosed 2 = .ok (.aload_n 0, 1) := by decide +kernel
theorem dL_isClosed_3 : decode cL_isClosed 3 = .ok (.iload_n 1, 1) := by decide +kernel
theorem dL_isClosed_4 : decode cL_isClosed 4 = .ok (.invokevirtual 106, 3) := by decide +kernel
theorem dL_isClosed_7 : decode cL_isClosed 7 = .ok (.ifCond .eq 7, 3) := by decide +kernel
theorem dL_isClosed_10 : decode cL_isClosed 10 = .ok (.lconst 1, 1) := by decide +kernel
theorem dL_isClosed_11 : decode cL_isClosed 11 = .ok (.goto 4, 3) := by decide +kernel
theorem dL_isClosed_14 : decode cL_isClosed 14 = .ok (.lconst 0, 1) := by decide +kernel
theorem dL_isClosed_15 : decode cL_isClosed 15 = .ok (.lastore, 1) := by decide +kernel
theorem dL_isClosed_16 : decode cL_isClosed 16 = .ok (.goto 6, 3) := by decide +kernel
theorem dL_isClosed_19 : decode cL_isClosed 19 = .ok (.astore_n 3, 1) := by decide +kernel
theorem dL_isClosed_20 : decode cL_isClosed 20 = .ok (.iconst 1, 1) := by decide +kernel
theorem dL_isClosed_21 : decode cL_isClosed 21 = .ok (.ireturn, 1) := by decide +kernel
theorem dL_isClosed_22 : decode cL_isClosed 22 = .ok (.iconst 0, 1) := by decide +kernel
theorem dL_isClosed_23 : decode cL_isClosed 23 = .ok (.ireturn, 1) := by decide +kernel
set_option maxRecDepth 20000 in
theorem ggL_letter_X7_letter : GoodIn wsL_letter wsX7_letter := goodIn_ca (goodIn_ca (goodIn_ca (goodIn_r _ [8, 9, 10, 11, 12, 13, 14, 15, 16, 7, 17, 18, 19, 20, 21, 22, 23, 24, 25, 26, 27, 28, 29, 30, 31, 32, 33, 34, 35, 36, 37, 38, 39, 40, 41, 42, 43, 44, 45, 46, 47, 48, 49, 50, 51, 52] (by decide +kernel) (by decide +kernel)) (goodIn_sub (fun _ h => List.mem_cons_of_mem _ (List.mem_append_left _ (List.mem_append_left _ (List.mem_append_right _ h)))) (by decide +kernel))) (goodIn_sub (fun _ h => List.mem_cons_of_mem _ (List.mem_append_left _ (List.mem_append_right _ h))) (by decide +kernel))) (goodIn_sub (fun _ h => List.mem_cons_of_mem _ (List.mem_append_right _ h)) (by decide +kernel))
set_option maxRecDepth 20000 in
theorem gL_letter_X7_letter : GoodIn wsL_letter (wsV RL 110 RX7 yX7_letter wsX7_letter) := goodIn_app (goodIn_of _ (by decide +kernel)) ggL_letter_X7_letter
theorem dL_letter_0 : decode cL_letter 0 = .ok (.aload_n 3, 1) := by decide +kernel
theorem dL_letter_1 : decode cL_letter 1 = .ok (.iconst 0, 1) := by decide +kernel
theorem dL_letter_2 : decode cL_letter 2 = .ok (.aload_n 0, 1) := by decide +kernel
theorem dL_letter_3 : decode cL_letter 3 = .ok (.iload_n 1, 1) := by decide +kernel
theorem dL_letter_4 : decode cL_letter 4 = .ok (.iload_n 2, 1) := by decide +kernel
theorem dL_letter_5 : decode cL_letter 5 = .ok (.invokevirtual 110, 3) := by decide +kernel
theorem dL_letter_8 : decode cL_letter 8 = .ok (.i2l, 1) := by decide +kernel
theorem dL_letter_9 : decode cL_letter 9 = .ok (.lastore, 1) := by decide +kernel
theorem dL_letter_10 : decode cL_letter 10 = .ok (.goto 15, 3) := by decide +kernel
theorem dL_letter_13 : decode cL_letter 13 = .ok (.astore 4, 2) := by decide +kernel
theorem dL_letter_15 : decode cL_letter 15 = .ok (.iconst 1, 1) := by decide +kernel
theorem dL_letter_16 : decode cL_letter 16 = .ok (.ireturn, 1) := by decide +kernel
theorem dL_letter_17 : decode cL_letter 17 = .ok (.astore 4, 2) := by decide +kernel
theorem dL_letter_19 : decode cL_letter 19 = .ok (.iconst 2, 1) := by decide +kernel
theorem dL_letter_20 : decode cL_letter 20 = .ok (.ireturn, 1) := by decide +kernel
theorem dL_letter_21 : decode cL_letter 21 = .ok (.astore 4, 2) := by decide +kernel
theorem dL_letter_23 : decode cL_letter 23 = .ok (.iconst 3, 1) := by decide +kernel
theorem dL_letter_24 : decode cL_letter 24 = .ok (.ireturn, 1) := by decide +kernel
theorem dL_letter_25 : decode cL_letter 25 = .ok (.iconst 0, 1) := by decide +kernel
theorem dL_letter_26 : decode cL_letter 26 = .ok (.ireturn, 1) := by decide +kernel
set_option maxRecDepth 20000 in
theorem ggL_arrest_X7_arrest : GoodIn wsL_arrest wsX7_arrest := goodIn_ca (goodIn_ca (goodIn_r _ [7, 8, 9, 10, 11, 12, 13, 14, 15, 6, 16, 17, 18, 19, 20, 21, 22, 23, 24, 25, 26, 27, 28, 29, 30, 31, 32, 33, 34, 35, 36, 37, 38, 39, 40, 41, 42, 43, 44, 45, 46, 47, 48, 49, 50, 51, 52, 53, 54, 55, 56, 57, 58, 59, 60, 61, 62, 63, 64] (by decide +kernel) (by decide +kernel)) (goodIn_sub (fun _ h => List.mem_cons_of_mem _ (List.mem_append_left _ (List.mem_append_right _ h))) (by decide +kernel))) (goodIn_sub (fun _ h => List.mem_cons_of_mem _ (List.mem_append_right _ h)) (by decide +kernel))
set_option maxRecDepth 20000 in
theorem gL_arrest_X7_arrest : GoodIn wsL_arrest (wsV RL 113 RX7 yX7_arrest wsX7_arrest) := goodIn_app (goodIn_of _ (by decide +kernel)) ggL_arrest_X7_arrest
theorem dL_arrest_0 : decode cL_arrest 0 = .ok (.aload_n 3, 1) := by decide +kernel
theorem dL_arrest_1 : decode cL_arrest 1 = .ok (.iconst 0, 1) := by decide +kernel
theorem dL_arrest_2 : decode cL_arrest 2 = .ok (.aload_n 0, 1) := by decide +kernel
theorem dL_arrest_3 : decode cL_arrest 3 = .ok (.iload_n 1, 1) := by decide +kernel
theorem dL_arrest_4 : decode cL_arrest 4 = .ok (.iload_n 2, 1) := by decide +kernel
theorem dL_arrest_5 : decode cL_arrest 5 = .ok (.invokevirtual 113, 3) := by decide +kernel
theorem dL_arrest_8 : decode cL_arrest 8 = .ok (.ifCond .eq 7, 3) := by decide +kernel
theorem dL_arrest_11 : decode cL_arrest 11 = .ok (.lconst 1, 1) := by decide +kernel
theorem dL_arrest_12 : decode cL_arrest 12 = .ok (.goto 4, 3) := by decide +kernel
theorem dL_arrest_15 : decode cL_arrest 15 = .ok (.lconst 0, 1) := by decide +kernel
theorem dL_arrest_16 : decode cL_arrest 16 = .ok (.lastore, 1) := by decide +kernel
theorem dL_arrest_17 : decode cL_arrest 17 = .ok (.goto 11, 3) := by decide +kernel
theorem dL_arrest_20 : decode cL_arrest 20 = .ok (.astore 4, 2) := by decide +kernel
theorem dL_arrest_22 : decode cL_arrest 22 = .ok (.iconst 1, 1) := by decide +kernel
theorem dL_arrest_23 : decode cL_arrest 23 = .ok (.ireturn, 1) := by decide +kernel
theorem dL_arrest_24 : decode cL_arrest 24 = .ok (.astore 4, 2) := by decide +kernel
theorem dL_arrest_26 : decode cL_arrest 26 = .ok (.iconst 2, 1) := by decide +kernel
theorem dL_arrest_27 : decode cL_arrest 27 = .ok (.ireturn, 1) := by decide +kernel
theorem dL_arrest_28 : decode cL_arrest 28 = .ok (.iconst 0, 1) := by decide +kernel
theorem dL_arrest_29 : decode cL_arrest 29 = .ok (.ireturn, 1) := by decide +kernel
set_option maxRecDepth 20000 in
theorem ggL_isArrested_X7_isArrested : GoodIn wsL_isArrested wsX7_isArrested := goodIn_ca (goodIn_r _ [6, 7, 8, 9, 5, 10, 11, 12, 13, 14, 15, 16, 17, 18, 19, 20, 21, 22, 23, 24, 25, 26, 27, 28, 29, 30, 31, 32, 33, 34, 35, 36, 37, 38, 39, 40, 41, 42, 43, 44, 45, 46, 47, 48, 49, 50, 51, 52, 53, 54, 55] (by decide +kernel) (by decide +kernel)) (goodIn_sub (fun _ h => List.mem_cons_of_mem _ (List.mem_append_right _ h)) (by decide +kernel))
set_option maxRecDepth 20000 in
theorem gL_isArrested_X7_isArrested : GoodIn wsL_isArrested (wsV RL 117 RX7 yX7_isArrested wsX7_isArrested) := goodIn_app (goodIn_of _ (by decide +kernel)) ggL_isArrested_X7_isArrested
theorem dL_isArrested_0 : decode cL_isArrested 0 = .ok (.aload_n 2, 1) := by decide +kernel
theorem dL_isArrested_1 : decode cL_isArrested 1 = .ok (.iconst 0, 1) := by decide +kernel
theorem dL_isArrested_2 : decode cL_isArrested 2 = .ok (.aload_n 0, 1) := by decide +kernel
theorem dL_isArrested_3 : decode cL_isArrested 3 = .ok (.iload_n 1, 1) := by decide +kernel
theorem dL_isArrested_4 : decode cL_isArrested 4 = .ok (.invokevirtual 117, 3) := by decide +kernel
theorem dL_isArrested_7 : decode cL_isArrested 7 = .ok (.ifCond .eq 7, 3) := by decide +kernel
theorem dL_isArrested_10 : decode cL_isArrested 10 = .ok (.lconst 1, 1) := by decide +kernel
theorem dL_isArrested_11 : decode cL_isArrested 11 = .ok (.goto 4, 3) := by decide +kernel
theorem dL_isArrested_14 : decode cL_isArrested 14 = .ok (.lconst 0, 1) := by decide +kernel
theorem dL_isArrested_15 : decode cL_isArrested 15 = .ok (.lastore, 1) := by decide +kernel
theorem dL_isArrested_16 : decode cL_isArrested 16 = .ok (.goto 6, 3) := by decide +kernel
theorem dL_isArrested_19 : decode cL_isArrested 19 = .ok (.astore_n 3, 1) := by decide +kernel
theorem dL_isArrested_20 : decode cL_isArrested 20 = .ok (.iconst 1, 1) := by decide +kernel
theorem dL_isArrested_21 : decode cL_isArrested 21 = .ok (.ireturn, 1) := by decide +kernel
theorem dL_isArrested_22 : decode cL_isArrested 22 = .ok (.iconst 0, 1) := by decide +kernel
theorem dL_isArrested_23 : decode cL_isArrested 23 = .ok (.ireturn, 1) := by decide +kernel
