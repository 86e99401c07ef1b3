theorem dL_knows_0 : decode cL_knows 0 = .ok (.aload 4, 2) := by decide +kernel
theorem dL_knows_2 : decode cL_knows 2 = .ok (.iconst 0, 1) := by decide +kernel
theorem dL_knows_3 : decode cL_knows 3 = .ok (.aload_n 0, 1) := by decide +kernel
theorem dL_knows_4 : decode cL_knows 4 = .ok (.iload_n 1, 1) := by decide +kernel
theorem dL_knows_5 : decode cL_knows 5 = .ok (.iload_n 2, 1) := by decide +kernel
theorem dL_knows_6 : decode cL_knows 6 = .ok (.iload_n 3, 1) := by decide +kernel
theorem dL_knows_7 : decode cL_knows 7 = .ok (.invokevirtual 7, 3) := by decide +kernel
theorem dL_knows_10 : decode cL_knows 10 = .ok (.ifCond .eq 7, 3) := by decide +kernel
theorem dL_knows_13 : decode cL_knows 13 = .ok (.lconst 1, 1) := by decide +kernel
theorem dL_knows_14 : decode cL_knows 14 = .ok (.goto 4, 3) := by decide +kernel
theorem dL_knows_17 : decode cL_knows 17 = .ok (.lconst 0, 1) := by decide +kernel
theorem dL_knows_18 : decode cL_knows 18 = .ok (.lastore, 1) := by decide +kernel
theorem dL_knows_19 : decode cL_knows 19 = .ok (.goto 7, 3) := by decide +kernel
theorem dL_knows_22 : decode cL_knows 22 = .ok (.astore 5, 2) := by decide +kernel
theorem dL_knows_24 : decode cL_knows 24 = .ok (.iconst 1, 1) := by decide +kernel
theorem dL_knows_25 : decode cL_knows 25 = .ok (.ireturn, 1) := by decide +kernel
theorem dL_knows_26 : decode cL_knows 26 = .ok (.iconst 0, 1) := by decide +kernel
theorem dL_knows_27 : decode cL_knows 27 = .ok (.ireturn, 1) := by decide +kernel
set_option maxRecDepth 20000 in
theorem ggL_has_X7_has : GoodIn wsL_has wsX7_has := goodIn_ca (goodIn_r _ [6, 7, 8, 9, 10, 5, 11, 12, 13, 14, 15, 16, 17, 18, 19, 20, 21, 22, 23, 24, 25, 26, 27, 28, 29, 30, 31, 32, 33, 34] (by decide +kernel) (by decide +kernel)) (goodIn_sub (fun _ h => List.mem_cons_of_mem _ (List.mem_append_right _ h)) (by decide +kernel))
set_option maxRecDepth 20000 in
theorem gL_has_X7_has : GoodIn wsL_has (wsV RL 15 RX7 yX7_has wsX7_has) := goodIn_app (goodIn_of _ (by decide +kernel)) ggL_has_X7_has
theorem dL_has_0 : decode cL_has 0 = .ok (.aload_n 3, 1) := by decide +kernel
theorem dL_has_1 : decode cL_has 1 = .ok (.iconst 0, 1) := by decide +kernel
theorem dL_has_2 : decode cL_has 2 = .ok (.aload_n 0, 1) := by decide +kernel
theorem dL_has_3 : decode cL_has 3 = .ok (.iload_n 1, 1) := by decide +kernel
theorem dL_has_4 : decode cL_has 4 = .ok (.iload_n 2, 1) := by decide +kernel
theorem dL_has_5 : decode cL_has 5 = .ok (.invokevirtual 15, 3) := by decide +kernel
theorem dL_has_8 : decode cL_has 8 = .ok (.i2l, 1) := by decide +kernel
theorem dL_has_9 : decode cL_has 9 = .ok (.lastore, 1) := by decide +kernel
theorem dL_has_10 : decode cL_has 10 = .ok (.goto 7, 3) := by decide +kernel
theorem dL_has_13 : decode cL_has 13 = .ok (.astore 4, 2) := by decide +kernel
theorem dL_has_15 : decode cL_has 15 = .ok (.iconst 1, 1) := by decide +kernel
theorem dL_has_16 : decode cL_has 16 = .ok (.ireturn, 1) := by decide +kernel
theorem dL_has_17 : decode cL_has 17 = .ok (.iconst 0, 1) := by decide +kernel
theorem dL_has_18 : decode cL_has 18 = .ok (.ireturn, 1) := by decide +kernel
set_option maxRecDepth 20000 in
theorem ggL_step_X7_step : GoodIn wsL_step wsX7_step := goodIn_ca (goodIn_ca (goodIn_ca (goodIn_r _ [8, 9, 10, 11, 12, 13, 14, 7, 15, 16, 17, 18, 19, 20, 21, 22, 23, 24, 25, 26, 27, 28, 29, 30, 31, 32, 33, 34, 35, 36, 37, 38, 39, 40, 41, 42, 43, 44, 45, 46, 47, 48, 49, 50, 51, 52, 53, 54, 55, 56, 57, 58, 59, 60, 61, 62, 63, 64] (by decide +kernel) (by decide +kernel)) (goodIn_sub (fun _ h => List.mem_cons_of_mem _ (List.mem_append_left _ (List.mem_append_left _ (List.mem_append_right _ h)))) (by decide +kernel))) (goodIn_sub (fun _ h => List.mem_cons_of_mem _ (List.mem_append_left _ (List.mem_append_right _ h))) (by decide +kernel))) (goodIn_sub (fun _ h => List.mem_cons_of_mem _ (List.mem_append_right _ h)) (by decide +kernel))
set_option maxRecDepth 20000 in
theorem gL_step_X7_step : GoodIn wsL_step (wsV RL 19 RX7 yX7_step wsX7_step) := goodIn_app (goodIn_of _ (by decide +kernel)) ggL_step_X7_step
theorem dL_step_0 : decode cL_step 0 = .ok (.aload 5, 2) := by decide +kernel
theorem dL_step_2 : decode cL_step 2 = .ok (.iconst 0, 1) := by decide +kernel
theorem dL_step_3 : decode cL_step 3 = .ok (.aload_n 0, 1) := by decide +kernel
theorem dL_step_4 : decode cL_step 4 = .ok (.iload_n 1, 1) := by decide +kernel
theorem dL_step_5 : decode cL_step 5 = .ok (.iload_n 2, 1) := by decide +kernel
theorem dL_step_6 : decode cL_step 6 = .ok (.iload_n 3, 1) := by decide +kernel
theorem dL_step_7 : decode cL_step 7 = .ok (.iload 4, 2) := by decide +kernel
theorem dL_step_9 : decode cL_step 9 = .ok (.invokevirtual 19, 3) := by decide +kernel
theorem dL_step_12 : decode cL_step 12 = .ok (.i2l, 1) := by decide +kernel
theorem dL_step_13 : decode cL_step 13 = .ok (.lastore, 1) := by decide +kernel
theorem dL_step_14 : decode cL_step 14 = .ok (.goto 15, 3) := by decide +kernel
theorem dL_step_17 : decode cL_step 17 = .ok (.astore 6, 2) := by decide +kernel
theorem dL_step_19 : decode cL_step 19 = .ok (.iconst 1, 1) := by decide +kernel
theorem dL_step_20 : decode cL_step 20 = .ok (.ireturn, 1) := by decide +kernel
theorem dL_step_21 : decode cL_step 21 = .ok (.astore 6, 2) := by decide +kernel
theorem dL_step_23 : decode cL_step 23 = .ok (.iconst 2, 1) := by decide +kernel
theorem dL_step_24 : decode cL_step 24 = .ok (.ireturn, 1) := by decide +kernel
theorem dL_step_25 : decode cL_step 25 = .ok (.astore 6, 2) := by decide +kernel
theorem dL_step_27 : decode cL_step 27 = .ok (.iconst 3, 1) := by decide +kernel
theorem dL_step_28 : decode cL_step 28 = .ok (.ireturn, 1) := by decide +kernel
theorem dL_step_29 : decode cL_step 29 = .ok (.iconst 0, 1) := by decide +kernel
theorem dL_step_30 : decode cL_step 30 = .ok (.ireturn, 1) := by decide +kernel
set_option maxRecDepth 20000 in
theorem ggL_tear_X7_tear : GoodIn wsL_tear wsX7_tear := goodIn_ca (goodIn_r _ [6, 7, 8, 9, 10, 11, 5, 12, 13, 14, 15, 16, 17, 18, 19, 20, 21, 22, 23, 24, 25, 26, 27, 28, 29, 30, 31, 32, 33, 34, 35, 36] (by decide +kernel) (by decide +kernel)) (goodIn_sub (fun _ h => List.mem_cons_of_mem _ (List.mem_append_right _ h)) (by decide +kernel))
set_option maxRecDepth 20000 in
theorem gL_tear_X7_tear : GoodIn wsL_tear (wsV RL 27 RX7 yX7_tear wsX7_tear) := goodIn_app (goodIn_of _ (by decide +kernel)) ggL_tear_X7_tear
theorem dL_tear_0 : decode cL_tear 0 = .ok (.aload_n 1, 1) := by decide +kernel
theorem dL_tear_1 : decode cL_tear 1 = .ok (.iconst 0, 1) := by decide +kernel
theorem dL_tear_2 : decode cL_tear 2 = .ok (.aload_n 0, 1) := by decide +kernel
theorem dL_tear_3 : decode cL_tear 3 = .ok (.invokevirtual 27, 3) := by decide +kernel
theorem dL_tear_6 : decode cL_tear 6 = .ok (.i2l, 1) := by decide +kernel
theorem dL_tear_7 : decode cL_tear 7 = .ok (.lastore, 1) := by decide +kernel
theorem dL_tear_8 : decode cL_tear 8 = .ok (.goto 6, 3) := by decide +kernel
theorem dL_tear_11 : decode cL_tear 11 = .ok (.astore_n 2, 1) := by decide +kernel
theorem dL_tear_12 : decode cL_tear 12 = .ok (.iconst 1, 1) := by decide +kernel
theorem dL_tear_13 : decode cL_tear 13 = .ok (.ireturn, 1) := by decide +kernel
theorem dL_tear_14 : decode cL_tear 14 = .ok (.iconst 0, 1) := by decide +kernel
theorem dL_tear_15 : decode cL_tear 15 = .ok (.ireturn, 1) := by decide +kernel
set_option maxRecDepth 20000 in
theorem ggL_ill_X7_ill : GoodIn wsL_ill wsX7_ill := goodIn_ca (goodIn_r _ [6, 7, 8, 9, 10, 11, 5, 12, 13, 14, 15, 16, 17, 18, 19, 20, 21, 22, 23, 24, 25, 26, 27, 28, 29, 30, 31, 32, 33, 34, 35, 36, 37] (by decide +kernel) (by decide +kernel)) (goodIn_sub (fun _ h => List.mem_cons_of_mem _ (List.mem_append_right _ h)) (by decide +kernel))
set_option maxRecDepth 20000 in
theorem gL_ill_X7_ill : GoodIn wsL_ill (wsV RL 31 RX7 yX7_ill wsX7_ill) := goodIn_app (goodIn_of _ (by decide +kernel)) ggL_ill_X7_ill
theorem dL_ill_0 : decode cL_ill 0 = .ok (.aload_n 2, 1) := by decide +kernel
theorem dL_ill_1 : decode cL_ill 1 = .ok (.iconst 0, 1) := by decide +kernel
theorem dL_ill_2 : decode cL_ill 2 = .ok (.aload_n 0, 1) := by decide +kernel
theorem dL_ill_3 : decode cL_ill 3 = .ok (.iload_n 1, 1) := by decide +kernel
theorem dL_ill_4 : decode cL_ill 4 = .ok (.invokevirtual 31, 3) := by decide +kernel
theorem dL_ill_7 : decode cL_ill 7 = .ok (.ifCond .eq 7, 3) := by decide +kernel
theorem dL_ill_10 : decode cL_ill 10 = .ok (.lconst 1, 1) := by decide +kernel
theorem dL_ill_11 : decode cL_ill 11 = .ok (.goto 4, 3) := by decide +kernel
theorem dL_ill_14 : decode cL_ill 14 = .ok (.lconst 0, 1) := by decide +kernel
theorem dL_ill_15 : decode cL_ill 15 = .ok (.lastore, 1) := by decide +kernel
theorem dL_ill_16 : decode cL_ill 16 = .ok (.goto 6, 3) := by decide +kernel
theorem dL_ill_19 : decode cL_ill 19 = .ok (.astore_n 3, 1) := by decide +kernel
theorem dL_ill_20 : decode cL_ill 20 = .ok (.iconst 1, 1) := by decide +kernel
theorem dL_ill_21 : decode cL_ill 21 = .ok (.ireturn, 1) := by decide +kernel
theorem dL_ill_22 : decode cL_ill 22 = .ok (.iconst 0, 1) := by decide +kernel
theorem dL_ill_23 : decode cL_ill 23 = .ok (.ireturn, 1) := by decide +kernel
set_option maxRecDepth 20000 in
theorem ggL_ban_X7_ban : GoodIn wsL_ban wsX7_ban := goodIn_ca (goodIn_r _ [6, 7, 8, 9, 10, 5, 11, 12, 13, 14, 15, 16, 17, 18, 19, 20, 21, 22, 23, 24, 25, 26, 27, 28, 29, 30, 31, 32, 33, 34, 35, 36] (by decide +kernel) (by decide +kernel)) (goodIn_sub (fun _ h => List.mem_cons_of_mem _ (List.mem_append_right _ h)) (by decide +kernel))
set_option maxRecDepth 20000 in
theorem gL_ban_X7_ban : GoodIn wsL_ban (wsV RL 35 RX7 yX7_ban wsX7_ban) := goodIn_app (goodIn_of _ (by decide +kernel)) ggL_ban_X7_ban
theorem dL_ban_0 : decode cL_ban 0 = .ok (.aload_n 2, 1) := by decide +kernel
theorem dL_ban_1 : decode cL_ban 1 = .ok (.iconst 0, 1) := by decide +kernel
theorem dL_ban_2 : decode cL_ban 2 = .ok (.aload_n 0, 1) := by decide +kernel
theorem dL_ban_3 : decode cL_ban 3 = .ok (.iload_n 1, 1) := by decide +kernel
theorem dL_ban_4 : decode cL_ban 4 = .ok (.invokevirtual 35, 3) := by decide +kernel
theorem dL_ban_7 : decode cL_ban 7 = .ok (.ifCond .eq 7, 3) := by decide +kernel
theorem dL_ban_10 : decode cL_ban 10 = .ok (.lconst 1, 1) := by decide +kernel
theorem dL_ban_11 : decode cL_ban 11 = .ok (.goto 4, 3) := by decide +kernel
theorem dL_ban_14 : decode cL_ban 14 = .ok (.lconst 0, 1) := by decide +kernel
theorem dL_ban_15 : decode cL_ban 15 = .ok (.lastore, 1) := by decide +kernel
theorem dL_ban_16 : decode cL_ban 16 = .ok (.goto 6, 3) := by decide +kernel
theorem dL_ban_19 : decode cL_ban 19 = .ok (.astore_n 3, 1) := by decide +kernel
theorem dL_ban_20 : decode cL_ban 20 = .ok (.iconst 1, 1) := by decide +kernel
theorem dL_ban_21 : decode cL_ban 21 = .ok (.ireturn, 1) := by decide +kernel
theorem dL_ban_22 : decode cL_ban 22 = .ok (.iconst 0, 1) := by decide +kernel
theorem dL_ban_23 : decode cL_ban 23 = .ok (.ireturn, 1) := by decide +kernel
set_option maxRecDepth 20000 in
theorem ggL_travel_X7_travel : GoodIn wsL_travel wsX7_travel := goodIn_ca (goodIn_r _ [6, 7, 8, 9, 10, 11, 12, 5, 13, 14, 15, 16, 17, 18, 19, 20, 21, 22, 23, 24, 25, 26, 27, 28, 29, 30, 31, 32, 33, 34, 35, 36, 37, 38, 39, 40, 41, 42, 43, 44, 45, 46, 47, 48, 49, 50, 51] (by decide +kernel) (by decide +kernel)) (goodIn_sub (fun _ h => List.mem_cons_of_mem _ (List.mem_append_right _ h)) (by decide +kernel))
set_option maxRecDepth 20000 in
theorem gL_travel_X7_travel : GoodIn wsL_travel (wsV RL 38 RX7 yX7_travel wsX7_travel) := goodIn_app (goodIn_of _ (by decide +kernel)) ggL_travel_X7_travel
theorem dL_travel_0 : decode cL_travel 0 = .ok (.aload_n 0, 1) := by decide +kernel
theorem dL_travel_1 : decode cL_travel 1 = .ok (.invokevirtual 38, 3) := by decide +kernel
theorem dL_travel_4 : decode cL_travel 4 = .ok (.goto 6, 3) := by decide +kernel
theorem dL_travel_7 : decode cL_travel 7 = .ok (.astore_n 1, 1) := by decide +kernel
theorem dL_travel_8 : decode cL_travel 8 = .ok (.iconst 1, 1) := by decide +kernel
theorem dL_travel_9 : decode cL_travel 9 = .ok (.ireturn, 1) := by decide +kernel
theorem dL_travel_10 : decode cL_travel 10 = .ok (.iconst 0, 1) := by decide +kernel
theorem dL_travel_11 : decode cL_travel 11 = .ok (.ireturn, 1) := by decide +kernel
set_option maxRecDepth 20000 in
theorem ggL_gag_X7_gag : GoodIn wsL_gag wsX7_gag := goodIn_ca (goodIn_ca (goodIn_ca (goodIn_r _ [8, 9, 10, 11, 12, 13, 14, 7, 15, 16, 17, 18, 19, 20, 21, 22, 23, 24, 25, 26, 27, 28, 29, 30, 31, 32, 33, 34, 35, 36, 37, 38, 39, 40, 41, 42, 43, 44, 45, 46, 47, 48, 49, 50, 51, 52] (by decide +kernel) (by decide +kernel)) (goodIn_sub (fun _ h => List.mem_cons_of_mem _ (List.mem_append_left _ (List.mem_append_left _ (List.mem_append_right _ h)))) (by decide +kernel))) (goodIn_sub (fun _ h => List.mem_cons_of_mem _ (List.mem_append_left _ (List.mem_append_right _ h))) (by decide +kernel))) (goodIn_sub (fun _ h => List.mem_cons_of_mem _ (List.mem_append_right _ h)) (by decide +kernel))
set_option maxRecDepth 20000 in
theorem gL_gag_X7_gag : GoodIn wsL_gag (wsV RL 41 RX7 yX7_gag wsX7_gag) := goodIn_app (goodIn_of _ (by decide +kernel)) ggL_gag_X7_gag
theorem dL_gag_0 : decode cL_gag 0 = .ok (.aload 4, 2) := by decide +kernel
theorem dL_gag_2 : decode cL_gag 2 = .ok (.iconst 0, 1) := by decide +kernel
theorem dL_gag_3 : decode cL_gag 3 = .ok (.aload_n 0, 1) := by decide +kernel
theorem dL_gag_4 : decode cL_gag 4 = .ok (.iload_n 1, 1) := by decide +kernel
theorem dL_gag_5 : decode cL_gag 5 = .ok (.iload_n 2, 1) := by decide +kernel
theorem dL_gag_6 : decode cL_gag 6 = .ok (.iload_n 3, 1) := by decide +kernel
theorem dL_gag_7 : decode cL_gag 7 = .ok (.invokevirtual 41, 3) := by decide +kernel
theorem dL_gag_10 : decode cL_gag 10 = .ok (.i2l, 1) := by decide +kernel
theorem dL_gag_11 : decode cL_gag 11 = .ok (.lastore, 1) := by decide +kernel
theorem dL_gag_12 : decode cL_gag 12 = .ok (.goto 15, 3) := by decide +kernel
theorem dL_gag_15 : decode cL_gag 15 = .ok (.astore 5, 2) := by decide +kernel
theorem dL_gag_17 : decode cL_gag 17 = .ok (.iconst 1, 1) := by decide +kernel
theorem dL_gag_18 : decode cL_gag 18 = .ok (.ireturn, 1) := by decide +kernel
theorem dL_gag_19 : decode cL_gag 19 = .ok (.astore 5, 2) := by decide +kernel
theorem dL_gag_21 : decode cL_gag 21 = .ok (.iconst 2, 1) := by decide +kernel
theorem dL_gag_22 : decode cL_gag 22 = .ok (.ireturn, 1) := by decide +kernel
theorem dL_gag_23 : decode cL_gag 23 = .ok (.astore 5, 2) := by decide +kernel
theorem dL_gag_25 : decode cL_gag 25 = .ok (.iconst 3, 1) := by decide +kernel
theorem dL_gag_26 : decode cL_gag 26 = .ok (.ireturn, 1) := by decide +kernel
theorem dL_gag_27 : decode cL_gag 27 = .ok (.iconst 0, 1) := by decide +kernel
theorem dL_gag_28 : decode cL_gag 28 = .ok (.ireturn, 1) := by decide +kernel
set_option maxRecDepth 20000 in
theorem ggL_points_X7_points : GoodIn wsL_points wsX7_points := goodIn_ca (goodIn_ca (goodIn_r _ [7, 8, 9, 10, 6, 11, 12, 13, 14, 15, 16, 17, 18, 19, 20, 21, 22, 23, 24, 25, 26, 27, 28, 29, 30, 31, 32, 33, 34] (by decide +kernel) (by decide +kernel)) (goodIn_sub (fun _ h => List.mem_cons_of_mem _ (List.mem_append_left _ (List.mem_append_right _ h))) (by decide +kernel))) (goodIn_sub (fun _ h => List.mem_cons_of_mem _ (List.mem_append_right _ h)) (by decide +kernel))
set_option maxRecDepth 20000 in
theorem gL_points_X7_points : GoodIn wsL_points (wsV RL 45 RX7 yX7_points wsX7_points) := goodIn_app (goodIn_of _ (by decide +kernel)) ggL_points_X7_points
theorem dL_points_0 : decode cL_points 0 = .ok (.aload_n 3, 1) := by decide +kernel
theorem dL_points_1 : decode cL_points 1 = .ok (.iconst 0, 1) := by decide +kernel
theorem dL_points_2 : decode cL_points 2 = .ok (.aload_n 0, 1) := by decide +kernel
theorem dL_points_3 : decode cL_points 3 = .ok (.iload_n 1, 1) := by decide +kernel
theorem dL_points_4 : decode cL_points 4 = .ok (.iload_n 2, 1) := by decide +kernel
theorem dL_points_5 : decode cL_points 5 = .ok (.invokevirtual 45, 3) := by decide +kernel
theorem dL_points_8 : decode cL_points 8 = .ok (.i2l, 1) := by decide +kernel
theorem dL_points_9 : decode cL_points 9 = .ok (.lastore, 1) := by decide +kernel
theorem dL_points_10 : decode cL_points 10 = .ok (.goto 11, 3) := by decide +kernel
theorem dL_points_13 : decode cL_points 13 = .ok (.astore 4, 2) := by decide +kernel
theorem dL_points_15 : decode cL_points 15 = .ok (.iconst 1, 1) := by decide +kernel
theorem dL_points_16 : decode cL_points 16 = .ok (.ireturn, 1) := by decide +kernel
theorem dL_points_17 : decode cL_points 17 = .ok (.astore 4, 2) := by decide +kernel
theorem dL_points_19 : decode cL_points 19 = .ok (.iconst 2, 1) := by decide +kernel
theorem dL_points_20 : decode cL_points 20 = .ok (.ireturn, 1) := by decide +kernel
theorem dL_points_21 : decode cL_points 21 = .ok (.iconst 0, 1) := by decide +kernel
theorem dL_points_22 : decode cL_points 22 = .ok (.ireturn, 1) := by decide +kernel
set_option maxRecDepth 20000 in
theorem ggL_night_X7_night : GoodIn wsL_night wsX7_night := goodIn_ca (goodIn_ca (goodIn_r _ [7, 8, 9, 10, 11, 12, 13, 14, 15, 16, 17, 18, 19, 20, 21, 22, 6, 23, 24, 25, 26, 27, 28, 29, 30, 31, 32, 33, 34, 35, 36, 37, 38, 39, 40, 41, 42, 43, 44, 45, 46, 47, 48, 49, 50, 51, 52, 53, 54, 55, 56, 57, 58, 59, 60, 61, 62, 63, 64, 65, 66, 67] (by decide +kernel) (by decide +kernel)) (goodIn_sub (fun _ h => List.mem_cons_of_mem _ (List.mem_append_left _ (List.mem_append_right _ h))) (by decide +kernel))) (goodIn_sub (fun _ h => List.mem_cons_of_mem _ (List.mem_append_right _ h)) (by decide +kernel))
set_option maxRecDepth 20000 in
theorem gL_night_X7_night : GoodIn wsL_night (wsV RL 48 RX7 yX7_night wsX7_night) := goodIn_app (goodIn_of _ (by decide +kernel)) ggL_night_X7_night
theorem dL_night_0 : decode cL_night 0 = .ok (.aload_n 0, 1) := by decide +kernel
theorem dL_night_1 : decode cL_night 1 = .ok (.iload_n 1, 1) := by decide +kernel
theorem dL_night_2 : decode cL_night 2 = .ok (.invokevirtual 48, 3) := by decide +kernel
theorem dL_night_5 : decode cL_night 5 = .ok (.goto 9, 3) := by decide +kernel
theorem dL_night_8 : decode cL_night 8 = .ok (.astore_n 2, 1) := by decide +kernel
theorem dL_night_9 : decode cL_night 9 = .ok (.iconst 1, 1) := by decide +kernel
theorem dL_night_10 : decode cL_night 10 = .ok (.ireturn, 1) := by decide +kernel
theorem dL_night_11 : decode cL_night 11 = .ok (.astore_n 2, 1) := by decide +kernel
theorem dL_night_12 : decode cL_night 12 = .ok (.iconst 2, 1) := by decide +kernel
theorem dL_night_13 : decode cL_night 13 = .ok (.ireturn, 1) := by decide +kernel
theorem dL_night_14 : decode cL_night 14 = .ok (.iconst 0, 1) := by decide +kernel
theorem dL_night_15 : decode cL_night 15 = .ok (.ireturn, 1) := by decide +kernel
set_option maxRecDepth 20000 in
theorem ggL_enter_X7_enter : GoodIn wsL_enter wsX7_enter := goodIn_ca (goodIn_ca (goodIn_r _ [7, 8, 9, 10, 11, 12, 13, 14, 15, 16, 6, 17, 18, 19, 20, 21, 22, 23, 24, 25, 26, 27, 28, 29, 30, 31, 32, 33, 34, 35, 36, 37, 38, 39, 40, 41, 42, 43, 44, 45, 46, 47, 48, 49, 50, 51, 52, 53, 54, 55, 56, 57, 58, 59, 60, 61, 62, 63, 64, 65, 66, 67, 68, 69, 70, 71, 72, 73, 74, 75, 76] (by decide +kernel) (by decide +kernel)) (goodIn_sub (fun _ h => List.mem_cons_of_mem _ (List.mem_append_left _ (List.mem_append_right _ h))) (by decide +kernel))) (goodIn_sub (fun _ h => List.mem_cons_of_mem _ (List.mem_append_right _ h)) (by decide +kernel))
set_option maxRecDepth 20000 in
theorem gL_enter_X7_enter : GoodIn wsL_enter (wsV RL 52 RX7 yX7_enter wsX7_enter) := goodIn_app (goodIn_of _ (by decide +kernel)) ggL_enter_X7_enter
theorem dL_enter_0 : decode cL_enter 0 = .ok (.aload_n 2, 1) := by decide +kernel
theorem dL_enter_1 : decode cL_enter 1 = .ok (.iconst 0, 1) := by decide +kernel
theorem dL_enter_2 : decode cL_enter 2 = .ok (.aload_n 0, 1) := by decide +kernel
theorem dL_enter_3 : decode cL_enter 3 = .ok (.iload_n 1, 1) := by decide +kernel
theorem dL_enter_4 : decode cL_enter 4 = .ok (.invokevirtual 52, 3) := by decide +kernel
theorem dL_enter_7 : decode cL_enter 7 = .ok (.i2l, 1) := by decide +kernel
theorem dL_enter_8 : decode cL_enter 8 = .ok (.lastore, 1) := by decide +kernel
theorem dL_enter_9 : decode cL_enter 9 = .ok (.goto 9, 3) := by decide +kernel
theorem dL_enter_12 : decode cL_enter 12 = .ok (.astore_n 3, 1) := by decide +kernel
theorem dL_enter_13 : decode cL_enter 13 = .ok (.iconst 1, 1) := by decide +kernel
theorem dL_enter_14 : decode cL_enter 14 = .ok (.ireturn, 1) := by decide +kernel
theorem dL_enter_15 : decode cL_enter 15 = .ok (.astore_n 3, 1) := by decide +kernel
theorem dL_enter_16 : decode cL_enter 16 = .ok (.iconst 2, 1) := by decide +kernel
theorem dL_enter_17 : decode cL_enter 17 = .ok (.ireturn, 1) := by decide +kernel
theorem dL_enter_18 : decode cL_enter 18 = .ok (.iconst 0, 1) := by decide +kernel
theorem dL_enter_19 : decode cL_enter 19 = .ok (.ireturn, 1) := by decide +kernel
set_option maxRecDepth 20000 in
theorem ggL_exit_X7_exit : GoodIn wsL_exit wsX7_exit := goodIn_ca (goodIn_ca (goodIn_r _ [7, 8, 9, 10, 11, 12, 13, 6, 14, 15, 16, 17, 18, 19, 20, 21, 22, 23, 24, 25, 26, 27, 28, 29, 30, 31, 32, 33, 34, 35, 36, 37, 38, 39, 40, 41, 42, 43, 44, 45, 46, 47, 48, 49, 50, 51, 52, 53, 54, 55, 56, 57, 58, 59, 60, 61, 62, 63, 64, 65, 66, 67, 68, 69, 70, 71, 72, 73, 74, 75, 76, 77, 78, 79] (by decide +kernel) (by decide +kernel)) (goodIn_sub (fun _ h => List.mem_cons_of_mem _ (List.mem_append_left _ (List.mem_append_right _ h))) (by decide +kernel))) (goodIn_sub (fun _ h => List.mem_cons_of_mem _ (List.mem_append_right _ h)) (by decide +kernel))
set_option maxRecDepth 20000 in
theorem gL_exit_X7_exit : GoodIn wsL_exit (wsV RL 56 RX7 yX7_exit wsX7_exit) := goodIn_app (goodIn_of _ (by decide +kernel)) ggL_exit_X7_exit
theorem dL_exit_0 : decode cL_exit 0 = .ok (.aload_n 2, 1) := by decide +kernel
theorem dL_exit_1 : decode cL_exit 1 = .ok (.iconst 0, 1) := by decide +kernel
theorem dL_exit_2 : decode cL_exit 2 = .ok (.aload_n 0, 1) := by decide +kernel
theorem dL_exit_3 : decode cL_exit 3 = .ok (.iload_n 1, 1) := by decide +kernel
theorem dL_exit_4 : decode cL_exit 4 = .ok (.invokevirtual 56, 3) := by decide +kernel
theorem dL_exit_7 : decode cL_exit 7 = .ok (.i2l, 1) := by decide +kernel
theorem dL_exit_8 : decode cL_exit 8 = .ok (.lastore, 1) := by decide +kernel
theorem dL_exit_9 : decode cL_exit 9 = .ok (.goto 9, 3) := by decide +kernel
theorem dL_exit_12 : decode cL_exit 12 = .ok (.astore_n 3, 1) := by decide +kernel
theorem dL_exit_13 : decode cL_exit 13 = .ok (.iconst 1, 1) := by decide +kernel
theorem dL_exit_14 : decode cL_exit 14 = .ok (.ireturn, 1) := by decide +kernel
theorem dL_exit_15 : decode cL_exit 15 = .ok (.astore_n 3, 1) := by decide +kernel
theorem dL_exit_16 : decode cL_exit 16 = .ok (.iconst 2, 1) := by decide +kernel
theorem dL_exit_17 : decode cL_exit 17 = .ok (.ireturn, 1) := by decide +kernel
theorem dL_exit_18 : decode cL_exit 18 = .ok (.iconst 0, 1) := by decide +kernel
theorem dL_exit_19 : decode cL_exit 19 = .ok (.ireturn, 1) := by decide +kernel
set_option maxRecDepth 20000 in
theorem ggL_tell_X7_tell : GoodIn wsL_tell wsX7_tell := goodIn_ca (goodIn_ca (goodIn_ca (goodIn_r _ [8, 9, 10, 11, 12, 13, 14, 15, 16, 17, 7, 18, 19, 20, 21, 22, 23, 24, 25, 26, 27, 28, 29, 30, 31, 32, 33, 34, 35, 36, 37, 38, 39, 40, 41, 42, 43, 44, 45, 46, 47, 48, 49, 50, 51, 52, 53, 54, 55, 56, 57, 58, 59, 60, 61, 62, 63, 64, 65, 66, 67, 68, 69, 70, 71, 72, 73, 74, 75, 76, 77, 78, 79, 80, 81, 82, 83, 84, 85, 86, 87, 88, 89, 90, 91, 92, 93, 94, 95, 96, 97, 98, 99, 100, 101, 102, 103, 104, 105, 106, 107, 108, 109, 110, 111, 112, 113, 114, 115, 116, 117, 118, 119, 120, 121, 122, 123, 124, 125, 126, 127, 128, 129, 130, 131, 132, 133, 134, 135, 136, 137, 138, 139, 140, 141, 142, 143, 144, 145, 146, 147, 148, 149, 150, 151, 152, 153, 154, 155, 156, 157, 158, 159, 160, 161, 162, 163, 164, 165, 166, 167, 168] (by decide +kernel) (by decide +kernel)) (goodIn_sub (fun _ h => List.mem_cons_of_mem _ (List.mem_append_left _ (List.mem_append_left _ (List.mem_append_right _ h)))) (by decide +kernel))) (goodIn_sub (fun _ h => List.mem_cons_of_mem _ (List.mem_append_left _ (List.mem_append_right _ h))) (by decide +kernel))) (goodIn_sub (fun _ h => List.mem_cons_of_mem _ (List.mem_append_right _ h)) (by decide +kernel))
set_option maxRecDepth 20000 in
theorem gL_tell_X7_tell : GoodIn wsL_tell (wsV RL 59 RX7 yX7_tell wsX7_tell) := goodIn_app (goodIn_of _ (by decide +kernel)) ggL_tell_X7_tell
theorem dL_tell_0 : decode cL_tell 0 = .ok (.aload 4, 2) := by decide +kernel
theorem dL_tell_2 : decode cL_tell 2 = .ok (.iconst 0, 1) := by decide +kernel
theorem dL_tell_3 : decode cL_tell 3 = .ok (.aload_n 0, 1) := by decide +kernel
theorem dL_tell_4 : decode cL_tell 4 = .ok (.iload_n 1, 1) := by decide +kernel
theorem dL_tell_5 : decode cL_tell 5 = .ok (.iload_n 2, 1) := by decide +kernel
theorem dL_tell_6 : decode cL_tell 6 = .ok (.iload_n 3, 1) := by decide +kernel
theorem dL_tell_7 : decode cL_tell 7 = .ok (.invokevirtual 59, 3) := by decide +kernel
theorem dL_tell_10 : decode cL_tell 10 = .ok (.i2l, 1) := by decide +kernel
theorem dL_tell_11 : decode cL_tell 11 = .ok (.lastore, 1) := by decide +kernel
theorem dL_tell_12 : decode cL_tell 12 = .ok (.goto 15, 3) := by decide +kernel
theorem dL_tell_15 : decode cL_tell 15 = .ok (.astore 5, 2) := by decide +kernel
theorem dL_tell_17 : decode cL_tell 17 = .ok (.iconst 1, 1) := by decide +kernel
theorem dL_tell_18 : decode cL_tell 18 = .ok (.ireturn, 1) := by decide +kernel
theorem dL_tell_19 : decode cL_tell 19 = .ok (.astore 5, 2) := by decide +kernel
theorem dL_tell_21 : decode cL_tell 21 = .ok (.iconst 2, 1) := by decide +kernel
theorem dL_tell_22 : decode cL_tell 22 = .ok (.ireturn, 1) := by decide +kernel
theorem dL_tell_23 : decode cL_tell 23 = .ok (.astore 5, 2) := by decide +kernel
theorem dL_tell_25 : decode cL_tell 25 = .ok (.iconst 3, 1) := by decide +kernel
theorem dL_tell_26 : decode cL_tell 26 = .ok (.ireturn, 1) := by decide +kernel
theorem dL_tell_27 : decode cL_tell 27 = .ok (.iconst 0, 1) := by decide +kernel
theorem dL_tell_28 : decode cL_tell 28 = .ok (.ireturn, 1) := by decide +kernel
set_option maxRecDepth 20000 in
theorem ggL_give_X7_give : GoodIn wsL_give wsX7_give := goodIn_ca (goodIn_ca (goodIn_ca (goodIn_r _ [8, 9, 10, 11, 12, 13, 14, 15, 16, 17, 7, 18, 19, 20, 21, 22, 23, 24, 25, 26, 27, 28, 29, 30, 31, 32, 33, 34, 35, 36, 37, 38, 39, 40, 41, 42, 43, 44, 45, 46, 47, 48, 49, 50, 51, 52, 53, 54, 55, 56, 57, 58, 59, 60, 61, 62, 63, 64, 65, 66, 67, 68, 69, 70, 71, 72, 73, 74, 75, 76, 77, 78, 79, 80, 81, 82, 83, 84, 85, 86, 87, 88, 89, 90, 91, 92] (by decide +kernel) (by decide +kernel)) (goodIn_sub (fun _ h => List.mem_cons_of_mem _ (List.mem_append_left _ (List.mem_append_left _ (List.mem_append_right _ h)))) (by decide +kernel))) (goodIn_sub (fun _ h => List.mem_cons_of_mem _ (List.mem_append_left _ (List.mem_append_right _ h))) (by decide +kernel))) (goodIn_sub (fun _ h => List.mem_cons_of_mem _ (List.mem_append_right _ h)) (by decide +kernel))
set_option maxRecDepth 20000 in
theorem gL_give_X7_give : GoodIn wsL_give (wsV RL 62 RX7 yX7_give wsX7_give) := goodIn_app (goodIn_of _ (by decide +kernel)) ggL_give_X7_give
theorem dL_give_0 : decode cL_give 0 = .ok (.aload 4, 2) := by decide +kernel
theorem dL_give_2 : decode cL_give 2 = .ok (.iconst 0, 1) := by decide +kernel
theorem dL_give_3 : decode cL_give 3 = .ok (.aload_n 0, 1) := by decide +kernel
theorem dL_give_4 : decode cL_give 4 = .ok (.iload_n 1, 1) := by decide +kernel
theorem dL_give_5 : decode cL_give 5 = .ok (.iload_n 2, 1) := by decide +kernel
theorem dL_give_6 : decode cL_give 6 = .ok (.iload_n 3, 1) := by decide +kernel
theorem dL_give_7 : decode cL_give 7 = .ok (.invokevirtual 62, 3) := by decide +kernel
theorem dL_give_10 : decode cL_give 10 = .ok (.i2l, 1) := by decide +kernel
theorem dL_give_11 : decode cL_give 11 = .ok (.lastore, 1) := by decide +kernel
theorem dL_give_12 : decode cL_give 12 = .ok (.goto 15, 3) := by decide +kernel
theorem dL_give_15 : decode cL_give 15 = .ok (.astore 5, 2) := by decide +kernel
theorem dL_give_17 : decode cL_give 17 = .ok (.iconst 1, 1) := by decide +kernel
theorem dL_give_18 : decode cL_give 18 = .ok (.ireturn, 1) := by decide +kernel
theorem dL_give_19 : decode cL_give 19 = .ok (.astore 5, 2) := by decide +kernel
theorem dL_give_21 : decode cL_give 21 = .ok (.iconst 2, 1) := by decide +kernel
theorem dL_give_22 : decode cL_give 22 = .ok (.ireturn, 1) := by decide +kernel
theorem dL_give_23 : decode cL_give 23 = .ok (.astore 5, 2) := by decide +kernel
theorem dL_give_25 : decode cL_give 25 = .ok (.iconst 3, 1) := by decide +kernel
theorem dL_give_26 : decode cL_give 26 = .ok (.ireturn, 1) := by decide +kernel
theorem dL_give_27 : decode cL_give 27 = .ok (.iconst 0, 1) := by decide +kernel
theorem dL_give_28 : decode cL_give 28 = .ok (.ireturn, 1) := by decide +kernel
set_option maxRecDepth 20000 in
theorem ggL_take_X7_take : GoodIn wsL_take wsX7_take := goodIn_ca (goodIn_ca (goodIn_r _ [7, 8, 9, 10, 11, 12, 13, 14, 6, 15, 16, 17, 18, 19, 20, 21, 22, 23, 24, 25, 26, 27, 28, 29, 30, 31, 32, 33, 34, 35, 36, 37, 38, 39, 40, 41, 42, 43, 44, 45, 46, 47, 48, 49, 50, 51, 52, 53, 54, 55, 56, 57, 58, 59, 60, 61, 62, 63, 64, 65, 66, 67, 68, 69, 70, 71, 72, 73, 74, 75, 76] (by decide +kernel) (by decide +kernel)) (goodIn_sub (fun _ h => List.mem_cons_of_mem _ (List.mem_append_left _ (List.mem_append_right _ h))) (by decide +kernel))) (goodIn_sub (fun _ h => List.mem_cons_of_mem _ (List.mem_append_right _ h)) (by decide +kernel))
set_option maxRecDepth 20000 in
theorem gL_take_X7_take : GoodIn wsL_take (wsV RL 65 RX7 yX7_take wsX7_take) := goodIn_app (goodIn_of _ (by decide +kernel)) ggL_take_X7_take
theorem dL_take_0 : decode cL_take 0 = .ok (.aload_n 3, 1) := by decide +kernel
theorem dL_take_1 : decode cL_take 1 = .ok (.iconst 0, 1) := by decide +kernel
theorem dL_take_2 : decode cL_take 2 = .ok (.aload_n 0, 1) := by decide +kernel
theorem dL_take_3 : decode cL_take 3 = .ok (.iload_n 1, 1) := by decide +kernel
theorem dL_take_4 : decode cL_take 4 = .ok (.iload_n 2, 1) := by decide +kernel
theorem dL_take_5 : decode cL_take 5 = .ok (.invokevirtual 65, 3) := by decide +kernel
theorem dL_take_8 : decode cL_take 8 = .ok (.i2l, 1) := by decide +kernel
theorem dL_take_9 : decode cL_take 9 = .ok (.lastore, 1) := by decide +kernel
theorem dL_take_10 : decode cL_take 10 = .ok (.goto 11, 3) := by decide +kernel
theorem dL_take_13 : decode cL_take 13 = .ok (.astore 4, 2) := by decide +kernel
theorem dL_take_15 : decode cL_take 15 = .ok (.iconst 1, 1) := by decide +kernel
theorem dL_take_16 : decode cL_take 16 = .ok (.ireturn, 1) := by decide +kernel
theorem dL_take_17 : decode cL_take 17 = .ok (.astore 4, 2) := by decide +kernel
theorem dL_take_19 : decode cL_take 19 = .ok (.iconst 2, 1) := by decide +kernel
theorem dL_take_20 : decode cL_take 20 = .ok (.ireturn, 1) := by decide +kernel
theorem dL_take_21 : decode cL_take 21 = .ok (.iconst 0, 1) := by decide +kernel
theorem dL_take_22 : decode cL_take 22 = .ok (.ireturn, 1) := by decide +kernel
set_option maxRecDepth 20000 in
theorem ggL_greet_X7_greet : GoodIn wsL_greet wsX7_greet := goodIn_ca (goodIn_ca (goodIn_ca (goodIn_r _ [8, 9, 10, 11, 12, 7, 13, 14, 15, 16, 17, 18, 19, 20, 21, 22, 23, 24, 25, 26, 27, 28, 29, 30, 31, 32, 33, 34, 35, 36, 37, 38, 39, 40, 41, 42, 43, 44, 45, 46, 47, 48, 49, 50, 51, 52, 53, 54, 55, 56, 57, 58, 59, 60, 61, 62, 63, 64, 65, 66, 67, 68, 69, 70, 71, 72, 73, 74, 75, 76, 77, 78, 79, 80, 81, 82, 83, 84, 85] (by decide +kernel) (by decide +kernel)) (goodIn_sub (fun _ h => List.mem_cons_of_mem _ (List.mem_append_left _ (List.mem_append_left _ (List.mem_append_right _ h)))) (by decide +kernel))) (goodIn_sub (fun _ h => List.mem_cons_of_mem _ (List.mem_append_left _ (List.mem_append_right _ h))) (by decide +kernel))) (goodIn_sub (fun _ h => List.mem_cons_of_mem _ (List.mem_append_right _ h)) (by decide +kernel))
set_option maxRecDepth 20000 in
theorem gL_greet_X7_greet : GoodIn wsL_greet (wsV RL 68 RX7 yX7_greet wsX7_greet) := goodIn_app (goodIn_of _ (by decide +kernel)) ggL_greet_X7_greet
theorem dL_greet_0 : decode cL_greet 0 = .ok (.aload_n 3, 1) := by decide +kernel
theorem dL_greet_1 : decode cL_greet 1 = .ok (.iconst 0, 1) := by decide +kernel
theorem dL_greet_2 : decode cL_greet 2 = .ok (.aload_n 0, 1) := by decide +kernel
theorem dL_greet_3 : decode cL_greet 3 = .ok (.iload_n 1, 1) := by decide +kernel
theorem dL_greet_4 : decode cL_greet 4 = .ok (.iload_n 2, 1) := by decide +kernel
theorem dL_greet_5 : decode cL_greet 5 = .ok (.invokevirtual 68, 3) := by decide +kernel
theorem dL_greet_8 : decode cL_greet 8 = .ok (.i2l, 1) := by decide +kernel
theorem dL_greet_9 : decode cL_greet 9 = .ok (.lastore, 1) := by decide +kernel
theorem dL_greet_10 : decode cL_greet 10 = .ok (.goto 15, 3) := by decide +kernel
theorem dL_greet_13 : decode cL_greet 13 = .ok (.astore 4, 2) := by decide +kernel
theorem dL_greet_15 : decode cL_greet 15 = .ok (.iconst 1, 1) := by decide +kernel
theorem dL_greet_16 : decode cL_greet 16 = .ok (.ireturn, 1) := by decide +kernel
theorem dL_greet_17 : decode cL_greet 17 = .ok (.astore 4, 2) := by decide +kernel
theorem dL_greet_19 : decode cL_greet 19 = .ok (.iconst 2, 1) := by decide +kernel
theorem dL_greet_20 : decode cL_greet 20 = .ok (.ireturn, 1) := by decide +kernel
theorem dL_greet_21 : decode cL_greet 21 = .ok (.astore 4, 2) := by decide +kernel
theorem dL_greet_23 : decode cL_greet 23 = .ok (.iconst 3, 1) := by decide +kernel
theorem dL_greet_24 : decode cL_greet 24 = .ok (.ireturn, 1) := by decide +kernel
theorem dL_greet_25 : decode cL_greet 25 = .ok (.iconst 0, 1) := by decide +kernel
theorem dL_greet_26 : decode cL_greet 26 = .ok (.ireturn, 1) := by decide +kernel
set_option maxRecDepth 20000 in
theorem ggL_play_X7_play : GoodIn wsL_play wsX7_play := goodIn_ca (goodIn_ca (goodIn_r _ [7, 8, 9, 10, 11, 12, 13, 14, 15, 16, 17, 18, 19, 20, 21, 22, 23, 24, 25, 26, 27, 28, 6, 29, 30, 31, 32, 33, 34, 35, 36, 37, 38, 39, 40, 41, 42, 43, 44, 45, 46, 47, 48, 49, 50, 51, 52, 53, 54, 55, 56, 57, 58, 59, 60, 61, 62, 63, 64, 65, 66, 67, 68, 69, 70, 71, 72, 73, 74, 75, 76, 77, 78, 79, 80, 81, 82] (by decide +kernel) (by decide +kernel)) (goodIn_sub (fun _ h => List.mem_cons_of_mem _ (List.mem_append_left _ (List.mem_append_right _ h))) (by decide +kernel))) (goodIn_sub (fun _ h => List.mem_cons_of_mem _ (List.mem_append_right _ h)) (by decide +kernel))
set_option maxRecDepth 20000 in
theorem gL_play_X7_play : GoodIn wsL_play (wsV RL 71 RX7 yX7_play wsX7_play) := goodIn_app (goodIn_of _ (by decide +kernel)) ggL_play_X7_play
theorem dL_play_0 : decode cL_play 0 = .ok (.aload_n 3, 1) := by decide +kernel
theorem dL_play_1 : decode cL_play 1 = .ok (.iconst 0, 1) := by decide +kernel
theorem dL_play_2 : decode cL_play 2 = .ok (.aload_n 0, 1) := by decide +kernel
theorem dL_play_3 : decode cL_play 3 = .ok (.iload_n 1, 1) := by decide +kernel
theorem dL_play_4 : decode cL_play 4 = .ok (.iload_n 2, 1) := by decide +kernel
theorem dL_play_5 : decode cL_play 5 = .ok (.invokevirtual 71, 3) := by decide +kernel
theorem dL_play_8 : decode cL_play 8 = .ok (.i2l, 1) := by decide +kernel
theorem dL_play_9 : decode cL_play 9 = .ok (.lastore, 1) := by decide +kernel
theorem dL_play_10 : decode cL_play 10 = .ok (.goto 11, 3) := by decide +kernel
theorem dL_play_13 : decode cL_play 13 = .ok (.astore 4, 2) := by decide +kernel
theorem dL_play_15 : decode cL_play 15 = .ok (.iconst 1, 1) := by decide +kernel
theorem dL_play_16 : decode cL_play 16 = .ok (.ireturn, 1) := by decide +kernel
theorem dL_play_17 : decode cL_play 17 = .ok (.astore 4, 2) := by decide +kernel
theorem dL_play_19 : decode cL_play 19 = .ok (.iconst 2, 1) := by decide +kernel
theorem dL_play_20 : decode cL_play 20 = .ok (.ireturn, 1) := by decide +kernel
theorem dL_play_21 : decode cL_play 21 = .ok (.iconst 0, 1) := by decide +kernel
theorem dL_play_22 : decode cL_play 22 = .ok (.ireturn, 1) := by decide +kernel
set_option maxRecDepth 20000 in
theorem ggL_isKnown_X7_isKnown : GoodIn wsL_isKnown wsX7_isKnown := goodIn_ca (goodIn_r _ [6, 7, 8, 5, 9, 10, 11, 12, 13, 14, 15, 16, 17, 18, 19, 20, 21, 22, 23, 24, 25, 26, 27, 28, 29, 30, 31, 32, 33, 34, 35, 36, 37, 38, 39, 40, 41, 42, 43, 44, 45, 46, 47, 48, 49, 50, 51, 52] (by decide +kernel) (by decide +kernel)) (goodIn_sub (fun _ h => List.mem_cons_of_mem _ (List.mem_append_right _ h)) (by decide +kernel))
set_option maxRecDepth 20000 in
theorem gL_isKnown_X7_isKnown : GoodIn wsL_isKnown (wsV RL 74 RX7 yX7_isKnown wsX7_isKnown) := goodIn_app (goodIn_of _ (by decide +kernel)) ggL_isKnown_X7_isKnown
theorem dL_isKnown_0 : decode cL_isKnown 0 = .ok (.aload_n 3, 1) := by decide +kernel
theorem dL_isKnown_1 : decode cL_isKnown 1 = .ok (.iconst 0, 1) := by decide +kernel
theorem dL_isKnown_2 : decode cL_isKnown 2 = .ok (.aload_n 0, 1) := by decide +kernel
theorem dL_isKnown_3 : decode cL_isKnown 3 = .ok (.iload_n 1, 1) := by decide +kernel
theorem dL_isKnown_4 : decode cL_isKnown 4 = .ok (.iload_n 2, 1) := by decide +kernel
theorem dL_isKnown_5 : decode cL_isKnown 5 = .ok (.invokevirtual 74, 3) := by decide +kernel
theorem dL_isKnown_8 : decode cL_isKnown 8 = .ok (.ifCond .eq 7, 3) := by decide +kernel
theorem dL_isKnown_11 : decode cL_isKnown 11 = .ok (.lconst 1, 1) := by decide +kernel
theorem dL_isKnown_12 : decode cL_isKnown 12 = .ok (.goto 4, 3) := by decide +kernel
theorem dL_isKnown_15 : decode cL_isKnown 15 = .ok (.lconst 0, 1) := by decide +kernel
theorem dL_isKnown_16 : decode cL_isKnown 16 = .ok (.lastore, 1) := by decide +kernel
theorem dL_isKnown_17 : decode cL_isKnown 17 = .ok (.goto 7, 3) := by decide +kernel
theorem dL_isKnown_20 : decode cL_isKnown 20 = .ok (.astore 4, 2) := by decide +kernel
theorem dL_isKnown_22 : decode cL_isKnown 22 = .ok (.iconst 1, 1) := by decide +kernel
theorem dL_isKnown_23 : decode cL_isKnown 23 = .ok (.ireturn, 1) := by decide +kernel
theorem dL_isKnown_24 : decode cL_isKnown 24 = .ok (.iconst 0, 1) := by decide +kernel
theorem dL_isKnown_25 : decode cL_isKnown 25 = .ok (.ireturn, 1) := by decide +kernel
set_option maxRecDepth 20000 in
theorem ggL_holder_X7_holder : GoodIn wsL_holder wsX7_holder := goodIn_ca (goodIn_r _ [6, 7, 8, 9, 5, 10, 11, 12, 13, 14, 15, 16, 17, 18, 19, 20, 21, 22, 23, 24, 25, 26, 27, 28, 29, 30, 31, 32, 33, 34, 35, 36, 37, 38, 39, 40, 41, 42] (by decide +kernel) (by decide +kernel)) (goodIn_sub (fun _ h => List.mem_cons_of_mem _ (List.mem_append_right _ h)) (by decide +kernel))
set_option maxRecDepth 20000 in
theorem gL_holder_X7_holder : GoodIn wsL_holder (wsV RL 78 RX7 yX7_holder wsX7_holder) := goodIn_app (goodIn_of _ (by decide +kernel)) ggL_holder_X7_holder
theorem dL_holder_0 : decode cL_holder 0 = .ok (.aload_n 2, 1) := by decide +kernel
theorem dL_holder_1 : decode cL_holder 1 = .ok (.iconst 0, 1) := by decide +kernel
theorem dL_holder_2 : decode cL_holder 2 = .ok (.aload_n 0, 1) := by decide +kernel
theorem dL_holder_3 : decode cL_holder 3 = .ok (.iload_n 1, 1) := by decide +kernel
theorem dL_holder_4 : decode cL_holder 4 = .ok (.invokevirtual 78, 3) := by decide +kernel
theorem dL_holder_7 : decode cL_holder 7 = .ok (.i2l, 1) := by decide +kernel
theorem dL_holder_8 : decode cL_holder 8 = .ok (.lastore, 1) := by decide +kernel
theorem dL_holder_9 : decode cL_holder 9 = .ok (.goto 6, 3) := by decide +kernel
theorem dL_holder_12 : decode cL_holder 12 = .ok (.astore_n 3, 1) := by decide +kernel
theorem dL_holder_13 : decode cL_holder 13 = .ok (.iconst 1, 1) := by decide +kernel
theorem dL_holder_14 : decode cL_holder 14 = .ok (.ireturn, 1) := by decide +kernel
theorem dL_holder_15 : decode cL_holder 15 = .ok (.iconst 0, 1) := by decide +kernel
theorem dL_holder_16 : decode cL_holder 16 = .ok (.ireturn, 1) := by decide +kernel
set_option maxRecDepth 20000 in
theorem ggL_count_X7_count : GoodIn wsL_count wsX7_count := goodIn_ca (goodIn_r _ [6, 7, 8, 9, 10, 11, 12, 13, 14, 15, 16, 17, 18, 19, 20, 21, 22, 23, 24, 25, 26, 27, 28, 29, 30, 31, 32, 33, 34, 35] (by decide +kernel) (by decide +kernel)) (goodIn_sub (fun _ h => List.mem_cons_of_mem _ (List.mem_append_right _ h)) (by decide +kernel))
set_option maxRecDepth 20000 in
theorem gL_count_X7_count : GoodIn wsL_count (wsV RL 81 RX7 yX7_count wsX7_count) := goodIn_app (goodIn_of _ (by decide +kernel)) ggL_count_X7_count
theorem dL_count_0 : decode cL_count 0 = .ok (.aload_n 2, 1) := by decide +kernel
theorem dL_count_1 : decode cL_count 1 = .ok (.iconst 0, 1) := by decide +kernel
theorem dL_count_2 : decode cL_count 2 = .ok (.aload_n 0, 1) := by decide +kernel
theorem dL_count_3 : decode cL_count 3 = .ok (.iload_n 1, 1) := by decide +kernel
theorem dL_count_4 : decode cL_count 4 = .ok (.invokevirtual 81, 3) := by decide +kernel
theorem dL_count_7 : decode cL_count 7 = .ok (.i2l, 1) := by decide +kernel
theorem dL_count_8 : decode cL_count 8 = .ok (.lastore, 1) := by decide +kernel
theorem dL_count_9 : decode cL_count 9 = .ok (.goto 6, 3) := by decide +kernel
theorem dL_count_12 : decode cL_count 12 = .ok (.astore_n 3, 1) := by decide +kernel
theorem dL_count_13 : decode cL_count 13 = .ok (.iconst 1, 1) := by decide +kernel
theorem dL_count_14 : decode cL_count 14 = .ok (.ireturn, 1) := by decide +kernel
theorem dL_count_15 : decode cL_count 15 = .ok (.iconst 0, 1) := by decide +kernel
theorem dL_count_16 : decode cL_count 16 = .ok (.ireturn, 1) := by decide +kernel
set_option maxRecDepth 20000 in
theorem ggL_share_X7_share : GoodIn wsL_share wsX7_share := goodIn_ca (goodIn_r _ [6, 7, 8, 9, 10, 5, 11, 12, 13, 14, 15, 16, 17, 18, 19, 20, 21, 22, 23, 24, 25, 26, 27, 28, 29] (by decide +kernel) (by decide +kernel)) (goodIn_sub (fun _ h => List.mem_cons_of_mem _ (List.mem_append_right _ h)) (by decide +kernel))
set_option maxRecDepth 20000 in
theorem gL_share_X7_share : GoodIn wsL_share (wsV RL 84 RX7 yX7_share wsX7_share) := goodIn_app (goodIn_of _ (by decide +kernel)) ggL_share_X7_share
theorem dL_share_0 : decode cL_share 0 = .ok (.aload_n 2, 1) := by decide +kernel
theorem dL_share_1 : decode cL_share 1 = .ok (.iconst 0, 1) := by decide +kernel
theorem dL_share_2 : decode cL_share 2 = .ok (.aload_n 0, 1) := by decide +kernel
theorem dL_share_3 : decode cL_share 3 = .ok (.iload_n 1, 1) := by decide +kernel
theorem dL_share_4 : decode cL_share 4 = .ok (.invokevirtual 84, 3) := by decide +kernel
theorem dL_share_7 : decode cL_share 7 = .ok (.dastore, 1) := by decide +kernel
theorem dL_share_8 : decode cL_share 8 = .ok (.goto 6, 3) := by decide +kernel
theorem dL_share_11 : decode cL_share 11 = .ok (.astore_n 3, 1) := by decide +kernel
theorem dL_share_12 : decode cL_share 12 = .ok (.iconst 1, 1) := by decide +kernel
theorem dL_share_13 : decode cL_share 13 = .ok (.ireturn, 1) := by decide +kernel
theorem dL_share_14 : decode cL_share 14 = .ok (.iconst 0, 1) := by decide +kernel
theorem dL_share_15 : decode cL_share 15 = .ok (.ireturn, 1) := by decide +kernel
set_option maxRecDepth 20000 in
theorem ggL_law_X7_init : GoodIn wsL_law wsX7_init := goodIn_r _ [10, 11, 12, 13, 14, 15, 16, 17, 18, 19, 20, 21, 22, 23, 24, 25, 26, 27, 28, 29, 30, 31, 32, 33, 34, 35, 36, 37, 38, 39, 40, 41, 42, 43, 44, 45, 46, 47, 48, 49, 50, 51, 52, 53, 54, 55, 56, 57, 58, 59, 60, 61, 62, 63, 64, 65, 66, 67, 68, 69, 70, 71, 72, 73, 74, 75, 76, 77, 78, 79, 80, 81, 82, 83, 84, 85, 86, 87, 6, 88, 89, 90, 91, 92, 93, 94, 95, 96, 97, 98, 99, 759, 760, 761, 762, 763, 714, 715, 716, 717, 718, 719, 720, 721, 722, 723, 724, 725, 726, 727, 728, 729, 764, 765, 766, 767, 768, 769, 770, 771, 772, 773, 774, 775, 776, 777, 778, 779, 780, 781, 782, 783] (by decide +kernel) (by decide +kernel)
set_option maxRecDepth 20000 in
theorem gL_law_X7_init : GoodIn wsL_law (wsX7_init) := ggL_law_X7_init
set_option maxRecDepth 20000 in
theorem ggL_law_X8_init : GoodIn wsL_law wsX8_init := goodIn_r _ [102, 103, 12, 13, 42, 104, 105, 106, 107, 108, 109, 110, 111, 112, 113, 114, 115, 116, 117, 118, 119, 730, 731, 732, 733, 734, 735, 736, 737, 738, 739, 740, 741, 742, 743, 744, 745, 746, 747, 748, 749, 750, 751, 752, 753, 754, 755, 756, 757, 758] (by decide +kernel) (by decide +kernel)
set_option maxRecDepth 20000 in
theorem gL_law_X8_init : GoodIn wsL_law (wsX8_init) := ggL_law_X8_init
set_option maxRecDepth 20000 in
theorem ggL_law_L_knows : GoodIn wsL_law wsL_knows := goodIn_ca (goodIn_r _ [123, 124, 125, 126, 127, 2, 128, 21, 129, 130, 131, 132, 133, 134, 135, 136, 137, 138, 139, 20, 140, 57, 141, 142, 143, 144, 145, 146, 147, 148, 149, 150, 714, 715, 716, 717, 718, 719, 720, 721, 722, 723, 724, 725, 726, 727, 728, 729, 764, 765] (by decide +kernel) (by decide +kernel)) (goodIn_sub (fun _ h => List.mem_append_left _ (List.mem_append_left _ (List.mem_append_right _ h))) (by decide +kernel))
set_option maxRecDepth 20000 in
theorem gL_law_L_knows : GoodIn wsL_law (va_wsS RL 92 yL_knows wsL_knows) := goodIn_app (goodIn_of _ (by decide +kernel)) ggL_law_L_knows
set_option maxRecDepth 20000 in
theorem ggL_law_X8_knows : GoodIn wsL_law wsX8_knows := goodIn_r _ [154, 104, 116, 155, 156, 157, 5, 158, 159, 160, 161, 162, 163, 164, 165, 166, 167, 168, 169, 170, 171, 172, 173, 174, 175, 730, 731, 732, 733, 734, 735, 736, 737, 738, 739, 740, 741, 742, 743, 744, 745, 746, 747, 748, 749, 750, 751, 752, 753, 754, 755, 756, 757, 758] (by decide +kernel) (by decide +kernel)
set_option maxRecDepth 20000 in
theorem gL_law_X8_knows : GoodIn wsL_law (wsV RL 97 RX8 yX8_knows wsX8_knows) := goodIn_app (goodIn_of _ (by decide +kernel)) ggL_law_X8_knows
set_option maxRecDepth 20000 in
theorem ggL_law_X8_thrown : GoodIn wsL_law wsX8_thrown := goodIn_r _ [179, 169, 730, 731, 732, 733, 734, 735, 736, 737, 738, 739, 740, 741, 742, 743, 744, 745, 746, 747, 748, 749, 750, 751, 752, 753, 754, 755, 756, 757, 758] (by decide +kernel) (by decide +kernel)
set_option maxRecDepth 20000 in
theorem gL_law_X8_thrown : GoodIn wsL_law (wsV RL 98 RX8 yX8_thrown wsX8_thrown) := goodIn_app (goodIn_of _ (by decide +kernel)) ggL_law_X8_thrown
set_option maxRecDepth 20000 in
theorem ggL_law_L_has : GoodIn wsL_law wsL_has := goodIn_ca (goodIn_r _ [182, 124, 183, 184, 185, 2, 186, 21, 187, 188, 189, 190, 132, 133, 129, 130, 131, 714, 715, 716, 717, 718, 719, 720, 721, 722, 723, 724, 725, 726, 727, 728, 729, 764, 765] (by decide +kernel) (by decide +kernel)) (goodIn_sub (fun _ h => List.mem_append_left _ (List.mem_append_left _ (List.mem_append_right _ h))) (by decide +kernel))
set_option maxRecDepth 20000 in
theorem gL_law_L_has : GoodIn wsL_law (va_wsS RL 101 yL_has wsL_has) := goodIn_app (goodIn_of _ (by decide +kernel)) ggL_law_L_has
set_option maxRecDepth 20000 in
theorem ggL_law_X8_has : GoodIn wsL_law wsX8_has := goodIn_r _ [194, 105, 117, 155, 195, 196, 5, 197, 159, 160, 161, 156, 157, 158, 165, 166, 167, 168, 169, 730, 731, 732, 733, 734, 735, 736, 737, 738, 739, 740, 741, 742, 743, 744, 745, 746, 747, 748, 749, 750, 751, 752, 753, 754, 755, 756, 757, 758] (by decide +kernel) (by decide +kernel)
set_option maxRecDepth 20000 in
theorem gL_law_X8_has : GoodIn wsL_law (wsV RL 104 RX8 yX8_has wsX8_has) := goodIn_app (goodIn_of _ (by decide +kernel)) ggL_law_X8_has
set_option maxRecDepth 20000 in
theorem ggL_law_L_step : GoodIn wsL_law wsL_step := goodIn_ca (goodIn_ca (goodIn_ca (goodIn_r _ [200, 124, 201, 202, 203, 204, 205, 2, 206, 207, 208, 17, 209, 129, 130, 131, 132, 133, 134, 135, 136, 210, 211, 212, 213, 214, 215, 216, 217, 218, 219, 220, 221, 44, 222, 223, 224, 16, 225, 226, 49, 50, 51, 52, 714, 715, 716, 717, 718, 719, 720, 721, 722, 723, 724, 725, 726, 727, 728, 729, 759, 760, 761, 762, 763] (by decide +kernel) (by decide +kernel)) (goodIn_sub (fun _ h => List.mem_append_left _ (List.mem_append_right _ h)) (by decide +kernel))) (goodIn_sub (fun _ h => List.mem_append_left _ (List.mem_append_left _ (List.mem_append_right _ h))) (by decide +kernel))) (goodIn_sub (fun _ h => List.mem_append_right _ h) (by decide +kernel))
set_option maxRecDepth 20000 in
theorem gL_law_L_step : GoodIn wsL_law (va_wsS RL 105 yL_step wsL_step) := goodIn_app (goodIn_of _ (by decide +kernel)) ggL_law_L_step
set_option maxRecDepth 20000 in
theorem ggL_law_X8_step : GoodIn wsL_law wsX8_step := goodIn_r _ [230, 231, 155, 106, 107, 108, 109, 156, 157, 5, 158, 159, 160, 161, 162, 163, 164, 165, 166, 167, 168, 169, 730, 731, 732, 733, 734, 735, 736, 737, 738, 739, 740, 741, 742, 743, 744, 745, 746, 747, 748, 749, 750, 751, 752, 753, 754, 755, 756, 757, 758] (by decide +kernel) (by decide +kernel)
set_option maxRecDepth 20000 in
theorem gL_law_X8_step : GoodIn wsL_law (wsV RL 108 RX8 yX8_step wsX8_step) := goodIn_app (goodIn_of _ (by decide +kernel)) ggL_law_X8_step
set_option maxRecDepth 20000 in
theorem ggL_law_L_tear : GoodIn wsL_law wsL_tear := goodIn_ca (goodIn_r _ [234, 202, 235, 236, 237, 2, 238, 17, 209, 218, 219, 220, 221, 207, 208, 44, 714, 715, 716, 717, 718, 719, 720, 721, 722, 723, 724, 725, 726, 727, 728, 729, 759, 760, 761, 762, 763] (by decide +kernel) (by decide +kernel)) (goodIn_sub (fun _ h => List.mem_append_left _ (List.mem_append_right _ h)) (by decide +kernel))
set_option maxRecDepth 20000 in
theorem gL_law_L_tear : GoodIn wsL_law (va_wsS RL 109 yL_tear wsL_tear) := goodIn_app (goodIn_of _ (by decide +kernel)) ggL_law_L_tear
set_option maxRecDepth 20000 in
theorem ggL_law_X8_tear : GoodIn wsL_law wsX8_tear := goodIn_r _ [242, 155, 231, 165, 166, 167, 5, 168, 169, 730, 731, 732, 733, 734, 735, 736, 737, 738, 739, 740, 741, 742, 743, 744, 745, 746, 747, 748, 749, 750, 751, 752, 753, 754, 755, 756, 757, 758] (by decide +kernel) (by decide +kernel)
set_option maxRecDepth 20000 in
theorem gL_law_X8_tear : GoodIn wsL_law (wsV RL 112 RX8 yX8_tear wsX8_tear) := goodIn_app (goodIn_of _ (by decide +kernel)) ggL_law_X8_tear
set_option maxRecDepth 20000 in
theorem ggL_law_L_ill : GoodIn wsL_law wsL_ill := goodIn_ca (goodIn_r _ [245, 124, 246, 247, 248, 2, 249, 25, 250, 251, 129, 130, 131, 132, 133, 252, 141, 142, 714, 715, 716, 717, 718, 719, 720, 721, 722, 723, 724, 725, 726, 727, 728, 729, 766, 767, 768, 769] (by decide +kernel) (by decide +kernel)) (goodIn_sub (fun _ h => List.mem_append_left _ (List.mem_append_left _ (List.mem_append_right _ h))) (by decide +kernel))
set_option maxRecDepth 20000 in
theorem gL_law_L_ill : GoodIn wsL_law (va_wsS RL 113 yL_ill wsL_ill) := goodIn_app (goodIn_of _ (by decide +kernel)) ggL_law_L_ill
set_option maxRecDepth 20000 in
theorem ggL_law_X8_ill : GoodIn wsL_law wsX8_ill := goodIn_r _ [256, 257, 258, 156, 157, 5, 158, 159, 160, 161, 165, 166, 167, 168, 169, 170, 171, 172, 730, 731, 732, 733, 734, 735, 736, 737, 738, 739, 740, 741, 742, 743, 744, 745, 746, 747, 748, 749, 750, 751, 752, 753, 754, 755, 756, 757, 758] (by decide +kernel) (by decide +kernel)
set_option maxRecDepth 20000 in
theorem gL_law_X8_ill : GoodIn wsL_law (wsV RL 116 RX8 yX8_ill wsX8_ill) := goodIn_app (goodIn_of _ (by decide +kernel)) ggL_law_X8_ill
set_option maxRecDepth 20000 in
theorem ggL_law_L_ban : GoodIn wsL_law wsL_ban := goodIn_ca (goodIn_r _ [261, 124, 262, 263, 264, 2, 265, 25, 266, 134, 135, 136, 132, 133, 252, 141, 142, 714, 715, 716, 717, 718, 719, 720, 721, 722, 723, 724, 725, 726, 727, 728, 729, 766, 767, 768, 769] (by decide +kernel) (by decide +kernel)) (goodIn_sub (fun _ h => List.mem_append_left _ (List.mem_append_left _ (List.mem_append_right _ h))) (by decide +kernel))
set_option maxRecDepth 20000 in
theorem gL_law_L_ban : GoodIn wsL_law (va_wsS RL 117 yL_ban wsL_ban) := goodIn_app (goodIn_of _ (by decide +kernel)) ggL_law_L_ban
set_option maxRecDepth 20000 in
theorem ggL_law_X8_ban : GoodIn wsL_law wsX8_ban := goodIn_r _ [270, 271, 162, 163, 5, 164, 159, 160, 161, 165, 166, 167, 168, 169, 170, 171, 172, 730, 731, 732, 733, 734, 735, 736, 737, 738, 739, 740, 741, 742, 743, 744, 745, 746, 747, 748, 749, 750, 751, 752, 753, 754, 755, 756, 757, 758] (by decide +kernel) (by decide +kernel)
set_option maxRecDepth 20000 in
theorem gL_law_X8_ban : GoodIn wsL_law (wsV RL 119 RX8 yX8_ban wsX8_ban) := goodIn_app (goodIn_of _ (by decide +kernel)) ggL_law_X8_ban
set_option maxRecDepth 20000 in
theorem ggL_law_L_travel : GoodIn wsL_law wsL_travel := goodIn_ca (goodIn_r _ [274, 202, 275, 276, 277, 2, 278, 25, 266, 41, 218, 219, 220, 221, 207, 208, 44, 279, 280, 281, 40, 282, 98, 283, 60, 61, 62, 714, 715, 716, 717, 718, 719, 720, 721, 722, 723, 724, 725, 726, 727, 728, 729, 766, 767, 768, 769, 779, 780, 781, 782, 783] (by decide +kernel) (by decide +kernel)) (goodIn_sub (fun _ h => List.mem_append_left _ (List.mem_append_right _ h)) (by decide +kernel))
set_option maxRecDepth 20000 in
theorem gL_law_L_travel : GoodIn wsL_law (va_wsS RL 120 yL_travel wsL_travel) := goodIn_app (goodIn_of _ (by decide +kernel)) ggL_law_L_travel
set_option maxRecDepth 20000 in
theorem ggL_law_X8_travel : GoodIn wsL_law wsX8_travel := goodIn_r _ [287, 155, 271, 113, 165, 166, 167, 5, 168, 169, 730, 731, 732, 733, 734, 735, 736, 737, 738, 739, 740, 741, 742, 743, 744, 745, 746, 747, 748, 749, 750, 751, 752, 753, 754, 755, 756, 757, 758] (by decide +kernel) (by decide +kernel)
set_option maxRecDepth 20000 in
theorem gL_law_X8_travel : GoodIn wsL_law (wsV RL 123 RX8 yX8_travel wsX8_travel) := goodIn_app (goodIn_of _ (by decide +kernel)) ggL_law_X8_travel
set_option maxRecDepth 20000 in
theorem ggL_law_L_gag : GoodIn wsL_law wsL_gag := goodIn_ca (goodIn_ca (goodIn_ca (goodIn_r _ [290, 124, 201, 202, 291, 292, 293, 2, 294, 207, 208, 41, 295, 188, 189, 190, 132, 133, 210, 211, 212, 213, 214, 296, 297, 298, 40, 299, 300, 95, 96, 97, 714, 715, 716, 717, 718, 719, 720, 721, 722, 723, 724, 725, 726, 727, 728, 729, 779, 780, 781, 782, 783] (by decide +kernel) (by decide +kernel)) (goodIn_sub (fun _ h => List.mem_append_left _ (List.mem_append_right _ h)) (by decide +kernel))) (goodIn_sub (fun _ h => List.mem_append_left _ (List.mem_append_left _ (List.mem_append_right _ h))) (by decide +kernel))) (goodIn_sub (fun _ h => List.mem_append_right _ h) (by decide +kernel))
set_option maxRecDepth 20000 in
theorem gL_law_L_gag : GoodIn wsL_law (va_wsS RL 124 yL_gag wsL_gag) := goodIn_app (goodIn_of _ (by decide +kernel)) ggL_law_L_gag
set_option maxRecDepth 20000 in
theorem ggL_law_X8_gag : GoodIn wsL_law wsX8_gag := goodIn_r _ [304, 305, 110, 111, 112, 195, 196, 5, 197, 159, 160, 161, 165, 166, 167, 168, 169, 730, 731, 732, 733, 734, 735, 736, 737, 738, 739, 740, 741, 742, 743, 744, 745, 746, 747, 748, 749, 750, 751, 752, 753, 754, 755, 756, 757, 758] (by decide +kernel) (by decide +kernel)
set_option maxRecDepth 20000 in
theorem gL_law_X8_gag : GoodIn wsL_law (wsV RL 127 RX8 yX8_gag wsX8_gag) := goodIn_app (goodIn_of _ (by decide +kernel)) ggL_law_X8_gag
set_option maxRecDepth 20000 in
theorem ggL_law_L_points : GoodIn wsL_law wsL_points := goodIn_ca (goodIn_ca (goodIn_r _ [308, 124, 201, 309, 310, 311, 2, 312, 43, 129, 130, 131, 132, 133, 210, 211, 212, 213, 214, 714, 715, 716, 717, 718, 719, 720, 721, 722, 723, 724, 725, 726, 727, 728, 729] (by decide +kernel) (by decide +kernel)) (goodIn_sub (fun _ h => List.mem_append_left _ (List.mem_append_left _ (List.mem_append_right _ h))) (by decide +kernel))) (goodIn_sub (fun _ h => List.mem_append_right _ h) (by decide +kernel))
set_option maxRecDepth 20000 in
theorem gL_law_L_points : GoodIn wsL_law (va_wsS RL 128 yL_points wsL_points) := goodIn_app (goodIn_of _ (by decide +kernel)) ggL_law_L_points
set_option maxRecDepth 20000 in
theorem ggL_law_X8_points : GoodIn wsL_law wsX8_points := goodIn_r _ [316, 114, 156, 157, 5, 158, 159, 160, 161, 165, 166, 167, 168, 169, 730, 731, 732, 733, 734, 735, 736, 737, 738, 739, 740, 741, 742, 743, 744, 745, 746, 747, 748, 749, 750, 751, 752, 753, 754, 755, 756, 757, 758] (by decide +kernel) (by decide +kernel)
set_option maxRecDepth 20000 in
theorem gL_law_X8_points : GoodIn wsL_law (wsV RL 130 RX8 yX8_points wsX8_points) := goodIn_app (goodIn_of _ (by decide +kernel)) ggL_law_X8_points
set_option maxRecDepth 20000 in
theorem ggL_law_L_night : GoodIn wsL_law wsL_night := goodIn_ca (goodIn_ca (goodIn_r _ [319, 201, 202, 320, 321, 322, 2, 323, 207, 208, 17, 209, 324, 325, 326, 45, 25, 251, 327, 21, 44, 210, 211, 212, 213, 214, 218, 219, 220, 221, 328, 329, 330, 20, 331, 57, 332, 333, 334, 335, 58, 714, 715, 716, 717, 718, 719, 720, 721, 722, 723, 724, 725, 726, 727, 728, 729, 759, 760, 761, 762, 763, 766, 767, 768, 769, 764, 765] (by decide +kernel) (by decide +kernel)) (goodIn_sub (fun _ h => List.mem_append_left _ (List.mem_append_right _ h)) (by decide +kernel))) (goodIn_sub (fun _ h => List.mem_append_right _ h) (by decide +kernel))
set_option maxRecDepth 20000 in
theorem gL_law_L_night : GoodIn wsL_law (va_wsS RL 131 yL_night wsL_night) := goodIn_app (goodIn_of _ (by decide +kernel)) ggL_law_L_night
set_option maxRecDepth 20000 in
theorem ggL_law_X8_night : GoodIn wsL_law wsX8_night := goodIn_r _ [339, 155, 231, 340, 341, 115, 342, 258, 116, 104, 117, 105, 159, 160, 5, 161, 165, 166, 167, 168, 169, 730, 731, 732, 733, 734, 735, 736, 737, 738, 739, 740, 741, 742, 743, 744, 745, 746, 747, 748, 749, 750, 751, 752, 753, 754, 755, 756, 757, 758] (by decide +kernel) (by decide +kernel)
set_option maxRecDepth 20000 in
theorem gL_law_X8_night : GoodIn wsL_law (wsV RL 134 RX8 yX8_night wsX8_night) := goodIn_app (goodIn_of _ (by decide +kernel)) ggL_law_X8_night
set_option maxRecDepth 20000 in
theorem ggL_law_L_enter : GoodIn wsL_law wsL_enter := goodIn_ca (goodIn_ca (goodIn_r _ [345, 124, 202, 346, 347, 348, 2, 349, 207, 208, 25, 250, 251, 17, 45, 129, 130, 131, 132, 133, 350, 351, 352, 353, 44, 252, 141, 142, 354, 355, 356, 16, 357, 226, 49, 50, 51, 52, 358, 359, 360, 361, 326, 209, 362, 363, 364, 365, 366, 325, 324, 367, 714, 715, 716, 717, 718, 719, 720, 721, 722, 723, 724, 725, 726, 727, 728, 729, 766, 767, 768, 769, 759, 760, 761, 762, 763] (by decide +kernel) (by decide +kernel)) (goodIn_sub (fun _ h => List.mem_append_left _ (List.mem_append_right _ h)) (by decide +kernel))) (goodIn_sub (fun _ h => List.mem_append_left _ (List.mem_append_left _ (List.mem_append_right _ h))) (by decide +kernel))
set_option maxRecDepth 20000 in
theorem gL_law_L_enter : GoodIn wsL_law (va_wsS RL 135 yL_enter wsL_enter) := goodIn_app (goodIn_of _ (by decide +kernel)) ggL_law_L_enter
set_option maxRecDepth 20000 in
theorem ggL_law_X8_enter : GoodIn wsL_law wsX8_enter := goodIn_r _ [371, 155, 257, 258, 156, 157, 5, 158, 159, 160, 161, 170, 171, 172, 165, 166, 167, 168, 169, 372, 373, 374, 375, 106, 115, 107, 376, 377, 378, 379, 342, 380, 381, 382, 383, 341, 231, 384, 340, 385, 730, 731, 732, 733, 734, 735, 736, 737, 738, 739, 740, 741, 742, 743, 744, 745, 746, 747, 748, 749, 750, 751, 752, 753, 754, 755, 756, 757, 758] (by decide +kernel) (by decide +kernel)
set_option maxRecDepth 20000 in
theorem gL_law_X8_enter : GoodIn wsL_law (wsV RL 137 RX8 yX8_enter wsX8_enter) := goodIn_app (goodIn_of _ (by decide +kernel)) ggL_law_X8_enter
set_option maxRecDepth 20000 in
theorem ggL_law_L_exit : GoodIn wsL_law wsL_exit := goodIn_ca (goodIn_ca (goodIn_r _ [388, 124, 202, 389, 390, 391, 2, 392, 17, 45, 25, 251, 129, 130, 131, 132, 133, 350, 351, 352, 353, 207, 208, 44, 393, 394, 395, 396, 252, 141, 142, 354, 355, 356, 16, 357, 226, 49, 50, 51, 52, 358, 359, 360, 361, 326, 209, 362, 363, 364, 365, 366, 325, 324, 367, 714, 715, 716, 717, 718, 719, 720, 721, 722, 723, 724, 725, 726, 727, 728, 729, 766, 767, 768, 769, 759, 760, 761, 762, 763] (by decide +kernel) (by decide +kernel)) (goodIn_sub (fun _ h => List.mem_append_left _ (List.mem_append_left _ (List.mem_append_right _ h))) (by decide +kernel))) (goodIn_sub (fun _ h => List.mem_append_left _ (List.mem_append_right _ h)) (by decide +kernel))
set_option maxRecDepth 20000 in
theorem gL_law_L_exit : GoodIn wsL_law (va_wsS RL 138 yL_exit wsL_exit) := goodIn_app (goodIn_of _ (by decide +kernel)) ggL_law_L_exit
set_option maxRecDepth 20000 in
theorem ggL_law_X8_exit : GoodIn wsL_law wsX8_exit := goodIn_r _ [400, 258, 156, 157, 5, 158, 159, 160, 161, 401, 402, 403, 404, 155, 170, 171, 172, 165, 166, 167, 168, 169, 372, 373, 374, 375, 106, 115, 107, 376, 377, 378, 379, 342, 380, 381, 382, 383, 341, 231, 384, 340, 385, 730, 731, 732, 733, 734, 735, 736, 737, 738, 739, 740, 741, 742, 743, 744, 745, 746, 747, 748, 749, 750, 751, 752, 753, 754, 755, 756, 757, 758] (by decide +kernel) (by decide +kernel)
set_option maxRecDepth 20000 in
theorem gL_law_X8_exit : GoodIn wsL_law (wsV RL 140 RX8 yX8_exit wsX8_exit) := goodIn_app (goodIn_of _ (by decide +kernel)) ggL_law_X8_exit
set_option maxRecDepth 20000 in
theorem ggL_law_L_tell : GoodIn wsL_law wsL_tell := goodIn_ca (goodIn_ca (goodIn_ca (goodIn_r _ [407, 124, 201, 202, 408, 409, 410, 2, 411, 207, 208, 25, 327, 266, 17, 45, 129, 130, 131, 132, 133, 134, 135, 136, 215, 216, 217, 213, 214, 350, 351, 352, 353, 44, 393, 394, 395, 396, 251, 252, 141, 142, 137, 138, 139, 20, 140, 57, 354, 355, 356, 16, 357, 226, 49, 50, 51, 52, 412, 413, 414, 415, 29, 416, 417, 418, 28, 419, 74, 76, 420, 421, 422, 423, 424, 75, 425, 426, 329, 330, 331, 332, 333, 334, 335, 58, 427, 428, 429, 430, 431, 432, 433, 434, 435, 436, 437, 438, 439, 440, 441, 442, 443, 444, 445, 446, 447, 448, 449, 450, 451, 452, 144, 145, 146, 453, 454, 455, 456, 457, 143, 147, 148, 149, 150, 358, 359, 360, 361, 326, 209, 362, 363, 364, 365, 366, 325, 324, 367, 714, 715, 716, 717, 718, 719, 720, 721, 722, 723, 724, 725, 726, 727, 728, 729, 766, 767, 768, 769, 764, 765, 759, 760, 761, 762, 763, 770, 771, 772] (by decide +kernel) (by decide +kernel)) (goodIn_sub (fun _ h => List.mem_append_left _ (List.mem_append_right _ h)) (by decide +kernel))) (goodIn_sub (fun _ h => List.mem_append_left _ (List.mem_append_left _ (List.mem_append_right _ h))) (by decide +kernel))) (goodIn_sub (fun _ h => List.mem_append_right _ h) (by decide +kernel))
set_option maxRecDepth 20000 in
theorem gL_law_L_tell : GoodIn wsL_law (va_wsS RL 141 yL_tell wsL_tell) := goodIn_app (goodIn_of _ (by decide +kernel)) ggL_law_L_tell
set_option maxRecDepth 20000 in
theorem ggL_law_X8_tell : GoodIn wsL_law wsX8_tell := goodIn_r _ [461, 116, 271, 108, 115, 109, 156, 157, 5, 158, 159, 160, 161, 162, 163, 164, 401, 402, 403, 404, 155, 258, 170, 171, 172, 165, 166, 167, 168, 169, 372, 373, 374, 375, 106, 107, 462, 463, 464, 465, 118, 119, 117, 231, 257, 466, 467, 468, 469, 470, 471, 472, 473, 474, 475, 476, 477, 376, 377, 378, 379, 342, 380, 381, 382, 383, 341, 384, 340, 385, 730, 731, 732, 733, 734, 735, 736, 737, 738, 739, 740, 741, 742, 743, 744, 745, 746, 747, 748, 749, 750, 751, 752, 753, 754, 755, 756, 757, 758] (by decide +kernel) (by decide +kernel)
set_option maxRecDepth 20000 in
theorem gL_law_X8_tell : GoodIn wsL_law (wsV RL 143 RX8 yX8_tell wsX8_tell) := goodIn_app (goodIn_of _ (by decide +kernel)) ggL_law_X8_tell
set_option maxRecDepth 20000 in
theorem ggL_law_L_give : GoodIn wsL_law wsL_give := goodIn_ca (goodIn_ca (goodIn_ca (goodIn_r _ [480, 124, 201, 202, 481, 482, 483, 2, 484, 207, 208, 25, 327, 187, 17, 45, 129, 130, 131, 132, 133, 188, 189, 190, 215, 216, 217, 213, 214, 350, 351, 352, 353, 44, 393, 394, 395, 396, 251, 252, 141, 142, 354, 355, 356, 16, 357, 226, 49, 50, 51, 52, 358, 359, 360, 361, 326, 209, 362, 363, 364, 365, 366, 325, 324, 367, 714, 715, 716, 717, 718, 719, 720, 721, 722, 723, 724, 725, 726, 727, 728, 729, 766, 767, 768, 769, 764, 765, 759, 760, 761, 762, 763] (by decide +kernel) (by decide +kernel)) (goodIn_sub (fun _ h => List.mem_append_left _ (List.mem_append_right _ h)) (by decide +kernel))) (goodIn_sub (fun _ h => List.mem_append_left _ (List.mem_append_left _ (List.mem_append_right _ h))) (by decide +kernel))) (goodIn_sub (fun _ h => List.mem_append_right _ h) (by decide +kernel))
set_option maxRecDepth 20000 in
theorem gL_law_L_give : GoodIn wsL_law (va_wsS RL 144 yL_give wsL_give) := goodIn_app (goodIn_of _ (by decide +kernel)) ggL_law_L_give
set_option maxRecDepth 20000 in
theorem ggL_law_X8_give : GoodIn wsL_law wsX8_give := goodIn_r _ [488, 117, 108, 115, 109, 156, 157, 5, 158, 159, 160, 161, 195, 196, 197, 401, 402, 403, 404, 155, 258, 170, 171, 172, 165, 166, 167, 168, 169, 372, 373, 374, 375, 106, 107, 376, 377, 378, 379, 342, 380, 381, 382, 383, 341, 231, 384, 340, 385, 730, 731, 732, 733, 734, 735, 736, 737, 738, 739, 740, 741, 742, 743, 744, 745, 746, 747, 748, 749, 750, 751, 752, 753, 754, 755, 756, 757, 758] (by decide +kernel) (by decide +kernel)
set_option maxRecDepth 20000 in
theorem gL_law_X8_give : GoodIn wsL_law (wsV RL 146 RX8 yX8_give wsX8_give) := goodIn_app (goodIn_of _ (by decide +kernel)) ggL_law_X8_give
set_option maxRecDepth 20000 in
theorem ggL_law_L_take : GoodIn wsL_law wsL_take := goodIn_ca (goodIn_ca (goodIn_r _ [491, 124, 202, 492, 493, 494, 2, 495, 207, 208, 25, 327, 187, 129, 130, 131, 132, 133, 188, 189, 190, 350, 351, 352, 353, 44, 393, 394, 395, 396, 251, 252, 141, 142, 358, 359, 360, 361, 326, 45, 17, 209, 362, 363, 364, 365, 366, 325, 324, 367, 714, 715, 716, 717, 718, 719, 720, 721, 722, 723, 724, 725, 726, 727, 728, 729, 766, 767, 768, 769, 764, 765, 759, 760, 761, 762, 763] (by decide +kernel) (by decide +kernel)) (goodIn_sub (fun _ h => List.mem_append_left _ (List.mem_append_right _ h)) (by decide +kernel))) (goodIn_sub (fun _ h => List.mem_append_left _ (List.mem_append_left _ (List.mem_append_right _ h))) (by decide +kernel))
set_option maxRecDepth 20000 in
theorem gL_law_L_take : GoodIn wsL_law (va_wsS RL 147 yL_take wsL_take) := goodIn_app (goodIn_of _ (by decide +kernel)) ggL_law_L_take
set_option maxRecDepth 20000 in
theorem ggL_law_X8_take : GoodIn wsL_law wsX8_take := goodIn_r _ [499, 117, 156, 157, 5, 158, 159, 160, 161, 195, 196, 197, 401, 402, 403, 404, 155, 258, 170, 171, 172, 165, 166, 167, 168, 169, 376, 377, 378, 379, 115, 342, 380, 381, 382, 383, 341, 231, 384, 340, 385, 730, 731, 732, 733, 734, 735, 736, 737, 738, 739, 740, 741, 742, 743, 744, 745, 746, 747, 748, 749, 750, 751, 752, 753, 754, 755, 756, 757, 758] (by decide +kernel) (by decide +kernel)
set_option maxRecDepth 20000 in
theorem gL_law_X8_take : GoodIn wsL_law (wsV RL 149 RX8 yX8_take wsX8_take) := goodIn_app (goodIn_of _ (by decide +kernel)) ggL_law_X8_take
set_option maxRecDepth 20000 in
theorem ggL_law_L_greet : GoodIn wsL_law wsL_greet := goodIn_ca (goodIn_ca (goodIn_ca (goodIn_r _ [502, 124, 201, 202, 503, 504, 505, 2, 506, 17, 45, 129, 130, 131, 132, 133, 215, 216, 217, 213, 214, 350, 351, 352, 353, 207, 208, 44, 393, 394, 395, 396, 25, 251, 252, 141, 142, 354, 355, 356, 16, 357, 226, 49, 50, 51, 52, 358, 359, 360, 361, 326, 209, 362, 363, 364, 365, 366, 325, 324, 367, 714, 715, 716, 717, 718, 719, 720, 721, 722, 723, 724, 725, 726, 727, 728, 729, 766, 767, 768, 769, 759, 760, 761, 762, 763] (by decide +kernel) (by decide +kernel)) (goodIn_sub (fun _ h => List.mem_append_left _ (List.mem_append_left _ (List.mem_append_right _ h))) (by decide +kernel))) (goodIn_sub (fun _ h => List.mem_append_right _ h) (by decide +kernel))) (goodIn_sub (fun _ h => List.mem_append_left _ (List.mem_append_right _ h)) (by decide +kernel))
set_option maxRecDepth 20000 in
theorem gL_law_L_greet : GoodIn wsL_law (va_wsS RL 150 yL_greet wsL_greet) := goodIn_app (goodIn_of _ (by decide +kernel)) ggL_law_L_greet
set_option maxRecDepth 20000 in
theorem ggL_law_X8_greet : GoodIn wsL_law wsX8_greet := goodIn_r _ [510, 108, 115, 156, 157, 5, 158, 159, 160, 161, 401, 402, 403, 404, 155, 258, 170, 171, 172, 165, 166, 167, 168, 169, 372, 373, 374, 375, 106, 107, 376, 377, 378, 379, 342, 380, 381, 382, 383, 341, 231, 384, 340, 385, 730, 731, 732, 733, 734, 735, 736, 737, 738, 739, 740, 741, 742, 743, 744, 745, 746, 747, 748, 749, 750, 751, 752, 753, 754, 755, 756, 757, 758] (by decide +kernel) (by decide +kernel)
set_option maxRecDepth 20000 in
theorem gL_law_X8_greet : GoodIn wsL_law (wsV RL 152 RX8 yX8_greet wsX8_greet) := goodIn_app (goodIn_of _ (by decide +kernel)) ggL_law_X8_greet
set_option maxRecDepth 20000 in
theorem ggL_law_L_play : GoodIn wsL_law wsL_play := goodIn_ca (goodIn_ca (goodIn_r _ [513, 124, 202, 514, 515, 516, 2, 517, 132, 133, 207, 208, 41, 295, 518, 25, 327, 187, 519, 520, 521, 324, 325, 522, 523, 423, 524, 129, 130, 131, 350, 351, 352, 353, 44, 393, 394, 395, 396, 251, 252, 141, 142, 525, 526, 527, 40, 528, 96, 98, 529, 363, 364, 365, 366, 367, 714, 715, 716, 717, 718, 719, 720, 721, 722, 723, 724, 725, 726, 727, 728, 729, 779, 780, 781, 782, 783, 766, 767, 768, 769, 764, 765] (by decide +kernel) (by decide +kernel)) (goodIn_sub (fun _ h => List.mem_append_left _ (List.mem_append_left _ (List.mem_append_right _ h))) (by decide +kernel))) (goodIn_sub (fun _ h => List.mem_append_left _ (List.mem_append_right _ h)) (by decide +kernel))
set_option maxRecDepth 20000 in
theorem gL_law_L_play : GoodIn wsL_law (va_wsS RL 153 yL_play wsL_play) := goodIn_app (goodIn_of _ (by decide +kernel)) ggL_law_L_play
set_option maxRecDepth 20000 in
theorem ggL_law_X8_play : GoodIn wsL_law wsX8_play := goodIn_r _ [533, 305, 112, 117, 113, 111, 534, 110, 340, 341, 159, 160, 5, 161, 156, 157, 158, 401, 402, 403, 404, 155, 258, 170, 171, 172, 165, 166, 167, 168, 169, 380, 381, 382, 383, 115, 231, 384, 385, 730, 731, 732, 733, 734, 735, 736, 737, 738, 739, 740, 741, 742, 743, 744, 745, 746, 747, 748, 749, 750, 751, 752, 753, 754, 755, 756, 757, 758] (by decide +kernel) (by decide +kernel)
set_option maxRecDepth 20000 in
theorem gL_law_X8_play : GoodIn wsL_law (wsV RL 155 RX8 yX8_play wsX8_play) := goodIn_app (goodIn_of _ (by decide +kernel)) ggL_law_X8_play
set_option maxRecDepth 20000 in
theorem ggL_law_X7_state : GoodIn wsL_law wsX7_state := goodIn_r _ [538, 44, 714, 715, 716, 717, 718, 719, 720, 721, 722, 723, 724, 725, 726, 727, 728, 729] (by decide +kernel) (by decide +kernel)
set_option maxRecDepth 20000 in
theorem gL_law_X7_state : GoodIn wsL_law (wsV RL 156 RX7 yX7_state wsX7_state) := goodIn_app (goodIn_of _ (by decide +kernel)) ggL_law_X7_state
set_option maxRecDepth 20000 in
theorem ggL_law_X8_state : GoodIn wsL_law wsX8_state := goodIn_r _ [542, 169, 155, 730, 731, 732, 733, 734, 735, 736, 737, 738, 739, 740, 741, 742, 743, 744, 745, 746, 747, 748, 749, 750, 751, 752, 753, 754, 755, 756, 757, 758] (by decide +kernel) (by decide +kernel)
set_option maxRecDepth 20000 in
theorem gL_law_X8_state : GoodIn wsL_law (wsV RL 159 RX8 yX8_state wsX8_state) := goodIn_app (goodIn_of _ (by decide +kernel)) ggL_law_X8_state
set_option maxRecDepth 20000 in
theorem ggL_law_X7_next : GoodIn wsL_law wsX7_next := goodIn_r _ [546, 45, 714, 715, 716, 717, 718, 719, 720, 721, 722, 723, 724, 725, 726, 727, 728, 729] (by decide +kernel) (by decide +kernel)
set_option maxRecDepth 20000 in
theorem gL_law_X7_next : GoodIn wsL_law (wsV RL 160 RX7 yX7_next wsX7_next) := goodIn_app (goodIn_of _ (by decide +kernel)) ggL_law_X7_next
set_option maxRecDepth 20000 in
theorem ggL_law_X8_next : GoodIn wsL_law wsX8_next := goodIn_r _ [550, 169, 115, 730, 731, 732, 733, 734, 735, 736, 737, 738, 739, 740, 741, 742, 743, 744, 745, 746, 747, 748, 749, 750, 751, 752, 753, 754, 755, 756, 757, 758] (by decide +kernel) (by decide +kernel)
set_option maxRecDepth 20000 in
theorem gL_law_X8_next : GoodIn wsL_law (wsV RL 163 RX8 yX8_next wsX8_next) := goodIn_app (goodIn_of _ (by decide +kernel)) ggL_law_X8_next
set_option maxRecDepth 20000 in
theorem ggL_law_X7_can : GoodIn wsL_law wsX7_can := goodIn_r _ [554, 44, 29, 45, 416, 417, 418, 28, 419, 74, 76, 420, 421, 422, 423, 424, 75, 425, 426, 329, 330, 20, 331, 57, 332, 333, 334, 335, 58, 427, 428, 429, 430, 431, 432, 433, 434, 141, 2, 142, 435, 436, 437, 438, 439, 440, 441, 138, 139, 140, 442, 443, 444, 445, 446, 447, 448, 449, 16, 450, 451, 226, 49, 52, 51, 452, 144, 145, 146, 453, 454, 455, 456, 457, 714, 715, 716, 717, 718, 719, 720, 721, 722, 723, 724, 725, 726, 727, 728, 729, 770, 771, 772, 766, 767, 768, 769, 759, 760, 761, 762, 763, 764, 765] (by decide +kernel) (by decide +kernel)
set_option maxRecDepth 20000 in
theorem gL_law_X7_can : GoodIn wsL_law (wsV RL 164 RX7 yX7_can wsX7_can) := goodIn_app (goodIn_of _ (by decide +kernel)) ggL_law_X7_can
set_option maxRecDepth 20000 in
theorem ggL_law_X8_can : GoodIn wsL_law wsX8_can := goodIn_r _ [558, 169, 155, 115, 462, 463, 464, 5, 465, 118, 116, 119, 117, 231, 106, 257, 107, 108, 170, 171, 172, 466, 467, 468, 469, 109, 271, 470, 471, 472, 473, 474, 475, 476, 477, 730, 731, 732, 733, 734, 735, 736, 737, 738, 739, 740, 741, 742, 743, 744, 745, 746, 747, 748, 749, 750, 751, 752, 753, 754, 755, 756, 757, 758] (by decide +kernel) (by decide +kernel)
set_option maxRecDepth 20000 in
theorem gL_law_X8_can : GoodIn wsL_law (wsV RL 168 RX8 yX8_can wsX8_can) := goodIn_app (goodIn_of _ (by decide +kernel)) ggL_law_X8_can
set_option maxRecDepth 20000 in
theorem ggL_law_X7_way : GoodIn wsL_law wsX7_way := goodIn_r _ [562, 33, 45, 563, 552, 553, 2, 554, 44, 29, 416, 417, 418, 28, 419, 74, 76, 420, 421, 422, 423, 424, 75, 425, 426, 329, 330, 20, 331, 57, 332, 333, 334, 335, 58, 427, 428, 429, 430, 431, 432, 433, 434, 141, 142, 435, 436, 437, 438, 439, 440, 441, 138, 139, 140, 442, 443, 444, 445, 446, 447, 448, 449, 16, 450, 451, 226, 49, 52, 51, 452, 144, 145, 146, 453, 454, 455, 456, 457, 564, 565, 566, 32, 567, 82, 568, 569, 570, 571, 572, 83, 573, 574, 575, 576, 577, 578, 579, 580, 581, 582, 583, 584, 585, 586, 587, 588, 714, 715, 716, 717, 718, 719, 720, 721, 722, 723, 724, 725, 726, 727, 728, 729, 770, 771, 772, 766, 767, 768, 769, 759, 760, 761, 762, 763, 764, 765, 773, 774] (by decide +kernel) (by decide +kernel)
set_option maxRecDepth 20000 in
theorem gL_law_X7_way : GoodIn wsL_law (wsV RL 169 RX7 yX7_way wsX7_way) := goodIn_app (goodIn_of _ (by decide +kernel)) ggL_law_X7_way
set_option maxRecDepth 20000 in
theorem ggL_law_X8_way : GoodIn wsL_law wsX8_way := goodIn_r _ [592, 169, 593, 594, 595, 5, 596, 155, 115, 107, 108, 106, 109, 462, 463, 464, 465, 118, 116, 119, 117, 231, 257, 170, 171, 172, 466, 467, 468, 469, 271, 470, 471, 472, 473, 474, 475, 476, 477, 597, 598, 599, 600, 258, 601, 602, 603, 604, 605, 606, 607, 608, 730, 731, 732, 733, 734, 735, 736, 737, 738, 739, 740, 741, 742, 743, 744, 745, 746, 747, 748, 749, 750, 751, 752, 753, 754, 755, 756, 757, 758] (by decide +kernel) (by decide +kernel)
set_option maxRecDepth 20000 in
theorem gL_law_X8_way : GoodIn wsL_law (wsV RL 172 RX8 yX8_way wsX8_way) := goodIn_app (goodIn_of _ (by decide +kernel)) ggL_law_X8_way
set_option maxRecDepth 20000 in
theorem ggL_law_X7_wayAnew : GoodIn wsL_law wsX7_wayAnew := goodIn_r _ [612, 37, 45, 563, 552, 553, 2, 554, 44, 29, 416, 417, 418, 28, 419, 74, 76, 420, 421, 422, 423, 424, 75, 425, 426, 329, 330, 20, 331, 57, 332, 333, 334, 335, 58, 427, 428, 429, 430, 431, 432, 433, 434, 141, 142, 435, 436, 437, 438, 439, 440, 441, 138, 139, 140, 442, 443, 444, 445, 446, 447, 448, 449, 16, 450, 451, 226, 49, 52, 51, 452, 144, 145, 146, 453, 454, 455, 456, 457, 613, 614, 615, 36, 616, 90, 617, 88, 91, 618, 619, 620, 61, 621, 622, 623, 624, 625, 626, 627, 628, 629, 630, 631, 632, 633, 634, 635, 636, 637, 638, 639, 640, 641, 642, 643, 644, 645, 646, 89, 647, 648, 649, 650, 651, 652, 653, 654, 655, 656, 657, 658, 659, 660, 661, 714, 715, 716, 717, 718, 719, 720, 721, 722, 723, 724, 725, 726, 727, 728, 729, 770, 771, 772, 766, 767, 768, 769, 759, 760, 761, 762, 763, 764, 765, 775, 776, 777, 778] (by decide +kernel) (by decide +kernel)
set_option maxRecDepth 20000 in
theorem gL_law_X7_wayAnew : GoodIn wsL_law (wsV RL 173 RX7 yX7_wayAnew wsX7_wayAnew) := goodIn_app (goodIn_of _ (by decide +kernel)) ggL_law_X7_wayAnew
set_option maxRecDepth 20000 in
theorem ggL_law_X8_wayAnew : GoodIn wsL_law wsX8_wayAnew := goodIn_r _ [665, 169, 593, 594, 595, 5, 596, 155, 115, 107, 108, 106, 109, 462, 463, 464, 465, 118, 116, 119, 117, 231, 257, 170, 171, 172, 466, 467, 468, 469, 271, 470, 471, 472, 473, 474, 475, 476, 477, 597, 598, 599, 600, 258, 601, 602, 603, 604, 605, 606, 607, 608, 730, 731, 732, 733, 734, 735, 736, 737, 738, 739, 740, 741, 742, 743, 744, 745, 746, 747, 748, 749, 750, 751, 752, 753, 754, 755, 756, 757, 758] (by decide +kernel) (by decide +kernel)
set_option maxRecDepth 20000 in
theorem gL_law_X8_wayAnew : GoodIn wsL_law (wsV RL 176 RX8 yX8_wayAnew wsX8_wayAnew) := goodIn_app (goodIn_of _ (by decide +kernel)) ggL_law_X8_wayAnew
set_option maxRecDepth 20000 in
theorem ggL_law_L_isKnown : GoodIn wsL_law wsL_isKnown := goodIn_ca (goodIn_r _ [668, 124, 669, 670, 671, 2, 672, 129, 130, 131, 132, 133, 134, 135, 136, 673, 674, 675, 676, 44, 21, 25, 327, 137, 138, 139, 20, 140, 57, 141, 142, 714, 715, 716, 717, 718, 719, 720, 721, 722, 723, 724, 725, 726, 727, 728, 729, 766, 767, 768, 769, 764, 765] (by decide +kernel) (by decide +kernel)) (goodIn_sub (fun _ h => List.mem_append_left _ (List.mem_append_left _ (List.mem_append_right _ h))) (by decide +kernel))
set_option maxRecDepth 20000 in
theorem gL_law_L_isKnown : GoodIn wsL_law (va_wsS RL 177 yL_isKnown wsL_isKnown) := goodIn_app (goodIn_of _ (by decide +kernel)) ggL_law_L_isKnown
set_option maxRecDepth 20000 in
theorem ggL_law_X8_isKnown : GoodIn wsL_law wsX8_isKnown := goodIn_r _ [680, 116, 156, 157, 5, 158, 159, 160, 161, 162, 163, 164, 165, 166, 167, 168, 169, 170, 171, 172, 730, 731, 732, 733, 734, 735, 736, 737, 738, 739, 740, 741, 742, 743, 744, 745, 746, 747, 748, 749, 750, 751, 752, 753, 754, 755, 756, 757, 758] (by decide +kernel) (by decide +kernel)
set_option maxRecDepth 20000 in
theorem gL_law_X8_isKnown : GoodIn wsL_law (wsV RL 179 RX8 yX8_isKnown wsX8_isKnown) := goodIn_app (goodIn_of _ (by decide +kernel)) ggL_law_X8_isKnown
set_option maxRecDepth 20000 in
theorem ggL_law_L_holder : GoodIn wsL_law wsL_holder := goodIn_ca (goodIn_r _ [683, 124, 684, 685, 686, 2, 687, 187, 188, 189, 190, 132, 133, 673, 674, 675, 676, 44, 21, 25, 327, 764, 765, 714, 715, 716, 717, 718, 719, 720, 721, 722, 723, 724, 725, 726, 727, 728, 729, 766, 767, 768, 769] (by decide +kernel) (by decide +kernel)) (goodIn_sub (fun _ h => List.mem_append_left _ (List.mem_append_left _ (List.mem_append_right _ h))) (by decide +kernel))
set_option maxRecDepth 20000 in
theorem gL_law_L_holder : GoodIn wsL_law (va_wsS RL 180 yL_holder wsL_holder) := goodIn_app (goodIn_of _ (by decide +kernel)) ggL_law_L_holder
set_option maxRecDepth 20000 in
theorem ggL_law_X8_holder : GoodIn wsL_law wsX8_holder := goodIn_r _ [691, 117, 195, 196, 5, 197, 159, 160, 161, 165, 166, 167, 168, 169, 730, 731, 732, 733, 734, 735, 736, 737, 738, 739, 740, 741, 742, 743, 744, 745, 746, 747, 748, 749, 750, 751, 752, 753, 754, 755, 756, 757, 758] (by decide +kernel) (by decide +kernel)
set_option maxRecDepth 20000 in
theorem gL_law_X8_holder : GoodIn wsL_law (wsV RL 182 RX8 yX8_holder wsX8_holder) := goodIn_app (goodIn_of _ (by decide +kernel)) ggL_law_X8_holder
set_option maxRecDepth 20000 in
theorem ggL_law_L_count : GoodIn wsL_law wsL_count := goodIn_ca (goodIn_r _ [694, 201, 695, 696, 697, 2, 698, 213, 214, 325, 520, 362, 367, 25, 251, 326, 714, 715, 716, 717, 718, 719, 720, 721, 722, 723, 724, 725, 726, 727, 728, 729, 766, 767, 768, 769] (by decide +kernel) (by decide +kernel)) (goodIn_sub (fun _ h => List.mem_append_right _ h) (by decide +kernel))
set_option maxRecDepth 20000 in
theorem gL_law_L_count : GoodIn wsL_law (va_wsS RL 183 yL_count wsL_count) := goodIn_app (goodIn_of _ (by decide +kernel)) ggL_law_L_count
set_option maxRecDepth 20000 in
theorem ggL_law_X8_count : GoodIn wsL_law wsX8_count := goodIn_r _ [702, 341, 534, 384, 385, 258, 342, 159, 160, 5, 161, 165, 166, 167, 168, 169, 730, 731, 732, 733, 734, 735, 736, 737, 738, 739, 740, 741, 742, 743, 744, 745, 746, 747, 748, 749, 750, 751, 752, 753, 754, 755, 756, 757, 758] (by decide +kernel) (by decide +kernel)
set_option maxRecDepth 20000 in
theorem gL_law_X8_count : GoodIn wsL_law (wsV RL 185 RX8 yX8_count wsX8_count) := goodIn_app (goodIn_of _ (by decide +kernel)) ggL_law_X8_count
set_option maxRecDepth 20000 in
theorem ggL_law_L_share : GoodIn wsL_law wsL_share := goodIn_ca (goodIn_r _ [705, 124, 706, 707, 708, 2, 709, 43, 520, 129, 130, 131, 132, 133, 714, 715, 716, 717, 718, 719, 720, 721, 722, 723, 724, 725, 726, 727, 728, 729] (by decide +kernel) (by decide +kernel)) (goodIn_sub (fun _ h => List.mem_append_left _ (List.mem_append_left _ (List.mem_append_right _ h))) (by decide +kernel))
set_option maxRecDepth 20000 in
theorem gL_law_L_share : GoodIn wsL_law (va_wsS RL 186 yL_share wsL_share) := goodIn_app (goodIn_of _ (by decide +kernel)) ggL_law_L_share
set_option maxRecDepth 20000 in
theorem ggL_law_X8_share : GoodIn wsL_law wsX8_share := goodIn_r _ [713, 114, 534, 156, 157, 5, 158, 159, 160, 161, 165, 166, 167, 168, 169, 730, 731, 732, 733, 734, 735, 736, 737, 738, 739, 740, 741, 742, 743, 744, 745, 746, 747, 748, 749, 750, 751, 752, 753, 754, 755, 756, 757, 758] (by decide +kernel) (by decide +kernel)
set_option maxRecDepth 20000 in
theorem gL_law_X8_share : GoodIn wsL_law (wsV RL 189 RX8 yX8_share wsX8_share) := goodIn_app (goodIn_of _ (by decide +kernel)) ggL_law_X8_share
