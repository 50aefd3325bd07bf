theorem dL_setRate_0 : decode cL_setRate 0 = .ok (.aload_n 3, 1) := by decide +kernel
theorem dL_setRate_1 : decode cL_setRate 1 = .ok (.iconst 0, 1) := by decide +kernel
theorem dL_setRate_2 : decode cL_setRate 2 = .ok (.aload_n 0, 1) := by decide +kernel
theorem dL_setRate_3 : decode cL_setRate 3 = .ok (.iload_n 1, 1) := by decide +kernel
theorem dL_setRate_4 : decode cL_setRate 4 = .ok (.iload_n 2, 1) := by decide +kernel
theorem dL_setRate_5 : decode cL_setRate 5 = .ok (.invokevirtual 7, 3) := by decide +kernel
theorem dL_setRate_8 : decode cL_setRate 8 = .ok (.i2l, 1) := by decide +kernel
theorem dL_setRate_9 : decode cL_setRate 9 = .ok (.lastore, 1) := by decide +kernel
theorem dL_setRate_10 : decode cL_setRate 10 = .ok (.goto 11, 3) := by decide +kernel
theorem dL_setRate_13 : decode cL_setRate 13 = .ok (.astore 4, 2) := by decide +kernel
theorem dL_setRate_15 : decode cL_setRate 15 = .ok (.iconst 1, 1) := by decide +kernel
theorem dL_setRate_16 : decode cL_setRate 16 = .ok (.ireturn, 1) := by decide +kernel
theorem dL_setRate_17 : decode cL_setRate 17 = .ok (.astore 4, 2) := by decide +kernel
theorem dL_setRate_19 : decode cL_setRate 19 = .ok (.iconst 2, 1) := by decide +kernel
theorem dL_setRate_20 : decode cL_setRate 20 = .ok (.ireturn, 1) := by decide +kernel
theorem dL_setRate_21 : decode cL_setRate 21 = .ok (.iconst 0, 1) := by decide +kernel
theorem dL_setRate_22 : decode cL_setRate 22 = .ok (.ireturn, 1) := by decide +kernel
set_option maxRecDepth 20000 in
theorem ggL_setPoints_X5_setPoints : GoodIn wsL_setPoints wsX5_setPoints := goodIn_ca (goodIn_ca (goodIn_r _ [7, 8, 9, 10, 6, 11, 12, 13, 14, 15, 16, 17, 18, 19, 20, 21, 22, 23, 24, 25, 26, 27, 28, 29, 30] (by decide +kernel) (by decide +kernel)) (goodIn_sub (fun _ h => List.mem_cons_of_mem _ (List.mem_append_left _ (List.mem_append_right _ h))) (by decide +kernel))) (goodIn_sub (fun _ h => List.mem_cons_of_mem _ (List.mem_append_right _ h)) (by decide +kernel))
set_option maxRecDepth 20000 in
theorem gL_setPoints_X5_setPoints : GoodIn wsL_setPoints (wsV RL 17 RX5 yX5_setPoints wsX5_setPoints) := goodIn_app (goodIn_of _ (by decide +kernel)) ggL_setPoints_X5_setPoints
theorem dL_setPoints_0 : decode cL_setPoints 0 = .ok (.aload_n 3, 1) := by decide +kernel
theorem dL_setPoints_1 : decode cL_setPoints 1 = .ok (.iconst 0, 1) := by decide +kernel
theorem dL_setPoints_2 : decode cL_setPoints 2 = .ok (.aload_n 0, 1) := by decide +kernel
theorem dL_setPoints_3 : decode cL_setPoints 3 = .ok (.iload_n 1, 1) := by decide +kernel
theorem dL_setPoints_4 : decode cL_setPoints 4 = .ok (.iload_n 2, 1) := by decide +kernel
theorem dL_setPoints_5 : decode cL_setPoints 5 = .ok (.invokevirtual 17, 3) := by decide +kernel
theorem dL_setPoints_8 : decode cL_setPoints 8 = .ok (.i2l, 1) := by decide +kernel
theorem dL_setPoints_9 : decode cL_setPoints 9 = .ok (.lastore, 1) := by decide +kernel
theorem dL_setPoints_10 : decode cL_setPoints 10 = .ok (.goto 11, 3) := by decide +kernel
theorem dL_setPoints_13 : decode cL_setPoints 13 = .ok (.astore 4, 2) := by decide +kernel
theorem dL_setPoints_15 : decode cL_setPoints 15 = .ok (.iconst 1, 1) := by decide +kernel
theorem dL_setPoints_16 : decode cL_setPoints 16 = .ok (.ireturn, 1) := by decide +kernel
theorem dL_setPoints_17 : decode cL_setPoints 17 = .ok (.astore 4, 2) := by decide +kernel
theorem dL_setPoints_19 : decode cL_setPoints 19 = .ok (.iconst 2, 1) := by decide +kernel
theorem dL_setPoints_20 : decode cL_setPoints 20 = .ok (.ireturn, 1) := by decide +kernel
theorem dL_setPoints_21 : decode cL_setPoints 21 = .ok (.iconst 0, 1) := by decide +kernel
theorem dL_setPoints_22 : decode cL_setPoints 22 = .ok (.ireturn, 1) := by decide +kernel
set_option maxRecDepth 20000 in
theorem ggL_toggleHoliday_X5_toggleHoliday : GoodIn wsL_toggleHoliday wsX5_toggleHoliday := goodIn_ca (goodIn_ca (goodIn_r _ [7, 8, 9, 10, 11, 12, 6, 13, 14, 15, 16, 17, 18, 19, 20, 21, 22, 23, 24, 25, 26, 27, 28, 29, 30] (by decide +kernel) (by decide +kernel)) (goodIn_sub (fun _ h => List.mem_cons_of_mem _ (List.mem_append_left _ (List.mem_append_right _ h))) (by decide +kernel))) (goodIn_sub (fun _ h => List.mem_cons_of_mem _ (List.mem_append_right _ h)) (by decide +kernel))
set_option maxRecDepth 20000 in
theorem gL_toggleHoliday_X5_toggleHoliday : GoodIn wsL_toggleHoliday (wsV RL 20 RX5 yX5_toggleHoliday wsX5_toggleHoliday) := goodIn_app (goodIn_of _ (by decide +kernel)) ggL_toggleHoliday_X5_toggleHoliday
theorem dL_toggleHoliday_0 : decode cL_toggleHoliday 0 = .ok (.aload_n 2, 1) := by decide +kernel
theorem dL_toggleHoliday_1 : decode cL_toggleHoliday 1 = .ok (.iconst 0, 1) := by decide +kernel
theorem dL_toggleHoliday_2 : decode cL_toggleHoliday 2 = .ok (.aload_n 0, 1) := by decide +kernel
theorem dL_toggleHoliday_3 : decode cL_toggleHoliday 3 = .ok (.iload_n 1, 1) := by decide +kernel
theorem dL_toggleHoliday_4 : decode cL_toggleHoliday 4 = .ok (.invokevirtual 20, 3) := by decide +kernel
theorem dL_toggleHoliday_7 : decode cL_toggleHoliday 7 = .ok (.ifCond .eq 7, 3) := by decide +kernel
theorem dL_toggleHoliday_10 : decode cL_toggleHoliday 10 = .ok (.lconst 1, 1) := by decide +kernel
theorem dL_toggleHoliday_11 : decode cL_toggleHoliday 11 = .ok (.goto 4, 3) := by decide +kernel
theorem dL_toggleHoliday_14 : decode cL_toggleHoliday 14 = .ok (.lconst 0, 1) := by decide +kernel
theorem dL_toggleHoliday_15 : decode cL_toggleHoliday 15 = .ok (.lastore, 1) := by decide +kernel
theorem dL_toggleHoliday_16 : decode cL_toggleHoliday 16 = .ok (.goto 9, 3) := by decide +kernel
theorem dL_toggleHoliday_19 : decode cL_toggleHoliday 19 = .ok (.astore_n 3, 1) := by decide +kernel
theorem dL_toggleHoliday_20 : decode cL_toggleHoliday 20 = .ok (.iconst 1, 1) := by decide +kernel
theorem dL_toggleHoliday_21 : decode cL_toggleHoliday 21 = .ok (.ireturn, 1) := by decide +kernel
theorem dL_toggleHoliday_22 : decode cL_toggleHoliday 22 = .ok (.astore_n 3, 1) := by decide +kernel
theorem dL_toggleHoliday_23 : decode cL_toggleHoliday 23 = .ok (.iconst 2, 1) := by decide +kernel
theorem dL_toggleHoliday_24 : decode cL_toggleHoliday 24 = .ok (.ireturn, 1) := by decide +kernel
theorem dL_toggleHoliday_25 : decode cL_toggleHoliday 25 = .ok (.iconst 0, 1) := by decide +kernel
theorem dL_toggleHoliday_26 : decode cL_toggleHoliday 26 = .ok (.ireturn, 1) := by decide +kernel
set_option maxRecDepth 20000 in
theorem ggL_setLimit_X5_setLimit : GoodIn wsL_setLimit wsX5_setLimit := goodIn_ca (goodIn_ca (goodIn_r _ [7, 8, 9, 10, 11, 6, 12, 13, 14, 15, 16, 17, 18, 19, 20, 21, 22, 23, 24, 25, 26, 27, 28, 29, 30, 31] (by decide +kernel) (by decide +kernel)) (goodIn_sub (fun _ h => List.mem_cons_of_mem _ (List.mem_append_left _ (List.mem_append_right _ h))) (by decide +kernel))) (goodIn_sub (fun _ h => List.mem_cons_of_mem _ (List.mem_append_right _ h)) (by decide +kernel))
set_option maxRecDepth 20000 in
theorem gL_setLimit_X5_setLimit : GoodIn wsL_setLimit (wsV RL 26 RX5 yX5_setLimit wsX5_setLimit) := goodIn_app (goodIn_of _ (by decide +kernel)) ggL_setLimit_X5_setLimit
theorem dL_setLimit_0 : decode cL_setLimit 0 = .ok (.aload_n 3, 1) := by decide +kernel
theorem dL_setLimit_1 : decode cL_setLimit 1 = .ok (.iconst 0, 1) := by decide +kernel
theorem dL_setLimit_2 : decode cL_setLimit 2 = .ok (.aload_n 0, 1) := by decide +kernel
theorem dL_setLimit_3 : decode cL_setLimit 3 = .ok (.iload_n 1, 1) := by decide +kernel
theorem dL_setLimit_4 : decode cL_setLimit 4 = .ok (.iload_n 2, 1) := by decide +kernel
theorem dL_setLimit_5 : decode cL_setLimit 5 = .ok (.invokevirtual 26, 3) := by decide +kernel
theorem dL_setLimit_8 : decode cL_setLimit 8 = .ok (.i2l, 1) := by decide +kernel
theorem dL_setLimit_9 : decode cL_setLimit 9 = .ok (.lastore, 1) := by decide +kernel
theorem dL_setLimit_10 : decode cL_setLimit 10 = .ok (.goto 11, 3) := by decide +kernel
theorem dL_setLimit_13 : decode cL_setLimit 13 = .ok (.astore 4, 2) := by decide +kernel
theorem dL_setLimit_15 : decode cL_setLimit 15 = .ok (.iconst 1, 1) := by decide +kernel
theorem dL_setLimit_16 : decode cL_setLimit 16 = .ok (.ireturn, 1) := by decide +kernel
theorem dL_setLimit_17 : decode cL_setLimit 17 = .ok (.astore 4, 2) := by decide +kernel
theorem dL_setLimit_19 : decode cL_setLimit 19 = .ok (.iconst 2, 1) := by decide +kernel
theorem dL_setLimit_20 : decode cL_setLimit 20 = .ok (.ireturn, 1) := by decide +kernel
theorem dL_setLimit_21 : decode cL_setLimit 21 = .ok (.iconst 0, 1) := by decide +kernel
theorem dL_setLimit_22 : decode cL_setLimit 22 = .ok (.ireturn, 1) := by decide +kernel
set_option maxRecDepth 20000 in
theorem ggL_forward_X5_forward : GoodIn wsL_forward wsX5_forward := goodIn_ca (goodIn_ca (goodIn_r _ [7, 8, 9, 10, 6, 11, 12, 13, 14, 15, 16, 17, 18, 19, 20, 21, 22, 23, 24, 25, 26, 27, 28, 29, 30, 31, 32, 33, 34, 35, 36, 37, 38, 39, 40, 41, 42, 43, 44, 45] (by decide +kernel) (by decide +kernel)) (goodIn_sub (fun _ h => List.mem_cons_of_mem _ (List.mem_append_left _ (List.mem_append_right _ h))) (by decide +kernel))) (goodIn_sub (fun _ h => List.mem_cons_of_mem _ (List.mem_append_right _ h)) (by decide +kernel))
set_option maxRecDepth 20000 in
theorem gL_forward_X5_forward : GoodIn wsL_forward (wsV RL 29 RX5 yX5_forward wsX5_forward) := goodIn_app (goodIn_of _ (by decide +kernel)) ggL_forward_X5_forward
theorem dL_forward_0 : decode cL_forward 0 = .ok (.aload_n 3, 1) := by decide +kernel
theorem dL_forward_1 : decode cL_forward 1 = .ok (.iconst 0, 1) := by decide +kernel
theorem dL_forward_2 : decode cL_forward 2 = .ok (.aload_n 0, 1) := by decide +kernel
theorem dL_forward_3 : decode cL_forward 3 = .ok (.iload_n 1, 1) := by decide +kernel
theorem dL_forward_4 : decode cL_forward 4 = .ok (.iload_n 2, 1) := by decide +kernel
theorem dL_forward_5 : decode cL_forward 5 = .ok (.invokevirtual 29, 3) := by decide +kernel
theorem dL_forward_8 : decode cL_forward 8 = .ok (.i2l, 1) := by decide +kernel
theorem dL_forward_9 : decode cL_forward 9 = .ok (.lastore, 1) := by decide +kernel
theorem dL_forward_10 : decode cL_forward 10 = .ok (.goto 11, 3) := by decide +kernel
theorem dL_forward_13 : decode cL_forward 13 = .ok (.astore 4, 2) := by decide +kernel
theorem dL_forward_15 : decode cL_forward 15 = .ok (.iconst 1, 1) := by decide +kernel
theorem dL_forward_16 : decode cL_forward 16 = .ok (.ireturn, 1) := by decide +kernel
theorem dL_forward_17 : decode cL_forward 17 = .ok (.astore 4, 2) := by decide +kernel
theorem dL_forward_19 : decode cL_forward 19 = .ok (.iconst 2, 1) := by decide +kernel
theorem dL_forward_20 : decode cL_forward 20 = .ok (.ireturn, 1) := by decide +kernel
theorem dL_forward_21 : decode cL_forward 21 = .ok (.iconst 0, 1) := by decide +kernel
theorem dL_forward_22 : decode cL_forward 22 = .ok (.ireturn, 1) := by decide +kernel
set_option maxRecDepth 20000 in
theorem ggL_deal_X5_deal : GoodIn wsL_deal wsX5_deal := goodIn_ca (goodIn_ca (goodIn_ca (goodIn_r _ [8, 9, 10, 11, 12, 13, 14, 15, 16, 17, 18, 19, 20, 7, 21, 22, 23, 24, 25, 26, 27, 28, 29, 30, 31, 32, 33, 34, 35, 36, 37, 38, 39, 40, 41, 42, 43, 44, 45, 46, 47, 48, 49, 50, 51, 52, 53, 54, 55, 56, 57, 58, 59, 60, 61, 62, 63, 64, 65, 66, 67, 68, 69, 70, 71, 72, 73, 74, 75, 76, 77, 78, 79, 80, 81, 82, 83, 84, 85, 86, 87, 88, 89, 90, 91, 92, 93, 94, 95, 96, 97, 98, 99, 100, 101, 102, 103, 104, 105, 106, 107, 108, 109, 110, 111, 112, 113, 114, 115, 116] (by decide +kernel) (by decide +kernel)) (goodIn_sub (fun _ h => List.mem_cons_of_mem _ (List.mem_append_left _ (List.mem_append_left _ (List.mem_append_right _ h)))) (by decide +kernel))) (goodIn_sub (fun _ h => List.mem_cons_of_mem _ (List.mem_append_left _ (List.mem_append_right _ h))) (by decide +kernel))) (goodIn_sub (fun _ h => List.mem_cons_of_mem _ (List.mem_append_right _ h)) (by decide +kernel))
set_option maxRecDepth 20000 in
theorem gL_deal_X5_deal : GoodIn wsL_deal (wsV RL 32 RX5 yX5_deal wsX5_deal) := goodIn_app (goodIn_of _ (by decide +kernel)) ggL_deal_X5_deal
theorem dL_deal_0 : decode cL_deal 0 = .ok (.aload 7, 2) := by decide +kernel
theorem dL_deal_2 : decode cL_deal 2 = .ok (.iconst 0, 1) := by decide +kernel
theorem dL_deal_3 : decode cL_deal 3 = .ok (.aload_n 0, 1) := by decide +kernel
theorem dL_deal_4 : decode cL_deal 4 = .ok (.iload_n 1, 1) := by decide +kernel
theorem dL_deal_5 : decode cL_deal 5 = .ok (.iload_n 2, 1) := by decide +kernel
theorem dL_deal_6 : decode cL_deal 6 = .ok (.iload_n 3, 1) := by decide +kernel
theorem dL_deal_7 : decode cL_deal 7 = .ok (.iload 4, 2) := by decide +kernel
theorem dL_deal_9 : decode cL_deal 9 = .ok (.iload 5, 2) := by decide +kernel
theorem dL_deal_11 : decode cL_deal 11 = .ok (.iload 6, 2) := by decide +kernel
theorem dL_deal_13 : decode cL_deal 13 = .ok (.invokevirtual 32, 3) := by decide +kernel
theorem dL_deal_16 : decode cL_deal 16 = .ok (.i2l, 1) := by decide +kernel
theorem dL_deal_17 : decode cL_deal 17 = .ok (.lastore, 1) := by decide +kernel
theorem dL_deal_18 : decode cL_deal 18 = .ok (.goto 15, 3) := by decide +kernel
theorem dL_deal_21 : decode cL_deal 21 = .ok (.astore 8, 2) := by decide +kernel
theorem dL_deal_23 : decode cL_deal 23 = .ok (.iconst 1, 1) := by decide +kernel
theorem dL_deal_24 : decode cL_deal 24 = .ok (.ireturn, 1) := by decide +kernel
theorem dL_deal_25 : decode cL_deal 25 = .ok (.astore 8, 2) := by decide +kernel
theorem dL_deal_27 : decode cL_deal 27 = .ok (.iconst 2, 1) := by decide +kernel
theorem dL_deal_28 : decode cL_deal 28 = .ok (.ireturn, 1) := by decide +kernel
theorem dL_deal_29 : decode cL_deal 29 = .ok (.astore 8, 2) := by decide +kernel
theorem dL_deal_31 : decode cL_deal 31 = .ok (.iconst 3, 1) := by decide +kernel
theorem dL_deal_32 : decode cL_deal 32 = .ok (.ireturn, 1) := by decide +kernel
theorem dL_deal_33 : decode cL_deal 33 = .ok (.iconst 0, 1) := by decide +kernel
theorem dL_deal_34 : decode cL_deal 34 = .ok (.ireturn, 1) := by decide +kernel
set_option maxRecDepth 20000 in
theorem ggL_draw_X5_draw : GoodIn wsL_draw wsX5_draw := goodIn_ca (goodIn_ca (goodIn_r _ [7, 8, 9, 10, 11, 6, 12, 13, 14, 15, 16, 17, 18, 19, 20, 21, 22, 23, 24, 25, 26, 27, 28, 29, 30, 31, 32, 33, 34, 35, 36, 37, 38, 39, 40, 41, 42, 43, 44, 45, 46, 47, 48, 49, 50, 51, 52, 53, 54, 55, 56, 57, 58, 59, 60, 61, 62, 63, 64, 65, 66, 67, 68, 69, 70, 71, 72, 73, 74, 75, 76, 77, 78, 79, 80, 81, 82, 83, 84, 85, 86, 87, 88, 89, 90, 91, 92, 93, 94, 95, 96, 97] (by decide +kernel) (by decide +kernel)) (goodIn_sub (fun _ h => List.mem_cons_of_mem _ (List.mem_append_left _ (List.mem_append_right _ h))) (by decide +kernel))) (goodIn_sub (fun _ h => List.mem_cons_of_mem _ (List.mem_append_right _ h)) (by decide +kernel))
set_option maxRecDepth 20000 in
theorem gL_draw_X5_draw : GoodIn wsL_draw (wsV RL 36 RX5 yX5_draw wsX5_draw) := goodIn_app (goodIn_of _ (by decide +kernel)) ggL_draw_X5_draw
theorem dL_draw_0 : decode cL_draw 0 = .ok (.aload_n 3, 1) := by decide +kernel
theorem dL_draw_1 : decode cL_draw 1 = .ok (.iconst 0, 1) := by decide +kernel
theorem dL_draw_2 : decode cL_draw 2 = .ok (.aload_n 0, 1) := by decide +kernel
theorem dL_draw_3 : decode cL_draw 3 = .ok (.iload_n 1, 1) := by decide +kernel
theorem dL_draw_4 : decode cL_draw 4 = .ok (.iload_n 2, 1) := by decide +kernel
theorem dL_draw_5 : decode cL_draw 5 = .ok (.invokevirtual 36, 3) := by decide +kernel
theorem dL_draw_8 : decode cL_draw 8 = .ok (.i2l, 1) := by decide +kernel
theorem dL_draw_9 : decode cL_draw 9 = .ok (.lastore, 1) := by decide +kernel
theorem dL_draw_10 : decode cL_draw 10 = .ok (.goto 11, 3) := by decide +kernel
theorem dL_draw_13 : decode cL_draw 13 = .ok (.astore 4, 2) := by decide +kernel
theorem dL_draw_15 : decode cL_draw 15 = .ok (.iconst 1, 1) := by decide +kernel
theorem dL_draw_16 : decode cL_draw 16 = .ok (.ireturn, 1) := by decide +kernel
theorem dL_draw_17 : decode cL_draw 17 = .ok (.astore 4, 2) := by decide +kernel
theorem dL_draw_19 : decode cL_draw 19 = .ok (.iconst 2, 1) := by decide +kernel
theorem dL_draw_20 : decode cL_draw 20 = .ok (.ireturn, 1) := by decide +kernel
theorem dL_draw_21 : decode cL_draw 21 = .ok (.iconst 0, 1) := by decide +kernel
theorem dL_draw_22 : decode cL_draw 22 = .ok (.ireturn, 1) := by decide +kernel
set_option maxRecDepth 20000 in
theorem ggL_roll_X5_roll : GoodIn wsL_roll wsX5_roll := goodIn_ca (goodIn_ca (goodIn_ca (goodIn_r _ [8, 9, 10, 11, 12, 13, 14, 7, 15, 16, 17, 18, 19, 20, 21, 22, 23, 24, 25, 26, 27, 28, 29, 30, 31, 32, 33, 34, 35, 36, 37, 38, 39, 40, 41, 42, 43, 44, 45, 46, 47, 48, 49, 50, 51, 52, 53, 54, 55, 56, 57, 58, 59, 60, 61, 62, 63, 64, 65, 66, 67, 68, 69, 70, 71, 72, 73, 74, 75, 76, 77, 78, 79, 80, 81, 82, 83, 84, 85, 86, 87, 88, 89, 90, 91, 92, 93, 94, 95, 96, 97, 98, 99, 100, 101, 102, 103, 104, 105, 106, 107, 108, 109, 110, 111, 112, 113, 114, 115, 116, 117, 118, 119, 120, 121, 122, 123, 124, 125, 126, 127, 128] (by decide +kernel) (by decide +kernel)) (goodIn_sub (fun _ h => List.mem_cons_of_mem _ (List.mem_append_left _ (List.mem_append_left _ (List.mem_append_right _ h)))) (by decide +kernel))) (goodIn_sub (fun _ h => List.mem_cons_of_mem _ (List.mem_append_left _ (List.mem_append_right _ h))) (by decide +kernel))) (goodIn_sub (fun _ h => List.mem_cons_of_mem _ (List.mem_append_right _ h)) (by decide +kernel))
set_option maxRecDepth 20000 in
theorem gL_roll_X5_roll : GoodIn wsL_roll (wsV RL 39 RX5 yX5_roll wsX5_roll) := goodIn_app (goodIn_of _ (by decide +kernel)) ggL_roll_X5_roll
theorem dL_roll_0 : decode cL_roll 0 = .ok (.aload 4, 2) := by decide +kernel
theorem dL_roll_2 : decode cL_roll 2 = .ok (.iconst 0, 1) := by decide +kernel
theorem dL_roll_3 : decode cL_roll 3 = .ok (.aload_n 0, 1) := by decide +kernel
theorem dL_roll_4 : decode cL_roll 4 = .ok (.iload_n 1, 1) := by decide +kernel
theorem dL_roll_5 : decode cL_roll 5 = .ok (.iload_n 2, 1) := by decide +kernel
theorem dL_roll_6 : decode cL_roll 6 = .ok (.iload_n 3, 1) := by decide +kernel
theorem dL_roll_7 : decode cL_roll 7 = .ok (.invokevirtual 39, 3) := by decide +kernel
theorem dL_roll_10 : decode cL_roll 10 = .ok (.i2l, 1) := by decide +kernel
theorem dL_roll_11 : decode cL_roll 11 = .ok (.lastore, 1) := by decide +kernel
theorem dL_roll_12 : decode cL_roll 12 = .ok (.goto 15, 3) := by decide +kernel
theorem dL_roll_15 : decode cL_roll 15 = .ok (.astore 5, 2) := by decide +kernel
theorem dL_roll_17 : decode cL_roll 17 = .ok (.iconst 1, 1) := by decide +kernel
theorem dL_roll_18 : decode cL_roll 18 = .ok (.ireturn, 1) := by decide +kernel
theorem dL_roll_19 : decode cL_roll 19 = .ok (.astore 5, 2) := by decide +kernel
theorem dL_roll_21 : decode cL_roll 21 = .ok (.iconst 2, 1) := by decide +kernel
theorem dL_roll_22 : decode cL_roll 22 = .ok (.ireturn, 1) := by decide +kernel
theorem dL_roll_23 : decode cL_roll 23 = .ok (.astore 5, 2) := by decide +kernel
theorem dL_roll_25 : decode cL_roll 25 = .ok (.iconst 3, 1) := by decide +kernel
theorem dL_roll_26 : decode cL_roll 26 = .ok (.ireturn, 1) := by decide +kernel
theorem dL_roll_27 : decode cL_roll 27 = .ok (.iconst 0, 1) := by decide +kernel
theorem dL_roll_28 : decode cL_roll 28 = .ok (.ireturn, 1) := by decide +kernel
set_option maxRecDepth 20000 in
theorem ggL_closeOut_X5_closeOut : GoodIn wsL_closeOut wsX5_closeOut := goodIn_ca (goodIn_ca (goodIn_r _ [7, 8, 9, 10, 6, 11, 12, 13, 14, 15, 16, 17, 18, 19, 20, 21, 22, 23, 24, 25, 26, 27, 28, 29, 30, 31, 32, 33, 34, 35, 36, 37, 38, 39, 40, 41, 42, 43, 44, 45, 46, 47, 48, 49, 50, 51, 52, 53, 54, 55, 56, 57, 58, 59, 60, 61, 62, 63, 64, 65, 66, 67, 68, 69, 70, 71, 72, 73, 74, 75, 76, 77, 78, 79, 80, 81, 82, 83, 84, 85, 86, 87, 88, 89, 90, 91, 92, 93, 94, 95, 96, 97, 98, 99, 100, 101, 102, 103, 104, 105, 106, 107, 108, 109, 110, 111, 112, 113, 114, 115] (by decide +kernel) (by decide +kernel)) (goodIn_sub (fun _ h => List.mem_cons_of_mem _ (List.mem_append_left _ (List.mem_append_right _ h))) (by decide +kernel))) (goodIn_sub (fun _ h => List.mem_cons_of_mem _ (List.mem_append_right _ h)) (by decide +kernel))
set_option maxRecDepth 20000 in
theorem gL_closeOut_X5_closeOut : GoodIn wsL_closeOut (wsV RL 43 RX5 yX5_closeOut wsX5_closeOut) := goodIn_app (goodIn_of _ (by decide +kernel)) ggL_closeOut_X5_closeOut
theorem dL_closeOut_0 : decode cL_closeOut 0 = .ok (.aload_n 2, 1) := by decide +kernel
theorem dL_closeOut_1 : decode cL_closeOut 1 = .ok (.iconst 0, 1) := by decide +kernel
theorem dL_closeOut_2 : decode cL_closeOut 2 = .ok (.aload_n 0, 1) := by decide +kernel
theorem dL_closeOut_3 : decode cL_closeOut 3 = .ok (.iload_n 1, 1) := by decide +kernel
theorem dL_closeOut_4 : decode cL_closeOut 4 = .ok (.invokevirtual 43, 3) := by decide +kernel
theorem dL_closeOut_7 : decode cL_closeOut 7 = .ok (.lastore, 1) := by decide +kernel
theorem dL_closeOut_8 : decode cL_closeOut 8 = .ok (.goto 9, 3) := by decide +kernel
theorem dL_closeOut_11 : decode cL_closeOut 11 = .ok (.astore_n 3, 1) := by decide +kernel
theorem dL_closeOut_12 : decode cL_closeOut 12 = .ok (.iconst 1, 1) := by decide +kernel
theorem dL_closeOut_13 : decode cL_closeOut 13 = .ok (.ireturn, 1) := by decide +kernel
theorem dL_closeOut_14 : decode cL_closeOut 14 = .ok (.astore_n 3, 1) := by decide +kernel
theorem dL_closeOut_15 : decode cL_closeOut 15 = .ok (.iconst 2, 1) := by decide +kernel
theorem dL_closeOut_16 : decode cL_closeOut 16 = .ok (.ireturn, 1) := by decide +kernel
theorem dL_closeOut_17 : decode cL_closeOut 17 = .ok (.iconst 0, 1) := by decide +kernel
theorem dL_closeOut_18 : decode cL_closeOut 18 = .ok (.ireturn, 1) := by decide +kernel
set_option maxRecDepth 20000 in
theorem ggL_left_X5_left : GoodIn wsL_left wsX5_left := goodIn_ca (goodIn_r _ [6, 7, 8, 9, 5, 10, 11, 12, 13, 14, 15, 16, 17, 18, 19, 20, 21, 22, 23, 24, 25, 26, 27, 28] (by decide +kernel) (by decide +kernel)) (goodIn_sub (fun _ h => List.mem_cons_of_mem _ (List.mem_append_right _ h)) (by decide +kernel))
set_option maxRecDepth 20000 in
theorem gL_left_X5_left : GoodIn wsL_left (wsV RL 47 RX5 yX5_left wsX5_left) := goodIn_app (goodIn_of _ (by decide +kernel)) ggL_left_X5_left
theorem dL_left_0 : decode cL_left 0 = .ok (.aload_n 2, 1) := by decide +kernel
theorem dL_left_1 : decode cL_left 1 = .ok (.iconst 0, 1) := by decide +kernel
theorem dL_left_2 : decode cL_left 2 = .ok (.aload_n 0, 1) := by decide +kernel
theorem dL_left_3 : decode cL_left 3 = .ok (.iload_n 1, 1) := by decide +kernel
theorem dL_left_4 : decode cL_left 4 = .ok (.invokevirtual 47, 3) := by decide +kernel
theorem dL_left_7 : decode cL_left 7 = .ok (.i2l, 1) := by decide +kernel
theorem dL_left_8 : decode cL_left 8 = .ok (.lastore, 1) := by decide +kernel
theorem dL_left_9 : decode cL_left 9 = .ok (.goto 6, 3) := by decide +kernel
theorem dL_left_12 : decode cL_left 12 = .ok (.astore_n 3, 1) := by decide +kernel
theorem dL_left_13 : decode cL_left 13 = .ok (.iconst 1, 1) := by decide +kernel
theorem dL_left_14 : decode cL_left 14 = .ok (.ireturn, 1) := by decide +kernel
theorem dL_left_15 : decode cL_left 15 = .ok (.iconst 0, 1) := by decide +kernel
theorem dL_left_16 : decode cL_left 16 = .ok (.ireturn, 1) := by decide +kernel
set_option maxRecDepth 20000 in
theorem ggL_rate_X5_rate : GoodIn wsL_rate wsX5_rate := goodIn_ca (goodIn_r _ [6, 7, 8, 9, 5, 10, 11, 12, 13, 14, 15, 16, 17, 18, 19, 20, 21, 22, 23, 24, 25, 26, 27, 28] (by decide +kernel) (by decide +kernel)) (goodIn_sub (fun _ h => List.mem_cons_of_mem _ (List.mem_append_right _ h)) (by decide +kernel))
set_option maxRecDepth 20000 in
theorem gL_rate_X5_rate : GoodIn wsL_rate (wsV RL 51 RX5 yX5_rate wsX5_rate) := goodIn_app (goodIn_of _ (by decide +kernel)) ggL_rate_X5_rate
theorem dL_rate_0 : decode cL_rate 0 = .ok (.aload_n 2, 1) := by decide +kernel
theorem dL_rate_1 : decode cL_rate 1 = .ok (.iconst 0, 1) := by decide +kernel
theorem dL_rate_2 : decode cL_rate 2 = .ok (.aload_n 0, 1) := by decide +kernel
theorem dL_rate_3 : decode cL_rate 3 = .ok (.iload_n 1, 1) := by decide +kernel
theorem dL_rate_4 : decode cL_rate 4 = .ok (.invokevirtual 51, 3) := by decide +kernel
theorem dL_rate_7 : decode cL_rate 7 = .ok (.i2l, 1) := by decide +kernel
theorem dL_rate_8 : decode cL_rate 8 = .ok (.lastore, 1) := by decide +kernel
theorem dL_rate_9 : decode cL_rate 9 = .ok (.goto 6, 3) := by decide +kernel
theorem dL_rate_12 : decode cL_rate 12 = .ok (.astore_n 3, 1) := by decide +kernel
theorem dL_rate_13 : decode cL_rate 13 = .ok (.iconst 1, 1) := by decide +kernel
theorem dL_rate_14 : decode cL_rate 14 = .ok (.ireturn, 1) := by decide +kernel
theorem dL_rate_15 : decode cL_rate 15 = .ok (.iconst 0, 1) := by decide +kernel
theorem dL_rate_16 : decode cL_rate 16 = .ok (.ireturn, 1) := by decide +kernel
set_option maxRecDepth 20000 in
theorem ggL_window_X5_window : GoodIn wsL_window wsX5_window := goodIn_ca (goodIn_r _ [6, 7, 8, 9, 5, 10, 11, 12, 13, 14, 15, 16, 17, 18, 19, 20, 21, 22, 23, 24, 25, 26, 27, 28] (by decide +kernel) (by decide +kernel)) (goodIn_sub (fun _ h => List.mem_cons_of_mem _ (List.mem_append_right _ h)) (by decide +kernel))
set_option maxRecDepth 20000 in
theorem gL_window_X5_window : GoodIn wsL_window (wsV RL 54 RX5 yX5_window wsX5_window) := goodIn_app (goodIn_of _ (by decide +kernel)) ggL_window_X5_window
theorem dL_window_0 : decode cL_window 0 = .ok (.aload_n 2, 1) := by decide +kernel
theorem dL_window_1 : decode cL_window 1 = .ok (.iconst 0, 1) := by decide +kernel
theorem dL_window_2 : decode cL_window 2 = .ok (.aload_n 0, 1) := by decide +kernel
theorem dL_window_3 : decode cL_window 3 = .ok (.iload_n 1, 1) := by decide +kernel
theorem dL_window_4 : decode cL_window 4 = .ok (.invokevirtual 54, 3) := by decide +kernel
theorem dL_window_7 : decode cL_window 7 = .ok (.i2l, 1) := by decide +kernel
theorem dL_window_8 : decode cL_window 8 = .ok (.lastore, 1) := by decide +kernel
theorem dL_window_9 : decode cL_window 9 = .ok (.goto 6, 3) := by decide +kernel
theorem dL_window_12 : decode cL_window 12 = .ok (.astore_n 3, 1) := by decide +kernel
theorem dL_window_13 : decode cL_window 13 = .ok (.iconst 1, 1) := by decide +kernel
theorem dL_window_14 : decode cL_window 14 = .ok (.ireturn, 1) := by decide +kernel
theorem dL_window_15 : decode cL_window 15 = .ok (.iconst 0, 1) := by decide +kernel
theorem dL_window_16 : decode cL_window 16 = .ok (.ireturn, 1) := by decide +kernel
set_option maxRecDepth 20000 in
theorem ggL_gain_X5_gain : GoodIn wsL_gain wsX5_gain := goodIn_ca (goodIn_r _ [6, 7, 8, 9, 10, 5, 11, 12, 13, 14, 15, 16, 17, 18, 19, 20, 21, 22, 23, 24, 25, 26, 27, 28, 29, 30, 31, 32, 33, 34, 35, 36, 37, 38, 39, 40, 41, 42, 43, 44, 45, 46, 47, 48, 49, 50, 51, 52, 53, 54, 55, 56, 57, 58, 59, 60, 61, 62, 63, 64, 65, 66, 67, 68, 69, 70] (by decide +kernel) (by decide +kernel)) (goodIn_sub (fun _ h => List.mem_cons_of_mem _ (List.mem_append_right _ h)) (by decide +kernel))
set_option maxRecDepth 20000 in
theorem gL_gain_X5_gain : GoodIn wsL_gain (wsV RL 57 RX5 yX5_gain wsX5_gain) := goodIn_app (goodIn_of _ (by decide +kernel)) ggL_gain_X5_gain
theorem dL_gain_0 : decode cL_gain 0 = .ok (.aload_n 2, 1) := by decide +kernel
theorem dL_gain_1 : decode cL_gain 1 = .ok (.iconst 0, 1) := by decide +kernel
theorem dL_gain_2 : decode cL_gain 2 = .ok (.aload_n 0, 1) := by decide +kernel
theorem dL_gain_3 : decode cL_gain 3 = .ok (.iload_n 1, 1) := by decide +kernel
theorem dL_gain_4 : decode cL_gain 4 = .ok (.invokevirtual 57, 3) := by decide +kernel
theorem dL_gain_7 : decode cL_gain 7 = .ok (.lastore, 1) := by decide +kernel
theorem dL_gain_8 : decode cL_gain 8 = .ok (.goto 6, 3) := by decide +kernel
theorem dL_gain_11 : decode cL_gain 11 = .ok (.astore_n 3, 1) := by decide +kernel
theorem dL_gain_12 : decode cL_gain 12 = .ok (.iconst 1, 1) := by decide +kernel
theorem dL_gain_13 : decode cL_gain 13 = .ok (.ireturn, 1) := by decide +kernel
theorem dL_gain_14 : decode cL_gain 14 = .ok (.iconst 0, 1) := by decide +kernel
theorem dL_gain_15 : decode cL_gain 15 = .ok (.ireturn, 1) := by decide +kernel
set_option maxRecDepth 20000 in
theorem ggL_exposure_X5_exposure : GoodIn wsL_exposure wsX5_exposure := goodIn_ca (goodIn_r _ [6, 7, 8, 9, 5, 10, 11, 12, 13, 14, 15, 16, 17, 18, 19, 20, 21, 22, 23, 24, 25, 26, 27, 28, 29, 30, 31, 32, 33, 34, 35, 36, 37, 38, 39, 40, 41, 42, 43, 44, 45, 46, 47, 48, 49, 50, 51, 52, 53, 54, 55, 56, 57, 58, 59, 60, 61, 62, 63, 64, 65, 66, 67, 68, 69, 70, 71, 72, 73, 74, 75, 76, 77, 78, 79, 80, 81, 82] (by decide +kernel) (by decide +kernel)) (goodIn_sub (fun _ h => List.mem_cons_of_mem _ (List.mem_append_right _ h)) (by decide +kernel))
set_option maxRecDepth 20000 in
theorem gL_exposure_X5_exposure : GoodIn wsL_exposure (wsV RL 60 RX5 yX5_exposure wsX5_exposure) := goodIn_app (goodIn_of _ (by decide +kernel)) ggL_exposure_X5_exposure
theorem dL_exposure_0 : decode cL_exposure 0 = .ok (.aload_n 2, 1) := by decide +kernel
theorem dL_exposure_1 : decode cL_exposure 1 = .ok (.iconst 0, 1) := by decide +kernel
theorem dL_exposure_2 : decode cL_exposure 2 = .ok (.aload_n 0, 1) := by decide +kernel
theorem dL_exposure_3 : decode cL_exposure 3 = .ok (.iload_n 1, 1) := by decide +kernel
theorem dL_exposure_4 : decode cL_exposure 4 = .ok (.invokevirtual 60, 3) := by decide +kernel
theorem dL_exposure_7 : decode cL_exposure 7 = .ok (.lastore, 1) := by decide +kernel
theorem dL_exposure_8 : decode cL_exposure 8 = .ok (.goto 6, 3) := by decide +kernel
theorem dL_exposure_11 : decode cL_exposure 11 = .ok (.astore_n 3, 1) := by decide +kernel
theorem dL_exposure_12 : decode cL_exposure 12 = .ok (.iconst 1, 1) := by decide +kernel
theorem dL_exposure_13 : decode cL_exposure 13 = .ok (.ireturn, 1) := by decide +kernel
theorem dL_exposure_14 : decode cL_exposure 14 = .ok (.iconst 0, 1) := by decide +kernel
theorem dL_exposure_15 : decode cL_exposure 15 = .ok (.ireturn, 1) := by decide +kernel
set_option maxRecDepth 20000 in
theorem ggL_due_X5_due : GoodIn wsL_due wsX5_due := goodIn_ca (goodIn_ca (goodIn_r _ [7, 8, 9, 10, 11, 6, 12, 13, 14, 15, 16, 17, 18, 19, 20, 21, 22, 23, 24, 25, 26, 27, 28, 29, 30, 31, 32, 33, 34, 35, 36, 37, 38, 39, 40, 41, 42, 43, 44, 45, 46, 47, 48, 49, 50] (by decide +kernel) (by decide +kernel)) (goodIn_sub (fun _ h => List.mem_cons_of_mem _ (List.mem_append_left _ (List.mem_append_right _ h))) (by decide +kernel))) (goodIn_sub (fun _ h => List.mem_cons_of_mem _ (List.mem_append_right _ h)) (by decide +kernel))
set_option maxRecDepth 20000 in
theorem gL_due_X5_due : GoodIn wsL_due (wsV RL 63 RX5 yX5_due wsX5_due) := goodIn_app (goodIn_of _ (by decide +kernel)) ggL_due_X5_due
theorem dL_due_0 : decode cL_due 0 = .ok (.aload 4, 2) := by decide +kernel
theorem dL_due_2 : decode cL_due 2 = .ok (.iconst 0, 1) := by decide +kernel
theorem dL_due_3 : decode cL_due 3 = .ok (.aload_n 0, 1) := by decide +kernel
theorem dL_due_4 : decode cL_due 4 = .ok (.iload_n 1, 1) := by decide +kernel
theorem dL_due_5 : decode cL_due 5 = .ok (.iload_n 2, 1) := by decide +kernel
theorem dL_due_6 : decode cL_due 6 = .ok (.iload_n 3, 1) := by decide +kernel
theorem dL_due_7 : decode cL_due 7 = .ok (.invokevirtual 63, 3) := by decide +kernel
theorem dL_due_10 : decode cL_due 10 = .ok (.lastore, 1) := by decide +kernel
theorem dL_due_11 : decode cL_due 11 = .ok (.goto 11, 3) := by decide +kernel
theorem dL_due_14 : decode cL_due 14 = .ok (.astore 5, 2) := by decide +kernel
theorem dL_due_16 : decode cL_due 16 = .ok (.iconst 1, 1) := by decide +kernel
theorem dL_due_17 : decode cL_due 17 = .ok (.ireturn, 1) := by decide +kernel
theorem dL_due_18 : decode cL_due 18 = .ok (.astore 5, 2) := by decide +kernel
theorem dL_due_20 : decode cL_due 20 = .ok (.iconst 2, 1) := by decide +kernel
theorem dL_due_21 : decode cL_due 21 = .ok (.ireturn, 1) := by decide +kernel
theorem dL_due_22 : decode cL_due 22 = .ok (.iconst 0, 1) := by decide +kernel
theorem dL_due_23 : decode cL_due 23 = .ok (.ireturn, 1) := by decide +kernel
set_option maxRecDepth 20000 in
theorem ggL_balance_X5_balance : GoodIn wsL_balance wsX5_balance := goodIn_ca (goodIn_ca (goodIn_r _ [7, 8, 9, 10, 6, 11, 12, 13, 14, 15, 16, 17, 18, 19, 20, 21, 22, 23, 24, 25, 26, 27, 28, 29, 30, 31, 32, 33, 34, 35, 36, 37] (by decide +kernel) (by decide +kernel)) (goodIn_sub (fun _ h => List.mem_cons_of_mem _ (List.mem_append_left _ (List.mem_append_right _ h))) (by decide +kernel))) (goodIn_sub (fun _ h => List.mem_cons_of_mem _ (List.mem_append_right _ h)) (by decide +kernel))
set_option maxRecDepth 20000 in
theorem gL_balance_X5_balance : GoodIn wsL_balance (wsV RL 67 RX5 yX5_balance wsX5_balance) := goodIn_app (goodIn_of _ (by decide +kernel)) ggL_balance_X5_balance
theorem dL_balance_0 : decode cL_balance 0 = .ok (.aload_n 3, 1) := by decide +kernel
theorem dL_balance_1 : decode cL_balance 1 = .ok (.iconst 0, 1) := by decide +kernel
theorem dL_balance_2 : decode cL_balance 2 = .ok (.aload_n 0, 1) := by decide +kernel
theorem dL_balance_3 : decode cL_balance 3 = .ok (.iload_n 1, 1) := by decide +kernel
theorem dL_balance_4 : decode cL_balance 4 = .ok (.iload_n 2, 1) := by decide +kernel
theorem dL_balance_5 : decode cL_balance 5 = .ok (.invokevirtual 67, 3) := by decide +kernel
theorem dL_balance_8 : decode cL_balance 8 = .ok (.lastore, 1) := by decide +kernel
theorem dL_balance_9 : decode cL_balance 9 = .ok (.goto 11, 3) := by decide +kernel
theorem dL_balance_12 : decode cL_balance 12 = .ok (.astore 4, 2) := by decide +kernel
theorem dL_balance_14 : decode cL_balance 14 = .ok (.iconst 1, 1) := by decide +kernel
theorem dL_balance_15 : decode cL_balance 15 = .ok (.ireturn, 1) := by decide +kernel
theorem dL_balance_16 : decode cL_balance 16 = .ok (.astore 4, 2) := by decide +kernel
theorem dL_balance_18 : decode cL_balance 18 = .ok (.iconst 2, 1) := by decide +kernel
theorem dL_balance_19 : decode cL_balance 19 = .ok (.ireturn, 1) := by decide +kernel
theorem dL_balance_20 : decode cL_balance 20 = .ok (.iconst 0, 1) := by decide +kernel
theorem dL_balance_21 : decode cL_balance 21 = .ok (.ireturn, 1) := by decide +kernel
set_option maxRecDepth 20000 in
theorem ggL_pass_X5_pass : GoodIn wsL_pass wsX5_pass := goodIn_ca (goodIn_ca (goodIn_r _ [7, 8, 9, 10, 11, 12, 6, 13, 14, 15, 16, 17, 18, 19, 20, 21, 22, 23, 24, 25, 26, 27, 28, 29, 30, 31, 32, 33, 34, 35, 36, 37, 38, 39, 40, 41, 42, 43, 44, 45, 46, 47, 48, 49, 50, 51, 52, 53, 54, 55, 56, 57, 58, 59, 60, 61, 62, 63, 64, 65, 66, 67, 68, 69, 70, 71, 72, 73, 74, 75, 76, 77, 78, 79, 80, 81, 82, 83, 84, 85, 86, 87, 88, 89, 90, 91, 92, 93, 94, 95, 96, 97, 98, 99, 100, 101, 102, 103, 104, 105, 106, 107, 108, 109, 110, 111, 112, 113, 114, 115, 116, 117, 118, 119, 120, 121, 122, 123, 124, 125, 126, 127, 128, 129, 130, 131, 132, 133, 134, 135, 136, 137] (by decide +kernel) (by decide +kernel)) (goodIn_sub (fun _ h => List.mem_cons_of_mem _ (List.mem_append_left _ (List.mem_append_right _ h))) (by decide +kernel))) (goodIn_sub (fun _ h => List.mem_cons_of_mem _ (List.mem_append_right _ h)) (by decide +kernel))
set_option maxRecDepth 20000 in
theorem gL_pass_X5_pass : GoodIn wsL_pass (wsV RL 71 RX5 yX5_pass wsX5_pass) := goodIn_app (goodIn_of _ (by decide +kernel)) ggL_pass_X5_pass
theorem dL_pass_0 : decode cL_pass 0 = .ok (.aload_n 2, 1) := by decide +kernel
theorem dL_pass_1 : decode cL_pass 1 = .ok (.iconst 0, 1) := by decide +kernel
theorem dL_pass_2 : decode cL_pass 2 = .ok (.aload_n 0, 1) := by decide +kernel
theorem dL_pass_3 : decode cL_pass 3 = .ok (.iload_n 1, 1) := by decide +kernel
theorem dL_pass_4 : decode cL_pass 4 = .ok (.invokevirtual 71, 3) := by decide +kernel
theorem dL_pass_7 : decode cL_pass 7 = .ok (.i2l, 1) := by decide +kernel
theorem dL_pass_8 : decode cL_pass 8 = .ok (.lastore, 1) := by decide +kernel
theorem dL_pass_9 : decode cL_pass 9 = .ok (.goto 9, 3) := by decide +kernel
theorem dL_pass_12 : decode cL_pass 12 = .ok (.astore_n 3, 1) := by decide +kernel
theorem dL_pass_13 : decode cL_pass 13 = .ok (.iconst 1, 1) := by decide +kernel
theorem dL_pass_14 : decode cL_pass 14 = .ok (.ireturn, 1) := by decide +kernel
theorem dL_pass_15 : decode cL_pass 15 = .ok (.astore_n 3, 1) := by decide +kernel
theorem dL_pass_16 : decode cL_pass 16 = .ok (.iconst 2, 1) := by decide +kernel
theorem dL_pass_17 : decode cL_pass 17 = .ok (.ireturn, 1) := by decide +kernel
theorem dL_pass_18 : decode cL_pass 18 = .ok (.iconst 0, 1) := by decide +kernel
theorem dL_pass_19 : decode cL_pass 19 = .ok (.ireturn, 1) := by decide +kernel
set_option maxRecDepth 20000 in
theorem ggL_law_X5_init : GoodIn wsL_law wsX5_init := goodIn_r _ [9, 10, 11, 12, 13, 14, 15, 16, 17, 18, 19, 20, 21, 22, 23, 24, 25, 26, 27, 28, 29, 30, 31, 32, 33, 34, 35, 36, 37, 38, 39, 40, 41, 42, 43, 44, 45, 46, 47, 48, 49, 50, 6, 51, 533, 534, 512, 513, 514, 515, 516, 535, 536, 537, 538, 539, 540, 541] (by decide +kernel) (by decide +kernel)
set_option maxRecDepth 20000 in
theorem gL_law_X5_init : GoodIn wsL_law (wsX5_init) := ggL_law_X5_init
set_option maxRecDepth 20000 in
theorem ggL_law_X6_init : GoodIn wsL_law wsX6_init := goodIn_r _ [54, 55, 11, 12, 56, 57, 58, 6, 59, 60, 30, 61, 62, 63, 64, 65, 66, 67, 68, 69, 70, 517, 518, 519, 520, 521, 522, 523, 524, 525, 526, 527, 528, 529, 530, 531, 532] (by decide +kernel) (by decide +kernel)
set_option maxRecDepth 20000 in
theorem gL_law_X6_init : GoodIn wsL_law (wsX6_init) := ggL_law_X6_init
set_option maxRecDepth 20000 in
theorem ggL_law_L_setRate : GoodIn wsL_law wsL_setRate := goodIn_ca (goodIn_ca (goodIn_r _ [74, 75, 76, 77, 78, 79, 2, 80, 81, 82, 83, 84, 85, 86, 87, 18, 88, 89, 90, 91, 92, 93, 94, 95, 535, 536, 537, 512, 513, 514, 515, 516] (by decide +kernel) (by decide +kernel)) (goodIn_sub (fun _ h => List.mem_append_left _ (List.mem_append_left _ (List.mem_append_right _ h))) (by decide +kernel))) (goodIn_sub (fun _ h => List.mem_append_left _ (List.mem_append_right _ h)) (by decide +kernel))
set_option maxRecDepth 20000 in
theorem gL_law_L_setRate : GoodIn wsL_law (va_wsS RL 78 yL_setRate wsL_setRate) := goodIn_app (goodIn_of _ (by decide +kernel)) ggL_law_L_setRate
set_option maxRecDepth 20000 in
theorem ggL_law_X6_setRate : GoodIn wsL_law wsX6_setRate := goodIn_r _ [99, 100, 101, 57, 102, 103, 5, 104, 105, 106, 107, 517, 518, 519, 520, 521, 522, 523, 524, 525, 526, 527, 528, 529, 530, 531, 532] (by decide +kernel) (by decide +kernel)
set_option maxRecDepth 20000 in
theorem gL_law_X6_setRate : GoodIn wsL_law (wsV RL 83 RX6 yX6_setRate wsX6_setRate) := goodIn_app (goodIn_of _ (by decide +kernel)) ggL_law_X6_setRate
set_option maxRecDepth 20000 in
theorem ggL_law_X6_thrown : GoodIn wsL_law wsX6_thrown := goodIn_r _ [111, 101, 517, 518, 519, 520, 521, 522, 523, 524, 525, 526, 527, 528, 529, 530, 531, 532] (by decide +kernel) (by decide +kernel)
set_option maxRecDepth 20000 in
theorem gL_law_X6_thrown : GoodIn wsL_law (wsV RL 84 RX6 yX6_thrown wsX6_thrown) := goodIn_app (goodIn_of _ (by decide +kernel)) ggL_law_X6_thrown
set_option maxRecDepth 20000 in
theorem ggL_law_L_setPoints : GoodIn wsL_law wsL_setPoints := goodIn_ca (goodIn_ca (goodIn_r _ [114, 75, 76, 115, 116, 117, 2, 118, 82, 83, 84, 85, 86, 87, 18, 88, 89, 90, 91, 92, 93, 94, 95, 535, 536, 537, 512, 513, 514, 515, 516] (by decide +kernel) (by decide +kernel)) (goodIn_sub (fun _ h => List.mem_append_left _ (List.mem_append_left _ (List.mem_append_right _ h))) (by decide +kernel))) (goodIn_sub (fun _ h => List.mem_append_left _ (List.mem_append_right _ h)) (by decide +kernel))
set_option maxRecDepth 20000 in
theorem gL_law_L_setPoints : GoodIn wsL_law (va_wsS RL 88 yL_setPoints wsL_setPoints) := goodIn_app (goodIn_of _ (by decide +kernel)) ggL_law_L_setPoints
set_option maxRecDepth 20000 in
theorem ggL_law_X6_setPoints : GoodIn wsL_law wsX6_setPoints := goodIn_r _ [122, 101, 58, 102, 103, 5, 104, 105, 106, 107, 517, 518, 519, 520, 521, 522, 523, 524, 525, 526, 527, 528, 529, 530, 531, 532] (by decide +kernel) (by decide +kernel)
set_option maxRecDepth 20000 in
theorem gL_law_X6_setPoints : GoodIn wsL_law (wsV RL 90 RX6 yX6_setPoints wsX6_setPoints) := goodIn_app (goodIn_of _ (by decide +kernel)) ggL_law_X6_setPoints
set_option maxRecDepth 20000 in
theorem ggL_law_L_toggleHoliday : GoodIn wsL_law wsL_toggleHoliday := goodIn_ca (goodIn_ca (goodIn_r _ [125, 76, 126, 127, 128, 129, 2, 130, 131, 132, 16, 91, 92, 93, 94, 95, 133, 134, 135, 15, 136, 31, 89, 90, 512, 513, 514, 515, 516, 533, 534] (by decide +kernel) (by decide +kernel)) (goodIn_sub (fun _ h => List.mem_append_right _ h) (by decide +kernel))) (goodIn_sub (fun _ h => List.mem_append_left _ (List.mem_append_right _ h)) (by decide +kernel))
set_option maxRecDepth 20000 in
theorem gL_law_L_toggleHoliday : GoodIn wsL_law (va_wsS RL 91 yL_toggleHoliday wsL_toggleHoliday) := goodIn_app (goodIn_of _ (by decide +kernel)) ggL_law_L_toggleHoliday
set_option maxRecDepth 20000 in
theorem ggL_law_X6_toggleHoliday : GoodIn wsL_law wsX6_toggleHoliday := goodIn_r _ [140, 141, 101, 61, 105, 106, 5, 107, 517, 518, 519, 520, 521, 522, 523, 524, 525, 526, 527, 528, 529, 530, 531, 532] (by decide +kernel) (by decide +kernel)
set_option maxRecDepth 20000 in
theorem gL_law_X6_toggleHoliday : GoodIn wsL_law (wsV RL 94 RX6 yX6_toggleHoliday wsX6_toggleHoliday) := goodIn_app (goodIn_of _ (by decide +kernel)) ggL_law_X6_toggleHoliday
set_option maxRecDepth 20000 in
theorem ggL_law_L_setLimit : GoodIn wsL_law wsL_setLimit := goodIn_ca (goodIn_ca (goodIn_r _ [144, 75, 76, 145, 146, 147, 2, 148, 149, 150, 151, 152, 153, 86, 87, 22, 88, 89, 90, 91, 92, 93, 94, 95, 538, 539, 540, 512, 513, 514, 515, 516] (by decide +kernel) (by decide +kernel)) (goodIn_sub (fun _ h => List.mem_append_left _ (List.mem_append_left _ (List.mem_append_right _ h))) (by decide +kernel))) (goodIn_sub (fun _ h => List.mem_append_left _ (List.mem_append_right _ h)) (by decide +kernel))
set_option maxRecDepth 20000 in
theorem gL_law_L_setLimit : GoodIn wsL_law (va_wsS RL 95 yL_setLimit wsL_setLimit) := goodIn_app (goodIn_of _ (by decide +kernel)) ggL_law_L_setLimit
set_option maxRecDepth 20000 in
theorem ggL_law_X6_setLimit : GoodIn wsL_law wsX6_setLimit := goodIn_r _ [157, 158, 101, 60, 159, 160, 5, 161, 105, 106, 107, 517, 518, 519, 520, 521, 522, 523, 524, 525, 526, 527, 528, 529, 530, 531, 532] (by decide +kernel) (by decide +kernel)
set_option maxRecDepth 20000 in
theorem gL_law_X6_setLimit : GoodIn wsL_law (wsV RL 97 RX6 yX6_setLimit wsX6_setLimit) := goodIn_app (goodIn_of _ (by decide +kernel)) ggL_law_X6_setLimit
set_option maxRecDepth 20000 in
theorem ggL_law_L_forward : GoodIn wsL_law wsL_forward := goodIn_ca (goodIn_ca (goodIn_r _ [164, 75, 76, 165, 166, 167, 2, 168, 82, 83, 84, 85, 86, 87, 18, 88, 89, 90, 91, 92, 93, 94, 95, 169, 170, 171, 20, 172, 36, 173, 174, 175, 176, 177, 178, 179, 180, 181, 512, 513, 514, 515, 516, 535, 536, 537] (by decide +kernel) (by decide +kernel)) (goodIn_sub (fun _ h => List.mem_append_left _ (List.mem_append_left _ (List.mem_append_right _ h))) (by decide +kernel))) (goodIn_sub (fun _ h => List.mem_append_left _ (List.mem_append_right _ h)) (by decide +kernel))
set_option maxRecDepth 20000 in
theorem gL_law_L_forward : GoodIn wsL_law (va_wsS RL 98 yL_forward wsL_forward) := goodIn_app (goodIn_of _ (by decide +kernel)) ggL_law_L_forward
set_option maxRecDepth 20000 in
theorem ggL_law_X6_forward : GoodIn wsL_law wsX6_forward := goodIn_r _ [185, 101, 141, 102, 103, 5, 104, 105, 106, 107, 186, 187, 188, 189, 57, 58, 190, 191, 192, 517, 518, 519, 520, 521, 522, 523, 524, 525, 526, 527, 528, 529, 530, 531, 532] (by decide +kernel) (by decide +kernel)
set_option maxRecDepth 20000 in
theorem gL_law_X6_forward : GoodIn wsL_law (wsV RL 100 RX6 yX6_forward wsX6_forward) := goodIn_app (goodIn_of _ (by decide +kernel)) ggL_law_X6_forward
set_option maxRecDepth 20000 in
theorem ggL_law_L_deal : GoodIn wsL_law wsL_deal := goodIn_ca (goodIn_ca (goodIn_ca (goodIn_r _ [195, 75, 76, 126, 196, 197, 198, 2, 199, 131, 132, 200, 201, 26, 16, 25, 202, 203, 150, 151, 152, 153, 86, 87, 22, 88, 89, 90, 82, 83, 84, 85, 18, 91, 92, 93, 94, 95, 169, 170, 171, 20, 172, 36, 173, 174, 175, 176, 177, 178, 179, 180, 181, 204, 205, 206, 207, 11, 12, 208, 209, 210, 211, 212, 213, 214, 215, 216, 217, 218, 219, 220, 221, 222, 223, 224, 225, 226, 227, 228, 229, 230, 231, 232, 233, 234, 235, 236, 237, 238, 239, 240, 241, 242, 243, 244, 245, 512, 513, 514, 515, 516, 533, 534, 542, 543, 544, 545, 546, 547, 548, 538, 539, 540, 535, 536, 537] (by decide +kernel) (by decide +kernel)) (goodIn_sub (fun _ h => List.mem_append_right _ h) (by decide +kernel))) (goodIn_sub (fun _ h => List.mem_append_left _ (List.mem_append_left _ (List.mem_append_right _ h))) (by decide +kernel))) (goodIn_sub (fun _ h => List.mem_append_left _ (List.mem_append_right _ h)) (by decide +kernel))
set_option maxRecDepth 20000 in
theorem gL_law_L_deal : GoodIn wsL_law (va_wsS RL 101 yL_deal wsL_deal) := goodIn_app (goodIn_of _ (by decide +kernel)) ggL_law_L_deal
set_option maxRecDepth 20000 in
theorem ggL_law_X6_deal : GoodIn wsL_law wsX6_deal := goodIn_r _ [249, 250, 251, 101, 62, 63, 64, 65, 66, 141, 67, 68, 60, 159, 160, 5, 161, 105, 106, 107, 102, 103, 104, 186, 187, 188, 189, 57, 58, 190, 191, 192, 252, 253, 254, 255, 256, 257, 258, 259, 260, 261, 262, 263, 264, 265, 266, 267, 517, 518, 519, 520, 521, 522, 523, 524, 525, 526, 527, 528, 529, 530, 531, 532] (by decide +kernel) (by decide +kernel)
set_option maxRecDepth 20000 in
theorem gL_law_X6_deal : GoodIn wsL_law (wsV RL 104 RX6 yX6_deal wsX6_deal) := goodIn_app (goodIn_of _ (by decide +kernel)) ggL_law_X6_deal
set_option maxRecDepth 20000 in
theorem ggL_law_L_draw : GoodIn wsL_law wsL_draw := goodIn_ca (goodIn_ca (goodIn_r _ [270, 75, 76, 271, 272, 273, 2, 274, 16, 275, 276, 277, 278, 86, 87, 26, 88, 89, 90, 91, 92, 93, 94, 95, 279, 280, 281, 203, 282, 213, 209, 212, 283, 174, 175, 20, 176, 177, 178, 179, 180, 181, 284, 237, 238, 239, 285, 286, 287, 15, 288, 289, 290, 291, 292, 293, 31, 294, 295, 296, 24, 297, 44, 43, 45, 46, 48, 49, 50, 11, 12, 6, 51, 298, 299, 300, 301, 542, 543, 544, 545, 546, 547, 548, 512, 513, 514, 515, 516, 533, 534, 535, 536, 537, 538, 539, 540, 541] (by decide +kernel) (by decide +kernel)) (goodIn_sub (fun _ h => List.mem_append_left _ (List.mem_append_left _ (List.mem_append_right _ h))) (by decide +kernel))) (goodIn_sub (fun _ h => List.mem_append_left _ (List.mem_append_right _ h)) (by decide +kernel))
set_option maxRecDepth 20000 in
theorem gL_law_L_draw : GoodIn wsL_law (va_wsS RL 105 yL_draw wsL_draw) := goodIn_app (goodIn_of _ (by decide +kernel)) ggL_law_L_draw
set_option maxRecDepth 20000 in
theorem ggL_law_X6_draw : GoodIn wsL_law wsX6_draw := goodIn_r _ [305, 65, 101, 66, 141, 58, 63, 68, 62, 64, 306, 307, 308, 5, 309, 251, 105, 106, 107, 190, 191, 192, 264, 265, 266, 267, 310, 311, 312, 313, 69, 314, 315, 316, 317, 318, 319, 320, 321, 61, 517, 518, 519, 520, 521, 522, 523, 524, 525, 526, 527, 528, 529, 530, 531, 532] (by decide +kernel) (by decide +kernel)
set_option maxRecDepth 20000 in
theorem gL_law_X6_draw : GoodIn wsL_law (wsV RL 107 RX6 yX6_draw wsX6_draw) := goodIn_app (goodIn_of _ (by decide +kernel)) ggL_law_X6_draw
set_option maxRecDepth 20000 in
theorem ggL_law_L_roll : GoodIn wsL_law wsL_roll := goodIn_ca (goodIn_ca (goodIn_ca (goodIn_r _ [324, 75, 76, 126, 325, 326, 327, 2, 328, 131, 132, 16, 275, 276, 277, 278, 86, 87, 26, 88, 89, 90, 91, 92, 93, 94, 95, 329, 330, 331, 332, 333, 334, 335, 336, 337, 338, 203, 339, 228, 229, 230, 231, 209, 214, 232, 170, 171, 20, 172, 36, 173, 174, 175, 176, 177, 178, 179, 180, 181, 233, 234, 235, 236, 211, 212, 210, 237, 238, 239, 285, 286, 287, 15, 288, 289, 290, 291, 292, 293, 31, 294, 295, 296, 24, 297, 44, 43, 45, 46, 48, 49, 50, 11, 12, 6, 51, 298, 299, 300, 301, 340, 341, 342, 343, 213, 344, 345, 542, 543, 544, 545, 546, 547, 548, 512, 513, 514, 515, 516, 533, 534, 535, 536, 537, 538, 539, 540, 541] (by decide +kernel) (by decide +kernel)) (goodIn_sub (fun _ h => List.mem_append_right _ h) (by decide +kernel))) (goodIn_sub (fun _ h => List.mem_append_left _ (List.mem_append_left _ (List.mem_append_right _ h))) (by decide +kernel))) (goodIn_sub (fun _ h => List.mem_append_left _ (List.mem_append_right _ h)) (by decide +kernel))
set_option maxRecDepth 20000 in
theorem gL_law_L_roll : GoodIn wsL_law (va_wsS RL 108 yL_roll wsL_roll) := goodIn_app (goodIn_of _ (by decide +kernel)) ggL_law_L_roll
set_option maxRecDepth 20000 in
theorem ggL_law_X6_roll : GoodIn wsL_law wsX6_roll := goodIn_r _ [349, 65, 67, 141, 101, 62, 68, 63, 58, 66, 306, 307, 308, 5, 309, 251, 105, 106, 107, 350, 351, 352, 353, 186, 187, 188, 189, 57, 190, 191, 192, 260, 261, 262, 263, 64, 264, 265, 266, 267, 310, 311, 312, 313, 69, 314, 315, 316, 317, 318, 319, 320, 321, 61, 517, 518, 519, 520, 521, 522, 523, 524, 525, 526, 527, 528, 529, 530, 531, 532] (by decide +kernel) (by decide +kernel)
set_option maxRecDepth 20000 in
theorem gL_law_X6_roll : GoodIn wsL_law (wsV RL 111 RX6 yX6_roll wsX6_roll) := goodIn_app (goodIn_of _ (by decide +kernel)) ggL_law_X6_roll
set_option maxRecDepth 20000 in
theorem ggL_law_L_closeOut : GoodIn wsL_law wsL_closeOut := goodIn_ca (goodIn_ca (goodIn_r _ [356, 75, 126, 357, 358, 359, 2, 360, 275, 276, 277, 278, 86, 87, 26, 88, 89, 90, 329, 330, 331, 131, 132, 332, 333, 334, 335, 16, 336, 337, 338, 203, 339, 228, 229, 230, 231, 209, 214, 232, 170, 171, 20, 172, 36, 173, 174, 175, 176, 177, 178, 179, 180, 181, 233, 234, 235, 236, 211, 212, 210, 237, 238, 239, 285, 286, 287, 15, 288, 289, 290, 291, 292, 293, 31, 294, 295, 296, 24, 297, 44, 43, 45, 46, 48, 49, 50, 11, 12, 6, 51, 298, 299, 300, 301, 542, 543, 544, 545, 546, 547, 548, 512, 513, 514, 515, 516, 533, 534, 535, 536, 537, 538, 539, 540, 541] (by decide +kernel) (by decide +kernel)) (goodIn_sub (fun _ h => List.mem_append_left _ (List.mem_append_left _ (List.mem_append_right _ h))) (by decide +kernel))) (goodIn_sub (fun _ h => List.mem_append_right _ h) (by decide +kernel))
set_option maxRecDepth 20000 in
theorem gL_law_L_closeOut : GoodIn wsL_law (va_wsS RL 112 yL_closeOut wsL_closeOut) := goodIn_app (goodIn_of _ (by decide +kernel)) ggL_law_L_closeOut
set_option maxRecDepth 20000 in
theorem ggL_law_X6_closeOut : GoodIn wsL_law wsX6_closeOut := goodIn_r _ [364, 65, 101, 306, 307, 308, 5, 309, 251, 105, 106, 107, 365, 366, 367, 368, 62, 350, 351, 352, 353, 63, 67, 186, 187, 188, 189, 57, 58, 141, 190, 191, 192, 260, 261, 262, 263, 68, 64, 264, 265, 266, 267, 310, 311, 312, 313, 69, 314, 315, 316, 317, 318, 319, 320, 321, 61, 517, 518, 519, 520, 521, 522, 523, 524, 525, 526, 527, 528, 529, 530, 531, 532] (by decide +kernel) (by decide +kernel)
set_option maxRecDepth 20000 in
theorem gL_law_X6_closeOut : GoodIn wsL_law (wsV RL 114 RX6 yX6_closeOut wsX6_closeOut) := goodIn_app (goodIn_of _ (by decide +kernel)) ggL_law_X6_closeOut
set_option maxRecDepth 20000 in
theorem ggL_law_L_left : GoodIn wsL_law wsL_left := goodIn_ca (goodIn_r _ [371, 75, 372, 373, 374, 2, 375, 275, 276, 277, 278, 86, 87, 26, 88, 89, 90, 542, 543, 544, 545, 546, 547, 548, 512, 513, 514, 515, 516] (by decide +kernel) (by decide +kernel)) (goodIn_sub (fun _ h => List.mem_append_left _ (List.mem_append_left _ (List.mem_append_right _ h))) (by decide +kernel))
set_option maxRecDepth 20000 in
theorem gL_law_L_left : GoodIn wsL_law (va_wsS RL 115 yL_left wsL_left) := goodIn_app (goodIn_of _ (by decide +kernel)) ggL_law_L_left
set_option maxRecDepth 20000 in
theorem ggL_law_X6_left : GoodIn wsL_law wsX6_left := goodIn_r _ [379, 65, 380, 381, 382, 5, 383, 101, 306, 307, 308, 309, 251, 105, 106, 107, 517, 518, 519, 520, 521, 522, 523, 524, 525, 526, 527, 528, 529, 530, 531, 532] (by decide +kernel) (by decide +kernel)
set_option maxRecDepth 20000 in
theorem gL_law_X6_left : GoodIn wsL_law (wsV RL 117 RX6 yX6_left wsX6_left) := goodIn_app (goodIn_of _ (by decide +kernel)) ggL_law_X6_left
set_option maxRecDepth 20000 in
theorem ggL_law_L_rate : GoodIn wsL_law wsL_rate := goodIn_ca (goodIn_r _ [386, 75, 387, 388, 389, 2, 390, 275, 276, 277, 278, 86, 87, 26, 88, 89, 90, 542, 543, 544, 545, 546, 547, 548, 512, 513, 514, 515, 516] (by decide +kernel) (by decide +kernel)) (goodIn_sub (fun _ h => List.mem_append_left _ (List.mem_append_left _ (List.mem_append_right _ h))) (by decide +kernel))
set_option maxRecDepth 20000 in
theorem gL_law_L_rate : GoodIn wsL_law (va_wsS RL 118 yL_rate wsL_rate) := goodIn_app (goodIn_of _ (by decide +kernel)) ggL_law_L_rate
set_option maxRecDepth 20000 in
theorem ggL_law_X6_rate : GoodIn wsL_law wsX6_rate := goodIn_r _ [394, 68, 380, 381, 382, 5, 383, 101, 306, 307, 308, 309, 251, 105, 106, 107, 517, 518, 519, 520, 521, 522, 523, 524, 525, 526, 527, 528, 529, 530, 531, 532] (by decide +kernel) (by decide +kernel)
set_option maxRecDepth 20000 in
theorem gL_law_X6_rate : GoodIn wsL_law (wsV RL 120 RX6 yX6_rate wsX6_rate) := goodIn_app (goodIn_of _ (by decide +kernel)) ggL_law_X6_rate
set_option maxRecDepth 20000 in
theorem ggL_law_L_window : GoodIn wsL_law wsL_window := goodIn_ca (goodIn_r _ [397, 75, 398, 399, 400, 2, 401, 275, 276, 277, 278, 86, 87, 26, 88, 89, 90, 542, 543, 544, 545, 546, 547, 548, 512, 513, 514, 515, 516] (by decide +kernel) (by decide +kernel)) (goodIn_sub (fun _ h => List.mem_append_left _ (List.mem_append_left _ (List.mem_append_right _ h))) (by decide +kernel))
set_option maxRecDepth 20000 in
theorem gL_law_L_window : GoodIn wsL_law (va_wsS RL 121 yL_window wsL_window) := goodIn_app (goodIn_of _ (by decide +kernel)) ggL_law_L_window
set_option maxRecDepth 20000 in
theorem ggL_law_X6_window : GoodIn wsL_law wsX6_window := goodIn_r _ [405, 66, 67, 380, 381, 382, 5, 383, 101, 306, 307, 308, 309, 251, 105, 106, 107, 517, 518, 519, 520, 521, 522, 523, 524, 525, 526, 527, 528, 529, 530, 531, 532] (by decide +kernel) (by decide +kernel)
set_option maxRecDepth 20000 in
theorem gL_law_X6_window : GoodIn wsL_law (wsV RL 123 RX6 yX6_window wsX6_window) := goodIn_app (goodIn_of _ (by decide +kernel)) ggL_law_X6_window
set_option maxRecDepth 20000 in
theorem ggL_law_L_gain : GoodIn wsL_law wsL_gain := goodIn_ca (goodIn_r _ [408, 75, 409, 410, 411, 2, 412, 16, 275, 276, 277, 278, 86, 87, 26, 88, 89, 90, 336, 337, 338, 203, 339, 228, 229, 230, 231, 209, 214, 232, 170, 171, 20, 172, 36, 173, 174, 175, 176, 177, 178, 179, 180, 181, 233, 234, 235, 236, 211, 212, 210, 237, 238, 239, 512, 513, 514, 515, 516, 533, 534, 542, 543, 544, 545, 546, 547, 548, 535, 536, 537] (by decide +kernel) (by decide +kernel)) (goodIn_sub (fun _ h => List.mem_append_left _ (List.mem_append_left _ (List.mem_append_right _ h))) (by decide +kernel))
set_option maxRecDepth 20000 in
theorem gL_law_L_gain : GoodIn wsL_law (va_wsS RL 124 yL_gain wsL_gain) := goodIn_app (goodIn_of _ (by decide +kernel)) ggL_law_L_gain
set_option maxRecDepth 20000 in
theorem ggL_law_X6_gain : GoodIn wsL_law wsX6_gain := goodIn_r _ [416, 380, 381, 382, 5, 383, 101, 306, 307, 308, 309, 251, 105, 106, 107, 350, 351, 352, 353, 65, 63, 67, 186, 187, 188, 189, 57, 58, 141, 190, 191, 192, 260, 261, 262, 263, 68, 64, 264, 265, 266, 267, 517, 518, 519, 520, 521, 522, 523, 524, 525, 526, 527, 528, 529, 530, 531, 532] (by decide +kernel) (by decide +kernel)
set_option maxRecDepth 20000 in
theorem gL_law_X6_gain : GoodIn wsL_law (wsV RL 126 RX6 yX6_gain wsX6_gain) := goodIn_app (goodIn_of _ (by decide +kernel)) ggL_law_X6_gain
set_option maxRecDepth 20000 in
theorem ggL_law_L_exposure : GoodIn wsL_law wsL_exposure := goodIn_ca (goodIn_r _ [419, 75, 420, 421, 422, 2, 423, 150, 151, 152, 153, 86, 87, 22, 88, 89, 90, 219, 220, 221, 222, 26, 16, 223, 224, 225, 203, 226, 227, 179, 180, 181, 228, 229, 230, 231, 209, 214, 232, 170, 171, 20, 172, 36, 173, 174, 175, 176, 177, 178, 233, 234, 235, 236, 211, 212, 210, 237, 238, 239, 240, 241, 242, 243, 244, 245, 512, 513, 514, 515, 516, 542, 543, 544, 545, 546, 547, 548, 533, 534, 535, 536, 537] (by decide +kernel) (by decide +kernel)) (goodIn_sub (fun _ h => List.mem_append_left _ (List.mem_append_left _ (List.mem_append_right _ h))) (by decide +kernel))
set_option maxRecDepth 20000 in
theorem gL_law_L_exposure : GoodIn wsL_law (va_wsS RL 127 yL_exposure wsL_exposure) := goodIn_app (goodIn_of _ (by decide +kernel)) ggL_law_L_exposure
set_option maxRecDepth 20000 in
theorem ggL_law_X6_exposure : GoodIn wsL_law wsX6_exposure := goodIn_r _ [427, 101, 159, 160, 5, 161, 105, 106, 107, 252, 253, 254, 255, 256, 257, 258, 259, 251, 63, 67, 62, 65, 186, 187, 188, 189, 57, 58, 141, 190, 191, 192, 260, 261, 262, 263, 68, 64, 264, 265, 266, 267, 517, 518, 519, 520, 521, 522, 523, 524, 525, 526, 527, 528, 529, 530, 531, 532] (by decide +kernel) (by decide +kernel)
set_option maxRecDepth 20000 in
theorem gL_law_X6_exposure : GoodIn wsL_law (wsV RL 129 RX6 yX6_exposure wsX6_exposure) := goodIn_app (goodIn_of _ (by decide +kernel)) ggL_law_X6_exposure
set_option maxRecDepth 20000 in
theorem ggL_law_X5_settlementDay : GoodIn wsL_law wsX5_settlementDay := goodIn_r _ [431, 16, 285, 286, 287, 15, 288, 289, 290, 291, 292, 293, 31, 89, 2, 90, 512, 513, 514, 515, 516, 533, 534] (by decide +kernel) (by decide +kernel)
set_option maxRecDepth 20000 in
theorem gL_law_X5_settlementDay : GoodIn wsL_law (wsV RL 130 RX5 yX5_settlementDay wsX5_settlementDay) := goodIn_app (goodIn_of _ (by decide +kernel)) ggL_law_X5_settlementDay
set_option maxRecDepth 20000 in
theorem ggL_law_X6_settlementDay : GoodIn wsL_law wsX6_settlementDay := goodIn_r _ [435, 101, 314, 315, 316, 5, 317, 141, 318, 319, 320, 321, 61, 517, 518, 519, 520, 521, 522, 523, 524, 525, 526, 527, 528, 529, 530, 531, 532] (by decide +kernel) (by decide +kernel)
set_option maxRecDepth 20000 in
theorem gL_law_X6_settlementDay : GoodIn wsL_law (wsV RL 133 RX6 yX6_settlementDay wsX6_settlementDay) := goodIn_app (goodIn_of _ (by decide +kernel)) ggL_law_X6_settlementDay
set_option maxRecDepth 20000 in
theorem ggL_law_L_due : GoodIn wsL_law wsL_due := goodIn_ca (goodIn_ca (goodIn_r _ [438, 75, 76, 439, 440, 441, 2, 442, 16, 150, 151, 152, 153, 86, 87, 22, 88, 89, 90, 91, 92, 93, 94, 95, 443, 444, 445, 24, 446, 447, 448, 449, 450, 44, 451, 452, 453, 46, 454, 51, 512, 513, 514, 515, 516, 533, 534, 538, 539, 540, 541] (by decide +kernel) (by decide +kernel)) (goodIn_sub (fun _ h => List.mem_append_left _ (List.mem_append_left _ (List.mem_append_right _ h))) (by decide +kernel))) (goodIn_sub (fun _ h => List.mem_append_left _ (List.mem_append_right _ h)) (by decide +kernel))
set_option maxRecDepth 20000 in
theorem gL_law_L_due : GoodIn wsL_law (va_wsS RL 134 yL_due wsL_due) := goodIn_app (goodIn_of _ (by decide +kernel)) ggL_law_L_due
set_option maxRecDepth 20000 in
theorem ggL_law_X6_due : GoodIn wsL_law wsX6_due := goodIn_r _ [458, 101, 69, 141, 159, 160, 5, 161, 105, 106, 107, 517, 518, 519, 520, 521, 522, 523, 524, 525, 526, 527, 528, 529, 530, 531, 532] (by decide +kernel) (by decide +kernel)
set_option maxRecDepth 20000 in
theorem gL_law_X6_due : GoodIn wsL_law (wsV RL 137 RX6 yX6_due wsX6_due) := goodIn_app (goodIn_of _ (by decide +kernel)) ggL_law_X6_due
set_option maxRecDepth 20000 in
theorem ggL_law_L_balance : GoodIn wsL_law wsL_balance := goodIn_ca (goodIn_ca (goodIn_r _ [461, 75, 76, 462, 463, 464, 2, 465, 150, 151, 152, 153, 86, 87, 22, 88, 89, 90, 91, 92, 93, 94, 95, 466, 452, 453, 46, 454, 51, 538, 539, 540, 512, 513, 514, 515, 516, 541] (by decide +kernel) (by decide +kernel)) (goodIn_sub (fun _ h => List.mem_append_left _ (List.mem_append_left _ (List.mem_append_right _ h))) (by decide +kernel))) (goodIn_sub (fun _ h => List.mem_append_left _ (List.mem_append_right _ h)) (by decide +kernel))
set_option maxRecDepth 20000 in
theorem gL_law_L_balance : GoodIn wsL_law (va_wsS RL 138 yL_balance wsL_balance) := goodIn_app (goodIn_of _ (by decide +kernel)) ggL_law_L_balance
set_option maxRecDepth 20000 in
theorem ggL_law_X6_balance : GoodIn wsL_law wsX6_balance := goodIn_r _ [470, 101, 70, 159, 160, 5, 161, 105, 106, 107, 517, 518, 519, 520, 521, 522, 523, 524, 525, 526, 527, 528, 529, 530, 531, 532] (by decide +kernel) (by decide +kernel)
set_option maxRecDepth 20000 in
theorem gL_law_X6_balance : GoodIn wsL_law (wsV RL 140 RX6 yX6_balance wsX6_balance) := goodIn_app (goodIn_of _ (by decide +kernel)) ggL_law_X6_balance
set_option maxRecDepth 20000 in
theorem ggL_law_L_pass : GoodIn wsL_law wsL_pass := goodIn_ca (goodIn_ca (goodIn_r _ [473, 76, 126, 474, 475, 476, 2, 477, 131, 132, 16, 91, 92, 93, 94, 95, 478, 479, 480, 481, 26, 332, 333, 334, 335, 336, 337, 338, 203, 339, 228, 229, 230, 231, 209, 214, 232, 170, 171, 20, 172, 36, 173, 174, 175, 176, 177, 178, 179, 180, 181, 233, 234, 235, 236, 211, 212, 210, 237, 238, 239, 285, 286, 287, 15, 288, 289, 290, 291, 292, 293, 31, 89, 90, 294, 295, 296, 24, 297, 44, 43, 45, 46, 48, 49, 50, 11, 12, 6, 51, 298, 299, 300, 301, 482, 483, 484, 485, 22, 486, 487, 488, 489, 47, 447, 448, 449, 450, 490, 491, 492, 493, 494, 452, 453, 454, 495, 512, 513, 514, 515, 516, 533, 534, 542, 543, 544, 545, 546, 547, 548, 535, 536, 537, 538, 539, 540, 541] (by decide +kernel) (by decide +kernel)) (goodIn_sub (fun _ h => List.mem_append_right _ h) (by decide +kernel))) (goodIn_sub (fun _ h => List.mem_append_left _ (List.mem_append_right _ h)) (by decide +kernel))
set_option maxRecDepth 20000 in
theorem gL_law_L_pass : GoodIn wsL_law (va_wsS RL 141 yL_pass wsL_pass) := goodIn_app (goodIn_of _ (by decide +kernel)) ggL_law_L_pass
set_option maxRecDepth 20000 in
theorem ggL_law_X6_pass : GoodIn wsL_law wsX6_pass := goodIn_r _ [499, 141, 101, 105, 106, 5, 107, 500, 501, 502, 503, 251, 65, 67, 70, 69, 365, 366, 367, 368, 62, 350, 351, 352, 353, 63, 186, 187, 188, 189, 57, 58, 190, 191, 192, 260, 261, 262, 263, 68, 64, 264, 265, 266, 267, 310, 311, 312, 313, 314, 315, 316, 317, 318, 319, 320, 321, 61, 517, 518, 519, 520, 521, 522, 523, 524, 525, 526, 527, 528, 529, 530, 531, 532] (by decide +kernel) (by decide +kernel)
set_option maxRecDepth 20000 in
theorem gL_law_X6_pass : GoodIn wsL_law (wsV RL 143 RX6 yX6_pass wsX6_pass) := goodIn_app (goodIn_of _ (by decide +kernel)) ggL_law_X6_pass
set_option maxRecDepth 20000 in
theorem ggL_law_X5_today : GoodIn wsL_law wsX5_today := goodIn_r _ [507, 16, 512, 513, 514, 515, 516, 533, 534] (by decide +kernel) (by decide +kernel)
set_option maxRecDepth 20000 in
theorem gL_law_X5_today : GoodIn wsL_law (wsV RL 144 RX5 yX5_today wsX5_today) := goodIn_app (goodIn_of _ (by decide +kernel)) ggL_law_X5_today
set_option maxRecDepth 20000 in
theorem ggL_law_X6_today : GoodIn wsL_law wsX6_today := goodIn_r _ [511, 101, 141, 517, 518, 519, 520, 521, 522, 523, 524, 525, 526, 527, 528, 529, 530, 531, 532] (by decide +kernel) (by decide +kernel)
set_option maxRecDepth 20000 in
theorem gL_law_X6_today : GoodIn wsL_law (wsV RL 147 RX6 yX6_today wsX6_today) := goodIn_app (goodIn_of _ (by decide +kernel)) ggL_law_X6_today
