theorem dL_cell_0 : decode cL_cell 0 = .ok (.iload_n 1, 1) := by decide +kernel
theorem dL_cell_1 : decode cL_cell 1 = .ok (.aload_n 0, 1) := by decide +kernel
theorem dL_cell_2 : decode cL_cell 2 = .ok (.arraylength, 1) := by decide +kernel
theorem dL_cell_3 : decode cL_cell 3 = .ok (.if_icmp .ge 9, 3) := by decide +kernel
theorem dL_cell_6 : decode cL_cell 6 = .ok (.aload_n 0, 1) := by decide +kernel
theorem dL_cell_7 : decode cL_cell 7 = .ok (.iload_n 1, 1) := by decide +kernel
theorem dL_cell_8 : decode cL_cell 8 = .ok (.iaload, 1) := by decide +kernel
theorem dL_cell_9 : decode cL_cell 9 = .ok (.goto 9, 3) := by decide +kernel
theorem dL_cell_12 : decode cL_cell 12 = .ok (.ldc 7, 2) := by decide +kernel
theorem dL_cell_14 : decode cL_cell 14 = .ok (.iload_n 1, 1) := by decide +kernel
theorem dL_cell_15 : decode cL_cell 15 = .ok (.iconst 4, 1) := by decide +kernel
theorem dL_cell_16 : decode cL_cell 16 = .ok (.iadd, 1) := by decide +kernel
theorem dL_cell_17 : decode cL_cell 17 = .ok (.imul, 1) := by decide +kernel
theorem dL_cell_18 : decode cL_cell 18 = .ok (.ireturn, 1) := by decide +kernel
theorem dL_low_0 : decode cL_low 0 = .ok (.iload_n 0, 1) := by decide +kernel
theorem dL_low_1 : decode cL_low 1 = .ok (.iconst 1, 1) := by decide +kernel
theorem dL_low_2 : decode cL_low 2 = .ok (.iushr, 1) := by decide +kernel
theorem dL_low_3 : decode cL_low 3 = .ok (.iload_n 1, 1) := by decide +kernel
theorem dL_low_4 : decode cL_low 4 = .ok (.irem, 1) := by decide +kernel
theorem dL_low_5 : decode cL_low 5 = .ok (.ireturn, 1) := by decide +kernel
set_option maxRecDepth 20000 in
theorem ggL_setRate_X5_setRate : GoodIn wsL_setRate wsX5_setRate := goodIn_ca (goodIn_ca (goodIn_r _ [9, 10, 11, 12, 13, 8, 14, 15, 16, 17, 18, 19, 20, 21, 22, 23, 24, 25, 26, 27, 28, 29, 30, 31, 32, 33] (by decide +kernel) (by decide +kernel)) (goodIn_sub (fun _ h => List.mem_cons_of_mem _ (List.mem_append_left _ (List.mem_append_right _ h))) (by decide +kernel))) (goodIn_sub (fun _ h => List.mem_cons_of_mem _ (List.mem_append_right _ h)) (by decide +kernel))
set_option maxRecDepth 20000 in
theorem gL_setRate_X5_setRate : GoodIn wsL_setRate (wsV RL 8 RX5 yX5_setRate wsX5_setRate) := goodIn_app (goodIn_of _ (by decide +kernel)) ggL_setRate_X5_setRate
theorem dL_setRate_0 : decode cL_setRate 0 = .ok (.aload_n 0, 1) := by decide +kernel
theorem dL_setRate_1 : decode cL_setRate 1 = .ok (.iload_n 1, 1) := by decide +kernel
theorem dL_setRate_2 : decode cL_setRate 2 = .ok (.iload_n 2, 1) := by decide +kernel
theorem dL_setRate_3 : decode cL_setRate 3 = .ok (.invokevirtual 8, 3) := by decide +kernel
theorem dL_setRate_6 : decode cL_setRate 6 = .ok (.istore_n 3, 1) := by decide +kernel
theorem dL_setRate_7 : decode cL_setRate 7 = .ok (.goto 13, 3) := by decide +kernel
theorem dL_setRate_10 : decode cL_setRate 10 = .ok (.astore 4, 2) := by decide +kernel
theorem dL_setRate_12 : decode cL_setRate 12 = .ok (.ldc 16, 2) := by decide +kernel
theorem dL_setRate_14 : decode cL_setRate 14 = .ok (.ireturn, 1) := by decide +kernel
theorem dL_setRate_15 : decode cL_setRate 15 = .ok (.astore 4, 2) := by decide +kernel
theorem dL_setRate_17 : decode cL_setRate 17 = .ok (.ldc 19, 2) := by decide +kernel
theorem dL_setRate_19 : decode cL_setRate 19 = .ok (.ireturn, 1) := by decide +kernel
theorem dL_setRate_20 : decode cL_setRate 20 = .ok (.iload_n 3, 1) := by decide +kernel
theorem dL_setRate_21 : decode cL_setRate 21 = .ok (.ireturn, 1) := by decide +kernel
set_option maxRecDepth 20000 in
theorem ggL_setPoints_X5_setPoints : GoodIn wsL_setPoints wsX5_setPoints := goodIn_ca (goodIn_ca (goodIn_r _ [9, 10, 11, 12, 8, 13, 14, 15, 16, 17, 18, 19, 20, 21, 22, 23, 24, 25, 26, 27, 28, 29, 30, 31, 32] (by decide +kernel) (by decide +kernel)) (goodIn_sub (fun _ h => List.mem_cons_of_mem _ (List.mem_append_left _ (List.mem_append_right _ h))) (by decide +kernel))) (goodIn_sub (fun _ h => List.mem_cons_of_mem _ (List.mem_append_right _ h)) (by decide +kernel))
set_option maxRecDepth 20000 in
theorem gL_setPoints_X5_setPoints : GoodIn wsL_setPoints (wsV RL 20 RX5 yX5_setPoints wsX5_setPoints) := goodIn_app (goodIn_of _ (by decide +kernel)) ggL_setPoints_X5_setPoints
theorem dL_setPoints_0 : decode cL_setPoints 0 = .ok (.aload_n 0, 1) := by decide +kernel
theorem dL_setPoints_1 : decode cL_setPoints 1 = .ok (.iload_n 1, 1) := by decide +kernel
theorem dL_setPoints_2 : decode cL_setPoints 2 = .ok (.iload_n 2, 1) := by decide +kernel
theorem dL_setPoints_3 : decode cL_setPoints 3 = .ok (.invokevirtual 20, 3) := by decide +kernel
theorem dL_setPoints_6 : decode cL_setPoints 6 = .ok (.istore_n 3, 1) := by decide +kernel
theorem dL_setPoints_7 : decode cL_setPoints 7 = .ok (.goto 13, 3) := by decide +kernel
theorem dL_setPoints_10 : decode cL_setPoints 10 = .ok (.astore 4, 2) := by decide +kernel
theorem dL_setPoints_12 : decode cL_setPoints 12 = .ok (.ldc 16, 2) := by decide +kernel
theorem dL_setPoints_14 : decode cL_setPoints 14 = .ok (.ireturn, 1) := by decide +kernel
theorem dL_setPoints_15 : decode cL_setPoints 15 = .ok (.astore 4, 2) := by decide +kernel
theorem dL_setPoints_17 : decode cL_setPoints 17 = .ok (.ldc 19, 2) := by decide +kernel
theorem dL_setPoints_19 : decode cL_setPoints 19 = .ok (.ireturn, 1) := by decide +kernel
theorem dL_setPoints_20 : decode cL_setPoints 20 = .ok (.iload_n 3, 1) := by decide +kernel
theorem dL_setPoints_21 : decode cL_setPoints 21 = .ok (.ireturn, 1) := by decide +kernel
set_option maxRecDepth 20000 in
theorem ggL_toggleHoliday_X5_toggleHoliday : GoodIn wsL_toggleHoliday wsX5_toggleHoliday := goodIn_ca (goodIn_ca (goodIn_r _ [9, 10, 11, 12, 13, 14, 8, 15, 16, 17, 18, 19, 20, 21, 22, 23, 24, 25, 26, 27, 28, 29, 30, 31, 32] (by decide +kernel) (by decide +kernel)) (goodIn_sub (fun _ h => List.mem_cons_of_mem _ (List.mem_append_left _ (List.mem_append_right _ h))) (by decide +kernel))) (goodIn_sub (fun _ h => List.mem_cons_of_mem _ (List.mem_append_right _ h)) (by decide +kernel))
set_option maxRecDepth 20000 in
theorem gL_toggleHoliday_X5_toggleHoliday : GoodIn wsL_toggleHoliday (wsV RL 23 RX5 yX5_toggleHoliday wsX5_toggleHoliday) := goodIn_app (goodIn_of _ (by decide +kernel)) ggL_toggleHoliday_X5_toggleHoliday
theorem dL_toggleHoliday_0 : decode cL_toggleHoliday 0 = .ok (.aload_n 0, 1) := by decide +kernel
theorem dL_toggleHoliday_1 : decode cL_toggleHoliday 1 = .ok (.iload_n 1, 1) := by decide +kernel
theorem dL_toggleHoliday_2 : decode cL_toggleHoliday 2 = .ok (.invokevirtual 23, 3) := by decide +kernel
theorem dL_toggleHoliday_5 : decode cL_toggleHoliday 5 = .ok (.istore_n 2, 1) := by decide +kernel
theorem dL_toggleHoliday_6 : decode cL_toggleHoliday 6 = .ok (.goto 11, 3) := by decide +kernel
theorem dL_toggleHoliday_9 : decode cL_toggleHoliday 9 = .ok (.astore_n 3, 1) := by decide +kernel
theorem dL_toggleHoliday_10 : decode cL_toggleHoliday 10 = .ok (.ldc 19, 2) := by decide +kernel
theorem dL_toggleHoliday_12 : decode cL_toggleHoliday 12 = .ok (.ireturn, 1) := by decide +kernel
theorem dL_toggleHoliday_13 : decode cL_toggleHoliday 13 = .ok (.astore_n 3, 1) := by decide +kernel
theorem dL_toggleHoliday_14 : decode cL_toggleHoliday 14 = .ok (.ldc 29, 2) := by decide +kernel
theorem dL_toggleHoliday_16 : decode cL_toggleHoliday 16 = .ok (.ireturn, 1) := by decide +kernel
theorem dL_toggleHoliday_17 : decode cL_toggleHoliday 17 = .ok (.iload_n 2, 1) := by decide +kernel
theorem dL_toggleHoliday_18 : decode cL_toggleHoliday 18 = .ok (.ifCond .eq 7, 3) := by decide +kernel
theorem dL_toggleHoliday_21 : decode cL_toggleHoliday 21 = .ok (.iconst 1, 1) := by decide +kernel
theorem dL_toggleHoliday_22 : decode cL_toggleHoliday 22 = .ok (.goto 4, 3) := by decide +kernel
theorem dL_toggleHoliday_25 : decode cL_toggleHoliday 25 = .ok (.iconst 0, 1) := by decide +kernel
theorem dL_toggleHoliday_26 : decode cL_toggleHoliday 26 = .ok (.ireturn, 1) := by decide +kernel
set_option maxRecDepth 20000 in
theorem ggL_setLimit_X5_setLimit : GoodIn wsL_setLimit wsX5_setLimit := goodIn_ca (goodIn_ca (goodIn_r _ [9, 10, 11, 12, 13, 8, 14, 15, 16, 17, 18, 19, 20, 21, 22, 23, 24, 25, 26, 27, 28, 29, 30, 31, 32, 33] (by decide +kernel) (by decide +kernel)) (goodIn_sub (fun _ h => List.mem_cons_of_mem _ (List.mem_append_left _ (List.mem_append_right _ h))) (by decide +kernel))) (goodIn_sub (fun _ h => List.mem_cons_of_mem _ (List.mem_append_right _ h)) (by decide +kernel))
set_option maxRecDepth 20000 in
theorem gL_setLimit_X5_setLimit : GoodIn wsL_setLimit (wsV RL 30 RX5 yX5_setLimit wsX5_setLimit) := goodIn_app (goodIn_of _ (by decide +kernel)) ggL_setLimit_X5_setLimit
theorem dL_setLimit_0 : decode cL_setLimit 0 = .ok (.aload_n 0, 1) := by decide +kernel
theorem dL_setLimit_1 : decode cL_setLimit 1 = .ok (.iload_n 1, 1) := by decide +kernel
theorem dL_setLimit_2 : decode cL_setLimit 2 = .ok (.iload_n 2, 1) := by decide +kernel
theorem dL_setLimit_3 : decode cL_setLimit 3 = .ok (.invokevirtual 30, 3) := by decide +kernel
theorem dL_setLimit_6 : decode cL_setLimit 6 = .ok (.istore_n 3, 1) := by decide +kernel
theorem dL_setLimit_7 : decode cL_setLimit 7 = .ok (.goto 13, 3) := by decide +kernel
theorem dL_setLimit_10 : decode cL_setLimit 10 = .ok (.astore 4, 2) := by decide +kernel
theorem dL_setLimit_12 : decode cL_setLimit 12 = .ok (.ldc 16, 2) := by decide +kernel
theorem dL_setLimit_14 : decode cL_setLimit 14 = .ok (.ireturn, 1) := by decide +kernel
theorem dL_setLimit_15 : decode cL_setLimit 15 = .ok (.astore 4, 2) := by decide +kernel
theorem dL_setLimit_17 : decode cL_setLimit 17 = .ok (.ldc 19, 2) := by decide +kernel
theorem dL_setLimit_19 : decode cL_setLimit 19 = .ok (.ireturn, 1) := by decide +kernel
theorem dL_setLimit_20 : decode cL_setLimit 20 = .ok (.iload_n 3, 1) := by decide +kernel
theorem dL_setLimit_21 : decode cL_setLimit 21 = .ok (.ireturn, 1) := by decide +kernel
set_option maxRecDepth 20000 in
theorem ggL_forward_X5_forward : GoodIn wsL_forward wsX5_forward := goodIn_ca (goodIn_ca (goodIn_r _ [9, 10, 11, 12, 8, 13, 14, 15, 16, 17, 18, 19, 20, 21, 22, 23, 24, 25, 26, 27, 28, 29, 30, 31, 32, 33, 34, 35, 36, 37, 38, 39, 40, 41, 42, 43, 44, 45, 46, 47] (by decide +kernel) (by decide +kernel)) (goodIn_sub (fun _ h => List.mem_cons_of_mem _ (List.mem_append_left _ (List.mem_append_right _ h))) (by decide +kernel))) (goodIn_sub (fun _ h => List.mem_cons_of_mem _ (List.mem_append_right _ h)) (by decide +kernel))
set_option maxRecDepth 20000 in
theorem gL_forward_X5_forward : GoodIn wsL_forward (wsV RL 33 RX5 yX5_forward wsX5_forward) := goodIn_app (goodIn_of _ (by decide +kernel)) ggL_forward_X5_forward
theorem dL_forward_0 : decode cL_forward 0 = .ok (.aload_n 0, 1) := by decide +kernel
theorem dL_forward_1 : decode cL_forward 1 = .ok (.iload_n 1, 1) := by decide +kernel
theorem dL_forward_2 : decode cL_forward 2 = .ok (.iload_n 2, 1) := by decide +kernel
theorem dL_forward_3 : decode cL_forward 3 = .ok (.invokevirtual 33, 3) := by decide +kernel
theorem dL_forward_6 : decode cL_forward 6 = .ok (.istore_n 3, 1) := by decide +kernel
theorem dL_forward_7 : decode cL_forward 7 = .ok (.goto 13, 3) := by decide +kernel
theorem dL_forward_10 : decode cL_forward 10 = .ok (.astore 4, 2) := by decide +kernel
theorem dL_forward_12 : decode cL_forward 12 = .ok (.ldc 16, 2) := by decide +kernel
theorem dL_forward_14 : decode cL_forward 14 = .ok (.ireturn, 1) := by decide +kernel
theorem dL_forward_15 : decode cL_forward 15 = .ok (.astore 4, 2) := by decide +kernel
theorem dL_forward_17 : decode cL_forward 17 = .ok (.ldc 19, 2) := by decide +kernel
theorem dL_forward_19 : decode cL_forward 19 = .ok (.ireturn, 1) := by decide +kernel
theorem dL_forward_20 : decode cL_forward 20 = .ok (.iload_n 3, 1) := by decide +kernel
theorem dL_forward_21 : decode cL_forward 21 = .ok (.ireturn, 1) := by decide +kernel
set_option maxRecDepth 20000 in
theorem ggL_deal_X5_deal : GoodIn wsL_deal wsX5_deal := goodIn_ca (goodIn_ca (goodIn_ca (goodIn_r _ [11, 12, 13, 14, 15, 16, 17, 18, 19, 20, 21, 22, 23, 10, 24, 25, 26, 27, 28, 29, 30, 31, 32, 33, 34, 35, 36, 37, 38, 39, 40, 41, 42, 43, 44, 45, 46, 47, 48, 49, 50, 51, 52, 53, 54, 55, 56, 57, 58, 59, 60, 61, 62, 63, 64, 65, 66, 67, 68, 69, 70, 71, 72, 73, 74, 75, 76, 77, 78, 79, 80, 81, 82, 83, 84, 85, 86, 87, 88, 89, 90, 91, 92, 93, 94, 95, 96, 97, 98, 99, 100, 101, 102, 103, 104, 105, 106, 107, 108, 109, 110, 111, 112, 113, 114, 115, 116, 117, 118, 119] (by decide +kernel) (by decide +kernel)) (goodIn_sub (fun _ h => List.mem_cons_of_mem _ (List.mem_append_left _ (List.mem_append_left _ (List.mem_append_right _ h)))) (by decide +kernel))) (goodIn_sub (fun _ h => List.mem_cons_of_mem _ (List.mem_append_left _ (List.mem_append_right _ h))) (by decide +kernel))) (goodIn_sub (fun _ h => List.mem_cons_of_mem _ (List.mem_append_right _ h)) (by decide +kernel))
set_option maxRecDepth 20000 in
theorem gL_deal_X5_deal : GoodIn wsL_deal (wsV RL 36 RX5 yX5_deal wsX5_deal) := goodIn_app (goodIn_of _ (by decide +kernel)) ggL_deal_X5_deal
theorem dL_deal_0 : decode cL_deal 0 = .ok (.aload_n 0, 1) := by decide +kernel
theorem dL_deal_1 : decode cL_deal 1 = .ok (.iload_n 1, 1) := by decide +kernel
theorem dL_deal_2 : decode cL_deal 2 = .ok (.iload_n 2, 1) := by decide +kernel
theorem dL_deal_3 : decode cL_deal 3 = .ok (.iload_n 3, 1) := by decide +kernel
theorem dL_deal_4 : decode cL_deal 4 = .ok (.iload 4, 2) := by decide +kernel
theorem dL_deal_6 : decode cL_deal 6 = .ok (.iload 5, 2) := by decide +kernel
theorem dL_deal_8 : decode cL_deal 8 = .ok (.iload 6, 2) := by decide +kernel
theorem dL_deal_10 : decode cL_deal 10 = .ok (.invokevirtual 36, 3) := by decide +kernel
theorem dL_deal_13 : decode cL_deal 13 = .ok (.istore 7, 2) := by decide +kernel
theorem dL_deal_15 : decode cL_deal 15 = .ok (.goto 18, 3) := by decide +kernel
theorem dL_deal_18 : decode cL_deal 18 = .ok (.astore 8, 2) := by decide +kernel
theorem dL_deal_20 : decode cL_deal 20 = .ok (.ldc 16, 2) := by decide +kernel
theorem dL_deal_22 : decode cL_deal 22 = .ok (.ireturn, 1) := by decide +kernel
theorem dL_deal_23 : decode cL_deal 23 = .ok (.astore 8, 2) := by decide +kernel
theorem dL_deal_25 : decode cL_deal 25 = .ok (.ldc 19, 2) := by decide +kernel
theorem dL_deal_27 : decode cL_deal 27 = .ok (.ireturn, 1) := by decide +kernel
theorem dL_deal_28 : decode cL_deal 28 = .ok (.astore 8, 2) := by decide +kernel
theorem dL_deal_30 : decode cL_deal 30 = .ok (.ldc 29, 2) := by decide +kernel
theorem dL_deal_32 : decode cL_deal 32 = .ok (.ireturn, 1) := by decide +kernel
theorem dL_deal_33 : decode cL_deal 33 = .ok (.iload 7, 2) := by decide +kernel
theorem dL_deal_35 : decode cL_deal 35 = .ok (.ireturn, 1) := by decide +kernel
set_option maxRecDepth 20000 in
theorem ggL_draw_X5_draw : GoodIn wsL_draw wsX5_draw := goodIn_ca (goodIn_ca (goodIn_r _ [9, 10, 11, 12, 13, 8, 14, 15, 16, 17, 18, 19, 20, 21, 22, 23, 24, 25, 26, 27, 28, 29, 30, 31, 32, 33, 34, 35, 36, 37, 38, 39, 40, 41, 42, 43, 44, 45, 46, 47, 48, 49, 50, 51, 52, 53, 54, 55, 56, 57, 58, 59, 60, 61, 62, 63, 64, 65, 66, 67, 68, 69, 70, 71, 72, 73, 74, 75, 76, 77, 78, 79, 80, 81, 82, 83, 84, 85, 86, 87, 88, 89, 90, 91, 92, 93, 94, 95, 96, 97, 98, 99] (by decide +kernel) (by decide +kernel)) (goodIn_sub (fun _ h => List.mem_cons_of_mem _ (List.mem_append_left _ (List.mem_append_right _ h))) (by decide +kernel))) (goodIn_sub (fun _ h => List.mem_cons_of_mem _ (List.mem_append_right _ h)) (by decide +kernel))
set_option maxRecDepth 20000 in
theorem gL_draw_X5_draw : GoodIn wsL_draw (wsV RL 40 RX5 yX5_draw wsX5_draw) := goodIn_app (goodIn_of _ (by decide +kernel)) ggL_draw_X5_draw
theorem dL_draw_0 : decode cL_draw 0 = .ok (.aload_n 0, 1) := by decide +kernel
theorem dL_draw_1 : decode cL_draw 1 = .ok (.iload_n 1, 1) := by decide +kernel
theorem dL_draw_2 : decode cL_draw 2 = .ok (.iload_n 2, 1) := by decide +kernel
theorem dL_draw_3 : decode cL_draw 3 = .ok (.invokevirtual 40, 3) := by decide +kernel
theorem dL_draw_6 : decode cL_draw 6 = .ok (.istore_n 3, 1) := by decide +kernel
theorem dL_draw_7 : decode cL_draw 7 = .ok (.goto 13, 3) := by decide +kernel
theorem dL_draw_10 : decode cL_draw 10 = .ok (.astore 4, 2) := by decide +kernel
theorem dL_draw_12 : decode cL_draw 12 = .ok (.ldc 16, 2) := by decide +kernel
theorem dL_draw_14 : decode cL_draw 14 = .ok (.ireturn, 1) := by decide +kernel
theorem dL_draw_15 : decode cL_draw 15 = .ok (.astore 4, 2) := by decide +kernel
theorem dL_draw_17 : decode cL_draw 17 = .ok (.ldc 19, 2) := by decide +kernel
theorem dL_draw_19 : decode cL_draw 19 = .ok (.ireturn, 1) := by decide +kernel
theorem dL_draw_20 : decode cL_draw 20 = .ok (.iload_n 3, 1) := by decide +kernel
theorem dL_draw_21 : decode cL_draw 21 = .ok (.ireturn, 1) := by decide +kernel
set_option maxRecDepth 20000 in
theorem ggL_roll_X5_roll : GoodIn wsL_roll wsX5_roll := goodIn_ca (goodIn_ca (goodIn_ca (goodIn_r _ [11, 12, 13, 14, 15, 16, 17, 10, 18, 19, 20, 21, 22, 23, 24, 25, 26, 27, 28, 29, 30, 31, 32, 33, 34, 35, 36, 37, 38, 39, 40, 41, 42, 43, 44, 45, 46, 47, 48, 49, 50, 51, 52, 53, 54, 55, 56, 57, 58, 59, 60, 61, 62, 63, 64, 65, 66, 67, 68, 69, 70, 71, 72, 73, 74, 75, 76, 77, 78, 79, 80, 81, 82, 83, 84, 85, 86, 87, 88, 89, 90, 91, 92, 93, 94, 95, 96, 97, 98, 99, 100, 101, 102, 103, 104, 105, 106, 107, 108, 109, 110, 111, 112, 113, 114, 115, 116, 117, 118, 119, 120, 121, 122, 123, 124, 125, 126, 127, 128, 129, 130, 131] (by decide +kernel) (by decide +kernel)) (goodIn_sub (fun _ h => List.mem_cons_of_mem _ (List.mem_append_left _ (List.mem_append_left _ (List.mem_append_right _ h)))) (by decide +kernel))) (goodIn_sub (fun _ h => List.mem_cons_of_mem _ (List.mem_append_left _ (List.mem_append_right _ h))) (by decide +kernel))) (goodIn_sub (fun _ h => List.mem_cons_of_mem _ (List.mem_append_right _ h)) (by decide +kernel))
set_option maxRecDepth 20000 in
theorem gL_roll_X5_roll : GoodIn wsL_roll (wsV RL 43 RX5 yX5_roll wsX5_roll) := goodIn_app (goodIn_of _ (by decide +kernel)) ggL_roll_X5_roll
theorem dL_roll_0 : decode cL_roll 0 = .ok (.aload_n 0, 1) := by decide +kernel
theorem dL_roll_1 : decode cL_roll 1 = .ok (.iload_n 1, 1) := by decide +kernel
theorem dL_roll_2 : decode cL_roll 2 = .ok (.iload_n 2, 1) := by decide +kernel
theorem dL_roll_3 : decode cL_roll 3 = .ok (.iload_n 3, 1) := by decide +kernel
theorem dL_roll_4 : decode cL_roll 4 = .ok (.invokevirtual 43, 3) := by decide +kernel
theorem dL_roll_7 : decode cL_roll 7 = .ok (.istore 4, 2) := by decide +kernel
theorem dL_roll_9 : decode cL_roll 9 = .ok (.goto 18, 3) := by decide +kernel
theorem dL_roll_12 : decode cL_roll 12 = .ok (.astore 5, 2) := by decide +kernel
theorem dL_roll_14 : decode cL_roll 14 = .ok (.ldc 16, 2) := by decide +kernel
theorem dL_roll_16 : decode cL_roll 16 = .ok (.ireturn, 1) := by decide +kernel
theorem dL_roll_17 : decode cL_roll 17 = .ok (.astore 5, 2) := by decide +kernel
theorem dL_roll_19 : decode cL_roll 19 = .ok (.ldc 19, 2) := by decide +kernel
theorem dL_roll_21 : decode cL_roll 21 = .ok (.ireturn, 1) := by decide +kernel
theorem dL_roll_22 : decode cL_roll 22 = .ok (.astore 5, 2) := by decide +kernel
theorem dL_roll_24 : decode cL_roll 24 = .ok (.ldc 29, 2) := by decide +kernel
theorem dL_roll_26 : decode cL_roll 26 = .ok (.ireturn, 1) := by decide +kernel
theorem dL_roll_27 : decode cL_roll 27 = .ok (.iload 4, 2) := by decide +kernel
theorem dL_roll_29 : decode cL_roll 29 = .ok (.ireturn, 1) := by decide +kernel
set_option maxRecDepth 20000 in
theorem ggL_closeOut_X5_closeOut : GoodIn wsL_closeOut wsX5_closeOut := goodIn_ca (goodIn_ca (goodIn_r _ [9, 10, 11, 12, 8, 13, 14, 15, 16, 17, 18, 19, 20, 21, 22, 23, 24, 25, 26, 27, 28, 29, 30, 31, 32, 33, 34, 35, 36, 37, 38, 39, 40, 41, 42, 43, 44, 45, 46, 47, 48, 49, 50, 51, 52, 53, 54, 55, 56, 57, 58, 59, 60, 61, 62, 63, 64, 65, 66, 67, 68, 69, 70, 71, 72, 73, 74, 75, 76, 77, 78, 79, 80, 81, 82, 83, 84, 85, 86, 87, 88, 89, 90, 91, 92, 93, 94, 95, 96, 97, 98, 99, 100, 101, 102, 103, 104, 105, 106, 107, 108, 109, 110, 111, 112, 113, 114, 115, 116, 117] (by decide +kernel) (by decide +kernel)) (goodIn_sub (fun _ h => List.mem_cons_of_mem _ (List.mem_append_left _ (List.mem_append_right _ h))) (by decide +kernel))) (goodIn_sub (fun _ h => List.mem_cons_of_mem _ (List.mem_append_right _ h)) (by decide +kernel))
set_option maxRecDepth 20000 in
theorem gL_closeOut_X5_closeOut : GoodIn wsL_closeOut (wsV RL 47 RX5 yX5_closeOut wsX5_closeOut) := goodIn_app (goodIn_of _ (by decide +kernel)) ggL_closeOut_X5_closeOut
theorem dL_closeOut_0 : decode cL_closeOut 0 = .ok (.aload_n 0, 1) := by decide +kernel
theorem dL_closeOut_1 : decode cL_closeOut 1 = .ok (.iload_n 1, 1) := by decide +kernel
theorem dL_closeOut_2 : decode cL_closeOut 2 = .ok (.invokevirtual 47, 3) := by decide +kernel
theorem dL_closeOut_5 : decode cL_closeOut 5 = .ok (.lstore_n 2, 1) := by decide +kernel
theorem dL_closeOut_6 : decode cL_closeOut 6 = .ok (.goto 15, 3) := by decide +kernel
theorem dL_closeOut_9 : decode cL_closeOut 9 = .ok (.astore 4, 2) := by decide +kernel
theorem dL_closeOut_11 : decode cL_closeOut 11 = .ok (.ldc2_w 51, 3) := by decide +kernel
theorem dL_closeOut_14 : decode cL_closeOut 14 = .ok (.lreturn, 1) := by decide +kernel
theorem dL_closeOut_15 : decode cL_closeOut 15 = .ok (.astore 4, 2) := by decide +kernel
theorem dL_closeOut_17 : decode cL_closeOut 17 = .ok (.ldc2_w 53, 3) := by decide +kernel
theorem dL_closeOut_20 : decode cL_closeOut 20 = .ok (.lreturn, 1) := by decide +kernel
theorem dL_closeOut_21 : decode cL_closeOut 21 = .ok (.lload_n 2, 1) := by decide +kernel
theorem dL_closeOut_22 : decode cL_closeOut 22 = .ok (.lreturn, 1) := by decide +kernel
set_option maxRecDepth 20000 in
theorem ggL_left_X5_left : GoodIn wsL_left wsX5_left := goodIn_ca (goodIn_r _ [7, 8, 9, 10, 6, 11, 12, 13, 14, 15, 16, 17, 18, 19, 20, 21, 22, 23, 24, 25, 26, 27, 28, 29] (by decide +kernel) (by decide +kernel)) (goodIn_sub (fun _ h => List.mem_cons_of_mem _ (List.mem_append_right _ h)) (by decide +kernel))
set_option maxRecDepth 20000 in
theorem gL_left_X5_left : GoodIn wsL_left (wsV RL 55 RX5 yX5_left wsX5_left) := goodIn_app (goodIn_of _ (by decide +kernel)) ggL_left_X5_left
theorem dL_left_0 : decode cL_left 0 = .ok (.aload_n 0, 1) := by decide +kernel
theorem dL_left_1 : decode cL_left 1 = .ok (.iload_n 1, 1) := by decide +kernel
theorem dL_left_2 : decode cL_left 2 = .ok (.invokevirtual 55, 3) := by decide +kernel
theorem dL_left_5 : decode cL_left 5 = .ok (.istore_n 2, 1) := by decide +kernel
theorem dL_left_6 : decode cL_left 6 = .ok (.goto 7, 3) := by decide +kernel
theorem dL_left_9 : decode cL_left 9 = .ok (.astore_n 3, 1) := by decide +kernel
theorem dL_left_10 : decode cL_left 10 = .ok (.ldc 16, 2) := by decide +kernel
theorem dL_left_12 : decode cL_left 12 = .ok (.ireturn, 1) := by decide +kernel
theorem dL_left_13 : decode cL_left 13 = .ok (.iload_n 2, 1) := by decide +kernel
theorem dL_left_14 : decode cL_left 14 = .ok (.ireturn, 1) := by decide +kernel
set_option maxRecDepth 20000 in
theorem ggL_exposure_X5_exposure : GoodIn wsL_exposure wsX5_exposure := goodIn_ca (goodIn_r _ [7, 8, 9, 10, 6, 11, 12, 13, 14, 15, 16, 17, 18, 19, 20, 21, 22, 23, 24, 25, 26, 27, 28, 29, 30, 31, 32, 33, 34, 35, 36, 37, 38, 39, 40, 41, 42, 43, 44, 45, 46, 47, 48, 49, 50, 51, 52, 53, 54, 55, 56, 57, 58, 59, 60, 61, 62, 63, 64, 65, 66, 67, 68, 69, 70, 71, 72, 73, 74, 75, 76, 77, 78, 79, 80, 81, 82, 83] (by decide +kernel) (by decide +kernel)) (goodIn_sub (fun _ h => List.mem_cons_of_mem _ (List.mem_append_right _ h)) (by decide +kernel))
set_option maxRecDepth 20000 in
theorem gL_exposure_X5_exposure : GoodIn wsL_exposure (wsV RL 59 RX5 yX5_exposure wsX5_exposure) := goodIn_app (goodIn_of _ (by decide +kernel)) ggL_exposure_X5_exposure
theorem dL_exposure_0 : decode cL_exposure 0 = .ok (.aload_n 0, 1) := by decide +kernel
theorem dL_exposure_1 : decode cL_exposure 1 = .ok (.iload_n 1, 1) := by decide +kernel
theorem dL_exposure_2 : decode cL_exposure 2 = .ok (.invokevirtual 59, 3) := by decide +kernel
theorem dL_exposure_5 : decode cL_exposure 5 = .ok (.lstore_n 2, 1) := by decide +kernel
theorem dL_exposure_6 : decode cL_exposure 6 = .ok (.goto 9, 3) := by decide +kernel
theorem dL_exposure_9 : decode cL_exposure 9 = .ok (.astore 4, 2) := by decide +kernel
theorem dL_exposure_11 : decode cL_exposure 11 = .ok (.ldc2_w 51, 3) := by decide +kernel
theorem dL_exposure_14 : decode cL_exposure 14 = .ok (.lreturn, 1) := by decide +kernel
theorem dL_exposure_15 : decode cL_exposure 15 = .ok (.lload_n 2, 1) := by decide +kernel
theorem dL_exposure_16 : decode cL_exposure 16 = .ok (.lreturn, 1) := by decide +kernel
set_option maxRecDepth 20000 in
theorem ggL_due_X5_due : GoodIn wsL_due wsX5_due := goodIn_ca (goodIn_ca (goodIn_r _ [9, 10, 11, 12, 13, 8, 14, 15, 16, 17, 18, 19, 20, 21, 22, 23, 24, 25, 26, 27, 28, 29, 30, 31, 32, 33, 34, 35, 36, 37, 38, 39, 40, 41, 42, 43, 44, 45, 46, 47, 48, 49, 50, 51, 52] (by decide +kernel) (by decide +kernel)) (goodIn_sub (fun _ h => List.mem_cons_of_mem _ (List.mem_append_left _ (List.mem_append_right _ h))) (by decide +kernel))) (goodIn_sub (fun _ h => List.mem_cons_of_mem _ (List.mem_append_right _ h)) (by decide +kernel))
set_option maxRecDepth 20000 in
theorem gL_due_X5_due : GoodIn wsL_due (wsV RL 62 RX5 yX5_due wsX5_due) := goodIn_app (goodIn_of _ (by decide +kernel)) ggL_due_X5_due
theorem dL_due_0 : decode cL_due 0 = .ok (.aload_n 0, 1) := by decide +kernel
theorem dL_due_1 : decode cL_due 1 = .ok (.iload_n 1, 1) := by decide +kernel
theorem dL_due_2 : decode cL_due 2 = .ok (.iload_n 2, 1) := by decide +kernel
theorem dL_due_3 : decode cL_due 3 = .ok (.iload_n 3, 1) := by decide +kernel
theorem dL_due_4 : decode cL_due 4 = .ok (.invokevirtual 62, 3) := by decide +kernel
theorem dL_due_7 : decode cL_due 7 = .ok (.lstore 4, 2) := by decide +kernel
theorem dL_due_9 : decode cL_due 9 = .ok (.goto 15, 3) := by decide +kernel
theorem dL_due_12 : decode cL_due 12 = .ok (.astore 6, 2) := by decide +kernel
theorem dL_due_14 : decode cL_due 14 = .ok (.ldc2_w 51, 3) := by decide +kernel
theorem dL_due_17 : decode cL_due 17 = .ok (.lreturn, 1) := by decide +kernel
theorem dL_due_18 : decode cL_due 18 = .ok (.astore 6, 2) := by decide +kernel
theorem dL_due_20 : decode cL_due 20 = .ok (.ldc2_w 66, 3) := by decide +kernel
theorem dL_due_23 : decode cL_due 23 = .ok (.lreturn, 1) := by decide +kernel
theorem dL_due_24 : decode cL_due 24 = .ok (.lload 4, 2) := by decide +kernel
theorem dL_due_26 : decode cL_due 26 = .ok (.lreturn, 1) := by decide +kernel
set_option maxRecDepth 20000 in
theorem ggL_balance_X5_balance : GoodIn wsL_balance wsX5_balance := goodIn_ca (goodIn_ca (goodIn_r _ [9, 10, 11, 12, 8, 13, 14, 15, 16, 17, 18, 19, 20, 21, 22, 23, 24, 25, 26, 27, 28, 29, 30, 31, 32, 33, 34, 35, 36, 37, 38, 39] (by decide +kernel) (by decide +kernel)) (goodIn_sub (fun _ h => List.mem_cons_of_mem _ (List.mem_append_left _ (List.mem_append_right _ h))) (by decide +kernel))) (goodIn_sub (fun _ h => List.mem_cons_of_mem _ (List.mem_append_right _ h)) (by decide +kernel))
set_option maxRecDepth 20000 in
theorem gL_balance_X5_balance : GoodIn wsL_balance (wsV RL 68 RX5 yX5_balance wsX5_balance) := goodIn_app (goodIn_of _ (by decide +kernel)) ggL_balance_X5_balance
theorem dL_balance_0 : decode cL_balance 0 = .ok (.aload_n 0, 1) := by decide +kernel
theorem dL_balance_1 : decode cL_balance 1 = .ok (.iload_n 1, 1) := by decide +kernel
theorem dL_balance_2 : decode cL_balance 2 = .ok (.iload_n 2, 1) := by decide +kernel
theorem dL_balance_3 : decode cL_balance 3 = .ok (.invokevirtual 68, 3) := by decide +kernel
theorem dL_balance_6 : decode cL_balance 6 = .ok (.lstore_n 3, 1) := by decide +kernel
theorem dL_balance_7 : decode cL_balance 7 = .ok (.goto 15, 3) := by decide +kernel
theorem dL_balance_10 : decode cL_balance 10 = .ok (.astore 5, 2) := by decide +kernel
theorem dL_balance_12 : decode cL_balance 12 = .ok (.ldc2_w 51, 3) := by decide +kernel
theorem dL_balance_15 : decode cL_balance 15 = .ok (.lreturn, 1) := by decide +kernel
theorem dL_balance_16 : decode cL_balance 16 = .ok (.astore 5, 2) := by decide +kernel
theorem dL_balance_18 : decode cL_balance 18 = .ok (.ldc2_w 66, 3) := by decide +kernel
theorem dL_balance_21 : decode cL_balance 21 = .ok (.lreturn, 1) := by decide +kernel
theorem dL_balance_22 : decode cL_balance 22 = .ok (.lload_n 3, 1) := by decide +kernel
theorem dL_balance_23 : decode cL_balance 23 = .ok (.lreturn, 1) := by decide +kernel
set_option maxRecDepth 20000 in
theorem ggL_pass_X5_pass : GoodIn wsL_pass wsX5_pass := goodIn_ca (goodIn_ca (goodIn_r _ [9, 10, 11, 12, 13, 14, 8, 15, 16, 17, 18, 19, 20, 21, 22, 23, 24, 25, 26, 27, 28, 29, 30, 31, 32, 33, 34, 35, 36, 37, 38, 39, 40, 41, 42, 43, 44, 45, 46, 47, 48, 49, 50, 51, 52, 53, 54, 55, 56, 57, 58, 59, 60, 61, 62, 63, 64, 65, 66, 67, 68, 69, 70, 71, 72, 73, 74, 75, 76, 77, 78, 79, 80, 81, 82, 83, 84, 85, 86, 87, 88, 89, 90, 91, 92, 93, 94, 95, 96, 97, 98, 99, 100, 101, 102, 103, 104, 105, 106, 107, 108, 109, 110, 111, 112, 113, 114, 115, 116, 117, 118, 119, 120, 121, 122, 123, 124, 125, 126, 127, 128, 129, 130, 131, 132, 133, 134, 135, 136, 137, 138, 139] (by decide +kernel) (by decide +kernel)) (goodIn_sub (fun _ h => List.mem_cons_of_mem _ (List.mem_append_left _ (List.mem_append_right _ h))) (by decide +kernel))) (goodIn_sub (fun _ h => List.mem_cons_of_mem _ (List.mem_append_right _ h)) (by decide +kernel))
set_option maxRecDepth 20000 in
theorem gL_pass_X5_pass : GoodIn wsL_pass (wsV RL 72 RX5 yX5_pass wsX5_pass) := goodIn_app (goodIn_of _ (by decide +kernel)) ggL_pass_X5_pass
theorem dL_pass_0 : decode cL_pass 0 = .ok (.aload_n 0, 1) := by decide +kernel
theorem dL_pass_1 : decode cL_pass 1 = .ok (.iload_n 1, 1) := by decide +kernel
theorem dL_pass_2 : decode cL_pass 2 = .ok (.invokevirtual 72, 3) := by decide +kernel
theorem dL_pass_5 : decode cL_pass 5 = .ok (.istore_n 2, 1) := by decide +kernel
theorem dL_pass_6 : decode cL_pass 6 = .ok (.goto 11, 3) := by decide +kernel
theorem dL_pass_9 : decode cL_pass 9 = .ok (.astore_n 3, 1) := by decide +kernel
theorem dL_pass_10 : decode cL_pass 10 = .ok (.ldc 19, 2) := by decide +kernel
theorem dL_pass_12 : decode cL_pass 12 = .ok (.ireturn, 1) := by decide +kernel
theorem dL_pass_13 : decode cL_pass 13 = .ok (.astore_n 3, 1) := by decide +kernel
theorem dL_pass_14 : decode cL_pass 14 = .ok (.ldc 29, 2) := by decide +kernel
theorem dL_pass_16 : decode cL_pass 16 = .ok (.ireturn, 1) := by decide +kernel
theorem dL_pass_17 : decode cL_pass 17 = .ok (.iload_n 2, 1) := by decide +kernel
theorem dL_pass_18 : decode cL_pass 18 = .ok (.ireturn, 1) := by decide +kernel
