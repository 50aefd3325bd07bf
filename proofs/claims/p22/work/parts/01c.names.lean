theorem dX5_init_0 : decode cX5_init 0 = .ok (.aload_n 0, 1) := by decide +kernel
theorem dX5_init_1 : decode cX5_init 1 = .ok (.invokespecial 3, 3) := by decide +kernel
theorem dX5_init_4 : decode cX5_init 4 = .ok (.aload_n 0, 1) := by decide +kernel
theorem dX5_init_5 : decode cX5_init 5 = .ok (.new 9, 3) := by decide +kernel
theorem dX5_init_8 : decode cX5_init 8 = .ok (.dup, 1) := by decide +kernel
theorem dX5_init_9 : decode cX5_init 9 = .ok (.invokespecial 11, 3) := by decide +kernel
theorem dX5_init_12 : decode cX5_init 12 = .ok (.putfield 12, 3) := by decide +kernel
theorem dX5_init_15 : decode cX5_init 15 = .ok (.aload_n 0, 1) := by decide +kernel
theorem dX5_init_16 : decode cX5_init 16 = .ok (.iconst 4, 1) := by decide +kernel
theorem dX5_init_17 : decode cX5_init 17 = .ok (.anewarray 16, 3) := by decide +kernel
theorem dX5_init_20 : decode cX5_init 20 = .ok (.putfield 18, 3) := by decide +kernel
theorem dX5_init_23 : decode cX5_init 23 = .ok (.iconst 0, 1) := by decide +kernel
theorem dX5_init_24 : decode cX5_init 24 = .ok (.istore_n 1, 1) := by decide +kernel
theorem dX5_init_25 : decode cX5_init 25 = .ok (.iload_n 1, 1) := by decide +kernel
theorem dX5_init_26 : decode cX5_init 26 = .ok (.aload_n 0, 1) := by decide +kernel
theorem dX5_init_27 : decode cX5_init 27 = .ok (.getfield 18, 3) := by decide +kernel
theorem dX5_init_30 : decode cX5_init 30 = .ok (.arraylength, 1) := by decide +kernel
theorem dX5_init_31 : decode cX5_init 31 = .ok (.if_icmp .ge 23, 3) := by decide +kernel
theorem dX5_init_34 : decode cX5_init 34 = .ok (.aload_n 0, 1) := by decide +kernel
theorem dX5_init_35 : decode cX5_init 35 = .ok (.getfield 18, 3) := by decide +kernel
theorem dX5_init_38 : decode cX5_init 38 = .ok (.iload_n 1, 1) := by decide +kernel
theorem dX5_init_39 : decode cX5_init 39 = .ok (.new 16, 3) := by decide +kernel
theorem dX5_init_42 : decode cX5_init 42 = .ok (.dup, 1) := by decide +kernel
theorem dX5_init_43 : decode cX5_init 43 = .ok (.iload_n 1, 1) := by decide +kernel
theorem dX5_init_44 : decode cX5_init 44 = .ok (.invokespecial 22, 3) := by decide +kernel
theorem dX5_init_47 : decode cX5_init 47 = .ok (.aastore, 1) := by decide +kernel
theorem dX5_init_48 : decode cX5_init 48 = .ok (.iinc 1 1, 3) := by decide +kernel
theorem dX5_init_51 : decode cX5_init 51 = .ok (.goto (-26), 3) := by decide +kernel
theorem dX5_init_54 : decode cX5_init 54 = .ok (.aload_n 0, 1) := by decide +kernel
theorem dX5_init_55 : decode cX5_init 55 = .ok (.iconst 5, 1) := by decide +kernel
theorem dX5_init_56 : decode cX5_init 56 = .ok (.anewarray 25, 3) := by decide +kernel
theorem dX5_init_59 : decode cX5_init 59 = .ok (.putfield 27, 3) := by decide +kernel
theorem dX5_init_62 : decode cX5_init 62 = .ok (.iconst 0, 1) := by decide +kernel
theorem dX5_init_63 : decode cX5_init 63 = .ok (.istore_n 1, 1) := by decide +kernel
theorem dX5_init_64 : decode cX5_init 64 = .ok (.iload_n 1, 1) := by decide +kernel
theorem dX5_init_65 : decode cX5_init 65 = .ok (.aload_n 0, 1) := by decide +kernel
theorem dX5_init_66 : decode cX5_init 66 = .ok (.getfield 27, 3) := by decide +kernel
theorem dX5_init_69 : decode cX5_init 69 = .ok (.arraylength, 1) := by decide +kernel
theorem dX5_init_70 : decode cX5_init 70 = .ok (.if_icmp .ge 22, 3) := by decide +kernel
theorem dX5_init_73 : decode cX5_init 73 = .ok (.aload_n 0, 1) := by decide +kernel
theorem dX5_init_74 : decode cX5_init 74 = .ok (.getfield 27, 3) := by decide +kernel
theorem dX5_init_77 : decode cX5_init 77 = .ok (.iload_n 1, 1) := by decide +kernel
theorem dX5_init_78 : decode cX5_init 78 = .ok (.new 25, 3) := by decide +kernel
theorem dX5_init_81 : decode cX5_init 81 = .ok (.dup, 1) := by decide +kernel
theorem dX5_init_82 : decode cX5_init 82 = .ok (.invokespecial 31, 3) := by decide +kernel
theorem dX5_init_85 : decode cX5_init 85 = .ok (.aastore, 1) := by decide +kernel
theorem dX5_init_86 : decode cX5_init 86 = .ok (.iinc 1 1, 3) := by decide +kernel
theorem dX5_init_89 : decode cX5_init 89 = .ok (.goto (-25), 3) := by decide +kernel
theorem dX5_init_92 : decode cX5_init 92 = .ok (.aload_n 0, 1) := by decide +kernel
theorem dX5_init_93 : decode cX5_init 93 = .ok (.bipush 20, 2) := by decide +kernel
theorem dX5_init_95 : decode cX5_init 95 = .ok (.anewarray 32, 3) := by decide +kernel
theorem dX5_init_98 : decode cX5_init 98 = .ok (.putfield 34, 3) := by decide +kernel
theorem dX5_init_101 : decode cX5_init 101 = .ok (.return_, 1) := by decide +kernel
set_option maxRecDepth 20000 in
theorem ggX5_setRate_X5_currencyNumbered : GoodIn wsX5_setRate wsX5_currencyNumbered := goodIn_ca (goodIn_r _ [6, 7, 8, 9, 10, 11, 5, 12, 21, 22, 23, 24, 25] (by decide +kernel) (by decide +kernel)) (goodIn_sub (fun _ h => List.mem_cons_of_mem _ (List.mem_append_left _ (List.mem_append_right _ h))) (by decide +kernel))
set_option maxRecDepth 20000 in
theorem gX5_setRate_X5_currencyNumbered : GoodIn wsX5_setRate (wsV RX5 38 RX5 yX5_currencyNumbered wsX5_currencyNumbered) := goodIn_app (goodIn_of _ (by decide +kernel)) ggX5_setRate_X5_currencyNumbered
set_option maxRecDepth 20000 in
theorem ggX5_setRate_X5_requireRange : GoodIn wsX5_setRate wsX5_requireRange := goodIn_ca (goodIn_r _ [15, 16, 17] (by decide +kernel) (by decide +kernel)) (goodIn_sub (fun _ h => List.mem_cons_of_mem _ (List.mem_append_right _ h)) (by decide +kernel))
set_option maxRecDepth 20000 in
theorem gX5_setRate_X5_requireRange : GoodIn wsX5_setRate (va_wsS RX5 43 yX5_requireRange wsX5_requireRange) := goodIn_app (goodIn_of _ (by decide +kernel)) ggX5_setRate_X5_requireRange
theorem dX5_setRate_0 : decode cX5_setRate 0 = .ok (.aload_n 0, 1) := by decide +kernel
theorem dX5_setRate_1 : decode cX5_setRate 1 = .ok (.iload_n 1, 1) := by decide +kernel
theorem dX5_setRate_2 : decode cX5_setRate 2 = .ok (.invokevirtual 38, 3) := by decide +kernel
theorem dX5_setRate_5 : decode cX5_setRate 5 = .ok (.astore_n 3, 1) := by decide +kernel
theorem dX5_setRate_6 : decode cX5_setRate 6 = .ok (.iload_n 2, 1) := by decide +kernel
theorem dX5_setRate_7 : decode cX5_setRate 7 = .ok (.iconst 1, 1) := by decide +kernel
theorem dX5_setRate_8 : decode cX5_setRate 8 = .ok (.ldc 42, 2) := by decide +kernel
theorem dX5_setRate_10 : decode cX5_setRate 10 = .ok (.invokestatic 43, 3) := by decide +kernel
theorem dX5_setRate_13 : decode cX5_setRate 13 = .ok (.aload_n 3, 1) := by decide +kernel
theorem dX5_setRate_14 : decode cX5_setRate 14 = .ok (.getfield 47, 3) := by decide +kernel
theorem dX5_setRate_17 : decode cX5_setRate 17 = .ok (.istore 4, 2) := by decide +kernel
theorem dX5_setRate_19 : decode cX5_setRate 19 = .ok (.aload_n 3, 1) := by decide +kernel
theorem dX5_setRate_20 : decode cX5_setRate 20 = .ok (.iload_n 2, 1) := by decide +kernel
theorem dX5_setRate_21 : decode cX5_setRate 21 = .ok (.putfield 47, 3) := by decide +kernel
theorem dX5_setRate_24 : decode cX5_setRate 24 = .ok (.iload 4, 2) := by decide +kernel
theorem dX5_setRate_26 : decode cX5_setRate 26 = .ok (.ireturn, 1) := by decide +kernel
set_option maxRecDepth 20000 in
theorem ggX5_setPoints_X5_currencyNumbered : GoodIn wsX5_setPoints wsX5_currencyNumbered := goodIn_ca (goodIn_r _ [5, 6, 7, 8, 9, 10, 4, 11, 20, 21, 22, 23, 24] (by decide +kernel) (by decide +kernel)) (goodIn_sub (fun _ h => List.mem_cons_of_mem _ (List.mem_append_left _ (List.mem_append_right _ h))) (by decide +kernel))
set_option maxRecDepth 20000 in
theorem gX5_setPoints_X5_currencyNumbered : GoodIn wsX5_setPoints (wsV RX5 38 RX5 yX5_currencyNumbered wsX5_currencyNumbered) := goodIn_app (goodIn_of _ (by decide +kernel)) ggX5_setPoints_X5_currencyNumbered
set_option maxRecDepth 20000 in
theorem ggX5_setPoints_X5_requireRange : GoodIn wsX5_setPoints wsX5_requireRange := goodIn_ca (goodIn_r _ [14, 15, 16] (by decide +kernel) (by decide +kernel)) (goodIn_sub (fun _ h => List.mem_cons_of_mem _ (List.mem_append_right _ h)) (by decide +kernel))
set_option maxRecDepth 20000 in
theorem gX5_setPoints_X5_requireRange : GoodIn wsX5_setPoints (va_wsS RX5 43 yX5_requireRange wsX5_requireRange) := goodIn_app (goodIn_of _ (by decide +kernel)) ggX5_setPoints_X5_requireRange
theorem dX5_setPoints_0 : decode cX5_setPoints 0 = .ok (.aload_n 0, 1) := by decide +kernel
theorem dX5_setPoints_1 : decode cX5_setPoints 1 = .ok (.iload_n 1, 1) := by decide +kernel
theorem dX5_setPoints_2 : decode cX5_setPoints 2 = .ok (.invokevirtual 38, 3) := by decide +kernel
theorem dX5_setPoints_5 : decode cX5_setPoints 5 = .ok (.astore_n 3, 1) := by decide +kernel
theorem dX5_setPoints_6 : decode cX5_setPoints 6 = .ok (.iload_n 2, 1) := by decide +kernel
theorem dX5_setPoints_7 : decode cX5_setPoints 7 = .ok (.bipush (-50), 2) := by decide +kernel
theorem dX5_setPoints_9 : decode cX5_setPoints 9 = .ok (.bipush 50, 2) := by decide +kernel
theorem dX5_setPoints_11 : decode cX5_setPoints 11 = .ok (.invokestatic 43, 3) := by decide +kernel
theorem dX5_setPoints_14 : decode cX5_setPoints 14 = .ok (.aload_n 3, 1) := by decide +kernel
theorem dX5_setPoints_15 : decode cX5_setPoints 15 = .ok (.getfield 51, 3) := by decide +kernel
theorem dX5_setPoints_18 : decode cX5_setPoints 18 = .ok (.istore 4, 2) := by decide +kernel
theorem dX5_setPoints_20 : decode cX5_setPoints 20 = .ok (.aload_n 3, 1) := by decide +kernel
theorem dX5_setPoints_21 : decode cX5_setPoints 21 = .ok (.iload_n 2, 1) := by decide +kernel
theorem dX5_setPoints_22 : decode cX5_setPoints 22 = .ok (.putfield 51, 3) := by decide +kernel
theorem dX5_setPoints_25 : decode cX5_setPoints 25 = .ok (.iload 4, 2) := by decide +kernel
theorem dX5_setPoints_27 : decode cX5_setPoints 27 = .ok (.ireturn, 1) := by decide +kernel
set_option maxRecDepth 20000 in
theorem ggX5_toggleHoliday_X5_requireRange : GoodIn wsX5_toggleHoliday wsX5_requireRange := goodIn_ca (goodIn_r _ [7, 8, 9] (by decide +kernel) (by decide +kernel)) (goodIn_sub (fun _ h => List.mem_cons_of_mem _ (List.mem_append_right _ h)) (by decide +kernel))
set_option maxRecDepth 20000 in
theorem gX5_toggleHoliday_X5_requireRange : GoodIn wsX5_toggleHoliday (va_wsS RX5 43 yX5_requireRange wsX5_requireRange) := goodIn_app (goodIn_of _ (by decide +kernel)) ggX5_toggleHoliday_X5_requireRange
set_option maxRecDepth 20000 in
theorem ggX5_toggleHoliday_X1_flipHoliday : GoodIn wsX5_toggleHoliday wsX1_flipHoliday := goodIn_r _ [14, 15, 16, 6, 17, 23, 24] (by decide +kernel) (by decide +kernel)
set_option maxRecDepth 20000 in
theorem gX5_toggleHoliday_X1_flipHoliday : GoodIn wsX5_toggleHoliday (wsV RX5 64 RX1 yX1_flipHoliday wsX1_flipHoliday) := goodIn_app (goodIn_of _ (by decide +kernel)) ggX5_toggleHoliday_X1_flipHoliday
theorem dX5_toggleHoliday_0 : decode cX5_toggleHoliday 0 = .ok (.iload_n 1, 1) := by decide +kernel
theorem dX5_toggleHoliday_1 : decode cX5_toggleHoliday 1 = .ok (.iconst 1, 1) := by decide +kernel
theorem dX5_toggleHoliday_2 : decode cX5_toggleHoliday 2 = .ok (.sipush 1000, 3) := by decide +kernel
theorem dX5_toggleHoliday_5 : decode cX5_toggleHoliday 5 = .ok (.invokestatic 43, 3) := by decide +kernel
theorem dX5_toggleHoliday_8 : decode cX5_toggleHoliday 8 = .ok (.iload_n 1, 1) := by decide +kernel
theorem dX5_toggleHoliday_9 : decode cX5_toggleHoliday 9 = .ok (.aload_n 0, 1) := by decide +kernel
theorem dX5_toggleHoliday_10 : decode cX5_toggleHoliday 10 = .ok (.getfield 12, 3) := by decide +kernel
theorem dX5_toggleHoliday_13 : decode cX5_toggleHoliday 13 = .ok (.getfield 54, 3) := by decide +kernel
theorem dX5_toggleHoliday_16 : decode cX5_toggleHoliday 16 = .ok (.if_icmp .gt 13, 3) := by decide +kernel
theorem dX5_toggleHoliday_19 : decode cX5_toggleHoliday 19 = .ok (.new 57, 3) := by decide +kernel
theorem dX5_toggleHoliday_22 : decode cX5_toggleHoliday 22 = .ok (.dup, 1) := by decide +kernel
theorem dX5_toggleHoliday_23 : decode cX5_toggleHoliday 23 = .ok (.ldc 59, 2) := by decide +kernel
theorem dX5_toggleHoliday_25 : decode cX5_toggleHoliday 25 = .ok (.invokespecial 61, 3) := by decide +kernel
theorem dX5_toggleHoliday_28 : decode cX5_toggleHoliday 28 = .ok (.athrow, 1) := by decide +kernel
theorem dX5_toggleHoliday_29 : decode cX5_toggleHoliday 29 = .ok (.aload_n 0, 1) := by decide +kernel
theorem dX5_toggleHoliday_30 : decode cX5_toggleHoliday 30 = .ok (.getfield 12, 3) := by decide +kernel
theorem dX5_toggleHoliday_33 : decode cX5_toggleHoliday 33 = .ok (.iload_n 1, 1) := by decide +kernel
theorem dX5_toggleHoliday_34 : decode cX5_toggleHoliday 34 = .ok (.invokevirtual 64, 3) := by decide +kernel
theorem dX5_toggleHoliday_37 : decode cX5_toggleHoliday 37 = .ok (.ireturn, 1) := by decide +kernel
set_option maxRecDepth 20000 in
theorem ggX5_setLimit_X5_customerNumbered : GoodIn wsX5_setLimit wsX5_customerNumbered := goodIn_ca (goodIn_r _ [6, 7, 8, 9, 10, 11, 5, 12, 21, 22, 23, 24, 25] (by decide +kernel) (by decide +kernel)) (goodIn_sub (fun _ h => List.mem_cons_of_mem _ (List.mem_append_left _ (List.mem_append_right _ h))) (by decide +kernel))
set_option maxRecDepth 20000 in
theorem gX5_setLimit_X5_customerNumbered : GoodIn wsX5_setLimit (wsV RX5 68 RX5 yX5_customerNumbered wsX5_customerNumbered) := goodIn_app (goodIn_of _ (by decide +kernel)) ggX5_setLimit_X5_customerNumbered
set_option maxRecDepth 20000 in
theorem ggX5_setLimit_X5_requireRange : GoodIn wsX5_setLimit wsX5_requireRange := goodIn_ca (goodIn_r _ [15, 16, 17] (by decide +kernel) (by decide +kernel)) (goodIn_sub (fun _ h => List.mem_cons_of_mem _ (List.mem_append_right _ h)) (by decide +kernel))
set_option maxRecDepth 20000 in
theorem gX5_setLimit_X5_requireRange : GoodIn wsX5_setLimit (va_wsS RX5 43 yX5_requireRange wsX5_requireRange) := goodIn_app (goodIn_of _ (by decide +kernel)) ggX5_setLimit_X5_requireRange
theorem dX5_setLimit_0 : decode cX5_setLimit 0 = .ok (.aload_n 0, 1) := by decide +kernel
theorem dX5_setLimit_1 : decode cX5_setLimit 1 = .ok (.iload_n 1, 1) := by decide +kernel
theorem dX5_setLimit_2 : decode cX5_setLimit 2 = .ok (.invokevirtual 68, 3) := by decide +kernel
theorem dX5_setLimit_5 : decode cX5_setLimit 5 = .ok (.astore_n 3, 1) := by decide +kernel
theorem dX5_setLimit_6 : decode cX5_setLimit 6 = .ok (.iload_n 2, 1) := by decide +kernel
theorem dX5_setLimit_7 : decode cX5_setLimit 7 = .ok (.iconst 0, 1) := by decide +kernel
theorem dX5_setLimit_8 : decode cX5_setLimit 8 = .ok (.ldc 72, 2) := by decide +kernel
theorem dX5_setLimit_10 : decode cX5_setLimit 10 = .ok (.invokestatic 43, 3) := by decide +kernel
theorem dX5_setLimit_13 : decode cX5_setLimit 13 = .ok (.aload_n 3, 1) := by decide +kernel
theorem dX5_setLimit_14 : decode cX5_setLimit 14 = .ok (.getfield 73, 3) := by decide +kernel
theorem dX5_setLimit_17 : decode cX5_setLimit 17 = .ok (.istore 4, 2) := by decide +kernel
theorem dX5_setLimit_19 : decode cX5_setLimit 19 = .ok (.aload_n 3, 1) := by decide +kernel
theorem dX5_setLimit_20 : decode cX5_setLimit 20 = .ok (.iload_n 2, 1) := by decide +kernel
theorem dX5_setLimit_21 : decode cX5_setLimit 21 = .ok (.putfield 73, 3) := by decide +kernel
theorem dX5_setLimit_24 : decode cX5_setLimit 24 = .ok (.iload 4, 2) := by decide +kernel
theorem dX5_setLimit_26 : decode cX5_setLimit 26 = .ok (.ireturn, 1) := by decide +kernel
set_option maxRecDepth 20000 in
theorem ggX5_forward_X5_currencyNumbered : GoodIn wsX5_forward wsX5_currencyNumbered := goodIn_ca (goodIn_r _ [5, 6, 7, 8, 9, 10, 4, 11, 32, 33, 34, 35, 36] (by decide +kernel) (by decide +kernel)) (goodIn_sub (fun _ h => List.mem_cons_of_mem _ (List.mem_append_left _ (List.mem_append_right _ h))) (by decide +kernel))
set_option maxRecDepth 20000 in
theorem gX5_forward_X5_currencyNumbered : GoodIn wsX5_forward (wsV RX5 38 RX5 yX5_currencyNumbered wsX5_currencyNumbered) := goodIn_app (goodIn_of _ (by decide +kernel)) ggX5_forward_X5_currencyNumbered
set_option maxRecDepth 20000 in
theorem ggX5_forward_X5_requireRange : GoodIn wsX5_forward wsX5_requireRange := goodIn_ca (goodIn_r _ [14, 15, 16] (by decide +kernel) (by decide +kernel)) (goodIn_sub (fun _ h => List.mem_cons_of_mem _ (List.mem_append_right _ h)) (by decide +kernel))
set_option maxRecDepth 20000 in
theorem gX5_forward_X5_requireRange : GoodIn wsX5_forward (va_wsS RX5 43 yX5_requireRange wsX5_requireRange) := goodIn_app (goodIn_of _ (by decide +kernel)) ggX5_forward_X5_requireRange
set_option maxRecDepth 20000 in
theorem ggX5_forward_X2_forwardRate : GoodIn wsX5_forward wsX2_forwardRate := goodIn_r _ [21, 22, 23, 24, 25, 20, 26, 27, 28, 29, 30, 31, 37, 38, 39] (by decide +kernel) (by decide +kernel)
set_option maxRecDepth 20000 in
theorem gX5_forward_X2_forwardRate : GoodIn wsX5_forward (wsV RX5 76 RX2 yX2_forwardRate wsX2_forwardRate) := goodIn_app (goodIn_of _ (by decide +kernel)) ggX5_forward_X2_forwardRate
theorem dX5_forward_0 : decode cX5_forward 0 = .ok (.aload_n 0, 1) := by decide +kernel
theorem dX5_forward_1 : decode cX5_forward 1 = .ok (.iload_n 1, 1) := by decide +kernel
theorem dX5_forward_2 : decode cX5_forward 2 = .ok (.invokevirtual 38, 3) := by decide +kernel
theorem dX5_forward_5 : decode cX5_forward 5 = .ok (.astore_n 3, 1) := by decide +kernel
theorem dX5_forward_6 : decode cX5_forward 6 = .ok (.iload_n 2, 1) := by decide +kernel
theorem dX5_forward_7 : decode cX5_forward 7 = .ok (.iconst 0, 1) := by decide +kernel
theorem dX5_forward_8 : decode cX5_forward 8 = .ok (.sipush 400, 3) := by decide +kernel
theorem dX5_forward_11 : decode cX5_forward 11 = .ok (.invokestatic 43, 3) := by decide +kernel
theorem dX5_forward_14 : decode cX5_forward 14 = .ok (.aload_n 3, 1) := by decide +kernel
theorem dX5_forward_15 : decode cX5_forward 15 = .ok (.iload_n 2, 1) := by decide +kernel
theorem dX5_forward_16 : decode cX5_forward 16 = .ok (.invokevirtual 76, 3) := by decide +kernel
theorem dX5_forward_19 : decode cX5_forward 19 = .ok (.ireturn, 1) := by decide +kernel
set_option maxRecDepth 20000 in
theorem ggX5_deal_X5_customerNumbered : GoodIn wsX5_deal wsX5_customerNumbered := goodIn_ca (goodIn_r _ [14, 15, 16, 17, 18, 19, 13, 20, 90, 91, 92, 93, 94] (by decide +kernel) (by decide +kernel)) (goodIn_sub (fun _ h => List.mem_cons_of_mem _ (List.mem_append_left _ (List.mem_append_right _ h))) (by decide +kernel))
set_option maxRecDepth 20000 in
theorem gX5_deal_X5_customerNumbered : GoodIn wsX5_deal (wsV RX5 68 RX5 yX5_customerNumbered wsX5_customerNumbered) := goodIn_app (goodIn_of _ (by decide +kernel)) ggX5_deal_X5_customerNumbered
set_option maxRecDepth 20000 in
theorem ggX5_deal_X5_currencyNumbered : GoodIn wsX5_deal wsX5_currencyNumbered := goodIn_ca (goodIn_r _ [24, 15, 16, 25, 18, 19, 13, 20, 90, 91, 92, 93, 94] (by decide +kernel) (by decide +kernel)) (goodIn_sub (fun _ h => List.mem_cons_of_mem _ (List.mem_append_left _ (List.mem_append_right _ h))) (by decide +kernel))
set_option maxRecDepth 20000 in
theorem gX5_deal_X5_currencyNumbered : GoodIn wsX5_deal (wsV RX5 38 RX5 yX5_currencyNumbered wsX5_currencyNumbered) := goodIn_app (goodIn_of _ (by decide +kernel)) ggX5_deal_X5_currencyNumbered
set_option maxRecDepth 20000 in
theorem ggX5_deal_X5_requireRange : GoodIn wsX5_deal wsX5_requireRange := goodIn_ca (goodIn_r _ [28, 29, 30] (by decide +kernel) (by decide +kernel)) (goodIn_sub (fun _ h => List.mem_cons_of_mem _ (List.mem_append_right _ h)) (by decide +kernel))
set_option maxRecDepth 20000 in
theorem gX5_deal_X5_requireRange : GoodIn wsX5_deal (va_wsS RX5 43 yX5_requireRange wsX5_requireRange) := goodIn_app (goodIn_of _ (by decide +kernel)) ggX5_deal_X5_requireRange
set_option maxRecDepth 20000 in
theorem ggX5_deal_X5_isIndex : GoodIn wsX5_deal wsX5_isIndex := goodIn_r _ [20] (by decide +kernel) (by decide +kernel)
set_option maxRecDepth 20000 in
theorem gX5_deal_X5_isIndex : GoodIn wsX5_deal (va_wsS RX5 84 yX5_isIndex wsX5_isIndex) := goodIn_app (goodIn_of _ (by decide +kernel)) ggX5_deal_X5_isIndex
set_option maxRecDepth 20000 in
theorem ggX5_deal_X2_forwardRate : GoodIn wsX5_deal wsX2_forwardRate := goodIn_r _ [35, 36, 37, 38, 39, 34, 40, 41, 42, 43, 44, 45, 107, 108, 109] (by decide +kernel) (by decide +kernel)
set_option maxRecDepth 20000 in
theorem gX5_deal_X2_forwardRate : GoodIn wsX5_deal (wsV RX5 76 RX2 yX2_forwardRate wsX2_forwardRate) := goodIn_app (goodIn_of _ (by decide +kernel)) ggX5_deal_X2_forwardRate
set_option maxRecDepth 20000 in
theorem ggX5_deal_X4_init : GoodIn wsX5_deal wsX4_init := goodIn_r _ [48, 49, 50, 51, 52, 53, 54, 55, 56, 57, 58, 97, 98, 99, 100, 101, 102, 103] (by decide +kernel) (by decide +kernel)
set_option maxRecDepth 20000 in
theorem gX5_deal_X4_init : GoodIn wsX5_deal (wsX4_init) := ggX5_deal_X4_init
set_option maxRecDepth 20000 in
theorem ggX5_deal_X5_exposureWith : GoodIn wsX5_deal wsX5_exposureWith := goodIn_r _ [62, 6, 63, 64, 65, 13, 66, 5, 67, 68, 69, 9, 70, 71, 43, 44, 45, 72, 73, 74, 75, 53, 58, 76, 32, 33, 34, 35, 36, 37, 38, 39, 40, 41, 42, 77, 78, 79, 80, 55, 56, 54, 81, 82, 83, 84, 85, 86, 87, 88, 89, 90, 91, 92, 93, 94, 95, 96, 97, 98, 99, 100, 101, 102, 103, 107, 108, 109] (by decide +kernel) (by decide +kernel)
set_option maxRecDepth 20000 in
theorem gX5_deal_X5_exposureWith : GoodIn wsX5_deal (wsV RX5 93 RX5 yX5_exposureWith wsX5_exposureWith) := goodIn_app (goodIn_of _ (by decide +kernel)) ggX5_deal_X5_exposureWith
theorem dX5_deal_0 : decode cX5_deal 0 = .ok (.aload_n 0, 1) := by decide +kernel
theorem dX5_deal_1 : decode cX5_deal 1 = .ok (.iload_n 1, 1) := by decide +kernel
theorem dX5_deal_2 : decode cX5_deal 2 = .ok (.invokevirtual 68, 3) := by decide +kernel
theorem dX5_deal_5 : decode cX5_deal 5 = .ok (.astore 7, 2) := by decide +kernel
theorem dX5_deal_7 : decode cX5_deal 7 = .ok (.aload_n 0, 1) := by decide +kernel
theorem dX5_deal_8 : decode cX5_deal 8 = .ok (.iload_n 2, 1) := by decide +kernel
theorem dX5_deal_9 : decode cX5_deal 9 = .ok (.invokevirtual 38, 3) := by decide +kernel
theorem dX5_deal_12 : decode cX5_deal 12 = .ok (.astore 8, 2) := by decide +kernel
theorem dX5_deal_14 : decode cX5_deal 14 = .ok (.iload 4, 2) := by decide +kernel
theorem dX5_deal_16 : decode cX5_deal 16 = .ok (.iconst 1, 1) := by decide +kernel
theorem dX5_deal_17 : decode cX5_deal 17 = .ok (.ldc 80, 2) := by decide +kernel
theorem dX5_deal_19 : decode cX5_deal 19 = .ok (.invokestatic 43, 3) := by decide +kernel
theorem dX5_deal_22 : decode cX5_deal 22 = .ok (.iload 5, 2) := by decide +kernel
theorem dX5_deal_24 : decode cX5_deal 24 = .ok (.iconst 0, 1) := by decide +kernel
theorem dX5_deal_25 : decode cX5_deal 25 = .ok (.sipush 400, 3) := by decide +kernel
theorem dX5_deal_28 : decode cX5_deal 28 = .ok (.invokestatic 43, 3) := by decide +kernel
theorem dX5_deal_31 : decode cX5_deal 31 = .ok (.iload 6, 2) := by decide +kernel
theorem dX5_deal_33 : decode cX5_deal 33 = .ok (.iload 5, 2) := by decide +kernel
theorem dX5_deal_35 : decode cX5_deal 35 = .ok (.sipush 400, 3) := by decide +kernel
theorem dX5_deal_38 : decode cX5_deal 38 = .ok (.invokestatic 43, 3) := by decide +kernel
theorem dX5_deal_41 : decode cX5_deal 41 = .ok (.aload_n 0, 1) := by decide +kernel
theorem dX5_deal_42 : decode cX5_deal 42 = .ok (.getfield 81, 3) := by decide +kernel
theorem dX5_deal_45 : decode cX5_deal 45 = .ok (.istore 9, 2) := by decide +kernel
theorem dX5_deal_47 : decode cX5_deal 47 = .ok (.iload 9, 2) := by decide +kernel
theorem dX5_deal_49 : decode cX5_deal 49 = .ok (.aload_n 0, 1) := by decide +kernel
theorem dX5_deal_50 : decode cX5_deal 50 = .ok (.getfield 34, 3) := by decide +kernel
theorem dX5_deal_53 : decode cX5_deal 53 = .ok (.arraylength, 1) := by decide +kernel
theorem dX5_deal_54 : decode cX5_deal 54 = .ok (.invokestatic 84, 3) := by decide +kernel
theorem dX5_deal_57 : decode cX5_deal 57 = .ok (.ifCond .ne 13, 3) := by decide +kernel
theorem dX5_deal_60 : decode cX5_deal 60 = .ok (.new 57, 3) := by decide +kernel
theorem dX5_deal_63 : decode cX5_deal 63 = .ok (.dup, 1) := by decide +kernel
theorem dX5_deal_64 : decode cX5_deal 64 = .ok (.ldc 88, 2) := by decide +kernel
theorem dX5_deal_66 : decode cX5_deal 66 = .ok (.invokespecial 61, 3) := by decide +kernel
theorem dX5_deal_69 : decode cX5_deal 69 = .ok (.athrow, 1) := by decide +kernel
theorem dX5_deal_70 : decode cX5_deal 70 = .ok (.aload_n 0, 1) := by decide +kernel
theorem dX5_deal_71 : decode cX5_deal 71 = .ok (.getfield 12, 3) := by decide +kernel
theorem dX5_deal_74 : decode cX5_deal 74 = .ok (.getfield 54, 3) := by decide +kernel
theorem dX5_deal_77 : decode cX5_deal 77 = .ok (.istore 10, 2) := by decide +kernel
theorem dX5_deal_79 : decode cX5_deal 79 = .ok (.new 32, 3) := by decide +kernel
theorem dX5_deal_82 : decode cX5_deal 82 = .ok (.dup, 1) := by decide +kernel
theorem dX5_deal_83 : decode cX5_deal 83 = .ok (.aload 7, 2) := by decide +kernel
theorem dX5_deal_85 : decode cX5_deal 85 = .ok (.aload 8, 2) := by decide +kernel
theorem dX5_deal_87 : decode cX5_deal 87 = .ok (.iload_n 3, 1) := by decide +kernel
theorem dX5_deal_88 : decode cX5_deal 88 = .ok (.iload 4, 2) := by decide +kernel
theorem dX5_deal_90 : decode cX5_deal 90 = .ok (.aload 8, 2) := by decide +kernel
theorem dX5_deal_92 : decode cX5_deal 92 = .ok (.iload 6, 2) := by decide +kernel
theorem dX5_deal_94 : decode cX5_deal 94 = .ok (.invokevirtual 76, 3) := by decide +kernel
theorem dX5_deal_97 : decode cX5_deal 97 = .ok (.iload 10, 2) := by decide +kernel
theorem dX5_deal_99 : decode cX5_deal 99 = .ok (.iload 5, 2) := by decide +kernel
theorem dX5_deal_101 : decode cX5_deal 101 = .ok (.iadd, 1) := by decide +kernel
theorem dX5_deal_102 : decode cX5_deal 102 = .ok (.iload 10, 2) := by decide +kernel
theorem dX5_deal_104 : decode cX5_deal 104 = .ok (.iload 6, 2) := by decide +kernel
theorem dX5_deal_106 : decode cX5_deal 106 = .ok (.iadd, 1) := by decide +kernel
theorem dX5_deal_107 : decode cX5_deal 107 = .ok (.invokespecial 90, 3) := by decide +kernel
theorem dX5_deal_110 : decode cX5_deal 110 = .ok (.astore 11, 2) := by decide +kernel
theorem dX5_deal_112 : decode cX5_deal 112 = .ok (.aload_n 0, 1) := by decide +kernel
theorem dX5_deal_113 : decode cX5_deal 113 = .ok (.aload 7, 2) := by decide +kernel
theorem dX5_deal_115 : decode cX5_deal 115 = .ok (.aload 11, 2) := by decide +kernel
theorem dX5_deal_117 : decode cX5_deal 117 = .ok (.invokevirtual 93, 3) := by decide +kernel
theorem dX5_deal_120 : decode cX5_deal 120 = .ok (.aload 7, 2) := by decide +kernel
theorem dX5_deal_122 : decode cX5_deal 122 = .ok (.getfield 73, 3) := by decide +kernel
theorem dX5_deal_125 : decode cX5_deal 125 = .ok (.i2l, 1) := by decide +kernel
theorem dX5_deal_126 : decode cX5_deal 126 = .ok (.lcmp, 1) := by decide +kernel
theorem dX5_deal_127 : decode cX5_deal 127 = .ok (.ifCond .le 13, 3) := by decide +kernel
theorem dX5_deal_130 : decode cX5_deal 130 = .ok (.new 57, 3) := by decide +kernel
theorem dX5_deal_133 : decode cX5_deal 133 = .ok (.dup, 1) := by decide +kernel
theorem dX5_deal_134 : decode cX5_deal 134 = .ok (.ldc 97, 2) := by decide +kernel
theorem dX5_deal_136 : decode cX5_deal 136 = .ok (.invokespecial 61, 3) := by decide +kernel
theorem dX5_deal_139 : decode cX5_deal 139 = .ok (.athrow, 1) := by decide +kernel
theorem dX5_deal_140 : decode cX5_deal 140 = .ok (.aload_n 0, 1) := by decide +kernel
theorem dX5_deal_141 : decode cX5_deal 141 = .ok (.getfield 34, 3) := by decide +kernel
theorem dX5_deal_144 : decode cX5_deal 144 = .ok (.iload 9, 2) := by decide +kernel
theorem dX5_deal_146 : decode cX5_deal 146 = .ok (.aload 11, 2) := by decide +kernel
theorem dX5_deal_148 : decode cX5_deal 148 = .ok (.aastore, 1) := by decide +kernel
theorem dX5_deal_149 : decode cX5_deal 149 = .ok (.aload_n 0, 1) := by decide +kernel
theorem dX5_deal_150 : decode cX5_deal 150 = .ok (.iload 9, 2) := by decide +kernel
theorem dX5_deal_152 : decode cX5_deal 152 = .ok (.iconst 1, 1) := by decide +kernel
theorem dX5_deal_153 : decode cX5_deal 153 = .ok (.iadd, 1) := by decide +kernel
theorem dX5_deal_154 : decode cX5_deal 154 = .ok (.putfield 81, 3) := by decide +kernel
theorem dX5_deal_157 : decode cX5_deal 157 = .ok (.iload 9, 2) := by decide +kernel
theorem dX5_deal_159 : decode cX5_deal 159 = .ok (.ireturn, 1) := by decide +kernel
set_option maxRecDepth 20000 in
theorem ggX5_draw_X5_dealNumbered : GoodIn wsX5_draw wsX5_dealNumbered := goodIn_ca (goodIn_r _ [6, 7, 8, 9, 10, 11, 5, 12, 78, 79, 80, 81, 82] (by decide +kernel) (by decide +kernel)) (goodIn_sub (fun _ h => List.mem_cons_of_mem _ (List.mem_append_left _ (List.mem_append_right _ h))) (by decide +kernel))
set_option maxRecDepth 20000 in
theorem gX5_draw_X5_dealNumbered : GoodIn wsX5_draw (wsV RX5 99 RX5 yX5_dealNumbered wsX5_dealNumbered) := goodIn_app (goodIn_of _ (by decide +kernel)) ggX5_draw_X5_dealNumbered
set_option maxRecDepth 20000 in
theorem ggX5_draw_X5_requireRange : GoodIn wsX5_draw wsX5_requireRange := goodIn_ca (goodIn_r _ [15, 16, 17] (by decide +kernel) (by decide +kernel)) (goodIn_sub (fun _ h => List.mem_cons_of_mem _ (List.mem_append_right _ h)) (by decide +kernel))
set_option maxRecDepth 20000 in
theorem gX5_draw_X5_requireRange : GoodIn wsX5_draw (va_wsS RX5 43 yX5_requireRange wsX5_requireRange) := goodIn_app (goodIn_of _ (by decide +kernel)) ggX5_draw_X5_requireRange
set_option maxRecDepth 20000 in
theorem ggX5_draw_X4_drawingRate : GoodIn wsX5_draw wsX4_drawingRate := goodIn_r _ [22, 23, 24, 25, 26, 27, 28, 29, 30, 31, 32, 33, 34, 35, 71, 72, 73, 74, 75, 76, 77, 85, 86, 87] (by decide +kernel) (by decide +kernel)
set_option maxRecDepth 20000 in
theorem gX5_draw_X4_drawingRate : GoodIn wsX5_draw (wsV RX5 106 RX4 yX4_drawingRate wsX4_drawingRate) := goodIn_app (goodIn_of _ (by decide +kernel)) ggX5_draw_X4_drawingRate
set_option maxRecDepth 20000 in
theorem ggX5_draw_X5_homeAmount : GoodIn wsX5_draw wsX5_homeAmount := goodIn_r _ [38, 39] (by decide +kernel) (by decide +kernel)
set_option maxRecDepth 20000 in
theorem gX5_draw_X5_homeAmount : GoodIn wsX5_draw (va_wsS RX5 109 yX5_homeAmount wsX5_homeAmount) := goodIn_app (goodIn_of _ (by decide +kernel)) ggX5_draw_X5_homeAmount
set_option maxRecDepth 20000 in
theorem ggX5_draw_X1_nextBusinessDay : GoodIn wsX5_draw wsX1_nextBusinessDay := goodIn_r _ [44, 45, 46, 47, 48, 43, 49, 50, 11, 5, 12, 83, 84] (by decide +kernel) (by decide +kernel)
set_option maxRecDepth 20000 in
theorem gX5_draw_X1_nextBusinessDay : GoodIn wsX5_draw (wsV RX5 113 RX1 yX1_nextBusinessDay wsX1_nextBusinessDay) := goodIn_app (goodIn_of _ (by decide +kernel)) ggX5_draw_X1_nextBusinessDay
set_option maxRecDepth 20000 in
theorem ggX5_draw_X3_book : GoodIn wsX5_draw wsX3_book := goodIn_r _ [55, 56, 57, 58, 59, 11, 5, 12, 60, 61, 62, 63, 64, 65, 66, 67, 68, 69, 70, 88, 89, 90, 91] (by decide +kernel) (by decide +kernel)
set_option maxRecDepth 20000 in
theorem gX5_draw_X3_book : GoodIn wsX5_draw (wsV RX5 132 RX3 yX3_book wsX3_book) := goodIn_app (goodIn_of _ (by decide +kernel)) ggX5_draw_X3_book
theorem dX5_draw_0 : decode cX5_draw 0 = .ok (.aload_n 0, 1) := by decide +kernel
theorem dX5_draw_1 : decode cX5_draw 1 = .ok (.iload_n 1, 1) := by decide +kernel
theorem dX5_draw_2 : decode cX5_draw 2 = .ok (.invokevirtual 99, 3) := by decide +kernel
theorem dX5_draw_5 : decode cX5_draw 5 = .ok (.astore_n 3, 1) := by decide +kernel
theorem dX5_draw_6 : decode cX5_draw 6 = .ok (.iload_n 2, 1) := by decide +kernel
theorem dX5_draw_7 : decode cX5_draw 7 = .ok (.iconst 1, 1) := by decide +kernel
theorem dX5_draw_8 : decode cX5_draw 8 = .ok (.aload_n 3, 1) := by decide +kernel
theorem dX5_draw_9 : decode cX5_draw 9 = .ok (.getfield 103, 3) := by decide +kernel
theorem dX5_draw_12 : decode cX5_draw 12 = .ok (.invokestatic 43, 3) := by decide +kernel
theorem dX5_draw_15 : decode cX5_draw 15 = .ok (.aload_n 3, 1) := by decide +kernel
theorem dX5_draw_16 : decode cX5_draw 16 = .ok (.aload_n 0, 1) := by decide +kernel
theorem dX5_draw_17 : decode cX5_draw 17 = .ok (.getfield 12, 3) := by decide +kernel
theorem dX5_draw_20 : decode cX5_draw 20 = .ok (.getfield 54, 3) := by decide +kernel
theorem dX5_draw_23 : decode cX5_draw 23 = .ok (.invokevirtual 106, 3) := by decide +kernel
theorem dX5_draw_26 : decode cX5_draw 26 = .ok (.istore 4, 2) := by decide +kernel
theorem dX5_draw_28 : decode cX5_draw 28 = .ok (.iload_n 2, 1) := by decide +kernel
theorem dX5_draw_29 : decode cX5_draw 29 = .ok (.iload 4, 2) := by decide +kernel
theorem dX5_draw_31 : decode cX5_draw 31 = .ok (.invokestatic 109, 3) := by decide +kernel
theorem dX5_draw_34 : decode cX5_draw 34 = .ok (.lstore 5, 2) := by decide +kernel
theorem dX5_draw_36 : decode cX5_draw 36 = .ok (.aload_n 0, 1) := by decide +kernel
theorem dX5_draw_37 : decode cX5_draw 37 = .ok (.getfield 12, 3) := by decide +kernel
theorem dX5_draw_40 : decode cX5_draw 40 = .ok (.invokevirtual 113, 3) := by decide +kernel
theorem dX5_draw_43 : decode cX5_draw 43 = .ok (.istore 7, 2) := by decide +kernel
theorem dX5_draw_45 : decode cX5_draw 45 = .ok (.aload_n 3, 1) := by decide +kernel
theorem dX5_draw_46 : decode cX5_draw 46 = .ok (.getfield 117, 3) := by decide +kernel
theorem dX5_draw_49 : decode cX5_draw 49 = .ok (.aload_n 3, 1) := by decide +kernel
theorem dX5_draw_50 : decode cX5_draw 50 = .ok (.getfield 121, 3) := by decide +kernel
theorem dX5_draw_53 : decode cX5_draw 53 = .ok (.getfield 125, 3) := by decide +kernel
theorem dX5_draw_56 : decode cX5_draw 56 = .ok (.iload 7, 2) := by decide +kernel
theorem dX5_draw_58 : decode cX5_draw 58 = .ok (.aload_n 3, 1) := by decide +kernel
theorem dX5_draw_59 : decode cX5_draw 59 = .ok (.getfield 128, 3) := by decide +kernel
theorem dX5_draw_62 : decode cX5_draw 62 = .ok (.ifCond .eq 8, 3) := by decide +kernel
theorem dX5_draw_65 : decode cX5_draw 65 = .ok (.iload_n 2, 1) := by decide +kernel
theorem dX5_draw_66 : decode cX5_draw 66 = .ok (.i2l, 1) := by decide +kernel
theorem dX5_draw_67 : decode cX5_draw 67 = .ok (.goto 6, 3) := by decide +kernel
theorem dX5_draw_70 : decode cX5_draw 70 = .ok (.iload_n 2, 1) := by decide +kernel
theorem dX5_draw_71 : decode cX5_draw 71 = .ok (.ineg, 1) := by decide +kernel
theorem dX5_draw_72 : decode cX5_draw 72 = .ok (.i2l, 1) := by decide +kernel
theorem dX5_draw_73 : decode cX5_draw 73 = .ok (.invokevirtual 132, 3) := by decide +kernel
theorem dX5_draw_76 : decode cX5_draw 76 = .ok (.aload_n 3, 1) := by decide +kernel
theorem dX5_draw_77 : decode cX5_draw 77 = .ok (.getfield 117, 3) := by decide +kernel
theorem dX5_draw_80 : decode cX5_draw 80 = .ok (.iconst 4, 1) := by decide +kernel
theorem dX5_draw_81 : decode cX5_draw 81 = .ok (.iload 7, 2) := by decide +kernel
theorem dX5_draw_83 : decode cX5_draw 83 = .ok (.aload_n 3, 1) := by decide +kernel
theorem dX5_draw_84 : decode cX5_draw 84 = .ok (.getfield 128, 3) := by decide +kernel
theorem dX5_draw_87 : decode cX5_draw 87 = .ok (.ifCond .eq 9, 3) := by decide +kernel
theorem dX5_draw_90 : decode cX5_draw 90 = .ok (.lload 5, 2) := by decide +kernel
theorem dX5_draw_92 : decode cX5_draw 92 = .ok (.lneg, 1) := by decide +kernel
theorem dX5_draw_93 : decode cX5_draw 93 = .ok (.goto 5, 3) := by decide +kernel
theorem dX5_draw_96 : decode cX5_draw 96 = .ok (.lload 5, 2) := by decide +kernel
theorem dX5_draw_98 : decode cX5_draw 98 = .ok (.invokevirtual 132, 3) := by decide +kernel
theorem dX5_draw_101 : decode cX5_draw 101 = .ok (.aload_n 3, 1) := by decide +kernel
theorem dX5_draw_102 : decode cX5_draw 102 = .ok (.dup, 1) := by decide +kernel
theorem dX5_draw_103 : decode cX5_draw 103 = .ok (.getfield 103, 3) := by decide +kernel
theorem dX5_draw_106 : decode cX5_draw 106 = .ok (.iload_n 2, 1) := by decide +kernel
theorem dX5_draw_107 : decode cX5_draw 107 = .ok (.isub, 1) := by decide +kernel
theorem dX5_draw_108 : decode cX5_draw 108 = .ok (.putfield 103, 3) := by decide +kernel
theorem dX5_draw_111 : decode cX5_draw 111 = .ok (.iload 4, 2) := by decide +kernel
theorem dX5_draw_113 : decode cX5_draw 113 = .ok (.ireturn, 1) := by decide +kernel
set_option maxRecDepth 20000 in
theorem ggX5_roll_X5_dealNumbered : GoodIn wsX5_roll wsX5_dealNumbered := goodIn_ca (goodIn_r _ [8, 9, 10, 11, 12, 13, 7, 14, 108, 109, 110, 111, 112] (by decide +kernel) (by decide +kernel)) (goodIn_sub (fun _ h => List.mem_cons_of_mem _ (List.mem_append_left _ (List.mem_append_right _ h))) (by decide +kernel))
set_option maxRecDepth 20000 in
theorem gX5_roll_X5_dealNumbered : GoodIn wsX5_roll (wsV RX5 99 RX5 yX5_dealNumbered wsX5_dealNumbered) := goodIn_app (goodIn_of _ (by decide +kernel)) ggX5_roll_X5_dealNumbered
set_option maxRecDepth 20000 in
theorem ggX5_roll_X5_requireRange : GoodIn wsX5_roll wsX5_requireRange := goodIn_ca (goodIn_r _ [17, 18, 19] (by decide +kernel) (by decide +kernel)) (goodIn_sub (fun _ h => List.mem_cons_of_mem _ (List.mem_append_right _ h)) (by decide +kernel))
set_option maxRecDepth 20000 in
theorem gX5_roll_X5_requireRange : GoodIn wsX5_roll (va_wsS RX5 43 yX5_requireRange wsX5_requireRange) := goodIn_app (goodIn_of _ (by decide +kernel)) ggX5_roll_X5_requireRange
set_option maxRecDepth 20000 in
theorem ggX5_roll_X5_requireLeft : GoodIn wsX5_roll wsX5_requireLeft := goodIn_ca (goodIn_r _ [22, 1, 2, 101, 102, 103, 104, 105, 106, 107] (by decide +kernel) (by decide +kernel)) (goodIn_sub (fun _ h => List.mem_cons_of_mem _ (List.mem_append_left _ (List.mem_append_left _ (List.mem_append_right _ h)))) (by decide +kernel))
set_option maxRecDepth 20000 in
theorem gX5_roll_X5_requireLeft : GoodIn wsX5_roll (va_wsS RX5 136 yX5_requireLeft wsX5_requireLeft) := goodIn_app (goodIn_of _ (by decide +kernel)) ggX5_roll_X5_requireLeft
set_option maxRecDepth 20000 in
theorem ggX5_roll_X5_bookGain : GoodIn wsX5_roll wsX5_bookGain := goodIn_r _ [26, 3, 27, 28, 29, 30, 31, 32, 33, 34, 35, 36, 37, 38, 39, 40, 41, 42, 43, 44, 45, 46, 47, 48, 49, 50, 51, 52, 53, 54, 55, 56, 57, 58, 59, 60, 7, 61, 62, 63, 64, 65, 66, 67, 68, 69, 70, 71, 72, 73, 13, 14, 74, 75, 76, 77, 78, 79, 80, 81, 82, 83, 84, 85, 86, 87, 88, 89, 90, 91, 92, 93, 108, 109, 110, 111, 112, 113, 114, 101, 102, 103, 104, 105, 106, 107, 115, 116, 117, 118, 119, 120, 121] (by decide +kernel) (by decide +kernel)
set_option maxRecDepth 20000 in
theorem gX5_roll_X5_bookGain : GoodIn wsX5_roll (wsV RX5 145 RX5 yX5_bookGain wsX5_bookGain) := goodIn_app (goodIn_of _ (by decide +kernel)) ggX5_roll_X5_bookGain
set_option maxRecDepth 20000 in
theorem ggX5_roll_X4_moveWindow : GoodIn wsX5_roll wsX4_moveWindow := goodIn_r _ [97, 37, 98, 101, 102, 103, 104, 105, 106, 107] (by decide +kernel) (by decide +kernel)
set_option maxRecDepth 20000 in
theorem gX5_roll_X4_moveWindow : GoodIn wsX5_roll (wsV RX5 149 RX4 yX4_moveWindow wsX4_moveWindow) := goodIn_app (goodIn_of _ (by decide +kernel)) ggX5_roll_X4_moveWindow
set_option maxRecDepth 20000 in
theorem ggX5_roll_X4_marketRate : GoodIn wsX5_roll wsX4_marketRate := goodIn_r _ [35, 36, 37, 38, 39, 40, 41, 42, 43, 44, 45, 46, 47, 48, 49, 50, 51, 52, 101, 102, 103, 104, 105, 106, 107, 115, 116, 117] (by decide +kernel) (by decide +kernel)
set_option maxRecDepth 20000 in
theorem gX5_roll_X4_marketRate : GoodIn wsX5_roll (wsV RX5 152 RX4 yX4_marketRate wsX4_marketRate) := goodIn_app (goodIn_of _ (by decide +kernel)) ggX5_roll_X4_marketRate
set_option maxRecDepth 20000 in
theorem ggX5_roll_X2_laterRate : GoodIn wsX5_roll wsX2_laterRate := goodIn_r _ [47, 48, 49, 50, 51, 52, 115, 116, 117] (by decide +kernel) (by decide +kernel)
set_option maxRecDepth 20000 in
theorem gX5_roll_X2_laterRate : GoodIn wsX5_roll (wsV RX5 158 RX2 yX2_laterRate wsX2_laterRate) := goodIn_app (goodIn_of _ (by decide +kernel)) ggX5_roll_X2_laterRate
theorem dX5_roll_0 : decode cX5_roll 0 = .ok (.aload_n 0, 1) := by decide +kernel
theorem dX5_roll_1 : decode cX5_roll 1 = .ok (.iload_n 1, 1) := by decide +kernel
theorem dX5_roll_2 : decode cX5_roll 2 = .ok (.invokevirtual 99, 3) := by decide +kernel
theorem dX5_roll_5 : decode cX5_roll 5 = .ok (.astore 4, 2) := by decide +kernel
theorem dX5_roll_7 : decode cX5_roll 7 = .ok (.iload_n 2, 1) := by decide +kernel
theorem dX5_roll_8 : decode cX5_roll 8 = .ok (.iconst 1, 1) := by decide +kernel
theorem dX5_roll_9 : decode cX5_roll 9 = .ok (.bipush 100, 2) := by decide +kernel
theorem dX5_roll_11 : decode cX5_roll 11 = .ok (.invokestatic 43, 3) := by decide +kernel
theorem dX5_roll_14 : decode cX5_roll 14 = .ok (.aload 4, 2) := by decide +kernel
theorem dX5_roll_16 : decode cX5_roll 16 = .ok (.invokestatic 136, 3) := by decide +kernel
theorem dX5_roll_19 : decode cX5_roll 19 = .ok (.aload 4, 2) := by decide +kernel
theorem dX5_roll_21 : decode cX5_roll 21 = .ok (.getfield 140, 3) := by decide +kernel
theorem dX5_roll_24 : decode cX5_roll 24 = .ok (.iload_n 2, 1) := by decide +kernel
theorem dX5_roll_25 : decode cX5_roll 25 = .ok (.iadd, 1) := by decide +kernel
theorem dX5_roll_26 : decode cX5_roll 26 = .ok (.aload_n 0, 1) := by decide +kernel
theorem dX5_roll_27 : decode cX5_roll 27 = .ok (.getfield 12, 3) := by decide +kernel
theorem dX5_roll_30 : decode cX5_roll 30 = .ok (.getfield 54, 3) := by decide +kernel
theorem dX5_roll_33 : decode cX5_roll 33 = .ok (.isub, 1) := by decide +kernel
theorem dX5_roll_34 : decode cX5_roll 34 = .ok (.sipush 400, 3) := by decide +kernel
theorem dX5_roll_37 : decode cX5_roll 37 = .ok (.if_icmp .le 13, 3) := by decide +kernel
theorem dX5_roll_40 : decode cX5_roll 40 = .ok (.new 57, 3) := by decide +kernel
theorem dX5_roll_43 : decode cX5_roll 43 = .ok (.dup, 1) := by decide +kernel
theorem dX5_roll_44 : decode cX5_roll 44 = .ok (.ldc 143, 2) := by decide +kernel
theorem dX5_roll_46 : decode cX5_roll 46 = .ok (.invokespecial 61, 3) := by decide +kernel
theorem dX5_roll_49 : decode cX5_roll 49 = .ok (.athrow, 1) := by decide +kernel
theorem dX5_roll_50 : decode cX5_roll 50 = .ok (.iload_n 3, 1) := by decide +kernel
theorem dX5_roll_51 : decode cX5_roll 51 = .ok (.ifCond .eq 36, 3) := by decide +kernel
theorem dX5_roll_54 : decode cX5_roll 54 = .ok (.aload_n 0, 1) := by decide +kernel
theorem dX5_roll_55 : decode cX5_roll 55 = .ok (.aload 4, 2) := by decide +kernel
theorem dX5_roll_57 : decode cX5_roll 57 = .ok (.invokevirtual 145, 3) := by decide +kernel
theorem dX5_roll_60 : decode cX5_roll 60 = .ok (.pop2, 1) := by decide +kernel
theorem dX5_roll_61 : decode cX5_roll 61 = .ok (.aload 4, 2) := by decide +kernel
theorem dX5_roll_63 : decode cX5_roll 63 = .ok (.iload_n 2, 1) := by decide +kernel
theorem dX5_roll_64 : decode cX5_roll 64 = .ok (.invokevirtual 149, 3) := by decide +kernel
theorem dX5_roll_67 : decode cX5_roll 67 = .ok (.aload 4, 2) := by decide +kernel
theorem dX5_roll_69 : decode cX5_roll 69 = .ok (.aload 4, 2) := by decide +kernel
theorem dX5_roll_71 : decode cX5_roll 71 = .ok (.aload_n 0, 1) := by decide +kernel
theorem dX5_roll_72 : decode cX5_roll 72 = .ok (.getfield 12, 3) := by decide +kernel
theorem dX5_roll_75 : decode cX5_roll 75 = .ok (.getfield 54, 3) := by decide +kernel
theorem dX5_roll_78 : decode cX5_roll 78 = .ok (.invokevirtual 152, 3) := by decide +kernel
theorem dX5_roll_81 : decode cX5_roll 81 = .ok (.putfield 155, 3) := by decide +kernel
theorem dX5_roll_84 : decode cX5_roll 84 = .ok (.goto 28, 3) := by decide +kernel
theorem dX5_roll_87 : decode cX5_roll 87 = .ok (.aload 4, 2) := by decide +kernel
theorem dX5_roll_89 : decode cX5_roll 89 = .ok (.iload_n 2, 1) := by decide +kernel
theorem dX5_roll_90 : decode cX5_roll 90 = .ok (.invokevirtual 149, 3) := by decide +kernel
theorem dX5_roll_93 : decode cX5_roll 93 = .ok (.aload 4, 2) := by decide +kernel
theorem dX5_roll_95 : decode cX5_roll 95 = .ok (.aload 4, 2) := by decide +kernel
theorem dX5_roll_97 : decode cX5_roll 97 = .ok (.getfield 121, 3) := by decide +kernel
theorem dX5_roll_100 : decode cX5_roll 100 = .ok (.aload 4, 2) := by decide +kernel
theorem dX5_roll_102 : decode cX5_roll 102 = .ok (.getfield 155, 3) := by decide +kernel
theorem dX5_roll_105 : decode cX5_roll 105 = .ok (.iload_n 2, 1) := by decide +kernel
theorem dX5_roll_106 : decode cX5_roll 106 = .ok (.invokevirtual 158, 3) := by decide +kernel
theorem dX5_roll_109 : decode cX5_roll 109 = .ok (.putfield 155, 3) := by decide +kernel
theorem dX5_roll_112 : decode cX5_roll 112 = .ok (.aload 4, 2) := by decide +kernel
theorem dX5_roll_114 : decode cX5_roll 114 = .ok (.getfield 155, 3) := by decide +kernel
theorem dX5_roll_117 : decode cX5_roll 117 = .ok (.ireturn, 1) := by decide +kernel
set_option maxRecDepth 20000 in
theorem ggX5_closeOut_X5_dealNumbered : GoodIn wsX5_closeOut wsX5_dealNumbered := goodIn_ca (goodIn_r _ [5, 6, 7, 8, 9, 10, 4, 11, 96, 97, 98, 99, 100] (by decide +kernel) (by decide +kernel)) (goodIn_sub (fun _ h => List.mem_cons_of_mem _ (List.mem_append_left _ (List.mem_append_right _ h))) (by decide +kernel))
set_option maxRecDepth 20000 in
theorem gX5_closeOut_X5_dealNumbered : GoodIn wsX5_closeOut (wsV RX5 99 RX5 yX5_dealNumbered wsX5_dealNumbered) := goodIn_app (goodIn_of _ (by decide +kernel)) ggX5_closeOut_X5_dealNumbered
set_option maxRecDepth 20000 in
theorem ggX5_closeOut_X5_requireLeft : GoodIn wsX5_closeOut wsX5_requireLeft := goodIn_ca (goodIn_r _ [14, 15, 16, 89, 90, 91, 92, 93, 94, 95] (by decide +kernel) (by decide +kernel)) (goodIn_sub (fun _ h => List.mem_cons_of_mem _ (List.mem_append_right _ h)) (by decide +kernel))
set_option maxRecDepth 20000 in
theorem gX5_closeOut_X5_requireLeft : GoodIn wsX5_closeOut (va_wsS RX5 136 yX5_requireLeft wsX5_requireLeft) := goodIn_app (goodIn_of _ (by decide +kernel)) ggX5_closeOut_X5_requireLeft
set_option maxRecDepth 20000 in
theorem ggX5_closeOut_X5_bookGain : GoodIn wsX5_closeOut wsX5_bookGain := goodIn_r _ [20, 21, 22, 23, 24, 25, 26, 27, 28, 29, 30, 31, 32, 33, 34, 35, 36, 37, 38, 39, 40, 41, 42, 43, 44, 45, 46, 47, 48, 49, 50, 51, 52, 53, 54, 55, 4, 56, 57, 58, 59, 60, 61, 62, 63, 64, 65, 66, 67, 68, 10, 11, 69, 70, 71, 72, 73, 74, 75, 76, 77, 78, 79, 80, 81, 82, 83, 84, 85, 86, 87, 88, 96, 97, 98, 99, 100, 101, 102, 89, 90, 91, 92, 93, 94, 95, 103, 104, 105, 106, 107, 108, 109] (by decide +kernel) (by decide +kernel)
set_option maxRecDepth 20000 in
theorem gX5_closeOut_X5_bookGain : GoodIn wsX5_closeOut (wsV RX5 145 RX5 yX5_bookGain wsX5_bookGain) := goodIn_app (goodIn_of _ (by decide +kernel)) ggX5_closeOut_X5_bookGain
theorem dX5_closeOut_0 : decode cX5_closeOut 0 = .ok (.aload_n 0, 1) := by decide +kernel
theorem dX5_closeOut_1 : decode cX5_closeOut 1 = .ok (.iload_n 1, 1) := by decide +kernel
theorem dX5_closeOut_2 : decode cX5_closeOut 2 = .ok (.invokevirtual 99, 3) := by decide +kernel
theorem dX5_closeOut_5 : decode cX5_closeOut 5 = .ok (.astore_n 2, 1) := by decide +kernel
theorem dX5_closeOut_6 : decode cX5_closeOut 6 = .ok (.aload_n 2, 1) := by decide +kernel
theorem dX5_closeOut_7 : decode cX5_closeOut 7 = .ok (.invokestatic 136, 3) := by decide +kernel
theorem dX5_closeOut_10 : decode cX5_closeOut 10 = .ok (.aload_n 0, 1) := by decide +kernel
theorem dX5_closeOut_11 : decode cX5_closeOut 11 = .ok (.aload_n 2, 1) := by decide +kernel
theorem dX5_closeOut_12 : decode cX5_closeOut 12 = .ok (.invokevirtual 145, 3) := by decide +kernel
theorem dX5_closeOut_15 : decode cX5_closeOut 15 = .ok (.lstore_n 3, 1) := by decide +kernel
theorem dX5_closeOut_16 : decode cX5_closeOut 16 = .ok (.aload_n 2, 1) := by decide +kernel
theorem dX5_closeOut_17 : decode cX5_closeOut 17 = .ok (.iconst 0, 1) := by decide +kernel
theorem dX5_closeOut_18 : decode cX5_closeOut 18 = .ok (.putfield 103, 3) := by decide +kernel
theorem dX5_closeOut_21 : decode cX5_closeOut 21 = .ok (.lload_n 3, 1) := by decide +kernel
theorem dX5_closeOut_22 : decode cX5_closeOut 22 = .ok (.lreturn, 1) := by decide +kernel
set_option maxRecDepth 20000 in
theorem ggX5_left_X5_dealNumbered : GoodIn wsX5_left wsX5_dealNumbered := goodIn_ca (goodIn_r _ [5, 6, 7, 8, 9, 10, 4, 11, 19, 20, 21, 22, 23] (by decide +kernel) (by decide +kernel)) (goodIn_sub (fun _ h => List.mem_cons_of_mem _ (List.mem_append_right _ h)) (by decide +kernel))
set_option maxRecDepth 20000 in
theorem gX5_left_X5_dealNumbered : GoodIn wsX5_left (wsV RX5 99 RX5 yX5_dealNumbered wsX5_dealNumbered) := goodIn_app (goodIn_of _ (by decide +kernel)) ggX5_left_X5_dealNumbered
theorem dX5_left_0 : decode cX5_left 0 = .ok (.aload_n 0, 1) := by decide +kernel
theorem dX5_left_1 : decode cX5_left 1 = .ok (.iload_n 1, 1) := by decide +kernel
theorem dX5_left_2 : decode cX5_left 2 = .ok (.invokevirtual 99, 3) := by decide +kernel
theorem dX5_left_5 : decode cX5_left 5 = .ok (.getfield 103, 3) := by decide +kernel
theorem dX5_left_8 : decode cX5_left 8 = .ok (.ireturn, 1) := by decide +kernel
set_option maxRecDepth 20000 in
theorem ggX5_rate_X5_dealNumbered : GoodIn wsX5_rate wsX5_dealNumbered := goodIn_ca (goodIn_r _ [5, 6, 7, 8, 9, 10, 4, 11, 19, 20, 21, 22, 23] (by decide +kernel) (by decide +kernel)) (goodIn_sub (fun _ h => List.mem_cons_of_mem _ (List.mem_append_right _ h)) (by decide +kernel))
set_option maxRecDepth 20000 in
theorem gX5_rate_X5_dealNumbered : GoodIn wsX5_rate (wsV RX5 99 RX5 yX5_dealNumbered wsX5_dealNumbered) := goodIn_app (goodIn_of _ (by decide +kernel)) ggX5_rate_X5_dealNumbered
theorem dX5_rate_0 : decode cX5_rate 0 = .ok (.aload_n 0, 1) := by decide +kernel
theorem dX5_rate_1 : decode cX5_rate 1 = .ok (.iload_n 1, 1) := by decide +kernel
theorem dX5_rate_2 : decode cX5_rate 2 = .ok (.invokevirtual 99, 3) := by decide +kernel
theorem dX5_rate_5 : decode cX5_rate 5 = .ok (.getfield 155, 3) := by decide +kernel
theorem dX5_rate_8 : decode cX5_rate 8 = .ok (.ireturn, 1) := by decide +kernel
set_option maxRecDepth 20000 in
theorem ggX5_window_X5_dealNumbered : GoodIn wsX5_window wsX5_dealNumbered := goodIn_ca (goodIn_r _ [5, 6, 7, 8, 9, 10, 4, 11, 19, 20, 21, 22, 23] (by decide +kernel) (by decide +kernel)) (goodIn_sub (fun _ h => List.mem_cons_of_mem _ (List.mem_append_right _ h)) (by decide +kernel))
set_option maxRecDepth 20000 in
theorem gX5_window_X5_dealNumbered : GoodIn wsX5_window (wsV RX5 99 RX5 yX5_dealNumbered wsX5_dealNumbered) := goodIn_app (goodIn_of _ (by decide +kernel)) ggX5_window_X5_dealNumbered
theorem dX5_window_0 : decode cX5_window 0 = .ok (.aload_n 0, 1) := by decide +kernel
theorem dX5_window_1 : decode cX5_window 1 = .ok (.iload_n 1, 1) := by decide +kernel
theorem dX5_window_2 : decode cX5_window 2 = .ok (.invokevirtual 99, 3) := by decide +kernel
theorem dX5_window_5 : decode cX5_window 5 = .ok (.astore_n 2, 1) := by decide +kernel
theorem dX5_window_6 : decode cX5_window 6 = .ok (.sipush 10000, 3) := by decide +kernel
theorem dX5_window_9 : decode cX5_window 9 = .ok (.aload_n 2, 1) := by decide +kernel
theorem dX5_window_10 : decode cX5_window 10 = .ok (.getfield 162, 3) := by decide +kernel
theorem dX5_window_13 : decode cX5_window 13 = .ok (.imul, 1) := by decide +kernel
theorem dX5_window_14 : decode cX5_window 14 = .ok (.aload_n 2, 1) := by decide +kernel
theorem dX5_window_15 : decode cX5_window 15 = .ok (.getfield 140, 3) := by decide +kernel
theorem dX5_window_18 : decode cX5_window 18 = .ok (.iadd, 1) := by decide +kernel
theorem dX5_window_19 : decode cX5_window 19 = .ok (.ireturn, 1) := by decide +kernel
set_option maxRecDepth 20000 in
theorem ggX5_gain_X5_dealNumbered : GoodIn wsX5_gain wsX5_dealNumbered := goodIn_ca (goodIn_r _ [6, 7, 8, 9, 10, 11, 5, 12, 49, 50, 51, 52, 53] (by decide +kernel) (by decide +kernel)) (goodIn_sub (fun _ h => List.mem_cons_of_mem _ (List.mem_append_right _ h)) (by decide +kernel))
set_option maxRecDepth 20000 in
theorem gX5_gain_X5_dealNumbered : GoodIn wsX5_gain (wsV RX5 99 RX5 yX5_dealNumbered wsX5_dealNumbered) := goodIn_app (goodIn_of _ (by decide +kernel)) ggX5_gain_X5_dealNumbered
set_option maxRecDepth 20000 in
theorem ggX5_gain_X4_marketGain : GoodIn wsX5_gain wsX4_marketGain := goodIn_r _ [17, 18, 19, 20, 16, 21, 22, 23, 24, 25, 26, 27, 28, 29, 30, 31, 32, 33, 34, 35, 36, 37, 38, 39, 40, 41, 42, 43, 44, 45, 46, 5, 47, 48, 56, 57, 58, 59, 60, 61, 62, 63, 64, 65] (by decide +kernel) (by decide +kernel)
set_option maxRecDepth 20000 in
theorem gX5_gain_X4_marketGain : GoodIn wsX5_gain (wsV RX5 165 RX4 yX4_marketGain wsX4_marketGain) := goodIn_app (goodIn_of _ (by decide +kernel)) ggX5_gain_X4_marketGain
theorem dX5_gain_0 : decode cX5_gain 0 = .ok (.aload_n 0, 1) := by decide +kernel
theorem dX5_gain_1 : decode cX5_gain 1 = .ok (.iload_n 1, 1) := by decide +kernel
theorem dX5_gain_2 : decode cX5_gain 2 = .ok (.invokevirtual 99, 3) := by decide +kernel
theorem dX5_gain_5 : decode cX5_gain 5 = .ok (.aload_n 0, 1) := by decide +kernel
theorem dX5_gain_6 : decode cX5_gain 6 = .ok (.getfield 12, 3) := by decide +kernel
theorem dX5_gain_9 : decode cX5_gain 9 = .ok (.getfield 54, 3) := by decide +kernel
theorem dX5_gain_12 : decode cX5_gain 12 = .ok (.invokevirtual 165, 3) := by decide +kernel
theorem dX5_gain_15 : decode cX5_gain 15 = .ok (.lreturn, 1) := by decide +kernel
set_option maxRecDepth 20000 in
theorem ggX5_exposure_X5_customerNumbered : GoodIn wsX5_exposure wsX5_customerNumbered := goodIn_ca (goodIn_r _ [5, 6, 7, 8, 9, 10, 4, 11, 61, 62, 63, 64, 65] (by decide +kernel) (by decide +kernel)) (goodIn_sub (fun _ h => List.mem_cons_of_mem _ (List.mem_append_right _ h)) (by decide +kernel))
set_option maxRecDepth 20000 in
theorem gX5_exposure_X5_customerNumbered : GoodIn wsX5_exposure (wsV RX5 68 RX5 yX5_customerNumbered wsX5_customerNumbered) := goodIn_app (goodIn_of _ (by decide +kernel)) ggX5_exposure_X5_customerNumbered
set_option maxRecDepth 20000 in
theorem ggX5_exposure_X5_lossOfAll : GoodIn wsX5_exposure wsX5_lossOfAll := goodIn_r _ [15, 16, 17, 18, 19, 20, 21, 22, 23, 24, 25, 26, 27, 28, 29, 30, 31, 32, 33, 34, 35, 36, 37, 38, 39, 40, 41, 42, 43, 44, 45, 46, 47, 48, 49, 50, 51, 52, 4, 53, 54, 61, 62, 63, 64, 65, 66, 67, 68, 69, 70, 71, 72, 73, 74, 75, 76, 77] (by decide +kernel) (by decide +kernel)
set_option maxRecDepth 20000 in
theorem gX5_exposure_X5_lossOfAll : GoodIn wsX5_exposure (wsV RX5 169 RX5 yX5_lossOfAll wsX5_lossOfAll) := goodIn_app (goodIn_of _ (by decide +kernel)) ggX5_exposure_X5_lossOfAll
set_option maxRecDepth 20000 in
theorem ggX5_exposure_X5_worseLoss : GoodIn wsX5_exposure wsX5_worseLoss := goodIn_r _ [57, 58, 59, 25, 60] (by decide +kernel) (by decide +kernel)
set_option maxRecDepth 20000 in
theorem gX5_exposure_X5_worseLoss : GoodIn wsX5_exposure (va_wsS RX5 173 yX5_worseLoss wsX5_worseLoss) := goodIn_app (goodIn_of _ (by decide +kernel)) ggX5_exposure_X5_worseLoss
theorem dX5_exposure_0 : decode cX5_exposure 0 = .ok (.aload_n 0, 1) := by decide +kernel
theorem dX5_exposure_1 : decode cX5_exposure 1 = .ok (.iload_n 1, 1) := by decide +kernel
theorem dX5_exposure_2 : decode cX5_exposure 2 = .ok (.invokevirtual 68, 3) := by decide +kernel
theorem dX5_exposure_5 : decode cX5_exposure 5 = .ok (.astore_n 2, 1) := by decide +kernel
theorem dX5_exposure_6 : decode cX5_exposure 6 = .ok (.aload_n 0, 1) := by decide +kernel
theorem dX5_exposure_7 : decode cX5_exposure 7 = .ok (.aload_n 2, 1) := by decide +kernel
theorem dX5_exposure_8 : decode cX5_exposure 8 = .ok (.bipush 10, 2) := by decide +kernel
theorem dX5_exposure_10 : decode cX5_exposure 10 = .ok (.invokevirtual 169, 3) := by decide +kernel
theorem dX5_exposure_13 : decode cX5_exposure 13 = .ok (.aload_n 0, 1) := by decide +kernel
theorem dX5_exposure_14 : decode cX5_exposure 14 = .ok (.aload_n 2, 1) := by decide +kernel
theorem dX5_exposure_15 : decode cX5_exposure 15 = .ok (.bipush (-10), 2) := by decide +kernel
theorem dX5_exposure_17 : decode cX5_exposure 17 = .ok (.invokevirtual 169, 3) := by decide +kernel
theorem dX5_exposure_20 : decode cX5_exposure 20 = .ok (.invokestatic 173, 3) := by decide +kernel
theorem dX5_exposure_23 : decode cX5_exposure 23 = .ok (.lreturn, 1) := by decide +kernel
set_option maxRecDepth 20000 in
theorem ggX5_settlementDay_X1_nextBusinessDay : GoodIn wsX5_settlementDay wsX1_nextBusinessDay := goodIn_r _ [6, 7, 8, 9, 10, 5, 11, 12, 13, 14, 15, 21, 22] (by decide +kernel) (by decide +kernel)
set_option maxRecDepth 20000 in
theorem gX5_settlementDay_X1_nextBusinessDay : GoodIn wsX5_settlementDay (wsV RX5 113 RX1 yX1_nextBusinessDay wsX1_nextBusinessDay) := goodIn_app (goodIn_of _ (by decide +kernel)) ggX5_settlementDay_X1_nextBusinessDay
theorem dX5_settlementDay_0 : decode cX5_settlementDay 0 = .ok (.aload_n 0, 1) := by decide +kernel
theorem dX5_settlementDay_1 : decode cX5_settlementDay 1 = .ok (.getfield 12, 3) := by decide +kernel
theorem dX5_settlementDay_4 : decode cX5_settlementDay 4 = .ok (.invokevirtual 113, 3) := by decide +kernel
theorem dX5_settlementDay_7 : decode cX5_settlementDay 7 = .ok (.ireturn, 1) := by decide +kernel
set_option maxRecDepth 20000 in
theorem ggX5_due_X5_customerNumbered : GoodIn wsX5_due wsX5_customerNumbered := goodIn_ca (goodIn_r _ [6, 7, 8, 9, 10, 11, 5, 12, 34, 35, 36, 37, 38] (by decide +kernel) (by decide +kernel)) (goodIn_sub (fun _ h => List.mem_cons_of_mem _ (List.mem_append_left _ (List.mem_append_right _ h))) (by decide +kernel))
set_option maxRecDepth 20000 in
theorem gX5_due_X5_customerNumbered : GoodIn wsX5_due (wsV RX5 68 RX5 yX5_customerNumbered wsX5_customerNumbered) := goodIn_app (goodIn_of _ (by decide +kernel)) ggX5_due_X5_customerNumbered
set_option maxRecDepth 20000 in
theorem ggX5_due_X5_requireRange : GoodIn wsX5_due wsX5_requireRange := goodIn_ca (goodIn_r _ [15, 16, 17] (by decide +kernel) (by decide +kernel)) (goodIn_sub (fun _ h => List.mem_cons_of_mem _ (List.mem_append_right _ h)) (by decide +kernel))
set_option maxRecDepth 20000 in
theorem gX5_due_X5_requireRange : GoodIn wsX5_due (va_wsS RX5 43 yX5_requireRange wsX5_requireRange) := goodIn_app (goodIn_of _ (by decide +kernel)) ggX5_due_X5_requireRange
set_option maxRecDepth 20000 in
theorem ggX5_due_X3_netAmount : GoodIn wsX5_due wsX3_netAmount := goodIn_r _ [22, 23, 24, 25, 21, 26, 27, 11, 5, 12, 28, 29, 30, 31, 32, 33, 41, 42, 43, 44] (by decide +kernel) (by decide +kernel)
set_option maxRecDepth 20000 in
theorem gX5_due_X3_netAmount : GoodIn wsX5_due (wsV RX5 177 RX3 yX3_netAmount wsX3_netAmount) := goodIn_app (goodIn_of _ (by decide +kernel)) ggX5_due_X3_netAmount
theorem dX5_due_0 : decode cX5_due 0 = .ok (.aload_n 0, 1) := by decide +kernel
theorem dX5_due_1 : decode cX5_due 1 = .ok (.iload_n 1, 1) := by decide +kernel
theorem dX5_due_2 : decode cX5_due 2 = .ok (.invokevirtual 68, 3) := by decide +kernel
theorem dX5_due_5 : decode cX5_due 5 = .ok (.astore 4, 2) := by decide +kernel
theorem dX5_due_7 : decode cX5_due 7 = .ok (.iload_n 2, 1) := by decide +kernel
theorem dX5_due_8 : decode cX5_due 8 = .ok (.iconst 0, 1) := by decide +kernel
theorem dX5_due_9 : decode cX5_due 9 = .ok (.iconst 4, 1) := by decide +kernel
theorem dX5_due_10 : decode cX5_due 10 = .ok (.invokestatic 43, 3) := by decide +kernel
theorem dX5_due_13 : decode cX5_due 13 = .ok (.iload_n 3, 1) := by decide +kernel
theorem dX5_due_14 : decode cX5_due 14 = .ok (.iconst 1, 1) := by decide +kernel
theorem dX5_due_15 : decode cX5_due 15 = .ok (.bipush 20, 2) := by decide +kernel
theorem dX5_due_17 : decode cX5_due 17 = .ok (.invokestatic 43, 3) := by decide +kernel
theorem dX5_due_20 : decode cX5_due 20 = .ok (.aload 4, 2) := by decide +kernel
theorem dX5_due_22 : decode cX5_due 22 = .ok (.iload_n 2, 1) := by decide +kernel
theorem dX5_due_23 : decode cX5_due 23 = .ok (.aload_n 0, 1) := by decide +kernel
theorem dX5_due_24 : decode cX5_due 24 = .ok (.getfield 12, 3) := by decide +kernel
theorem dX5_due_27 : decode cX5_due 27 = .ok (.getfield 54, 3) := by decide +kernel
theorem dX5_due_30 : decode cX5_due 30 = .ok (.iload_n 3, 1) := by decide +kernel
theorem dX5_due_31 : decode cX5_due 31 = .ok (.iadd, 1) := by decide +kernel
theorem dX5_due_32 : decode cX5_due 32 = .ok (.invokevirtual 177, 3) := by decide +kernel
theorem dX5_due_35 : decode cX5_due 35 = .ok (.lreturn, 1) := by decide +kernel
set_option maxRecDepth 20000 in
theorem ggX5_balance_X5_customerNumbered : GoodIn wsX5_balance wsX5_customerNumbered := goodIn_ca (goodIn_r _ [5, 6, 7, 8, 9, 10, 4, 11, 26, 27, 28, 29, 30] (by decide +kernel) (by decide +kernel)) (goodIn_sub (fun _ h => List.mem_cons_of_mem _ (List.mem_append_left _ (List.mem_append_right _ h))) (by decide +kernel))
set_option maxRecDepth 20000 in
theorem gX5_balance_X5_customerNumbered : GoodIn wsX5_balance (wsV RX5 68 RX5 yX5_customerNumbered wsX5_customerNumbered) := goodIn_app (goodIn_of _ (by decide +kernel)) ggX5_balance_X5_customerNumbered
set_option maxRecDepth 20000 in
theorem ggX5_balance_X5_requireRange : GoodIn wsX5_balance wsX5_requireRange := goodIn_ca (goodIn_r _ [14, 15, 16] (by decide +kernel) (by decide +kernel)) (goodIn_sub (fun _ h => List.mem_cons_of_mem _ (List.mem_append_right _ h)) (by decide +kernel))
set_option maxRecDepth 20000 in
theorem gX5_balance_X5_requireRange : GoodIn wsX5_balance (va_wsS RX5 43 yX5_requireRange wsX5_requireRange) := goodIn_app (goodIn_of _ (by decide +kernel)) ggX5_balance_X5_requireRange
set_option maxRecDepth 20000 in
theorem ggX5_balance_X0_amountOf : GoodIn wsX5_balance wsX0_amountOf := goodIn_r _ [21, 22, 10, 4, 11, 31] (by decide +kernel) (by decide +kernel)
set_option maxRecDepth 20000 in
theorem gX5_balance_X0_amountOf : GoodIn wsX5_balance (wsV RX5 184 RX0 yX0_amountOf wsX0_amountOf) := goodIn_app (goodIn_of _ (by decide +kernel)) ggX5_balance_X0_amountOf
theorem dX5_balance_0 : decode cX5_balance 0 = .ok (.aload_n 0, 1) := by decide +kernel
theorem dX5_balance_1 : decode cX5_balance 1 = .ok (.iload_n 1, 1) := by decide +kernel
theorem dX5_balance_2 : decode cX5_balance 2 = .ok (.invokevirtual 68, 3) := by decide +kernel
theorem dX5_balance_5 : decode cX5_balance 5 = .ok (.astore_n 3, 1) := by decide +kernel
theorem dX5_balance_6 : decode cX5_balance 6 = .ok (.iload_n 2, 1) := by decide +kernel
theorem dX5_balance_7 : decode cX5_balance 7 = .ok (.iconst 0, 1) := by decide +kernel
theorem dX5_balance_8 : decode cX5_balance 8 = .ok (.iconst 4, 1) := by decide +kernel
theorem dX5_balance_9 : decode cX5_balance 9 = .ok (.invokestatic 43, 3) := by decide +kernel
theorem dX5_balance_12 : decode cX5_balance 12 = .ok (.aload_n 3, 1) := by decide +kernel
theorem dX5_balance_13 : decode cX5_balance 13 = .ok (.getfield 180, 3) := by decide +kernel
theorem dX5_balance_16 : decode cX5_balance 16 = .ok (.iload_n 2, 1) := by decide +kernel
theorem dX5_balance_17 : decode cX5_balance 17 = .ok (.invokevirtual 184, 3) := by decide +kernel
theorem dX5_balance_20 : decode cX5_balance 20 = .ok (.lreturn, 1) := by decide +kernel
set_option maxRecDepth 20000 in
theorem ggX5_pass_X5_requireRange : GoodIn wsX5_pass wsX5_requireRange := goodIn_ca (goodIn_r _ [7, 8, 9] (by decide +kernel) (by decide +kernel)) (goodIn_sub (fun _ h => List.mem_cons_of_mem _ (List.mem_append_right _ h)) (by decide +kernel))
set_option maxRecDepth 20000 in
theorem gX5_pass_X5_requireRange : GoodIn wsX5_pass (va_wsS RX5 43 yX5_requireRange wsX5_requireRange) := goodIn_app (goodIn_of _ (by decide +kernel)) ggX5_pass_X5_requireRange
set_option maxRecDepth 20000 in
theorem ggX5_pass_X5_endDealsOfToday : GoodIn wsX5_pass wsX5_endDealsOfToday := goodIn_r _ [13, 14, 3, 15, 16, 17, 6, 18, 19, 20, 21, 22, 23, 24, 25, 26, 27, 28, 29, 30, 31, 32, 33, 34, 35, 36, 37, 38, 39, 40, 41, 42, 43, 44, 45, 46, 47, 48, 49, 50, 51, 52, 53, 54, 55, 56, 57, 58, 59, 60, 61, 62, 63, 64, 65, 66, 67, 68, 69, 70, 71, 72, 73, 74, 75, 76, 77, 78, 79, 80, 81, 82, 83, 84, 85, 86, 87, 111, 112, 113, 114, 115, 118, 119, 120, 121, 122, 123, 124, 116, 117, 125, 126, 127, 128, 129, 130, 131] (by decide +kernel) (by decide +kernel)
set_option maxRecDepth 20000 in
theorem gX5_pass_X5_endDealsOfToday : GoodIn wsX5_pass (wsV RX5 191 RX5 yX5_endDealsOfToday wsX5_endDealsOfToday) := goodIn_app (goodIn_of _ (by decide +kernel)) ggX5_pass_X5_endDealsOfToday
set_option maxRecDepth 20000 in
theorem ggX5_pass_X5_settleAll : GoodIn wsX5_pass wsX5_settleAll := goodIn_r _ [91, 92, 93, 94, 95, 71, 96, 97, 98, 99, 100, 101, 73, 66, 6, 67, 102, 103, 104, 76, 105, 106, 107, 108, 109, 83, 110, 85, 86, 87, 111, 112, 113, 114, 115, 128, 129, 130, 131] (by decide +kernel) (by decide +kernel)
set_option maxRecDepth 20000 in
theorem gX5_pass_X5_settleAll : GoodIn wsX5_pass (wsV RX5 194 RX5 yX5_settleAll wsX5_settleAll) := goodIn_app (goodIn_of _ (by decide +kernel)) ggX5_pass_X5_settleAll
theorem dX5_pass_0 : decode cX5_pass 0 = .ok (.iload_n 1, 1) := by decide +kernel
theorem dX5_pass_1 : decode cX5_pass 1 = .ok (.iconst 1, 1) := by decide +kernel
theorem dX5_pass_2 : decode cX5_pass 2 = .ok (.bipush 100, 2) := by decide +kernel
theorem dX5_pass_4 : decode cX5_pass 4 = .ok (.invokestatic 43, 3) := by decide +kernel
theorem dX5_pass_7 : decode cX5_pass 7 = .ok (.aload_n 0, 1) := by decide +kernel
theorem dX5_pass_8 : decode cX5_pass 8 = .ok (.getfield 12, 3) := by decide +kernel
theorem dX5_pass_11 : decode cX5_pass 11 = .ok (.getfield 54, 3) := by decide +kernel
theorem dX5_pass_14 : decode cX5_pass 14 = .ok (.iload_n 1, 1) := by decide +kernel
theorem dX5_pass_15 : decode cX5_pass 15 = .ok (.iadd, 1) := by decide +kernel
theorem dX5_pass_16 : decode cX5_pass 16 = .ok (.sipush 1000, 3) := by decide +kernel
theorem dX5_pass_19 : decode cX5_pass 19 = .ok (.if_icmp .le 13, 3) := by decide +kernel
theorem dX5_pass_22 : decode cX5_pass 22 = .ok (.new 57, 3) := by decide +kernel
theorem dX5_pass_25 : decode cX5_pass 25 = .ok (.dup, 1) := by decide +kernel
theorem dX5_pass_26 : decode cX5_pass 26 = .ok (.ldc 189, 2) := by decide +kernel
theorem dX5_pass_28 : decode cX5_pass 28 = .ok (.invokespecial 61, 3) := by decide +kernel
theorem dX5_pass_31 : decode cX5_pass 31 = .ok (.athrow, 1) := by decide +kernel
theorem dX5_pass_32 : decode cX5_pass 32 = .ok (.iconst 0, 1) := by decide +kernel
theorem dX5_pass_33 : decode cX5_pass 33 = .ok (.istore_n 2, 1) := by decide +kernel
theorem dX5_pass_34 : decode cX5_pass 34 = .ok (.iconst 0, 1) := by decide +kernel
theorem dX5_pass_35 : decode cX5_pass 35 = .ok (.istore_n 3, 1) := by decide +kernel
theorem dX5_pass_36 : decode cX5_pass 36 = .ok (.iload_n 3, 1) := by decide +kernel
theorem dX5_pass_37 : decode cX5_pass 37 = .ok (.iload_n 1, 1) := by decide +kernel
theorem dX5_pass_38 : decode cX5_pass 38 = .ok (.if_icmp .ge 40, 3) := by decide +kernel
theorem dX5_pass_41 : decode cX5_pass 41 = .ok (.iload_n 2, 1) := by decide +kernel
theorem dX5_pass_42 : decode cX5_pass 42 = .ok (.aload_n 0, 1) := by decide +kernel
theorem dX5_pass_43 : decode cX5_pass 43 = .ok (.invokevirtual 191, 3) := by decide +kernel
theorem dX5_pass_46 : decode cX5_pass 46 = .ok (.iadd, 1) := by decide +kernel
theorem dX5_pass_47 : decode cX5_pass 47 = .ok (.istore_n 2, 1) := by decide +kernel
theorem dX5_pass_48 : decode cX5_pass 48 = .ok (.aload_n 0, 1) := by decide +kernel
theorem dX5_pass_49 : decode cX5_pass 49 = .ok (.getfield 12, 3) := by decide +kernel
theorem dX5_pass_52 : decode cX5_pass 52 = .ok (.dup, 1) := by decide +kernel
theorem dX5_pass_53 : decode cX5_pass 53 = .ok (.getfield 54, 3) := by decide +kernel
theorem dX5_pass_56 : decode cX5_pass 56 = .ok (.iconst 1, 1) := by decide +kernel
theorem dX5_pass_57 : decode cX5_pass 57 = .ok (.iadd, 1) := by decide +kernel
theorem dX5_pass_58 : decode cX5_pass 58 = .ok (.putfield 54, 3) := by decide +kernel
theorem dX5_pass_61 : decode cX5_pass 61 = .ok (.aload_n 0, 1) := by decide +kernel
theorem dX5_pass_62 : decode cX5_pass 62 = .ok (.aload_n 0, 1) := by decide +kernel
theorem dX5_pass_63 : decode cX5_pass 63 = .ok (.getfield 12, 3) := by decide +kernel
theorem dX5_pass_66 : decode cX5_pass 66 = .ok (.getfield 54, 3) := by decide +kernel
theorem dX5_pass_69 : decode cX5_pass 69 = .ok (.invokevirtual 194, 3) := by decide +kernel
theorem dX5_pass_72 : decode cX5_pass 72 = .ok (.iinc 3 1, 3) := by decide +kernel
theorem dX5_pass_75 : decode cX5_pass 75 = .ok (.goto (-39), 3) := by decide +kernel
theorem dX5_pass_78 : decode cX5_pass 78 = .ok (.iload_n 2, 1) := by decide +kernel
theorem dX5_pass_79 : decode cX5_pass 79 = .ok (.ireturn, 1) := by decide +kernel
theorem dX5_today_0 : decode cX5_today 0 = .ok (.aload_n 0, 1) := by decide +kernel
theorem dX5_today_1 : decode cX5_today 1 = .ok (.getfield 12, 3) := by decide +kernel
theorem dX5_today_4 : decode cX5_today 4 = .ok (.getfield 54, 3) := by decide +kernel
theorem dX5_today_7 : decode cX5_today 7 = .ok (.ireturn, 1) := by decide +kernel
set_option maxRecDepth 20000 in
theorem ggX5_currencyNumbered_X5_isIndex : GoodIn wsX5_currencyNumbered wsX5_isIndex := goodIn_r _ [7] (by decide +kernel) (by decide +kernel)
set_option maxRecDepth 20000 in
theorem gX5_currencyNumbered_X5_isIndex : GoodIn wsX5_currencyNumbered (va_wsS RX5 84 yX5_isIndex wsX5_isIndex) := goodIn_app (goodIn_of _ (by decide +kernel)) ggX5_currencyNumbered_X5_isIndex
theorem dX5_currencyNumbered_0 : decode cX5_currencyNumbered 0 = .ok (.iload_n 1, 1) := by decide +kernel
theorem dX5_currencyNumbered_1 : decode cX5_currencyNumbered 1 = .ok (.aload_n 0, 1) := by decide +kernel
theorem dX5_currencyNumbered_2 : decode cX5_currencyNumbered 2 = .ok (.getfield 18, 3) := by decide +kernel
theorem dX5_currencyNumbered_5 : decode cX5_currencyNumbered 5 = .ok (.arraylength, 1) := by decide +kernel
theorem dX5_currencyNumbered_6 : decode cX5_currencyNumbered 6 = .ok (.invokestatic 84, 3) := by decide +kernel
theorem dX5_currencyNumbered_9 : decode cX5_currencyNumbered 9 = .ok (.ifCond .eq 12, 3) := by decide +kernel
theorem dX5_currencyNumbered_12 : decode cX5_currencyNumbered 12 = .ok (.aload_n 0, 1) := by decide +kernel
theorem dX5_currencyNumbered_13 : decode cX5_currencyNumbered 13 = .ok (.getfield 18, 3) := by decide +kernel
theorem dX5_currencyNumbered_16 : decode cX5_currencyNumbered 16 = .ok (.iload_n 1, 1) := by decide +kernel
theorem dX5_currencyNumbered_17 : decode cX5_currencyNumbered 17 = .ok (.aaload, 1) := by decide +kernel
theorem dX5_currencyNumbered_18 : decode cX5_currencyNumbered 18 = .ok (.goto 4, 3) := by decide +kernel
theorem dX5_currencyNumbered_21 : decode cX5_currencyNumbered 21 = .ok (.aconst_null, 1) := by decide +kernel
theorem dX5_currencyNumbered_22 : decode cX5_currencyNumbered 22 = .ok (.astore_n 2, 1) := by decide +kernel
theorem dX5_currencyNumbered_23 : decode cX5_currencyNumbered 23 = .ok (.aload_n 2, 1) := by decide +kernel
theorem dX5_currencyNumbered_24 : decode cX5_currencyNumbered 24 = .ok (.ifnonnull 13, 3) := by decide +kernel
theorem dX5_currencyNumbered_27 : decode cX5_currencyNumbered 27 = .ok (.new 197, 3) := by decide +kernel
theorem dX5_currencyNumbered_30 : decode cX5_currencyNumbered 30 = .ok (.dup, 1) := by decide +kernel
theorem dX5_currencyNumbered_31 : decode cX5_currencyNumbered 31 = .ok (.ldc 199, 2) := by decide +kernel
theorem dX5_currencyNumbered_33 : decode cX5_currencyNumbered 33 = .ok (.invokespecial 201, 3) := by decide +kernel
theorem dX5_currencyNumbered_36 : decode cX5_currencyNumbered 36 = .ok (.athrow, 1) := by decide +kernel
theorem dX5_currencyNumbered_37 : decode cX5_currencyNumbered 37 = .ok (.aload_n 2, 1) := by decide +kernel
theorem dX5_currencyNumbered_38 : decode cX5_currencyNumbered 38 = .ok (.areturn, 1) := by decide +kernel
set_option maxRecDepth 20000 in
theorem ggX5_customerNumbered_X5_isIndex : GoodIn wsX5_customerNumbered wsX5_isIndex := goodIn_r _ [7] (by decide +kernel) (by decide +kernel)
set_option maxRecDepth 20000 in
theorem gX5_customerNumbered_X5_isIndex : GoodIn wsX5_customerNumbered (va_wsS RX5 84 yX5_isIndex wsX5_isIndex) := goodIn_app (goodIn_of _ (by decide +kernel)) ggX5_customerNumbered_X5_isIndex
theorem dX5_customerNumbered_0 : decode cX5_customerNumbered 0 = .ok (.iload_n 1, 1) := by decide +kernel
theorem dX5_customerNumbered_1 : decode cX5_customerNumbered 1 = .ok (.aload_n 0, 1) := by decide +kernel
theorem dX5_customerNumbered_2 : decode cX5_customerNumbered 2 = .ok (.getfield 27, 3) := by decide +kernel
theorem dX5_customerNumbered_5 : decode cX5_customerNumbered 5 = .ok (.arraylength, 1) := by decide +kernel
theorem dX5_customerNumbered_6 : decode cX5_customerNumbered 6 = .ok (.invokestatic 84, 3) := by decide +kernel
theorem dX5_customerNumbered_9 : decode cX5_customerNumbered 9 = .ok (.ifCond .eq 12, 3) := by decide +kernel
theorem dX5_customerNumbered_12 : decode cX5_customerNumbered 12 = .ok (.aload_n 0, 1) := by decide +kernel
theorem dX5_customerNumbered_13 : decode cX5_customerNumbered 13 = .ok (.getfield 27, 3) := by decide +kernel
theorem dX5_customerNumbered_16 : decode cX5_customerNumbered 16 = .ok (.iload_n 1, 1) := by decide +kernel
theorem dX5_customerNumbered_17 : decode cX5_customerNumbered 17 = .ok (.aaload, 1) := by decide +kernel
theorem dX5_customerNumbered_18 : decode cX5_customerNumbered 18 = .ok (.goto 4, 3) := by decide +kernel
theorem dX5_customerNumbered_21 : decode cX5_customerNumbered 21 = .ok (.aconst_null, 1) := by decide +kernel
theorem dX5_customerNumbered_22 : decode cX5_customerNumbered 22 = .ok (.astore_n 2, 1) := by decide +kernel
theorem dX5_customerNumbered_23 : decode cX5_customerNumbered 23 = .ok (.aload_n 2, 1) := by decide +kernel
theorem dX5_customerNumbered_24 : decode cX5_customerNumbered 24 = .ok (.ifnonnull 13, 3) := by decide +kernel
theorem dX5_customerNumbered_27 : decode cX5_customerNumbered 27 = .ok (.new 197, 3) := by decide +kernel
theorem dX5_customerNumbered_30 : decode cX5_customerNumbered 30 = .ok (.dup, 1) := by decide +kernel
theorem dX5_customerNumbered_31 : decode cX5_customerNumbered 31 = .ok (.ldc 202, 2) := by decide +kernel
theorem dX5_customerNumbered_33 : decode cX5_customerNumbered 33 = .ok (.invokespecial 201, 3) := by decide +kernel
theorem dX5_customerNumbered_36 : decode cX5_customerNumbered 36 = .ok (.athrow, 1) := by decide +kernel
theorem dX5_customerNumbered_37 : decode cX5_customerNumbered 37 = .ok (.aload_n 2, 1) := by decide +kernel
theorem dX5_customerNumbered_38 : decode cX5_customerNumbered 38 = .ok (.areturn, 1) := by decide +kernel
set_option maxRecDepth 20000 in
theorem ggX5_dealNumbered_X5_isIndex : GoodIn wsX5_dealNumbered wsX5_isIndex := goodIn_r _ [7] (by decide +kernel) (by decide +kernel)
set_option maxRecDepth 20000 in
theorem gX5_dealNumbered_X5_isIndex : GoodIn wsX5_dealNumbered (va_wsS RX5 84 yX5_isIndex wsX5_isIndex) := goodIn_app (goodIn_of _ (by decide +kernel)) ggX5_dealNumbered_X5_isIndex
theorem dX5_dealNumbered_0 : decode cX5_dealNumbered 0 = .ok (.iload_n 1, 1) := by decide +kernel
theorem dX5_dealNumbered_1 : decode cX5_dealNumbered 1 = .ok (.aload_n 0, 1) := by decide +kernel
theorem dX5_dealNumbered_2 : decode cX5_dealNumbered 2 = .ok (.getfield 34, 3) := by decide +kernel
theorem dX5_dealNumbered_5 : decode cX5_dealNumbered 5 = .ok (.arraylength, 1) := by decide +kernel
theorem dX5_dealNumbered_6 : decode cX5_dealNumbered 6 = .ok (.invokestatic 84, 3) := by decide +kernel
theorem dX5_dealNumbered_9 : decode cX5_dealNumbered 9 = .ok (.ifCond .eq 12, 3) := by decide +kernel
theorem dX5_dealNumbered_12 : decode cX5_dealNumbered 12 = .ok (.aload_n 0, 1) := by decide +kernel
theorem dX5_dealNumbered_13 : decode cX5_dealNumbered 13 = .ok (.getfield 34, 3) := by decide +kernel
theorem dX5_dealNumbered_16 : decode cX5_dealNumbered 16 = .ok (.iload_n 1, 1) := by decide +kernel
theorem dX5_dealNumbered_17 : decode cX5_dealNumbered 17 = .ok (.aaload, 1) := by decide +kernel
theorem dX5_dealNumbered_18 : decode cX5_dealNumbered 18 = .ok (.goto 4, 3) := by decide +kernel
theorem dX5_dealNumbered_21 : decode cX5_dealNumbered 21 = .ok (.aconst_null, 1) := by decide +kernel
theorem dX5_dealNumbered_22 : decode cX5_dealNumbered 22 = .ok (.astore_n 2, 1) := by decide +kernel
theorem dX5_dealNumbered_23 : decode cX5_dealNumbered 23 = .ok (.aload_n 2, 1) := by decide +kernel
theorem dX5_dealNumbered_24 : decode cX5_dealNumbered 24 = .ok (.ifnonnull 13, 3) := by decide +kernel
theorem dX5_dealNumbered_27 : decode cX5_dealNumbered 27 = .ok (.new 197, 3) := by decide +kernel
theorem dX5_dealNumbered_30 : decode cX5_dealNumbered 30 = .ok (.dup, 1) := by decide +kernel
theorem dX5_dealNumbered_31 : decode cX5_dealNumbered 31 = .ok (.ldc 204, 2) := by decide +kernel
theorem dX5_dealNumbered_33 : decode cX5_dealNumbered 33 = .ok (.invokespecial 201, 3) := by decide +kernel
theorem dX5_dealNumbered_36 : decode cX5_dealNumbered 36 = .ok (.athrow, 1) := by decide +kernel
theorem dX5_dealNumbered_37 : decode cX5_dealNumbered 37 = .ok (.aload_n 2, 1) := by decide +kernel
theorem dX5_dealNumbered_38 : decode cX5_dealNumbered 38 = .ok (.areturn, 1) := by decide +kernel
theorem dX5_requireRange_0 : decode cX5_requireRange 0 = .ok (.iload_n 0, 1) := by decide +kernel
theorem dX5_requireRange_1 : decode cX5_requireRange 1 = .ok (.iload_n 1, 1) := by decide +kernel
theorem dX5_requireRange_2 : decode cX5_requireRange 2 = .ok (.if_icmp .lt 8, 3) := by decide +kernel
theorem dX5_requireRange_5 : decode cX5_requireRange 5 = .ok (.iload_n 0, 1) := by decide +kernel
theorem dX5_requireRange_6 : decode cX5_requireRange 6 = .ok (.iload_n 2, 1) := by decide +kernel
theorem dX5_requireRange_7 : decode cX5_requireRange 7 = .ok (.if_icmp .le 13, 3) := by decide +kernel
theorem dX5_requireRange_10 : decode cX5_requireRange 10 = .ok (.new 206, 3) := by decide +kernel
theorem dX5_requireRange_13 : decode cX5_requireRange 13 = .ok (.dup, 1) := by decide +kernel
theorem dX5_requireRange_14 : decode cX5_requireRange 14 = .ok (.ldc 208, 2) := by decide +kernel
theorem dX5_requireRange_16 : decode cX5_requireRange 16 = .ok (.invokespecial 210, 3) := by decide +kernel
theorem dX5_requireRange_19 : decode cX5_requireRange 19 = .ok (.athrow, 1) := by decide +kernel
theorem dX5_requireRange_20 : decode cX5_requireRange 20 = .ok (.return_, 1) := by decide +kernel
theorem dX5_requireLeft_0 : decode cX5_requireLeft 0 = .ok (.aload_n 0, 1) := by decide +kernel
theorem dX5_requireLeft_1 : decode cX5_requireLeft 1 = .ok (.getfield 103, 3) := by decide +kernel
theorem dX5_requireLeft_4 : decode cX5_requireLeft 4 = .ok (.ifCond .ne 13, 3) := by decide +kernel
theorem dX5_requireLeft_7 : decode cX5_requireLeft 7 = .ok (.new 57, 3) := by decide +kernel
theorem dX5_requireLeft_10 : decode cX5_requireLeft 10 = .ok (.dup, 1) := by decide +kernel
theorem dX5_requireLeft_11 : decode cX5_requireLeft 11 = .ok (.ldc 211, 2) := by decide +kernel
theorem dX5_requireLeft_13 : decode cX5_requireLeft 13 = .ok (.invokespecial 61, 3) := by decide +kernel
theorem dX5_requireLeft_16 : decode cX5_requireLeft 16 = .ok (.athrow, 1) := by decide +kernel
theorem dX5_requireLeft_17 : decode cX5_requireLeft 17 = .ok (.return_, 1) := by decide +kernel
theorem dX5_isIndex_0 : decode cX5_isIndex 0 = .ok (.iload_n 0, 1) := by decide +kernel
theorem dX5_isIndex_1 : decode cX5_isIndex 1 = .ok (.ifCond .lt 12, 3) := by decide +kernel
theorem dX5_isIndex_4 : decode cX5_isIndex 4 = .ok (.iload_n 0, 1) := by decide +kernel
theorem dX5_isIndex_5 : decode cX5_isIndex 5 = .ok (.iload_n 1, 1) := by decide +kernel
theorem dX5_isIndex_6 : decode cX5_isIndex 6 = .ok (.if_icmp .ge 7, 3) := by decide +kernel
theorem dX5_isIndex_9 : decode cX5_isIndex 9 = .ok (.iconst 1, 1) := by decide +kernel
theorem dX5_isIndex_10 : decode cX5_isIndex 10 = .ok (.goto 4, 3) := by decide +kernel
theorem dX5_isIndex_13 : decode cX5_isIndex 13 = .ok (.iconst 0, 1) := by decide +kernel
theorem dX5_isIndex_14 : decode cX5_isIndex 14 = .ok (.ireturn, 1) := by decide +kernel
set_option maxRecDepth 20000 in
theorem ggX5_endDealsOfToday_X5_bookGain : GoodIn wsX5_endDealsOfToday wsX5_bookGain := goodIn_r _ [7, 2, 8, 9, 10, 11, 12, 13, 14, 15, 16, 17, 18, 19, 20, 21, 22, 23, 24, 25, 26, 27, 28, 29, 30, 31, 32, 33, 34, 35, 36, 37, 38, 39, 40, 41, 6, 42, 43, 44, 45, 46, 47, 48, 49, 50, 51, 52, 53, 54, 55, 56, 57, 58, 59, 60, 61, 62, 63, 64, 65, 66, 67, 68, 69, 70, 71, 72, 73, 74, 75, 76, 77, 78, 79, 80, 81, 89, 90, 82, 83, 84, 85, 86, 87, 88, 91, 92, 93, 94, 95, 96, 97] (by decide +kernel) (by decide +kernel)
set_option maxRecDepth 20000 in
theorem gX5_endDealsOfToday_X5_bookGain : GoodIn wsX5_endDealsOfToday (wsV RX5 145 RX5 yX5_bookGain wsX5_bookGain) := goodIn_app (goodIn_of _ (by decide +kernel)) ggX5_endDealsOfToday_X5_bookGain
theorem dX5_endDealsOfToday_0 : decode cX5_endDealsOfToday 0 = .ok (.iconst 0, 1) := by decide +kernel
theorem dX5_endDealsOfToday_1 : decode cX5_endDealsOfToday 1 = .ok (.istore_n 1, 1) := by decide +kernel
theorem dX5_endDealsOfToday_2 : decode cX5_endDealsOfToday 2 = .ok (.aload_n 0, 1) := by decide +kernel
theorem dX5_endDealsOfToday_3 : decode cX5_endDealsOfToday 3 = .ok (.getfield 34, 3) := by decide +kernel
theorem dX5_endDealsOfToday_6 : decode cX5_endDealsOfToday 6 = .ok (.astore_n 2, 1) := by decide +kernel
theorem dX5_endDealsOfToday_7 : decode cX5_endDealsOfToday 7 = .ok (.aload_n 2, 1) := by decide +kernel
theorem dX5_endDealsOfToday_8 : decode cX5_endDealsOfToday 8 = .ok (.arraylength, 1) := by decide +kernel
theorem dX5_endDealsOfToday_9 : decode cX5_endDealsOfToday 9 = .ok (.istore_n 3, 1) := by decide +kernel
theorem dX5_endDealsOfToday_10 : decode cX5_endDealsOfToday 10 = .ok (.iconst 0, 1) := by decide +kernel
theorem dX5_endDealsOfToday_11 : decode cX5_endDealsOfToday 11 = .ok (.istore 4, 2) := by decide +kernel
theorem dX5_endDealsOfToday_13 : decode cX5_endDealsOfToday 13 = .ok (.iload 4, 2) := by decide +kernel
theorem dX5_endDealsOfToday_15 : decode cX5_endDealsOfToday 15 = .ok (.iload_n 3, 1) := by decide +kernel
theorem dX5_endDealsOfToday_16 : decode cX5_endDealsOfToday 16 = .ok (.if_icmp .ge 59, 3) := by decide +kernel
theorem dX5_endDealsOfToday_19 : decode cX5_endDealsOfToday 19 = .ok (.aload_n 2, 1) := by decide +kernel
theorem dX5_endDealsOfToday_20 : decode cX5_endDealsOfToday 20 = .ok (.iload 4, 2) := by decide +kernel
theorem dX5_endDealsOfToday_22 : decode cX5_endDealsOfToday 22 = .ok (.aaload, 1) := by decide +kernel
theorem dX5_endDealsOfToday_23 : decode cX5_endDealsOfToday 23 = .ok (.astore 5, 2) := by decide +kernel
theorem dX5_endDealsOfToday_25 : decode cX5_endDealsOfToday 25 = .ok (.aload 5, 2) := by decide +kernel
theorem dX5_endDealsOfToday_27 : decode cX5_endDealsOfToday 27 = .ok (.ifnull 42, 3) := by decide +kernel
theorem dX5_endDealsOfToday_30 : decode cX5_endDealsOfToday 30 = .ok (.aload 5, 2) := by decide +kernel
theorem dX5_endDealsOfToday_32 : decode cX5_endDealsOfToday 32 = .ok (.getfield 103, 3) := by decide +kernel
theorem dX5_endDealsOfToday_35 : decode cX5_endDealsOfToday 35 = .ok (.ifCond .le 34, 3) := by decide +kernel
theorem dX5_endDealsOfToday_38 : decode cX5_endDealsOfToday 38 = .ok (.aload 5, 2) := by decide +kernel
theorem dX5_endDealsOfToday_40 : decode cX5_endDealsOfToday 40 = .ok (.getfield 140, 3) := by decide +kernel
theorem dX5_endDealsOfToday_43 : decode cX5_endDealsOfToday 43 = .ok (.aload_n 0, 1) := by decide +kernel
theorem dX5_endDealsOfToday_44 : decode cX5_endDealsOfToday 44 = .ok (.getfield 12, 3) := by decide +kernel
theorem dX5_endDealsOfToday_47 : decode cX5_endDealsOfToday 47 = .ok (.getfield 54, 3) := by decide +kernel
theorem dX5_endDealsOfToday_50 : decode cX5_endDealsOfToday 50 = .ok (.if_icmp .ne 19, 3) := by decide +kernel
theorem dX5_endDealsOfToday_53 : decode cX5_endDealsOfToday 53 = .ok (.aload_n 0, 1) := by decide +kernel
theorem dX5_endDealsOfToday_54 : decode cX5_endDealsOfToday 54 = .ok (.aload 5, 2) := by decide +kernel
theorem dX5_endDealsOfToday_56 : decode cX5_endDealsOfToday 56 = .ok (.invokevirtual 145, 3) := by decide +kernel
theorem dX5_endDealsOfToday_59 : decode cX5_endDealsOfToday 59 = .ok (.pop2, 1) := by decide +kernel
theorem dX5_endDealsOfToday_60 : decode cX5_endDealsOfToday 60 = .ok (.aload 5, 2) := by decide +kernel
theorem dX5_endDealsOfToday_62 : decode cX5_endDealsOfToday 62 = .ok (.iconst 0, 1) := by decide +kernel
theorem dX5_endDealsOfToday_63 : decode cX5_endDealsOfToday 63 = .ok (.putfield 103, 3) := by decide +kernel
theorem dX5_endDealsOfToday_66 : decode cX5_endDealsOfToday 66 = .ok (.iinc 1 1, 3) := by decide +kernel
theorem dX5_endDealsOfToday_69 : decode cX5_endDealsOfToday 69 = .ok (.iinc 4 1, 3) := by decide +kernel
theorem dX5_endDealsOfToday_72 : decode cX5_endDealsOfToday 72 = .ok (.goto (-59), 3) := by decide +kernel
theorem dX5_endDealsOfToday_75 : decode cX5_endDealsOfToday 75 = .ok (.iload_n 1, 1) := by decide +kernel
theorem dX5_endDealsOfToday_76 : decode cX5_endDealsOfToday 76 = .ok (.ireturn, 1) := by decide +kernel
set_option maxRecDepth 20000 in
theorem ggX5_bookGain_X4_marketGain : GoodIn wsX5_bookGain wsX4_marketGain := goodIn_r _ [6, 7, 8, 9, 5, 10, 11, 12, 13, 14, 15, 16, 17, 18, 19, 20, 21, 22, 23, 24, 25, 26, 27, 28, 29, 30, 31, 32, 33, 34, 35, 36, 37, 38, 79, 80, 81, 82, 83, 84, 85, 86, 87, 88] (by decide +kernel) (by decide +kernel)
set_option maxRecDepth 20000 in
theorem gX5_bookGain_X4_marketGain : GoodIn wsX5_bookGain (wsV RX5 165 RX4 yX4_marketGain wsX4_marketGain) := goodIn_app (goodIn_of _ (by decide +kernel)) ggX5_bookGain_X4_marketGain
set_option maxRecDepth 20000 in
theorem ggX5_bookGain_X1_nextBusinessDay : GoodIn wsX5_bookGain wsX1_nextBusinessDay := goodIn_r _ [43, 44, 45, 46, 47, 42, 48, 49, 50, 36, 51, 77, 78] (by decide +kernel) (by decide +kernel)
set_option maxRecDepth 20000 in
theorem gX5_bookGain_X1_nextBusinessDay : GoodIn wsX5_bookGain (wsV RX5 113 RX1 yX1_nextBusinessDay wsX1_nextBusinessDay) := goodIn_app (goodIn_of _ (by decide +kernel)) ggX5_bookGain_X1_nextBusinessDay
set_option maxRecDepth 20000 in
theorem ggX5_bookGain_X3_book : GoodIn wsX5_bookGain wsX3_book := goodIn_r _ [56, 57, 58, 59, 60, 50, 36, 51, 61, 62, 63, 64, 65, 66, 67, 68, 69, 70, 71, 89, 90, 91, 92] (by decide +kernel) (by decide +kernel)
set_option maxRecDepth 20000 in
theorem gX5_bookGain_X3_book : GoodIn wsX5_bookGain (wsV RX5 132 RX3 yX3_book wsX3_book) := goodIn_app (goodIn_of _ (by decide +kernel)) ggX5_bookGain_X3_book
theorem dX5_bookGain_0 : decode cX5_bookGain 0 = .ok (.aload_n 1, 1) := by decide +kernel
theorem dX5_bookGain_1 : decode cX5_bookGain 1 = .ok (.aload_n 0, 1) := by decide +kernel
theorem dX5_bookGain_2 : decode cX5_bookGain 2 = .ok (.getfield 12, 3) := by decide +kernel
theorem dX5_bookGain_5 : decode cX5_bookGain 5 = .ok (.getfield 54, 3) := by decide +kernel
theorem dX5_bookGain_8 : decode cX5_bookGain 8 = .ok (.invokevirtual 165, 3) := by decide +kernel
theorem dX5_bookGain_11 : decode cX5_bookGain 11 = .ok (.lstore_n 2, 1) := by decide +kernel
theorem dX5_bookGain_12 : decode cX5_bookGain 12 = .ok (.aload_n 1, 1) := by decide +kernel
theorem dX5_bookGain_13 : decode cX5_bookGain 13 = .ok (.getfield 117, 3) := by decide +kernel
theorem dX5_bookGain_16 : decode cX5_bookGain 16 = .ok (.iconst 4, 1) := by decide +kernel
theorem dX5_bookGain_17 : decode cX5_bookGain 17 = .ok (.aload_n 0, 1) := by decide +kernel
theorem dX5_bookGain_18 : decode cX5_bookGain 18 = .ok (.getfield 12, 3) := by decide +kernel
theorem dX5_bookGain_21 : decode cX5_bookGain 21 = .ok (.invokevirtual 113, 3) := by decide +kernel
theorem dX5_bookGain_24 : decode cX5_bookGain 24 = .ok (.lload_n 2, 1) := by decide +kernel
theorem dX5_bookGain_25 : decode cX5_bookGain 25 = .ok (.invokevirtual 132, 3) := by decide +kernel
theorem dX5_bookGain_28 : decode cX5_bookGain 28 = .ok (.lload_n 2, 1) := by decide +kernel
theorem dX5_bookGain_29 : decode cX5_bookGain 29 = .ok (.lreturn, 1) := by decide +kernel
set_option maxRecDepth 20000 in
theorem ggX5_settleAll_X3_settle : GoodIn wsX5_settleAll wsX3_settle := goodIn_r _ [6, 7, 8, 9, 10, 5, 11, 12, 13, 14, 15, 16, 17, 18, 19, 20, 21, 22, 23, 24, 25, 26, 27, 28, 29, 35, 36, 37, 38] (by decide +kernel) (by decide +kernel)
set_option maxRecDepth 20000 in
theorem gX5_settleAll_X3_settle : GoodIn wsX5_settleAll (wsV RX5 213 RX3 yX3_settle wsX3_settle) := goodIn_app (goodIn_of _ (by decide +kernel)) ggX5_settleAll_X3_settle
theorem dX5_settleAll_0 : decode cX5_settleAll 0 = .ok (.aload_n 0, 1) := by decide +kernel
theorem dX5_settleAll_1 : decode cX5_settleAll 1 = .ok (.getfield 27, 3) := by decide +kernel
theorem dX5_settleAll_4 : decode cX5_settleAll 4 = .ok (.astore_n 2, 1) := by decide +kernel
theorem dX5_settleAll_5 : decode cX5_settleAll 5 = .ok (.aload_n 2, 1) := by decide +kernel
theorem dX5_settleAll_6 : decode cX5_settleAll 6 = .ok (.arraylength, 1) := by decide +kernel
theorem dX5_settleAll_7 : decode cX5_settleAll 7 = .ok (.istore_n 3, 1) := by decide +kernel
theorem dX5_settleAll_8 : decode cX5_settleAll 8 = .ok (.iconst 0, 1) := by decide +kernel
theorem dX5_settleAll_9 : decode cX5_settleAll 9 = .ok (.istore 4, 2) := by decide +kernel
theorem dX5_settleAll_11 : decode cX5_settleAll 11 = .ok (.iload 4, 2) := by decide +kernel
theorem dX5_settleAll_13 : decode cX5_settleAll 13 = .ok (.iload_n 3, 1) := by decide +kernel
theorem dX5_settleAll_14 : decode cX5_settleAll 14 = .ok (.if_icmp .ge 26, 3) := by decide +kernel
theorem dX5_settleAll_17 : decode cX5_settleAll 17 = .ok (.aload_n 2, 1) := by decide +kernel
theorem dX5_settleAll_18 : decode cX5_settleAll 18 = .ok (.iload 4, 2) := by decide +kernel
theorem dX5_settleAll_20 : decode cX5_settleAll 20 = .ok (.aaload, 1) := by decide +kernel
theorem dX5_settleAll_21 : decode cX5_settleAll 21 = .ok (.astore 5, 2) := by decide +kernel
theorem dX5_settleAll_23 : decode cX5_settleAll 23 = .ok (.aload 5, 2) := by decide +kernel
theorem dX5_settleAll_25 : decode cX5_settleAll 25 = .ok (.ifnull 9, 3) := by decide +kernel
theorem dX5_settleAll_28 : decode cX5_settleAll 28 = .ok (.aload 5, 2) := by decide +kernel
theorem dX5_settleAll_30 : decode cX5_settleAll 30 = .ok (.iload_n 1, 1) := by decide +kernel
theorem dX5_settleAll_31 : decode cX5_settleAll 31 = .ok (.invokevirtual 213, 3) := by decide +kernel
theorem dX5_settleAll_34 : decode cX5_settleAll 34 = .ok (.iinc 4 1, 3) := by decide +kernel
theorem dX5_settleAll_37 : decode cX5_settleAll 37 = .ok (.goto (-26), 3) := by decide +kernel
theorem dX5_settleAll_40 : decode cX5_settleAll 40 = .ok (.return_, 1) := by decide +kernel
set_option maxRecDepth 20000 in
theorem ggX5_exposureWith_X5_lossOfAll : GoodIn wsX5_exposureWith wsX5_lossOfAll := goodIn_r _ [6, 7, 1, 8, 9, 10, 11, 12, 13, 14, 15, 16, 17, 18, 19, 20, 21, 22, 23, 24, 25, 26, 27, 28, 29, 30, 31, 32, 33, 34, 35, 36, 37, 38, 39, 40, 41, 42, 5, 43, 44, 51, 52, 53, 54, 55, 58, 59, 60, 61, 62, 63, 64, 56, 57, 65, 66, 67] (by decide +kernel) (by decide +kernel)
set_option maxRecDepth 20000 in
theorem gX5_exposureWith_X5_lossOfAll : GoodIn wsX5_exposureWith (wsV RX5 169 RX5 yX5_lossOfAll wsX5_lossOfAll) := goodIn_app (goodIn_of _ (by decide +kernel)) ggX5_exposureWith_X5_lossOfAll
set_option maxRecDepth 20000 in
theorem ggX5_exposureWith_X4_shiftedLoss : GoodIn wsX5_exposureWith wsX4_shiftedLoss := goodIn_r _ [12, 13, 14, 15, 16, 17, 18, 19, 11, 20, 21, 22, 23, 24, 25, 26, 27, 28, 29, 30, 31, 32, 33, 34, 35, 36, 37, 38, 39, 40, 41, 42, 5, 43, 44, 58, 59, 60, 61, 62, 63, 64, 65, 66, 67] (by decide +kernel) (by decide +kernel)
set_option maxRecDepth 20000 in
theorem gX5_exposureWith_X4_shiftedLoss : GoodIn wsX5_exposureWith (wsV RX5 216 RX4 yX4_shiftedLoss wsX4_shiftedLoss) := goodIn_app (goodIn_of _ (by decide +kernel)) ggX5_exposureWith_X4_shiftedLoss
set_option maxRecDepth 20000 in
theorem ggX5_exposureWith_X5_worseLoss : GoodIn wsX5_exposureWith wsX5_worseLoss := goodIn_r _ [47, 48, 49, 15, 50] (by decide +kernel) (by decide +kernel)
set_option maxRecDepth 20000 in
theorem gX5_exposureWith_X5_worseLoss : GoodIn wsX5_exposureWith (va_wsS RX5 173 yX5_worseLoss wsX5_worseLoss) := goodIn_app (goodIn_of _ (by decide +kernel)) ggX5_exposureWith_X5_worseLoss
theorem dX5_exposureWith_0 : decode cX5_exposureWith 0 = .ok (.aload_n 0, 1) := by decide +kernel
theorem dX5_exposureWith_1 : decode cX5_exposureWith 1 = .ok (.getfield 12, 3) := by decide +kernel
theorem dX5_exposureWith_4 : decode cX5_exposureWith 4 = .ok (.getfield 54, 3) := by decide +kernel
theorem dX5_exposureWith_7 : decode cX5_exposureWith 7 = .ok (.istore_n 3, 1) := by decide +kernel
theorem dX5_exposureWith_8 : decode cX5_exposureWith 8 = .ok (.aload_n 0, 1) := by decide +kernel
theorem dX5_exposureWith_9 : decode cX5_exposureWith 9 = .ok (.aload_n 1, 1) := by decide +kernel
theorem dX5_exposureWith_10 : decode cX5_exposureWith 10 = .ok (.bipush 10, 2) := by decide +kernel
theorem dX5_exposureWith_12 : decode cX5_exposureWith 12 = .ok (.invokevirtual 169, 3) := by decide +kernel
theorem dX5_exposureWith_15 : decode cX5_exposureWith 15 = .ok (.aload_n 2, 1) := by decide +kernel
theorem dX5_exposureWith_16 : decode cX5_exposureWith 16 = .ok (.iload_n 3, 1) := by decide +kernel
theorem dX5_exposureWith_17 : decode cX5_exposureWith 17 = .ok (.bipush 10, 2) := by decide +kernel
theorem dX5_exposureWith_19 : decode cX5_exposureWith 19 = .ok (.invokevirtual 216, 3) := by decide +kernel
theorem dX5_exposureWith_22 : decode cX5_exposureWith 22 = .ok (.ladd, 1) := by decide +kernel
theorem dX5_exposureWith_23 : decode cX5_exposureWith 23 = .ok (.aload_n 0, 1) := by decide +kernel
theorem dX5_exposureWith_24 : decode cX5_exposureWith 24 = .ok (.aload_n 1, 1) := by decide +kernel
theorem dX5_exposureWith_25 : decode cX5_exposureWith 25 = .ok (.bipush (-10), 2) := by decide +kernel
theorem dX5_exposureWith_27 : decode cX5_exposureWith 27 = .ok (.invokevirtual 169, 3) := by decide +kernel
theorem dX5_exposureWith_30 : decode cX5_exposureWith 30 = .ok (.aload_n 2, 1) := by decide +kernel
theorem dX5_exposureWith_31 : decode cX5_exposureWith 31 = .ok (.iload_n 3, 1) := by decide +kernel
theorem dX5_exposureWith_32 : decode cX5_exposureWith 32 = .ok (.bipush (-10), 2) := by decide +kernel
theorem dX5_exposureWith_34 : decode cX5_exposureWith 34 = .ok (.invokevirtual 216, 3) := by decide +kernel
theorem dX5_exposureWith_37 : decode cX5_exposureWith 37 = .ok (.ladd, 1) := by decide +kernel
theorem dX5_exposureWith_38 : decode cX5_exposureWith 38 = .ok (.invokestatic 173, 3) := by decide +kernel
theorem dX5_exposureWith_41 : decode cX5_exposureWith 41 = .ok (.lreturn, 1) := by decide +kernel
set_option maxRecDepth 20000 in
theorem ggX5_lossOfAll_X4_shiftedLoss : GoodIn wsX5_lossOfAll wsX4_shiftedLoss := goodIn_r _ [7, 8, 9, 10, 11, 12, 13, 14, 6, 15, 16, 17, 18, 19, 20, 21, 22, 23, 24, 25, 26, 27, 28, 29, 30, 31, 32, 33, 34, 35, 36, 37, 38, 39, 40, 46, 47, 48, 49, 50, 51, 52, 55, 56, 57] (by decide +kernel) (by decide +kernel)
set_option maxRecDepth 20000 in
theorem gX5_lossOfAll_X4_shiftedLoss : GoodIn wsX5_lossOfAll (wsV RX5 216 RX4 yX4_shiftedLoss wsX4_shiftedLoss) := goodIn_app (goodIn_of _ (by decide +kernel)) ggX5_lossOfAll_X4_shiftedLoss
theorem dX5_lossOfAll_0 : decode cX5_lossOfAll 0 = .ok (.lconst 0, 1) := by decide +kernel
theorem dX5_lossOfAll_1 : decode cX5_lossOfAll 1 = .ok (.lstore_n 3, 1) := by decide +kernel
theorem dX5_lossOfAll_2 : decode cX5_lossOfAll 2 = .ok (.aload_n 0, 1) := by decide +kernel
theorem dX5_lossOfAll_3 : decode cX5_lossOfAll 3 = .ok (.getfield 34, 3) := by decide +kernel
theorem dX5_lossOfAll_6 : decode cX5_lossOfAll 6 = .ok (.astore 5, 2) := by decide +kernel
theorem dX5_lossOfAll_8 : decode cX5_lossOfAll 8 = .ok (.aload 5, 2) := by decide +kernel
theorem dX5_lossOfAll_10 : decode cX5_lossOfAll 10 = .ok (.arraylength, 1) := by decide +kernel
theorem dX5_lossOfAll_11 : decode cX5_lossOfAll 11 = .ok (.istore 6, 2) := by decide +kernel
theorem dX5_lossOfAll_13 : decode cX5_lossOfAll 13 = .ok (.iconst 0, 1) := by decide +kernel
theorem dX5_lossOfAll_14 : decode cX5_lossOfAll 14 = .ok (.istore 7, 2) := by decide +kernel
theorem dX5_lossOfAll_16 : decode cX5_lossOfAll 16 = .ok (.iload 7, 2) := by decide +kernel
theorem dX5_lossOfAll_18 : decode cX5_lossOfAll 18 = .ok (.iload 6, 2) := by decide +kernel
theorem dX5_lossOfAll_20 : decode cX5_lossOfAll 20 = .ok (.if_icmp .ge 46, 3) := by decide +kernel
theorem dX5_lossOfAll_23 : decode cX5_lossOfAll 23 = .ok (.aload 5, 2) := by decide +kernel
theorem dX5_lossOfAll_25 : decode cX5_lossOfAll 25 = .ok (.iload 7, 2) := by decide +kernel
theorem dX5_lossOfAll_27 : decode cX5_lossOfAll 27 = .ok (.aaload, 1) := by decide +kernel
theorem dX5_lossOfAll_28 : decode cX5_lossOfAll 28 = .ok (.astore 8, 2) := by decide +kernel
theorem dX5_lossOfAll_30 : decode cX5_lossOfAll 30 = .ok (.aload 8, 2) := by decide +kernel
theorem dX5_lossOfAll_32 : decode cX5_lossOfAll 32 = .ok (.ifnull 28, 3) := by decide +kernel
theorem dX5_lossOfAll_35 : decode cX5_lossOfAll 35 = .ok (.aload 8, 2) := by decide +kernel
theorem dX5_lossOfAll_37 : decode cX5_lossOfAll 37 = .ok (.getfield 117, 3) := by decide +kernel
theorem dX5_lossOfAll_40 : decode cX5_lossOfAll 40 = .ok (.aload_n 1, 1) := by decide +kernel
theorem dX5_lossOfAll_41 : decode cX5_lossOfAll 41 = .ok (.if_acmp .ne 19, 3) := by decide +kernel
theorem dX5_lossOfAll_44 : decode cX5_lossOfAll 44 = .ok (.lload_n 3, 1) := by decide +kernel
theorem dX5_lossOfAll_45 : decode cX5_lossOfAll 45 = .ok (.aload 8, 2) := by decide +kernel
theorem dX5_lossOfAll_47 : decode cX5_lossOfAll 47 = .ok (.aload_n 0, 1) := by decide +kernel
theorem dX5_lossOfAll_48 : decode cX5_lossOfAll 48 = .ok (.getfield 12, 3) := by decide +kernel
theorem dX5_lossOfAll_51 : decode cX5_lossOfAll 51 = .ok (.getfield 54, 3) := by decide +kernel
theorem dX5_lossOfAll_54 : decode cX5_lossOfAll 54 = .ok (.iload_n 2, 1) := by decide +kernel
theorem dX5_lossOfAll_55 : decode cX5_lossOfAll 55 = .ok (.invokevirtual 216, 3) := by decide +kernel
theorem dX5_lossOfAll_58 : decode cX5_lossOfAll 58 = .ok (.ladd, 1) := by decide +kernel
theorem dX5_lossOfAll_59 : decode cX5_lossOfAll 59 = .ok (.lstore_n 3, 1) := by decide +kernel
theorem dX5_lossOfAll_60 : decode cX5_lossOfAll 60 = .ok (.iinc 7 1, 3) := by decide +kernel
theorem dX5_lossOfAll_63 : decode cX5_lossOfAll 63 = .ok (.goto (-47), 3) := by decide +kernel
theorem dX5_lossOfAll_66 : decode cX5_lossOfAll 66 = .ok (.lload_n 3, 1) := by decide +kernel
theorem dX5_lossOfAll_67 : decode cX5_lossOfAll 67 = .ok (.lreturn, 1) := by decide +kernel
theorem dX5_worseLoss_0 : decode cX5_worseLoss 0 = .ok (.lconst 0, 1) := by decide +kernel
theorem dX5_worseLoss_1 : decode cX5_worseLoss 1 = .ok (.lload_n 0, 1) := by decide +kernel
theorem dX5_worseLoss_2 : decode cX5_worseLoss 2 = .ok (.lload_n 2, 1) := by decide +kernel
theorem dX5_worseLoss_3 : decode cX5_worseLoss 3 = .ok (.invokestatic 219, 3) := by decide +kernel
theorem dX5_worseLoss_6 : decode cX5_worseLoss 6 = .ok (.invokestatic 219, 3) := by decide +kernel
theorem dX5_worseLoss_9 : decode cX5_worseLoss 9 = .ok (.lreturn, 1) := by decide +kernel
theorem dX5_homeAmount_0 : decode cX5_homeAmount 0 = .ok (.iload_n 0, 1) := by decide +kernel
theorem dX5_homeAmount_1 : decode cX5_homeAmount 1 = .ok (.i2l, 1) := by decide +kernel
theorem dX5_homeAmount_2 : decode cX5_homeAmount 2 = .ok (.iload_n 1, 1) := by decide +kernel
theorem dX5_homeAmount_3 : decode cX5_homeAmount 3 = .ok (.i2l, 1) := by decide +kernel
theorem dX5_homeAmount_4 : decode cX5_homeAmount 4 = .ok (.lmul, 1) := by decide +kernel
theorem dX5_homeAmount_5 : decode cX5_homeAmount 5 = .ok (.ldc2_w 224, 3) := by decide +kernel
theorem dX5_homeAmount_8 : decode cX5_homeAmount 8 = .ok (.ldiv, 1) := by decide +kernel
theorem dX5_homeAmount_9 : decode cX5_homeAmount 9 = .ok (.lreturn, 1) := by decide +kernel
theorem dJ9_max_7cf53_0 : decode cJ9_max_7cf53 0 = .ok (.iload_n 0, 1) := by decide +kernel
theorem dJ9_max_7cf53_1 : decode cJ9_max_7cf53 1 = .ok (.iload_n 1, 1) := by decide +kernel
theorem dJ9_max_7cf53_2 : decode cJ9_max_7cf53 2 = .ok (.if_icmp .lt 7, 3) := by decide +kernel
theorem dJ9_max_7cf53_5 : decode cJ9_max_7cf53 5 = .ok (.iload_n 0, 1) := by decide +kernel
theorem dJ9_max_7cf53_6 : decode cJ9_max_7cf53 6 = .ok (.goto 4, 3) := by decide +kernel
theorem dJ9_max_7cf53_9 : decode cJ9_max_7cf53 9 = .ok (.iload_n 1, 1) := by decide +kernel
theorem dJ9_max_7cf53_10 : decode cJ9_max_7cf53 10 = .ok (.ireturn, 1) := by decide +kernel
theorem dJ9_max_f86c9_0 : decode cJ9_max_f86c9 0 = .ok (.lload_n 0, 1) := by decide +kernel
theorem dJ9_max_f86c9_1 : decode cJ9_max_f86c9 1 = .ok (.lload_n 2, 1) := by decide +kernel
theorem dJ9_max_f86c9_2 : decode cJ9_max_f86c9 2 = .ok (.lcmp, 1) := by decide +kernel
theorem dJ9_max_f86c9_3 : decode cJ9_max_f86c9 3 = .ok (.ifCond .lt 7, 3) := by decide +kernel
theorem dJ9_max_f86c9_6 : decode cJ9_max_f86c9 6 = .ok (.lload_n 0, 1) := by decide +kernel
theorem dJ9_max_f86c9_7 : decode cJ9_max_f86c9 7 = .ok (.goto 4, 3) := by decide +kernel
theorem dJ9_max_f86c9_10 : decode cJ9_max_f86c9 10 = .ok (.lload_n 2, 1) := by decide +kernel
theorem dJ9_max_f86c9_11 : decode cJ9_max_f86c9 11 = .ok (.lreturn, 1) := by decide +kernel
