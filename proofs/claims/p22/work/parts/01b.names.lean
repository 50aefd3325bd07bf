theorem dX0_init_0 : decode cX0_init 0 = .ok (.aload_n 0, 1) := by decide +kernel
theorem dX0_init_1 : decode cX0_init 1 = .ok (.invokespecial 3, 3) := by decide +kernel
theorem dX0_init_4 : decode cX0_init 4 = .ok (.aload_n 0, 1) := by decide +kernel
theorem dX0_init_5 : decode cX0_init 5 = .ok (.iconst 5, 1) := by decide +kernel
theorem dX0_init_6 : decode cX0_init 6 = .ok (.newarray .long, 2) := by decide +kernel
theorem dX0_init_8 : decode cX0_init 8 = .ok (.putfield 9, 3) := by decide +kernel
theorem dX0_init_11 : decode cX0_init 11 = .ok (.return_, 1) := by decide +kernel
set_option maxRecDepth 20000 in
theorem ggX0_add_X5_isIndex : GoodIn wsX0_add wsX5_isIndex := goodIn_r _ [4] (by decide +kernel) (by decide +kernel)
set_option maxRecDepth 20000 in
theorem gX0_add_X5_isIndex_n15 : GoodIn wsX0_add (wsX5_isIndex) := ggX0_add_X5_isIndex
theorem dX0_add_0 : decode cX0_add 0 = .ok (.iload_n 1, 1) := by decide +kernel
theorem dX0_add_1 : decode cX0_add 1 = .ok (.aload_n 0, 1) := by decide +kernel
theorem dX0_add_2 : decode cX0_add 2 = .ok (.getfield 9, 3) := by decide +kernel
theorem dX0_add_5 : decode cX0_add 5 = .ok (.arraylength, 1) := by decide +kernel
theorem dX0_add_6 : decode cX0_add 6 = .ok (.invokestatic 15, 3) := by decide +kernel
theorem dX0_add_9 : decode cX0_add 9 = .ok (.ifCond .eq 13, 3) := by decide +kernel
theorem dX0_add_12 : decode cX0_add 12 = .ok (.aload_n 0, 1) := by decide +kernel
theorem dX0_add_13 : decode cX0_add 13 = .ok (.getfield 9, 3) := by decide +kernel
theorem dX0_add_16 : decode cX0_add 16 = .ok (.iload_n 1, 1) := by decide +kernel
theorem dX0_add_17 : decode cX0_add 17 = .ok (.dup2, 1) := by decide +kernel
theorem dX0_add_18 : decode cX0_add 18 = .ok (.laload, 1) := by decide +kernel
theorem dX0_add_19 : decode cX0_add 19 = .ok (.lload_n 2, 1) := by decide +kernel
theorem dX0_add_20 : decode cX0_add 20 = .ok (.ladd, 1) := by decide +kernel
theorem dX0_add_21 : decode cX0_add 21 = .ok (.lastore, 1) := by decide +kernel
theorem dX0_add_22 : decode cX0_add 22 = .ok (.return_, 1) := by decide +kernel
set_option maxRecDepth 20000 in
theorem ggX0_addAll_X0_amountOf : GoodIn wsX0_addAll wsX0_amountOf := goodIn_r _ [5, 6, 7, 8, 9, 14] (by decide +kernel) (by decide +kernel)
set_option maxRecDepth 20000 in
theorem gX0_addAll_X0_amountOf : GoodIn wsX0_addAll (wsV RX0 19 RX0 yX0_amountOf wsX0_amountOf) := goodIn_app (goodIn_of _ (by decide +kernel)) ggX0_addAll_X0_amountOf
set_option maxRecDepth 20000 in
theorem ggX0_addAll_X0_add : GoodIn wsX0_addAll wsX0_add := goodIn_r _ [13, 6, 7, 8, 9, 14] (by decide +kernel) (by decide +kernel)
set_option maxRecDepth 20000 in
theorem gX0_addAll_X0_add : GoodIn wsX0_addAll (wsV RX0 23 RX0 yX0_add wsX0_add) := goodIn_app (goodIn_of _ (by decide +kernel)) ggX0_addAll_X0_add
theorem dX0_addAll_0 : decode cX0_addAll 0 = .ok (.iconst 0, 1) := by decide +kernel
theorem dX0_addAll_1 : decode cX0_addAll 1 = .ok (.istore_n 2, 1) := by decide +kernel
theorem dX0_addAll_2 : decode cX0_addAll 2 = .ok (.iload_n 2, 1) := by decide +kernel
theorem dX0_addAll_3 : decode cX0_addAll 3 = .ok (.iconst 5, 1) := by decide +kernel
theorem dX0_addAll_4 : decode cX0_addAll 4 = .ok (.if_icmp .ge 19, 3) := by decide +kernel
theorem dX0_addAll_7 : decode cX0_addAll 7 = .ok (.aload_n 0, 1) := by decide +kernel
theorem dX0_addAll_8 : decode cX0_addAll 8 = .ok (.iload_n 2, 1) := by decide +kernel
theorem dX0_addAll_9 : decode cX0_addAll 9 = .ok (.aload_n 1, 1) := by decide +kernel
theorem dX0_addAll_10 : decode cX0_addAll 10 = .ok (.iload_n 2, 1) := by decide +kernel
theorem dX0_addAll_11 : decode cX0_addAll 11 = .ok (.invokevirtual 19, 3) := by decide +kernel
theorem dX0_addAll_14 : decode cX0_addAll 14 = .ok (.invokevirtual 23, 3) := by decide +kernel
theorem dX0_addAll_17 : decode cX0_addAll 17 = .ok (.iinc 2 1, 3) := by decide +kernel
theorem dX0_addAll_20 : decode cX0_addAll 20 = .ok (.goto (-18), 3) := by decide +kernel
theorem dX0_addAll_23 : decode cX0_addAll 23 = .ok (.return_, 1) := by decide +kernel
set_option maxRecDepth 20000 in
theorem ggX0_amountOf_X5_isIndex : GoodIn wsX0_amountOf wsX5_isIndex := goodIn_r _ [4] (by decide +kernel) (by decide +kernel)
set_option maxRecDepth 20000 in
theorem gX0_amountOf_X5_isIndex_n15 : GoodIn wsX0_amountOf (wsX5_isIndex) := ggX0_amountOf_X5_isIndex
theorem dX0_amountOf_0 : decode cX0_amountOf 0 = .ok (.iload_n 1, 1) := by decide +kernel
theorem dX0_amountOf_1 : decode cX0_amountOf 1 = .ok (.aload_n 0, 1) := by decide +kernel
theorem dX0_amountOf_2 : decode cX0_amountOf 2 = .ok (.getfield 9, 3) := by decide +kernel
theorem dX0_amountOf_5 : decode cX0_amountOf 5 = .ok (.arraylength, 1) := by decide +kernel
theorem dX0_amountOf_6 : decode cX0_amountOf 6 = .ok (.invokestatic 15, 3) := by decide +kernel
theorem dX0_amountOf_9 : decode cX0_amountOf 9 = .ok (.ifCond .eq 12, 3) := by decide +kernel
theorem dX0_amountOf_12 : decode cX0_amountOf 12 = .ok (.aload_n 0, 1) := by decide +kernel
theorem dX0_amountOf_13 : decode cX0_amountOf 13 = .ok (.getfield 9, 3) := by decide +kernel
theorem dX0_amountOf_16 : decode cX0_amountOf 16 = .ok (.iload_n 1, 1) := by decide +kernel
theorem dX0_amountOf_17 : decode cX0_amountOf 17 = .ok (.laload, 1) := by decide +kernel
theorem dX0_amountOf_18 : decode cX0_amountOf 18 = .ok (.goto 4, 3) := by decide +kernel
theorem dX0_amountOf_21 : decode cX0_amountOf 21 = .ok (.lconst 0, 1) := by decide +kernel
theorem dX0_amountOf_22 : decode cX0_amountOf 22 = .ok (.lreturn, 1) := by decide +kernel
theorem dX1_init_0 : decode cX1_init 0 = .ok (.aload_n 0, 1) := by decide +kernel
theorem dX1_init_1 : decode cX1_init 1 = .ok (.invokespecial 3, 3) := by decide +kernel
theorem dX1_init_4 : decode cX1_init 4 = .ok (.aload_n 0, 1) := by decide +kernel
theorem dX1_init_5 : decode cX1_init 5 = .ok (.sipush 1001, 3) := by decide +kernel
theorem dX1_init_8 : decode cX1_init 8 = .ok (.newarray .boolean, 2) := by decide +kernel
theorem dX1_init_10 : decode cX1_init 10 = .ok (.putfield 9, 3) := by decide +kernel
theorem dX1_init_13 : decode cX1_init 13 = .ok (.return_, 1) := by decide +kernel
set_option maxRecDepth 20000 in
theorem ggX1_flipHoliday_X5_isIndex : GoodIn wsX1_flipHoliday wsX5_isIndex := goodIn_r _ [4] (by decide +kernel) (by decide +kernel)
set_option maxRecDepth 20000 in
theorem gX1_flipHoliday_X5_isIndex_n15 : GoodIn wsX1_flipHoliday (wsX5_isIndex) := ggX1_flipHoliday_X5_isIndex
theorem dX1_flipHoliday_0 : decode cX1_flipHoliday 0 = .ok (.iload_n 1, 1) := by decide +kernel
theorem dX1_flipHoliday_1 : decode cX1_flipHoliday 1 = .ok (.aload_n 0, 1) := by decide +kernel
theorem dX1_flipHoliday_2 : decode cX1_flipHoliday 2 = .ok (.getfield 9, 3) := by decide +kernel
theorem dX1_flipHoliday_5 : decode cX1_flipHoliday 5 = .ok (.arraylength, 1) := by decide +kernel
theorem dX1_flipHoliday_6 : decode cX1_flipHoliday 6 = .ok (.invokestatic 15, 3) := by decide +kernel
theorem dX1_flipHoliday_9 : decode cX1_flipHoliday 9 = .ok (.ifCond .ne 5, 3) := by decide +kernel
theorem dX1_flipHoliday_12 : decode cX1_flipHoliday 12 = .ok (.iconst 0, 1) := by decide +kernel
theorem dX1_flipHoliday_13 : decode cX1_flipHoliday 13 = .ok (.ireturn, 1) := by decide +kernel
theorem dX1_flipHoliday_14 : decode cX1_flipHoliday 14 = .ok (.aload_n 0, 1) := by decide +kernel
theorem dX1_flipHoliday_15 : decode cX1_flipHoliday 15 = .ok (.getfield 9, 3) := by decide +kernel
theorem dX1_flipHoliday_18 : decode cX1_flipHoliday 18 = .ok (.iload_n 1, 1) := by decide +kernel
theorem dX1_flipHoliday_19 : decode cX1_flipHoliday 19 = .ok (.aload_n 0, 1) := by decide +kernel
theorem dX1_flipHoliday_20 : decode cX1_flipHoliday 20 = .ok (.getfield 9, 3) := by decide +kernel
theorem dX1_flipHoliday_23 : decode cX1_flipHoliday 23 = .ok (.iload_n 1, 1) := by decide +kernel
theorem dX1_flipHoliday_24 : decode cX1_flipHoliday 24 = .ok (.baload, 1) := by decide +kernel
theorem dX1_flipHoliday_25 : decode cX1_flipHoliday 25 = .ok (.ifCond .ne 7, 3) := by decide +kernel
theorem dX1_flipHoliday_28 : decode cX1_flipHoliday 28 = .ok (.iconst 1, 1) := by decide +kernel
theorem dX1_flipHoliday_29 : decode cX1_flipHoliday 29 = .ok (.goto 4, 3) := by decide +kernel
theorem dX1_flipHoliday_32 : decode cX1_flipHoliday 32 = .ok (.iconst 0, 1) := by decide +kernel
theorem dX1_flipHoliday_33 : decode cX1_flipHoliday 33 = .ok (.bastore, 1) := by decide +kernel
theorem dX1_flipHoliday_34 : decode cX1_flipHoliday 34 = .ok (.aload_n 0, 1) := by decide +kernel
theorem dX1_flipHoliday_35 : decode cX1_flipHoliday 35 = .ok (.getfield 9, 3) := by decide +kernel
theorem dX1_flipHoliday_38 : decode cX1_flipHoliday 38 = .ok (.iload_n 1, 1) := by decide +kernel
theorem dX1_flipHoliday_39 : decode cX1_flipHoliday 39 = .ok (.baload, 1) := by decide +kernel
theorem dX1_flipHoliday_40 : decode cX1_flipHoliday 40 = .ok (.ireturn, 1) := by decide +kernel
set_option maxRecDepth 20000 in
theorem ggX1_isBusinessDay_X5_isIndex : GoodIn wsX1_isBusinessDay wsX5_isIndex := goodIn_r _ [4] (by decide +kernel) (by decide +kernel)
set_option maxRecDepth 20000 in
theorem gX1_isBusinessDay_X5_isIndex_n15 : GoodIn wsX1_isBusinessDay (wsX5_isIndex) := ggX1_isBusinessDay_X5_isIndex
theorem dX1_isBusinessDay_0 : decode cX1_isBusinessDay 0 = .ok (.iload_n 1, 1) := by decide +kernel
theorem dX1_isBusinessDay_1 : decode cX1_isBusinessDay 1 = .ok (.aload_n 0, 1) := by decide +kernel
theorem dX1_isBusinessDay_2 : decode cX1_isBusinessDay 2 = .ok (.getfield 9, 3) := by decide +kernel
theorem dX1_isBusinessDay_5 : decode cX1_isBusinessDay 5 = .ok (.arraylength, 1) := by decide +kernel
theorem dX1_isBusinessDay_6 : decode cX1_isBusinessDay 6 = .ok (.invokestatic 15, 3) := by decide +kernel
theorem dX1_isBusinessDay_9 : decode cX1_isBusinessDay 9 = .ok (.ifCond .eq 16, 3) := by decide +kernel
theorem dX1_isBusinessDay_12 : decode cX1_isBusinessDay 12 = .ok (.aload_n 0, 1) := by decide +kernel
theorem dX1_isBusinessDay_13 : decode cX1_isBusinessDay 13 = .ok (.getfield 9, 3) := by decide +kernel
theorem dX1_isBusinessDay_16 : decode cX1_isBusinessDay 16 = .ok (.iload_n 1, 1) := by decide +kernel
theorem dX1_isBusinessDay_17 : decode cX1_isBusinessDay 17 = .ok (.baload, 1) := by decide +kernel
theorem dX1_isBusinessDay_18 : decode cX1_isBusinessDay 18 = .ok (.ifCond .eq 7, 3) := by decide +kernel
theorem dX1_isBusinessDay_21 : decode cX1_isBusinessDay 21 = .ok (.iconst 1, 1) := by decide +kernel
theorem dX1_isBusinessDay_22 : decode cX1_isBusinessDay 22 = .ok (.goto 4, 3) := by decide +kernel
theorem dX1_isBusinessDay_25 : decode cX1_isBusinessDay 25 = .ok (.iconst 0, 1) := by decide +kernel
theorem dX1_isBusinessDay_26 : decode cX1_isBusinessDay 26 = .ok (.istore_n 2, 1) := by decide +kernel
theorem dX1_isBusinessDay_27 : decode cX1_isBusinessDay 27 = .ok (.iload_n 1, 1) := by decide +kernel
theorem dX1_isBusinessDay_28 : decode cX1_isBusinessDay 28 = .ok (.bipush 7, 2) := by decide +kernel
theorem dX1_isBusinessDay_30 : decode cX1_isBusinessDay 30 = .ok (.irem, 1) := by decide +kernel
theorem dX1_isBusinessDay_31 : decode cX1_isBusinessDay 31 = .ok (.iconst 5, 1) := by decide +kernel
theorem dX1_isBusinessDay_32 : decode cX1_isBusinessDay 32 = .ok (.if_icmp .ge 11, 3) := by decide +kernel
theorem dX1_isBusinessDay_35 : decode cX1_isBusinessDay 35 = .ok (.iload_n 2, 1) := by decide +kernel
theorem dX1_isBusinessDay_36 : decode cX1_isBusinessDay 36 = .ok (.ifCond .ne 7, 3) := by decide +kernel
theorem dX1_isBusinessDay_39 : decode cX1_isBusinessDay 39 = .ok (.iconst 1, 1) := by decide +kernel
theorem dX1_isBusinessDay_40 : decode cX1_isBusinessDay 40 = .ok (.goto 4, 3) := by decide +kernel
theorem dX1_isBusinessDay_43 : decode cX1_isBusinessDay 43 = .ok (.iconst 0, 1) := by decide +kernel
theorem dX1_isBusinessDay_44 : decode cX1_isBusinessDay 44 = .ok (.ireturn, 1) := by decide +kernel
set_option maxRecDepth 20000 in
theorem ggX1_nextBusinessDay_X1_isBusinessDay : GoodIn wsX1_nextBusinessDay wsX1_isBusinessDay := goodIn_r _ [6, 7, 8, 9, 10, 11, 12] (by decide +kernel) (by decide +kernel)
set_option maxRecDepth 20000 in
theorem gX1_nextBusinessDay_X1_isBusinessDay : GoodIn wsX1_nextBusinessDay (wsV RX1 23 RX1 yX1_isBusinessDay wsX1_isBusinessDay) := goodIn_app (goodIn_of _ (by decide +kernel)) ggX1_nextBusinessDay_X1_isBusinessDay
theorem dX1_nextBusinessDay_0 : decode cX1_nextBusinessDay 0 = .ok (.aload_n 0, 1) := by decide +kernel
theorem dX1_nextBusinessDay_1 : decode cX1_nextBusinessDay 1 = .ok (.getfield 19, 3) := by decide +kernel
theorem dX1_nextBusinessDay_4 : decode cX1_nextBusinessDay 4 = .ok (.iconst 1, 1) := by decide +kernel
theorem dX1_nextBusinessDay_5 : decode cX1_nextBusinessDay 5 = .ok (.iadd, 1) := by decide +kernel
theorem dX1_nextBusinessDay_6 : decode cX1_nextBusinessDay 6 = .ok (.istore_n 1, 1) := by decide +kernel
theorem dX1_nextBusinessDay_7 : decode cX1_nextBusinessDay 7 = .ok (.iload_n 1, 1) := by decide +kernel
theorem dX1_nextBusinessDay_8 : decode cX1_nextBusinessDay 8 = .ok (.sipush 1001, 3) := by decide +kernel
theorem dX1_nextBusinessDay_11 : decode cX1_nextBusinessDay 11 = .ok (.if_icmp .ge 17, 3) := by decide +kernel
theorem dX1_nextBusinessDay_14 : decode cX1_nextBusinessDay 14 = .ok (.aload_n 0, 1) := by decide +kernel
theorem dX1_nextBusinessDay_15 : decode cX1_nextBusinessDay 15 = .ok (.iload_n 1, 1) := by decide +kernel
theorem dX1_nextBusinessDay_16 : decode cX1_nextBusinessDay 16 = .ok (.invokevirtual 23, 3) := by decide +kernel
theorem dX1_nextBusinessDay_19 : decode cX1_nextBusinessDay 19 = .ok (.ifCond .ne 9, 3) := by decide +kernel
theorem dX1_nextBusinessDay_22 : decode cX1_nextBusinessDay 22 = .ok (.iinc 1 1, 3) := by decide +kernel
theorem dX1_nextBusinessDay_25 : decode cX1_nextBusinessDay 25 = .ok (.goto (-18), 3) := by decide +kernel
theorem dX1_nextBusinessDay_28 : decode cX1_nextBusinessDay 28 = .ok (.iload_n 1, 1) := by decide +kernel
theorem dX1_nextBusinessDay_29 : decode cX1_nextBusinessDay 29 = .ok (.ireturn, 1) := by decide +kernel
theorem dX2_init_0 : decode cX2_init 0 = .ok (.aload_n 0, 1) := by decide +kernel
theorem dX2_init_1 : decode cX2_init 1 = .ok (.invokespecial 3, 3) := by decide +kernel
theorem dX2_init_4 : decode cX2_init 4 = .ok (.aload_n 0, 1) := by decide +kernel
theorem dX2_init_5 : decode cX2_init 5 = .ok (.sipush 10000, 3) := by decide +kernel
theorem dX2_init_8 : decode cX2_init 8 = .ok (.putfield 9, 3) := by decide +kernel
theorem dX2_init_11 : decode cX2_init 11 = .ok (.aload_n 0, 1) := by decide +kernel
theorem dX2_init_12 : decode cX2_init 12 = .ok (.iload_n 1, 1) := by decide +kernel
theorem dX2_init_13 : decode cX2_init 13 = .ok (.putfield 15, 3) := by decide +kernel
theorem dX2_init_16 : decode cX2_init 16 = .ok (.return_, 1) := by decide +kernel
set_option maxRecDepth 20000 in
theorem ggX2_forwardRate_X2_laterRate : GoodIn wsX2_forwardRate wsX2_laterRate := goodIn_r _ [6, 7, 8, 9, 10, 11, 12, 13, 14] (by decide +kernel) (by decide +kernel)
set_option maxRecDepth 20000 in
theorem gX2_forwardRate_X2_laterRate : GoodIn wsX2_forwardRate (wsV RX2 18 RX2 yX2_laterRate wsX2_laterRate) := goodIn_app (goodIn_of _ (by decide +kernel)) ggX2_forwardRate_X2_laterRate
theorem dX2_forwardRate_0 : decode cX2_forwardRate 0 = .ok (.aload_n 0, 1) := by decide +kernel
theorem dX2_forwardRate_1 : decode cX2_forwardRate 1 = .ok (.aload_n 0, 1) := by decide +kernel
theorem dX2_forwardRate_2 : decode cX2_forwardRate 2 = .ok (.getfield 9, 3) := by decide +kernel
theorem dX2_forwardRate_5 : decode cX2_forwardRate 5 = .ok (.iload_n 1, 1) := by decide +kernel
theorem dX2_forwardRate_6 : decode cX2_forwardRate 6 = .ok (.invokevirtual 18, 3) := by decide +kernel
theorem dX2_forwardRate_9 : decode cX2_forwardRate 9 = .ok (.ireturn, 1) := by decide +kernel
theorem dX2_laterRate_0 : decode cX2_laterRate 0 = .ok (.iconst 1, 1) := by decide +kernel
theorem dX2_laterRate_1 : decode cX2_laterRate 1 = .ok (.iload_n 1, 1) := by decide +kernel
theorem dX2_laterRate_2 : decode cX2_laterRate 2 = .ok (.aload_n 0, 1) := by decide +kernel
theorem dX2_laterRate_3 : decode cX2_laterRate 3 = .ok (.getfield 22, 3) := by decide +kernel
theorem dX2_laterRate_6 : decode cX2_laterRate 6 = .ok (.iload_n 2, 1) := by decide +kernel
theorem dX2_laterRate_7 : decode cX2_laterRate 7 = .ok (.imul, 1) := by decide +kernel
theorem dX2_laterRate_8 : decode cX2_laterRate 8 = .ok (.iadd, 1) := by decide +kernel
theorem dX2_laterRate_9 : decode cX2_laterRate 9 = .ok (.invokestatic 25, 3) := by decide +kernel
theorem dX2_laterRate_12 : decode cX2_laterRate 12 = .ok (.ireturn, 1) := by decide +kernel
set_option maxRecDepth 20000 in
theorem ggX3_init_X0_init : GoodIn wsX3_init wsX0_init := goodIn_r _ [12, 13, 2, 3, 14, 15, 19] (by decide +kernel) (by decide +kernel)
set_option maxRecDepth 20000 in
theorem gX3_init_X0_init_n22 : GoodIn wsX3_init (wsX0_init) := ggX3_init_X0_init
theorem dX3_init_0 : decode cX3_init 0 = .ok (.aload_n 0, 1) := by decide +kernel
theorem dX3_init_1 : decode cX3_init 1 = .ok (.invokespecial 3, 3) := by decide +kernel
theorem dX3_init_4 : decode cX3_init 4 = .ok (.aload_n 0, 1) := by decide +kernel
theorem dX3_init_5 : decode cX3_init 5 = .ok (.ldc 9, 2) := by decide +kernel
theorem dX3_init_7 : decode cX3_init 7 = .ok (.putfield 10, 3) := by decide +kernel
theorem dX3_init_10 : decode cX3_init 10 = .ok (.aload_n 0, 1) := by decide +kernel
theorem dX3_init_11 : decode cX3_init 11 = .ok (.sipush 1002, 3) := by decide +kernel
theorem dX3_init_14 : decode cX3_init 14 = .ok (.anewarray 16, 3) := by decide +kernel
theorem dX3_init_17 : decode cX3_init 17 = .ok (.putfield 18, 3) := by decide +kernel
theorem dX3_init_20 : decode cX3_init 20 = .ok (.aload_n 0, 1) := by decide +kernel
theorem dX3_init_21 : decode cX3_init 21 = .ok (.new 16, 3) := by decide +kernel
theorem dX3_init_24 : decode cX3_init 24 = .ok (.dup, 1) := by decide +kernel
theorem dX3_init_25 : decode cX3_init 25 = .ok (.invokespecial 22, 3) := by decide +kernel
theorem dX3_init_28 : decode cX3_init 28 = .ok (.putfield 23, 3) := by decide +kernel
theorem dX3_init_31 : decode cX3_init 31 = .ok (.return_, 1) := by decide +kernel
set_option maxRecDepth 20000 in
theorem ggX3_book_X5_isIndex : GoodIn wsX3_book wsX5_isIndex := goodIn_r _ [7] (by decide +kernel) (by decide +kernel)
set_option maxRecDepth 20000 in
theorem gX3_book_X5_isIndex_n27 : GoodIn wsX3_book (wsX5_isIndex) := ggX3_book_X5_isIndex
set_option maxRecDepth 20000 in
theorem ggX3_book_X0_init : GoodIn wsX3_book wsX0_init := goodIn_r _ [9, 10, 11, 12, 13, 14, 22] (by decide +kernel) (by decide +kernel)
set_option maxRecDepth 20000 in
theorem gX3_book_X0_init_n22 : GoodIn wsX3_book (wsX0_init) := ggX3_book_X0_init
set_option maxRecDepth 20000 in
theorem ggX3_book_X0_add : GoodIn wsX3_book wsX0_add := goodIn_r _ [18, 14, 5, 6, 7, 22] (by decide +kernel) (by decide +kernel)
set_option maxRecDepth 20000 in
theorem gX3_book_X0_add : GoodIn wsX3_book (wsV RX3 31 RX0 yX0_add wsX0_add) := goodIn_app (goodIn_of _ (by decide +kernel)) ggX3_book_X0_add
theorem dX3_book_0 : decode cX3_book 0 = .ok (.iload_n 2, 1) := by decide +kernel
theorem dX3_book_1 : decode cX3_book 1 = .ok (.aload_n 0, 1) := by decide +kernel
theorem dX3_book_2 : decode cX3_book 2 = .ok (.getfield 18, 3) := by decide +kernel
theorem dX3_book_5 : decode cX3_book 5 = .ok (.arraylength, 1) := by decide +kernel
theorem dX3_book_6 : decode cX3_book 6 = .ok (.invokestatic 27, 3) := by decide +kernel
theorem dX3_book_9 : decode cX3_book 9 = .ok (.ifCond .ne 4, 3) := by decide +kernel
theorem dX3_book_12 : decode cX3_book 12 = .ok (.return_, 1) := by decide +kernel
theorem dX3_book_13 : decode cX3_book 13 = .ok (.aload_n 0, 1) := by decide +kernel
theorem dX3_book_14 : decode cX3_book 14 = .ok (.getfield 18, 3) := by decide +kernel
theorem dX3_book_17 : decode cX3_book 17 = .ok (.iload_n 2, 1) := by decide +kernel
theorem dX3_book_18 : decode cX3_book 18 = .ok (.aaload, 1) := by decide +kernel
theorem dX3_book_19 : decode cX3_book 19 = .ok (.astore 5, 2) := by decide +kernel
theorem dX3_book_21 : decode cX3_book 21 = .ok (.aload 5, 2) := by decide +kernel
theorem dX3_book_23 : decode cX3_book 23 = .ok (.ifnonnull 20, 3) := by decide +kernel
theorem dX3_book_26 : decode cX3_book 26 = .ok (.new 16, 3) := by decide +kernel
theorem dX3_book_29 : decode cX3_book 29 = .ok (.dup, 1) := by decide +kernel
theorem dX3_book_30 : decode cX3_book 30 = .ok (.invokespecial 22, 3) := by decide +kernel
theorem dX3_book_33 : decode cX3_book 33 = .ok (.astore 5, 2) := by decide +kernel
theorem dX3_book_35 : decode cX3_book 35 = .ok (.aload_n 0, 1) := by decide +kernel
theorem dX3_book_36 : decode cX3_book 36 = .ok (.getfield 18, 3) := by decide +kernel
theorem dX3_book_39 : decode cX3_book 39 = .ok (.iload_n 2, 1) := by decide +kernel
theorem dX3_book_40 : decode cX3_book 40 = .ok (.aload 5, 2) := by decide +kernel
theorem dX3_book_42 : decode cX3_book 42 = .ok (.aastore, 1) := by decide +kernel
theorem dX3_book_43 : decode cX3_book 43 = .ok (.aload 5, 2) := by decide +kernel
theorem dX3_book_45 : decode cX3_book 45 = .ok (.iload_n 1, 1) := by decide +kernel
theorem dX3_book_46 : decode cX3_book 46 = .ok (.lload_n 3, 1) := by decide +kernel
theorem dX3_book_47 : decode cX3_book 47 = .ok (.invokevirtual 31, 3) := by decide +kernel
theorem dX3_book_50 : decode cX3_book 50 = .ok (.return_, 1) := by decide +kernel
set_option maxRecDepth 20000 in
theorem ggX3_netAmountsOf_X5_isIndex : GoodIn wsX3_netAmountsOf wsX5_isIndex := goodIn_r _ [4] (by decide +kernel) (by decide +kernel)
set_option maxRecDepth 20000 in
theorem gX3_netAmountsOf_X5_isIndex_n27 : GoodIn wsX3_netAmountsOf (wsX5_isIndex) := ggX3_netAmountsOf_X5_isIndex
theorem dX3_netAmountsOf_0 : decode cX3_netAmountsOf 0 = .ok (.iload_n 1, 1) := by decide +kernel
theorem dX3_netAmountsOf_1 : decode cX3_netAmountsOf 1 = .ok (.aload_n 0, 1) := by decide +kernel
theorem dX3_netAmountsOf_2 : decode cX3_netAmountsOf 2 = .ok (.getfield 18, 3) := by decide +kernel
theorem dX3_netAmountsOf_5 : decode cX3_netAmountsOf 5 = .ok (.arraylength, 1) := by decide +kernel
theorem dX3_netAmountsOf_6 : decode cX3_netAmountsOf 6 = .ok (.invokestatic 27, 3) := by decide +kernel
theorem dX3_netAmountsOf_9 : decode cX3_netAmountsOf 9 = .ok (.ifCond .eq 12, 3) := by decide +kernel
theorem dX3_netAmountsOf_12 : decode cX3_netAmountsOf 12 = .ok (.aload_n 0, 1) := by decide +kernel
theorem dX3_netAmountsOf_13 : decode cX3_netAmountsOf 13 = .ok (.getfield 18, 3) := by decide +kernel
theorem dX3_netAmountsOf_16 : decode cX3_netAmountsOf 16 = .ok (.iload_n 1, 1) := by decide +kernel
theorem dX3_netAmountsOf_17 : decode cX3_netAmountsOf 17 = .ok (.aaload, 1) := by decide +kernel
theorem dX3_netAmountsOf_18 : decode cX3_netAmountsOf 18 = .ok (.goto 4, 3) := by decide +kernel
theorem dX3_netAmountsOf_21 : decode cX3_netAmountsOf 21 = .ok (.aconst_null, 1) := by decide +kernel
theorem dX3_netAmountsOf_22 : decode cX3_netAmountsOf 22 = .ok (.areturn, 1) := by decide +kernel
set_option maxRecDepth 20000 in
theorem ggX3_netAmount_X3_netAmountsOf : GoodIn wsX3_netAmount wsX3_netAmountsOf := goodIn_r _ [5, 6, 7, 8, 9, 16, 17, 18] (by decide +kernel) (by decide +kernel)
set_option maxRecDepth 20000 in
theorem gX3_netAmount_X3_netAmountsOf : GoodIn wsX3_netAmount (wsV RX3 35 RX3 yX3_netAmountsOf wsX3_netAmountsOf) := goodIn_app (goodIn_of _ (by decide +kernel)) ggX3_netAmount_X3_netAmountsOf
set_option maxRecDepth 20000 in
theorem ggX3_netAmount_X0_amountOf : GoodIn wsX3_netAmount wsX0_amountOf := goodIn_r _ [14, 15, 7, 8, 9, 19] (by decide +kernel) (by decide +kernel)
set_option maxRecDepth 20000 in
theorem gX3_netAmount_X0_amountOf : GoodIn wsX3_netAmount (wsV RX3 39 RX0 yX0_amountOf wsX0_amountOf) := goodIn_app (goodIn_of _ (by decide +kernel)) ggX3_netAmount_X0_amountOf
theorem dX3_netAmount_0 : decode cX3_netAmount 0 = .ok (.aload_n 0, 1) := by decide +kernel
theorem dX3_netAmount_1 : decode cX3_netAmount 1 = .ok (.iload_n 2, 1) := by decide +kernel
theorem dX3_netAmount_2 : decode cX3_netAmount 2 = .ok (.invokevirtual 35, 3) := by decide +kernel
theorem dX3_netAmount_5 : decode cX3_netAmount 5 = .ok (.astore_n 3, 1) := by decide +kernel
theorem dX3_netAmount_6 : decode cX3_netAmount 6 = .ok (.aload_n 3, 1) := by decide +kernel
theorem dX3_netAmount_7 : decode cX3_netAmount 7 = .ok (.ifnonnull 7, 3) := by decide +kernel
theorem dX3_netAmount_10 : decode cX3_netAmount 10 = .ok (.lconst 0, 1) := by decide +kernel
theorem dX3_netAmount_11 : decode cX3_netAmount 11 = .ok (.goto 8, 3) := by decide +kernel
theorem dX3_netAmount_14 : decode cX3_netAmount 14 = .ok (.aload_n 3, 1) := by decide +kernel
theorem dX3_netAmount_15 : decode cX3_netAmount 15 = .ok (.iload_n 1, 1) := by decide +kernel
theorem dX3_netAmount_16 : decode cX3_netAmount 16 = .ok (.invokevirtual 39, 3) := by decide +kernel
theorem dX3_netAmount_19 : decode cX3_netAmount 19 = .ok (.lreturn, 1) := by decide +kernel
set_option maxRecDepth 20000 in
theorem ggX3_settle_X3_netAmountsOf : GoodIn wsX3_settle wsX3_netAmountsOf := goodIn_r _ [6, 7, 8, 9, 10, 25, 26, 27] (by decide +kernel) (by decide +kernel)
set_option maxRecDepth 20000 in
theorem gX3_settle_X3_netAmountsOf : GoodIn wsX3_settle (wsV RX3 35 RX3 yX3_netAmountsOf wsX3_netAmountsOf) := goodIn_app (goodIn_of _ (by decide +kernel)) ggX3_settle_X3_netAmountsOf
set_option maxRecDepth 20000 in
theorem ggX3_settle_X0_addAll : GoodIn wsX3_settle wsX0_addAll := goodIn_r _ [15, 16, 17, 18, 14, 19, 20, 8, 9, 10, 21, 22, 23, 24, 28] (by decide +kernel) (by decide +kernel)
set_option maxRecDepth 20000 in
theorem gX3_settle_X0_addAll : GoodIn wsX3_settle (wsV RX3 43 RX0 yX0_addAll wsX0_addAll) := goodIn_app (goodIn_of _ (by decide +kernel)) ggX3_settle_X0_addAll
theorem dX3_settle_0 : decode cX3_settle 0 = .ok (.aload_n 0, 1) := by decide +kernel
theorem dX3_settle_1 : decode cX3_settle 1 = .ok (.iload_n 1, 1) := by decide +kernel
theorem dX3_settle_2 : decode cX3_settle 2 = .ok (.invokevirtual 35, 3) := by decide +kernel
theorem dX3_settle_5 : decode cX3_settle 5 = .ok (.astore_n 2, 1) := by decide +kernel
theorem dX3_settle_6 : decode cX3_settle 6 = .ok (.aload_n 2, 1) := by decide +kernel
theorem dX3_settle_7 : decode cX3_settle 7 = .ok (.ifnull 11, 3) := by decide +kernel
theorem dX3_settle_10 : decode cX3_settle 10 = .ok (.aload_n 0, 1) := by decide +kernel
theorem dX3_settle_11 : decode cX3_settle 11 = .ok (.getfield 23, 3) := by decide +kernel
theorem dX3_settle_14 : decode cX3_settle 14 = .ok (.aload_n 2, 1) := by decide +kernel
theorem dX3_settle_15 : decode cX3_settle 15 = .ok (.invokevirtual 43, 3) := by decide +kernel
theorem dX3_settle_18 : decode cX3_settle 18 = .ok (.return_, 1) := by decide +kernel
theorem dX4_init_0 : decode cX4_init 0 = .ok (.aload_n 0, 1) := by decide +kernel
theorem dX4_init_1 : decode cX4_init 1 = .ok (.invokespecial 3, 3) := by decide +kernel
theorem dX4_init_4 : decode cX4_init 4 = .ok (.aload_n 0, 1) := by decide +kernel
theorem dX4_init_5 : decode cX4_init 5 = .ok (.aload_n 1, 1) := by decide +kernel
theorem dX4_init_6 : decode cX4_init 6 = .ok (.putfield 9, 3) := by decide +kernel
theorem dX4_init_9 : decode cX4_init 9 = .ok (.aload_n 0, 1) := by decide +kernel
theorem dX4_init_10 : decode cX4_init 10 = .ok (.aload_n 2, 1) := by decide +kernel
theorem dX4_init_11 : decode cX4_init 11 = .ok (.putfield 15, 3) := by decide +kernel
theorem dX4_init_14 : decode cX4_init 14 = .ok (.aload_n 0, 1) := by decide +kernel
theorem dX4_init_15 : decode cX4_init 15 = .ok (.iload_n 3, 1) := by decide +kernel
theorem dX4_init_16 : decode cX4_init 16 = .ok (.putfield 19, 3) := by decide +kernel
theorem dX4_init_19 : decode cX4_init 19 = .ok (.aload_n 0, 1) := by decide +kernel
theorem dX4_init_20 : decode cX4_init 20 = .ok (.iload 4, 2) := by decide +kernel
theorem dX4_init_22 : decode cX4_init 22 = .ok (.putfield 23, 3) := by decide +kernel
theorem dX4_init_25 : decode cX4_init 25 = .ok (.aload_n 0, 1) := by decide +kernel
theorem dX4_init_26 : decode cX4_init 26 = .ok (.iload 5, 2) := by decide +kernel
theorem dX4_init_28 : decode cX4_init 28 = .ok (.putfield 27, 3) := by decide +kernel
theorem dX4_init_31 : decode cX4_init 31 = .ok (.aload_n 0, 1) := by decide +kernel
theorem dX4_init_32 : decode cX4_init 32 = .ok (.iload 6, 2) := by decide +kernel
theorem dX4_init_34 : decode cX4_init 34 = .ok (.putfield 30, 3) := by decide +kernel
theorem dX4_init_37 : decode cX4_init 37 = .ok (.aload_n 0, 1) := by decide +kernel
theorem dX4_init_38 : decode cX4_init 38 = .ok (.iload 7, 2) := by decide +kernel
theorem dX4_init_40 : decode cX4_init 40 = .ok (.putfield 33, 3) := by decide +kernel
theorem dX4_init_43 : decode cX4_init 43 = .ok (.return_, 1) := by decide +kernel
set_option maxRecDepth 20000 in
theorem ggX4_marketRate_X2_forwardRate : GoodIn wsX4_marketRate wsX2_forwardRate := goodIn_r _ [7, 8, 9, 10, 11, 6, 12, 13, 14, 15, 16, 17, 25, 26, 27] (by decide +kernel) (by decide +kernel)
set_option maxRecDepth 20000 in
theorem gX4_marketRate_X2_forwardRate : GoodIn wsX4_marketRate (wsV RX4 36 RX2 yX2_forwardRate wsX2_forwardRate) := goodIn_app (goodIn_of _ (by decide +kernel)) ggX4_marketRate_X2_forwardRate
theorem dX4_marketRate_0 : decode cX4_marketRate 0 = .ok (.aload_n 0, 1) := by decide +kernel
theorem dX4_marketRate_1 : decode cX4_marketRate 1 = .ok (.getfield 15, 3) := by decide +kernel
theorem dX4_marketRate_4 : decode cX4_marketRate 4 = .ok (.aload_n 0, 1) := by decide +kernel
theorem dX4_marketRate_5 : decode cX4_marketRate 5 = .ok (.getfield 33, 3) := by decide +kernel
theorem dX4_marketRate_8 : decode cX4_marketRate 8 = .ok (.iload_n 1, 1) := by decide +kernel
theorem dX4_marketRate_9 : decode cX4_marketRate 9 = .ok (.isub, 1) := by decide +kernel
theorem dX4_marketRate_10 : decode cX4_marketRate 10 = .ok (.invokevirtual 36, 3) := by decide +kernel
theorem dX4_marketRate_13 : decode cX4_marketRate 13 = .ok (.ireturn, 1) := by decide +kernel
set_option maxRecDepth 20000 in
theorem ggX4_marketGain_X4_marketRate : GoodIn wsX4_marketGain wsX4_marketRate := goodIn_r _ [5, 6, 7, 8, 9, 10, 11, 12, 13, 14, 15, 16, 17, 18, 19, 20, 21, 22, 34, 35, 36, 37, 38, 39, 40, 41, 42, 43] (by decide +kernel) (by decide +kernel)
set_option maxRecDepth 20000 in
theorem gX4_marketGain_X4_marketRate : GoodIn wsX4_marketGain (wsV RX4 42 RX4 yX4_marketRate wsX4_marketRate) := goodIn_app (goodIn_of _ (by decide +kernel)) ggX4_marketGain_X4_marketRate
set_option maxRecDepth 20000 in
theorem ggX4_marketGain_X4_gainAt : GoodIn wsX4_marketGain wsX4_gainAt := goodIn_r _ [26, 27, 28, 29, 30, 31, 32, 33, 34, 35, 36, 37, 38, 39, 40] (by decide +kernel) (by decide +kernel)
set_option maxRecDepth 20000 in
theorem gX4_marketGain_X4_gainAt : GoodIn wsX4_marketGain (wsV RX4 45 RX4 yX4_gainAt wsX4_gainAt) := goodIn_app (goodIn_of _ (by decide +kernel)) ggX4_marketGain_X4_gainAt
theorem dX4_marketGain_0 : decode cX4_marketGain 0 = .ok (.aload_n 0, 1) := by decide +kernel
theorem dX4_marketGain_1 : decode cX4_marketGain 1 = .ok (.aload_n 0, 1) := by decide +kernel
theorem dX4_marketGain_2 : decode cX4_marketGain 2 = .ok (.iload_n 1, 1) := by decide +kernel
theorem dX4_marketGain_3 : decode cX4_marketGain 3 = .ok (.invokevirtual 42, 3) := by decide +kernel
theorem dX4_marketGain_6 : decode cX4_marketGain 6 = .ok (.invokevirtual 45, 3) := by decide +kernel
theorem dX4_marketGain_9 : decode cX4_marketGain 9 = .ok (.lreturn, 1) := by decide +kernel
set_option maxRecDepth 20000 in
theorem ggX4_shiftedLoss_X4_marketRate : GoodIn wsX4_shiftedLoss wsX4_marketRate := goodIn_r _ [9, 10, 11, 12, 13, 14, 15, 16, 17, 18, 19, 20, 21, 22, 23, 2, 3, 4, 35, 36, 37, 38, 39, 40, 41, 42, 43, 44] (by decide +kernel) (by decide +kernel)
set_option maxRecDepth 20000 in
theorem gX4_shiftedLoss_X4_marketRate : GoodIn wsX4_shiftedLoss (wsV RX4 42 RX4 yX4_marketRate wsX4_marketRate) := goodIn_app (goodIn_of _ (by decide +kernel)) ggX4_shiftedLoss_X4_marketRate
set_option maxRecDepth 20000 in
theorem ggX4_shiftedLoss_X4_gainAt : GoodIn wsX4_shiftedLoss wsX4_gainAt := goodIn_r _ [27, 28, 29, 30, 31, 32, 33, 34, 35, 36, 37, 38, 39, 40, 41] (by decide +kernel) (by decide +kernel)
set_option maxRecDepth 20000 in
theorem gX4_shiftedLoss_X4_gainAt : GoodIn wsX4_shiftedLoss (wsV RX4 45 RX4 yX4_gainAt wsX4_gainAt) := goodIn_app (goodIn_of _ (by decide +kernel)) ggX4_shiftedLoss_X4_gainAt
theorem dX4_shiftedLoss_0 : decode cX4_shiftedLoss 0 = .ok (.aload_n 0, 1) := by decide +kernel
theorem dX4_shiftedLoss_1 : decode cX4_shiftedLoss 1 = .ok (.iload_n 1, 1) := by decide +kernel
theorem dX4_shiftedLoss_2 : decode cX4_shiftedLoss 2 = .ok (.invokevirtual 42, 3) := by decide +kernel
theorem dX4_shiftedLoss_5 : decode cX4_shiftedLoss 5 = .ok (.bipush 100, 2) := by decide +kernel
theorem dX4_shiftedLoss_7 : decode cX4_shiftedLoss 7 = .ok (.iload_n 2, 1) := by decide +kernel
theorem dX4_shiftedLoss_8 : decode cX4_shiftedLoss 8 = .ok (.iadd, 1) := by decide +kernel
theorem dX4_shiftedLoss_9 : decode cX4_shiftedLoss 9 = .ok (.imul, 1) := by decide +kernel
theorem dX4_shiftedLoss_10 : decode cX4_shiftedLoss 10 = .ok (.bipush 100, 2) := by decide +kernel
theorem dX4_shiftedLoss_12 : decode cX4_shiftedLoss 12 = .ok (.idiv, 1) := by decide +kernel
theorem dX4_shiftedLoss_13 : decode cX4_shiftedLoss 13 = .ok (.istore_n 3, 1) := by decide +kernel
theorem dX4_shiftedLoss_14 : decode cX4_shiftedLoss 14 = .ok (.aload_n 0, 1) := by decide +kernel
theorem dX4_shiftedLoss_15 : decode cX4_shiftedLoss 15 = .ok (.iconst 1, 1) := by decide +kernel
theorem dX4_shiftedLoss_16 : decode cX4_shiftedLoss 16 = .ok (.iload_n 3, 1) := by decide +kernel
theorem dX4_shiftedLoss_17 : decode cX4_shiftedLoss 17 = .ok (.invokestatic 49, 3) := by decide +kernel
theorem dX4_shiftedLoss_20 : decode cX4_shiftedLoss 20 = .ok (.invokevirtual 45, 3) := by decide +kernel
theorem dX4_shiftedLoss_23 : decode cX4_shiftedLoss 23 = .ok (.lneg, 1) := by decide +kernel
theorem dX4_shiftedLoss_24 : decode cX4_shiftedLoss 24 = .ok (.lreturn, 1) := by decide +kernel
set_option maxRecDepth 20000 in
theorem ggX4_drawingRate_X2_laterRate : GoodIn wsX4_drawingRate wsX2_laterRate := goodIn_r _ [8, 9, 10, 11, 12, 13, 21, 22, 23] (by decide +kernel) (by decide +kernel)
set_option maxRecDepth 20000 in
theorem gX4_drawingRate_X2_laterRate : GoodIn wsX4_drawingRate (wsV RX4 55 RX2 yX2_laterRate wsX2_laterRate) := goodIn_app (goodIn_of _ (by decide +kernel)) ggX4_drawingRate_X2_laterRate
theorem dX4_drawingRate_0 : decode cX4_drawingRate 0 = .ok (.iload_n 1, 1) := by decide +kernel
theorem dX4_drawingRate_1 : decode cX4_drawingRate 1 = .ok (.aload_n 0, 1) := by decide +kernel
theorem dX4_drawingRate_2 : decode cX4_drawingRate 2 = .ok (.getfield 30, 3) := by decide +kernel
theorem dX4_drawingRate_5 : decode cX4_drawingRate 5 = .ok (.if_icmp .ge 23, 3) := by decide +kernel
theorem dX4_drawingRate_8 : decode cX4_drawingRate 8 = .ok (.aload_n 0, 1) := by decide +kernel
theorem dX4_drawingRate_9 : decode cX4_drawingRate 9 = .ok (.getfield 15, 3) := by decide +kernel
theorem dX4_drawingRate_12 : decode cX4_drawingRate 12 = .ok (.aload_n 0, 1) := by decide +kernel
theorem dX4_drawingRate_13 : decode cX4_drawingRate 13 = .ok (.getfield 27, 3) := by decide +kernel
theorem dX4_drawingRate_16 : decode cX4_drawingRate 16 = .ok (.iload_n 1, 1) := by decide +kernel
theorem dX4_drawingRate_17 : decode cX4_drawingRate 17 = .ok (.aload_n 0, 1) := by decide +kernel
theorem dX4_drawingRate_18 : decode cX4_drawingRate 18 = .ok (.getfield 30, 3) := by decide +kernel
theorem dX4_drawingRate_21 : decode cX4_drawingRate 21 = .ok (.isub, 1) := by decide +kernel
theorem dX4_drawingRate_22 : decode cX4_drawingRate 22 = .ok (.invokevirtual 55, 3) := by decide +kernel
theorem dX4_drawingRate_25 : decode cX4_drawingRate 25 = .ok (.goto 7, 3) := by decide +kernel
theorem dX4_drawingRate_28 : decode cX4_drawingRate 28 = .ok (.aload_n 0, 1) := by decide +kernel
theorem dX4_drawingRate_29 : decode cX4_drawingRate 29 = .ok (.getfield 27, 3) := by decide +kernel
theorem dX4_drawingRate_32 : decode cX4_drawingRate 32 = .ok (.ireturn, 1) := by decide +kernel
theorem dX4_moveWindow_0 : decode cX4_moveWindow 0 = .ok (.aload_n 0, 1) := by decide +kernel
theorem dX4_moveWindow_1 : decode cX4_moveWindow 1 = .ok (.aload_n 0, 1) := by decide +kernel
theorem dX4_moveWindow_2 : decode cX4_moveWindow 2 = .ok (.getfield 33, 3) := by decide +kernel
theorem dX4_moveWindow_5 : decode cX4_moveWindow 5 = .ok (.putfield 30, 3) := by decide +kernel
theorem dX4_moveWindow_8 : decode cX4_moveWindow 8 = .ok (.aload_n 0, 1) := by decide +kernel
theorem dX4_moveWindow_9 : decode cX4_moveWindow 9 = .ok (.dup, 1) := by decide +kernel
theorem dX4_moveWindow_10 : decode cX4_moveWindow 10 = .ok (.getfield 33, 3) := by decide +kernel
theorem dX4_moveWindow_13 : decode cX4_moveWindow 13 = .ok (.iload_n 1, 1) := by decide +kernel
theorem dX4_moveWindow_14 : decode cX4_moveWindow 14 = .ok (.iadd, 1) := by decide +kernel
theorem dX4_moveWindow_15 : decode cX4_moveWindow 15 = .ok (.putfield 33, 3) := by decide +kernel
theorem dX4_moveWindow_18 : decode cX4_moveWindow 18 = .ok (.return_, 1) := by decide +kernel
set_option maxRecDepth 20000 in
theorem ggX4_gainAt_X5_homeAmount : GoodIn wsX4_gainAt wsX5_homeAmount := goodIn_r _ [6, 7] (by decide +kernel) (by decide +kernel)
set_option maxRecDepth 20000 in
theorem gX4_gainAt_X5_homeAmount_n58 : GoodIn wsX4_gainAt (wsX5_homeAmount) := ggX4_gainAt_X5_homeAmount
theorem dX4_gainAt_0 : decode cX4_gainAt 0 = .ok (.aload_n 0, 1) := by decide +kernel
theorem dX4_gainAt_1 : decode cX4_gainAt 1 = .ok (.getfield 23, 3) := by decide +kernel
theorem dX4_gainAt_4 : decode cX4_gainAt 4 = .ok (.iload_n 1, 1) := by decide +kernel
theorem dX4_gainAt_5 : decode cX4_gainAt 5 = .ok (.invokestatic 58, 3) := by decide +kernel
theorem dX4_gainAt_8 : decode cX4_gainAt 8 = .ok (.aload_n 0, 1) := by decide +kernel
theorem dX4_gainAt_9 : decode cX4_gainAt 9 = .ok (.getfield 23, 3) := by decide +kernel
theorem dX4_gainAt_12 : decode cX4_gainAt 12 = .ok (.aload_n 0, 1) := by decide +kernel
theorem dX4_gainAt_13 : decode cX4_gainAt 13 = .ok (.getfield 27, 3) := by decide +kernel
theorem dX4_gainAt_16 : decode cX4_gainAt 16 = .ok (.invokestatic 58, 3) := by decide +kernel
theorem dX4_gainAt_19 : decode cX4_gainAt 19 = .ok (.lsub, 1) := by decide +kernel
theorem dX4_gainAt_20 : decode cX4_gainAt 20 = .ok (.lstore_n 2, 1) := by decide +kernel
theorem dX4_gainAt_21 : decode cX4_gainAt 21 = .ok (.aload_n 0, 1) := by decide +kernel
theorem dX4_gainAt_22 : decode cX4_gainAt 22 = .ok (.getfield 19, 3) := by decide +kernel
theorem dX4_gainAt_25 : decode cX4_gainAt 25 = .ok (.ifCond .eq 7, 3) := by decide +kernel
theorem dX4_gainAt_28 : decode cX4_gainAt 28 = .ok (.lload_n 2, 1) := by decide +kernel
theorem dX4_gainAt_29 : decode cX4_gainAt 29 = .ok (.goto 5, 3) := by decide +kernel
theorem dX4_gainAt_32 : decode cX4_gainAt 32 = .ok (.lload_n 2, 1) := by decide +kernel
theorem dX4_gainAt_33 : decode cX4_gainAt 33 = .ok (.lneg, 1) := by decide +kernel
theorem dX4_gainAt_34 : decode cX4_gainAt 34 = .ok (.lreturn, 1) := by decide +kernel
set_option maxRecDepth 20000 in
theorem ggX5_init_X1_init : GoodIn wsX5_init wsX1_init := goodIn_r _ [19, 20, 2, 3, 21, 22, 44, 45] (by decide +kernel) (by decide +kernel)
set_option maxRecDepth 20000 in
theorem gX5_init_X1_init_n11 : GoodIn wsX5_init (wsX1_init) := ggX5_init_X1_init
set_option maxRecDepth 20000 in
theorem ggX5_init_X2_init : GoodIn wsX5_init wsX2_init := goodIn_r _ [25, 26, 2, 3, 27, 28, 51, 52, 53] (by decide +kernel) (by decide +kernel)
set_option maxRecDepth 20000 in
theorem gX5_init_X2_init : GoodIn wsX5_init (wsX2_init) := ggX5_init_X2_init
set_option maxRecDepth 20000 in
theorem ggX5_init_X3_init : GoodIn wsX5_init wsX3_init := goodIn_r _ [30, 31, 2, 3, 32, 33, 34, 35, 36, 37, 38, 39, 40, 41, 42, 43, 54, 55, 56, 57] (by decide +kernel) (by decide +kernel)
set_option maxRecDepth 20000 in
theorem gX5_init_X3_init_n31 : GoodIn wsX5_init (wsX3_init) := ggX5_init_X3_init
