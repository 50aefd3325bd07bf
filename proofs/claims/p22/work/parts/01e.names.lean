theorem dL_forwards_0 : decode cL_forwards 0 = .ok (.aload_n 0, 1) := by decide +kernel
theorem dL_forwards_1 : decode cL_forwards 1 = .ok (.iload_n 1, 1) := by decide +kernel
theorem dL_forwards_2 : decode cL_forwards 2 = .ok (.iaload, 1) := by decide +kernel
theorem dL_forwards_3 : decode cL_forwards 3 = .ok (.aload_n 0, 1) := by decide +kernel
theorem dL_forwards_4 : decode cL_forwards 4 = .ok (.iconst 2, 1) := by decide +kernel
theorem dL_forwards_5 : decode cL_forwards 5 = .ok (.iload_n 1, 1) := by decide +kernel
theorem dL_forwards_6 : decode cL_forwards 6 = .ok (.iadd, 1) := by decide +kernel
theorem dL_forwards_7 : decode cL_forwards 7 = .ok (.iaload, 1) := by decide +kernel
theorem dL_forwards_8 : decode cL_forwards 8 = .ok (.iload_n 2, 1) := by decide +kernel
theorem dL_forwards_9 : decode cL_forwards 9 = .ok (.imul, 1) := by decide +kernel
theorem dL_forwards_10 : decode cL_forwards 10 = .ok (.iadd, 1) := by decide +kernel
theorem dL_forwards_11 : decode cL_forwards 11 = .ok (.istore_n 3, 1) := by decide +kernel
theorem dL_forwards_12 : decode cL_forwards 12 = .ok (.iload_n 3, 1) := by decide +kernel
theorem dL_forwards_13 : decode cL_forwards 13 = .ok (.iconst 1, 1) := by decide +kernel
theorem dL_forwards_14 : decode cL_forwards 14 = .ok (.if_icmp .le 7, 3) := by decide +kernel
theorem dL_forwards_17 : decode cL_forwards 17 = .ok (.iload_n 3, 1) := by decide +kernel
theorem dL_forwards_18 : decode cL_forwards 18 = .ok (.goto 4, 3) := by decide +kernel
theorem dL_forwards_21 : decode cL_forwards 21 = .ok (.iconst 1, 1) := by decide +kernel
theorem dL_forwards_22 : decode cL_forwards 22 = .ok (.ireturn, 1) := by decide +kernel
theorem dL_worth_0 : decode cL_worth 0 = .ok (.lload_n 0, 1) := by decide +kernel
theorem dL_worth_1 : decode cL_worth 1 = .ok (.iload_n 2, 1) := by decide +kernel
theorem dL_worth_2 : decode cL_worth 2 = .ok (.i2l, 1) := by decide +kernel
theorem dL_worth_3 : decode cL_worth 3 = .ok (.lmul, 1) := by decide +kernel
theorem dL_worth_4 : decode cL_worth 4 = .ok (.ldc2_w 75, 3) := by decide +kernel
theorem dL_worth_7 : decode cL_worth 7 = .ok (.ldiv, 1) := by decide +kernel
theorem dL_worth_8 : decode cL_worth 8 = .ok (.lreturn, 1) := by decide +kernel
set_option maxRecDepth 20000 in
theorem ggL_gains_L_worth : GoodIn wsL_gains wsL_worth := goodIn_r _ [4, 5] (by decide +kernel) (by decide +kernel)
set_option maxRecDepth 20000 in
theorem gL_gains_L_worth : GoodIn wsL_gains (va_wsS RL 77 yL_worth wsL_worth) := goodIn_app (goodIn_of _ (by decide +kernel)) ggL_gains_L_worth
theorem dL_gains_0 : decode cL_gains 0 = .ok (.aload_n 1, 1) := by decide +kernel
theorem dL_gains_1 : decode cL_gains 1 = .ok (.iload_n 3, 1) := by decide +kernel
theorem dL_gains_2 : decode cL_gains 2 = .ok (.iaload, 1) := by decide +kernel
theorem dL_gains_3 : decode cL_gains 3 = .ok (.i2l, 1) := by decide +kernel
theorem dL_gains_4 : decode cL_gains 4 = .ok (.iload 4, 2) := by decide +kernel
theorem dL_gains_6 : decode cL_gains 6 = .ok (.invokestatic 77, 3) := by decide +kernel
theorem dL_gains_9 : decode cL_gains 9 = .ok (.aload_n 1, 1) := by decide +kernel
theorem dL_gains_10 : decode cL_gains 10 = .ok (.iload_n 3, 1) := by decide +kernel
theorem dL_gains_11 : decode cL_gains 11 = .ok (.iaload, 1) := by decide +kernel
theorem dL_gains_12 : decode cL_gains 12 = .ok (.i2l, 1) := by decide +kernel
theorem dL_gains_13 : decode cL_gains 13 = .ok (.aload_n 2, 1) := by decide +kernel
theorem dL_gains_14 : decode cL_gains 14 = .ok (.iload_n 3, 1) := by decide +kernel
theorem dL_gains_15 : decode cL_gains 15 = .ok (.iaload, 1) := by decide +kernel
theorem dL_gains_16 : decode cL_gains 16 = .ok (.invokestatic 77, 3) := by decide +kernel
theorem dL_gains_19 : decode cL_gains 19 = .ok (.lsub, 1) := by decide +kernel
theorem dL_gains_20 : decode cL_gains 20 = .ok (.lstore 5, 2) := by decide +kernel
theorem dL_gains_22 : decode cL_gains 22 = .ok (.aload_n 0, 1) := by decide +kernel
theorem dL_gains_23 : decode cL_gains 23 = .ok (.iload_n 3, 1) := by decide +kernel
theorem dL_gains_24 : decode cL_gains 24 = .ok (.iaload, 1) := by decide +kernel
theorem dL_gains_25 : decode cL_gains 25 = .ok (.iconst 3, 1) := by decide +kernel
theorem dL_gains_26 : decode cL_gains 26 = .ok (.if_icmp .le 9, 3) := by decide +kernel
theorem dL_gains_29 : decode cL_gains 29 = .ok (.lload 5, 2) := by decide +kernel
theorem dL_gains_31 : decode cL_gains 31 = .ok (.lneg, 1) := by decide +kernel
theorem dL_gains_32 : decode cL_gains 32 = .ok (.goto 5, 3) := by decide +kernel
theorem dL_gains_35 : decode cL_gains 35 = .ok (.lload 5, 2) := by decide +kernel
theorem dL_gains_37 : decode cL_gains 37 = .ok (.lreturn, 1) := by decide +kernel
set_option maxRecDepth 20000 in
theorem ggL_now_L_forwards : GoodIn wsL_now wsL_forwards := goodIn_r _ [4] (by decide +kernel) (by decide +kernel)
set_option maxRecDepth 20000 in
theorem gL_now_L_forwards : GoodIn wsL_now (va_wsS RL 83 yL_forwards wsL_forwards) := goodIn_app (goodIn_of _ (by decide +kernel)) ggL_now_L_forwards
theorem dL_now_0 : decode cL_now 0 = .ok (.aload_n 2, 1) := by decide +kernel
theorem dL_now_1 : decode cL_now 1 = .ok (.aload_n 0, 1) := by decide +kernel
theorem dL_now_2 : decode cL_now 2 = .ok (.iload 4, 2) := by decide +kernel
theorem dL_now_4 : decode cL_now 4 = .ok (.iaload, 1) := by decide +kernel
theorem dL_now_5 : decode cL_now 5 = .ok (.iconst 1, 1) := by decide +kernel
theorem dL_now_6 : decode cL_now 6 = .ok (.ishr, 1) := by decide +kernel
theorem dL_now_7 : decode cL_now 7 = .ok (.iconst 1, 1) := by decide +kernel
theorem dL_now_8 : decode cL_now 8 = .ok (.iand, 1) := by decide +kernel
theorem dL_now_9 : decode cL_now 9 = .ok (.aload_n 1, 1) := by decide +kernel
theorem dL_now_10 : decode cL_now 10 = .ok (.iload 4, 2) := by decide +kernel
theorem dL_now_12 : decode cL_now 12 = .ok (.iaload, 1) := by decide +kernel
theorem dL_now_13 : decode cL_now 13 = .ok (.aload_n 3, 1) := by decide +kernel
theorem dL_now_14 : decode cL_now 14 = .ok (.iconst 0, 1) := by decide +kernel
theorem dL_now_15 : decode cL_now 15 = .ok (.iaload, 1) := by decide +kernel
theorem dL_now_16 : decode cL_now 16 = .ok (.isub, 1) := by decide +kernel
theorem dL_now_17 : decode cL_now 17 = .ok (.invokestatic 83, 3) := by decide +kernel
theorem dL_now_20 : decode cL_now 20 = .ok (.ireturn, 1) := by decide +kernel
set_option maxRecDepth 20000 in
theorem ggL_exposes_L_now : GoodIn wsL_exposes wsL_now := goodIn_r _ [4, 5, 6, 3, 7] (by decide +kernel) (by decide +kernel)
set_option maxRecDepth 20000 in
theorem gL_exposes_L_now : GoodIn wsL_exposes (va_wsS RL 87 yL_now wsL_now) := goodIn_app (goodIn_of _ (by decide +kernel)) ggL_exposes_L_now
set_option maxRecDepth 20000 in
theorem ggL_exposes_L_gains : GoodIn wsL_exposes wsL_gains := goodIn_r _ [10, 11, 12, 3, 13, 14] (by decide +kernel) (by decide +kernel)
set_option maxRecDepth 20000 in
theorem gL_exposes_L_gains : GoodIn wsL_exposes (va_wsS RL 91 yL_gains wsL_gains) := goodIn_app (goodIn_of _ (by decide +kernel)) ggL_exposes_L_gains
theorem dL_exposes_0 : decode cL_exposes 0 = .ok (.lconst 0, 1) := by decide +kernel
theorem dL_exposes_1 : decode cL_exposes 1 = .ok (.lstore 7, 2) := by decide +kernel
theorem dL_exposes_3 : decode cL_exposes 3 = .ok (.bipush 90, 2) := by decide +kernel
theorem dL_exposes_5 : decode cL_exposes 5 = .ok (.istore 9, 2) := by decide +kernel
theorem dL_exposes_7 : decode cL_exposes 7 = .ok (.iload 9, 2) := by decide +kernel
theorem dL_exposes_9 : decode cL_exposes 9 = .ok (.bipush 111, 2) := by decide +kernel
theorem dL_exposes_11 : decode cL_exposes 11 = .ok (.if_icmp .ge 104, 3) := by decide +kernel
theorem dL_exposes_14 : decode cL_exposes 14 = .ok (.lconst 0, 1) := by decide +kernel
theorem dL_exposes_15 : decode cL_exposes 15 = .ok (.lstore 10, 2) := by decide +kernel
theorem dL_exposes_17 : decode cL_exposes 17 = .ok (.iconst 0, 1) := by decide +kernel
theorem dL_exposes_18 : decode cL_exposes 18 = .ok (.istore 12, 2) := by decide +kernel
theorem dL_exposes_20 : decode cL_exposes 20 = .ok (.iload 12, 2) := by decide +kernel
theorem dL_exposes_22 : decode cL_exposes 22 = .ok (.aload 5, 2) := by decide +kernel
theorem dL_exposes_24 : decode cL_exposes 24 = .ok (.iconst 1, 1) := by decide +kernel
theorem dL_exposes_25 : decode cL_exposes 25 = .ok (.iaload, 1) := by decide +kernel
theorem dL_exposes_26 : decode cL_exposes 26 = .ok (.if_icmp .ge 66, 3) := by decide +kernel
theorem dL_exposes_29 : decode cL_exposes 29 = .ok (.aload_n 0, 1) := by decide +kernel
theorem dL_exposes_30 : decode cL_exposes 30 = .ok (.iload 12, 2) := by decide +kernel
theorem dL_exposes_32 : decode cL_exposes 32 = .ok (.iaload, 1) := by decide +kernel
theorem dL_exposes_33 : decode cL_exposes 33 = .ok (.iconst 1, 1) := by decide +kernel
theorem dL_exposes_34 : decode cL_exposes 34 = .ok (.iand, 1) := by decide +kernel
theorem dL_exposes_35 : decode cL_exposes 35 = .ok (.iload 6, 2) := by decide +kernel
theorem dL_exposes_37 : decode cL_exposes 37 = .ok (.if_icmp .eq 6, 3) := by decide +kernel
theorem dL_exposes_40 : decode cL_exposes 40 = .ok (.goto 46, 3) := by decide +kernel
theorem dL_exposes_43 : decode cL_exposes 43 = .ok (.aload_n 0, 1) := by decide +kernel
theorem dL_exposes_44 : decode cL_exposes 44 = .ok (.aload_n 2, 1) := by decide +kernel
theorem dL_exposes_45 : decode cL_exposes 45 = .ok (.aload 4, 2) := by decide +kernel
theorem dL_exposes_47 : decode cL_exposes 47 = .ok (.aload 5, 2) := by decide +kernel
theorem dL_exposes_49 : decode cL_exposes 49 = .ok (.iload 12, 2) := by decide +kernel
theorem dL_exposes_51 : decode cL_exposes 51 = .ok (.invokestatic 87, 3) := by decide +kernel
theorem dL_exposes_54 : decode cL_exposes 54 = .ok (.iload 9, 2) := by decide +kernel
theorem dL_exposes_56 : decode cL_exposes 56 = .ok (.imul, 1) := by decide +kernel
theorem dL_exposes_57 : decode cL_exposes 57 = .ok (.bipush 100, 2) := by decide +kernel
theorem dL_exposes_59 : decode cL_exposes 59 = .ok (.idiv, 1) := by decide +kernel
theorem dL_exposes_60 : decode cL_exposes 60 = .ok (.istore 13, 2) := by decide +kernel
theorem dL_exposes_62 : decode cL_exposes 62 = .ok (.lload 10, 2) := by decide +kernel
theorem dL_exposes_64 : decode cL_exposes 64 = .ok (.aload_n 0, 1) := by decide +kernel
theorem dL_exposes_65 : decode cL_exposes 65 = .ok (.aload_n 1, 1) := by decide +kernel
theorem dL_exposes_66 : decode cL_exposes 66 = .ok (.aload_n 3, 1) := by decide +kernel
theorem dL_exposes_67 : decode cL_exposes 67 = .ok (.iload 12, 2) := by decide +kernel
theorem dL_exposes_69 : decode cL_exposes 69 = .ok (.iload 13, 2) := by decide +kernel
theorem dL_exposes_71 : decode cL_exposes 71 = .ok (.ifCond .ne 7, 3) := by decide +kernel
theorem dL_exposes_74 : decode cL_exposes 74 = .ok (.iconst 1, 1) := by decide +kernel
theorem dL_exposes_75 : decode cL_exposes 75 = .ok (.goto 5, 3) := by decide +kernel
theorem dL_exposes_78 : decode cL_exposes 78 = .ok (.iload 13, 2) := by decide +kernel
theorem dL_exposes_80 : decode cL_exposes 80 = .ok (.invokestatic 91, 3) := by decide +kernel
theorem dL_exposes_83 : decode cL_exposes 83 = .ok (.lsub, 1) := by decide +kernel
theorem dL_exposes_84 : decode cL_exposes 84 = .ok (.lstore 10, 2) := by decide +kernel
theorem dL_exposes_86 : decode cL_exposes 86 = .ok (.iinc 12 1, 3) := by decide +kernel
theorem dL_exposes_89 : decode cL_exposes 89 = .ok (.goto (-69), 3) := by decide +kernel
theorem dL_exposes_92 : decode cL_exposes 92 = .ok (.lload 10, 2) := by decide +kernel
theorem dL_exposes_94 : decode cL_exposes 94 = .ok (.lload 7, 2) := by decide +kernel
theorem dL_exposes_96 : decode cL_exposes 96 = .ok (.lcmp, 1) := by decide +kernel
theorem dL_exposes_97 : decode cL_exposes 97 = .ok (.ifCond .le 8, 3) := by decide +kernel
theorem dL_exposes_100 : decode cL_exposes 100 = .ok (.lload 10, 2) := by decide +kernel
theorem dL_exposes_102 : decode cL_exposes 102 = .ok (.goto 5, 3) := by decide +kernel
theorem dL_exposes_105 : decode cL_exposes 105 = .ok (.lload 7, 2) := by decide +kernel
theorem dL_exposes_107 : decode cL_exposes 107 = .ok (.lstore 7, 2) := by decide +kernel
theorem dL_exposes_109 : decode cL_exposes 109 = .ok (.iinc 9 20, 3) := by decide +kernel
theorem dL_exposes_112 : decode cL_exposes 112 = .ok (.goto (-105), 3) := by decide +kernel
theorem dL_exposes_115 : decode cL_exposes 115 = .ok (.lload 7, 2) := by decide +kernel
theorem dL_exposes_117 : decode cL_exposes 117 = .ok (.lreturn, 1) := by decide +kernel
theorem dL_settles_0 : decode cL_settles 0 = .ok (.iconst 1, 1) := by decide +kernel
theorem dL_settles_1 : decode cL_settles 1 = .ok (.istore_n 1, 1) := by decide +kernel
theorem dL_settles_2 : decode cL_settles 2 = .ok (.aload_n 0, 1) := by decide +kernel
theorem dL_settles_3 : decode cL_settles 3 = .ok (.iconst 0, 1) := by decide +kernel
theorem dL_settles_4 : decode cL_settles 4 = .ok (.iaload, 1) := by decide +kernel
theorem dL_settles_5 : decode cL_settles 5 = .ok (.iload_n 1, 1) := by decide +kernel
theorem dL_settles_6 : decode cL_settles 6 = .ok (.iadd, 1) := by decide +kernel
theorem dL_settles_7 : decode cL_settles 7 = .ok (.bipush 7, 2) := by decide +kernel
theorem dL_settles_9 : decode cL_settles 9 = .ok (.irem, 1) := by decide +kernel
theorem dL_settles_10 : decode cL_settles 10 = .ok (.iconst 4, 1) := by decide +kernel
theorem dL_settles_11 : decode cL_settles 11 = .ok (.if_icmp .gt 14, 3) := by decide +kernel
theorem dL_settles_14 : decode cL_settles 14 = .ok (.aload_n 0, 1) := by decide +kernel
theorem dL_settles_15 : decode cL_settles 15 = .ok (.iconst 2, 1) := by decide +kernel
theorem dL_settles_16 : decode cL_settles 16 = .ok (.iaload, 1) := by decide +kernel
theorem dL_settles_17 : decode cL_settles 17 = .ok (.iload_n 1, 1) := by decide +kernel
theorem dL_settles_18 : decode cL_settles 18 = .ok (.ishr, 1) := by decide +kernel
theorem dL_settles_19 : decode cL_settles 19 = .ok (.iconst 1, 1) := by decide +kernel
theorem dL_settles_20 : decode cL_settles 20 = .ok (.iand, 1) := by decide +kernel
theorem dL_settles_21 : decode cL_settles 21 = .ok (.iconst 1, 1) := by decide +kernel
theorem dL_settles_22 : decode cL_settles 22 = .ok (.if_icmp .ne 9, 3) := by decide +kernel
theorem dL_settles_25 : decode cL_settles 25 = .ok (.iinc 1 1, 3) := by decide +kernel
theorem dL_settles_28 : decode cL_settles 28 = .ok (.goto (-26), 3) := by decide +kernel
theorem dL_settles_31 : decode cL_settles 31 = .ok (.iload_n 1, 1) := by decide +kernel
theorem dL_settles_32 : decode cL_settles 32 = .ok (.ireturn, 1) := by decide +kernel
set_option maxRecDepth 20000 in
theorem ggL_owe_L_settles : GoodIn wsL_owe wsL_settles := goodIn_r _ [4] (by decide +kernel) (by decide +kernel)
set_option maxRecDepth 20000 in
theorem gL_owe_L_settles : GoodIn wsL_owe (va_wsS RL 95 yL_settles wsL_settles) := goodIn_app (goodIn_of _ (by decide +kernel)) ggL_owe_L_settles
theorem dL_owe_0 : decode cL_owe 0 = .ok (.aload_n 0, 1) := by decide +kernel
theorem dL_owe_1 : decode cL_owe 1 = .ok (.bipush 6, 2) := by decide +kernel
theorem dL_owe_3 : decode cL_owe 3 = .ok (.aload_n 1, 1) := by decide +kernel
theorem dL_owe_4 : decode cL_owe 4 = .ok (.iconst 0, 1) := by decide +kernel
theorem dL_owe_5 : decode cL_owe 5 = .ok (.iaload, 1) := by decide +kernel
theorem dL_owe_6 : decode cL_owe 6 = .ok (.aload_n 1, 1) := by decide +kernel
theorem dL_owe_7 : decode cL_owe 7 = .ok (.invokestatic 95, 3) := by decide +kernel
theorem dL_owe_10 : decode cL_owe 10 = .ok (.iadd, 1) := by decide +kernel
theorem dL_owe_11 : decode cL_owe 11 = .ok (.bipush 10, 2) := by decide +kernel
theorem dL_owe_13 : decode cL_owe 13 = .ok (.irem, 1) := by decide +kernel
theorem dL_owe_14 : decode cL_owe 14 = .ok (.imul, 1) := by decide +kernel
theorem dL_owe_15 : decode cL_owe 15 = .ok (.iconst 3, 1) := by decide +kernel
theorem dL_owe_16 : decode cL_owe 16 = .ok (.iload_n 2, 1) := by decide +kernel
theorem dL_owe_17 : decode cL_owe 17 = .ok (.imul, 1) := by decide +kernel
theorem dL_owe_18 : decode cL_owe 18 = .ok (.iadd, 1) := by decide +kernel
theorem dL_owe_19 : decode cL_owe 19 = .ok (.iload_n 3, 1) := by decide +kernel
theorem dL_owe_20 : decode cL_owe 20 = .ok (.iadd, 1) := by decide +kernel
theorem dL_owe_21 : decode cL_owe 21 = .ok (.dup2, 1) := by decide +kernel
theorem dL_owe_22 : decode cL_owe 22 = .ok (.laload, 1) := by decide +kernel
theorem dL_owe_23 : decode cL_owe 23 = .ok (.lload 4, 2) := by decide +kernel
theorem dL_owe_25 : decode cL_owe 25 = .ok (.ladd, 1) := by decide +kernel
theorem dL_owe_26 : decode cL_owe 26 = .ok (.lastore, 1) := by decide +kernel
theorem dL_owe_27 : decode cL_owe 27 = .ok (.return_, 1) := by decide +kernel
set_option maxRecDepth 20000 in
theorem ggL_markets_L_low : GoodIn wsL_markets wsL_low := goodIn_r _ [11] (by decide +kernel) (by decide +kernel)
set_option maxRecDepth 20000 in
theorem gL_markets_L_low : GoodIn wsL_markets (va_wsS RL 99 yL_low wsL_low) := goodIn_app (goodIn_of _ (by decide +kernel)) ggL_markets_L_low
set_option maxRecDepth 20000 in
theorem ggL_markets_L_setRate : GoodIn wsL_markets wsL_setRate := goodIn_ca (goodIn_ca (goodIn_r _ [14, 15, 16, 2, 3, 17, 18, 19, 20, 21, 22, 23, 24, 25, 26, 27, 28, 29, 30, 31, 32, 33, 34, 35, 36, 37, 79, 80, 81, 82, 83, 84, 85, 86] (by decide +kernel) (by decide +kernel)) (goodIn_sub (fun _ h => List.mem_cons_of_mem _ (List.mem_append_left _ (List.mem_append_left _ (List.mem_append_right _ h)))) (by decide +kernel))) (goodIn_sub (fun _ h => List.mem_cons_of_mem _ (List.mem_append_left _ (List.mem_append_right _ h))) (by decide +kernel))
set_option maxRecDepth 20000 in
theorem gL_markets_L_setRate : GoodIn wsL_markets (va_wsS RL 103 yL_setRate wsL_setRate) := goodIn_app (goodIn_of _ (by decide +kernel)) ggL_markets_L_setRate
set_option maxRecDepth 20000 in
theorem ggL_markets_L_setPoints : GoodIn wsL_markets wsL_setPoints := goodIn_ca (goodIn_ca (goodIn_r _ [40, 15, 16, 2, 3, 41, 42, 43, 20, 44, 23, 24, 25, 26, 27, 28, 29, 30, 31, 32, 33, 34, 35, 36, 37, 79, 80, 81, 82, 83, 84, 85, 86] (by decide +kernel) (by decide +kernel)) (goodIn_sub (fun _ h => List.mem_cons_of_mem _ (List.mem_append_left _ (List.mem_append_left _ (List.mem_append_right _ h)))) (by decide +kernel))) (goodIn_sub (fun _ h => List.mem_cons_of_mem _ (List.mem_append_left _ (List.mem_append_right _ h))) (by decide +kernel))
set_option maxRecDepth 20000 in
theorem gL_markets_L_setPoints : GoodIn wsL_markets (va_wsS RL 107 yL_setPoints wsL_setPoints) := goodIn_app (goodIn_of _ (by decide +kernel)) ggL_markets_L_setPoints
set_option maxRecDepth 20000 in
theorem ggL_markets_L_setLimit : GoodIn wsL_markets wsL_setLimit := goodIn_ca (goodIn_ca (goodIn_r _ [47, 15, 16, 2, 3, 48, 49, 50, 20, 51, 52, 53, 54, 55, 56, 27, 28, 57, 30, 31, 32, 33, 34, 35, 36, 37, 87, 88, 89, 82, 83, 84, 85, 86] (by decide +kernel) (by decide +kernel)) (goodIn_sub (fun _ h => List.mem_cons_of_mem _ (List.mem_append_left _ (List.mem_append_left _ (List.mem_append_right _ h)))) (by decide +kernel))) (goodIn_sub (fun _ h => List.mem_cons_of_mem _ (List.mem_append_left _ (List.mem_append_right _ h))) (by decide +kernel))
set_option maxRecDepth 20000 in
theorem gL_markets_L_setLimit : GoodIn wsL_markets (va_wsS RL 110 yL_setLimit wsL_setLimit) := goodIn_app (goodIn_of _ (by decide +kernel)) ggL_markets_L_setLimit
set_option maxRecDepth 20000 in
theorem ggL_markets_L_toggleHoliday : GoodIn wsL_markets wsL_toggleHoliday := goodIn_ca (goodIn_ca (goodIn_r _ [60, 16, 61, 3, 7, 62, 63, 64, 20, 65, 66, 67, 68, 33, 34, 35, 36, 37, 69, 70, 71, 72, 73, 74, 31, 32, 82, 83, 84, 85, 86, 90, 91] (by decide +kernel) (by decide +kernel)) (goodIn_sub (fun _ h => List.mem_cons_of_mem _ (List.mem_append_right _ h)) (by decide +kernel))) (goodIn_sub (fun _ h => List.mem_cons_of_mem _ (List.mem_append_left _ (List.mem_append_right _ h))) (by decide +kernel))
set_option maxRecDepth 20000 in
theorem gL_markets_L_toggleHoliday : GoodIn wsL_markets (va_wsS RL 113 yL_toggleHoliday wsL_toggleHoliday) := goodIn_app (goodIn_of _ (by decide +kernel)) ggL_markets_L_toggleHoliday
set_option maxRecDepth 20000 in
theorem ggL_markets_X5_today : GoodIn wsL_markets wsX5_today := goodIn_r _ [78, 68, 82, 83, 84, 85, 86, 90, 91] (by decide +kernel) (by decide +kernel)
set_option maxRecDepth 20000 in
theorem gL_markets_X5_today : GoodIn wsL_markets (wsV RL 116 RX5 yX5_today wsX5_today) := goodIn_app (goodIn_of _ (by decide +kernel)) ggL_markets_X5_today
