theorem dX6_init_0 : decode cX6_init 0 = .ok (.aload_n 0, 1) := by decide +kernel
theorem dX6_init_1 : decode cX6_init 1 = .ok (.invokespecial 1, 3) := by decide +kernel
theorem dX6_init_4 : decode cX6_init 4 = .ok (.aload_n 0, 1) := by decide +kernel
theorem dX6_init_5 : decode cX6_init 5 = .ok (.iconst 4, 1) := by decide +kernel
theorem dX6_init_6 : decode cX6_init 6 = .ok (.newarray .int, 2) := by decide +kernel
theorem dX6_init_8 : decode cX6_init 8 = .ok (.dup, 1) := by decide +kernel
theorem dX6_init_9 : decode cX6_init 9 = .ok (.iconst 0, 1) := by decide +kernel
theorem dX6_init_10 : decode cX6_init 10 = .ok (.sipush 10000, 3) := by decide +kernel
theorem dX6_init_13 : decode cX6_init 13 = .ok (.iastore, 1) := by decide +kernel
theorem dX6_init_14 : decode cX6_init 14 = .ok (.dup, 1) := by decide +kernel
theorem dX6_init_15 : decode cX6_init 15 = .ok (.iconst 1, 1) := by decide +kernel
theorem dX6_init_16 : decode cX6_init 16 = .ok (.sipush 10000, 3) := by decide +kernel
theorem dX6_init_19 : decode cX6_init 19 = .ok (.iastore, 1) := by decide +kernel
theorem dX6_init_20 : decode cX6_init 20 = .ok (.dup, 1) := by decide +kernel
theorem dX6_init_21 : decode cX6_init 21 = .ok (.iconst 2, 1) := by decide +kernel
theorem dX6_init_22 : decode cX6_init 22 = .ok (.sipush 10000, 3) := by decide +kernel
theorem dX6_init_25 : decode cX6_init 25 = .ok (.iastore, 1) := by decide +kernel
theorem dX6_init_26 : decode cX6_init 26 = .ok (.dup, 1) := by decide +kernel
theorem dX6_init_27 : decode cX6_init 27 = .ok (.iconst 3, 1) := by decide +kernel
theorem dX6_init_28 : decode cX6_init 28 = .ok (.sipush 10000, 3) := by decide +kernel
theorem dX6_init_31 : decode cX6_init 31 = .ok (.iastore, 1) := by decide +kernel
theorem dX6_init_32 : decode cX6_init 32 = .ok (.putfield 7, 3) := by decide +kernel
theorem dX6_init_35 : decode cX6_init 35 = .ok (.aload_n 0, 1) := by decide +kernel
theorem dX6_init_36 : decode cX6_init 36 = .ok (.iconst 4, 1) := by decide +kernel
theorem dX6_init_37 : decode cX6_init 37 = .ok (.newarray .int, 2) := by decide +kernel
theorem dX6_init_39 : decode cX6_init 39 = .ok (.putfield 13, 3) := by decide +kernel
theorem dX6_init_42 : decode cX6_init 42 = .ok (.aload_n 0, 1) := by decide +kernel
theorem dX6_init_43 : decode cX6_init 43 = .ok (.iconst 5, 1) := by decide +kernel
theorem dX6_init_44 : decode cX6_init 44 = .ok (.newarray .long, 2) := by decide +kernel
theorem dX6_init_46 : decode cX6_init 46 = .ok (.dup, 1) := by decide +kernel
theorem dX6_init_47 : decode cX6_init 47 = .ok (.iconst 0, 1) := by decide +kernel
theorem dX6_init_48 : decode cX6_init 48 = .ok (.ldc2_w 16, 3) := by decide +kernel
theorem dX6_init_51 : decode cX6_init 51 = .ok (.lastore, 1) := by decide +kernel
theorem dX6_init_52 : decode cX6_init 52 = .ok (.dup, 1) := by decide +kernel
theorem dX6_init_53 : decode cX6_init 53 = .ok (.iconst 1, 1) := by decide +kernel
theorem dX6_init_54 : decode cX6_init 54 = .ok (.ldc2_w 16, 3) := by decide +kernel
theorem dX6_init_57 : decode cX6_init 57 = .ok (.lastore, 1) := by decide +kernel
theorem dX6_init_58 : decode cX6_init 58 = .ok (.dup, 1) := by decide +kernel
theorem dX6_init_59 : decode cX6_init 59 = .ok (.iconst 2, 1) := by decide +kernel
theorem dX6_init_60 : decode cX6_init 60 = .ok (.ldc2_w 16, 3) := by decide +kernel
theorem dX6_init_63 : decode cX6_init 63 = .ok (.lastore, 1) := by decide +kernel
theorem dX6_init_64 : decode cX6_init 64 = .ok (.dup, 1) := by decide +kernel
theorem dX6_init_65 : decode cX6_init 65 = .ok (.iconst 3, 1) := by decide +kernel
theorem dX6_init_66 : decode cX6_init 66 = .ok (.ldc2_w 16, 3) := by decide +kernel
theorem dX6_init_69 : decode cX6_init 69 = .ok (.lastore, 1) := by decide +kernel
theorem dX6_init_70 : decode cX6_init 70 = .ok (.dup, 1) := by decide +kernel
theorem dX6_init_71 : decode cX6_init 71 = .ok (.iconst 4, 1) := by decide +kernel
theorem dX6_init_72 : decode cX6_init 72 = .ok (.ldc2_w 16, 3) := by decide +kernel
theorem dX6_init_75 : decode cX6_init 75 = .ok (.lastore, 1) := by decide +kernel
theorem dX6_init_76 : decode cX6_init 76 = .ok (.putfield 18, 3) := by decide +kernel
theorem dX6_init_79 : decode cX6_init 79 = .ok (.aload_n 0, 1) := by decide +kernel
theorem dX6_init_80 : decode cX6_init 80 = .ok (.sipush 1001, 3) := by decide +kernel
theorem dX6_init_83 : decode cX6_init 83 = .ok (.newarray .boolean, 2) := by decide +kernel
theorem dX6_init_85 : decode cX6_init 85 = .ok (.putfield 22, 3) := by decide +kernel
theorem dX6_init_88 : decode cX6_init 88 = .ok (.aload_n 0, 1) := by decide +kernel
theorem dX6_init_89 : decode cX6_init 89 = .ok (.bipush 20, 2) := by decide +kernel
theorem dX6_init_91 : decode cX6_init 91 = .ok (.newarray .int, 2) := by decide +kernel
theorem dX6_init_93 : decode cX6_init 93 = .ok (.putfield 26, 3) := by decide +kernel
theorem dX6_init_96 : decode cX6_init 96 = .ok (.aload_n 0, 1) := by decide +kernel
theorem dX6_init_97 : decode cX6_init 97 = .ok (.bipush 20, 2) := by decide +kernel
theorem dX6_init_99 : decode cX6_init 99 = .ok (.newarray .int, 2) := by decide +kernel
theorem dX6_init_101 : decode cX6_init 101 = .ok (.putfield 29, 3) := by decide +kernel
theorem dX6_init_104 : decode cX6_init 104 = .ok (.aload_n 0, 1) := by decide +kernel
theorem dX6_init_105 : decode cX6_init 105 = .ok (.bipush 20, 2) := by decide +kernel
theorem dX6_init_107 : decode cX6_init 107 = .ok (.newarray .boolean, 2) := by decide +kernel
theorem dX6_init_109 : decode cX6_init 109 = .ok (.putfield 32, 3) := by decide +kernel
theorem dX6_init_112 : decode cX6_init 112 = .ok (.aload_n 0, 1) := by decide +kernel
theorem dX6_init_113 : decode cX6_init 113 = .ok (.bipush 20, 2) := by decide +kernel
theorem dX6_init_115 : decode cX6_init 115 = .ok (.newarray .int, 2) := by decide +kernel
theorem dX6_init_117 : decode cX6_init 117 = .ok (.putfield 35, 3) := by decide +kernel
theorem dX6_init_120 : decode cX6_init 120 = .ok (.aload_n 0, 1) := by decide +kernel
theorem dX6_init_121 : decode cX6_init 121 = .ok (.bipush 20, 2) := by decide +kernel
theorem dX6_init_123 : decode cX6_init 123 = .ok (.newarray .int, 2) := by decide +kernel
theorem dX6_init_125 : decode cX6_init 125 = .ok (.putfield 38, 3) := by decide +kernel
theorem dX6_init_128 : decode cX6_init 128 = .ok (.aload_n 0, 1) := by decide +kernel
theorem dX6_init_129 : decode cX6_init 129 = .ok (.bipush 20, 2) := by decide +kernel
theorem dX6_init_131 : decode cX6_init 131 = .ok (.newarray .int, 2) := by decide +kernel
theorem dX6_init_133 : decode cX6_init 133 = .ok (.putfield 41, 3) := by decide +kernel
theorem dX6_init_136 : decode cX6_init 136 = .ok (.aload_n 0, 1) := by decide +kernel
theorem dX6_init_137 : decode cX6_init 137 = .ok (.bipush 20, 2) := by decide +kernel
theorem dX6_init_139 : decode cX6_init 139 = .ok (.newarray .int, 2) := by decide +kernel
theorem dX6_init_141 : decode cX6_init 141 = .ok (.putfield 44, 3) := by decide +kernel
theorem dX6_init_144 : decode cX6_init 144 = .ok (.aload_n 0, 1) := by decide +kernel
theorem dX6_init_145 : decode cX6_init 145 = .ok (.sipush 25750, 3) := by decide +kernel
theorem dX6_init_148 : decode cX6_init 148 = .ok (.newarray .long, 2) := by decide +kernel
theorem dX6_init_150 : decode cX6_init 150 = .ok (.putfield 47, 3) := by decide +kernel
theorem dX6_init_153 : decode cX6_init 153 = .ok (.aload_n 0, 1) := by decide +kernel
theorem dX6_init_154 : decode cX6_init 154 = .ok (.bipush 25, 2) := by decide +kernel
theorem dX6_init_156 : decode cX6_init 156 = .ok (.newarray .long, 2) := by decide +kernel
theorem dX6_init_158 : decode cX6_init 158 = .ok (.putfield 50, 3) := by decide +kernel
theorem dX6_init_161 : decode cX6_init 161 = .ok (.return_, 1) := by decide +kernel
theorem dX6_thrown_0 : decode cX6_thrown 0 = .ok (.aload_n 0, 1) := by decide +kernel
theorem dX6_thrown_1 : decode cX6_thrown 1 = .ok (.getfield 53, 3) := by decide +kernel
theorem dX6_thrown_4 : decode cX6_thrown 4 = .ok (.ireturn, 1) := by decide +kernel
theorem dX6_in_0 : decode cX6_in 0 = .ok (.iload_n 0, 1) := by decide +kernel
theorem dX6_in_1 : decode cX6_in 1 = .ok (.iload_n 1, 1) := by decide +kernel
theorem dX6_in_2 : decode cX6_in 2 = .ok (.if_icmp .lt 12, 3) := by decide +kernel
theorem dX6_in_5 : decode cX6_in 5 = .ok (.iload_n 0, 1) := by decide +kernel
theorem dX6_in_6 : decode cX6_in 6 = .ok (.iload_n 2, 1) := by decide +kernel
theorem dX6_in_7 : decode cX6_in 7 = .ok (.if_icmp .gt 7, 3) := by decide +kernel
theorem dX6_in_10 : decode cX6_in 10 = .ok (.iconst 1, 1) := by decide +kernel
theorem dX6_in_11 : decode cX6_in 11 = .ok (.goto 4, 3) := by decide +kernel
theorem dX6_in_14 : decode cX6_in 14 = .ok (.iconst 0, 1) := by decide +kernel
theorem dX6_in_15 : decode cX6_in 15 = .ok (.ireturn, 1) := by decide +kernel
set_option maxRecDepth 20000 in
theorem ggX6_isCustomer_X6_in : GoodIn wsX6_isCustomer wsX6_in := goodIn_r _ [4] (by decide +kernel) (by decide +kernel)
set_option maxRecDepth 20000 in
theorem gX6_isCustomer_X6_in : GoodIn wsX6_isCustomer (va_wsS RX6 57 yX6_in wsX6_in) := goodIn_app (goodIn_of _ (by decide +kernel)) ggX6_isCustomer_X6_in
theorem dX6_isCustomer_0 : decode cX6_isCustomer 0 = .ok (.iload_n 0, 1) := by decide +kernel
theorem dX6_isCustomer_1 : decode cX6_isCustomer 1 = .ok (.iconst 0, 1) := by decide +kernel
theorem dX6_isCustomer_2 : decode cX6_isCustomer 2 = .ok (.iconst 4, 1) := by decide +kernel
theorem dX6_isCustomer_3 : decode cX6_isCustomer 3 = .ok (.invokestatic 57, 3) := by decide +kernel
theorem dX6_isCustomer_6 : decode cX6_isCustomer 6 = .ok (.ireturn, 1) := by decide +kernel
set_option maxRecDepth 20000 in
theorem ggX6_isCurrency_X6_in : GoodIn wsX6_isCurrency wsX6_in := goodIn_r _ [4] (by decide +kernel) (by decide +kernel)
set_option maxRecDepth 20000 in
theorem gX6_isCurrency_X6_in : GoodIn wsX6_isCurrency (va_wsS RX6 57 yX6_in wsX6_in) := goodIn_app (goodIn_of _ (by decide +kernel)) ggX6_isCurrency_X6_in
theorem dX6_isCurrency_0 : decode cX6_isCurrency 0 = .ok (.iload_n 0, 1) := by decide +kernel
theorem dX6_isCurrency_1 : decode cX6_isCurrency 1 = .ok (.iconst 0, 1) := by decide +kernel
theorem dX6_isCurrency_2 : decode cX6_isCurrency 2 = .ok (.iconst 3, 1) := by decide +kernel
theorem dX6_isCurrency_3 : decode cX6_isCurrency 3 = .ok (.invokestatic 57, 3) := by decide +kernel
theorem dX6_isCurrency_6 : decode cX6_isCurrency 6 = .ok (.ireturn, 1) := by decide +kernel
set_option maxRecDepth 20000 in
theorem ggX6_isDeal_X6_in : GoodIn wsX6_isDeal wsX6_in := goodIn_r _ [5] (by decide +kernel) (by decide +kernel)
set_option maxRecDepth 20000 in
theorem gX6_isDeal_X6_in : GoodIn wsX6_isDeal (va_wsS RX6 57 yX6_in wsX6_in) := goodIn_app (goodIn_of _ (by decide +kernel)) ggX6_isDeal_X6_in
theorem dX6_isDeal_0 : decode cX6_isDeal 0 = .ok (.iload_n 1, 1) := by decide +kernel
theorem dX6_isDeal_1 : decode cX6_isDeal 1 = .ok (.iconst 0, 1) := by decide +kernel
theorem dX6_isDeal_2 : decode cX6_isDeal 2 = .ok (.aload_n 0, 1) := by decide +kernel
theorem dX6_isDeal_3 : decode cX6_isDeal 3 = .ok (.getfield 61, 3) := by decide +kernel
theorem dX6_isDeal_6 : decode cX6_isDeal 6 = .ok (.iconst 1, 1) := by decide +kernel
theorem dX6_isDeal_7 : decode cX6_isDeal 7 = .ok (.isub, 1) := by decide +kernel
theorem dX6_isDeal_8 : decode cX6_isDeal 8 = .ok (.invokestatic 57, 3) := by decide +kernel
theorem dX6_isDeal_11 : decode cX6_isDeal 11 = .ok (.ireturn, 1) := by decide +kernel
theorem dX6_atLeastOne_0 : decode cX6_atLeastOne 0 = .ok (.iload_n 0, 1) := by decide +kernel
theorem dX6_atLeastOne_1 : decode cX6_atLeastOne 1 = .ok (.iconst 1, 1) := by decide +kernel
theorem dX6_atLeastOne_2 : decode cX6_atLeastOne 2 = .ok (.if_icmp .ge 7, 3) := by decide +kernel
theorem dX6_atLeastOne_5 : decode cX6_atLeastOne 5 = .ok (.iconst 1, 1) := by decide +kernel
theorem dX6_atLeastOne_6 : decode cX6_atLeastOne 6 = .ok (.goto 4, 3) := by decide +kernel
theorem dX6_atLeastOne_9 : decode cX6_atLeastOne 9 = .ok (.iload_n 0, 1) := by decide +kernel
theorem dX6_atLeastOne_10 : decode cX6_atLeastOne 10 = .ok (.ireturn, 1) := by decide +kernel
set_option maxRecDepth 20000 in
theorem ggX6_forwardFor_X6_atLeastOne : GoodIn wsX6_forwardFor wsX6_atLeastOne := goodIn_r _ [7] (by decide +kernel) (by decide +kernel)
set_option maxRecDepth 20000 in
theorem gX6_forwardFor_X6_atLeastOne : GoodIn wsX6_forwardFor (va_wsS RX6 67 yX6_atLeastOne wsX6_atLeastOne) := goodIn_app (goodIn_of _ (by decide +kernel)) ggX6_forwardFor_X6_atLeastOne
theorem dX6_forwardFor_0 : decode cX6_forwardFor 0 = .ok (.aload_n 0, 1) := by decide +kernel
theorem dX6_forwardFor_1 : decode cX6_forwardFor 1 = .ok (.getfield 7, 3) := by decide +kernel
theorem dX6_forwardFor_4 : decode cX6_forwardFor 4 = .ok (.iload_n 1, 1) := by decide +kernel
theorem dX6_forwardFor_5 : decode cX6_forwardFor 5 = .ok (.iaload, 1) := by decide +kernel
theorem dX6_forwardFor_6 : decode cX6_forwardFor 6 = .ok (.aload_n 0, 1) := by decide +kernel
theorem dX6_forwardFor_7 : decode cX6_forwardFor 7 = .ok (.getfield 13, 3) := by decide +kernel
theorem dX6_forwardFor_10 : decode cX6_forwardFor 10 = .ok (.iload_n 1, 1) := by decide +kernel
theorem dX6_forwardFor_11 : decode cX6_forwardFor 11 = .ok (.iaload, 1) := by decide +kernel
theorem dX6_forwardFor_12 : decode cX6_forwardFor 12 = .ok (.iload_n 2, 1) := by decide +kernel
theorem dX6_forwardFor_13 : decode cX6_forwardFor 13 = .ok (.aload_n 0, 1) := by decide +kernel
theorem dX6_forwardFor_14 : decode cX6_forwardFor 14 = .ok (.getfield 64, 3) := by decide +kernel
theorem dX6_forwardFor_17 : decode cX6_forwardFor 17 = .ok (.isub, 1) := by decide +kernel
theorem dX6_forwardFor_18 : decode cX6_forwardFor 18 = .ok (.imul, 1) := by decide +kernel
theorem dX6_forwardFor_19 : decode cX6_forwardFor 19 = .ok (.iadd, 1) := by decide +kernel
theorem dX6_forwardFor_20 : decode cX6_forwardFor 20 = .ok (.invokestatic 67, 3) := by decide +kernel
theorem dX6_forwardFor_23 : decode cX6_forwardFor 23 = .ok (.ireturn, 1) := by decide +kernel
theorem dX6_home_0 : decode cX6_home 0 = .ok (.iload_n 0, 1) := by decide +kernel
theorem dX6_home_1 : decode cX6_home 1 = .ok (.i2l, 1) := by decide +kernel
theorem dX6_home_2 : decode cX6_home 2 = .ok (.iload_n 1, 1) := by decide +kernel
theorem dX6_home_3 : decode cX6_home 3 = .ok (.i2l, 1) := by decide +kernel
theorem dX6_home_4 : decode cX6_home 4 = .ok (.lmul, 1) := by decide +kernel
theorem dX6_home_5 : decode cX6_home 5 = .ok (.ldc2_w 71, 3) := by decide +kernel
theorem dX6_home_8 : decode cX6_home 8 = .ok (.ldiv, 1) := by decide +kernel
theorem dX6_home_9 : decode cX6_home 9 = .ok (.lreturn, 1) := by decide +kernel
set_option maxRecDepth 20000 in
theorem ggX6_setRate_X6_isCurrency : GoodIn wsX6_setRate wsX6_isCurrency := goodIn_r _ [7, 8, 9, 6, 10] (by decide +kernel) (by decide +kernel)
set_option maxRecDepth 20000 in
theorem gX6_setRate_X6_isCurrency : GoodIn wsX6_setRate (va_wsS RX6 73 yX6_isCurrency wsX6_isCurrency) := goodIn_app (goodIn_of _ (by decide +kernel)) ggX6_setRate_X6_isCurrency
set_option maxRecDepth 20000 in
theorem ggX6_setRate_X6_in : GoodIn wsX6_setRate wsX6_in := goodIn_r _ [10] (by decide +kernel) (by decide +kernel)
set_option maxRecDepth 20000 in
theorem gX6_setRate_X6_in : GoodIn wsX6_setRate (va_wsS RX6 57 yX6_in wsX6_in) := goodIn_app (goodIn_of _ (by decide +kernel)) ggX6_setRate_X6_in
theorem dX6_setRate_0 : decode cX6_setRate 0 = .ok (.aload_n 0, 1) := by decide +kernel
theorem dX6_setRate_1 : decode cX6_setRate 1 = .ok (.iload_n 1, 1) := by decide +kernel
theorem dX6_setRate_2 : decode cX6_setRate 2 = .ok (.invokestatic 73, 3) := by decide +kernel
theorem dX6_setRate_5 : decode cX6_setRate 5 = .ok (.ifCond .ne 7, 3) := by decide +kernel
theorem dX6_setRate_8 : decode cX6_setRate 8 = .ok (.iconst 1, 1) := by decide +kernel
theorem dX6_setRate_9 : decode cX6_setRate 9 = .ok (.goto 18, 3) := by decide +kernel
theorem dX6_setRate_12 : decode cX6_setRate 12 = .ok (.iload_n 2, 1) := by decide +kernel
theorem dX6_setRate_13 : decode cX6_setRate 13 = .ok (.iconst 1, 1) := by decide +kernel
theorem dX6_setRate_14 : decode cX6_setRate 14 = .ok (.ldc 77, 2) := by decide +kernel
theorem dX6_setRate_16 : decode cX6_setRate 16 = .ok (.invokestatic 57, 3) := by decide +kernel
theorem dX6_setRate_19 : decode cX6_setRate 19 = .ok (.ifCond .eq 7, 3) := by decide +kernel
theorem dX6_setRate_22 : decode cX6_setRate 22 = .ok (.iconst 0, 1) := by decide +kernel
theorem dX6_setRate_23 : decode cX6_setRate 23 = .ok (.goto 4, 3) := by decide +kernel
theorem dX6_setRate_26 : decode cX6_setRate 26 = .ok (.iconst 2, 1) := by decide +kernel
theorem dX6_setRate_27 : decode cX6_setRate 27 = .ok (.putfield 53, 3) := by decide +kernel
theorem dX6_setRate_30 : decode cX6_setRate 30 = .ok (.aload_n 0, 1) := by decide +kernel
theorem dX6_setRate_31 : decode cX6_setRate 31 = .ok (.getfield 53, 3) := by decide +kernel
theorem dX6_setRate_34 : decode cX6_setRate 34 = .ok (.ifCond .le 5, 3) := by decide +kernel
theorem dX6_setRate_37 : decode cX6_setRate 37 = .ok (.iconst 0, 1) := by decide +kernel
theorem dX6_setRate_38 : decode cX6_setRate 38 = .ok (.ireturn, 1) := by decide +kernel
theorem dX6_setRate_39 : decode cX6_setRate 39 = .ok (.aload_n 0, 1) := by decide +kernel
theorem dX6_setRate_40 : decode cX6_setRate 40 = .ok (.getfield 7, 3) := by decide +kernel
theorem dX6_setRate_43 : decode cX6_setRate 43 = .ok (.iload_n 1, 1) := by decide +kernel
theorem dX6_setRate_44 : decode cX6_setRate 44 = .ok (.iaload, 1) := by decide +kernel
theorem dX6_setRate_45 : decode cX6_setRate 45 = .ok (.istore_n 3, 1) := by decide +kernel
theorem dX6_setRate_46 : decode cX6_setRate 46 = .ok (.aload_n 0, 1) := by decide +kernel
theorem dX6_setRate_47 : decode cX6_setRate 47 = .ok (.getfield 7, 3) := by decide +kernel
theorem dX6_setRate_50 : decode cX6_setRate 50 = .ok (.iload_n 1, 1) := by decide +kernel
theorem dX6_setRate_51 : decode cX6_setRate 51 = .ok (.iload_n 2, 1) := by decide +kernel
theorem dX6_setRate_52 : decode cX6_setRate 52 = .ok (.iastore, 1) := by decide +kernel
theorem dX6_setRate_53 : decode cX6_setRate 53 = .ok (.iload_n 3, 1) := by decide +kernel
theorem dX6_setRate_54 : decode cX6_setRate 54 = .ok (.ireturn, 1) := by decide +kernel
set_option maxRecDepth 20000 in
theorem ggX6_setPoints_X6_isCurrency : GoodIn wsX6_setPoints wsX6_isCurrency := goodIn_r _ [6, 7, 8, 5, 9] (by decide +kernel) (by decide +kernel)
set_option maxRecDepth 20000 in
theorem gX6_setPoints_X6_isCurrency : GoodIn wsX6_setPoints (va_wsS RX6 73 yX6_isCurrency wsX6_isCurrency) := goodIn_app (goodIn_of _ (by decide +kernel)) ggX6_setPoints_X6_isCurrency
set_option maxRecDepth 20000 in
theorem ggX6_setPoints_X6_in : GoodIn wsX6_setPoints wsX6_in := goodIn_r _ [9] (by decide +kernel) (by decide +kernel)
set_option maxRecDepth 20000 in
theorem gX6_setPoints_X6_in : GoodIn wsX6_setPoints (va_wsS RX6 57 yX6_in wsX6_in) := goodIn_app (goodIn_of _ (by decide +kernel)) ggX6_setPoints_X6_in
theorem dX6_setPoints_0 : decode cX6_setPoints 0 = .ok (.aload_n 0, 1) := by decide +kernel
theorem dX6_setPoints_1 : decode cX6_setPoints 1 = .ok (.iload_n 1, 1) := by decide +kernel
theorem dX6_setPoints_2 : decode cX6_setPoints 2 = .ok (.invokestatic 73, 3) := by decide +kernel
theorem dX6_setPoints_5 : decode cX6_setPoints 5 = .ok (.ifCond .ne 7, 3) := by decide +kernel
theorem dX6_setPoints_8 : decode cX6_setPoints 8 = .ok (.iconst 1, 1) := by decide +kernel
theorem dX6_setPoints_9 : decode cX6_setPoints 9 = .ok (.goto 19, 3) := by decide +kernel
theorem dX6_setPoints_12 : decode cX6_setPoints 12 = .ok (.iload_n 2, 1) := by decide +kernel
theorem dX6_setPoints_13 : decode cX6_setPoints 13 = .ok (.bipush (-50), 2) := by decide +kernel
theorem dX6_setPoints_15 : decode cX6_setPoints 15 = .ok (.bipush 50, 2) := by decide +kernel
theorem dX6_setPoints_17 : decode cX6_setPoints 17 = .ok (.invokestatic 57, 3) := by decide +kernel
theorem dX6_setPoints_20 : decode cX6_setPoints 20 = .ok (.ifCond .eq 7, 3) := by decide +kernel
theorem dX6_setPoints_23 : decode cX6_setPoints 23 = .ok (.iconst 0, 1) := by decide +kernel
theorem dX6_setPoints_24 : decode cX6_setPoints 24 = .ok (.goto 4, 3) := by decide +kernel
theorem dX6_setPoints_27 : decode cX6_setPoints 27 = .ok (.iconst 2, 1) := by decide +kernel
theorem dX6_setPoints_28 : decode cX6_setPoints 28 = .ok (.putfield 53, 3) := by decide +kernel
theorem dX6_setPoints_31 : decode cX6_setPoints 31 = .ok (.aload_n 0, 1) := by decide +kernel
theorem dX6_setPoints_32 : decode cX6_setPoints 32 = .ok (.getfield 53, 3) := by decide +kernel
theorem dX6_setPoints_35 : decode cX6_setPoints 35 = .ok (.ifCond .le 5, 3) := by decide +kernel
theorem dX6_setPoints_38 : decode cX6_setPoints 38 = .ok (.iconst 0, 1) := by decide +kernel
theorem dX6_setPoints_39 : decode cX6_setPoints 39 = .ok (.ireturn, 1) := by decide +kernel
theorem dX6_setPoints_40 : decode cX6_setPoints 40 = .ok (.aload_n 0, 1) := by decide +kernel
theorem dX6_setPoints_41 : decode cX6_setPoints 41 = .ok (.getfield 13, 3) := by decide +kernel
theorem dX6_setPoints_44 : decode cX6_setPoints 44 = .ok (.iload_n 1, 1) := by decide +kernel
theorem dX6_setPoints_45 : decode cX6_setPoints 45 = .ok (.iaload, 1) := by decide +kernel
theorem dX6_setPoints_46 : decode cX6_setPoints 46 = .ok (.istore_n 3, 1) := by decide +kernel
theorem dX6_setPoints_47 : decode cX6_setPoints 47 = .ok (.aload_n 0, 1) := by decide +kernel
theorem dX6_setPoints_48 : decode cX6_setPoints 48 = .ok (.getfield 13, 3) := by decide +kernel
theorem dX6_setPoints_51 : decode cX6_setPoints 51 = .ok (.iload_n 1, 1) := by decide +kernel
theorem dX6_setPoints_52 : decode cX6_setPoints 52 = .ok (.iload_n 2, 1) := by decide +kernel
theorem dX6_setPoints_53 : decode cX6_setPoints 53 = .ok (.iastore, 1) := by decide +kernel
theorem dX6_setPoints_54 : decode cX6_setPoints 54 = .ok (.iload_n 3, 1) := by decide +kernel
theorem dX6_setPoints_55 : decode cX6_setPoints 55 = .ok (.ireturn, 1) := by decide +kernel
set_option maxRecDepth 20000 in
theorem ggX6_toggleHoliday_X6_in : GoodIn wsX6_toggleHoliday wsX6_in := goodIn_r _ [7] (by decide +kernel) (by decide +kernel)
set_option maxRecDepth 20000 in
theorem gX6_toggleHoliday_X6_in : GoodIn wsX6_toggleHoliday (va_wsS RX6 57 yX6_in wsX6_in) := goodIn_app (goodIn_of _ (by decide +kernel)) ggX6_toggleHoliday_X6_in
theorem dX6_toggleHoliday_0 : decode cX6_toggleHoliday 0 = .ok (.aload_n 0, 1) := by decide +kernel
theorem dX6_toggleHoliday_1 : decode cX6_toggleHoliday 1 = .ok (.iload_n 1, 1) := by decide +kernel
theorem dX6_toggleHoliday_2 : decode cX6_toggleHoliday 2 = .ok (.iconst 1, 1) := by decide +kernel
theorem dX6_toggleHoliday_3 : decode cX6_toggleHoliday 3 = .ok (.sipush 1000, 3) := by decide +kernel
theorem dX6_toggleHoliday_6 : decode cX6_toggleHoliday 6 = .ok (.invokestatic 57, 3) := by decide +kernel
theorem dX6_toggleHoliday_9 : decode cX6_toggleHoliday 9 = .ok (.ifCond .ne 7, 3) := by decide +kernel
theorem dX6_toggleHoliday_12 : decode cX6_toggleHoliday 12 = .ok (.iconst 1, 1) := by decide +kernel
theorem dX6_toggleHoliday_13 : decode cX6_toggleHoliday 13 = .ok (.goto 16, 3) := by decide +kernel
theorem dX6_toggleHoliday_16 : decode cX6_toggleHoliday 16 = .ok (.iload_n 1, 1) := by decide +kernel
theorem dX6_toggleHoliday_17 : decode cX6_toggleHoliday 17 = .ok (.aload_n 0, 1) := by decide +kernel
theorem dX6_toggleHoliday_18 : decode cX6_toggleHoliday 18 = .ok (.getfield 64, 3) := by decide +kernel
theorem dX6_toggleHoliday_21 : decode cX6_toggleHoliday 21 = .ok (.if_icmp .le 7, 3) := by decide +kernel
theorem dX6_toggleHoliday_24 : decode cX6_toggleHoliday 24 = .ok (.iconst 0, 1) := by decide +kernel
theorem dX6_toggleHoliday_25 : decode cX6_toggleHoliday 25 = .ok (.goto 4, 3) := by decide +kernel
theorem dX6_toggleHoliday_28 : decode cX6_toggleHoliday 28 = .ok (.iconst 2, 1) := by decide +kernel
theorem dX6_toggleHoliday_29 : decode cX6_toggleHoliday 29 = .ok (.putfield 53, 3) := by decide +kernel
theorem dX6_toggleHoliday_32 : decode cX6_toggleHoliday 32 = .ok (.aload_n 0, 1) := by decide +kernel
theorem dX6_toggleHoliday_33 : decode cX6_toggleHoliday 33 = .ok (.getfield 53, 3) := by decide +kernel
theorem dX6_toggleHoliday_36 : decode cX6_toggleHoliday 36 = .ok (.ifCond .le 5, 3) := by decide +kernel
theorem dX6_toggleHoliday_39 : decode cX6_toggleHoliday 39 = .ok (.iconst 0, 1) := by decide +kernel
theorem dX6_toggleHoliday_40 : decode cX6_toggleHoliday 40 = .ok (.ireturn, 1) := by decide +kernel
theorem dX6_toggleHoliday_41 : decode cX6_toggleHoliday 41 = .ok (.aload_n 0, 1) := by decide +kernel
theorem dX6_toggleHoliday_42 : decode cX6_toggleHoliday 42 = .ok (.getfield 22, 3) := by decide +kernel
theorem dX6_toggleHoliday_45 : decode cX6_toggleHoliday 45 = .ok (.iload_n 1, 1) := by decide +kernel
theorem dX6_toggleHoliday_46 : decode cX6_toggleHoliday 46 = .ok (.aload_n 0, 1) := by decide +kernel
theorem dX6_toggleHoliday_47 : decode cX6_toggleHoliday 47 = .ok (.getfield 22, 3) := by decide +kernel
theorem dX6_toggleHoliday_50 : decode cX6_toggleHoliday 50 = .ok (.iload_n 1, 1) := by decide +kernel
theorem dX6_toggleHoliday_51 : decode cX6_toggleHoliday 51 = .ok (.baload, 1) := by decide +kernel
theorem dX6_toggleHoliday_52 : decode cX6_toggleHoliday 52 = .ok (.ifCond .ne 7, 3) := by decide +kernel
theorem dX6_toggleHoliday_55 : decode cX6_toggleHoliday 55 = .ok (.iconst 1, 1) := by decide +kernel
theorem dX6_toggleHoliday_56 : decode cX6_toggleHoliday 56 = .ok (.goto 4, 3) := by decide +kernel
theorem dX6_toggleHoliday_59 : decode cX6_toggleHoliday 59 = .ok (.iconst 0, 1) := by decide +kernel
theorem dX6_toggleHoliday_60 : decode cX6_toggleHoliday 60 = .ok (.bastore, 1) := by decide +kernel
theorem dX6_toggleHoliday_61 : decode cX6_toggleHoliday 61 = .ok (.aload_n 0, 1) := by decide +kernel
theorem dX6_toggleHoliday_62 : decode cX6_toggleHoliday 62 = .ok (.getfield 22, 3) := by decide +kernel
theorem dX6_toggleHoliday_65 : decode cX6_toggleHoliday 65 = .ok (.iload_n 1, 1) := by decide +kernel
theorem dX6_toggleHoliday_66 : decode cX6_toggleHoliday 66 = .ok (.baload, 1) := by decide +kernel
theorem dX6_toggleHoliday_67 : decode cX6_toggleHoliday 67 = .ok (.ireturn, 1) := by decide +kernel
set_option maxRecDepth 20000 in
theorem ggX6_setLimit_X6_isCustomer : GoodIn wsX6_setLimit wsX6_isCustomer := goodIn_r _ [7, 8, 9, 6, 10] (by decide +kernel) (by decide +kernel)
set_option maxRecDepth 20000 in
theorem gX6_setLimit_X6_isCustomer : GoodIn wsX6_setLimit (va_wsS RX6 78 yX6_isCustomer wsX6_isCustomer) := goodIn_app (goodIn_of _ (by decide +kernel)) ggX6_setLimit_X6_isCustomer
set_option maxRecDepth 20000 in
theorem ggX6_setLimit_X6_in : GoodIn wsX6_setLimit wsX6_in := goodIn_r _ [10] (by decide +kernel) (by decide +kernel)
set_option maxRecDepth 20000 in
theorem gX6_setLimit_X6_in : GoodIn wsX6_setLimit (va_wsS RX6 57 yX6_in wsX6_in) := goodIn_app (goodIn_of _ (by decide +kernel)) ggX6_setLimit_X6_in
theorem dX6_setLimit_0 : decode cX6_setLimit 0 = .ok (.aload_n 0, 1) := by decide +kernel
theorem dX6_setLimit_1 : decode cX6_setLimit 1 = .ok (.iload_n 1, 1) := by decide +kernel
theorem dX6_setLimit_2 : decode cX6_setLimit 2 = .ok (.invokestatic 78, 3) := by decide +kernel
theorem dX6_setLimit_5 : decode cX6_setLimit 5 = .ok (.ifCond .ne 7, 3) := by decide +kernel
theorem dX6_setLimit_8 : decode cX6_setLimit 8 = .ok (.iconst 1, 1) := by decide +kernel
theorem dX6_setLimit_9 : decode cX6_setLimit 9 = .ok (.goto 18, 3) := by decide +kernel
theorem dX6_setLimit_12 : decode cX6_setLimit 12 = .ok (.iload_n 2, 1) := by decide +kernel
theorem dX6_setLimit_13 : decode cX6_setLimit 13 = .ok (.iconst 0, 1) := by decide +kernel
theorem dX6_setLimit_14 : decode cX6_setLimit 14 = .ok (.ldc 81, 2) := by decide +kernel
theorem dX6_setLimit_16 : decode cX6_setLimit 16 = .ok (.invokestatic 57, 3) := by decide +kernel
theorem dX6_setLimit_19 : decode cX6_setLimit 19 = .ok (.ifCond .eq 7, 3) := by decide +kernel
theorem dX6_setLimit_22 : decode cX6_setLimit 22 = .ok (.iconst 0, 1) := by decide +kernel
theorem dX6_setLimit_23 : decode cX6_setLimit 23 = .ok (.goto 4, 3) := by decide +kernel
theorem dX6_setLimit_26 : decode cX6_setLimit 26 = .ok (.iconst 2, 1) := by decide +kernel
theorem dX6_setLimit_27 : decode cX6_setLimit 27 = .ok (.putfield 53, 3) := by decide +kernel
theorem dX6_setLimit_30 : decode cX6_setLimit 30 = .ok (.aload_n 0, 1) := by decide +kernel
theorem dX6_setLimit_31 : decode cX6_setLimit 31 = .ok (.getfield 53, 3) := by decide +kernel
theorem dX6_setLimit_34 : decode cX6_setLimit 34 = .ok (.ifCond .le 5, 3) := by decide +kernel
theorem dX6_setLimit_37 : decode cX6_setLimit 37 = .ok (.iconst 0, 1) := by decide +kernel
theorem dX6_setLimit_38 : decode cX6_setLimit 38 = .ok (.ireturn, 1) := by decide +kernel
theorem dX6_setLimit_39 : decode cX6_setLimit 39 = .ok (.aload_n 0, 1) := by decide +kernel
theorem dX6_setLimit_40 : decode cX6_setLimit 40 = .ok (.getfield 18, 3) := by decide +kernel
theorem dX6_setLimit_43 : decode cX6_setLimit 43 = .ok (.iload_n 1, 1) := by decide +kernel
theorem dX6_setLimit_44 : decode cX6_setLimit 44 = .ok (.laload, 1) := by decide +kernel
theorem dX6_setLimit_45 : decode cX6_setLimit 45 = .ok (.lstore_n 3, 1) := by decide +kernel
theorem dX6_setLimit_46 : decode cX6_setLimit 46 = .ok (.aload_n 0, 1) := by decide +kernel
theorem dX6_setLimit_47 : decode cX6_setLimit 47 = .ok (.getfield 18, 3) := by decide +kernel
theorem dX6_setLimit_50 : decode cX6_setLimit 50 = .ok (.iload_n 1, 1) := by decide +kernel
theorem dX6_setLimit_51 : decode cX6_setLimit 51 = .ok (.iload_n 2, 1) := by decide +kernel
theorem dX6_setLimit_52 : decode cX6_setLimit 52 = .ok (.i2l, 1) := by decide +kernel
theorem dX6_setLimit_53 : decode cX6_setLimit 53 = .ok (.lastore, 1) := by decide +kernel
theorem dX6_setLimit_54 : decode cX6_setLimit 54 = .ok (.lload_n 3, 1) := by decide +kernel
theorem dX6_setLimit_55 : decode cX6_setLimit 55 = .ok (.l2i, 1) := by decide +kernel
theorem dX6_setLimit_56 : decode cX6_setLimit 56 = .ok (.ireturn, 1) := by decide +kernel
set_option maxRecDepth 20000 in
theorem ggX6_forward_X6_isCurrency : GoodIn wsX6_forward wsX6_isCurrency := goodIn_r _ [6, 7, 8, 5, 9] (by decide +kernel) (by decide +kernel)
set_option maxRecDepth 20000 in
theorem gX6_forward_X6_isCurrency : GoodIn wsX6_forward (va_wsS RX6 73 yX6_isCurrency wsX6_isCurrency) := goodIn_app (goodIn_of _ (by decide +kernel)) ggX6_forward_X6_isCurrency
set_option maxRecDepth 20000 in
theorem ggX6_forward_X6_in : GoodIn wsX6_forward wsX6_in := goodIn_r _ [9] (by decide +kernel) (by decide +kernel)
set_option maxRecDepth 20000 in
theorem gX6_forward_X6_in : GoodIn wsX6_forward (va_wsS RX6 57 yX6_in wsX6_in) := goodIn_app (goodIn_of _ (by decide +kernel)) ggX6_forward_X6_in
set_option maxRecDepth 20000 in
theorem ggX6_forward_X6_forwardFor : GoodIn wsX6_forward wsX6_forwardFor := goodIn_r _ [13, 14, 15, 2, 16, 17, 5, 18, 19, 20, 21, 22, 23, 24, 25, 26, 27, 28, 29, 30, 31, 32, 33, 34] (by decide +kernel) (by decide +kernel)
set_option maxRecDepth 20000 in
theorem gX6_forward_X6_forwardFor : GoodIn wsX6_forward (wsV RX6 82 RX6 yX6_forwardFor wsX6_forwardFor) := goodIn_app (goodIn_of _ (by decide +kernel)) ggX6_forward_X6_forwardFor
theorem dX6_forward_0 : decode cX6_forward 0 = .ok (.aload_n 0, 1) := by decide +kernel
theorem dX6_forward_1 : decode cX6_forward 1 = .ok (.iload_n 1, 1) := by decide +kernel
theorem dX6_forward_2 : decode cX6_forward 2 = .ok (.invokestatic 73, 3) := by decide +kernel
theorem dX6_forward_5 : decode cX6_forward 5 = .ok (.ifCond .ne 7, 3) := by decide +kernel
theorem dX6_forward_8 : decode cX6_forward 8 = .ok (.iconst 1, 1) := by decide +kernel
theorem dX6_forward_9 : decode cX6_forward 9 = .ok (.goto 19, 3) := by decide +kernel
theorem dX6_forward_12 : decode cX6_forward 12 = .ok (.iload_n 2, 1) := by decide +kernel
theorem dX6_forward_13 : decode cX6_forward 13 = .ok (.iconst 0, 1) := by decide +kernel
theorem dX6_forward_14 : decode cX6_forward 14 = .ok (.sipush 400, 3) := by decide +kernel
theorem dX6_forward_17 : decode cX6_forward 17 = .ok (.invokestatic 57, 3) := by decide +kernel
theorem dX6_forward_20 : decode cX6_forward 20 = .ok (.ifCond .eq 7, 3) := by decide +kernel
theorem dX6_forward_23 : decode cX6_forward 23 = .ok (.iconst 0, 1) := by decide +kernel
theorem dX6_forward_24 : decode cX6_forward 24 = .ok (.goto 4, 3) := by decide +kernel
theorem dX6_forward_27 : decode cX6_forward 27 = .ok (.iconst 2, 1) := by decide +kernel
theorem dX6_forward_28 : decode cX6_forward 28 = .ok (.putfield 53, 3) := by decide +kernel
theorem dX6_forward_31 : decode cX6_forward 31 = .ok (.aload_n 0, 1) := by decide +kernel
theorem dX6_forward_32 : decode cX6_forward 32 = .ok (.getfield 53, 3) := by decide +kernel
theorem dX6_forward_35 : decode cX6_forward 35 = .ok (.ifCond .le 7, 3) := by decide +kernel
theorem dX6_forward_38 : decode cX6_forward 38 = .ok (.iconst 0, 1) := by decide +kernel
theorem dX6_forward_39 : decode cX6_forward 39 = .ok (.goto 14, 3) := by decide +kernel
theorem dX6_forward_42 : decode cX6_forward 42 = .ok (.aload_n 0, 1) := by decide +kernel
theorem dX6_forward_43 : decode cX6_forward 43 = .ok (.iload_n 1, 1) := by decide +kernel
theorem dX6_forward_44 : decode cX6_forward 44 = .ok (.aload_n 0, 1) := by decide +kernel
theorem dX6_forward_45 : decode cX6_forward 45 = .ok (.getfield 64, 3) := by decide +kernel
theorem dX6_forward_48 : decode cX6_forward 48 = .ok (.iload_n 2, 1) := by decide +kernel
theorem dX6_forward_49 : decode cX6_forward 49 = .ok (.iadd, 1) := by decide +kernel
theorem dX6_forward_50 : decode cX6_forward 50 = .ok (.invokevirtual 82, 3) := by decide +kernel
theorem dX6_forward_53 : decode cX6_forward 53 = .ok (.ireturn, 1) := by decide +kernel
set_option maxRecDepth 20000 in
theorem ggX6_gainOf_X6_home : GoodIn wsX6_gainOf wsX6_home := goodIn_r _ [6, 7] (by decide +kernel) (by decide +kernel)
set_option maxRecDepth 20000 in
theorem gX6_gainOf_X6_home : GoodIn wsX6_gainOf (va_wsS RX6 86 yX6_home wsX6_home) := goodIn_app (goodIn_of _ (by decide +kernel)) ggX6_gainOf_X6_home
theorem dX6_gainOf_0 : decode cX6_gainOf 0 = .ok (.iload_n 2, 1) := by decide +kernel
theorem dX6_gainOf_1 : decode cX6_gainOf 1 = .ok (.iload_n 3, 1) := by decide +kernel
theorem dX6_gainOf_2 : decode cX6_gainOf 2 = .ok (.invokestatic 86, 3) := by decide +kernel
theorem dX6_gainOf_5 : decode cX6_gainOf 5 = .ok (.iload_n 2, 1) := by decide +kernel
theorem dX6_gainOf_6 : decode cX6_gainOf 6 = .ok (.aload_n 0, 1) := by decide +kernel
theorem dX6_gainOf_7 : decode cX6_gainOf 7 = .ok (.getfield 44, 3) := by decide +kernel
theorem dX6_gainOf_10 : decode cX6_gainOf 10 = .ok (.iload_n 1, 1) := by decide +kernel
theorem dX6_gainOf_11 : decode cX6_gainOf 11 = .ok (.iaload, 1) := by decide +kernel
theorem dX6_gainOf_12 : decode cX6_gainOf 12 = .ok (.invokestatic 86, 3) := by decide +kernel
theorem dX6_gainOf_15 : decode cX6_gainOf 15 = .ok (.lsub, 1) := by decide +kernel
theorem dX6_gainOf_16 : decode cX6_gainOf 16 = .ok (.lstore 4, 2) := by decide +kernel
theorem dX6_gainOf_18 : decode cX6_gainOf 18 = .ok (.aload_n 0, 1) := by decide +kernel
theorem dX6_gainOf_19 : decode cX6_gainOf 19 = .ok (.getfield 32, 3) := by decide +kernel
theorem dX6_gainOf_22 : decode cX6_gainOf 22 = .ok (.iload_n 1, 1) := by decide +kernel
theorem dX6_gainOf_23 : decode cX6_gainOf 23 = .ok (.baload, 1) := by decide +kernel
theorem dX6_gainOf_24 : decode cX6_gainOf 24 = .ok (.ifCond .eq 8, 3) := by decide +kernel
theorem dX6_gainOf_27 : decode cX6_gainOf 27 = .ok (.lload 4, 2) := by decide +kernel
theorem dX6_gainOf_29 : decode cX6_gainOf 29 = .ok (.goto 6, 3) := by decide +kernel
theorem dX6_gainOf_32 : decode cX6_gainOf 32 = .ok (.lload 4, 2) := by decide +kernel
theorem dX6_gainOf_34 : decode cX6_gainOf 34 = .ok (.lneg, 1) := by decide +kernel
theorem dX6_gainOf_35 : decode cX6_gainOf 35 = .ok (.lreturn, 1) := by decide +kernel
set_option maxRecDepth 20000 in
theorem ggX6_gainNow_X6_forwardFor : GoodIn wsX6_gainNow wsX6_forwardFor := goodIn_r _ [8, 9, 10, 11, 12, 13, 7, 14, 25, 26, 27, 28, 29, 30, 31, 32, 33, 34, 35, 36, 37, 38, 39, 40] (by decide +kernel) (by decide +kernel)
set_option maxRecDepth 20000 in
theorem gX6_gainNow_X6_forwardFor : GoodIn wsX6_gainNow (wsV RX6 82 RX6 yX6_forwardFor wsX6_forwardFor) := goodIn_app (goodIn_of _ (by decide +kernel)) ggX6_gainNow_X6_forwardFor
set_option maxRecDepth 20000 in
theorem ggX6_gainNow_X6_gainOf : GoodIn wsX6_gainNow wsX6_gainOf := goodIn_r _ [18, 19, 20, 21, 22, 7, 23, 24, 25, 26, 27, 28, 29, 30, 31, 32, 33, 34, 35, 36, 37, 38, 39, 40] (by decide +kernel) (by decide +kernel)
set_option maxRecDepth 20000 in
theorem gX6_gainNow_X6_gainOf : GoodIn wsX6_gainNow (wsV RX6 90 RX6 yX6_gainOf wsX6_gainOf) := goodIn_app (goodIn_of _ (by decide +kernel)) ggX6_gainNow_X6_gainOf
theorem dX6_gainNow_0 : decode cX6_gainNow 0 = .ok (.aload_n 0, 1) := by decide +kernel
theorem dX6_gainNow_1 : decode cX6_gainNow 1 = .ok (.iload_n 1, 1) := by decide +kernel
theorem dX6_gainNow_2 : decode cX6_gainNow 2 = .ok (.aload_n 0, 1) := by decide +kernel
theorem dX6_gainNow_3 : decode cX6_gainNow 3 = .ok (.getfield 35, 3) := by decide +kernel
theorem dX6_gainNow_6 : decode cX6_gainNow 6 = .ok (.iload_n 1, 1) := by decide +kernel
theorem dX6_gainNow_7 : decode cX6_gainNow 7 = .ok (.iaload, 1) := by decide +kernel
theorem dX6_gainNow_8 : decode cX6_gainNow 8 = .ok (.aload_n 0, 1) := by decide +kernel
theorem dX6_gainNow_9 : decode cX6_gainNow 9 = .ok (.aload_n 0, 1) := by decide +kernel
theorem dX6_gainNow_10 : decode cX6_gainNow 10 = .ok (.getfield 29, 3) := by decide +kernel
theorem dX6_gainNow_13 : decode cX6_gainNow 13 = .ok (.iload_n 1, 1) := by decide +kernel
theorem dX6_gainNow_14 : decode cX6_gainNow 14 = .ok (.iaload, 1) := by decide +kernel
theorem dX6_gainNow_15 : decode cX6_gainNow 15 = .ok (.aload_n 0, 1) := by decide +kernel
theorem dX6_gainNow_16 : decode cX6_gainNow 16 = .ok (.getfield 41, 3) := by decide +kernel
theorem dX6_gainNow_19 : decode cX6_gainNow 19 = .ok (.iload_n 1, 1) := by decide +kernel
theorem dX6_gainNow_20 : decode cX6_gainNow 20 = .ok (.iaload, 1) := by decide +kernel
theorem dX6_gainNow_21 : decode cX6_gainNow 21 = .ok (.invokevirtual 82, 3) := by decide +kernel
theorem dX6_gainNow_24 : decode cX6_gainNow 24 = .ok (.invokevirtual 90, 3) := by decide +kernel
theorem dX6_gainNow_27 : decode cX6_gainNow 27 = .ok (.lreturn, 1) := by decide +kernel
set_option maxRecDepth 20000 in
theorem ggX6_valueAt_X6_forwardFor : GoodIn wsX6_valueAt wsX6_forwardFor := goodIn_r _ [10, 11, 12, 13, 14, 15, 9, 16, 27, 28, 29, 30, 31, 32, 33, 34, 35, 36, 37, 38, 39, 40, 41, 42] (by decide +kernel) (by decide +kernel)
set_option maxRecDepth 20000 in
theorem gX6_valueAt_X6_forwardFor : GoodIn wsX6_valueAt (wsV RX6 82 RX6 yX6_forwardFor wsX6_forwardFor) := goodIn_app (goodIn_of _ (by decide +kernel)) ggX6_valueAt_X6_forwardFor
set_option maxRecDepth 20000 in
theorem ggX6_valueAt_X6_atLeastOne : GoodIn wsX6_valueAt wsX6_atLeastOne := goodIn_r _ [16] (by decide +kernel) (by decide +kernel)
set_option maxRecDepth 20000 in
theorem gX6_valueAt_X6_atLeastOne : GoodIn wsX6_valueAt (va_wsS RX6 67 yX6_atLeastOne wsX6_atLeastOne) := goodIn_app (goodIn_of _ (by decide +kernel)) ggX6_valueAt_X6_atLeastOne
set_option maxRecDepth 20000 in
theorem ggX6_valueAt_X6_gainOf : GoodIn wsX6_valueAt wsX6_gainOf := goodIn_r _ [20, 21, 22, 23, 24, 9, 25, 26, 27, 28, 29, 30, 31, 32, 33, 34, 35, 36, 37, 38, 39, 40, 41, 42] (by decide +kernel) (by decide +kernel)
set_option maxRecDepth 20000 in
theorem gX6_valueAt_X6_gainOf : GoodIn wsX6_valueAt (wsV RX6 90 RX6 yX6_gainOf wsX6_gainOf) := goodIn_app (goodIn_of _ (by decide +kernel)) ggX6_valueAt_X6_gainOf
theorem dX6_valueAt_0 : decode cX6_valueAt 0 = .ok (.lconst 0, 1) := by decide +kernel
theorem dX6_valueAt_1 : decode cX6_valueAt 1 = .ok (.lstore_n 3, 1) := by decide +kernel
theorem dX6_valueAt_2 : decode cX6_valueAt 2 = .ok (.iconst 0, 1) := by decide +kernel
theorem dX6_valueAt_3 : decode cX6_valueAt 3 = .ok (.istore 5, 2) := by decide +kernel
theorem dX6_valueAt_5 : decode cX6_valueAt 5 = .ok (.iload 5, 2) := by decide +kernel
theorem dX6_valueAt_7 : decode cX6_valueAt 7 = .ok (.aload_n 0, 1) := by decide +kernel
theorem dX6_valueAt_8 : decode cX6_valueAt 8 = .ok (.getfield 61, 3) := by decide +kernel
theorem dX6_valueAt_11 : decode cX6_valueAt 11 = .ok (.if_icmp .ge 73, 3) := by decide +kernel
theorem dX6_valueAt_14 : decode cX6_valueAt 14 = .ok (.aload_n 0, 1) := by decide +kernel
theorem dX6_valueAt_15 : decode cX6_valueAt 15 = .ok (.aload_n 0, 1) := by decide +kernel
theorem dX6_valueAt_16 : decode cX6_valueAt 16 = .ok (.getfield 29, 3) := by decide +kernel
theorem dX6_valueAt_19 : decode cX6_valueAt 19 = .ok (.iload 5, 2) := by decide +kernel
theorem dX6_valueAt_21 : decode cX6_valueAt 21 = .ok (.iaload, 1) := by decide +kernel
theorem dX6_valueAt_22 : decode cX6_valueAt 22 = .ok (.aload_n 0, 1) := by decide +kernel
theorem dX6_valueAt_23 : decode cX6_valueAt 23 = .ok (.getfield 41, 3) := by decide +kernel
theorem dX6_valueAt_26 : decode cX6_valueAt 26 = .ok (.iload 5, 2) := by decide +kernel
theorem dX6_valueAt_28 : decode cX6_valueAt 28 = .ok (.iaload, 1) := by decide +kernel
theorem dX6_valueAt_29 : decode cX6_valueAt 29 = .ok (.invokevirtual 82, 3) := by decide +kernel
theorem dX6_valueAt_32 : decode cX6_valueAt 32 = .ok (.bipush 100, 2) := by decide +kernel
theorem dX6_valueAt_34 : decode cX6_valueAt 34 = .ok (.iload_n 2, 1) := by decide +kernel
theorem dX6_valueAt_35 : decode cX6_valueAt 35 = .ok (.iadd, 1) := by decide +kernel
theorem dX6_valueAt_36 : decode cX6_valueAt 36 = .ok (.imul, 1) := by decide +kernel
theorem dX6_valueAt_37 : decode cX6_valueAt 37 = .ok (.bipush 100, 2) := by decide +kernel
theorem dX6_valueAt_39 : decode cX6_valueAt 39 = .ok (.idiv, 1) := by decide +kernel
theorem dX6_valueAt_40 : decode cX6_valueAt 40 = .ok (.invokestatic 67, 3) := by decide +kernel
theorem dX6_valueAt_43 : decode cX6_valueAt 43 = .ok (.istore 6, 2) := by decide +kernel
theorem dX6_valueAt_45 : decode cX6_valueAt 45 = .ok (.lload_n 3, 1) := by decide +kernel
theorem dX6_valueAt_46 : decode cX6_valueAt 46 = .ok (.aload_n 0, 1) := by decide +kernel
theorem dX6_valueAt_47 : decode cX6_valueAt 47 = .ok (.getfield 26, 3) := by decide +kernel
theorem dX6_valueAt_50 : decode cX6_valueAt 50 = .ok (.iload 5, 2) := by decide +kernel
theorem dX6_valueAt_52 : decode cX6_valueAt 52 = .ok (.iaload, 1) := by decide +kernel
theorem dX6_valueAt_53 : decode cX6_valueAt 53 = .ok (.iload_n 1, 1) := by decide +kernel
theorem dX6_valueAt_54 : decode cX6_valueAt 54 = .ok (.if_icmp .ne 21, 3) := by decide +kernel
theorem dX6_valueAt_57 : decode cX6_valueAt 57 = .ok (.aload_n 0, 1) := by decide +kernel
theorem dX6_valueAt_58 : decode cX6_valueAt 58 = .ok (.iload 5, 2) := by decide +kernel
theorem dX6_valueAt_60 : decode cX6_valueAt 60 = .ok (.aload_n 0, 1) := by decide +kernel
theorem dX6_valueAt_61 : decode cX6_valueAt 61 = .ok (.getfield 35, 3) := by decide +kernel
theorem dX6_valueAt_64 : decode cX6_valueAt 64 = .ok (.iload 5, 2) := by decide +kernel
theorem dX6_valueAt_66 : decode cX6_valueAt 66 = .ok (.iaload, 1) := by decide +kernel
theorem dX6_valueAt_67 : decode cX6_valueAt 67 = .ok (.iload 6, 2) := by decide +kernel
theorem dX6_valueAt_69 : decode cX6_valueAt 69 = .ok (.invokevirtual 90, 3) := by decide +kernel
theorem dX6_valueAt_72 : decode cX6_valueAt 72 = .ok (.goto 4, 3) := by decide +kernel
theorem dX6_valueAt_75 : decode cX6_valueAt 75 = .ok (.lconst 0, 1) := by decide +kernel
theorem dX6_valueAt_76 : decode cX6_valueAt 76 = .ok (.ladd, 1) := by decide +kernel
theorem dX6_valueAt_77 : decode cX6_valueAt 77 = .ok (.lstore_n 3, 1) := by decide +kernel
theorem dX6_valueAt_78 : decode cX6_valueAt 78 = .ok (.iinc 5 1, 3) := by decide +kernel
theorem dX6_valueAt_81 : decode cX6_valueAt 81 = .ok (.goto (-76), 3) := by decide +kernel
theorem dX6_valueAt_84 : decode cX6_valueAt 84 = .ok (.lload_n 3, 1) := by decide +kernel
theorem dX6_valueAt_85 : decode cX6_valueAt 85 = .ok (.lreturn, 1) := by decide +kernel
set_option maxRecDepth 20000 in
theorem ggX6_exposureOf_X6_valueAt : GoodIn wsX6_exposureOf wsX6_valueAt := goodIn_r _ [5, 6, 7, 8, 9, 10, 11, 12, 13, 4, 14, 15, 16, 17, 18, 19, 20, 21, 22, 23, 24, 25, 26, 27, 28, 29, 30, 31, 32, 33, 34, 35, 36, 37, 38, 39, 40, 41, 42, 43, 44, 45, 46] (by decide +kernel) (by decide +kernel)
set_option maxRecDepth 20000 in
theorem gX6_exposureOf_X6_valueAt : GoodIn wsX6_exposureOf (wsV RX6 94 RX6 yX6_valueAt wsX6_valueAt) := goodIn_app (goodIn_of _ (by decide +kernel)) ggX6_exposureOf_X6_valueAt
theorem dX6_exposureOf_0 : decode cX6_exposureOf 0 = .ok (.aload_n 0, 1) := by decide +kernel
theorem dX6_exposureOf_1 : decode cX6_exposureOf 1 = .ok (.iload_n 1, 1) := by decide +kernel
theorem dX6_exposureOf_2 : decode cX6_exposureOf 2 = .ok (.bipush 10, 2) := by decide +kernel
theorem dX6_exposureOf_4 : decode cX6_exposureOf 4 = .ok (.invokevirtual 94, 3) := by decide +kernel
theorem dX6_exposureOf_7 : decode cX6_exposureOf 7 = .ok (.lneg, 1) := by decide +kernel
theorem dX6_exposureOf_8 : decode cX6_exposureOf 8 = .ok (.lstore_n 2, 1) := by decide +kernel
theorem dX6_exposureOf_9 : decode cX6_exposureOf 9 = .ok (.aload_n 0, 1) := by decide +kernel
theorem dX6_exposureOf_10 : decode cX6_exposureOf 10 = .ok (.iload_n 1, 1) := by decide +kernel
theorem dX6_exposureOf_11 : decode cX6_exposureOf 11 = .ok (.bipush (-10), 2) := by decide +kernel
theorem dX6_exposureOf_13 : decode cX6_exposureOf 13 = .ok (.invokevirtual 94, 3) := by decide +kernel
theorem dX6_exposureOf_16 : decode cX6_exposureOf 16 = .ok (.lneg, 1) := by decide +kernel
theorem dX6_exposureOf_17 : decode cX6_exposureOf 17 = .ok (.lstore 4, 2) := by decide +kernel
theorem dX6_exposureOf_19 : decode cX6_exposureOf 19 = .ok (.lload_n 2, 1) := by decide +kernel
theorem dX6_exposureOf_20 : decode cX6_exposureOf 20 = .ok (.lload 4, 2) := by decide +kernel
theorem dX6_exposureOf_22 : decode cX6_exposureOf 22 = .ok (.lcmp, 1) := by decide +kernel
theorem dX6_exposureOf_23 : decode cX6_exposureOf 23 = .ok (.ifCond .le 7, 3) := by decide +kernel
theorem dX6_exposureOf_26 : decode cX6_exposureOf 26 = .ok (.lload_n 2, 1) := by decide +kernel
theorem dX6_exposureOf_27 : decode cX6_exposureOf 27 = .ok (.goto 5, 3) := by decide +kernel
theorem dX6_exposureOf_30 : decode cX6_exposureOf 30 = .ok (.lload 4, 2) := by decide +kernel
theorem dX6_exposureOf_32 : decode cX6_exposureOf 32 = .ok (.lstore 6, 2) := by decide +kernel
theorem dX6_exposureOf_34 : decode cX6_exposureOf 34 = .ok (.lload 6, 2) := by decide +kernel
theorem dX6_exposureOf_36 : decode cX6_exposureOf 36 = .ok (.lconst 0, 1) := by decide +kernel
theorem dX6_exposureOf_37 : decode cX6_exposureOf 37 = .ok (.lcmp, 1) := by decide +kernel
theorem dX6_exposureOf_38 : decode cX6_exposureOf 38 = .ok (.ifCond .ge 7, 3) := by decide +kernel
theorem dX6_exposureOf_41 : decode cX6_exposureOf 41 = .ok (.lconst 0, 1) := by decide +kernel
theorem dX6_exposureOf_42 : decode cX6_exposureOf 42 = .ok (.goto 5, 3) := by decide +kernel
theorem dX6_exposureOf_45 : decode cX6_exposureOf 45 = .ok (.lload 6, 2) := by decide +kernel
theorem dX6_exposureOf_47 : decode cX6_exposureOf 47 = .ok (.lreturn, 1) := by decide +kernel
theorem dX6_isBusiness_0 : decode cX6_isBusiness 0 = .ok (.iload_n 1, 1) := by decide +kernel
theorem dX6_isBusiness_1 : decode cX6_isBusiness 1 = .ok (.bipush 7, 2) := by decide +kernel
theorem dX6_isBusiness_3 : decode cX6_isBusiness 3 = .ok (.irem, 1) := by decide +kernel
theorem dX6_isBusiness_4 : decode cX6_isBusiness 4 = .ok (.iconst 5, 1) := by decide +kernel
theorem dX6_isBusiness_5 : decode cX6_isBusiness 5 = .ok (.if_icmp .ge 23, 3) := by decide +kernel
theorem dX6_isBusiness_8 : decode cX6_isBusiness 8 = .ok (.iload_n 1, 1) := by decide +kernel
theorem dX6_isBusiness_9 : decode cX6_isBusiness 9 = .ok (.sipush 1000, 3) := by decide +kernel
theorem dX6_isBusiness_12 : decode cX6_isBusiness 12 = .ok (.if_icmp .gt 12, 3) := by decide +kernel
theorem dX6_isBusiness_15 : decode cX6_isBusiness 15 = .ok (.aload_n 0, 1) := by decide +kernel
theorem dX6_isBusiness_16 : decode cX6_isBusiness 16 = .ok (.getfield 22, 3) := by decide +kernel
theorem dX6_isBusiness_19 : decode cX6_isBusiness 19 = .ok (.iload_n 1, 1) := by decide +kernel
theorem dX6_isBusiness_20 : decode cX6_isBusiness 20 = .ok (.baload, 1) := by decide +kernel
theorem dX6_isBusiness_21 : decode cX6_isBusiness 21 = .ok (.ifCond .ne 7, 3) := by decide +kernel
theorem dX6_isBusiness_24 : decode cX6_isBusiness 24 = .ok (.iconst 1, 1) := by decide +kernel
theorem dX6_isBusiness_25 : decode cX6_isBusiness 25 = .ok (.goto 4, 3) := by decide +kernel
theorem dX6_isBusiness_28 : decode cX6_isBusiness 28 = .ok (.iconst 0, 1) := by decide +kernel
theorem dX6_isBusiness_29 : decode cX6_isBusiness 29 = .ok (.ireturn, 1) := by decide +kernel
set_option maxRecDepth 20000 in
theorem ggX6_settles_X6_isBusiness : GoodIn wsX6_settles wsX6_isBusiness := goodIn_r _ [6, 7, 8, 9, 10, 11, 12, 13, 14, 15, 16, 17, 18, 19, 20, 21, 22, 23] (by decide +kernel) (by decide +kernel)
set_option maxRecDepth 20000 in
theorem gX6_settles_X6_isBusiness : GoodIn wsX6_settles (wsV RX6 97 RX6 yX6_isBusiness wsX6_isBusiness) := goodIn_app (goodIn_of _ (by decide +kernel)) ggX6_settles_X6_isBusiness
theorem dX6_settles_0 : decode cX6_settles 0 = .ok (.aload_n 0, 1) := by decide +kernel
theorem dX6_settles_1 : decode cX6_settles 1 = .ok (.getfield 64, 3) := by decide +kernel
theorem dX6_settles_4 : decode cX6_settles 4 = .ok (.iconst 1, 1) := by decide +kernel
theorem dX6_settles_5 : decode cX6_settles 5 = .ok (.iadd, 1) := by decide +kernel
theorem dX6_settles_6 : decode cX6_settles 6 = .ok (.istore_n 1, 1) := by decide +kernel
theorem dX6_settles_7 : decode cX6_settles 7 = .ok (.aload_n 0, 1) := by decide +kernel
theorem dX6_settles_8 : decode cX6_settles 8 = .ok (.iload_n 1, 1) := by decide +kernel
theorem dX6_settles_9 : decode cX6_settles 9 = .ok (.invokevirtual 97, 3) := by decide +kernel
theorem dX6_settles_12 : decode cX6_settles 12 = .ok (.ifCond .ne 9, 3) := by decide +kernel
theorem dX6_settles_15 : decode cX6_settles 15 = .ok (.iinc 1 1, 3) := by decide +kernel
theorem dX6_settles_18 : decode cX6_settles 18 = .ok (.goto (-11), 3) := by decide +kernel
theorem dX6_settles_21 : decode cX6_settles 21 = .ok (.iload_n 1, 1) := by decide +kernel
theorem dX6_settles_22 : decode cX6_settles 22 = .ok (.ireturn, 1) := by decide +kernel
set_option maxRecDepth 20000 in
theorem ggX6_owes_X6_settles : GoodIn wsX6_owes wsX6_settles := goodIn_r _ [6, 7, 8, 9, 10, 5, 11, 12, 13, 14, 15, 16, 17, 18, 19, 20, 21, 22, 23, 24, 25, 26, 27, 28] (by decide +kernel) (by decide +kernel)
set_option maxRecDepth 20000 in
theorem gX6_owes_X6_settles : GoodIn wsX6_owes (wsV RX6 100 RX6 yX6_settles wsX6_settles) := goodIn_app (goodIn_of _ (by decide +kernel)) ggX6_owes_X6_settles
theorem dX6_owes_0 : decode cX6_owes 0 = .ok (.aload_n 0, 1) := by decide +kernel
theorem dX6_owes_1 : decode cX6_owes 1 = .ok (.getfield 47, 3) := by decide +kernel
theorem dX6_owes_4 : decode cX6_owes 4 = .ok (.bipush 25, 2) := by decide +kernel
theorem dX6_owes_6 : decode cX6_owes 6 = .ok (.aload_n 0, 1) := by decide +kernel
theorem dX6_owes_7 : decode cX6_owes 7 = .ok (.invokevirtual 100, 3) := by decide +kernel
theorem dX6_owes_10 : decode cX6_owes 10 = .ok (.imul, 1) := by decide +kernel
theorem dX6_owes_11 : decode cX6_owes 11 = .ok (.iconst 5, 1) := by decide +kernel
theorem dX6_owes_12 : decode cX6_owes 12 = .ok (.iload_n 1, 1) := by decide +kernel
theorem dX6_owes_13 : decode cX6_owes 13 = .ok (.imul, 1) := by decide +kernel
theorem dX6_owes_14 : decode cX6_owes 14 = .ok (.iadd, 1) := by decide +kernel
theorem dX6_owes_15 : decode cX6_owes 15 = .ok (.iload_n 2, 1) := by decide +kernel
theorem dX6_owes_16 : decode cX6_owes 16 = .ok (.iadd, 1) := by decide +kernel
theorem dX6_owes_17 : decode cX6_owes 17 = .ok (.dup2, 1) := by decide +kernel
theorem dX6_owes_18 : decode cX6_owes 18 = .ok (.laload, 1) := by decide +kernel
theorem dX6_owes_19 : decode cX6_owes 19 = .ok (.lload_n 3, 1) := by decide +kernel
theorem dX6_owes_20 : decode cX6_owes 20 = .ok (.ladd, 1) := by decide +kernel
theorem dX6_owes_21 : decode cX6_owes 21 = .ok (.lastore, 1) := by decide +kernel
theorem dX6_owes_22 : decode cX6_owes 22 = .ok (.return_, 1) := by decide +kernel
set_option maxRecDepth 20000 in
theorem ggX6_deal_X6_isCustomer : GoodIn wsX6_deal wsX6_isCustomer := goodIn_r _ [16, 17, 18, 15, 19] (by decide +kernel) (by decide +kernel)
set_option maxRecDepth 20000 in
theorem gX6_deal_X6_isCustomer : GoodIn wsX6_deal (va_wsS RX6 78 yX6_isCustomer wsX6_isCustomer) := goodIn_app (goodIn_of _ (by decide +kernel)) ggX6_deal_X6_isCustomer
set_option maxRecDepth 20000 in
theorem ggX6_deal_X6_isCurrency : GoodIn wsX6_deal wsX6_isCurrency := goodIn_r _ [22, 17, 18, 15, 19] (by decide +kernel) (by decide +kernel)
set_option maxRecDepth 20000 in
theorem gX6_deal_X6_isCurrency : GoodIn wsX6_deal (va_wsS RX6 73 yX6_isCurrency wsX6_isCurrency) := goodIn_app (goodIn_of _ (by decide +kernel)) ggX6_deal_X6_isCurrency
set_option maxRecDepth 20000 in
theorem ggX6_deal_X6_in : GoodIn wsX6_deal wsX6_in := goodIn_r _ [19] (by decide +kernel) (by decide +kernel)
set_option maxRecDepth 20000 in
theorem gX6_deal_X6_in : GoodIn wsX6_deal (va_wsS RX6 57 yX6_in wsX6_in) := goodIn_app (goodIn_of _ (by decide +kernel)) ggX6_deal_X6_in
set_option maxRecDepth 20000 in
theorem ggX6_deal_X6_forwardFor : GoodIn wsX6_deal wsX6_forwardFor := goodIn_r _ [26, 27, 28, 9, 29, 30, 15, 31, 48, 49, 50, 51, 52, 53, 54, 55, 56, 57, 58, 59, 60, 61, 62, 63] (by decide +kernel) (by decide +kernel)
set_option maxRecDepth 20000 in
theorem gX6_deal_X6_forwardFor : GoodIn wsX6_deal (wsV RX6 82 RX6 yX6_forwardFor wsX6_forwardFor) := goodIn_app (goodIn_of _ (by decide +kernel)) ggX6_deal_X6_forwardFor
set_option maxRecDepth 20000 in
theorem ggX6_deal_X6_exposureOf : GoodIn wsX6_deal wsX6_exposureOf := goodIn_r _ [35, 36, 37, 38, 15, 39, 2, 5, 10, 4, 7, 23, 24, 25, 26, 27, 28, 9, 29, 30, 31, 40, 41, 42, 43, 11, 6, 44, 45, 46, 47, 48, 49, 50, 51, 52, 53, 54, 55, 56, 57, 58, 59, 60, 61, 62, 63] (by decide +kernel) (by decide +kernel)
set_option maxRecDepth 20000 in
theorem gX6_deal_X6_exposureOf : GoodIn wsX6_deal (wsV RX6 105 RX6 yX6_exposureOf wsX6_exposureOf) := goodIn_app (goodIn_of _ (by decide +kernel)) ggX6_deal_X6_exposureOf
theorem dX6_deal_0 : decode cX6_deal 0 = .ok (.iload_n 1, 1) := by decide +kernel
theorem dX6_deal_1 : decode cX6_deal 1 = .ok (.invokestatic 78, 3) := by decide +kernel
theorem dX6_deal_4 : decode cX6_deal 4 = .ok (.ifCond .eq 14, 3) := by decide +kernel
theorem dX6_deal_7 : decode cX6_deal 7 = .ok (.iload_n 2, 1) := by decide +kernel
theorem dX6_deal_8 : decode cX6_deal 8 = .ok (.invokestatic 73, 3) := by decide +kernel
theorem dX6_deal_11 : decode cX6_deal 11 = .ok (.ifCond .eq 7, 3) := by decide +kernel
theorem dX6_deal_14 : decode cX6_deal 14 = .ok (.iconst 1, 1) := by decide +kernel
theorem dX6_deal_15 : decode cX6_deal 15 = .ok (.goto 4, 3) := by decide +kernel
theorem dX6_deal_18 : decode cX6_deal 18 = .ok (.iconst 0, 1) := by decide +kernel
theorem dX6_deal_19 : decode cX6_deal 19 = .ok (.istore 7, 2) := by decide +kernel
theorem dX6_deal_21 : decode cX6_deal 21 = .ok (.iload 4, 2) := by decide +kernel
theorem dX6_deal_23 : decode cX6_deal 23 = .ok (.iconst 1, 1) := by decide +kernel
theorem dX6_deal_24 : decode cX6_deal 24 = .ok (.ldc 104, 2) := by decide +kernel
theorem dX6_deal_26 : decode cX6_deal 26 = .ok (.invokestatic 57, 3) := by decide +kernel
theorem dX6_deal_29 : decode cX6_deal 29 = .ok (.ifCond .eq 32, 3) := by decide +kernel
theorem dX6_deal_32 : decode cX6_deal 32 = .ok (.iload 5, 2) := by decide +kernel
theorem dX6_deal_34 : decode cX6_deal 34 = .ok (.iconst 0, 1) := by decide +kernel
theorem dX6_deal_35 : decode cX6_deal 35 = .ok (.sipush 400, 3) := by decide +kernel
theorem dX6_deal_38 : decode cX6_deal 38 = .ok (.invokestatic 57, 3) := by decide +kernel
theorem dX6_deal_41 : decode cX6_deal 41 = .ok (.ifCond .eq 20, 3) := by decide +kernel
theorem dX6_deal_44 : decode cX6_deal 44 = .ok (.iload 6, 2) := by decide +kernel
theorem dX6_deal_46 : decode cX6_deal 46 = .ok (.iload 5, 2) := by decide +kernel
theorem dX6_deal_48 : decode cX6_deal 48 = .ok (.sipush 400, 3) := by decide +kernel
theorem dX6_deal_51 : decode cX6_deal 51 = .ok (.invokestatic 57, 3) := by decide +kernel
theorem dX6_deal_54 : decode cX6_deal 54 = .ok (.ifCond .eq 7, 3) := by decide +kernel
theorem dX6_deal_57 : decode cX6_deal 57 = .ok (.iconst 1, 1) := by decide +kernel
theorem dX6_deal_58 : decode cX6_deal 58 = .ok (.goto 4, 3) := by decide +kernel
theorem dX6_deal_61 : decode cX6_deal 61 = .ok (.iconst 0, 1) := by decide +kernel
theorem dX6_deal_62 : decode cX6_deal 62 = .ok (.istore 8, 2) := by decide +kernel
theorem dX6_deal_64 : decode cX6_deal 64 = .ok (.aload_n 0, 1) := by decide +kernel
theorem dX6_deal_65 : decode cX6_deal 65 = .ok (.iload 7, 2) := by decide +kernel
theorem dX6_deal_67 : decode cX6_deal 67 = .ok (.ifCond .ne 7, 3) := by decide +kernel
theorem dX6_deal_70 : decode cX6_deal 70 = .ok (.iconst 1, 1) := by decide +kernel
theorem dX6_deal_71 : decode cX6_deal 71 = .ok (.goto 26, 3) := by decide +kernel
theorem dX6_deal_74 : decode cX6_deal 74 = .ok (.iload 8, 2) := by decide +kernel
theorem dX6_deal_76 : decode cX6_deal 76 = .ok (.ifCond .ne 7, 3) := by decide +kernel
theorem dX6_deal_79 : decode cX6_deal 79 = .ok (.iconst 2, 1) := by decide +kernel
theorem dX6_deal_80 : decode cX6_deal 80 = .ok (.goto 17, 3) := by decide +kernel
theorem dX6_deal_83 : decode cX6_deal 83 = .ok (.aload_n 0, 1) := by decide +kernel
theorem dX6_deal_84 : decode cX6_deal 84 = .ok (.getfield 61, 3) := by decide +kernel
theorem dX6_deal_87 : decode cX6_deal 87 = .ok (.bipush 20, 2) := by decide +kernel
theorem dX6_deal_89 : decode cX6_deal 89 = .ok (.if_icmp .ne 7, 3) := by decide +kernel
theorem dX6_deal_92 : decode cX6_deal 92 = .ok (.iconst 3, 1) := by decide +kernel
theorem dX6_deal_93 : decode cX6_deal 93 = .ok (.goto 4, 3) := by decide +kernel
theorem dX6_deal_96 : decode cX6_deal 96 = .ok (.iconst 0, 1) := by decide +kernel
theorem dX6_deal_97 : decode cX6_deal 97 = .ok (.putfield 53, 3) := by decide +kernel
theorem dX6_deal_100 : decode cX6_deal 100 = .ok (.aload_n 0, 1) := by decide +kernel
theorem dX6_deal_101 : decode cX6_deal 101 = .ok (.getfield 53, 3) := by decide +kernel
theorem dX6_deal_104 : decode cX6_deal 104 = .ok (.ifCond .le 5, 3) := by decide +kernel
theorem dX6_deal_107 : decode cX6_deal 107 = .ok (.iconst 0, 1) := by decide +kernel
theorem dX6_deal_108 : decode cX6_deal 108 = .ok (.ireturn, 1) := by decide +kernel
theorem dX6_deal_109 : decode cX6_deal 109 = .ok (.aload_n 0, 1) := by decide +kernel
theorem dX6_deal_110 : decode cX6_deal 110 = .ok (.getfield 61, 3) := by decide +kernel
theorem dX6_deal_113 : decode cX6_deal 113 = .ok (.istore 9, 2) := by decide +kernel
theorem dX6_deal_115 : decode cX6_deal 115 = .ok (.aload_n 0, 1) := by decide +kernel
theorem dX6_deal_116 : decode cX6_deal 116 = .ok (.getfield 26, 3) := by decide +kernel
theorem dX6_deal_119 : decode cX6_deal 119 = .ok (.iload 9, 2) := by decide +kernel
theorem dX6_deal_121 : decode cX6_deal 121 = .ok (.iload_n 1, 1) := by decide +kernel
theorem dX6_deal_122 : decode cX6_deal 122 = .ok (.iastore, 1) := by decide +kernel
theorem dX6_deal_123 : decode cX6_deal 123 = .ok (.aload_n 0, 1) := by decide +kernel
theorem dX6_deal_124 : decode cX6_deal 124 = .ok (.getfield 29, 3) := by decide +kernel
theorem dX6_deal_127 : decode cX6_deal 127 = .ok (.iload 9, 2) := by decide +kernel
theorem dX6_deal_129 : decode cX6_deal 129 = .ok (.iload_n 2, 1) := by decide +kernel
theorem dX6_deal_130 : decode cX6_deal 130 = .ok (.iastore, 1) := by decide +kernel
theorem dX6_deal_131 : decode cX6_deal 131 = .ok (.aload_n 0, 1) := by decide +kernel
theorem dX6_deal_132 : decode cX6_deal 132 = .ok (.getfield 32, 3) := by decide +kernel
theorem dX6_deal_135 : decode cX6_deal 135 = .ok (.iload 9, 2) := by decide +kernel
theorem dX6_deal_137 : decode cX6_deal 137 = .ok (.iload_n 3, 1) := by decide +kernel
theorem dX6_deal_138 : decode cX6_deal 138 = .ok (.bastore, 1) := by decide +kernel
theorem dX6_deal_139 : decode cX6_deal 139 = .ok (.aload_n 0, 1) := by decide +kernel
theorem dX6_deal_140 : decode cX6_deal 140 = .ok (.getfield 35, 3) := by decide +kernel
theorem dX6_deal_143 : decode cX6_deal 143 = .ok (.iload 9, 2) := by decide +kernel
theorem dX6_deal_145 : decode cX6_deal 145 = .ok (.iload 4, 2) := by decide +kernel
theorem dX6_deal_147 : decode cX6_deal 147 = .ok (.iastore, 1) := by decide +kernel
theorem dX6_deal_148 : decode cX6_deal 148 = .ok (.aload_n 0, 1) := by decide +kernel
theorem dX6_deal_149 : decode cX6_deal 149 = .ok (.getfield 38, 3) := by decide +kernel
theorem dX6_deal_152 : decode cX6_deal 152 = .ok (.iload 9, 2) := by decide +kernel
theorem dX6_deal_154 : decode cX6_deal 154 = .ok (.aload_n 0, 1) := by decide +kernel
theorem dX6_deal_155 : decode cX6_deal 155 = .ok (.getfield 64, 3) := by decide +kernel
theorem dX6_deal_158 : decode cX6_deal 158 = .ok (.iload 5, 2) := by decide +kernel
theorem dX6_deal_160 : decode cX6_deal 160 = .ok (.iadd, 1) := by decide +kernel
theorem dX6_deal_161 : decode cX6_deal 161 = .ok (.iastore, 1) := by decide +kernel
theorem dX6_deal_162 : decode cX6_deal 162 = .ok (.aload_n 0, 1) := by decide +kernel
theorem dX6_deal_163 : decode cX6_deal 163 = .ok (.getfield 41, 3) := by decide +kernel
theorem dX6_deal_166 : decode cX6_deal 166 = .ok (.iload 9, 2) := by decide +kernel
theorem dX6_deal_168 : decode cX6_deal 168 = .ok (.aload_n 0, 1) := by decide +kernel
theorem dX6_deal_169 : decode cX6_deal 169 = .ok (.getfield 64, 3) := by decide +kernel
theorem dX6_deal_172 : decode cX6_deal 172 = .ok (.iload 6, 2) := by decide +kernel
theorem dX6_deal_174 : decode cX6_deal 174 = .ok (.iadd, 1) := by decide +kernel
theorem dX6_deal_175 : decode cX6_deal 175 = .ok (.iastore, 1) := by decide +kernel
theorem dX6_deal_176 : decode cX6_deal 176 = .ok (.aload_n 0, 1) := by decide +kernel
theorem dX6_deal_177 : decode cX6_deal 177 = .ok (.getfield 44, 3) := by decide +kernel
theorem dX6_deal_180 : decode cX6_deal 180 = .ok (.iload 9, 2) := by decide +kernel
theorem dX6_deal_182 : decode cX6_deal 182 = .ok (.aload_n 0, 1) := by decide +kernel
theorem dX6_deal_183 : decode cX6_deal 183 = .ok (.iload_n 2, 1) := by decide +kernel
theorem dX6_deal_184 : decode cX6_deal 184 = .ok (.aload_n 0, 1) := by decide +kernel
theorem dX6_deal_185 : decode cX6_deal 185 = .ok (.getfield 64, 3) := by decide +kernel
theorem dX6_deal_188 : decode cX6_deal 188 = .ok (.iload 6, 2) := by decide +kernel
theorem dX6_deal_190 : decode cX6_deal 190 = .ok (.iadd, 1) := by decide +kernel
theorem dX6_deal_191 : decode cX6_deal 191 = .ok (.invokevirtual 82, 3) := by decide +kernel
theorem dX6_deal_194 : decode cX6_deal 194 = .ok (.iastore, 1) := by decide +kernel
theorem dX6_deal_195 : decode cX6_deal 195 = .ok (.aload_n 0, 1) := by decide +kernel
theorem dX6_deal_196 : decode cX6_deal 196 = .ok (.dup, 1) := by decide +kernel
theorem dX6_deal_197 : decode cX6_deal 197 = .ok (.getfield 61, 3) := by decide +kernel
theorem dX6_deal_200 : decode cX6_deal 200 = .ok (.iconst 1, 1) := by decide +kernel
theorem dX6_deal_201 : decode cX6_deal 201 = .ok (.iadd, 1) := by decide +kernel
theorem dX6_deal_202 : decode cX6_deal 202 = .ok (.putfield 61, 3) := by decide +kernel
theorem dX6_deal_205 : decode cX6_deal 205 = .ok (.aload_n 0, 1) := by decide +kernel
theorem dX6_deal_206 : decode cX6_deal 206 = .ok (.iload_n 1, 1) := by decide +kernel
theorem dX6_deal_207 : decode cX6_deal 207 = .ok (.invokevirtual 105, 3) := by decide +kernel
theorem dX6_deal_210 : decode cX6_deal 210 = .ok (.aload_n 0, 1) := by decide +kernel
theorem dX6_deal_211 : decode cX6_deal 211 = .ok (.getfield 18, 3) := by decide +kernel
theorem dX6_deal_214 : decode cX6_deal 214 = .ok (.iload_n 1, 1) := by decide +kernel
theorem dX6_deal_215 : decode cX6_deal 215 = .ok (.laload, 1) := by decide +kernel
theorem dX6_deal_216 : decode cX6_deal 216 = .ok (.lcmp, 1) := by decide +kernel
theorem dX6_deal_217 : decode cX6_deal 217 = .ok (.ifCond .le 20, 3) := by decide +kernel
theorem dX6_deal_220 : decode cX6_deal 220 = .ok (.aload_n 0, 1) := by decide +kernel
theorem dX6_deal_221 : decode cX6_deal 221 = .ok (.dup, 1) := by decide +kernel
theorem dX6_deal_222 : decode cX6_deal 222 = .ok (.getfield 61, 3) := by decide +kernel
theorem dX6_deal_225 : decode cX6_deal 225 = .ok (.iconst 1, 1) := by decide +kernel
theorem dX6_deal_226 : decode cX6_deal 226 = .ok (.isub, 1) := by decide +kernel
theorem dX6_deal_227 : decode cX6_deal 227 = .ok (.putfield 61, 3) := by decide +kernel
theorem dX6_deal_230 : decode cX6_deal 230 = .ok (.aload_n 0, 1) := by decide +kernel
theorem dX6_deal_231 : decode cX6_deal 231 = .ok (.iconst 3, 1) := by decide +kernel
theorem dX6_deal_232 : decode cX6_deal 232 = .ok (.putfield 53, 3) := by decide +kernel
theorem dX6_deal_235 : decode cX6_deal 235 = .ok (.iconst 0, 1) := by decide +kernel
theorem dX6_deal_236 : decode cX6_deal 236 = .ok (.ireturn, 1) := by decide +kernel
theorem dX6_deal_237 : decode cX6_deal 237 = .ok (.iload 9, 2) := by decide +kernel
theorem dX6_deal_239 : decode cX6_deal 239 = .ok (.ireturn, 1) := by decide +kernel
set_option maxRecDepth 20000 in
theorem ggX6_draw_X6_isDeal : GoodIn wsX6_draw wsX6_isDeal := goodIn_r _ [14, 15, 16, 17, 13, 18, 40, 41, 42, 43, 44, 45, 46, 47, 48, 49, 50, 51, 52, 53, 54, 55] (by decide +kernel) (by decide +kernel)
set_option maxRecDepth 20000 in
theorem gX6_draw_X6_isDeal : GoodIn wsX6_draw (wsV RX6 109 RX6 yX6_isDeal wsX6_isDeal) := goodIn_app (goodIn_of _ (by decide +kernel)) ggX6_draw_X6_isDeal
set_option maxRecDepth 20000 in
theorem ggX6_draw_X6_in : GoodIn wsX6_draw wsX6_in := goodIn_r _ [18] (by decide +kernel) (by decide +kernel)
set_option maxRecDepth 20000 in
theorem gX6_draw_X6_in : GoodIn wsX6_draw (va_wsS RX6 57 yX6_in wsX6_in) := goodIn_app (goodIn_of _ (by decide +kernel)) ggX6_draw_X6_in
set_option maxRecDepth 20000 in
theorem ggX6_draw_X6_atLeastOne : GoodIn wsX6_draw wsX6_atLeastOne := goodIn_r _ [21] (by decide +kernel) (by decide +kernel)
set_option maxRecDepth 20000 in
theorem gX6_draw_X6_atLeastOne : GoodIn wsX6_draw (va_wsS RX6 67 yX6_atLeastOne wsX6_atLeastOne) := goodIn_app (goodIn_of _ (by decide +kernel)) ggX6_draw_X6_atLeastOne
set_option maxRecDepth 20000 in
theorem ggX6_draw_X6_home : GoodIn wsX6_draw wsX6_home := goodIn_r _ [24, 25] (by decide +kernel) (by decide +kernel)
set_option maxRecDepth 20000 in
theorem gX6_draw_X6_home : GoodIn wsX6_draw (va_wsS RX6 86 yX6_home wsX6_home) := goodIn_app (goodIn_of _ (by decide +kernel)) ggX6_draw_X6_home
set_option maxRecDepth 20000 in
theorem ggX6_draw_X6_owes : GoodIn wsX6_draw wsX6_owes := goodIn_r _ [29, 30, 31, 32, 33, 13, 34, 4, 35, 36, 37, 38, 39, 40, 41, 42, 43, 44, 45, 46, 47, 48, 49, 50, 51, 52, 53, 54, 55] (by decide +kernel) (by decide +kernel)
set_option maxRecDepth 20000 in
theorem gX6_draw_X6_owes : GoodIn wsX6_draw (wsV RX6 112 RX6 yX6_owes wsX6_owes) := goodIn_app (goodIn_of _ (by decide +kernel)) ggX6_draw_X6_owes
theorem dX6_draw_0 : decode cX6_draw 0 = .ok (.aload_n 0, 1) := by decide +kernel
theorem dX6_draw_1 : decode cX6_draw 1 = .ok (.aload_n 0, 1) := by decide +kernel
theorem dX6_draw_2 : decode cX6_draw 2 = .ok (.iload_n 1, 1) := by decide +kernel
theorem dX6_draw_3 : decode cX6_draw 3 = .ok (.invokevirtual 109, 3) := by decide +kernel
theorem dX6_draw_6 : decode cX6_draw 6 = .ok (.ifCond .ne 7, 3) := by decide +kernel
theorem dX6_draw_9 : decode cX6_draw 9 = .ok (.iconst 1, 1) := by decide +kernel
theorem dX6_draw_10 : decode cX6_draw 10 = .ok (.goto 22, 3) := by decide +kernel
theorem dX6_draw_13 : decode cX6_draw 13 = .ok (.iload_n 2, 1) := by decide +kernel
theorem dX6_draw_14 : decode cX6_draw 14 = .ok (.iconst 1, 1) := by decide +kernel
theorem dX6_draw_15 : decode cX6_draw 15 = .ok (.aload_n 0, 1) := by decide +kernel
theorem dX6_draw_16 : decode cX6_draw 16 = .ok (.getfield 35, 3) := by decide +kernel
theorem dX6_draw_19 : decode cX6_draw 19 = .ok (.iload_n 1, 1) := by decide +kernel
theorem dX6_draw_20 : decode cX6_draw 20 = .ok (.iaload, 1) := by decide +kernel
theorem dX6_draw_21 : decode cX6_draw 21 = .ok (.invokestatic 57, 3) := by decide +kernel
theorem dX6_draw_24 : decode cX6_draw 24 = .ok (.ifCond .eq 7, 3) := by decide +kernel
theorem dX6_draw_27 : decode cX6_draw 27 = .ok (.iconst 0, 1) := by decide +kernel
theorem dX6_draw_28 : decode cX6_draw 28 = .ok (.goto 4, 3) := by decide +kernel
theorem dX6_draw_31 : decode cX6_draw 31 = .ok (.iconst 2, 1) := by decide +kernel
theorem dX6_draw_32 : decode cX6_draw 32 = .ok (.putfield 53, 3) := by decide +kernel
theorem dX6_draw_35 : decode cX6_draw 35 = .ok (.aload_n 0, 1) := by decide +kernel
theorem dX6_draw_36 : decode cX6_draw 36 = .ok (.getfield 53, 3) := by decide +kernel
theorem dX6_draw_39 : decode cX6_draw 39 = .ok (.ifCond .le 5, 3) := by decide +kernel
theorem dX6_draw_42 : decode cX6_draw 42 = .ok (.iconst 0, 1) := by decide +kernel
theorem dX6_draw_43 : decode cX6_draw 43 = .ok (.ireturn, 1) := by decide +kernel
theorem dX6_draw_44 : decode cX6_draw 44 = .ok (.aload_n 0, 1) := by decide +kernel
theorem dX6_draw_45 : decode cX6_draw 45 = .ok (.getfield 38, 3) := by decide +kernel
theorem dX6_draw_48 : decode cX6_draw 48 = .ok (.iload_n 1, 1) := by decide +kernel
theorem dX6_draw_49 : decode cX6_draw 49 = .ok (.iaload, 1) := by decide +kernel
theorem dX6_draw_50 : decode cX6_draw 50 = .ok (.aload_n 0, 1) := by decide +kernel
theorem dX6_draw_51 : decode cX6_draw 51 = .ok (.getfield 64, 3) := by decide +kernel
theorem dX6_draw_54 : decode cX6_draw 54 = .ok (.if_icmp .le 29, 3) := by decide +kernel
theorem dX6_draw_57 : decode cX6_draw 57 = .ok (.aload_n 0, 1) := by decide +kernel
theorem dX6_draw_58 : decode cX6_draw 58 = .ok (.getfield 13, 3) := by decide +kernel
theorem dX6_draw_61 : decode cX6_draw 61 = .ok (.aload_n 0, 1) := by decide +kernel
theorem dX6_draw_62 : decode cX6_draw 62 = .ok (.getfield 29, 3) := by decide +kernel
theorem dX6_draw_65 : decode cX6_draw 65 = .ok (.iload_n 1, 1) := by decide +kernel
theorem dX6_draw_66 : decode cX6_draw 66 = .ok (.iaload, 1) := by decide +kernel
theorem dX6_draw_67 : decode cX6_draw 67 = .ok (.iaload, 1) := by decide +kernel
theorem dX6_draw_68 : decode cX6_draw 68 = .ok (.aload_n 0, 1) := by decide +kernel
theorem dX6_draw_69 : decode cX6_draw 69 = .ok (.getfield 38, 3) := by decide +kernel
theorem dX6_draw_72 : decode cX6_draw 72 = .ok (.iload_n 1, 1) := by decide +kernel
theorem dX6_draw_73 : decode cX6_draw 73 = .ok (.iaload, 1) := by decide +kernel
theorem dX6_draw_74 : decode cX6_draw 74 = .ok (.aload_n 0, 1) := by decide +kernel
theorem dX6_draw_75 : decode cX6_draw 75 = .ok (.getfield 64, 3) := by decide +kernel
theorem dX6_draw_78 : decode cX6_draw 78 = .ok (.isub, 1) := by decide +kernel
theorem dX6_draw_79 : decode cX6_draw 79 = .ok (.imul, 1) := by decide +kernel
theorem dX6_draw_80 : decode cX6_draw 80 = .ok (.goto 4, 3) := by decide +kernel
theorem dX6_draw_83 : decode cX6_draw 83 = .ok (.iconst 0, 1) := by decide +kernel
theorem dX6_draw_84 : decode cX6_draw 84 = .ok (.istore_n 3, 1) := by decide +kernel
theorem dX6_draw_85 : decode cX6_draw 85 = .ok (.aload_n 0, 1) := by decide +kernel
theorem dX6_draw_86 : decode cX6_draw 86 = .ok (.getfield 38, 3) := by decide +kernel
theorem dX6_draw_89 : decode cX6_draw 89 = .ok (.iload_n 1, 1) := by decide +kernel
theorem dX6_draw_90 : decode cX6_draw 90 = .ok (.iaload, 1) := by decide +kernel
theorem dX6_draw_91 : decode cX6_draw 91 = .ok (.aload_n 0, 1) := by decide +kernel
theorem dX6_draw_92 : decode cX6_draw 92 = .ok (.getfield 64, 3) := by decide +kernel
theorem dX6_draw_95 : decode cX6_draw 95 = .ok (.if_icmp .le 17, 3) := by decide +kernel
theorem dX6_draw_98 : decode cX6_draw 98 = .ok (.aload_n 0, 1) := by decide +kernel
theorem dX6_draw_99 : decode cX6_draw 99 = .ok (.getfield 44, 3) := by decide +kernel
theorem dX6_draw_102 : decode cX6_draw 102 = .ok (.iload_n 1, 1) := by decide +kernel
theorem dX6_draw_103 : decode cX6_draw 103 = .ok (.iaload, 1) := by decide +kernel
theorem dX6_draw_104 : decode cX6_draw 104 = .ok (.iload_n 3, 1) := by decide +kernel
theorem dX6_draw_105 : decode cX6_draw 105 = .ok (.isub, 1) := by decide +kernel
theorem dX6_draw_106 : decode cX6_draw 106 = .ok (.invokestatic 67, 3) := by decide +kernel
theorem dX6_draw_109 : decode cX6_draw 109 = .ok (.goto 9, 3) := by decide +kernel
theorem dX6_draw_112 : decode cX6_draw 112 = .ok (.aload_n 0, 1) := by decide +kernel
theorem dX6_draw_113 : decode cX6_draw 113 = .ok (.getfield 44, 3) := by decide +kernel
theorem dX6_draw_116 : decode cX6_draw 116 = .ok (.iload_n 1, 1) := by decide +kernel
theorem dX6_draw_117 : decode cX6_draw 117 = .ok (.iaload, 1) := by decide +kernel
theorem dX6_draw_118 : decode cX6_draw 118 = .ok (.istore 4, 2) := by decide +kernel
theorem dX6_draw_120 : decode cX6_draw 120 = .ok (.aload_n 0, 1) := by decide +kernel
theorem dX6_draw_121 : decode cX6_draw 121 = .ok (.getfield 35, 3) := by decide +kernel
theorem dX6_draw_124 : decode cX6_draw 124 = .ok (.iload_n 1, 1) := by decide +kernel
theorem dX6_draw_125 : decode cX6_draw 125 = .ok (.dup2, 1) := by decide +kernel
theorem dX6_draw_126 : decode cX6_draw 126 = .ok (.iaload, 1) := by decide +kernel
theorem dX6_draw_127 : decode cX6_draw 127 = .ok (.iload_n 2, 1) := by decide +kernel
theorem dX6_draw_128 : decode cX6_draw 128 = .ok (.isub, 1) := by decide +kernel
theorem dX6_draw_129 : decode cX6_draw 129 = .ok (.iastore, 1) := by decide +kernel
theorem dX6_draw_130 : decode cX6_draw 130 = .ok (.iload_n 2, 1) := by decide +kernel
theorem dX6_draw_131 : decode cX6_draw 131 = .ok (.iload 4, 2) := by decide +kernel
theorem dX6_draw_133 : decode cX6_draw 133 = .ok (.invokestatic 86, 3) := by decide +kernel
theorem dX6_draw_136 : decode cX6_draw 136 = .ok (.lstore 5, 2) := by decide +kernel
theorem dX6_draw_138 : decode cX6_draw 138 = .ok (.aload_n 0, 1) := by decide +kernel
theorem dX6_draw_139 : decode cX6_draw 139 = .ok (.aload_n 0, 1) := by decide +kernel
theorem dX6_draw_140 : decode cX6_draw 140 = .ok (.getfield 26, 3) := by decide +kernel
theorem dX6_draw_143 : decode cX6_draw 143 = .ok (.iload_n 1, 1) := by decide +kernel
theorem dX6_draw_144 : decode cX6_draw 144 = .ok (.iaload, 1) := by decide +kernel
theorem dX6_draw_145 : decode cX6_draw 145 = .ok (.aload_n 0, 1) := by decide +kernel
theorem dX6_draw_146 : decode cX6_draw 146 = .ok (.getfield 29, 3) := by decide +kernel
theorem dX6_draw_149 : decode cX6_draw 149 = .ok (.iload_n 1, 1) := by decide +kernel
theorem dX6_draw_150 : decode cX6_draw 150 = .ok (.iaload, 1) := by decide +kernel
theorem dX6_draw_151 : decode cX6_draw 151 = .ok (.aload_n 0, 1) := by decide +kernel
theorem dX6_draw_152 : decode cX6_draw 152 = .ok (.getfield 32, 3) := by decide +kernel
theorem dX6_draw_155 : decode cX6_draw 155 = .ok (.iload_n 1, 1) := by decide +kernel
theorem dX6_draw_156 : decode cX6_draw 156 = .ok (.baload, 1) := by decide +kernel
theorem dX6_draw_157 : decode cX6_draw 157 = .ok (.ifCond .eq 8, 3) := by decide +kernel
theorem dX6_draw_160 : decode cX6_draw 160 = .ok (.iload_n 2, 1) := by decide +kernel
theorem dX6_draw_161 : decode cX6_draw 161 = .ok (.i2l, 1) := by decide +kernel
theorem dX6_draw_162 : decode cX6_draw 162 = .ok (.goto 6, 3) := by decide +kernel
theorem dX6_draw_165 : decode cX6_draw 165 = .ok (.iload_n 2, 1) := by decide +kernel
theorem dX6_draw_166 : decode cX6_draw 166 = .ok (.ineg, 1) := by decide +kernel
theorem dX6_draw_167 : decode cX6_draw 167 = .ok (.i2l, 1) := by decide +kernel
theorem dX6_draw_168 : decode cX6_draw 168 = .ok (.invokevirtual 112, 3) := by decide +kernel
theorem dX6_draw_171 : decode cX6_draw 171 = .ok (.aload_n 0, 1) := by decide +kernel
theorem dX6_draw_172 : decode cX6_draw 172 = .ok (.aload_n 0, 1) := by decide +kernel
theorem dX6_draw_173 : decode cX6_draw 173 = .ok (.getfield 26, 3) := by decide +kernel
theorem dX6_draw_176 : decode cX6_draw 176 = .ok (.iload_n 1, 1) := by decide +kernel
theorem dX6_draw_177 : decode cX6_draw 177 = .ok (.iaload, 1) := by decide +kernel
theorem dX6_draw_178 : decode cX6_draw 178 = .ok (.iconst 4, 1) := by decide +kernel
theorem dX6_draw_179 : decode cX6_draw 179 = .ok (.aload_n 0, 1) := by decide +kernel
theorem dX6_draw_180 : decode cX6_draw 180 = .ok (.getfield 32, 3) := by decide +kernel
theorem dX6_draw_183 : decode cX6_draw 183 = .ok (.iload_n 1, 1) := by decide +kernel
theorem dX6_draw_184 : decode cX6_draw 184 = .ok (.baload, 1) := by decide +kernel
theorem dX6_draw_185 : decode cX6_draw 185 = .ok (.ifCond .eq 9, 3) := by decide +kernel
theorem dX6_draw_188 : decode cX6_draw 188 = .ok (.lload 5, 2) := by decide +kernel
theorem dX6_draw_190 : decode cX6_draw 190 = .ok (.lneg, 1) := by decide +kernel
theorem dX6_draw_191 : decode cX6_draw 191 = .ok (.goto 5, 3) := by decide +kernel
theorem dX6_draw_194 : decode cX6_draw 194 = .ok (.lload 5, 2) := by decide +kernel
theorem dX6_draw_196 : decode cX6_draw 196 = .ok (.invokevirtual 112, 3) := by decide +kernel
theorem dX6_draw_199 : decode cX6_draw 199 = .ok (.iload 4, 2) := by decide +kernel
theorem dX6_draw_201 : decode cX6_draw 201 = .ok (.ireturn, 1) := by decide +kernel
set_option maxRecDepth 20000 in
theorem ggX6_roll_X6_isDeal : GoodIn wsX6_roll wsX6_isDeal := goodIn_r _ [14, 15, 16, 17, 13, 18, 54, 55, 56, 57, 58, 59, 60, 61, 62, 63, 64, 65, 66, 67, 68, 69] (by decide +kernel) (by decide +kernel)
set_option maxRecDepth 20000 in
theorem gX6_roll_X6_isDeal : GoodIn wsX6_roll (wsV RX6 109 RX6 yX6_isDeal wsX6_isDeal) := goodIn_app (goodIn_of _ (by decide +kernel)) ggX6_roll_X6_isDeal
set_option maxRecDepth 20000 in
theorem ggX6_roll_X6_in : GoodIn wsX6_roll wsX6_in := goodIn_r _ [18] (by decide +kernel) (by decide +kernel)
set_option maxRecDepth 20000 in
theorem gX6_roll_X6_in : GoodIn wsX6_roll (va_wsS RX6 57 yX6_in wsX6_in) := goodIn_app (goodIn_of _ (by decide +kernel)) ggX6_roll_X6_in
set_option maxRecDepth 20000 in
theorem ggX6_roll_X6_gainNow : GoodIn wsX6_roll wsX6_gainNow := goodIn_r _ [22, 1, 7, 2, 23, 24, 25, 13, 26, 27, 8, 3, 28, 29, 30, 31, 32, 33, 34, 6, 35, 36, 37, 38, 39, 54, 55, 56, 57, 58, 59, 60, 61, 62, 63, 64, 65, 66, 67, 68, 69] (by decide +kernel) (by decide +kernel)
set_option maxRecDepth 20000 in
theorem gX6_roll_X6_gainNow : GoodIn wsX6_roll (wsV RX6 116 RX6 yX6_gainNow wsX6_gainNow) := goodIn_app (goodIn_of _ (by decide +kernel)) ggX6_roll_X6_gainNow
set_option maxRecDepth 20000 in
theorem ggX6_roll_X6_owes : GoodIn wsX6_roll wsX6_owes := goodIn_r _ [43, 44, 45, 46, 47, 13, 48, 3, 49, 50, 51, 52, 53, 54, 55, 56, 57, 58, 59, 60, 61, 62, 63, 64, 65, 66, 67, 68, 69] (by decide +kernel) (by decide +kernel)
set_option maxRecDepth 20000 in
theorem gX6_roll_X6_owes : GoodIn wsX6_roll (wsV RX6 112 RX6 yX6_owes wsX6_owes) := goodIn_app (goodIn_of _ (by decide +kernel)) ggX6_roll_X6_owes
set_option maxRecDepth 20000 in
theorem ggX6_roll_X6_forwardFor : GoodIn wsX6_roll wsX6_forwardFor := goodIn_r _ [26, 27, 8, 3, 28, 29, 13, 30, 54, 55, 56, 57, 58, 59, 60, 61, 62, 63, 64, 65, 66, 67, 68, 69] (by decide +kernel) (by decide +kernel)
set_option maxRecDepth 20000 in
theorem gX6_roll_X6_forwardFor : GoodIn wsX6_roll (wsV RX6 82 RX6 yX6_forwardFor wsX6_forwardFor) := goodIn_app (goodIn_of _ (by decide +kernel)) ggX6_roll_X6_forwardFor
set_option maxRecDepth 20000 in
theorem ggX6_roll_X6_atLeastOne : GoodIn wsX6_roll wsX6_atLeastOne := goodIn_r _ [30] (by decide +kernel) (by decide +kernel)
set_option maxRecDepth 20000 in
theorem gX6_roll_X6_atLeastOne : GoodIn wsX6_roll (va_wsS RX6 67 yX6_atLeastOne wsX6_atLeastOne) := goodIn_app (goodIn_of _ (by decide +kernel)) ggX6_roll_X6_atLeastOne
theorem dX6_roll_0 : decode cX6_roll 0 = .ok (.aload_n 0, 1) := by decide +kernel
theorem dX6_roll_1 : decode cX6_roll 1 = .ok (.aload_n 0, 1) := by decide +kernel
theorem dX6_roll_2 : decode cX6_roll 2 = .ok (.iload_n 1, 1) := by decide +kernel
theorem dX6_roll_3 : decode cX6_roll 3 = .ok (.invokevirtual 109, 3) := by decide +kernel
theorem dX6_roll_6 : decode cX6_roll 6 = .ok (.ifCond .ne 7, 3) := by decide +kernel
theorem dX6_roll_9 : decode cX6_roll 9 = .ok (.iconst 1, 1) := by decide +kernel
theorem dX6_roll_10 : decode cX6_roll 10 = .ok (.goto 50, 3) := by decide +kernel
theorem dX6_roll_13 : decode cX6_roll 13 = .ok (.iload_n 2, 1) := by decide +kernel
theorem dX6_roll_14 : decode cX6_roll 14 = .ok (.iconst 1, 1) := by decide +kernel
theorem dX6_roll_15 : decode cX6_roll 15 = .ok (.bipush 100, 2) := by decide +kernel
theorem dX6_roll_17 : decode cX6_roll 17 = .ok (.invokestatic 57, 3) := by decide +kernel
theorem dX6_roll_20 : decode cX6_roll 20 = .ok (.ifCond .ne 7, 3) := by decide +kernel
theorem dX6_roll_23 : decode cX6_roll 23 = .ok (.iconst 2, 1) := by decide +kernel
theorem dX6_roll_24 : decode cX6_roll 24 = .ok (.goto 36, 3) := by decide +kernel
theorem dX6_roll_27 : decode cX6_roll 27 = .ok (.aload_n 0, 1) := by decide +kernel
theorem dX6_roll_28 : decode cX6_roll 28 = .ok (.getfield 35, 3) := by decide +kernel
theorem dX6_roll_31 : decode cX6_roll 31 = .ok (.iload_n 1, 1) := by decide +kernel
theorem dX6_roll_32 : decode cX6_roll 32 = .ok (.iaload, 1) := by decide +kernel
theorem dX6_roll_33 : decode cX6_roll 33 = .ok (.ifCond .eq 22, 3) := by decide +kernel
theorem dX6_roll_36 : decode cX6_roll 36 = .ok (.aload_n 0, 1) := by decide +kernel
theorem dX6_roll_37 : decode cX6_roll 37 = .ok (.getfield 41, 3) := by decide +kernel
theorem dX6_roll_40 : decode cX6_roll 40 = .ok (.iload_n 1, 1) := by decide +kernel
theorem dX6_roll_41 : decode cX6_roll 41 = .ok (.iaload, 1) := by decide +kernel
theorem dX6_roll_42 : decode cX6_roll 42 = .ok (.iload_n 2, 1) := by decide +kernel
theorem dX6_roll_43 : decode cX6_roll 43 = .ok (.iadd, 1) := by decide +kernel
theorem dX6_roll_44 : decode cX6_roll 44 = .ok (.aload_n 0, 1) := by decide +kernel
theorem dX6_roll_45 : decode cX6_roll 45 = .ok (.getfield 64, 3) := by decide +kernel
theorem dX6_roll_48 : decode cX6_roll 48 = .ok (.sipush 400, 3) := by decide +kernel
theorem dX6_roll_51 : decode cX6_roll 51 = .ok (.iadd, 1) := by decide +kernel
theorem dX6_roll_52 : decode cX6_roll 52 = .ok (.if_icmp .le 7, 3) := by decide +kernel
theorem dX6_roll_55 : decode cX6_roll 55 = .ok (.iconst 3, 1) := by decide +kernel
theorem dX6_roll_56 : decode cX6_roll 56 = .ok (.goto 4, 3) := by decide +kernel
theorem dX6_roll_59 : decode cX6_roll 59 = .ok (.iconst 0, 1) := by decide +kernel
theorem dX6_roll_60 : decode cX6_roll 60 = .ok (.putfield 53, 3) := by decide +kernel
theorem dX6_roll_63 : decode cX6_roll 63 = .ok (.aload_n 0, 1) := by decide +kernel
theorem dX6_roll_64 : decode cX6_roll 64 = .ok (.getfield 53, 3) := by decide +kernel
theorem dX6_roll_67 : decode cX6_roll 67 = .ok (.ifCond .le 5, 3) := by decide +kernel
theorem dX6_roll_70 : decode cX6_roll 70 = .ok (.iconst 0, 1) := by decide +kernel
theorem dX6_roll_71 : decode cX6_roll 71 = .ok (.ireturn, 1) := by decide +kernel
theorem dX6_roll_72 : decode cX6_roll 72 = .ok (.aload_n 0, 1) := by decide +kernel
theorem dX6_roll_73 : decode cX6_roll 73 = .ok (.getfield 41, 3) := by decide +kernel
theorem dX6_roll_76 : decode cX6_roll 76 = .ok (.iload_n 1, 1) := by decide +kernel
theorem dX6_roll_77 : decode cX6_roll 77 = .ok (.iaload, 1) := by decide +kernel
theorem dX6_roll_78 : decode cX6_roll 78 = .ok (.iload_n 2, 1) := by decide +kernel
theorem dX6_roll_79 : decode cX6_roll 79 = .ok (.iadd, 1) := by decide +kernel
theorem dX6_roll_80 : decode cX6_roll 80 = .ok (.istore 4, 2) := by decide +kernel
theorem dX6_roll_82 : decode cX6_roll 82 = .ok (.iload_n 3, 1) := by decide +kernel
theorem dX6_roll_83 : decode cX6_roll 83 = .ok (.ifCond .eq 40, 3) := by decide +kernel
theorem dX6_roll_86 : decode cX6_roll 86 = .ok (.aload_n 0, 1) := by decide +kernel
theorem dX6_roll_87 : decode cX6_roll 87 = .ok (.aload_n 0, 1) := by decide +kernel
theorem dX6_roll_88 : decode cX6_roll 88 = .ok (.getfield 26, 3) := by decide +kernel
theorem dX6_roll_91 : decode cX6_roll 91 = .ok (.iload_n 1, 1) := by decide +kernel
theorem dX6_roll_92 : decode cX6_roll 92 = .ok (.iaload, 1) := by decide +kernel
theorem dX6_roll_93 : decode cX6_roll 93 = .ok (.iconst 4, 1) := by decide +kernel
theorem dX6_roll_94 : decode cX6_roll 94 = .ok (.aload_n 0, 1) := by decide +kernel
theorem dX6_roll_95 : decode cX6_roll 95 = .ok (.iload_n 1, 1) := by decide +kernel
theorem dX6_roll_96 : decode cX6_roll 96 = .ok (.invokevirtual 116, 3) := by decide +kernel
theorem dX6_roll_99 : decode cX6_roll 99 = .ok (.invokevirtual 112, 3) := by decide +kernel
theorem dX6_roll_102 : decode cX6_roll 102 = .ok (.aload_n 0, 1) := by decide +kernel
theorem dX6_roll_103 : decode cX6_roll 103 = .ok (.getfield 44, 3) := by decide +kernel
theorem dX6_roll_106 : decode cX6_roll 106 = .ok (.iload_n 1, 1) := by decide +kernel
theorem dX6_roll_107 : decode cX6_roll 107 = .ok (.aload_n 0, 1) := by decide +kernel
theorem dX6_roll_108 : decode cX6_roll 108 = .ok (.aload_n 0, 1) := by decide +kernel
theorem dX6_roll_109 : decode cX6_roll 109 = .ok (.getfield 29, 3) := by decide +kernel
theorem dX6_roll_112 : decode cX6_roll 112 = .ok (.iload_n 1, 1) := by decide +kernel
theorem dX6_roll_113 : decode cX6_roll 113 = .ok (.iaload, 1) := by decide +kernel
theorem dX6_roll_114 : decode cX6_roll 114 = .ok (.iload 4, 2) := by decide +kernel
theorem dX6_roll_116 : decode cX6_roll 116 = .ok (.invokevirtual 82, 3) := by decide +kernel
theorem dX6_roll_119 : decode cX6_roll 119 = .ok (.iastore, 1) := by decide +kernel
theorem dX6_roll_120 : decode cX6_roll 120 = .ok (.goto 32, 3) := by decide +kernel
theorem dX6_roll_123 : decode cX6_roll 123 = .ok (.aload_n 0, 1) := by decide +kernel
theorem dX6_roll_124 : decode cX6_roll 124 = .ok (.getfield 44, 3) := by decide +kernel
theorem dX6_roll_127 : decode cX6_roll 127 = .ok (.iload_n 1, 1) := by decide +kernel
theorem dX6_roll_128 : decode cX6_roll 128 = .ok (.aload_n 0, 1) := by decide +kernel
theorem dX6_roll_129 : decode cX6_roll 129 = .ok (.getfield 44, 3) := by decide +kernel
theorem dX6_roll_132 : decode cX6_roll 132 = .ok (.iload_n 1, 1) := by decide +kernel
theorem dX6_roll_133 : decode cX6_roll 133 = .ok (.iaload, 1) := by decide +kernel
theorem dX6_roll_134 : decode cX6_roll 134 = .ok (.aload_n 0, 1) := by decide +kernel
theorem dX6_roll_135 : decode cX6_roll 135 = .ok (.getfield 13, 3) := by decide +kernel
theorem dX6_roll_138 : decode cX6_roll 138 = .ok (.aload_n 0, 1) := by decide +kernel
theorem dX6_roll_139 : decode cX6_roll 139 = .ok (.getfield 29, 3) := by decide +kernel
theorem dX6_roll_142 : decode cX6_roll 142 = .ok (.iload_n 1, 1) := by decide +kernel
theorem dX6_roll_143 : decode cX6_roll 143 = .ok (.iaload, 1) := by decide +kernel
theorem dX6_roll_144 : decode cX6_roll 144 = .ok (.iaload, 1) := by decide +kernel
theorem dX6_roll_145 : decode cX6_roll 145 = .ok (.iload_n 2, 1) := by decide +kernel
theorem dX6_roll_146 : decode cX6_roll 146 = .ok (.imul, 1) := by decide +kernel
theorem dX6_roll_147 : decode cX6_roll 147 = .ok (.iadd, 1) := by decide +kernel
theorem dX6_roll_148 : decode cX6_roll 148 = .ok (.invokestatic 67, 3) := by decide +kernel
theorem dX6_roll_151 : decode cX6_roll 151 = .ok (.iastore, 1) := by decide +kernel
theorem dX6_roll_152 : decode cX6_roll 152 = .ok (.aload_n 0, 1) := by decide +kernel
theorem dX6_roll_153 : decode cX6_roll 153 = .ok (.getfield 38, 3) := by decide +kernel
theorem dX6_roll_156 : decode cX6_roll 156 = .ok (.iload_n 1, 1) := by decide +kernel
theorem dX6_roll_157 : decode cX6_roll 157 = .ok (.aload_n 0, 1) := by decide +kernel
theorem dX6_roll_158 : decode cX6_roll 158 = .ok (.getfield 41, 3) := by decide +kernel
theorem dX6_roll_161 : decode cX6_roll 161 = .ok (.iload_n 1, 1) := by decide +kernel
theorem dX6_roll_162 : decode cX6_roll 162 = .ok (.iaload, 1) := by decide +kernel
theorem dX6_roll_163 : decode cX6_roll 163 = .ok (.iastore, 1) := by decide +kernel
theorem dX6_roll_164 : decode cX6_roll 164 = .ok (.aload_n 0, 1) := by decide +kernel
theorem dX6_roll_165 : decode cX6_roll 165 = .ok (.getfield 41, 3) := by decide +kernel
theorem dX6_roll_168 : decode cX6_roll 168 = .ok (.iload_n 1, 1) := by decide +kernel
theorem dX6_roll_169 : decode cX6_roll 169 = .ok (.iload 4, 2) := by decide +kernel
theorem dX6_roll_171 : decode cX6_roll 171 = .ok (.iastore, 1) := by decide +kernel
theorem dX6_roll_172 : decode cX6_roll 172 = .ok (.aload_n 0, 1) := by decide +kernel
theorem dX6_roll_173 : decode cX6_roll 173 = .ok (.getfield 44, 3) := by decide +kernel
theorem dX6_roll_176 : decode cX6_roll 176 = .ok (.iload_n 1, 1) := by decide +kernel
theorem dX6_roll_177 : decode cX6_roll 177 = .ok (.iaload, 1) := by decide +kernel
theorem dX6_roll_178 : decode cX6_roll 178 = .ok (.ireturn, 1) := by decide +kernel
set_option maxRecDepth 20000 in
theorem ggX6_closes_X6_gainNow : GoodIn wsX6_closes wsX6_gainNow := goodIn_r _ [7, 2, 8, 9, 10, 11, 12, 6, 13, 14, 15, 16, 17, 18, 19, 20, 21, 22, 23, 24, 25, 26, 27, 28, 29, 44, 45, 46, 47, 48, 49, 50, 51, 52, 53, 54, 55, 56, 57, 58, 59] (by decide +kernel) (by decide +kernel)
set_option maxRecDepth 20000 in
theorem gX6_closes_X6_gainNow : GoodIn wsX6_closes (wsV RX6 116 RX6 yX6_gainNow wsX6_gainNow) := goodIn_app (goodIn_of _ (by decide +kernel)) ggX6_closes_X6_gainNow
set_option maxRecDepth 20000 in
theorem ggX6_closes_X6_owes : GoodIn wsX6_closes wsX6_owes := goodIn_r _ [33, 34, 35, 36, 37, 6, 38, 16, 39, 40, 41, 42, 43, 44, 45, 46, 47, 48, 49, 50, 51, 52, 53, 54, 55, 56, 57, 58, 59] (by decide +kernel) (by decide +kernel)
set_option maxRecDepth 20000 in
theorem gX6_closes_X6_owes : GoodIn wsX6_closes (wsV RX6 112 RX6 yX6_owes wsX6_owes) := goodIn_app (goodIn_of _ (by decide +kernel)) ggX6_closes_X6_owes
theorem dX6_closes_0 : decode cX6_closes 0 = .ok (.aload_n 0, 1) := by decide +kernel
theorem dX6_closes_1 : decode cX6_closes 1 = .ok (.iload_n 1, 1) := by decide +kernel
theorem dX6_closes_2 : decode cX6_closes 2 = .ok (.invokevirtual 116, 3) := by decide +kernel
theorem dX6_closes_5 : decode cX6_closes 5 = .ok (.lstore_n 2, 1) := by decide +kernel
theorem dX6_closes_6 : decode cX6_closes 6 = .ok (.aload_n 0, 1) := by decide +kernel
theorem dX6_closes_7 : decode cX6_closes 7 = .ok (.aload_n 0, 1) := by decide +kernel
theorem dX6_closes_8 : decode cX6_closes 8 = .ok (.getfield 26, 3) := by decide +kernel
theorem dX6_closes_11 : decode cX6_closes 11 = .ok (.iload_n 1, 1) := by decide +kernel
theorem dX6_closes_12 : decode cX6_closes 12 = .ok (.iaload, 1) := by decide +kernel
theorem dX6_closes_13 : decode cX6_closes 13 = .ok (.iconst 4, 1) := by decide +kernel
theorem dX6_closes_14 : decode cX6_closes 14 = .ok (.lload_n 2, 1) := by decide +kernel
theorem dX6_closes_15 : decode cX6_closes 15 = .ok (.invokevirtual 112, 3) := by decide +kernel
theorem dX6_closes_18 : decode cX6_closes 18 = .ok (.aload_n 0, 1) := by decide +kernel
theorem dX6_closes_19 : decode cX6_closes 19 = .ok (.getfield 35, 3) := by decide +kernel
theorem dX6_closes_22 : decode cX6_closes 22 = .ok (.iload_n 1, 1) := by decide +kernel
theorem dX6_closes_23 : decode cX6_closes 23 = .ok (.iconst 0, 1) := by decide +kernel
theorem dX6_closes_24 : decode cX6_closes 24 = .ok (.iastore, 1) := by decide +kernel
theorem dX6_closes_25 : decode cX6_closes 25 = .ok (.lload_n 2, 1) := by decide +kernel
theorem dX6_closes_26 : decode cX6_closes 26 = .ok (.lreturn, 1) := by decide +kernel
set_option maxRecDepth 20000 in
theorem ggX6_closeOut_X6_isDeal : GoodIn wsX6_closeOut wsX6_isDeal := goodIn_r _ [7, 8, 9, 10, 6, 11, 57, 58, 59, 60, 61, 62, 63, 64, 65, 66, 67, 68, 69, 70, 71, 72] (by decide +kernel) (by decide +kernel)
set_option maxRecDepth 20000 in
theorem gX6_closeOut_X6_isDeal : GoodIn wsX6_closeOut (wsV RX6 109 RX6 yX6_isDeal wsX6_isDeal) := goodIn_app (goodIn_of _ (by decide +kernel)) ggX6_closeOut_X6_isDeal
set_option maxRecDepth 20000 in
theorem ggX6_closeOut_X6_closes : GoodIn wsX6_closeOut wsX6_closes := goodIn_r _ [15, 16, 1, 17, 18, 19, 6, 20, 21, 22, 23, 24, 25, 26, 27, 28, 29, 30, 31, 32, 33, 34, 35, 36, 37, 38, 39, 40, 41, 42, 43, 44, 45, 46, 47, 48, 49, 50, 51, 52, 53, 54, 55, 56, 57, 58, 59, 60, 61, 62, 63, 64, 65, 66, 67, 68, 69, 70, 71, 72] (by decide +kernel) (by decide +kernel)
set_option maxRecDepth 20000 in
theorem gX6_closeOut_X6_closes : GoodIn wsX6_closeOut (wsV RX6 119 RX6 yX6_closes wsX6_closes) := goodIn_app (goodIn_of _ (by decide +kernel)) ggX6_closeOut_X6_closes
theorem dX6_closeOut_0 : decode cX6_closeOut 0 = .ok (.aload_n 0, 1) := by decide +kernel
theorem dX6_closeOut_1 : decode cX6_closeOut 1 = .ok (.aload_n 0, 1) := by decide +kernel
theorem dX6_closeOut_2 : decode cX6_closeOut 2 = .ok (.iload_n 1, 1) := by decide +kernel
theorem dX6_closeOut_3 : decode cX6_closeOut 3 = .ok (.invokevirtual 109, 3) := by decide +kernel
theorem dX6_closeOut_6 : decode cX6_closeOut 6 = .ok (.ifCond .ne 7, 3) := by decide +kernel
theorem dX6_closeOut_9 : decode cX6_closeOut 9 = .ok (.iconst 1, 1) := by decide +kernel
theorem dX6_closeOut_10 : decode cX6_closeOut 10 = .ok (.goto 17, 3) := by decide +kernel
theorem dX6_closeOut_13 : decode cX6_closeOut 13 = .ok (.aload_n 0, 1) := by decide +kernel
theorem dX6_closeOut_14 : decode cX6_closeOut 14 = .ok (.getfield 35, 3) := by decide +kernel
theorem dX6_closeOut_17 : decode cX6_closeOut 17 = .ok (.iload_n 1, 1) := by decide +kernel
theorem dX6_closeOut_18 : decode cX6_closeOut 18 = .ok (.iaload, 1) := by decide +kernel
theorem dX6_closeOut_19 : decode cX6_closeOut 19 = .ok (.ifCond .ne 7, 3) := by decide +kernel
theorem dX6_closeOut_22 : decode cX6_closeOut 22 = .ok (.iconst 2, 1) := by decide +kernel
theorem dX6_closeOut_23 : decode cX6_closeOut 23 = .ok (.goto 4, 3) := by decide +kernel
theorem dX6_closeOut_26 : decode cX6_closeOut 26 = .ok (.iconst 0, 1) := by decide +kernel
theorem dX6_closeOut_27 : decode cX6_closeOut 27 = .ok (.putfield 53, 3) := by decide +kernel
theorem dX6_closeOut_30 : decode cX6_closeOut 30 = .ok (.aload_n 0, 1) := by decide +kernel
theorem dX6_closeOut_31 : decode cX6_closeOut 31 = .ok (.getfield 53, 3) := by decide +kernel
theorem dX6_closeOut_34 : decode cX6_closeOut 34 = .ok (.ifCond .le 7, 3) := by decide +kernel
theorem dX6_closeOut_37 : decode cX6_closeOut 37 = .ok (.lconst 0, 1) := by decide +kernel
theorem dX6_closeOut_38 : decode cX6_closeOut 38 = .ok (.goto 8, 3) := by decide +kernel
theorem dX6_closeOut_41 : decode cX6_closeOut 41 = .ok (.aload_n 0, 1) := by decide +kernel
theorem dX6_closeOut_42 : decode cX6_closeOut 42 = .ok (.iload_n 1, 1) := by decide +kernel
theorem dX6_closeOut_43 : decode cX6_closeOut 43 = .ok (.invokevirtual 119, 3) := by decide +kernel
theorem dX6_closeOut_46 : decode cX6_closeOut 46 = .ok (.lreturn, 1) := by decide +kernel
set_option maxRecDepth 20000 in
theorem ggX6_asks_X6_isDeal : GoodIn wsX6_asks wsX6_isDeal := goodIn_r _ [6, 7, 8, 9, 5, 10, 11, 12, 13, 14, 15, 16, 17, 18, 19, 20, 21, 22, 23, 24, 25, 26] (by decide +kernel) (by decide +kernel)
set_option maxRecDepth 20000 in
theorem gX6_asks_X6_isDeal : GoodIn wsX6_asks (wsV RX6 109 RX6 yX6_isDeal wsX6_isDeal) := goodIn_app (goodIn_of _ (by decide +kernel)) ggX6_asks_X6_isDeal
theorem dX6_asks_0 : decode cX6_asks 0 = .ok (.aload_n 0, 1) := by decide +kernel
theorem dX6_asks_1 : decode cX6_asks 1 = .ok (.aload_n 0, 1) := by decide +kernel
theorem dX6_asks_2 : decode cX6_asks 2 = .ok (.iload_n 1, 1) := by decide +kernel
theorem dX6_asks_3 : decode cX6_asks 3 = .ok (.invokevirtual 109, 3) := by decide +kernel
theorem dX6_asks_6 : decode cX6_asks 6 = .ok (.ifCond .eq 7, 3) := by decide +kernel
theorem dX6_asks_9 : decode cX6_asks 9 = .ok (.iconst 0, 1) := by decide +kernel
theorem dX6_asks_10 : decode cX6_asks 10 = .ok (.goto 4, 3) := by decide +kernel
theorem dX6_asks_13 : decode cX6_asks 13 = .ok (.iconst 1, 1) := by decide +kernel
theorem dX6_asks_14 : decode cX6_asks 14 = .ok (.putfield 53, 3) := by decide +kernel
theorem dX6_asks_17 : decode cX6_asks 17 = .ok (.aload_n 0, 1) := by decide +kernel
theorem dX6_asks_18 : decode cX6_asks 18 = .ok (.getfield 53, 3) := by decide +kernel
theorem dX6_asks_21 : decode cX6_asks 21 = .ok (.ifCond .ne 7, 3) := by decide +kernel
theorem dX6_asks_24 : decode cX6_asks 24 = .ok (.iconst 1, 1) := by decide +kernel
theorem dX6_asks_25 : decode cX6_asks 25 = .ok (.goto 4, 3) := by decide +kernel
theorem dX6_asks_28 : decode cX6_asks 28 = .ok (.iconst 0, 1) := by decide +kernel
theorem dX6_asks_29 : decode cX6_asks 29 = .ok (.ireturn, 1) := by decide +kernel
set_option maxRecDepth 20000 in
theorem ggX6_left_X6_asks : GoodIn wsX6_left wsX6_asks := goodIn_r _ [6, 7, 8, 9, 10, 5, 11, 12, 13, 14, 15, 16, 17, 18, 19, 20, 21, 22, 23, 24, 25, 26, 27, 28, 29, 30, 31] (by decide +kernel) (by decide +kernel)
set_option maxRecDepth 20000 in
theorem gX6_left_X6_asks : GoodIn wsX6_left (wsV RX6 122 RX6 yX6_asks wsX6_asks) := goodIn_app (goodIn_of _ (by decide +kernel)) ggX6_left_X6_asks
theorem dX6_left_0 : decode cX6_left 0 = .ok (.aload_n 0, 1) := by decide +kernel
theorem dX6_left_1 : decode cX6_left 1 = .ok (.iload_n 1, 1) := by decide +kernel
theorem dX6_left_2 : decode cX6_left 2 = .ok (.invokevirtual 122, 3) := by decide +kernel
theorem dX6_left_5 : decode cX6_left 5 = .ok (.ifCond .eq 12, 3) := by decide +kernel
theorem dX6_left_8 : decode cX6_left 8 = .ok (.aload_n 0, 1) := by decide +kernel
theorem dX6_left_9 : decode cX6_left 9 = .ok (.getfield 35, 3) := by decide +kernel
theorem dX6_left_12 : decode cX6_left 12 = .ok (.iload_n 1, 1) := by decide +kernel
theorem dX6_left_13 : decode cX6_left 13 = .ok (.iaload, 1) := by decide +kernel
theorem dX6_left_14 : decode cX6_left 14 = .ok (.goto 4, 3) := by decide +kernel
theorem dX6_left_17 : decode cX6_left 17 = .ok (.iconst 0, 1) := by decide +kernel
theorem dX6_left_18 : decode cX6_left 18 = .ok (.ireturn, 1) := by decide +kernel
set_option maxRecDepth 20000 in
theorem ggX6_rate_X6_asks : GoodIn wsX6_rate wsX6_asks := goodIn_r _ [6, 7, 8, 9, 10, 5, 11, 12, 13, 14, 15, 16, 17, 18, 19, 20, 21, 22, 23, 24, 25, 26, 27, 28, 29, 30, 31] (by decide +kernel) (by decide +kernel)
set_option maxRecDepth 20000 in
theorem gX6_rate_X6_asks : GoodIn wsX6_rate (wsV RX6 122 RX6 yX6_asks wsX6_asks) := goodIn_app (goodIn_of _ (by decide +kernel)) ggX6_rate_X6_asks
theorem dX6_rate_0 : decode cX6_rate 0 = .ok (.aload_n 0, 1) := by decide +kernel
theorem dX6_rate_1 : decode cX6_rate 1 = .ok (.iload_n 1, 1) := by decide +kernel
theorem dX6_rate_2 : decode cX6_rate 2 = .ok (.invokevirtual 122, 3) := by decide +kernel
theorem dX6_rate_5 : decode cX6_rate 5 = .ok (.ifCond .eq 12, 3) := by decide +kernel
theorem dX6_rate_8 : decode cX6_rate 8 = .ok (.aload_n 0, 1) := by decide +kernel
theorem dX6_rate_9 : decode cX6_rate 9 = .ok (.getfield 44, 3) := by decide +kernel
theorem dX6_rate_12 : decode cX6_rate 12 = .ok (.iload_n 1, 1) := by decide +kernel
theorem dX6_rate_13 : decode cX6_rate 13 = .ok (.iaload, 1) := by decide +kernel
theorem dX6_rate_14 : decode cX6_rate 14 = .ok (.goto 4, 3) := by decide +kernel
theorem dX6_rate_17 : decode cX6_rate 17 = .ok (.iconst 0, 1) := by decide +kernel
theorem dX6_rate_18 : decode cX6_rate 18 = .ok (.ireturn, 1) := by decide +kernel
set_option maxRecDepth 20000 in
theorem ggX6_window_X6_asks : GoodIn wsX6_window wsX6_asks := goodIn_r _ [7, 8, 9, 10, 11, 6, 12, 13, 14, 15, 16, 17, 18, 19, 20, 21, 22, 23, 24, 25, 26, 27, 28, 29, 30, 31, 32] (by decide +kernel) (by decide +kernel)
set_option maxRecDepth 20000 in
theorem gX6_window_X6_asks : GoodIn wsX6_window (wsV RX6 122 RX6 yX6_asks wsX6_asks) := goodIn_app (goodIn_of _ (by decide +kernel)) ggX6_window_X6_asks
theorem dX6_window_0 : decode cX6_window 0 = .ok (.aload_n 0, 1) := by decide +kernel
theorem dX6_window_1 : decode cX6_window 1 = .ok (.iload_n 1, 1) := by decide +kernel
theorem dX6_window_2 : decode cX6_window 2 = .ok (.invokevirtual 122, 3) := by decide +kernel
theorem dX6_window_5 : decode cX6_window 5 = .ok (.ifCond .eq 23, 3) := by decide +kernel
theorem dX6_window_8 : decode cX6_window 8 = .ok (.sipush 10000, 3) := by decide +kernel
theorem dX6_window_11 : decode cX6_window 11 = .ok (.aload_n 0, 1) := by decide +kernel
theorem dX6_window_12 : decode cX6_window 12 = .ok (.getfield 38, 3) := by decide +kernel
theorem dX6_window_15 : decode cX6_window 15 = .ok (.iload_n 1, 1) := by decide +kernel
theorem dX6_window_16 : decode cX6_window 16 = .ok (.iaload, 1) := by decide +kernel
theorem dX6_window_17 : decode cX6_window 17 = .ok (.imul, 1) := by decide +kernel
theorem dX6_window_18 : decode cX6_window 18 = .ok (.aload_n 0, 1) := by decide +kernel
theorem dX6_window_19 : decode cX6_window 19 = .ok (.getfield 41, 3) := by decide +kernel
theorem dX6_window_22 : decode cX6_window 22 = .ok (.iload_n 1, 1) := by decide +kernel
theorem dX6_window_23 : decode cX6_window 23 = .ok (.iaload, 1) := by decide +kernel
theorem dX6_window_24 : decode cX6_window 24 = .ok (.iadd, 1) := by decide +kernel
theorem dX6_window_25 : decode cX6_window 25 = .ok (.goto 4, 3) := by decide +kernel
theorem dX6_window_28 : decode cX6_window 28 = .ok (.iconst 0, 1) := by decide +kernel
theorem dX6_window_29 : decode cX6_window 29 = .ok (.ireturn, 1) := by decide +kernel
set_option maxRecDepth 20000 in
theorem ggX6_gain_X6_asks : GoodIn wsX6_gain wsX6_asks := goodIn_r _ [5, 6, 7, 8, 9, 4, 10, 11, 12, 13, 14, 42, 43, 44, 45, 46, 47, 48, 49, 50, 51, 52, 53, 54, 55, 56, 57] (by decide +kernel) (by decide +kernel)
set_option maxRecDepth 20000 in
theorem gX6_gain_X6_asks : GoodIn wsX6_gain (wsV RX6 122 RX6 yX6_asks wsX6_asks) := goodIn_app (goodIn_of _ (by decide +kernel)) ggX6_gain_X6_asks
set_option maxRecDepth 20000 in
theorem ggX6_gain_X6_gainNow : GoodIn wsX6_gain wsX6_gainNow := goodIn_r _ [18, 19, 20, 21, 22, 23, 24, 4, 25, 26, 27, 28, 29, 30, 31, 32, 33, 34, 35, 36, 37, 38, 39, 40, 41, 42, 43, 44, 45, 46, 47, 48, 49, 50, 51, 52, 53, 54, 55, 56, 57] (by decide +kernel) (by decide +kernel)
set_option maxRecDepth 20000 in
theorem gX6_gain_X6_gainNow : GoodIn wsX6_gain (wsV RX6 116 RX6 yX6_gainNow wsX6_gainNow) := goodIn_app (goodIn_of _ (by decide +kernel)) ggX6_gain_X6_gainNow
theorem dX6_gain_0 : decode cX6_gain 0 = .ok (.aload_n 0, 1) := by decide +kernel
theorem dX6_gain_1 : decode cX6_gain 1 = .ok (.iload_n 1, 1) := by decide +kernel
theorem dX6_gain_2 : decode cX6_gain 2 = .ok (.invokevirtual 122, 3) := by decide +kernel
theorem dX6_gain_5 : decode cX6_gain 5 = .ok (.ifCond .eq 11, 3) := by decide +kernel
theorem dX6_gain_8 : decode cX6_gain 8 = .ok (.aload_n 0, 1) := by decide +kernel
theorem dX6_gain_9 : decode cX6_gain 9 = .ok (.iload_n 1, 1) := by decide +kernel
theorem dX6_gain_10 : decode cX6_gain 10 = .ok (.invokevirtual 116, 3) := by decide +kernel
theorem dX6_gain_13 : decode cX6_gain 13 = .ok (.goto 4, 3) := by decide +kernel
theorem dX6_gain_16 : decode cX6_gain 16 = .ok (.lconst 0, 1) := by decide +kernel
theorem dX6_gain_17 : decode cX6_gain 17 = .ok (.lreturn, 1) := by decide +kernel
set_option maxRecDepth 20000 in
theorem ggX6_exposure_X6_isCustomer : GoodIn wsX6_exposure wsX6_isCustomer := goodIn_r _ [5, 6, 7, 4, 8] (by decide +kernel) (by decide +kernel)
set_option maxRecDepth 20000 in
theorem gX6_exposure_X6_isCustomer : GoodIn wsX6_exposure (va_wsS RX6 78 yX6_isCustomer wsX6_isCustomer) := goodIn_app (goodIn_of _ (by decide +kernel)) ggX6_exposure_X6_isCustomer
set_option maxRecDepth 20000 in
theorem ggX6_exposure_X6_exposureOf : GoodIn wsX6_exposure wsX6_exposureOf := goodIn_r _ [12, 13, 14, 15, 4, 16, 17, 18, 19, 20, 21, 22, 23, 24, 25, 26, 27, 28, 29, 30, 31, 32, 33, 34, 35, 36, 37, 38, 39, 40, 41, 42, 43, 44, 45, 46, 47, 48, 49, 50, 51, 52, 53, 54, 55, 56, 57] (by decide +kernel) (by decide +kernel)
set_option maxRecDepth 20000 in
theorem gX6_exposure_X6_exposureOf : GoodIn wsX6_exposure (wsV RX6 105 RX6 yX6_exposureOf wsX6_exposureOf) := goodIn_app (goodIn_of _ (by decide +kernel)) ggX6_exposure_X6_exposureOf
theorem dX6_exposure_0 : decode cX6_exposure 0 = .ok (.aload_n 0, 1) := by decide +kernel
theorem dX6_exposure_1 : decode cX6_exposure 1 = .ok (.iload_n 1, 1) := by decide +kernel
theorem dX6_exposure_2 : decode cX6_exposure 2 = .ok (.invokestatic 78, 3) := by decide +kernel
theorem dX6_exposure_5 : decode cX6_exposure 5 = .ok (.ifCond .eq 7, 3) := by decide +kernel
theorem dX6_exposure_8 : decode cX6_exposure 8 = .ok (.iconst 0, 1) := by decide +kernel
theorem dX6_exposure_9 : decode cX6_exposure 9 = .ok (.goto 4, 3) := by decide +kernel
theorem dX6_exposure_12 : decode cX6_exposure 12 = .ok (.iconst 1, 1) := by decide +kernel
theorem dX6_exposure_13 : decode cX6_exposure 13 = .ok (.putfield 53, 3) := by decide +kernel
theorem dX6_exposure_16 : decode cX6_exposure 16 = .ok (.aload_n 0, 1) := by decide +kernel
theorem dX6_exposure_17 : decode cX6_exposure 17 = .ok (.getfield 53, 3) := by decide +kernel
theorem dX6_exposure_20 : decode cX6_exposure 20 = .ok (.ifCond .le 7, 3) := by decide +kernel
theorem dX6_exposure_23 : decode cX6_exposure 23 = .ok (.lconst 0, 1) := by decide +kernel
theorem dX6_exposure_24 : decode cX6_exposure 24 = .ok (.goto 8, 3) := by decide +kernel
theorem dX6_exposure_27 : decode cX6_exposure 27 = .ok (.aload_n 0, 1) := by decide +kernel
theorem dX6_exposure_28 : decode cX6_exposure 28 = .ok (.iload_n 1, 1) := by decide +kernel
theorem dX6_exposure_29 : decode cX6_exposure 29 = .ok (.invokevirtual 105, 3) := by decide +kernel
theorem dX6_exposure_32 : decode cX6_exposure 32 = .ok (.lreturn, 1) := by decide +kernel
set_option maxRecDepth 20000 in
theorem ggX6_settlementDay_X6_settles : GoodIn wsX6_settlementDay wsX6_settles := goodIn_r _ [6, 7, 8, 9, 10, 5, 11, 12, 13, 14, 15, 16, 17, 18, 19, 20, 21, 22, 23, 24, 25, 26, 27, 28] (by decide +kernel) (by decide +kernel)
set_option maxRecDepth 20000 in
theorem gX6_settlementDay_X6_settles : GoodIn wsX6_settlementDay (wsV RX6 100 RX6 yX6_settles wsX6_settles) := goodIn_app (goodIn_of _ (by decide +kernel)) ggX6_settlementDay_X6_settles
theorem dX6_settlementDay_0 : decode cX6_settlementDay 0 = .ok (.aload_n 0, 1) := by decide +kernel
theorem dX6_settlementDay_1 : decode cX6_settlementDay 1 = .ok (.iconst 0, 1) := by decide +kernel
theorem dX6_settlementDay_2 : decode cX6_settlementDay 2 = .ok (.putfield 53, 3) := by decide +kernel
theorem dX6_settlementDay_5 : decode cX6_settlementDay 5 = .ok (.aload_n 0, 1) := by decide +kernel
theorem dX6_settlementDay_6 : decode cX6_settlementDay 6 = .ok (.invokevirtual 100, 3) := by decide +kernel
theorem dX6_settlementDay_9 : decode cX6_settlementDay 9 = .ok (.ireturn, 1) := by decide +kernel
set_option maxRecDepth 20000 in
theorem ggX6_due_X6_isCustomer : GoodIn wsX6_due wsX6_isCustomer := goodIn_r _ [7, 8, 9, 6, 10] (by decide +kernel) (by decide +kernel)
set_option maxRecDepth 20000 in
theorem gX6_due_X6_isCustomer : GoodIn wsX6_due (va_wsS RX6 78 yX6_isCustomer wsX6_isCustomer) := goodIn_app (goodIn_of _ (by decide +kernel)) ggX6_due_X6_isCustomer
set_option maxRecDepth 20000 in
theorem ggX6_due_X6_in : GoodIn wsX6_due wsX6_in := goodIn_r _ [10] (by decide +kernel) (by decide +kernel)
set_option maxRecDepth 20000 in
theorem gX6_due_X6_in : GoodIn wsX6_due (va_wsS RX6 57 yX6_in wsX6_in) := goodIn_app (goodIn_of _ (by decide +kernel)) ggX6_due_X6_in
theorem dX6_due_0 : decode cX6_due 0 = .ok (.aload_n 0, 1) := by decide +kernel
theorem dX6_due_1 : decode cX6_due 1 = .ok (.iload_n 1, 1) := by decide +kernel
theorem dX6_due_2 : decode cX6_due 2 = .ok (.invokestatic 78, 3) := by decide +kernel
theorem dX6_due_5 : decode cX6_due 5 = .ok (.ifCond .ne 7, 3) := by decide +kernel
theorem dX6_due_8 : decode cX6_due 8 = .ok (.iconst 1, 1) := by decide +kernel
theorem dX6_due_9 : decode cX6_due 9 = .ok (.goto 27, 3) := by decide +kernel
theorem dX6_due_12 : decode cX6_due 12 = .ok (.iload_n 2, 1) := by decide +kernel
theorem dX6_due_13 : decode cX6_due 13 = .ok (.iconst 0, 1) := by decide +kernel
theorem dX6_due_14 : decode cX6_due 14 = .ok (.iconst 4, 1) := by decide +kernel
theorem dX6_due_15 : decode cX6_due 15 = .ok (.invokestatic 57, 3) := by decide +kernel
theorem dX6_due_18 : decode cX6_due 18 = .ok (.ifCond .eq 17, 3) := by decide +kernel
theorem dX6_due_21 : decode cX6_due 21 = .ok (.iload_n 3, 1) := by decide +kernel
theorem dX6_due_22 : decode cX6_due 22 = .ok (.iconst 1, 1) := by decide +kernel
theorem dX6_due_23 : decode cX6_due 23 = .ok (.bipush 20, 2) := by decide +kernel
theorem dX6_due_25 : decode cX6_due 25 = .ok (.invokestatic 57, 3) := by decide +kernel
theorem dX6_due_28 : decode cX6_due 28 = .ok (.ifCond .eq 7, 3) := by decide +kernel
theorem dX6_due_31 : decode cX6_due 31 = .ok (.iconst 0, 1) := by decide +kernel
theorem dX6_due_32 : decode cX6_due 32 = .ok (.goto 4, 3) := by decide +kernel
theorem dX6_due_35 : decode cX6_due 35 = .ok (.iconst 2, 1) := by decide +kernel
theorem dX6_due_36 : decode cX6_due 36 = .ok (.putfield 53, 3) := by decide +kernel
theorem dX6_due_39 : decode cX6_due 39 = .ok (.aload_n 0, 1) := by decide +kernel
theorem dX6_due_40 : decode cX6_due 40 = .ok (.getfield 53, 3) := by decide +kernel
theorem dX6_due_43 : decode cX6_due 43 = .ok (.ifCond .le 7, 3) := by decide +kernel
theorem dX6_due_46 : decode cX6_due 46 = .ok (.lconst 0, 1) := by decide +kernel
theorem dX6_due_47 : decode cX6_due 47 = .ok (.goto 23, 3) := by decide +kernel
theorem dX6_due_50 : decode cX6_due 50 = .ok (.aload_n 0, 1) := by decide +kernel
theorem dX6_due_51 : decode cX6_due 51 = .ok (.getfield 47, 3) := by decide +kernel
theorem dX6_due_54 : decode cX6_due 54 = .ok (.bipush 25, 2) := by decide +kernel
theorem dX6_due_56 : decode cX6_due 56 = .ok (.aload_n 0, 1) := by decide +kernel
theorem dX6_due_57 : decode cX6_due 57 = .ok (.getfield 64, 3) := by decide +kernel
theorem dX6_due_60 : decode cX6_due 60 = .ok (.iload_n 3, 1) := by decide +kernel
theorem dX6_due_61 : decode cX6_due 61 = .ok (.iadd, 1) := by decide +kernel
theorem dX6_due_62 : decode cX6_due 62 = .ok (.imul, 1) := by decide +kernel
theorem dX6_due_63 : decode cX6_due 63 = .ok (.iconst 5, 1) := by decide +kernel
theorem dX6_due_64 : decode cX6_due 64 = .ok (.iload_n 1, 1) := by decide +kernel
theorem dX6_due_65 : decode cX6_due 65 = .ok (.imul, 1) := by decide +kernel
theorem dX6_due_66 : decode cX6_due 66 = .ok (.iadd, 1) := by decide +kernel
theorem dX6_due_67 : decode cX6_due 67 = .ok (.iload_n 2, 1) := by decide +kernel
theorem dX6_due_68 : decode cX6_due 68 = .ok (.iadd, 1) := by decide +kernel
theorem dX6_due_69 : decode cX6_due 69 = .ok (.laload, 1) := by decide +kernel
theorem dX6_due_70 : decode cX6_due 70 = .ok (.lreturn, 1) := by decide +kernel
set_option maxRecDepth 20000 in
theorem ggX6_balance_X6_isCustomer : GoodIn wsX6_balance wsX6_isCustomer := goodIn_r _ [6, 7, 8, 5, 9] (by decide +kernel) (by decide +kernel)
set_option maxRecDepth 20000 in
theorem gX6_balance_X6_isCustomer : GoodIn wsX6_balance (va_wsS RX6 78 yX6_isCustomer wsX6_isCustomer) := goodIn_app (goodIn_of _ (by decide +kernel)) ggX6_balance_X6_isCustomer
set_option maxRecDepth 20000 in
theorem ggX6_balance_X6_in : GoodIn wsX6_balance wsX6_in := goodIn_r _ [9] (by decide +kernel) (by decide +kernel)
set_option maxRecDepth 20000 in
theorem gX6_balance_X6_in : GoodIn wsX6_balance (va_wsS RX6 57 yX6_in wsX6_in) := goodIn_app (goodIn_of _ (by decide +kernel)) ggX6_balance_X6_in
theorem dX6_balance_0 : decode cX6_balance 0 = .ok (.aload_n 0, 1) := by decide +kernel
theorem dX6_balance_1 : decode cX6_balance 1 = .ok (.iload_n 1, 1) := by decide +kernel
theorem dX6_balance_2 : decode cX6_balance 2 = .ok (.invokestatic 78, 3) := by decide +kernel
theorem dX6_balance_5 : decode cX6_balance 5 = .ok (.ifCond .ne 7, 3) := by decide +kernel
theorem dX6_balance_8 : decode cX6_balance 8 = .ok (.iconst 1, 1) := by decide +kernel
theorem dX6_balance_9 : decode cX6_balance 9 = .ok (.goto 17, 3) := by decide +kernel
theorem dX6_balance_12 : decode cX6_balance 12 = .ok (.iload_n 2, 1) := by decide +kernel
theorem dX6_balance_13 : decode cX6_balance 13 = .ok (.iconst 0, 1) := by decide +kernel
theorem dX6_balance_14 : decode cX6_balance 14 = .ok (.iconst 4, 1) := by decide +kernel
theorem dX6_balance_15 : decode cX6_balance 15 = .ok (.invokestatic 57, 3) := by decide +kernel
theorem dX6_balance_18 : decode cX6_balance 18 = .ok (.ifCond .eq 7, 3) := by decide +kernel
theorem dX6_balance_21 : decode cX6_balance 21 = .ok (.iconst 0, 1) := by decide +kernel
theorem dX6_balance_22 : decode cX6_balance 22 = .ok (.goto 4, 3) := by decide +kernel
theorem dX6_balance_25 : decode cX6_balance 25 = .ok (.iconst 2, 1) := by decide +kernel
theorem dX6_balance_26 : decode cX6_balance 26 = .ok (.putfield 53, 3) := by decide +kernel
theorem dX6_balance_29 : decode cX6_balance 29 = .ok (.aload_n 0, 1) := by decide +kernel
theorem dX6_balance_30 : decode cX6_balance 30 = .ok (.getfield 53, 3) := by decide +kernel
theorem dX6_balance_33 : decode cX6_balance 33 = .ok (.ifCond .le 7, 3) := by decide +kernel
theorem dX6_balance_36 : decode cX6_balance 36 = .ok (.lconst 0, 1) := by decide +kernel
theorem dX6_balance_37 : decode cX6_balance 37 = .ok (.goto 13, 3) := by decide +kernel
theorem dX6_balance_40 : decode cX6_balance 40 = .ok (.aload_n 0, 1) := by decide +kernel
theorem dX6_balance_41 : decode cX6_balance 41 = .ok (.getfield 50, 3) := by decide +kernel
theorem dX6_balance_44 : decode cX6_balance 44 = .ok (.iconst 5, 1) := by decide +kernel
theorem dX6_balance_45 : decode cX6_balance 45 = .ok (.iload_n 1, 1) := by decide +kernel
theorem dX6_balance_46 : decode cX6_balance 46 = .ok (.imul, 1) := by decide +kernel
theorem dX6_balance_47 : decode cX6_balance 47 = .ok (.iload_n 2, 1) := by decide +kernel
theorem dX6_balance_48 : decode cX6_balance 48 = .ok (.iadd, 1) := by decide +kernel
theorem dX6_balance_49 : decode cX6_balance 49 = .ok (.laload, 1) := by decide +kernel
theorem dX6_balance_50 : decode cX6_balance 50 = .ok (.lreturn, 1) := by decide +kernel
set_option maxRecDepth 20000 in
theorem ggX6_passes_X6_closes : GoodIn wsX6_passes wsX6_closes := goodIn_r _ [11, 12, 2, 13, 14, 15, 10, 16, 17, 3, 18, 19, 20, 21, 22, 23, 4, 24, 25, 26, 27, 28, 29, 30, 31, 32, 33, 34, 35, 36, 37, 38, 39, 40, 6, 41, 42, 43, 44, 45, 46, 47, 48, 49, 50, 51, 52, 53, 54, 55, 56, 57, 58, 59, 60, 61, 62, 63, 64, 65] (by decide +kernel) (by decide +kernel)
set_option maxRecDepth 20000 in
theorem gX6_passes_X6_closes : GoodIn wsX6_passes (wsV RX6 119 RX6 yX6_closes wsX6_closes) := goodIn_app (goodIn_of _ (by decide +kernel)) ggX6_passes_X6_closes
theorem dX6_passes_0 : decode cX6_passes 0 = .ok (.iconst 0, 1) := by decide +kernel
theorem dX6_passes_1 : decode cX6_passes 1 = .ok (.istore_n 1, 1) := by decide +kernel
theorem dX6_passes_2 : decode cX6_passes 2 = .ok (.iconst 0, 1) := by decide +kernel
theorem dX6_passes_3 : decode cX6_passes 3 = .ok (.istore_n 2, 1) := by decide +kernel
theorem dX6_passes_4 : decode cX6_passes 4 = .ok (.iload_n 2, 1) := by decide +kernel
theorem dX6_passes_5 : decode cX6_passes 5 = .ok (.aload_n 0, 1) := by decide +kernel
theorem dX6_passes_6 : decode cX6_passes 6 = .ok (.getfield 61, 3) := by decide +kernel
theorem dX6_passes_9 : decode cX6_passes 9 = .ok (.if_icmp .ge 40, 3) := by decide +kernel
theorem dX6_passes_12 : decode cX6_passes 12 = .ok (.aload_n 0, 1) := by decide +kernel
theorem dX6_passes_13 : decode cX6_passes 13 = .ok (.getfield 35, 3) := by decide +kernel
theorem dX6_passes_16 : decode cX6_passes 16 = .ok (.iload_n 2, 1) := by decide +kernel
theorem dX6_passes_17 : decode cX6_passes 17 = .ok (.iaload, 1) := by decide +kernel
theorem dX6_passes_18 : decode cX6_passes 18 = .ok (.ifCond .le 25, 3) := by decide +kernel
theorem dX6_passes_21 : decode cX6_passes 21 = .ok (.aload_n 0, 1) := by decide +kernel
theorem dX6_passes_22 : decode cX6_passes 22 = .ok (.getfield 41, 3) := by decide +kernel
theorem dX6_passes_25 : decode cX6_passes 25 = .ok (.iload_n 2, 1) := by decide +kernel
theorem dX6_passes_26 : decode cX6_passes 26 = .ok (.iaload, 1) := by decide +kernel
theorem dX6_passes_27 : decode cX6_passes 27 = .ok (.aload_n 0, 1) := by decide +kernel
theorem dX6_passes_28 : decode cX6_passes 28 = .ok (.getfield 64, 3) := by decide +kernel
theorem dX6_passes_31 : decode cX6_passes 31 = .ok (.if_icmp .ne 12, 3) := by decide +kernel
theorem dX6_passes_34 : decode cX6_passes 34 = .ok (.aload_n 0, 1) := by decide +kernel
theorem dX6_passes_35 : decode cX6_passes 35 = .ok (.iload_n 2, 1) := by decide +kernel
theorem dX6_passes_36 : decode cX6_passes 36 = .ok (.invokevirtual 119, 3) := by decide +kernel
theorem dX6_passes_39 : decode cX6_passes 39 = .ok (.pop2, 1) := by decide +kernel
theorem dX6_passes_40 : decode cX6_passes 40 = .ok (.iinc 1 1, 3) := by decide +kernel
theorem dX6_passes_43 : decode cX6_passes 43 = .ok (.iinc 2 1, 3) := by decide +kernel
theorem dX6_passes_46 : decode cX6_passes 46 = .ok (.goto (-42), 3) := by decide +kernel
theorem dX6_passes_49 : decode cX6_passes 49 = .ok (.aload_n 0, 1) := by decide +kernel
theorem dX6_passes_50 : decode cX6_passes 50 = .ok (.dup, 1) := by decide +kernel
theorem dX6_passes_51 : decode cX6_passes 51 = .ok (.getfield 64, 3) := by decide +kernel
theorem dX6_passes_54 : decode cX6_passes 54 = .ok (.iconst 1, 1) := by decide +kernel
theorem dX6_passes_55 : decode cX6_passes 55 = .ok (.iadd, 1) := by decide +kernel
theorem dX6_passes_56 : decode cX6_passes 56 = .ok (.putfield 64, 3) := by decide +kernel
theorem dX6_passes_59 : decode cX6_passes 59 = .ok (.iconst 0, 1) := by decide +kernel
theorem dX6_passes_60 : decode cX6_passes 60 = .ok (.istore_n 2, 1) := by decide +kernel
theorem dX6_passes_61 : decode cX6_passes 61 = .ok (.iload_n 2, 1) := by decide +kernel
theorem dX6_passes_62 : decode cX6_passes 62 = .ok (.bipush 25, 2) := by decide +kernel
theorem dX6_passes_64 : decode cX6_passes 64 = .ok (.if_icmp .ge 32, 3) := by decide +kernel
theorem dX6_passes_67 : decode cX6_passes 67 = .ok (.aload_n 0, 1) := by decide +kernel
theorem dX6_passes_68 : decode cX6_passes 68 = .ok (.getfield 50, 3) := by decide +kernel
theorem dX6_passes_71 : decode cX6_passes 71 = .ok (.iload_n 2, 1) := by decide +kernel
theorem dX6_passes_72 : decode cX6_passes 72 = .ok (.dup2, 1) := by decide +kernel
theorem dX6_passes_73 : decode cX6_passes 73 = .ok (.laload, 1) := by decide +kernel
theorem dX6_passes_74 : decode cX6_passes 74 = .ok (.aload_n 0, 1) := by decide +kernel
theorem dX6_passes_75 : decode cX6_passes 75 = .ok (.getfield 47, 3) := by decide +kernel
theorem dX6_passes_78 : decode cX6_passes 78 = .ok (.bipush 25, 2) := by decide +kernel
theorem dX6_passes_80 : decode cX6_passes 80 = .ok (.aload_n 0, 1) := by decide +kernel
theorem dX6_passes_81 : decode cX6_passes 81 = .ok (.getfield 64, 3) := by decide +kernel
theorem dX6_passes_84 : decode cX6_passes 84 = .ok (.imul, 1) := by decide +kernel
theorem dX6_passes_85 : decode cX6_passes 85 = .ok (.iload_n 2, 1) := by decide +kernel
theorem dX6_passes_86 : decode cX6_passes 86 = .ok (.iadd, 1) := by decide +kernel
theorem dX6_passes_87 : decode cX6_passes 87 = .ok (.laload, 1) := by decide +kernel
theorem dX6_passes_88 : decode cX6_passes 88 = .ok (.ladd, 1) := by decide +kernel
theorem dX6_passes_89 : decode cX6_passes 89 = .ok (.lastore, 1) := by decide +kernel
theorem dX6_passes_90 : decode cX6_passes 90 = .ok (.iinc 2 1, 3) := by decide +kernel
theorem dX6_passes_93 : decode cX6_passes 93 = .ok (.goto (-32), 3) := by decide +kernel
theorem dX6_passes_96 : decode cX6_passes 96 = .ok (.iload_n 1, 1) := by decide +kernel
theorem dX6_passes_97 : decode cX6_passes 97 = .ok (.ireturn, 1) := by decide +kernel
set_option maxRecDepth 20000 in
theorem ggX6_pass_X6_in : GoodIn wsX6_pass wsX6_in := goodIn_r _ [6] (by decide +kernel) (by decide +kernel)
set_option maxRecDepth 20000 in
theorem gX6_pass_X6_in : GoodIn wsX6_pass (va_wsS RX6 57 yX6_in wsX6_in) := goodIn_app (goodIn_of _ (by decide +kernel)) ggX6_pass_X6_in
set_option maxRecDepth 20000 in
theorem ggX6_pass_X6_passes : GoodIn wsX6_pass wsX6_passes := goodIn_r _ [10, 11, 12, 13, 1, 14, 15, 16, 17, 18, 5, 19, 20, 21, 22, 23, 24, 25, 26, 27, 28, 29, 30, 31, 32, 33, 34, 35, 36, 37, 38, 39, 40, 41, 42, 43, 44, 45, 46, 47, 48, 49, 50, 51, 52, 53, 54, 55, 56, 57, 58, 59, 60, 61, 62, 63, 64, 65, 66, 67, 68, 69, 70, 71, 72, 73] (by decide +kernel) (by decide +kernel)
set_option maxRecDepth 20000 in
theorem gX6_pass_X6_passes : GoodIn wsX6_pass (wsV RX6 125 RX6 yX6_passes wsX6_passes) := goodIn_app (goodIn_of _ (by decide +kernel)) ggX6_pass_X6_passes
theorem dX6_pass_0 : decode cX6_pass 0 = .ok (.aload_n 0, 1) := by decide +kernel
theorem dX6_pass_1 : decode cX6_pass 1 = .ok (.iload_n 1, 1) := by decide +kernel
theorem dX6_pass_2 : decode cX6_pass 2 = .ok (.iconst 1, 1) := by decide +kernel
theorem dX6_pass_3 : decode cX6_pass 3 = .ok (.bipush 100, 2) := by decide +kernel
theorem dX6_pass_5 : decode cX6_pass 5 = .ok (.invokestatic 57, 3) := by decide +kernel
theorem dX6_pass_8 : decode cX6_pass 8 = .ok (.ifCond .ne 7, 3) := by decide +kernel
theorem dX6_pass_11 : decode cX6_pass 11 = .ok (.iconst 1, 1) := by decide +kernel
theorem dX6_pass_12 : decode cX6_pass 12 = .ok (.goto 20, 3) := by decide +kernel
theorem dX6_pass_15 : decode cX6_pass 15 = .ok (.aload_n 0, 1) := by decide +kernel
theorem dX6_pass_16 : decode cX6_pass 16 = .ok (.getfield 64, 3) := by decide +kernel
theorem dX6_pass_19 : decode cX6_pass 19 = .ok (.iload_n 1, 1) := by decide +kernel
theorem dX6_pass_20 : decode cX6_pass 20 = .ok (.iadd, 1) := by decide +kernel
theorem dX6_pass_21 : decode cX6_pass 21 = .ok (.sipush 1000, 3) := by decide +kernel
theorem dX6_pass_24 : decode cX6_pass 24 = .ok (.if_icmp .le 7, 3) := by decide +kernel
theorem dX6_pass_27 : decode cX6_pass 27 = .ok (.iconst 2, 1) := by decide +kernel
theorem dX6_pass_28 : decode cX6_pass 28 = .ok (.goto 4, 3) := by decide +kernel
theorem dX6_pass_31 : decode cX6_pass 31 = .ok (.iconst 0, 1) := by decide +kernel
theorem dX6_pass_32 : decode cX6_pass 32 = .ok (.putfield 53, 3) := by decide +kernel
theorem dX6_pass_35 : decode cX6_pass 35 = .ok (.iconst 0, 1) := by decide +kernel
theorem dX6_pass_36 : decode cX6_pass 36 = .ok (.istore_n 2, 1) := by decide +kernel
theorem dX6_pass_37 : decode cX6_pass 37 = .ok (.iconst 0, 1) := by decide +kernel
theorem dX6_pass_38 : decode cX6_pass 38 = .ok (.istore_n 3, 1) := by decide +kernel
theorem dX6_pass_39 : decode cX6_pass 39 = .ok (.iload_n 3, 1) := by decide +kernel
theorem dX6_pass_40 : decode cX6_pass 40 = .ok (.iload_n 1, 1) := by decide +kernel
theorem dX6_pass_41 : decode cX6_pass 41 = .ok (.if_icmp .ge 23, 3) := by decide +kernel
theorem dX6_pass_44 : decode cX6_pass 44 = .ok (.aload_n 0, 1) := by decide +kernel
theorem dX6_pass_45 : decode cX6_pass 45 = .ok (.getfield 53, 3) := by decide +kernel
theorem dX6_pass_48 : decode cX6_pass 48 = .ok (.ifCond .ne 16, 3) := by decide +kernel
theorem dX6_pass_51 : decode cX6_pass 51 = .ok (.iload_n 2, 1) := by decide +kernel
theorem dX6_pass_52 : decode cX6_pass 52 = .ok (.aload_n 0, 1) := by decide +kernel
theorem dX6_pass_53 : decode cX6_pass 53 = .ok (.invokevirtual 125, 3) := by decide +kernel
theorem dX6_pass_56 : decode cX6_pass 56 = .ok (.iadd, 1) := by decide +kernel
theorem dX6_pass_57 : decode cX6_pass 57 = .ok (.istore_n 2, 1) := by decide +kernel
theorem dX6_pass_58 : decode cX6_pass 58 = .ok (.iinc 3 1, 3) := by decide +kernel
theorem dX6_pass_61 : decode cX6_pass 61 = .ok (.goto (-22), 3) := by decide +kernel
theorem dX6_pass_64 : decode cX6_pass 64 = .ok (.iload_n 2, 1) := by decide +kernel
theorem dX6_pass_65 : decode cX6_pass 65 = .ok (.ireturn, 1) := by decide +kernel
theorem dX6_today_0 : decode cX6_today 0 = .ok (.aload_n 0, 1) := by decide +kernel
theorem dX6_today_1 : decode cX6_today 1 = .ok (.iconst 0, 1) := by decide +kernel
theorem dX6_today_2 : decode cX6_today 2 = .ok (.putfield 53, 3) := by decide +kernel
theorem dX6_today_5 : decode cX6_today 5 = .ok (.aload_n 0, 1) := by decide +kernel
theorem dX6_today_6 : decode cX6_today 6 = .ok (.getfield 64, 3) := by decide +kernel
theorem dX6_today_9 : decode cX6_today 9 = .ok (.ireturn, 1) := by decide +kernel
theorem dJ9_max_7cf53_0 : decode cJ9_max_7cf53 0 = .ok (.iload_n 0, 1) := by decide +kernel
theorem dJ9_max_7cf53_1 : decode cJ9_max_7cf53 1 = .ok (.iload_n 1, 1) := by decide +kernel
theorem dJ9_max_7cf53_2 : decode cJ9_max_7cf53 2 = .ok (.if_icmp .lt 7, 3) := by decide +kernel
theorem dJ9_max_7cf53_5 : decode cJ9_max_7cf53 5 = .ok (.iload_n 0, 1) := by decide +kernel
theorem dJ9_max_7cf53_6 : decode cJ9_max_7cf53 6 = .ok (.goto 4, 3) := by decide +kernel
theorem dJ9_max_7cf53_9 : decode cJ9_max_7cf53 9 = .ok (.iload_n 1, 1) := by decide +kernel
theorem dJ9_max_7cf53_10 : decode cJ9_max_7cf53 10 = .ok (.ireturn, 1) := by decide +kernel
theorem dJ9_max_f86c9_0 : decode cJ9_max_f86c9 0 = .ok (.lload_n 0, 1) := by decide +kernel
theorem dJ9_max_f86c9_1 : decode cJ9_max_f86c9 1 = .ok (.lload_n 2, 1) := by decide +kernel
theorem dJ9_max_f86c9_2 : decode cJ9_max_f86c9 2 = .ok (.lcmp, 1) := by decide +kernel
theorem dJ9_max_f86c9_3 : decode cJ9_max_f86c9 3 = .ok (.ifCond .lt 7, 3) := by decide +kernel
theorem dJ9_max_f86c9_6 : decode cJ9_max_f86c9 6 = .ok (.lload_n 0, 1) := by decide +kernel
theorem dJ9_max_f86c9_7 : decode cJ9_max_f86c9 7 = .ok (.goto 4, 3) := by decide +kernel
theorem dJ9_max_f86c9_10 : decode cJ9_max_f86c9 10 = .ok (.lload_n 2, 1) := by decide +kernel
theorem dJ9_max_f86c9_11 : decode cJ9_max_f86c9 11 = .ok (.lreturn, 1) := by decide +kernel
set_option maxRecDepth 20000 in
theorem ggL_setRate_X5_setRate : GoodIn wsL_setRate wsX5_setRate := goodIn_ca (goodIn_ca (goodIn_r _ [7, 8, 9, 10, 11, 6, 12, 13, 14, 15, 16, 17, 18, 19, 20, 21, 22, 23, 24, 25, 26, 27, 28, 29, 30, 31] (by decide +kernel) (by decide +kernel)) (goodIn_sub (fun _ h => List.mem_cons_of_mem _ (List.mem_append_left _ (List.mem_append_right _ h))) (by decide +kernel))) (goodIn_sub (fun _ h => List.mem_cons_of_mem _ (List.mem_append_right _ h)) (by decide +kernel))
set_option maxRecDepth 20000 in
theorem gL_setRate_X5_setRate : GoodIn wsL_setRate (wsV RL 7 RX5 yX5_setRate wsX5_setRate) := goodIn_app (goodIn_of _ (by decide +kernel)) ggL_setRate_X5_setRate
