theorem dX0_init_0 : decode cX0_init 0 = .ok (.aload_n 0, 1) := by decide +kernel
theorem dX0_init_1 : decode cX0_init 1 = .ok (.invokespecial 3, 3) := by decide +kernel
theorem dX0_init_4 : decode cX0_init 4 = .ok (.aload_n 0, 1) := by decide +kernel
theorem dX0_init_5 : decode cX0_init 5 = .ok (.bipush 16, 2) := by decide +kernel
theorem dX0_init_7 : decode cX0_init 7 = .ok (.newarray .int, 2) := by decide +kernel
theorem dX0_init_9 : decode cX0_init 9 = .ok (.putfield 9, 3) := by decide +kernel
theorem dX0_init_12 : decode cX0_init 12 = .ok (.return_, 1) := by decide +kernel
theorem dX0_at_0 : decode cX0_at 0 = .ok (.aload_n 0, 1) := by decide +kernel
theorem dX0_at_1 : decode cX0_at 1 = .ok (.getfield 9, 3) := by decide +kernel
theorem dX0_at_4 : decode cX0_at 4 = .ok (.iload_n 1, 1) := by decide +kernel
theorem dX0_at_5 : decode cX0_at 5 = .ok (.bipush 15, 2) := by decide +kernel
theorem dX0_at_7 : decode cX0_at 7 = .ok (.iand, 1) := by decide +kernel
theorem dX0_at_8 : decode cX0_at 8 = .ok (.iaload, 1) := by decide +kernel
theorem dX0_at_9 : decode cX0_at 9 = .ok (.ireturn, 1) := by decide +kernel
theorem dX0_set_0 : decode cX0_set 0 = .ok (.aload_n 0, 1) := by decide +kernel
theorem dX0_set_1 : decode cX0_set 1 = .ok (.getfield 9, 3) := by decide +kernel
theorem dX0_set_4 : decode cX0_set 4 = .ok (.iload_n 1, 1) := by decide +kernel
theorem dX0_set_5 : decode cX0_set 5 = .ok (.bipush 15, 2) := by decide +kernel
theorem dX0_set_7 : decode cX0_set 7 = .ok (.iand, 1) := by decide +kernel
theorem dX0_set_8 : decode cX0_set 8 = .ok (.iload_n 2, 1) := by decide +kernel
theorem dX0_set_9 : decode cX0_set 9 = .ok (.iastore, 1) := by decide +kernel
theorem dX0_set_10 : decode cX0_set 10 = .ok (.return_, 1) := by decide +kernel
theorem dX0_add_0 : decode cX0_add 0 = .ok (.aload_n 0, 1) := by decide +kernel
theorem dX0_add_1 : decode cX0_add 1 = .ok (.getfield 9, 3) := by decide +kernel
theorem dX0_add_4 : decode cX0_add 4 = .ok (.iload_n 1, 1) := by decide +kernel
theorem dX0_add_5 : decode cX0_add 5 = .ok (.bipush 15, 2) := by decide +kernel
theorem dX0_add_7 : decode cX0_add 7 = .ok (.iand, 1) := by decide +kernel
theorem dX0_add_8 : decode cX0_add 8 = .ok (.dup2, 1) := by decide +kernel
theorem dX0_add_9 : decode cX0_add 9 = .ok (.iaload, 1) := by decide +kernel
theorem dX0_add_10 : decode cX0_add 10 = .ok (.iload_n 2, 1) := by decide +kernel
theorem dX0_add_11 : decode cX0_add 11 = .ok (.iadd, 1) := by decide +kernel
theorem dX0_add_12 : decode cX0_add 12 = .ok (.iastore, 1) := by decide +kernel
theorem dX0_add_13 : decode cX0_add 13 = .ok (.return_, 1) := by decide +kernel
theorem dX0_addAll_0 : decode cX0_addAll 0 = .ok (.iconst 0, 1) := by decide +kernel
theorem dX0_addAll_1 : decode cX0_addAll 1 = .ok (.istore_n 2, 1) := by decide +kernel
theorem dX0_addAll_2 : decode cX0_addAll 2 = .ok (.iload_n 2, 1) := by decide +kernel
theorem dX0_addAll_3 : decode cX0_addAll 3 = .ok (.bipush 16, 2) := by decide +kernel
theorem dX0_addAll_5 : decode cX0_addAll 5 = .ok (.if_icmp .ge 24, 3) := by decide +kernel
theorem dX0_addAll_8 : decode cX0_addAll 8 = .ok (.aload_n 0, 1) := by decide +kernel
theorem dX0_addAll_9 : decode cX0_addAll 9 = .ok (.getfield 9, 3) := by decide +kernel
theorem dX0_addAll_12 : decode cX0_addAll 12 = .ok (.iload_n 2, 1) := by decide +kernel
theorem dX0_addAll_13 : decode cX0_addAll 13 = .ok (.dup2, 1) := by decide +kernel
theorem dX0_addAll_14 : decode cX0_addAll 14 = .ok (.iaload, 1) := by decide +kernel
theorem dX0_addAll_15 : decode cX0_addAll 15 = .ok (.aload_n 1, 1) := by decide +kernel
theorem dX0_addAll_16 : decode cX0_addAll 16 = .ok (.getfield 9, 3) := by decide +kernel
theorem dX0_addAll_19 : decode cX0_addAll 19 = .ok (.iload_n 2, 1) := by decide +kernel
theorem dX0_addAll_20 : decode cX0_addAll 20 = .ok (.iaload, 1) := by decide +kernel
theorem dX0_addAll_21 : decode cX0_addAll 21 = .ok (.iadd, 1) := by decide +kernel
theorem dX0_addAll_22 : decode cX0_addAll 22 = .ok (.iastore, 1) := by decide +kernel
theorem dX0_addAll_23 : decode cX0_addAll 23 = .ok (.iinc 2 1, 3) := by decide +kernel
theorem dX0_addAll_26 : decode cX0_addAll 26 = .ok (.goto (-24), 3) := by decide +kernel
theorem dX0_addAll_29 : decode cX0_addAll 29 = .ok (.return_, 1) := by decide +kernel
theorem dX0_takeAll_0 : decode cX0_takeAll 0 = .ok (.iconst 0, 1) := by decide +kernel
theorem dX0_takeAll_1 : decode cX0_takeAll 1 = .ok (.istore_n 2, 1) := by decide +kernel
theorem dX0_takeAll_2 : decode cX0_takeAll 2 = .ok (.iload_n 2, 1) := by decide +kernel
theorem dX0_takeAll_3 : decode cX0_takeAll 3 = .ok (.bipush 16, 2) := by decide +kernel
theorem dX0_takeAll_5 : decode cX0_takeAll 5 = .ok (.if_icmp .ge 21, 3) := by decide +kernel
theorem dX0_takeAll_8 : decode cX0_takeAll 8 = .ok (.aload_n 0, 1) := by decide +kernel
theorem dX0_takeAll_9 : decode cX0_takeAll 9 = .ok (.getfield 9, 3) := by decide +kernel
theorem dX0_takeAll_12 : decode cX0_takeAll 12 = .ok (.iload_n 2, 1) := by decide +kernel
theorem dX0_takeAll_13 : decode cX0_takeAll 13 = .ok (.aload_n 1, 1) := by decide +kernel
theorem dX0_takeAll_14 : decode cX0_takeAll 14 = .ok (.getfield 9, 3) := by decide +kernel
theorem dX0_takeAll_17 : decode cX0_takeAll 17 = .ok (.iload_n 2, 1) := by decide +kernel
theorem dX0_takeAll_18 : decode cX0_takeAll 18 = .ok (.iaload, 1) := by decide +kernel
theorem dX0_takeAll_19 : decode cX0_takeAll 19 = .ok (.iastore, 1) := by decide +kernel
theorem dX0_takeAll_20 : decode cX0_takeAll 20 = .ok (.iinc 2 1, 3) := by decide +kernel
theorem dX0_takeAll_23 : decode cX0_takeAll 23 = .ok (.goto (-21), 3) := by decide +kernel
theorem dX0_takeAll_26 : decode cX0_takeAll 26 = .ok (.return_, 1) := by decide +kernel
theorem dX0_spread_0 : decode cX0_spread 0 = .ok (.aload_n 0, 1) := by decide +kernel
theorem dX0_spread_1 : decode cX0_spread 1 = .ok (.getfield 9, 3) := by decide +kernel
theorem dX0_spread_4 : decode cX0_spread 4 = .ok (.bipush 15, 2) := by decide +kernel
theorem dX0_spread_6 : decode cX0_spread 6 = .ok (.iaload, 1) := by decide +kernel
theorem dX0_spread_7 : decode cX0_spread 7 = .ok (.istore_n 1, 1) := by decide +kernel
theorem dX0_spread_8 : decode cX0_spread 8 = .ok (.iconst 0, 1) := by decide +kernel
theorem dX0_spread_9 : decode cX0_spread 9 = .ok (.istore_n 2, 1) := by decide +kernel
theorem dX0_spread_10 : decode cX0_spread 10 = .ok (.iload_n 2, 1) := by decide +kernel
theorem dX0_spread_11 : decode cX0_spread 11 = .ok (.bipush 16, 2) := by decide +kernel
theorem dX0_spread_13 : decode cX0_spread 13 = .ok (.if_icmp .ge 29, 3) := by decide +kernel
theorem dX0_spread_16 : decode cX0_spread 16 = .ok (.aload_n 0, 1) := by decide +kernel
theorem dX0_spread_17 : decode cX0_spread 17 = .ok (.getfield 9, 3) := by decide +kernel
theorem dX0_spread_20 : decode cX0_spread 20 = .ok (.iload_n 2, 1) := by decide +kernel
theorem dX0_spread_21 : decode cX0_spread 21 = .ok (.iaload, 1) := by decide +kernel
theorem dX0_spread_22 : decode cX0_spread 22 = .ok (.istore_n 3, 1) := by decide +kernel
theorem dX0_spread_23 : decode cX0_spread 23 = .ok (.aload_n 0, 1) := by decide +kernel
theorem dX0_spread_24 : decode cX0_spread 24 = .ok (.getfield 9, 3) := by decide +kernel
theorem dX0_spread_27 : decode cX0_spread 27 = .ok (.iload_n 2, 1) := by decide +kernel
theorem dX0_spread_28 : decode cX0_spread 28 = .ok (.iload_n 3, 1) := by decide +kernel
theorem dX0_spread_29 : decode cX0_spread 29 = .ok (.iload_n 1, 1) := by decide +kernel
theorem dX0_spread_30 : decode cX0_spread 30 = .ok (.invokestatic 15, 3) := by decide +kernel
theorem dX0_spread_33 : decode cX0_spread 33 = .ok (.iastore, 1) := by decide +kernel
theorem dX0_spread_34 : decode cX0_spread 34 = .ok (.iload_n 3, 1) := by decide +kernel
theorem dX0_spread_35 : decode cX0_spread 35 = .ok (.istore_n 1, 1) := by decide +kernel
theorem dX0_spread_36 : decode cX0_spread 36 = .ok (.iinc 2 1, 3) := by decide +kernel
theorem dX0_spread_39 : decode cX0_spread 39 = .ok (.goto (-29), 3) := by decide +kernel
theorem dX0_spread_42 : decode cX0_spread 42 = .ok (.return_, 1) := by decide +kernel
theorem dX0_sum_0 : decode cX0_sum 0 = .ok (.iconst 0, 1) := by decide +kernel
theorem dX0_sum_1 : decode cX0_sum 1 = .ok (.istore_n 1, 1) := by decide +kernel
theorem dX0_sum_2 : decode cX0_sum 2 = .ok (.iconst 0, 1) := by decide +kernel
theorem dX0_sum_3 : decode cX0_sum 3 = .ok (.istore_n 2, 1) := by decide +kernel
theorem dX0_sum_4 : decode cX0_sum 4 = .ok (.iload_n 2, 1) := by decide +kernel
theorem dX0_sum_5 : decode cX0_sum 5 = .ok (.bipush 16, 2) := by decide +kernel
theorem dX0_sum_7 : decode cX0_sum 7 = .ok (.if_icmp .ge 18, 3) := by decide +kernel
theorem dX0_sum_10 : decode cX0_sum 10 = .ok (.iload_n 1, 1) := by decide +kernel
theorem dX0_sum_11 : decode cX0_sum 11 = .ok (.aload_n 0, 1) := by decide +kernel
theorem dX0_sum_12 : decode cX0_sum 12 = .ok (.getfield 9, 3) := by decide +kernel
theorem dX0_sum_15 : decode cX0_sum 15 = .ok (.iload_n 2, 1) := by decide +kernel
theorem dX0_sum_16 : decode cX0_sum 16 = .ok (.iaload, 1) := by decide +kernel
theorem dX0_sum_17 : decode cX0_sum 17 = .ok (.iadd, 1) := by decide +kernel
theorem dX0_sum_18 : decode cX0_sum 18 = .ok (.istore_n 1, 1) := by decide +kernel
theorem dX0_sum_19 : decode cX0_sum 19 = .ok (.iinc 2 1, 3) := by decide +kernel
theorem dX0_sum_22 : decode cX0_sum 22 = .ok (.goto (-18), 3) := by decide +kernel
theorem dX0_sum_25 : decode cX0_sum 25 = .ok (.iload_n 1, 1) := by decide +kernel
theorem dX0_sum_26 : decode cX0_sum 26 = .ok (.ireturn, 1) := by decide +kernel
set_option maxRecDepth 20000 in
theorem ggX1_init_X5_init : GoodIn wsX1_init wsX5_init := goodIn_r _ [10, 11, 12, 13, 14, 15, 16, 17, 18, 19, 20, 38, 39, 40, 41, 42, 43, 44, 45, 46, 47, 48, 49, 50, 51, 52, 53, 54, 55, 56, 57, 58, 59, 60, 61, 62, 63, 64, 65, 66, 67, 68, 69, 70, 71, 72, 73, 74, 75, 76, 77, 78, 79, 80, 81, 82, 83, 84, 85, 86, 87] (by decide +kernel) (by decide +kernel)
set_option maxRecDepth 20000 in
theorem gX1_init_X5_init : GoodIn wsX1_init (wsX5_init) := ggX1_init_X5_init
set_option maxRecDepth 20000 in
theorem ggX1_init_X3_latest : GoodIn wsX1_init wsX3_latest := goodIn_r _ [25, 26, 88, 89, 90] (by decide +kernel) (by decide +kernel)
set_option maxRecDepth 20000 in
theorem gX1_init_X3_latest : GoodIn wsX1_init (wsV RX1 15 RX3 yX3_latest wsX3_latest) := goodIn_app (goodIn_of _ (by decide +kernel)) ggX1_init_X3_latest
set_option maxRecDepth 20000 in
theorem ggX1_init_X3_latestNumber : GoodIn wsX1_init wsX3_latestNumber := goodIn_r _ [30, 31, 32, 33, 34, 35, 36, 37, 88, 89, 90, 91, 92, 93] (by decide +kernel) (by decide +kernel)
set_option maxRecDepth 20000 in
theorem gX1_init_X3_latestNumber : GoodIn wsX1_init (wsV RX1 25 RX3 yX3_latestNumber wsX3_latestNumber) := goodIn_app (goodIn_of _ (by decide +kernel)) ggX1_init_X3_latestNumber
theorem dX1_init_0 : decode cX1_init 0 = .ok (.aload_n 0, 1) := by decide +kernel
theorem dX1_init_1 : decode cX1_init 1 = .ok (.iload_n 1, 1) := by decide +kernel
theorem dX1_init_2 : decode cX1_init 2 = .ok (.iconst 0, 1) := by decide +kernel
theorem dX1_init_3 : decode cX1_init 3 = .ok (.iload_n 2, 1) := by decide +kernel
theorem dX1_init_4 : decode cX1_init 4 = .ok (.iload_n 3, 1) := by decide +kernel
theorem dX1_init_5 : decode cX1_init 5 = .ok (.invokespecial 3, 3) := by decide +kernel
theorem dX1_init_8 : decode cX1_init 8 = .ok (.aload_n 0, 1) := by decide +kernel
theorem dX1_init_9 : decode cX1_init 9 = .ok (.iload 4, 2) := by decide +kernel
theorem dX1_init_11 : decode cX1_init 11 = .ok (.putfield 9, 3) := by decide +kernel
theorem dX1_init_14 : decode cX1_init 14 = .ok (.aload_n 0, 1) := by decide +kernel
theorem dX1_init_15 : decode cX1_init 15 = .ok (.aload 5, 2) := by decide +kernel
theorem dX1_init_17 : decode cX1_init 17 = .ok (.invokevirtual 15, 3) := by decide +kernel
theorem dX1_init_20 : decode cX1_init 20 = .ok (.putfield 21, 3) := by decide +kernel
theorem dX1_init_23 : decode cX1_init 23 = .ok (.aload_n 0, 1) := by decide +kernel
theorem dX1_init_24 : decode cX1_init 24 = .ok (.aload 5, 2) := by decide +kernel
theorem dX1_init_26 : decode cX1_init 26 = .ok (.invokevirtual 25, 3) := by decide +kernel
theorem dX1_init_29 : decode cX1_init 29 = .ok (.putfield 29, 3) := by decide +kernel
theorem dX1_init_32 : decode cX1_init 32 = .ok (.aload_n 0, 1) := by decide +kernel
theorem dX1_init_33 : decode cX1_init 33 = .ok (.aload_n 0, 1) := by decide +kernel
theorem dX1_init_34 : decode cX1_init 34 = .ok (.getfield 29, 3) := by decide +kernel
theorem dX1_init_37 : decode cX1_init 37 = .ok (.putfield 32, 3) := by decide +kernel
theorem dX1_init_40 : decode cX1_init 40 = .ok (.return_, 1) := by decide +kernel
theorem dX1_waits_0 : decode cX1_waits 0 = .ok (.iconst 0, 1) := by decide +kernel
theorem dX1_waits_1 : decode cX1_waits 1 = .ok (.ireturn, 1) := by decide +kernel
set_option maxRecDepth 20000 in
theorem ggX1_goOn_X0_at : GoodIn wsX1_goOn wsX0_at := goodIn_r _ [11, 12, 71] (by decide +kernel) (by decide +kernel)
set_option maxRecDepth 20000 in
theorem gX1_goOn_X0_at : GoodIn wsX1_goOn (wsV RX1 41 RX0 yX0_at wsX0_at) := goodIn_app (goodIn_of _ (by decide +kernel)) ggX1_goOn_X0_at
set_option maxRecDepth 20000 in
theorem ggX1_goOn_X5_hasDoneAllSteps : GoodIn wsX1_goOn wsX5_hasDoneAllSteps := goodIn_r _ [18, 19, 20, 21, 22, 23, 24, 25, 26, 27, 28, 29, 30, 31, 32, 33, 34, 35, 36, 37, 38, 39, 40, 41, 42, 43, 44, 45, 46, 47, 48, 49, 50, 51, 52, 53, 54, 55, 56, 57, 58, 59, 60, 61, 62, 63, 64, 65, 66, 67, 68, 69, 70] (by decide +kernel) (by decide +kernel)
set_option maxRecDepth 20000 in
theorem gX1_goOn_X5_hasDoneAllSteps_u47X1 : GoodIn wsX1_goOn (va_wsU RX1 47 RX1 "HouseWorkers$Work" ⟨"HouseWorkers$QuestionWork", "hasDoneAllSteps", "()Z"⟩ yX5_hasDoneAllSteps wsX5_hasDoneAllSteps) := goodIn_app (goodIn_of _ (by decide +kernel)) ggX1_goOn_X5_hasDoneAllSteps
theorem dX1_goOn_0 : decode cX1_goOn 0 = .ok (.aload_n 0, 1) := by decide +kernel
theorem dX1_goOn_1 : decode cX1_goOn 1 = .ok (.bipush 31, 2) := by decide +kernel
theorem dX1_goOn_3 : decode cX1_goOn 3 = .ok (.aload_n 0, 1) := by decide +kernel
theorem dX1_goOn_4 : decode cX1_goOn 4 = .ok (.getfield 35, 3) := by decide +kernel
theorem dX1_goOn_7 : decode cX1_goOn 7 = .ok (.imul, 1) := by decide +kernel
theorem dX1_goOn_8 : decode cX1_goOn 8 = .ok (.aload_n 0, 1) := by decide +kernel
theorem dX1_goOn_9 : decode cX1_goOn 9 = .ok (.getfield 21, 3) := by decide +kernel
theorem dX1_goOn_12 : decode cX1_goOn 12 = .ok (.aload_n 0, 1) := by decide +kernel
theorem dX1_goOn_13 : decode cX1_goOn 13 = .ok (.getfield 9, 3) := by decide +kernel
theorem dX1_goOn_16 : decode cX1_goOn 16 = .ok (.aload_n 0, 1) := by decide +kernel
theorem dX1_goOn_17 : decode cX1_goOn 17 = .ok (.getfield 38, 3) := by decide +kernel
theorem dX1_goOn_20 : decode cX1_goOn 20 = .ok (.iadd, 1) := by decide +kernel
theorem dX1_goOn_21 : decode cX1_goOn 21 = .ok (.invokevirtual 41, 3) := by decide +kernel
theorem dX1_goOn_24 : decode cX1_goOn 24 = .ok (.iadd, 1) := by decide +kernel
theorem dX1_goOn_25 : decode cX1_goOn 25 = .ok (.putfield 35, 3) := by decide +kernel
theorem dX1_goOn_28 : decode cX1_goOn 28 = .ok (.aload_n 0, 1) := by decide +kernel
theorem dX1_goOn_29 : decode cX1_goOn 29 = .ok (.dup, 1) := by decide +kernel
theorem dX1_goOn_30 : decode cX1_goOn 30 = .ok (.getfield 38, 3) := by decide +kernel
theorem dX1_goOn_33 : decode cX1_goOn 33 = .ok (.iconst 1, 1) := by decide +kernel
theorem dX1_goOn_34 : decode cX1_goOn 34 = .ok (.iadd, 1) := by decide +kernel
theorem dX1_goOn_35 : decode cX1_goOn 35 = .ok (.putfield 38, 3) := by decide +kernel
theorem dX1_goOn_38 : decode cX1_goOn 38 = .ok (.aload_n 0, 1) := by decide +kernel
theorem dX1_goOn_39 : decode cX1_goOn 39 = .ok (.invokevirtual 47, 3) := by decide +kernel
theorem dX1_goOn_42 : decode cX1_goOn 42 = .ok (.ifCond .eq 7, 3) := by decide +kernel
theorem dX1_goOn_45 : decode cX1_goOn 45 = .ok (.iconst 2, 1) := by decide +kernel
theorem dX1_goOn_46 : decode cX1_goOn 46 = .ok (.goto 4, 3) := by decide +kernel
theorem dX1_goOn_49 : decode cX1_goOn 49 = .ok (.iconst 1, 1) := by decide +kernel
theorem dX1_goOn_50 : decode cX1_goOn 50 = .ok (.ireturn, 1) := by decide +kernel
set_option maxRecDepth 20000 in
theorem ggX2_init_X5_init : GoodIn wsX2_init wsX5_init := goodIn_r _ [8, 9, 10, 11, 12, 13, 14, 15, 16, 17, 18, 37, 38, 39, 40, 41, 42, 43, 44, 45, 46, 47, 48, 49, 25, 26, 27, 28, 29, 30, 31, 32, 33, 34, 35, 36, 50, 51, 52, 53, 54, 55, 56, 57, 58, 59, 60, 61, 62, 63, 64, 65, 66, 67, 68, 69, 70, 71, 72, 73, 74] (by decide +kernel) (by decide +kernel)
set_option maxRecDepth 20000 in
theorem gX2_init_X5_init : GoodIn wsX2_init (wsX5_init) := ggX2_init_X5_init
set_option maxRecDepth 20000 in
theorem ggX2_init_X0_init : GoodIn wsX2_init wsX0_init := goodIn_r _ [20, 21, 10, 11, 22, 23, 24] (by decide +kernel) (by decide +kernel)
set_option maxRecDepth 20000 in
theorem gX2_init_X0_init_n11 : GoodIn wsX2_init (wsX0_init) := ggX2_init_X0_init
theorem dX2_init_0 : decode cX2_init 0 = .ok (.aload_n 0, 1) := by decide +kernel
theorem dX2_init_1 : decode cX2_init 1 = .ok (.iload_n 1, 1) := by decide +kernel
theorem dX2_init_2 : decode cX2_init 2 = .ok (.iconst 2, 1) := by decide +kernel
theorem dX2_init_3 : decode cX2_init 3 = .ok (.iload_n 2, 1) := by decide +kernel
theorem dX2_init_4 : decode cX2_init 4 = .ok (.iload_n 3, 1) := by decide +kernel
theorem dX2_init_5 : decode cX2_init 5 = .ok (.invokespecial 3, 3) := by decide +kernel
theorem dX2_init_8 : decode cX2_init 8 = .ok (.aload_n 0, 1) := by decide +kernel
theorem dX2_init_9 : decode cX2_init 9 = .ok (.new 9, 3) := by decide +kernel
theorem dX2_init_12 : decode cX2_init 12 = .ok (.dup, 1) := by decide +kernel
theorem dX2_init_13 : decode cX2_init 13 = .ok (.invokespecial 11, 3) := by decide +kernel
theorem dX2_init_16 : decode cX2_init 16 = .ok (.putfield 14, 3) := by decide +kernel
theorem dX2_init_19 : decode cX2_init 19 = .ok (.return_, 1) := by decide +kernel
theorem dX2_waits_0 : decode cX2_waits 0 = .ok (.aload_n 0, 1) := by decide +kernel
theorem dX2_waits_1 : decode cX2_waits 1 = .ok (.getfield 20, 3) := by decide +kernel
theorem dX2_waits_4 : decode cX2_waits 4 = .ok (.ifCond .ne 11, 3) := by decide +kernel
theorem dX2_waits_7 : decode cX2_waits 7 = .ok (.iload_n 2, 1) := by decide +kernel
theorem dX2_waits_8 : decode cX2_waits 8 = .ok (.ifCond .ne 7, 3) := by decide +kernel
theorem dX2_waits_11 : decode cX2_waits 11 = .ok (.iconst 1, 1) := by decide +kernel
theorem dX2_waits_12 : decode cX2_waits 12 = .ok (.goto 4, 3) := by decide +kernel
theorem dX2_waits_15 : decode cX2_waits 15 = .ok (.iconst 0, 1) := by decide +kernel
theorem dX2_waits_16 : decode cX2_waits 16 = .ok (.ireturn, 1) := by decide +kernel
set_option maxRecDepth 20000 in
theorem ggX2_goOn_X5_hasDoneAllSteps : GoodIn wsX2_goOn wsX5_hasDoneAllSteps := goodIn_r _ [13, 14, 15, 114, 115, 116, 117, 118, 119, 120, 121, 122, 123, 124, 125, 126, 102, 103, 104, 105, 106, 107, 108, 109, 110, 111, 112, 113, 127, 128, 129, 130, 131, 132, 133, 134, 135, 136, 137, 138, 139, 140, 141, 142, 143, 144, 145, 146, 147, 148, 149, 150, 151] (by decide +kernel) (by decide +kernel)
set_option maxRecDepth 20000 in
theorem gX2_goOn_X5_hasDoneAllSteps_u24X2 : GoodIn wsX2_goOn (va_wsU RX2 24 RX2 "HouseWorkers$Work" ⟨"HouseWorkers$ReasoningWork", "hasDoneAllSteps", "()Z"⟩ yX5_hasDoneAllSteps wsX5_hasDoneAllSteps) := goodIn_app (goodIn_of _ (by decide +kernel)) ggX2_goOn_X5_hasDoneAllSteps
set_option maxRecDepth 20000 in
theorem ggX2_goOn_X3_commit : GoodIn wsX2_goOn wsX3_commit := goodIn_r _ [20, 21, 22, 23, 24, 25, 26, 27, 28, 29, 30, 31, 32, 33, 34, 35, 36, 37, 38, 39, 40, 41, 42, 43, 44, 45, 46, 47, 48, 49, 50, 51, 52, 53, 54, 55, 56, 57, 58, 59, 60, 61, 62, 63, 64, 65, 66, 67, 68, 69, 70, 71, 72, 73, 74, 75, 76, 77, 78, 79, 80, 81, 82, 152, 153, 154, 155, 156, 157] (by decide +kernel) (by decide +kernel)
set_option maxRecDepth 20000 in
theorem gX2_goOn_X3_commit : GoodIn wsX2_goOn (wsV RX2 28 RX3 yX3_commit wsX3_commit) := goodIn_app (goodIn_of _ (by decide +kernel)) ggX2_goOn_X3_commit
set_option maxRecDepth 20000 in
theorem ggX2_goOn_X3_latest : GoodIn wsX2_goOn wsX3_latest := goodIn_r _ [86, 22, 152, 153, 154] (by decide +kernel) (by decide +kernel)
set_option maxRecDepth 20000 in
theorem gX2_goOn_X3_latest : GoodIn wsX2_goOn (wsV RX2 37 RX3 yX3_latest wsX3_latest) := goodIn_app (goodIn_of _ (by decide +kernel)) ggX2_goOn_X3_latest
set_option maxRecDepth 20000 in
theorem ggX2_goOn_X0_takeAll : GoodIn wsX2_goOn wsX0_takeAll := goodIn_r _ [91, 92, 158] (by decide +kernel) (by decide +kernel)
set_option maxRecDepth 20000 in
theorem gX2_goOn_X0_takeAll : GoodIn wsX2_goOn (wsV RX2 41 RX0 yX0_takeAll wsX0_takeAll) := goodIn_app (goodIn_of _ (by decide +kernel)) ggX2_goOn_X0_takeAll
set_option maxRecDepth 20000 in
theorem ggX2_goOn_X3_latestNumber : GoodIn wsX2_goOn wsX3_latestNumber := goodIn_r _ [96, 21, 79, 80, 81, 26, 82, 31, 152, 153, 154, 155, 156, 157] (by decide +kernel) (by decide +kernel)
set_option maxRecDepth 20000 in
theorem gX2_goOn_X3_latestNumber : GoodIn wsX2_goOn (wsV RX2 45 RX3 yX3_latestNumber wsX3_latestNumber) := goodIn_app (goodIn_of _ (by decide +kernel)) ggX2_goOn_X3_latestNumber
set_option maxRecDepth 20000 in
theorem ggX2_goOn_X0_spread : GoodIn wsX2_goOn wsX0_spread := goodIn_r _ [100, 92, 101, 46, 47, 48, 158] (by decide +kernel) (by decide +kernel)
set_option maxRecDepth 20000 in
theorem gX2_goOn_X0_spread : GoodIn wsX2_goOn (wsV RX2 52 RX0 yX0_spread wsX0_spread) := goodIn_app (goodIn_of _ (by decide +kernel)) ggX2_goOn_X0_spread
theorem dX2_goOn_0 : decode cX2_goOn 0 = .ok (.aload_n 0, 1) := by decide +kernel
theorem dX2_goOn_1 : decode cX2_goOn 1 = .ok (.invokevirtual 24, 3) := by decide +kernel
theorem dX2_goOn_4 : decode cX2_goOn 4 = .ok (.ifCond .eq 17, 3) := by decide +kernel
theorem dX2_goOn_7 : decode cX2_goOn 7 = .ok (.aload_n 0, 1) := by decide +kernel
theorem dX2_goOn_8 : decode cX2_goOn 8 = .ok (.aload_n 1, 1) := by decide +kernel
theorem dX2_goOn_9 : decode cX2_goOn 9 = .ok (.aload_n 0, 1) := by decide +kernel
theorem dX2_goOn_10 : decode cX2_goOn 10 = .ok (.getfield 14, 3) := by decide +kernel
theorem dX2_goOn_13 : decode cX2_goOn 13 = .ok (.invokevirtual 28, 3) := by decide +kernel
theorem dX2_goOn_16 : decode cX2_goOn 16 = .ok (.putfield 34, 3) := by decide +kernel
theorem dX2_goOn_19 : decode cX2_goOn 19 = .ok (.iconst 2, 1) := by decide +kernel
theorem dX2_goOn_20 : decode cX2_goOn 20 = .ok (.ireturn, 1) := by decide +kernel
theorem dX2_goOn_21 : decode cX2_goOn 21 = .ok (.aload_n 0, 1) := by decide +kernel
theorem dX2_goOn_22 : decode cX2_goOn 22 = .ok (.getfield 20, 3) := by decide +kernel
theorem dX2_goOn_25 : decode cX2_goOn 25 = .ok (.ifCond .ne 22, 3) := by decide +kernel
theorem dX2_goOn_28 : decode cX2_goOn 28 = .ok (.aload_n 0, 1) := by decide +kernel
theorem dX2_goOn_29 : decode cX2_goOn 29 = .ok (.getfield 14, 3) := by decide +kernel
theorem dX2_goOn_32 : decode cX2_goOn 32 = .ok (.aload_n 1, 1) := by decide +kernel
theorem dX2_goOn_33 : decode cX2_goOn 33 = .ok (.invokevirtual 37, 3) := by decide +kernel
theorem dX2_goOn_36 : decode cX2_goOn 36 = .ok (.invokevirtual 41, 3) := by decide +kernel
theorem dX2_goOn_39 : decode cX2_goOn 39 = .ok (.aload_n 0, 1) := by decide +kernel
theorem dX2_goOn_40 : decode cX2_goOn 40 = .ok (.aload_n 1, 1) := by decide +kernel
theorem dX2_goOn_41 : decode cX2_goOn 41 = .ok (.invokevirtual 45, 3) := by decide +kernel
theorem dX2_goOn_44 : decode cX2_goOn 44 = .ok (.putfield 49, 3) := by decide +kernel
theorem dX2_goOn_47 : decode cX2_goOn 47 = .ok (.aload_n 0, 1) := by decide +kernel
theorem dX2_goOn_48 : decode cX2_goOn 48 = .ok (.getfield 14, 3) := by decide +kernel
theorem dX2_goOn_51 : decode cX2_goOn 51 = .ok (.invokevirtual 52, 3) := by decide +kernel
theorem dX2_goOn_54 : decode cX2_goOn 54 = .ok (.aload_n 0, 1) := by decide +kernel
theorem dX2_goOn_55 : decode cX2_goOn 55 = .ok (.dup, 1) := by decide +kernel
theorem dX2_goOn_56 : decode cX2_goOn 56 = .ok (.getfield 20, 3) := by decide +kernel
theorem dX2_goOn_59 : decode cX2_goOn 59 = .ok (.iconst 1, 1) := by decide +kernel
theorem dX2_goOn_60 : decode cX2_goOn 60 = .ok (.iadd, 1) := by decide +kernel
theorem dX2_goOn_61 : decode cX2_goOn 61 = .ok (.putfield 20, 3) := by decide +kernel
theorem dX2_goOn_64 : decode cX2_goOn 64 = .ok (.iconst 1, 1) := by decide +kernel
theorem dX2_goOn_65 : decode cX2_goOn 65 = .ok (.ireturn, 1) := by decide +kernel
set_option maxRecDepth 20000 in
theorem ggX3_init_X0_init : GoodIn wsX3_init wsX0_init := goodIn_r _ [14, 15, 2, 3, 16, 17, 33] (by decide +kernel) (by decide +kernel)
set_option maxRecDepth 20000 in
theorem gX3_init_X0_init_n9 : GoodIn wsX3_init (wsX0_init) := ggX3_init_X0_init
set_option maxRecDepth 20000 in
theorem ggX3_init_Jx4a65c_init_da8c8 : GoodIn wsX3_init wsJx4a65c_init_da8c8 := goodIn_r _ [20, 21, 22, 23, 24, 25, 26, 27, 28, 29, 30, 31, 32, 2, 3, 37, 38, 39] (by decide +kernel) (by decide +kernel)
set_option maxRecDepth 20000 in
theorem gX3_init_Jx4a65c_init_da8c8 : GoodIn wsX3_init (wsJx4a65c_init_da8c8) := ggX3_init_Jx4a65c_init_da8c8
theorem dX3_init_0 : decode cX3_init 0 = .ok (.aload_n 0, 1) := by decide +kernel
theorem dX3_init_1 : decode cX3_init 1 = .ok (.invokespecial 1, 3) := by decide +kernel
theorem dX3_init_4 : decode cX3_init 4 = .ok (.aload_n 0, 1) := by decide +kernel
theorem dX3_init_5 : decode cX3_init 5 = .ok (.new 7, 3) := by decide +kernel
theorem dX3_init_8 : decode cX3_init 8 = .ok (.dup, 1) := by decide +kernel
theorem dX3_init_9 : decode cX3_init 9 = .ok (.invokespecial 9, 3) := by decide +kernel
theorem dX3_init_12 : decode cX3_init 12 = .ok (.putfield 10, 3) := by decide +kernel
theorem dX3_init_15 : decode cX3_init 15 = .ok (.aload_n 0, 1) := by decide +kernel
theorem dX3_init_16 : decode cX3_init 16 = .ok (.new 16, 3) := by decide +kernel
theorem dX3_init_19 : decode cX3_init 19 = .ok (.dup, 1) := by decide +kernel
theorem dX3_init_20 : decode cX3_init 20 = .ok (.invokespecial 18, 3) := by decide +kernel
theorem dX3_init_23 : decode cX3_init 23 = .ok (.putfield 19, 3) := by decide +kernel
theorem dX3_init_26 : decode cX3_init 26 = .ok (.aload_n 0, 1) := by decide +kernel
theorem dX3_init_27 : decode cX3_init 27 = .ok (.aload_n 0, 1) := by decide +kernel
theorem dX3_init_28 : decode cX3_init 28 = .ok (.getfield 10, 3) := by decide +kernel
theorem dX3_init_31 : decode cX3_init 31 = .ok (.putfield 23, 3) := by decide +kernel
theorem dX3_init_34 : decode cX3_init 34 = .ok (.return_, 1) := by decide +kernel
theorem dX3_latest_0 : decode cX3_latest 0 = .ok (.aload_n 0, 1) := by decide +kernel
theorem dX3_latest_1 : decode cX3_latest 1 = .ok (.getfield 23, 3) := by decide +kernel
theorem dX3_latest_4 : decode cX3_latest 4 = .ok (.areturn, 1) := by decide +kernel
set_option maxRecDepth 20000 in
theorem ggX3_latestNumber_Jx4a65c_size_8abf5 : GoodIn wsX3_latestNumber wsJx4a65c_size_8abf5 := goodIn_r _ [6, 7, 11, 12, 13] (by decide +kernel) (by decide +kernel)
set_option maxRecDepth 20000 in
theorem gX3_latestNumber_Jx4a65c_size_8abf5 : GoodIn wsX3_latestNumber (wsV RX3 26 RJx4a65c yJx4a65c_size_8abf5 wsJx4a65c_size_8abf5) := goodIn_app (goodIn_of _ (by decide +kernel)) ggX3_latestNumber_Jx4a65c_size_8abf5
theorem dX3_latestNumber_0 : decode cX3_latestNumber 0 = .ok (.aload_n 0, 1) := by decide +kernel
theorem dX3_latestNumber_1 : decode cX3_latestNumber 1 = .ok (.getfield 19, 3) := by decide +kernel
theorem dX3_latestNumber_4 : decode cX3_latestNumber 4 = .ok (.invokevirtual 26, 3) := by decide +kernel
theorem dX3_latestNumber_7 : decode cX3_latestNumber 7 = .ok (.ireturn, 1) := by decide +kernel
set_option maxRecDepth 20000 in
theorem ggX3_size_Jx4a65c_size_8abf5 : GoodIn wsX3_size wsJx4a65c_size_8abf5 := goodIn_r _ [6, 7, 11, 12, 13] (by decide +kernel) (by decide +kernel)
set_option maxRecDepth 20000 in
theorem gX3_size_Jx4a65c_size_8abf5 : GoodIn wsX3_size (wsV RX3 26 RJx4a65c yJx4a65c_size_8abf5 wsJx4a65c_size_8abf5) := goodIn_app (goodIn_of _ (by decide +kernel)) ggX3_size_Jx4a65c_size_8abf5
theorem dX3_size_0 : decode cX3_size 0 = .ok (.aload_n 0, 1) := by decide +kernel
theorem dX3_size_1 : decode cX3_size 1 = .ok (.getfield 19, 3) := by decide +kernel
theorem dX3_size_4 : decode cX3_size 4 = .ok (.invokevirtual 26, 3) := by decide +kernel
theorem dX3_size_7 : decode cX3_size 7 = .ok (.iconst 1, 1) := by decide +kernel
theorem dX3_size_8 : decode cX3_size 8 = .ok (.iadd, 1) := by decide +kernel
theorem dX3_size_9 : decode cX3_size 9 = .ok (.ireturn, 1) := by decide +kernel
set_option maxRecDepth 20000 in
theorem ggX3_find_Jx4a65c_size_8abf5 : GoodIn wsX3_find wsJx4a65c_size_8abf5 := goodIn_r _ [8, 9, 30, 31, 32] (by decide +kernel) (by decide +kernel)
set_option maxRecDepth 20000 in
theorem gX3_find_Jx4a65c_size_8abf5 : GoodIn wsX3_find (wsV RX3 26 RJx4a65c yJx4a65c_size_8abf5 wsJx4a65c_size_8abf5) := goodIn_app (goodIn_of _ (by decide +kernel)) ggX3_find_Jx4a65c_size_8abf5
set_option maxRecDepth 20000 in
theorem ggX3_find_Jx4a65c_get_915e3 : GoodIn wsX3_find wsJx4a65c_get_915e3 := goodIn_r _ [13, 9, 14, 15, 16, 17, 18, 19, 20, 21, 22, 23, 24, 7, 25, 26, 30, 31, 32] (by decide +kernel) (by decide +kernel)
set_option maxRecDepth 20000 in
theorem gX3_find_Jx4a65c_get_915e3 : GoodIn wsX3_find (wsV RX3 30 RJx4a65c yJx4a65c_get_915e3 wsJx4a65c_get_915e3) := goodIn_app (goodIn_of _ (by decide +kernel)) ggX3_find_Jx4a65c_get_915e3
theorem dX3_find_0 : decode cX3_find 0 = .ok (.iload_n 1, 1) := by decide +kernel
theorem dX3_find_1 : decode cX3_find 1 = .ok (.ifCond .ne 8, 3) := by decide +kernel
theorem dX3_find_4 : decode cX3_find 4 = .ok (.aload_n 0, 1) := by decide +kernel
theorem dX3_find_5 : decode cX3_find 5 = .ok (.getfield 10, 3) := by decide +kernel
