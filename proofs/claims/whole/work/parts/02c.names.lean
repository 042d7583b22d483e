theorem dX3_find_8 : decode cX3_find 8 = .ok (.areturn, 1) := by decide +kernel
theorem dX3_find_9 : decode cX3_find 9 = .ok (.iload_n 1, 1) := by decide +kernel
theorem dX3_find_10 : decode cX3_find 10 = .ok (.ifCond .lt 14, 3) := by decide +kernel
theorem dX3_find_13 : decode cX3_find 13 = .ok (.iload_n 1, 1) := by decide +kernel
theorem dX3_find_14 : decode cX3_find 14 = .ok (.aload_n 0, 1) := by decide +kernel
theorem dX3_find_15 : decode cX3_find 15 = .ok (.getfield 19, 3) := by decide +kernel
theorem dX3_find_18 : decode cX3_find 18 = .ok (.invokevirtual 26, 3) := by decide +kernel
theorem dX3_find_21 : decode cX3_find 21 = .ok (.if_icmp .le 5, 3) := by decide +kernel
theorem dX3_find_24 : decode cX3_find 24 = .ok (.aconst_null, 1) := by decide +kernel
theorem dX3_find_25 : decode cX3_find 25 = .ok (.areturn, 1) := by decide +kernel
theorem dX3_find_26 : decode cX3_find 26 = .ok (.aload_n 0, 1) := by decide +kernel
theorem dX3_find_27 : decode cX3_find 27 = .ok (.getfield 19, 3) := by decide +kernel
theorem dX3_find_30 : decode cX3_find 30 = .ok (.iload_n 1, 1) := by decide +kernel
theorem dX3_find_31 : decode cX3_find 31 = .ok (.iconst 1, 1) := by decide +kernel
theorem dX3_find_32 : decode cX3_find 32 = .ok (.isub, 1) := by decide +kernel
theorem dX3_find_33 : decode cX3_find 33 = .ok (.invokevirtual 30, 3) := by decide +kernel
theorem dX3_find_36 : decode cX3_find 36 = .ok (.checkcast 7, 3) := by decide +kernel
theorem dX3_find_39 : decode cX3_find 39 = .ok (.areturn, 1) := by decide +kernel
set_option maxRecDepth 20000 in
theorem ggX3_commit_Jx4a65c_add_9ea2d : GoodIn wsX3_commit wsJx4a65c_add_9ea2d := goodIn_r _ [7, 8, 9, 10, 11, 12, 13, 14, 6, 15, 16, 17, 18, 19, 20, 21, 22, 23, 24, 25, 26, 27, 28, 29, 30, 31, 32, 33, 34, 35, 36, 37, 38, 39, 40, 41, 42, 43, 44, 45, 46, 47, 48, 49, 50, 51, 52, 53, 54, 55, 56, 57, 58, 66, 67, 68] (by decide +kernel) (by decide +kernel)
set_option maxRecDepth 20000 in
theorem gX3_commit_Jx4a65c_add_9ea2d : GoodIn wsX3_commit (wsV RX3 34 RJx4a65c yJx4a65c_add_9ea2d wsJx4a65c_add_9ea2d) := goodIn_app (goodIn_of _ (by decide +kernel)) ggX3_commit_Jx4a65c_add_9ea2d
set_option maxRecDepth 20000 in
theorem ggX3_commit_Jx4a65c_size_8abf5 : GoodIn wsX3_commit wsJx4a65c_size_8abf5 := goodIn_r _ [62, 11, 66, 67, 68] (by decide +kernel) (by decide +kernel)
set_option maxRecDepth 20000 in
theorem gX3_commit_Jx4a65c_size_8abf5 : GoodIn wsX3_commit (wsV RX3 26 RJx4a65c yJx4a65c_size_8abf5 wsJx4a65c_size_8abf5) := goodIn_app (goodIn_of _ (by decide +kernel)) ggX3_commit_Jx4a65c_size_8abf5
theorem dX3_commit_0 : decode cX3_commit 0 = .ok (.aload_n 0, 1) := by decide +kernel
theorem dX3_commit_1 : decode cX3_commit 1 = .ok (.getfield 19, 3) := by decide +kernel
theorem dX3_commit_4 : decode cX3_commit 4 = .ok (.aload_n 1, 1) := by decide +kernel
theorem dX3_commit_5 : decode cX3_commit 5 = .ok (.invokevirtual 34, 3) := by decide +kernel
theorem dX3_commit_8 : decode cX3_commit 8 = .ok (.pop, 1) := by decide +kernel
theorem dX3_commit_9 : decode cX3_commit 9 = .ok (.aload_n 0, 1) := by decide +kernel
theorem dX3_commit_10 : decode cX3_commit 10 = .ok (.aload_n 1, 1) := by decide +kernel
theorem dX3_commit_11 : decode cX3_commit 11 = .ok (.putfield 23, 3) := by decide +kernel
theorem dX3_commit_14 : decode cX3_commit 14 = .ok (.aload_n 0, 1) := by decide +kernel
theorem dX3_commit_15 : decode cX3_commit 15 = .ok (.getfield 19, 3) := by decide +kernel
theorem dX3_commit_18 : decode cX3_commit 18 = .ok (.invokevirtual 26, 3) := by decide +kernel
theorem dX3_commit_21 : decode cX3_commit 21 = .ok (.ireturn, 1) := by decide +kernel
set_option maxRecDepth 20000 in
theorem ggX4_init_X5_init : GoodIn wsX4_init wsX5_init := goodIn_r _ [6, 7, 8, 9, 10, 11, 12, 13, 14, 15, 16, 29, 30, 31, 32, 33, 34, 35, 36, 37, 38, 39, 40, 41, 42, 43, 44, 45, 46, 47, 48, 49, 50, 51, 52, 53, 54, 55, 56, 57, 58, 59, 60, 61, 62, 63, 64, 65, 66, 67, 68, 69, 70, 71, 72, 73, 74, 75, 76, 77, 78] (by decide +kernel) (by decide +kernel)
set_option maxRecDepth 20000 in
theorem gX4_init_X5_init : GoodIn wsX4_init (wsX5_init) := ggX4_init_X5_init
set_option maxRecDepth 20000 in
theorem ggX4_init_X3_latestNumber : GoodIn wsX4_init wsX3_latestNumber := goodIn_r _ [21, 22, 23, 24, 25, 26, 27, 28, 79, 80, 81, 82, 83, 84] (by decide +kernel) (by decide +kernel)
set_option maxRecDepth 20000 in
theorem gX4_init_X3_latestNumber : GoodIn wsX4_init (wsV RX4 9 RX3 yX3_latestNumber wsX3_latestNumber) := goodIn_app (goodIn_of _ (by decide +kernel)) ggX4_init_X3_latestNumber
theorem dX4_init_0 : decode cX4_init 0 = .ok (.aload_n 0, 1) := by decide +kernel
theorem dX4_init_1 : decode cX4_init 1 = .ok (.iload_n 1, 1) := by decide +kernel
theorem dX4_init_2 : decode cX4_init 2 = .ok (.iconst 3, 1) := by decide +kernel
theorem dX4_init_3 : decode cX4_init 3 = .ok (.iconst 0, 1) := by decide +kernel
theorem dX4_init_4 : decode cX4_init 4 = .ok (.iconst 0, 1) := by decide +kernel
theorem dX4_init_5 : decode cX4_init 5 = .ok (.invokespecial 3, 3) := by decide +kernel
theorem dX4_init_8 : decode cX4_init 8 = .ok (.aload_n 0, 1) := by decide +kernel
theorem dX4_init_9 : decode cX4_init 9 = .ok (.aload_n 2, 1) := by decide +kernel
theorem dX4_init_10 : decode cX4_init 10 = .ok (.invokevirtual 9, 3) := by decide +kernel
theorem dX4_init_13 : decode cX4_init 13 = .ok (.putfield 15, 3) := by decide +kernel
theorem dX4_init_16 : decode cX4_init 16 = .ok (.return_, 1) := by decide +kernel
set_option maxRecDepth 20000 in
theorem ggX4_waits_X3_latestNumber : GoodIn wsX4_waits wsX3_latestNumber := goodIn_r _ [7, 8, 9, 10, 11, 12, 13, 14, 65, 66, 67, 68, 69, 70] (by decide +kernel) (by decide +kernel)
set_option maxRecDepth 20000 in
theorem gX4_waits_X3_latestNumber : GoodIn wsX4_waits (wsV RX4 9 RX3 yX3_latestNumber wsX3_latestNumber) := goodIn_app (goodIn_of _ (by decide +kernel)) ggX4_waits_X3_latestNumber
theorem dX4_waits_0 : decode cX4_waits 0 = .ok (.aload_n 0, 1) := by decide +kernel
theorem dX4_waits_1 : decode cX4_waits 1 = .ok (.getfield 15, 3) := by decide +kernel
theorem dX4_waits_4 : decode cX4_waits 4 = .ok (.aload_n 1, 1) := by decide +kernel
theorem dX4_waits_5 : decode cX4_waits 5 = .ok (.invokevirtual 9, 3) := by decide +kernel
theorem dX4_waits_8 : decode cX4_waits 8 = .ok (.if_icmp .lt 7, 3) := by decide +kernel
theorem dX4_waits_11 : decode cX4_waits 11 = .ok (.iconst 1, 1) := by decide +kernel
theorem dX4_waits_12 : decode cX4_waits 12 = .ok (.goto 4, 3) := by decide +kernel
theorem dX4_waits_15 : decode cX4_waits 15 = .ok (.iconst 0, 1) := by decide +kernel
theorem dX4_waits_16 : decode cX4_waits 16 = .ok (.ireturn, 1) := by decide +kernel
set_option maxRecDepth 20000 in
theorem ggX4_goOn_X3_find : GoodIn wsX4_goOn wsX3_find := goodIn_r _ [11, 12, 13, 14, 15, 16, 17, 18, 19, 20, 21, 22, 23, 24, 25, 26, 27, 28, 29, 30, 31, 32, 33, 34, 35, 36, 37, 94, 95, 96, 97, 98, 99] (by decide +kernel) (by decide +kernel)
set_option maxRecDepth 20000 in
theorem gX4_goOn_X3_find : GoodIn wsX4_goOn (wsV RX4 21 RX3 yX3_find wsX3_find) := goodIn_app (goodIn_of _ (by decide +kernel)) ggX4_goOn_X3_find
set_option maxRecDepth 20000 in
theorem ggX4_goOn_X0_sum : GoodIn wsX4_goOn wsX0_sum := goodIn_r _ [42, 43, 100] (by decide +kernel) (by decide +kernel)
set_option maxRecDepth 20000 in
theorem gX4_goOn_X0_sum : GoodIn wsX4_goOn (wsV RX4 28 RX0 yX0_sum wsX0_sum) := goodIn_app (goodIn_of _ (by decide +kernel)) ggX4_goOn_X0_sum
theorem dX4_goOn_0 : decode cX4_goOn 0 = .ok (.aload_n 1, 1) := by decide +kernel
theorem dX4_goOn_1 : decode cX4_goOn 1 = .ok (.aload_n 0, 1) := by decide +kernel
theorem dX4_goOn_2 : decode cX4_goOn 2 = .ok (.getfield 15, 3) := by decide +kernel
theorem dX4_goOn_5 : decode cX4_goOn 5 = .ok (.iconst 1, 1) := by decide +kernel
theorem dX4_goOn_6 : decode cX4_goOn 6 = .ok (.iadd, 1) := by decide +kernel
theorem dX4_goOn_7 : decode cX4_goOn 7 = .ok (.invokevirtual 21, 3) := by decide +kernel
theorem dX4_goOn_10 : decode cX4_goOn 10 = .ok (.astore_n 2, 1) := by decide +kernel
theorem dX4_goOn_11 : decode cX4_goOn 11 = .ok (.aload_n 2, 1) := by decide +kernel
theorem dX4_goOn_12 : decode cX4_goOn 12 = .ok (.ifnull 39, 3) := by decide +kernel
theorem dX4_goOn_15 : decode cX4_goOn 15 = .ok (.aload_n 0, 1) := by decide +kernel
theorem dX4_goOn_16 : decode cX4_goOn 16 = .ok (.bipush 31, 2) := by decide +kernel
theorem dX4_goOn_18 : decode cX4_goOn 18 = .ok (.aload_n 0, 1) := by decide +kernel
theorem dX4_goOn_19 : decode cX4_goOn 19 = .ok (.getfield 25, 3) := by decide +kernel
theorem dX4_goOn_22 : decode cX4_goOn 22 = .ok (.imul, 1) := by decide +kernel
theorem dX4_goOn_23 : decode cX4_goOn 23 = .ok (.aload_n 2, 1) := by decide +kernel
theorem dX4_goOn_24 : decode cX4_goOn 24 = .ok (.invokevirtual 28, 3) := by decide +kernel
theorem dX4_goOn_27 : decode cX4_goOn 27 = .ok (.iadd, 1) := by decide +kernel
theorem dX4_goOn_28 : decode cX4_goOn 28 = .ok (.putfield 25, 3) := by decide +kernel
theorem dX4_goOn_31 : decode cX4_goOn 31 = .ok (.aload_n 0, 1) := by decide +kernel
theorem dX4_goOn_32 : decode cX4_goOn 32 = .ok (.dup, 1) := by decide +kernel
theorem dX4_goOn_33 : decode cX4_goOn 33 = .ok (.getfield 15, 3) := by decide +kernel
theorem dX4_goOn_36 : decode cX4_goOn 36 = .ok (.iconst 1, 1) := by decide +kernel
theorem dX4_goOn_37 : decode cX4_goOn 37 = .ok (.iadd, 1) := by decide +kernel
theorem dX4_goOn_38 : decode cX4_goOn 38 = .ok (.putfield 15, 3) := by decide +kernel
theorem dX4_goOn_41 : decode cX4_goOn 41 = .ok (.aload_n 0, 1) := by decide +kernel
theorem dX4_goOn_42 : decode cX4_goOn 42 = .ok (.dup, 1) := by decide +kernel
theorem dX4_goOn_43 : decode cX4_goOn 43 = .ok (.getfield 33, 3) := by decide +kernel
theorem dX4_goOn_46 : decode cX4_goOn 46 = .ok (.iconst 1, 1) := by decide +kernel
theorem dX4_goOn_47 : decode cX4_goOn 47 = .ok (.iadd, 1) := by decide +kernel
theorem dX4_goOn_48 : decode cX4_goOn 48 = .ok (.putfield 33, 3) := by decide +kernel
theorem dX4_goOn_51 : decode cX4_goOn 51 = .ok (.iconst 1, 1) := by decide +kernel
theorem dX4_goOn_52 : decode cX4_goOn 52 = .ok (.ireturn, 1) := by decide +kernel
set_option maxRecDepth 20000 in
theorem ggX4_isToGet_X5_hasEnded : GoodIn wsX4_isToGet wsX5_hasEnded := goodIn_r _ [8, 9, 10, 11, 12, 13, 14, 15, 16, 17, 18, 19, 20, 21, 22, 23, 24, 25, 26, 27, 28, 29, 30, 31, 32, 33, 34, 35, 36, 37, 38, 39, 40, 41, 42, 43, 44, 45, 46, 47, 48, 49, 50, 51, 52, 53, 54, 55, 56, 57, 58, 59] (by decide +kernel) (by decide +kernel)
set_option maxRecDepth 20000 in
theorem gX4_isToGet_X5_hasEnded_u36X4 : GoodIn wsX4_isToGet (va_wsU RX4 36 RX4 "HouseWorkers$Work" ⟨"HouseWorkers$StreamWork", "hasEnded", "()Z"⟩ yX5_hasEnded wsX5_hasEnded) := goodIn_app (goodIn_of _ (by decide +kernel)) ggX4_isToGet_X5_hasEnded
theorem dX4_isToGet_0 : decode cX4_isToGet 0 = .ok (.aload_n 0, 1) := by decide +kernel
theorem dX4_isToGet_1 : decode cX4_isToGet 1 = .ok (.invokevirtual 36, 3) := by decide +kernel
theorem dX4_isToGet_4 : decode cX4_isToGet 4 = .ok (.ifCond .ne 15, 3) := by decide +kernel
theorem dX4_isToGet_7 : decode cX4_isToGet 7 = .ok (.iload_n 1, 1) := by decide +kernel
theorem dX4_isToGet_8 : decode cX4_isToGet 8 = .ok (.aload_n 0, 1) := by decide +kernel
theorem dX4_isToGet_9 : decode cX4_isToGet 9 = .ok (.getfield 15, 3) := by decide +kernel
theorem dX4_isToGet_12 : decode cX4_isToGet 12 = .ok (.if_icmp .le 7, 3) := by decide +kernel
theorem dX4_isToGet_15 : decode cX4_isToGet 15 = .ok (.iconst 1, 1) := by decide +kernel
theorem dX4_isToGet_16 : decode cX4_isToGet 16 = .ok (.goto 4, 3) := by decide +kernel
theorem dX4_isToGet_19 : decode cX4_isToGet 19 = .ok (.iconst 0, 1) := by decide +kernel
theorem dX4_isToGet_20 : decode cX4_isToGet 20 = .ok (.ireturn, 1) := by decide +kernel
theorem dX5_init_0 : decode cX5_init 0 = .ok (.aload_n 0, 1) := by decide +kernel
theorem dX5_init_1 : decode cX5_init 1 = .ok (.invokespecial 3, 3) := by decide +kernel
theorem dX5_init_4 : decode cX5_init 4 = .ok (.aload_n 0, 1) := by decide +kernel
theorem dX5_init_5 : decode cX5_init 5 = .ok (.iconst (-1), 1) := by decide +kernel
theorem dX5_init_6 : decode cX5_init 6 = .ok (.putfield 9, 3) := by decide +kernel
theorem dX5_init_9 : decode cX5_init 9 = .ok (.aload_n 0, 1) := by decide +kernel
theorem dX5_init_10 : decode cX5_init 10 = .ok (.iconst (-1), 1) := by decide +kernel
theorem dX5_init_11 : decode cX5_init 11 = .ok (.putfield 15, 3) := by decide +kernel
theorem dX5_init_14 : decode cX5_init 14 = .ok (.aload_n 0, 1) := by decide +kernel
theorem dX5_init_15 : decode cX5_init 15 = .ok (.iconst 0, 1) := by decide +kernel
theorem dX5_init_16 : decode cX5_init 16 = .ok (.putfield 18, 3) := by decide +kernel
theorem dX5_init_19 : decode cX5_init 19 = .ok (.aload_n 0, 1) := by decide +kernel
theorem dX5_init_20 : decode cX5_init 20 = .ok (.iload_n 1, 1) := by decide +kernel
theorem dX5_init_21 : decode cX5_init 21 = .ok (.putfield 21, 3) := by decide +kernel
theorem dX5_init_24 : decode cX5_init 24 = .ok (.aload_n 0, 1) := by decide +kernel
theorem dX5_init_25 : decode cX5_init 25 = .ok (.iload_n 2, 1) := by decide +kernel
theorem dX5_init_26 : decode cX5_init 26 = .ok (.putfield 24, 3) := by decide +kernel
theorem dX5_init_29 : decode cX5_init 29 = .ok (.aload_n 0, 1) := by decide +kernel
theorem dX5_init_30 : decode cX5_init 30 = .ok (.iload_n 3, 1) := by decide +kernel
theorem dX5_init_31 : decode cX5_init 31 = .ok (.putfield 27, 3) := by decide +kernel
theorem dX5_init_34 : decode cX5_init 34 = .ok (.aload_n 0, 1) := by decide +kernel
theorem dX5_init_35 : decode cX5_init 35 = .ok (.iload 4, 2) := by decide +kernel
theorem dX5_init_37 : decode cX5_init 37 = .ok (.putfield 30, 3) := by decide +kernel
theorem dX5_init_40 : decode cX5_init 40 = .ok (.return_, 1) := by decide +kernel
theorem dX5_isToGet_0 : decode cX5_isToGet 0 = .ok (.iconst 0, 1) := by decide +kernel
theorem dX5_isToGet_1 : decode cX5_isToGet 1 = .ok (.ireturn, 1) := by decide +kernel
theorem dX5_commits_0 : decode cX5_commits 0 = .ok (.aload_n 0, 1) := by decide +kernel
theorem dX5_commits_1 : decode cX5_commits 1 = .ok (.getfield 24, 3) := by decide +kernel
theorem dX5_commits_4 : decode cX5_commits 4 = .ok (.iconst 1, 1) := by decide +kernel
theorem dX5_commits_5 : decode cX5_commits 5 = .ok (.if_icmp .eq 11, 3) := by decide +kernel
theorem dX5_commits_8 : decode cX5_commits 8 = .ok (.aload_n 0, 1) := by decide +kernel
theorem dX5_commits_9 : decode cX5_commits 9 = .ok (.getfield 24, 3) := by decide +kernel
theorem dX5_commits_12 : decode cX5_commits 12 = .ok (.iconst 2, 1) := by decide +kernel
theorem dX5_commits_13 : decode cX5_commits 13 = .ok (.if_icmp .ne 7, 3) := by decide +kernel
theorem dX5_commits_16 : decode cX5_commits 16 = .ok (.iconst 1, 1) := by decide +kernel
theorem dX5_commits_17 : decode cX5_commits 17 = .ok (.goto 4, 3) := by decide +kernel
theorem dX5_commits_20 : decode cX5_commits 20 = .ok (.iconst 0, 1) := by decide +kernel
theorem dX5_commits_21 : decode cX5_commits 21 = .ok (.ireturn, 1) := by decide +kernel
theorem dX5_hasEnded_0 : decode cX5_hasEnded 0 = .ok (.aload_n 0, 1) := by decide +kernel
theorem dX5_hasEnded_1 : decode cX5_hasEnded 1 = .ok (.getfield 18, 3) := by decide +kernel
theorem dX5_hasEnded_4 : decode cX5_hasEnded 4 = .ok (.ifCond .eq 7, 3) := by decide +kernel
theorem dX5_hasEnded_7 : decode cX5_hasEnded 7 = .ok (.iconst 1, 1) := by decide +kernel
theorem dX5_hasEnded_8 : decode cX5_hasEnded 8 = .ok (.goto 4, 3) := by decide +kernel
theorem dX5_hasEnded_11 : decode cX5_hasEnded 11 = .ok (.iconst 0, 1) := by decide +kernel
theorem dX5_hasEnded_12 : decode cX5_hasEnded 12 = .ok (.ireturn, 1) := by decide +kernel
theorem dX5_hasDoneAllSteps_0 : decode cX5_hasDoneAllSteps 0 = .ok (.aload_n 0, 1) := by decide +kernel
theorem dX5_hasDoneAllSteps_1 : decode cX5_hasDoneAllSteps 1 = .ok (.getfield 33, 3) := by decide +kernel
theorem dX5_hasDoneAllSteps_4 : decode cX5_hasDoneAllSteps 4 = .ok (.aload_n 0, 1) := by decide +kernel
theorem dX5_hasDoneAllSteps_5 : decode cX5_hasDoneAllSteps 5 = .ok (.getfield 27, 3) := by decide +kernel
theorem dX5_hasDoneAllSteps_8 : decode cX5_hasDoneAllSteps 8 = .ok (.if_icmp .lt 7, 3) := by decide +kernel
theorem dX5_hasDoneAllSteps_11 : decode cX5_hasDoneAllSteps 11 = .ok (.iconst 1, 1) := by decide +kernel
theorem dX5_hasDoneAllSteps_12 : decode cX5_hasDoneAllSteps 12 = .ok (.goto 4, 3) := by decide +kernel
theorem dX5_hasDoneAllSteps_15 : decode cX5_hasDoneAllSteps 15 = .ok (.iconst 0, 1) := by decide +kernel
theorem dX5_hasDoneAllSteps_16 : decode cX5_hasDoneAllSteps 16 = .ok (.ireturn, 1) := by decide +kernel
set_option maxRecDepth 20000 in
theorem ggX5_failsNow_X5_hasDoneAllSteps : GoodIn wsX5_failsNow wsX5_hasDoneAllSteps := goodIn_r _ [8, 2, 9, 13, 14, 15, 16, 17, 18, 19, 20, 21, 22, 23, 24, 25, 26, 27, 28, 29, 30, 31, 32, 33, 34, 35, 36, 37, 38, 39, 40, 41, 42, 43, 44, 45, 46, 47, 48, 49, 50, 51, 52, 53, 54, 55, 56, 57, 58, 59, 60, 61, 62] (by decide +kernel) (by decide +kernel)
set_option maxRecDepth 20000 in
theorem gX5_failsNow_X5_hasDoneAllSteps_u36X1 : GoodIn wsX5_failsNow (va_wsU RX5 36 RX1 "HouseWorkers$Work" ⟨"HouseWorkers$Work", "hasDoneAllSteps", "()Z"⟩ yX5_hasDoneAllSteps wsX5_hasDoneAllSteps) := goodIn_app (goodIn_of _ (by decide +kernel)) ggX5_failsNow_X5_hasDoneAllSteps
set_option maxRecDepth 20000 in
theorem gX5_failsNow_X5_hasDoneAllSteps_u36X2 : GoodIn wsX5_failsNow (va_wsU RX5 36 RX2 "HouseWorkers$Work" ⟨"HouseWorkers$Work", "hasDoneAllSteps", "()Z"⟩ yX5_hasDoneAllSteps wsX5_hasDoneAllSteps) := goodIn_app (goodIn_of _ (by decide +kernel)) ggX5_failsNow_X5_hasDoneAllSteps
set_option maxRecDepth 20000 in
theorem gX5_failsNow_X5_hasDoneAllSteps_u36X4 : GoodIn wsX5_failsNow (va_wsU RX5 36 RX4 "HouseWorkers$Work" ⟨"HouseWorkers$Work", "hasDoneAllSteps", "()Z"⟩ yX5_hasDoneAllSteps wsX5_hasDoneAllSteps) := goodIn_app (goodIn_of _ (by decide +kernel)) ggX5_failsNow_X5_hasDoneAllSteps
set_option maxRecDepth 20000 in
theorem gX5_failsNow_X5_hasDoneAllSteps_u36X6 : GoodIn wsX5_failsNow (va_wsU RX5 36 RX6 "HouseWorkers$Work" ⟨"HouseWorkers$Work", "hasDoneAllSteps", "()Z"⟩ yX5_hasDoneAllSteps wsX5_hasDoneAllSteps) := goodIn_app (goodIn_of _ (by decide +kernel)) ggX5_failsNow_X5_hasDoneAllSteps
theorem dX5_failsNow_0 : decode cX5_failsNow 0 = .ok (.aload_n 0, 1) := by decide +kernel
theorem dX5_failsNow_1 : decode cX5_failsNow 1 = .ok (.getfield 30, 3) := by decide +kernel
theorem dX5_failsNow_4 : decode cX5_failsNow 4 = .ok (.aload_n 0, 1) := by decide +kernel
theorem dX5_failsNow_5 : decode cX5_failsNow 5 = .ok (.getfield 33, 3) := by decide +kernel
theorem dX5_failsNow_8 : decode cX5_failsNow 8 = .ok (.iconst 1, 1) := by decide +kernel
theorem dX5_failsNow_9 : decode cX5_failsNow 9 = .ok (.iadd, 1) := by decide +kernel
theorem dX5_failsNow_10 : decode cX5_failsNow 10 = .ok (.if_icmp .ne 14, 3) := by decide +kernel
theorem dX5_failsNow_13 : decode cX5_failsNow 13 = .ok (.aload_n 0, 1) := by decide +kernel
theorem dX5_failsNow_14 : decode cX5_failsNow 14 = .ok (.invokevirtual 36, 3) := by decide +kernel
theorem dX5_failsNow_17 : decode cX5_failsNow 17 = .ok (.ifCond .ne 7, 3) := by decide +kernel
theorem dX5_failsNow_20 : decode cX5_failsNow 20 = .ok (.iconst 1, 1) := by decide +kernel
theorem dX5_failsNow_21 : decode cX5_failsNow 21 = .ok (.goto 4, 3) := by decide +kernel
theorem dX5_failsNow_24 : decode cX5_failsNow 24 = .ok (.iconst 0, 1) := by decide +kernel
theorem dX5_failsNow_25 : decode cX5_failsNow 25 = .ok (.ireturn, 1) := by decide +kernel
set_option maxRecDepth 20000 in
theorem ggX5_pins_X5_hasEnded : GoodIn wsX5_pins wsX5_hasEnded := goodIn_r _ [7, 8, 12, 13, 14, 15, 16, 17, 18, 19, 20, 21, 22, 23, 24, 25, 26, 27, 28, 29, 30, 31, 32, 33, 34, 35, 36, 37, 38, 39, 40, 41, 42, 43, 44, 45, 46, 47, 48, 49, 50, 51, 52, 53, 54, 55, 56, 57, 58, 59, 60, 61] (by decide +kernel) (by decide +kernel)
set_option maxRecDepth 20000 in
theorem gX5_pins_X5_hasEnded_u40X1 : GoodIn wsX5_pins (va_wsU RX5 40 RX1 "HouseWorkers$Work" ⟨"HouseWorkers$Work", "hasEnded", "()Z"⟩ yX5_hasEnded wsX5_hasEnded) := goodIn_app (goodIn_of _ (by decide +kernel)) ggX5_pins_X5_hasEnded
set_option maxRecDepth 20000 in
theorem gX5_pins_X5_hasEnded_u40X2 : GoodIn wsX5_pins (va_wsU RX5 40 RX2 "HouseWorkers$Work" ⟨"HouseWorkers$Work", "hasEnded", "()Z"⟩ yX5_hasEnded wsX5_hasEnded) := goodIn_app (goodIn_of _ (by decide +kernel)) ggX5_pins_X5_hasEnded
set_option maxRecDepth 20000 in
theorem gX5_pins_X5_hasEnded_u40X4 : GoodIn wsX5_pins (va_wsU RX5 40 RX4 "HouseWorkers$Work" ⟨"HouseWorkers$Work", "hasEnded", "()Z"⟩ yX5_hasEnded wsX5_hasEnded) := goodIn_app (goodIn_of _ (by decide +kernel)) ggX5_pins_X5_hasEnded
set_option maxRecDepth 20000 in
theorem gX5_pins_X5_hasEnded_u40X6 : GoodIn wsX5_pins (va_wsU RX5 40 RX6 "HouseWorkers$Work" ⟨"HouseWorkers$Work", "hasEnded", "()Z"⟩ yX5_hasEnded wsX5_hasEnded) := goodIn_app (goodIn_of _ (by decide +kernel)) ggX5_pins_X5_hasEnded
theorem dX5_pins_0 : decode cX5_pins 0 = .ok (.aload_n 0, 1) := by decide +kernel
theorem dX5_pins_1 : decode cX5_pins 1 = .ok (.invokevirtual 40, 3) := by decide +kernel
theorem dX5_pins_4 : decode cX5_pins 4 = .ok (.ifCond .ne 15, 3) := by decide +kernel
theorem dX5_pins_7 : decode cX5_pins 7 = .ok (.aload_n 0, 1) := by decide +kernel
theorem dX5_pins_8 : decode cX5_pins 8 = .ok (.getfield 15, 3) := by decide +kernel
theorem dX5_pins_11 : decode cX5_pins 11 = .ok (.iload_n 1, 1) := by decide +kernel
theorem dX5_pins_12 : decode cX5_pins 12 = .ok (.if_icmp .ne 7, 3) := by decide +kernel
theorem dX5_pins_15 : decode cX5_pins 15 = .ok (.iconst 1, 1) := by decide +kernel
theorem dX5_pins_16 : decode cX5_pins 16 = .ok (.goto 4, 3) := by decide +kernel
theorem dX5_pins_19 : decode cX5_pins 19 = .ok (.iconst 0, 1) := by decide +kernel
theorem dX5_pins_20 : decode cX5_pins 20 = .ok (.ireturn, 1) := by decide +kernel
set_option maxRecDepth 20000 in
theorem ggX6_init_X5_init : GoodIn wsX6_init wsX5_init := goodIn_r _ [10, 11, 12, 13, 14, 15, 16, 17, 18, 19, 20, 41, 42, 43, 44, 45, 46, 47, 48, 49, 50, 51, 52, 53, 54, 55, 56, 57, 58, 59, 60, 61, 62, 63, 64, 65, 66, 67, 68, 69, 70, 71, 72, 73, 74, 75, 76, 27, 28, 29, 30, 31, 32, 33, 34, 35, 36, 37, 38, 39, 40] (by decide +kernel) (by decide +kernel)
set_option maxRecDepth 20000 in
theorem gX6_init_X5_init : GoodIn wsX6_init (wsX5_init) := ggX6_init_X5_init
set_option maxRecDepth 20000 in
theorem ggX6_init_X0_init : GoodIn wsX6_init wsX0_init := goodIn_r _ [22, 23, 12, 13, 24, 25, 26] (by decide +kernel) (by decide +kernel)
set_option maxRecDepth 20000 in
theorem gX6_init_X0_init_n11 : GoodIn wsX6_init (wsX0_init) := ggX6_init_X0_init
theorem dX6_init_0 : decode cX6_init 0 = .ok (.aload_n 0, 1) := by decide +kernel
theorem dX6_init_1 : decode cX6_init 1 = .ok (.iload_n 1, 1) := by decide +kernel
theorem dX6_init_2 : decode cX6_init 2 = .ok (.iconst 1, 1) := by decide +kernel
theorem dX6_init_3 : decode cX6_init 3 = .ok (.iload_n 2, 1) := by decide +kernel
theorem dX6_init_4 : decode cX6_init 4 = .ok (.iload_n 3, 1) := by decide +kernel
theorem dX6_init_5 : decode cX6_init 5 = .ok (.invokespecial 3, 3) := by decide +kernel
theorem dX6_init_8 : decode cX6_init 8 = .ok (.aload_n 0, 1) := by decide +kernel
theorem dX6_init_9 : decode cX6_init 9 = .ok (.new 9, 3) := by decide +kernel
theorem dX6_init_12 : decode cX6_init 12 = .ok (.dup, 1) := by decide +kernel
theorem dX6_init_13 : decode cX6_init 13 = .ok (.invokespecial 11, 3) := by decide +kernel
theorem dX6_init_16 : decode cX6_init 16 = .ok (.putfield 14, 3) := by decide +kernel
theorem dX6_init_19 : decode cX6_init 19 = .ok (.aload_n 0, 1) := by decide +kernel
theorem dX6_init_20 : decode cX6_init 20 = .ok (.iload 4, 2) := by decide +kernel
theorem dX6_init_22 : decode cX6_init 22 = .ok (.putfield 20, 3) := by decide +kernel
theorem dX6_init_25 : decode cX6_init 25 = .ok (.aload_n 0, 1) := by decide +kernel
theorem dX6_init_26 : decode cX6_init 26 = .ok (.iload 5, 2) := by decide +kernel
theorem dX6_init_28 : decode cX6_init 28 = .ok (.putfield 24, 3) := by decide +kernel
theorem dX6_init_31 : decode cX6_init 31 = .ok (.return_, 1) := by decide +kernel
set_option maxRecDepth 20000 in
theorem ggX6_waits_X5_hasDoneAllSteps : GoodIn wsX6_waits wsX5_hasDoneAllSteps := goodIn_r _ [6, 7, 8, 9, 10, 11, 12, 13, 14, 15, 16, 17, 18, 19, 20, 21, 22, 23, 24, 25, 26, 27, 28, 29, 30, 31, 32, 33, 34, 35, 36, 37, 38, 39, 40, 41, 42, 43, 44, 45, 46, 47, 48, 49, 50, 51, 52, 53, 54, 55, 56, 57, 58] (by decide +kernel) (by decide +kernel)
set_option maxRecDepth 20000 in
theorem gX6_waits_X5_hasDoneAllSteps_u27X6 : GoodIn wsX6_waits (va_wsU RX6 27 RX6 "HouseWorkers$Work" ⟨"HouseWorkers$WriterWork", "hasDoneAllSteps", "()Z"⟩ yX5_hasDoneAllSteps wsX5_hasDoneAllSteps) := goodIn_app (goodIn_of _ (by decide +kernel)) ggX6_waits_X5_hasDoneAllSteps
theorem dX6_waits_0 : decode cX6_waits 0 = .ok (.aload_n 0, 1) := by decide +kernel
theorem dX6_waits_1 : decode cX6_waits 1 = .ok (.invokevirtual 27, 3) := by decide +kernel
theorem dX6_waits_4 : decode cX6_waits 4 = .ok (.ifCond .eq 11, 3) := by decide +kernel
theorem dX6_waits_7 : decode cX6_waits 7 = .ok (.iload_n 2, 1) := by decide +kernel
theorem dX6_waits_8 : decode cX6_waits 8 = .ok (.ifCond .ne 7, 3) := by decide +kernel
theorem dX6_waits_11 : decode cX6_waits 11 = .ok (.iconst 1, 1) := by decide +kernel
theorem dX6_waits_12 : decode cX6_waits 12 = .ok (.goto 4, 3) := by decide +kernel
theorem dX6_waits_15 : decode cX6_waits 15 = .ok (.iconst 0, 1) := by decide +kernel
theorem dX6_waits_16 : decode cX6_waits 16 = .ok (.ireturn, 1) := by decide +kernel
set_option maxRecDepth 20000 in
theorem ggX6_goOn_X5_hasDoneAllSteps : GoodIn wsX6_goOn wsX5_hasDoneAllSteps := goodIn_r _ [13, 14, 15, 111, 112, 113, 114, 115, 116, 117, 118, 119, 120, 121, 122, 123, 124, 125, 126, 127, 128, 129, 130, 131, 132, 133, 134, 135, 136, 137, 138, 139, 140, 141, 142, 143, 144, 145, 146, 97, 98, 99, 100, 101, 102, 103, 104, 105, 106, 107, 108, 109, 110] (by decide +kernel) (by decide +kernel)
set_option maxRecDepth 20000 in
theorem gX6_goOn_X5_hasDoneAllSteps_u27X6 : GoodIn wsX6_goOn (va_wsU RX6 27 RX6 "HouseWorkers$Work" ⟨"HouseWorkers$WriterWork", "hasDoneAllSteps", "()Z"⟩ yX5_hasDoneAllSteps wsX5_hasDoneAllSteps) := goodIn_app (goodIn_of _ (by decide +kernel)) ggX6_goOn_X5_hasDoneAllSteps
set_option maxRecDepth 20000 in
theorem ggX6_goOn_X3_latest : GoodIn wsX6_goOn wsX3_latest := goodIn_r _ [20, 21, 147, 148, 149] (by decide +kernel) (by decide +kernel)
set_option maxRecDepth 20000 in
theorem gX6_goOn_X3_latest : GoodIn wsX6_goOn (wsV RX6 31 RX3 yX3_latest wsX3_latest) := goodIn_app (goodIn_of _ (by decide +kernel)) ggX6_goOn_X3_latest
set_option maxRecDepth 20000 in
theorem ggX6_goOn_X0_addAll : GoodIn wsX6_goOn wsX0_addAll := goodIn_r _ [26, 27, 150] (by decide +kernel) (by decide +kernel)
set_option maxRecDepth 20000 in
theorem gX6_goOn_X0_addAll : GoodIn wsX6_goOn (wsV RX6 37 RX0 yX0_addAll wsX0_addAll) := goodIn_app (goodIn_of _ (by decide +kernel)) ggX6_goOn_X0_addAll
set_option maxRecDepth 20000 in
theorem ggX6_goOn_X3_commit : GoodIn wsX6_goOn wsX3_commit := goodIn_r _ [31, 32, 21, 33, 34, 35, 36, 37, 38, 39, 40, 41, 42, 43, 44, 45, 46, 47, 48, 49, 50, 51, 52, 53, 54, 55, 56, 57, 58, 59, 60, 61, 62, 63, 64, 65, 66, 67, 68, 69, 70, 71, 72, 73, 74, 75, 76, 77, 78, 79, 80, 81, 82, 83, 84, 85, 86, 87, 88, 89, 90, 91, 92, 147, 148, 149, 151, 152, 153] (by decide +kernel) (by decide +kernel)
set_option maxRecDepth 20000 in
theorem gX6_goOn_X3_commit : GoodIn wsX6_goOn (wsV RX6 41 RX3 yX3_commit wsX3_commit) := goodIn_app (goodIn_of _ (by decide +kernel)) ggX6_goOn_X3_commit
set_option maxRecDepth 20000 in
theorem ggX6_goOn_X0_add : GoodIn wsX6_goOn wsX0_add := goodIn_r _ [96, 27, 150] (by decide +kernel) (by decide +kernel)
set_option maxRecDepth 20000 in
theorem gX6_goOn_X0_add : GoodIn wsX6_goOn (wsV RX6 51 RX0 yX0_add wsX0_add) := goodIn_app (goodIn_of _ (by decide +kernel)) ggX6_goOn_X0_add
theorem dX6_goOn_0 : decode cX6_goOn 0 = .ok (.aload_n 0, 1) := by decide +kernel
theorem dX6_goOn_1 : decode cX6_goOn 1 = .ok (.invokevirtual 27, 3) := by decide +kernel
theorem dX6_goOn_4 : decode cX6_goOn 4 = .ok (.ifCond .eq 28, 3) := by decide +kernel
theorem dX6_goOn_7 : decode cX6_goOn 7 = .ok (.aload_n 0, 1) := by decide +kernel
theorem dX6_goOn_8 : decode cX6_goOn 8 = .ok (.getfield 14, 3) := by decide +kernel
theorem dX6_goOn_11 : decode cX6_goOn 11 = .ok (.aload_n 1, 1) := by decide +kernel
theorem dX6_goOn_12 : decode cX6_goOn 12 = .ok (.invokevirtual 31, 3) := by decide +kernel
theorem dX6_goOn_15 : decode cX6_goOn 15 = .ok (.invokevirtual 37, 3) := by decide +kernel
theorem dX6_goOn_18 : decode cX6_goOn 18 = .ok (.aload_n 0, 1) := by decide +kernel
theorem dX6_goOn_19 : decode cX6_goOn 19 = .ok (.aload_n 1, 1) := by decide +kernel
theorem dX6_goOn_20 : decode cX6_goOn 20 = .ok (.aload_n 0, 1) := by decide +kernel
theorem dX6_goOn_21 : decode cX6_goOn 21 = .ok (.getfield 14, 3) := by decide +kernel
theorem dX6_goOn_24 : decode cX6_goOn 24 = .ok (.invokevirtual 41, 3) := by decide +kernel
theorem dX6_goOn_27 : decode cX6_goOn 27 = .ok (.putfield 45, 3) := by decide +kernel
theorem dX6_goOn_30 : decode cX6_goOn 30 = .ok (.iconst 2, 1) := by decide +kernel
theorem dX6_goOn_31 : decode cX6_goOn 31 = .ok (.ireturn, 1) := by decide +kernel
theorem dX6_goOn_32 : decode cX6_goOn 32 = .ok (.aload_n 0, 1) := by decide +kernel
theorem dX6_goOn_33 : decode cX6_goOn 33 = .ok (.getfield 14, 3) := by decide +kernel
theorem dX6_goOn_36 : decode cX6_goOn 36 = .ok (.aload_n 0, 1) := by decide +kernel
theorem dX6_goOn_37 : decode cX6_goOn 37 = .ok (.getfield 20, 3) := by decide +kernel
theorem dX6_goOn_40 : decode cX6_goOn 40 = .ok (.aload_n 0, 1) := by decide +kernel
theorem dX6_goOn_41 : decode cX6_goOn 41 = .ok (.getfield 48, 3) := by decide +kernel
theorem dX6_goOn_44 : decode cX6_goOn 44 = .ok (.iadd, 1) := by decide +kernel
theorem dX6_goOn_45 : decode cX6_goOn 45 = .ok (.aload_n 0, 1) := by decide +kernel
theorem dX6_goOn_46 : decode cX6_goOn 46 = .ok (.getfield 24, 3) := by decide +kernel
theorem dX6_goOn_49 : decode cX6_goOn 49 = .ok (.invokevirtual 51, 3) := by decide +kernel
theorem dX6_goOn_52 : decode cX6_goOn 52 = .ok (.aload_n 0, 1) := by decide +kernel
theorem dX6_goOn_53 : decode cX6_goOn 53 = .ok (.dup, 1) := by decide +kernel
theorem dX6_goOn_54 : decode cX6_goOn 54 = .ok (.getfield 48, 3) := by decide +kernel
theorem dX6_goOn_57 : decode cX6_goOn 57 = .ok (.iconst 1, 1) := by decide +kernel
theorem dX6_goOn_58 : decode cX6_goOn 58 = .ok (.iadd, 1) := by decide +kernel
theorem dX6_goOn_59 : decode cX6_goOn 59 = .ok (.putfield 48, 3) := by decide +kernel
theorem dX6_goOn_62 : decode cX6_goOn 62 = .ok (.iconst 1, 1) := by decide +kernel
theorem dX6_goOn_63 : decode cX6_goOn 63 = .ok (.ireturn, 1) := by decide +kernel
set_option maxRecDepth 20000 in
theorem ggX7_init_X3_init : GoodIn wsX7_init wsX3_init := goodIn_r _ [14, 15, 2, 3, 16, 17, 18, 19, 20, 9, 10, 21, 22, 23, 24, 25, 26, 27, 28, 29, 30, 31, 32, 33, 34, 35, 36, 37, 38, 39, 40, 41, 42, 56, 44, 45, 46, 53, 54, 55] (by decide +kernel) (by decide +kernel)
set_option maxRecDepth 20000 in
theorem gX7_init_X3_init_n11 : GoodIn wsX7_init (wsX3_init) := ggX7_init_X3_init
set_option maxRecDepth 20000 in
theorem ggX7_init_Jx4a65c_init_da8c8 : GoodIn wsX7_init wsJx4a65c_init_da8c8 := goodIn_r _ [30, 31, 32, 33, 34, 35, 36, 37, 38, 39, 40, 41, 42, 2, 3, 53, 54, 55] (by decide +kernel) (by decide +kernel)
set_option maxRecDepth 20000 in
theorem gX7_init_Jx4a65c_init_da8c8 : GoodIn wsX7_init (wsJx4a65c_init_da8c8) := ggX7_init_Jx4a65c_init_da8c8
theorem dX7_init_0 : decode cX7_init 0 = .ok (.aload_n 0, 1) := by decide +kernel
theorem dX7_init_1 : decode cX7_init 1 = .ok (.invokespecial 3, 3) := by decide +kernel
theorem dX7_init_4 : decode cX7_init 4 = .ok (.aload_n 0, 1) := by decide +kernel
theorem dX7_init_5 : decode cX7_init 5 = .ok (.new 9, 3) := by decide +kernel
theorem dX7_init_8 : decode cX7_init 8 = .ok (.dup, 1) := by decide +kernel
