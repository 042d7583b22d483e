set_option maxRecDepth 20000 in
theorem gX7_close_X5_hasEnded_u90X1 : GoodIn wsX7_close (va_wsU RX7 90 RX1 "HouseWorkers$Work" ⟨"HouseWorkers$Work", "hasEnded", "()Z"⟩ yX5_hasEnded wsX5_hasEnded) := goodIn_app (goodIn_of _ (by decide +kernel)) ggX7_close_X5_hasEnded
set_option maxRecDepth 20000 in
theorem gX7_close_X5_hasEnded_u90X2 : GoodIn wsX7_close (va_wsU RX7 90 RX2 "HouseWorkers$Work" ⟨"HouseWorkers$Work", "hasEnded", "()Z"⟩ yX5_hasEnded wsX5_hasEnded) := goodIn_app (goodIn_of _ (by decide +kernel)) ggX7_close_X5_hasEnded
set_option maxRecDepth 20000 in
theorem gX7_close_X5_hasEnded_u90X4 : GoodIn wsX7_close (va_wsU RX7 90 RX4 "HouseWorkers$Work" ⟨"HouseWorkers$Work", "hasEnded", "()Z"⟩ yX5_hasEnded wsX5_hasEnded) := goodIn_app (goodIn_of _ (by decide +kernel)) ggX7_close_X5_hasEnded
set_option maxRecDepth 20000 in
theorem gX7_close_X5_hasEnded_u90X6 : GoodIn wsX7_close (va_wsU RX7 90 RX6 "HouseWorkers$Work" ⟨"HouseWorkers$Work", "hasEnded", "()Z"⟩ yX5_hasEnded wsX5_hasEnded) := goodIn_app (goodIn_of _ (by decide +kernel)) ggX7_close_X5_hasEnded
set_option maxRecDepth 20000 in
theorem ggX7_close_X7_endWork : GoodIn wsX7_close wsX7_endWork := goodIn_r _ [41, 42, 43, 44, 45, 46, 47, 48, 7, 49, 50, 51, 26, 9, 52, 53, 54, 55, 56, 57, 58, 59, 60, 61, 62, 63, 64, 65, 66, 67, 68, 69, 70, 71, 72, 73, 74, 75, 76, 77, 78, 79, 80, 81, 82, 83, 84, 85, 86, 87, 88, 89, 90, 91, 92, 93, 94, 95, 96, 97, 98, 108, 109, 110, 111, 112, 113, 114, 115, 116, 117, 118, 119, 120, 121, 122, 123, 124, 125, 126, 127, 128, 129, 130, 131, 132, 133, 134, 135, 136, 137, 138, 139, 140, 141, 142, 143, 144, 145, 146, 147, 148, 149, 150, 151, 152, 153, 154, 155, 156, 157, 99, 100, 101, 102, 103, 104, 105, 106, 107] (by decide +kernel) (by decide +kernel)
set_option maxRecDepth 20000 in
theorem gX7_close_X7_endWork : GoodIn wsX7_close (wsV RX7 109 RX7 yX7_endWork wsX7_endWork) := goodIn_app (goodIn_of _ (by decide +kernel)) ggX7_close_X7_endWork
theorem dX7_close_0 : decode cX7_close 0 = .ok (.aload_n 0, 1) := by decide +kernel
theorem dX7_close_1 : decode cX7_close 1 = .ok (.getfield 99, 3) := by decide +kernel
theorem dX7_close_4 : decode cX7_close 4 = .ok (.ifCond .eq 6, 3) := by decide +kernel
theorem dX7_close_7 : decode cX7_close 7 = .ok (.bipush (-2), 2) := by decide +kernel
theorem dX7_close_9 : decode cX7_close 9 = .ok (.ireturn, 1) := by decide +kernel
theorem dX7_close_10 : decode cX7_close 10 = .ok (.aload_n 0, 1) := by decide +kernel
theorem dX7_close_11 : decode cX7_close 11 = .ok (.iconst 1, 1) := by decide +kernel
theorem dX7_close_12 : decode cX7_close 12 = .ok (.putfield 99, 3) := by decide +kernel
theorem dX7_close_15 : decode cX7_close 15 = .ok (.iconst 0, 1) := by decide +kernel
theorem dX7_close_16 : decode cX7_close 16 = .ok (.istore_n 1, 1) := by decide +kernel
theorem dX7_close_17 : decode cX7_close 17 = .ok (.iconst 0, 1) := by decide +kernel
theorem dX7_close_18 : decode cX7_close 18 = .ok (.istore_n 2, 1) := by decide +kernel
theorem dX7_close_19 : decode cX7_close 19 = .ok (.iload_n 2, 1) := by decide +kernel
theorem dX7_close_20 : decode cX7_close 20 = .ok (.aload_n 0, 1) := by decide +kernel
theorem dX7_close_21 : decode cX7_close 21 = .ok (.getfield 19, 3) := by decide +kernel
theorem dX7_close_24 : decode cX7_close 24 = .ok (.invokevirtual 102, 3) := by decide +kernel
theorem dX7_close_27 : decode cX7_close 27 = .ok (.if_icmp .ge 37, 3) := by decide +kernel
theorem dX7_close_30 : decode cX7_close 30 = .ok (.aload_n 0, 1) := by decide +kernel
theorem dX7_close_31 : decode cX7_close 31 = .ok (.getfield 19, 3) := by decide +kernel
theorem dX7_close_34 : decode cX7_close 34 = .ok (.iload_n 2, 1) := by decide +kernel
theorem dX7_close_35 : decode cX7_close 35 = .ok (.invokevirtual 105, 3) := by decide +kernel
theorem dX7_close_38 : decode cX7_close 38 = .ok (.checkcast 91, 3) := by decide +kernel
theorem dX7_close_41 : decode cX7_close 41 = .ok (.astore_n 3, 1) := by decide +kernel
theorem dX7_close_42 : decode cX7_close 42 = .ok (.aload_n 3, 1) := by decide +kernel
theorem dX7_close_43 : decode cX7_close 43 = .ok (.invokevirtual 90, 3) := by decide +kernel
theorem dX7_close_46 : decode cX7_close 46 = .ok (.ifCond .ne 12, 3) := by decide +kernel
theorem dX7_close_49 : decode cX7_close 49 = .ok (.aload_n 0, 1) := by decide +kernel
theorem dX7_close_50 : decode cX7_close 50 = .ok (.aload_n 3, 1) := by decide +kernel
theorem dX7_close_51 : decode cX7_close 51 = .ok (.iconst 4, 1) := by decide +kernel
theorem dX7_close_52 : decode cX7_close 52 = .ok (.invokevirtual 109, 3) := by decide +kernel
theorem dX7_close_55 : decode cX7_close 55 = .ok (.iinc 1 1, 3) := by decide +kernel
theorem dX7_close_58 : decode cX7_close 58 = .ok (.iinc 2 1, 3) := by decide +kernel
theorem dX7_close_61 : decode cX7_close 61 = .ok (.goto (-42), 3) := by decide +kernel
theorem dX7_close_64 : decode cX7_close 64 = .ok (.iload_n 1, 1) := by decide +kernel
theorem dX7_close_65 : decode cX7_close 65 = .ok (.ireturn, 1) := by decide +kernel
set_option maxRecDepth 20000 in
theorem ggX7_told_X7_find : GoodIn wsX7_told wsX7_find := goodIn_r _ [10, 11, 12, 13, 14, 15, 16, 17, 18, 19, 20, 21, 22, 23, 24, 25, 26, 27, 28, 29, 30, 31, 32, 33, 34, 35, 152, 153, 154, 155, 156, 157, 158, 159, 160] (by decide +kernel) (by decide +kernel)
set_option maxRecDepth 20000 in
theorem gX7_told_X7_find : GoodIn wsX7_told (wsV RX7 78 RX7 yX7_find wsX7_find) := goodIn_app (goodIn_of _ (by decide +kernel)) ggX7_told_X7_find
set_option maxRecDepth 20000 in
theorem ggX7_told_X7_standsStill : GoodIn wsX7_told wsX7_standsStill := goodIn_r _ [39, 40, 41, 42, 43, 44, 45, 46, 47, 48, 49, 50, 51, 52, 53, 54, 9, 55, 56, 11, 12, 13, 14, 15, 16, 17, 18, 19, 20, 21, 22, 23, 24, 25, 26, 27, 28, 29, 30, 31, 32, 33, 34, 35, 57, 58, 59, 60, 61, 62, 63, 64, 65, 66, 67, 68, 69, 70, 71, 72, 73, 74, 75, 76, 77, 78, 79, 80, 81, 82, 83, 84, 85, 86, 87, 88, 89, 90, 91, 92, 93, 94, 95, 96, 97, 98, 99, 100, 101, 102, 103, 104, 105, 106, 107, 108, 109, 110, 111, 112, 113, 114, 115, 116, 117, 118, 119, 120, 121, 122, 123, 124, 125, 126, 127, 128, 129, 130, 131, 132, 133, 134, 135, 136, 137, 138, 139, 140, 141, 142, 143, 144, 145, 146, 147, 148, 149, 150, 151, 152, 153, 154, 155, 156, 157, 158, 159, 160, 161, 162, 163] (by decide +kernel) (by decide +kernel)
set_option maxRecDepth 20000 in
theorem gX7_told_X7_standsStill : GoodIn wsX7_told (wsV RX7 129 RX7 yX7_standsStill wsX7_standsStill) := goodIn_app (goodIn_of _ (by decide +kernel)) ggX7_told_X7_standsStill
theorem dX7_told_0 : decode cX7_told 0 = .ok (.aload_n 0, 1) := by decide +kernel
theorem dX7_told_1 : decode cX7_told 1 = .ok (.iload_n 1, 1) := by decide +kernel
theorem dX7_told_2 : decode cX7_told 2 = .ok (.invokevirtual 78, 3) := by decide +kernel
theorem dX7_told_5 : decode cX7_told 5 = .ok (.astore_n 3, 1) := by decide +kernel
theorem dX7_told_6 : decode cX7_told 6 = .ok (.aload_n 3, 1) := by decide +kernel
theorem dX7_told_7 : decode cX7_told 7 = .ok (.ifnonnull 5, 3) := by decide +kernel
theorem dX7_told_10 : decode cX7_told 10 = .ok (.iconst (-1), 1) := by decide +kernel
theorem dX7_told_11 : decode cX7_told 11 = .ok (.ireturn, 1) := by decide +kernel
theorem dX7_told_12 : decode cX7_told 12 = .ok (.iload_n 2, 1) := by decide +kernel
theorem dX7_told_13 : decode cX7_told 13 = .ok (.tableswitch 78 0 5 #[39, 44, 49, 54, 59, 64], 39) := by decide +kernel
theorem dX7_told_52 : decode cX7_told 52 = .ok (.aload_n 3, 1) := by decide +kernel
theorem dX7_told_53 : decode cX7_told 53 = .ok (.getfield 113, 3) := by decide +kernel
theorem dX7_told_56 : decode cX7_told 56 = .ok (.ireturn, 1) := by decide +kernel
theorem dX7_told_57 : decode cX7_told 57 = .ok (.aload_n 3, 1) := by decide +kernel
theorem dX7_told_58 : decode cX7_told 58 = .ok (.getfield 117, 3) := by decide +kernel
theorem dX7_told_61 : decode cX7_told 61 = .ok (.ireturn, 1) := by decide +kernel
theorem dX7_told_62 : decode cX7_told 62 = .ok (.aload_n 3, 1) := by decide +kernel
theorem dX7_told_63 : decode cX7_told 63 = .ok (.getfield 120, 3) := by decide +kernel
theorem dX7_told_66 : decode cX7_told 66 = .ok (.ireturn, 1) := by decide +kernel
theorem dX7_told_67 : decode cX7_told 67 = .ok (.aload_n 3, 1) := by decide +kernel
theorem dX7_told_68 : decode cX7_told 68 = .ok (.getfield 123, 3) := by decide +kernel
theorem dX7_told_71 : decode cX7_told 71 = .ok (.ireturn, 1) := by decide +kernel
theorem dX7_told_72 : decode cX7_told 72 = .ok (.aload_n 3, 1) := by decide +kernel
theorem dX7_told_73 : decode cX7_told 73 = .ok (.getfield 126, 3) := by decide +kernel
theorem dX7_told_76 : decode cX7_told 76 = .ok (.ireturn, 1) := by decide +kernel
theorem dX7_told_77 : decode cX7_told 77 = .ok (.aload_n 0, 1) := by decide +kernel
theorem dX7_told_78 : decode cX7_told 78 = .ok (.aload_n 3, 1) := by decide +kernel
theorem dX7_told_79 : decode cX7_told 79 = .ok (.invokevirtual 129, 3) := by decide +kernel
theorem dX7_told_82 : decode cX7_told 82 = .ok (.ifCond .eq 7, 3) := by decide +kernel
theorem dX7_told_85 : decode cX7_told 85 = .ok (.iconst 1, 1) := by decide +kernel
theorem dX7_told_86 : decode cX7_told 86 = .ok (.goto 4, 3) := by decide +kernel
theorem dX7_told_89 : decode cX7_told 89 = .ok (.iconst 0, 1) := by decide +kernel
theorem dX7_told_90 : decode cX7_told 90 = .ok (.ireturn, 1) := by decide +kernel
theorem dX7_told_91 : decode cX7_told 91 = .ok (.iconst (-1), 1) := by decide +kernel
theorem dX7_told_92 : decode cX7_told 92 = .ok (.ireturn, 1) := by decide +kernel
set_option maxRecDepth 20000 in
theorem ggX7_ended_Jx4a65c_size_8abf5 : GoodIn wsX7_ended wsJx4a65c_size_8abf5 := goodIn_r _ [10, 11, 85, 86, 87] (by decide +kernel) (by decide +kernel)
set_option maxRecDepth 20000 in
theorem gX7_ended_Jx4a65c_size_8abf5 : GoodIn wsX7_ended (wsV RX7 102 RJx4a65c yJx4a65c_size_8abf5 wsJx4a65c_size_8abf5) := goodIn_app (goodIn_of _ (by decide +kernel)) ggX7_ended_Jx4a65c_size_8abf5
set_option maxRecDepth 20000 in
theorem ggX7_ended_Jx4a65c_get_915e3 : GoodIn wsX7_ended wsJx4a65c_get_915e3 := goodIn_r _ [15, 11, 16, 17, 18, 19, 20, 21, 22, 23, 24, 25, 26, 9, 27, 28, 85, 86, 87] (by decide +kernel) (by decide +kernel)
set_option maxRecDepth 20000 in
theorem gX7_ended_Jx4a65c_get_915e3 : GoodIn wsX7_ended (wsV RX7 105 RJx4a65c yJx4a65c_get_915e3 wsJx4a65c_get_915e3) := goodIn_app (goodIn_of _ (by decide +kernel)) ggX7_ended_Jx4a65c_get_915e3
theorem dX7_ended_0 : decode cX7_ended 0 = .ok (.iload_n 2, 1) := by decide +kernel
theorem dX7_ended_1 : decode cX7_ended 1 = .ok (.ifCond .lt 8, 3) := by decide +kernel
theorem dX7_ended_4 : decode cX7_ended 4 = .ok (.iload_n 2, 1) := by decide +kernel
theorem dX7_ended_5 : decode cX7_ended 5 = .ok (.iconst 2, 1) := by decide +kernel
theorem dX7_ended_6 : decode cX7_ended 6 = .ok (.if_icmp .le 5, 3) := by decide +kernel
theorem dX7_ended_9 : decode cX7_ended 9 = .ok (.iconst (-1), 1) := by decide +kernel
theorem dX7_ended_10 : decode cX7_ended 10 = .ok (.ireturn, 1) := by decide +kernel
theorem dX7_ended_11 : decode cX7_ended 11 = .ok (.iload_n 1, 1) := by decide +kernel
theorem dX7_ended_12 : decode cX7_ended 12 = .ok (.ifCond .lt 14, 3) := by decide +kernel
theorem dX7_ended_15 : decode cX7_ended 15 = .ok (.iload_n 1, 1) := by decide +kernel
theorem dX7_ended_16 : decode cX7_ended 16 = .ok (.aload_n 0, 1) := by decide +kernel
theorem dX7_ended_17 : decode cX7_ended 17 = .ok (.getfield 23, 3) := by decide +kernel
theorem dX7_ended_20 : decode cX7_ended 20 = .ok (.invokevirtual 102, 3) := by decide +kernel
theorem dX7_ended_23 : decode cX7_ended 23 = .ok (.if_icmp .lt 6, 3) := by decide +kernel
theorem dX7_ended_26 : decode cX7_ended 26 = .ok (.bipush (-2), 2) := by decide +kernel
theorem dX7_ended_28 : decode cX7_ended 28 = .ok (.ireturn, 1) := by decide +kernel
theorem dX7_ended_29 : decode cX7_ended 29 = .ok (.aload_n 0, 1) := by decide +kernel
theorem dX7_ended_30 : decode cX7_ended 30 = .ok (.getfield 23, 3) := by decide +kernel
theorem dX7_ended_33 : decode cX7_ended 33 = .ok (.iload_n 1, 1) := by decide +kernel
theorem dX7_ended_34 : decode cX7_ended 34 = .ok (.invokevirtual 105, 3) := by decide +kernel
theorem dX7_ended_37 : decode cX7_ended 37 = .ok (.checkcast 91, 3) := by decide +kernel
theorem dX7_ended_40 : decode cX7_ended 40 = .ok (.astore_n 3, 1) := by decide +kernel
theorem dX7_ended_41 : decode cX7_ended 41 = .ok (.iload_n 2, 1) := by decide +kernel
theorem dX7_ended_42 : decode cX7_ended 42 = .ok (.ifCond .ne 8, 3) := by decide +kernel
theorem dX7_ended_45 : decode cX7_ended 45 = .ok (.aload_n 3, 1) := by decide +kernel
theorem dX7_ended_46 : decode cX7_ended 46 = .ok (.getfield 133, 3) := by decide +kernel
theorem dX7_ended_49 : decode cX7_ended 49 = .ok (.ireturn, 1) := by decide +kernel
theorem dX7_ended_50 : decode cX7_ended 50 = .ok (.iload_n 2, 1) := by decide +kernel
theorem dX7_ended_51 : decode cX7_ended 51 = .ok (.iconst 1, 1) := by decide +kernel
theorem dX7_ended_52 : decode cX7_ended 52 = .ok (.if_icmp .ne 10, 3) := by decide +kernel
theorem dX7_ended_55 : decode cX7_ended 55 = .ok (.aload_n 3, 1) := by decide +kernel
theorem dX7_ended_56 : decode cX7_ended 56 = .ok (.getfield 117, 3) := by decide +kernel
theorem dX7_ended_59 : decode cX7_ended 59 = .ok (.goto 7, 3) := by decide +kernel
theorem dX7_ended_62 : decode cX7_ended 62 = .ok (.aload_n 3, 1) := by decide +kernel
theorem dX7_ended_63 : decode cX7_ended 63 = .ok (.getfield 136, 3) := by decide +kernel
theorem dX7_ended_66 : decode cX7_ended 66 = .ok (.ireturn, 1) := by decide +kernel
set_option maxRecDepth 20000 in
theorem ggX7_cell_X3_find : GoodIn wsX7_cell wsX3_find := goodIn_r _ [6, 7, 8, 9, 10, 11, 12, 13, 14, 15, 16, 17, 18, 19, 20, 21, 22, 23, 24, 25, 26, 27, 28, 29, 30, 31, 32, 101, 102, 103, 104, 105, 106] (by decide +kernel) (by decide +kernel)
set_option maxRecDepth 20000 in
theorem gX7_cell_X3_find : GoodIn wsX7_cell (wsV RX7 139 RX3 yX3_find wsX3_find) := goodIn_app (goodIn_of _ (by decide +kernel)) ggX7_cell_X3_find
set_option maxRecDepth 20000 in
theorem ggX7_cell_X7_isCell : GoodIn wsX7_cell wsX7_isCell := goodIn_r _ [36] (by decide +kernel) (by decide +kernel)
set_option maxRecDepth 20000 in
theorem gX7_cell_X7_isCell : GoodIn wsX7_cell (va_wsS RX7 26 yX7_isCell wsX7_isCell) := goodIn_app (goodIn_of _ (by decide +kernel)) ggX7_cell_X7_isCell
set_option maxRecDepth 20000 in
theorem ggX7_cell_X7_isKept : GoodIn wsX7_cell wsX7_isKept := goodIn_r _ [40, 1, 41, 42, 43, 44, 45, 5, 46, 8, 10, 11, 12, 13, 14, 15, 47, 48, 49, 35, 50, 51, 52, 17, 18, 19, 20, 21, 22, 23, 24, 25, 26, 27, 28, 29, 30, 31, 32, 53, 54, 55, 56, 57, 58, 59, 60, 61, 62, 63, 64, 65, 66, 67, 68, 69, 70, 71, 72, 73, 74, 75, 76, 77, 78, 79, 80, 81, 82, 83, 84, 85, 86, 87, 88, 95, 96, 97, 98, 99, 100, 101, 102, 103, 104, 105, 106, 107, 108, 109, 110, 111, 112, 113, 114, 115, 116, 117, 118, 119, 120, 121, 122, 123, 124, 125, 126, 127, 128, 129, 130, 131, 132, 133, 134, 135, 136, 137, 138, 139, 140, 141, 142, 143, 144, 145, 146, 147, 148, 149, 150, 151, 152, 153, 154, 155, 156] (by decide +kernel) (by decide +kernel)
set_option maxRecDepth 20000 in
theorem gX7_cell_X7_isKept : GoodIn wsX7_cell (wsV RX7 142 RX7 yX7_isKept wsX7_isKept) := goodIn_app (goodIn_of _ (by decide +kernel)) ggX7_cell_X7_isKept
set_option maxRecDepth 20000 in
theorem ggX7_cell_X0_at : GoodIn wsX7_cell wsX0_at := goodIn_r _ [93, 94, 157] (by decide +kernel) (by decide +kernel)
set_option maxRecDepth 20000 in
theorem gX7_cell_X0_at : GoodIn wsX7_cell (wsV RX7 145 RX0 yX0_at wsX0_at) := goodIn_app (goodIn_of _ (by decide +kernel)) ggX7_cell_X0_at
theorem dX7_cell_0 : decode cX7_cell 0 = .ok (.aload_n 0, 1) := by decide +kernel
theorem dX7_cell_1 : decode cX7_cell 1 = .ok (.getfield 12, 3) := by decide +kernel
theorem dX7_cell_4 : decode cX7_cell 4 = .ok (.iload_n 1, 1) := by decide +kernel
theorem dX7_cell_5 : decode cX7_cell 5 = .ok (.invokevirtual 139, 3) := by decide +kernel
theorem dX7_cell_8 : decode cX7_cell 8 = .ok (.astore_n 3, 1) := by decide +kernel
theorem dX7_cell_9 : decode cX7_cell 9 = .ok (.aload_n 3, 1) := by decide +kernel
theorem dX7_cell_10 : decode cX7_cell 10 = .ok (.ifnull 10, 3) := by decide +kernel
theorem dX7_cell_13 : decode cX7_cell 13 = .ok (.iload_n 2, 1) := by decide +kernel
theorem dX7_cell_14 : decode cX7_cell 14 = .ok (.invokestatic 26, 3) := by decide +kernel
theorem dX7_cell_17 : decode cX7_cell 17 = .ok (.ifCond .ne 5, 3) := by decide +kernel
theorem dX7_cell_20 : decode cX7_cell 20 = .ok (.iconst (-1), 1) := by decide +kernel
theorem dX7_cell_21 : decode cX7_cell 21 = .ok (.ireturn, 1) := by decide +kernel
theorem dX7_cell_22 : decode cX7_cell 22 = .ok (.aload_n 0, 1) := by decide +kernel
theorem dX7_cell_23 : decode cX7_cell 23 = .ok (.iload_n 1, 1) := by decide +kernel
theorem dX7_cell_24 : decode cX7_cell 24 = .ok (.invokevirtual 142, 3) := by decide +kernel
theorem dX7_cell_27 : decode cX7_cell 27 = .ok (.ifCond .ne 6, 3) := by decide +kernel
theorem dX7_cell_30 : decode cX7_cell 30 = .ok (.bipush (-2), 2) := by decide +kernel
theorem dX7_cell_32 : decode cX7_cell 32 = .ok (.ireturn, 1) := by decide +kernel
theorem dX7_cell_33 : decode cX7_cell 33 = .ok (.aload_n 3, 1) := by decide +kernel
theorem dX7_cell_34 : decode cX7_cell 34 = .ok (.iload_n 2, 1) := by decide +kernel
theorem dX7_cell_35 : decode cX7_cell 35 = .ok (.invokevirtual 145, 3) := by decide +kernel
theorem dX7_cell_38 : decode cX7_cell 38 = .ok (.ireturn, 1) := by decide +kernel
set_option maxRecDepth 20000 in
theorem ggX7_count_X3_size : GoodIn wsX7_count wsX3_size := goodIn_r _ [10, 11, 12, 13, 14, 15, 16, 17, 100, 101, 102, 103, 104, 105] (by decide +kernel) (by decide +kernel)
set_option maxRecDepth 20000 in
theorem gX7_count_X3_size : GoodIn wsX7_count (wsV RX7 148 RX3 yX3_size wsX3_size) := goodIn_app (goodIn_of _ (by decide +kernel)) ggX7_count_X3_size
set_option maxRecDepth 20000 in
theorem ggX7_count_X7_countKept : GoodIn wsX7_count wsX7_countKept := goodIn_r _ [22, 1, 6, 7, 8, 9, 10, 11, 12, 13, 14, 15, 16, 17, 23, 24, 25, 21, 26, 4, 27, 28, 29, 30, 31, 32, 33, 34, 35, 36, 37, 38, 39, 40, 41, 42, 43, 44, 45, 46, 47, 48, 49, 50, 51, 52, 53, 54, 55, 56, 57, 58, 59, 60, 61, 62, 63, 64, 65, 66, 67, 68, 69, 70, 71, 72, 73, 74, 75, 76, 77, 78, 79, 80, 81, 82, 83, 84, 85, 86, 87, 88, 89, 94, 95, 96, 97, 98, 99, 100, 101, 102, 103, 104, 105, 106, 107, 108, 109, 110, 111, 112, 113, 114, 115, 116, 117, 118, 119, 120, 121, 122, 123, 124, 125, 126, 127, 128, 129, 130, 131, 132, 133, 134, 135, 136, 137, 138, 139, 140, 141, 142, 143, 144, 145, 146, 147, 148, 149, 150, 151, 152, 153, 154, 155] (by decide +kernel) (by decide +kernel)
set_option maxRecDepth 20000 in
theorem gX7_count_X7_countKept : GoodIn wsX7_count (wsV RX7 149 RX7 yX7_countKept wsX7_countKept) := goodIn_app (goodIn_of _ (by decide +kernel)) ggX7_count_X7_countKept
set_option maxRecDepth 20000 in
theorem ggX7_count_X7_countPinned : GoodIn wsX7_count wsX7_countPinned := goodIn_r _ [93, 1, 6, 7, 8, 9, 10, 11, 12, 13, 14, 15, 16, 17, 32, 33, 34, 21, 35, 4, 27, 36, 37, 38, 39, 40, 41, 42, 43, 44, 45, 46, 47, 48, 49, 50, 51, 52, 53, 54, 55, 56, 57, 58, 59, 60, 61, 62, 63, 64, 65, 66, 67, 68, 69, 70, 71, 72, 94, 95, 96, 97, 98, 99, 100, 101, 102, 103, 104, 105, 106, 107, 108, 109, 110, 111, 112, 113, 114, 115, 116, 117, 118, 119, 120, 121, 122, 123, 124, 125, 126, 127, 128, 129, 130, 131, 132, 133, 134, 135, 136, 137, 138, 139, 140, 141, 142, 143, 144, 145, 146, 147, 148, 149, 150, 151, 152, 153, 154, 155] (by decide +kernel) (by decide +kernel)
set_option maxRecDepth 20000 in
theorem gX7_count_X7_countPinned : GoodIn wsX7_count (wsV RX7 152 RX7 yX7_countPinned wsX7_countPinned) := goodIn_app (goodIn_of _ (by decide +kernel)) ggX7_count_X7_countPinned
set_option maxRecDepth 20000 in
theorem ggX7_count_Jx4a65c_size_8abf5 : GoodIn wsX7_count wsJx4a65c_size_8abf5 := goodIn_r _ [16, 17, 103, 104, 105] (by decide +kernel) (by decide +kernel)
set_option maxRecDepth 20000 in
theorem gX7_count_Jx4a65c_size_8abf5 : GoodIn wsX7_count (wsV RX7 102 RJx4a65c yJx4a65c_size_8abf5 wsJx4a65c_size_8abf5) := goodIn_app (goodIn_of _ (by decide +kernel)) ggX7_count_Jx4a65c_size_8abf5
theorem dX7_count_0 : decode cX7_count 0 = .ok (.iload_n 1, 1) := by decide +kernel
theorem dX7_count_1 : decode cX7_count 1 = .ok (.tableswitch 83 0 5 #[39, 47, 52, 57, 62, 67], 39) := by decide +kernel
theorem dX7_count_40 : decode cX7_count 40 = .ok (.aload_n 0, 1) := by decide +kernel
theorem dX7_count_41 : decode cX7_count 41 = .ok (.getfield 12, 3) := by decide +kernel
theorem dX7_count_44 : decode cX7_count 44 = .ok (.invokevirtual 148, 3) := by decide +kernel
theorem dX7_count_47 : decode cX7_count 47 = .ok (.ireturn, 1) := by decide +kernel
theorem dX7_count_48 : decode cX7_count 48 = .ok (.aload_n 0, 1) := by decide +kernel
theorem dX7_count_49 : decode cX7_count 49 = .ok (.invokevirtual 149, 3) := by decide +kernel
theorem dX7_count_52 : decode cX7_count 52 = .ok (.ireturn, 1) := by decide +kernel
theorem dX7_count_53 : decode cX7_count 53 = .ok (.aload_n 0, 1) := by decide +kernel
theorem dX7_count_54 : decode cX7_count 54 = .ok (.invokevirtual 152, 3) := by decide +kernel
theorem dX7_count_57 : decode cX7_count 57 = .ok (.ireturn, 1) := by decide +kernel
theorem dX7_count_58 : decode cX7_count 58 = .ok (.aload_n 0, 1) := by decide +kernel
theorem dX7_count_59 : decode cX7_count 59 = .ok (.getfield 155, 3) := by decide +kernel
theorem dX7_count_62 : decode cX7_count 62 = .ok (.ireturn, 1) := by decide +kernel
theorem dX7_count_63 : decode cX7_count 63 = .ok (.aload_n 0, 1) := by decide +kernel
theorem dX7_count_64 : decode cX7_count 64 = .ok (.getfield 158, 3) := by decide +kernel
theorem dX7_count_67 : decode cX7_count 67 = .ok (.ireturn, 1) := by decide +kernel
theorem dX7_count_68 : decode cX7_count 68 = .ok (.aload_n 0, 1) := by decide +kernel
theorem dX7_count_69 : decode cX7_count 69 = .ok (.getfield 19, 3) := by decide +kernel
theorem dX7_count_72 : decode cX7_count 72 = .ok (.invokevirtual 102, 3) := by decide +kernel
theorem dX7_count_75 : decode cX7_count 75 = .ok (.aload_n 0, 1) := by decide +kernel
theorem dX7_count_76 : decode cX7_count 76 = .ok (.getfield 23, 3) := by decide +kernel
theorem dX7_count_79 : decode cX7_count 79 = .ok (.invokevirtual 102, 3) := by decide +kernel
theorem dX7_count_82 : decode cX7_count 82 = .ok (.isub, 1) := by decide +kernel
theorem dX7_count_83 : decode cX7_count 83 = .ok (.ireturn, 1) := by decide +kernel
theorem dX7_count_84 : decode cX7_count 84 = .ok (.iconst (-1), 1) := by decide +kernel
theorem dX7_count_85 : decode cX7_count 85 = .ok (.ireturn, 1) := by decide +kernel
theorem dX7_isCell_0 : decode cX7_isCell 0 = .ok (.iload_n 0, 1) := by decide +kernel
theorem dX7_isCell_1 : decode cX7_isCell 1 = .ok (.ifCond .lt 13, 3) := by decide +kernel
theorem dX7_isCell_4 : decode cX7_isCell 4 = .ok (.iload_n 0, 1) := by decide +kernel
theorem dX7_isCell_5 : decode cX7_isCell 5 = .ok (.bipush 16, 2) := by decide +kernel
theorem dX7_isCell_7 : decode cX7_isCell 7 = .ok (.if_icmp .ge 7, 3) := by decide +kernel
theorem dX7_isCell_10 : decode cX7_isCell 10 = .ok (.iconst 1, 1) := by decide +kernel
theorem dX7_isCell_11 : decode cX7_isCell 11 = .ok (.goto 4, 3) := by decide +kernel
theorem dX7_isCell_14 : decode cX7_isCell 14 = .ok (.iconst 0, 1) := by decide +kernel
theorem dX7_isCell_15 : decode cX7_isCell 15 = .ok (.ireturn, 1) := by decide +kernel
theorem dX7_areSteps_0 : decode cX7_areSteps 0 = .ok (.iload_n 0, 1) := by decide +kernel
theorem dX7_areSteps_1 : decode cX7_areSteps 1 = .ok (.iconst 1, 1) := by decide +kernel
theorem dX7_areSteps_2 : decode cX7_areSteps 2 = .ok (.if_icmp .lt 13, 3) := by decide +kernel
theorem dX7_areSteps_5 : decode cX7_areSteps 5 = .ok (.iload_n 0, 1) := by decide +kernel
theorem dX7_areSteps_6 : decode cX7_areSteps 6 = .ok (.bipush 20, 2) := by decide +kernel
theorem dX7_areSteps_8 : decode cX7_areSteps 8 = .ok (.if_icmp .gt 7, 3) := by decide +kernel
theorem dX7_areSteps_11 : decode cX7_areSteps 11 = .ok (.iconst 1, 1) := by decide +kernel
theorem dX7_areSteps_12 : decode cX7_areSteps 12 = .ok (.goto 4, 3) := by decide +kernel
theorem dX7_areSteps_15 : decode cX7_areSteps 15 = .ok (.iconst 0, 1) := by decide +kernel
theorem dX7_areSteps_16 : decode cX7_areSteps 16 = .ok (.ireturn, 1) := by decide +kernel
theorem dX7_isFailsAt_0 : decode cX7_isFailsAt 0 = .ok (.iload_n 0, 1) := by decide +kernel
theorem dX7_isFailsAt_1 : decode cX7_isFailsAt 1 = .ok (.ifCond .lt 13, 3) := by decide +kernel
theorem dX7_isFailsAt_4 : decode cX7_isFailsAt 4 = .ok (.iload_n 0, 1) := by decide +kernel
theorem dX7_isFailsAt_5 : decode cX7_isFailsAt 5 = .ok (.bipush 30, 2) := by decide +kernel
theorem dX7_isFailsAt_7 : decode cX7_isFailsAt 7 = .ok (.if_icmp .gt 7, 3) := by decide +kernel
theorem dX7_isFailsAt_10 : decode cX7_isFailsAt 10 = .ok (.iconst 1, 1) := by decide +kernel
theorem dX7_isFailsAt_11 : decode cX7_isFailsAt 11 = .ok (.goto 4, 3) := by decide +kernel
theorem dX7_isFailsAt_14 : decode cX7_isFailsAt 14 = .ok (.iconst 0, 1) := by decide +kernel
theorem dX7_isFailsAt_15 : decode cX7_isFailsAt 15 = .ok (.ireturn, 1) := by decide +kernel
set_option maxRecDepth 20000 in
theorem ggX7_nextNumber_Jx4a65c_size_8abf5 : GoodIn wsX7_nextNumber wsJx4a65c_size_8abf5 := goodIn_r _ [7, 8, 15, 16, 17] (by decide +kernel) (by decide +kernel)
set_option maxRecDepth 20000 in
theorem gX7_nextNumber_Jx4a65c_size_8abf5 : GoodIn wsX7_nextNumber (wsV RX7 102 RJx4a65c yJx4a65c_size_8abf5 wsJx4a65c_size_8abf5) := goodIn_app (goodIn_of _ (by decide +kernel)) ggX7_nextNumber_Jx4a65c_size_8abf5
theorem dX7_nextNumber_0 : decode cX7_nextNumber 0 = .ok (.aload_n 0, 1) := by decide +kernel
theorem dX7_nextNumber_1 : decode cX7_nextNumber 1 = .ok (.getfield 99, 3) := by decide +kernel
theorem dX7_nextNumber_4 : decode cX7_nextNumber 4 = .ok (.ifCond .eq 6, 3) := by decide +kernel
theorem dX7_nextNumber_7 : decode cX7_nextNumber 7 = .ok (.bipush (-2), 2) := by decide +kernel
theorem dX7_nextNumber_9 : decode cX7_nextNumber 9 = .ok (.ireturn, 1) := by decide +kernel
theorem dX7_nextNumber_10 : decode cX7_nextNumber 10 = .ok (.aload_n 0, 1) := by decide +kernel
theorem dX7_nextNumber_11 : decode cX7_nextNumber 11 = .ok (.getfield 19, 3) := by decide +kernel
theorem dX7_nextNumber_14 : decode cX7_nextNumber 14 = .ok (.invokevirtual 102, 3) := by decide +kernel
theorem dX7_nextNumber_17 : decode cX7_nextNumber 17 = .ok (.bipush 30, 2) := by decide +kernel
theorem dX7_nextNumber_19 : decode cX7_nextNumber 19 = .ok (.if_icmp .ge 13, 3) := by decide +kernel
theorem dX7_nextNumber_22 : decode cX7_nextNumber 22 = .ok (.aload_n 0, 1) := by decide +kernel
theorem dX7_nextNumber_23 : decode cX7_nextNumber 23 = .ok (.getfield 19, 3) := by decide +kernel
theorem dX7_nextNumber_26 : decode cX7_nextNumber 26 = .ok (.invokevirtual 102, 3) := by decide +kernel
theorem dX7_nextNumber_29 : decode cX7_nextNumber 29 = .ok (.goto 5, 3) := by decide +kernel
theorem dX7_nextNumber_32 : decode cX7_nextNumber 32 = .ok (.bipush (-3), 2) := by decide +kernel
theorem dX7_nextNumber_34 : decode cX7_nextNumber 34 = .ok (.ireturn, 1) := by decide +kernel
set_option maxRecDepth 20000 in
theorem ggX7_find_Jx4a65c_size_8abf5 : GoodIn wsX7_find wsJx4a65c_size_8abf5 := goodIn_r _ [7, 8, 32, 33, 34] (by decide +kernel) (by decide +kernel)
set_option maxRecDepth 20000 in
theorem gX7_find_Jx4a65c_size_8abf5 : GoodIn wsX7_find (wsV RX7 102 RJx4a65c yJx4a65c_size_8abf5 wsJx4a65c_size_8abf5) := goodIn_app (goodIn_of _ (by decide +kernel)) ggX7_find_Jx4a65c_size_8abf5
set_option maxRecDepth 20000 in
theorem ggX7_find_Jx4a65c_get_915e3 : GoodIn wsX7_find wsJx4a65c_get_915e3 := goodIn_r _ [12, 8, 13, 14, 15, 16, 17, 18, 19, 20, 21, 22, 23, 6, 24, 25, 32, 33, 34] (by decide +kernel) (by decide +kernel)
set_option maxRecDepth 20000 in
theorem gX7_find_Jx4a65c_get_915e3 : GoodIn wsX7_find (wsV RX7 105 RJx4a65c yJx4a65c_get_915e3 wsJx4a65c_get_915e3) := goodIn_app (goodIn_of _ (by decide +kernel)) ggX7_find_Jx4a65c_get_915e3
theorem dX7_find_0 : decode cX7_find 0 = .ok (.iload_n 1, 1) := by decide +kernel
theorem dX7_find_1 : decode cX7_find 1 = .ok (.ifCond .lt 14, 3) := by decide +kernel
theorem dX7_find_4 : decode cX7_find 4 = .ok (.iload_n 1, 1) := by decide +kernel
theorem dX7_find_5 : decode cX7_find 5 = .ok (.aload_n 0, 1) := by decide +kernel
theorem dX7_find_6 : decode cX7_find 6 = .ok (.getfield 19, 3) := by decide +kernel
theorem dX7_find_9 : decode cX7_find 9 = .ok (.invokevirtual 102, 3) := by decide +kernel
theorem dX7_find_12 : decode cX7_find 12 = .ok (.if_icmp .lt 5, 3) := by decide +kernel
theorem dX7_find_15 : decode cX7_find 15 = .ok (.aconst_null, 1) := by decide +kernel
theorem dX7_find_16 : decode cX7_find 16 = .ok (.areturn, 1) := by decide +kernel
theorem dX7_find_17 : decode cX7_find 17 = .ok (.aload_n 0, 1) := by decide +kernel
theorem dX7_find_18 : decode cX7_find 18 = .ok (.getfield 19, 3) := by decide +kernel
theorem dX7_find_21 : decode cX7_find 21 = .ok (.iload_n 1, 1) := by decide +kernel
theorem dX7_find_22 : decode cX7_find 22 = .ok (.invokevirtual 105, 3) := by decide +kernel
theorem dX7_find_25 : decode cX7_find 25 = .ok (.checkcast 91, 3) := by decide +kernel
theorem dX7_find_28 : decode cX7_find 28 = .ok (.areturn, 1) := by decide +kernel
set_option maxRecDepth 20000 in
theorem ggX7_giveRow_Jx4a65c_size_8abf5 : GoodIn wsX7_giveRow wsJx4a65c_size_8abf5 := goodIn_r _ [7, 8, 273, 274, 275] (by decide +kernel) (by decide +kernel)
set_option maxRecDepth 20000 in
theorem gX7_giveRow_Jx4a65c_size_8abf5 : GoodIn wsX7_giveRow (wsV RX7 102 RJx4a65c yJx4a65c_size_8abf5 wsJx4a65c_size_8abf5) := goodIn_app (goodIn_of _ (by decide +kernel)) ggX7_giveRow_Jx4a65c_size_8abf5
set_option maxRecDepth 20000 in
theorem ggX7_giveRow_Jx4a65c_get_915e3 : GoodIn wsX7_giveRow wsJx4a65c_get_915e3 := goodIn_r _ [12, 8, 13, 14, 15, 16, 17, 18, 19, 20, 21, 22, 23, 6, 24, 25, 273, 274, 275] (by decide +kernel) (by decide +kernel)
set_option maxRecDepth 20000 in
theorem gX7_giveRow_Jx4a65c_get_915e3 : GoodIn wsX7_giveRow (wsV RX7 105 RJx4a65c yJx4a65c_get_915e3 wsJx4a65c_get_915e3) := goodIn_app (goodIn_of _ (by decide +kernel)) ggX7_giveRow_Jx4a65c_get_915e3
set_option maxRecDepth 20000 in
theorem ggX7_giveRow_X7_giveTurn : GoodIn wsX7_giveRow wsX7_giveTurn := goodIn_r _ [30, 31, 32, 33, 34, 35, 36, 37, 38, 39, 40, 41, 42, 43, 44, 45, 29, 46, 47, 48, 49, 50, 51, 52, 53, 1, 2, 3, 4, 5, 6, 7, 8, 9, 10, 11, 12, 13, 14, 15, 16, 17, 18, 19, 20, 21, 22, 23, 24, 25, 54, 55, 56, 57, 58, 59, 60, 61, 62, 63, 64, 65, 66, 67, 68, 69, 70, 71, 72, 73, 74, 75, 76, 77, 78, 79, 80, 81, 82, 83, 84, 85, 86, 87, 88, 89, 90, 91, 92, 93, 94, 95, 96, 97, 98, 99, 100, 101, 102, 103, 104, 105, 106, 107, 108, 109, 110, 111, 112, 113, 114, 115, 116, 117, 118, 119, 120, 121, 122, 123, 124, 125, 126, 127, 128, 129, 130, 131, 132, 133, 134, 135, 136, 137, 138, 139, 140, 141, 142, 143, 144, 145, 146, 147, 148, 149, 150, 151, 152, 153, 154, 155, 156, 157, 158, 159, 160, 161, 162, 163, 164, 165, 166, 167, 168, 169, 170, 171, 172, 173, 174, 175, 176, 177, 178, 179, 180, 181, 182, 183, 184, 185, 186, 187, 188, 189, 190, 191, 192, 193, 194, 195, 196, 197, 198, 199, 200, 201, 202, 203, 204, 205, 206, 207, 208, 209, 210, 211, 212, 213, 214, 215, 216, 217, 218, 219, 220, 221, 222, 223, 224, 225, 226, 227, 228, 229, 230, 231, 232, 233, 234, 235, 236, 237, 238, 239, 240, 241, 242, 243, 244, 245, 246, 247, 248, 249, 250, 251, 252, 253, 254, 255, 256, 257, 258, 259, 260, 261, 262, 263, 264, 265, 266, 267, 268, 269, 270, 271, 272, 276, 277, 278, 279, 280, 281, 282, 283, 284, 285, 286, 287, 288, 289, 290, 291, 292, 293, 294, 295, 296, 297, 298, 299, 300, 301, 302, 303, 304, 305, 306, 307, 308, 309, 310, 311, 312, 313, 314, 315, 316, 317, 318, 319, 320, 321, 322, 323, 324, 325, 273, 274, 275, 326, 327, 328, 329] (by decide +kernel) (by decide +kernel)
set_option maxRecDepth 20000 in
theorem gX7_giveRow_X7_giveTurn : GoodIn wsX7_giveRow (wsV RX7 82 RX7 yX7_giveTurn wsX7_giveTurn) := goodIn_app (goodIn_of _ (by decide +kernel)) ggX7_giveRow_X7_giveTurn
theorem dX7_giveRow_0 : decode cX7_giveRow 0 = .ok (.iconst 0, 1) := by decide +kernel
theorem dX7_giveRow_1 : decode cX7_giveRow 1 = .ok (.istore_n 2, 1) := by decide +kernel
theorem dX7_giveRow_2 : decode cX7_giveRow 2 = .ok (.iconst 0, 1) := by decide +kernel
theorem dX7_giveRow_3 : decode cX7_giveRow 3 = .ok (.istore_n 3, 1) := by decide +kernel
theorem dX7_giveRow_4 : decode cX7_giveRow 4 = .ok (.iload_n 3, 1) := by decide +kernel
theorem dX7_giveRow_5 : decode cX7_giveRow 5 = .ok (.aload_n 0, 1) := by decide +kernel
theorem dX7_giveRow_6 : decode cX7_giveRow 6 = .ok (.getfield 19, 3) := by decide +kernel
theorem dX7_giveRow_9 : decode cX7_giveRow 9 = .ok (.invokevirtual 102, 3) := by decide +kernel
theorem dX7_giveRow_12 : decode cX7_giveRow 12 = .ok (.if_icmp .ge 35, 3) := by decide +kernel
theorem dX7_giveRow_15 : decode cX7_giveRow 15 = .ok (.iload_n 2, 1) := by decide +kernel
theorem dX7_giveRow_16 : decode cX7_giveRow 16 = .ok (.iload_n 1, 1) := by decide +kernel
theorem dX7_giveRow_17 : decode cX7_giveRow 17 = .ok (.if_icmp .ge 30, 3) := by decide +kernel
theorem dX7_giveRow_20 : decode cX7_giveRow 20 = .ok (.aload_n 0, 1) := by decide +kernel
theorem dX7_giveRow_21 : decode cX7_giveRow 21 = .ok (.aload_n 0, 1) := by decide +kernel
theorem dX7_giveRow_22 : decode cX7_giveRow 22 = .ok (.getfield 19, 3) := by decide +kernel
theorem dX7_giveRow_25 : decode cX7_giveRow 25 = .ok (.iload_n 3, 1) := by decide +kernel
theorem dX7_giveRow_26 : decode cX7_giveRow 26 = .ok (.invokevirtual 105, 3) := by decide +kernel
theorem dX7_giveRow_29 : decode cX7_giveRow 29 = .ok (.checkcast 91, 3) := by decide +kernel
theorem dX7_giveRow_32 : decode cX7_giveRow 32 = .ok (.invokevirtual 82, 3) := by decide +kernel
theorem dX7_giveRow_35 : decode cX7_giveRow 35 = .ok (.ifCond .eq 6, 3) := by decide +kernel
theorem dX7_giveRow_38 : decode cX7_giveRow 38 = .ok (.iinc 2 1, 3) := by decide +kernel
theorem dX7_giveRow_41 : decode cX7_giveRow 41 = .ok (.iinc 3 1, 3) := by decide +kernel
theorem dX7_giveRow_44 : decode cX7_giveRow 44 = .ok (.goto (-40), 3) := by decide +kernel
theorem dX7_giveRow_47 : decode cX7_giveRow 47 = .ok (.iload_n 2, 1) := by decide +kernel
theorem dX7_giveRow_48 : decode cX7_giveRow 48 = .ok (.ireturn, 1) := by decide +kernel
set_option maxRecDepth 20000 in
theorem ggX7_giveTurn_X5_hasEnded : GoodIn wsX7_giveTurn wsX5_hasEnded := goodIn_r _ [8, 9, 269, 270, 271, 272, 273, 274, 275, 276, 277, 278, 279, 280, 281, 282, 283, 284, 285, 286, 287, 288, 289, 290, 291, 292, 293, 294, 295, 296, 297, 298, 299, 300, 301, 302, 303, 304, 305, 306, 307, 308, 309, 310, 311, 312, 313, 314, 315, 316, 317, 318] (by decide +kernel) (by decide +kernel)
set_option maxRecDepth 20000 in
theorem gX7_giveTurn_X5_hasEnded_u90X1 : GoodIn wsX7_giveTurn (va_wsU RX7 90 RX1 "HouseWorkers$Work" ⟨"HouseWorkers$Work", "hasEnded", "()Z"⟩ yX5_hasEnded wsX5_hasEnded) := goodIn_app (goodIn_of _ (by decide +kernel)) ggX7_giveTurn_X5_hasEnded
set_option maxRecDepth 20000 in
theorem gX7_giveTurn_X5_hasEnded_u90X2 : GoodIn wsX7_giveTurn (va_wsU RX7 90 RX2 "HouseWorkers$Work" ⟨"HouseWorkers$Work", "hasEnded", "()Z"⟩ yX5_hasEnded wsX5_hasEnded) := goodIn_app (goodIn_of _ (by decide +kernel)) ggX7_giveTurn_X5_hasEnded
