theorem dX7_init_9 : decode cX7_init 9 = .ok (.invokespecial 11, 3) := by decide +kernel
theorem dX7_init_12 : decode cX7_init 12 = .ok (.putfield 12, 3) := by decide +kernel
theorem dX7_init_15 : decode cX7_init 15 = .ok (.aload_n 0, 1) := by decide +kernel
theorem dX7_init_16 : decode cX7_init 16 = .ok (.new 16, 3) := by decide +kernel
theorem dX7_init_19 : decode cX7_init 19 = .ok (.dup, 1) := by decide +kernel
theorem dX7_init_20 : decode cX7_init 20 = .ok (.invokespecial 18, 3) := by decide +kernel
theorem dX7_init_23 : decode cX7_init 23 = .ok (.putfield 19, 3) := by decide +kernel
theorem dX7_init_26 : decode cX7_init 26 = .ok (.aload_n 0, 1) := by decide +kernel
theorem dX7_init_27 : decode cX7_init 27 = .ok (.new 16, 3) := by decide +kernel
theorem dX7_init_30 : decode cX7_init 30 = .ok (.dup, 1) := by decide +kernel
theorem dX7_init_31 : decode cX7_init 31 = .ok (.invokespecial 18, 3) := by decide +kernel
theorem dX7_init_34 : decode cX7_init 34 = .ok (.putfield 23, 3) := by decide +kernel
theorem dX7_init_37 : decode cX7_init 37 = .ok (.return_, 1) := by decide +kernel
set_option maxRecDepth 20000 in
theorem ggX7_put_X7_isCell : GoodIn wsX7_put wsX7_isCell := goodIn_r _ [6] (by decide +kernel) (by decide +kernel)
set_option maxRecDepth 20000 in
theorem gX7_put_X7_isCell : GoodIn wsX7_put (va_wsS RX7 26 yX7_isCell wsX7_isCell) := goodIn_app (goodIn_of _ (by decide +kernel)) ggX7_put_X7_isCell
set_option maxRecDepth 20000 in
theorem ggX7_put_Jx4a65c_isEmpty_aae02 : GoodIn wsX7_put wsJx4a65c_isEmpty_aae02 := goodIn_r _ [11, 12, 31, 32, 33] (by decide +kernel) (by decide +kernel)
set_option maxRecDepth 20000 in
theorem gX7_put_Jx4a65c_isEmpty_aae02 : GoodIn wsX7_put (wsV RX7 30 RJx4a65c yJx4a65c_isEmpty_aae02 wsJx4a65c_isEmpty_aae02) := goodIn_app (goodIn_of _ (by decide +kernel)) ggX7_put_Jx4a65c_isEmpty_aae02
set_option maxRecDepth 20000 in
theorem ggX7_put_X3_latest : GoodIn wsX7_put wsX3_latest := goodIn_r _ [17, 18, 34, 35, 36] (by decide +kernel) (by decide +kernel)
set_option maxRecDepth 20000 in
theorem gX7_put_X3_latest : GoodIn wsX7_put (wsV RX7 34 RX3 yX3_latest wsX3_latest) := goodIn_app (goodIn_of _ (by decide +kernel)) ggX7_put_X3_latest
set_option maxRecDepth 20000 in
theorem ggX7_put_X0_set : GoodIn wsX7_put wsX0_set := goodIn_r _ [23, 24, 37] (by decide +kernel) (by decide +kernel)
set_option maxRecDepth 20000 in
theorem gX7_put_X0_set : GoodIn wsX7_put (wsV RX7 38 RX0 yX0_set wsX0_set) := goodIn_app (goodIn_of _ (by decide +kernel)) ggX7_put_X0_set
theorem dX7_put_0 : decode cX7_put 0 = .ok (.iload_n 1, 1) := by decide +kernel
theorem dX7_put_1 : decode cX7_put 1 = .ok (.invokestatic 26, 3) := by decide +kernel
theorem dX7_put_4 : decode cX7_put 4 = .ok (.ifCond .ne 5, 3) := by decide +kernel
theorem dX7_put_7 : decode cX7_put 7 = .ok (.iconst (-1), 1) := by decide +kernel
theorem dX7_put_8 : decode cX7_put 8 = .ok (.ireturn, 1) := by decide +kernel
theorem dX7_put_9 : decode cX7_put 9 = .ok (.aload_n 0, 1) := by decide +kernel
theorem dX7_put_10 : decode cX7_put 10 = .ok (.getfield 19, 3) := by decide +kernel
theorem dX7_put_13 : decode cX7_put 13 = .ok (.invokevirtual 30, 3) := by decide +kernel
theorem dX7_put_16 : decode cX7_put 16 = .ok (.ifCond .ne 6, 3) := by decide +kernel
theorem dX7_put_19 : decode cX7_put 19 = .ok (.bipush (-2), 2) := by decide +kernel
theorem dX7_put_21 : decode cX7_put 21 = .ok (.ireturn, 1) := by decide +kernel
theorem dX7_put_22 : decode cX7_put 22 = .ok (.aload_n 0, 1) := by decide +kernel
theorem dX7_put_23 : decode cX7_put 23 = .ok (.getfield 12, 3) := by decide +kernel
theorem dX7_put_26 : decode cX7_put 26 = .ok (.invokevirtual 34, 3) := by decide +kernel
theorem dX7_put_29 : decode cX7_put 29 = .ok (.iload_n 1, 1) := by decide +kernel
theorem dX7_put_30 : decode cX7_put 30 = .ok (.iload_n 2, 1) := by decide +kernel
theorem dX7_put_31 : decode cX7_put 31 = .ok (.invokevirtual 38, 3) := by decide +kernel
theorem dX7_put_34 : decode cX7_put 34 = .ok (.iconst 1, 1) := by decide +kernel
theorem dX7_put_35 : decode cX7_put 35 = .ok (.ireturn, 1) := by decide +kernel
set_option maxRecDepth 20000 in
theorem ggX7_question_X7_areSteps : GoodIn wsX7_question wsX7_areSteps := goodIn_r _ [9] (by decide +kernel) (by decide +kernel)
set_option maxRecDepth 20000 in
theorem gX7_question_X7_areSteps : GoodIn wsX7_question (va_wsS RX7 44 yX7_areSteps wsX7_areSteps) := goodIn_app (goodIn_of _ (by decide +kernel)) ggX7_question_X7_areSteps
set_option maxRecDepth 20000 in
theorem ggX7_question_X7_isFailsAt : GoodIn wsX7_question wsX7_isFailsAt := goodIn_r _ [12] (by decide +kernel) (by decide +kernel)
set_option maxRecDepth 20000 in
theorem gX7_question_X7_isFailsAt : GoodIn wsX7_question (va_wsS RX7 47 yX7_isFailsAt wsX7_isFailsAt) := goodIn_app (goodIn_of _ (by decide +kernel)) ggX7_question_X7_isFailsAt
set_option maxRecDepth 20000 in
theorem ggX7_question_X7_isCell : GoodIn wsX7_question wsX7_isCell := goodIn_r _ [15] (by decide +kernel) (by decide +kernel)
set_option maxRecDepth 20000 in
theorem gX7_question_X7_isCell : GoodIn wsX7_question (va_wsS RX7 26 yX7_isCell wsX7_isCell) := goodIn_app (goodIn_of _ (by decide +kernel)) ggX7_question_X7_isCell
set_option maxRecDepth 20000 in
theorem ggX7_question_X7_nextNumber : GoodIn wsX7_question wsX7_nextNumber := goodIn_r _ [19, 20, 1, 21, 22, 23, 24, 25, 26, 116, 117, 118, 119, 120, 121, 135, 136, 137] (by decide +kernel) (by decide +kernel)
set_option maxRecDepth 20000 in
theorem gX7_question_X7_nextNumber : GoodIn wsX7_question (wsV RX7 50 RX7 yX7_nextNumber wsX7_nextNumber) := goodIn_app (goodIn_of _ (by decide +kernel)) ggX7_question_X7_nextNumber
set_option maxRecDepth 20000 in
theorem ggX7_question_X1_init : GoodIn wsX7_question wsX1_init := goodIn_r _ [29, 30, 31, 32, 33, 34, 35, 36, 37, 38, 39, 40, 41, 42, 43, 44, 45, 46, 47, 48, 49, 50, 51, 52, 53, 54, 55, 56, 57, 58, 59, 60, 61, 22, 23, 24, 25, 26, 122, 123, 124, 125, 126, 127, 128, 129, 130, 131, 132, 133, 134, 138, 139, 140, 141, 142, 143, 144, 145, 146, 147, 148, 149, 150, 151, 152, 153, 154, 155, 156, 157, 158, 159, 160, 161, 162, 163, 164, 165, 166, 167, 168, 169, 170, 171, 172, 173, 174, 175, 176, 177, 135, 136, 137] (by decide +kernel) (by decide +kernel)
set_option maxRecDepth 20000 in
theorem gX7_question_X1_init : GoodIn wsX7_question (wsX1_init) := ggX7_question_X1_init
set_option maxRecDepth 20000 in
theorem ggX7_question_Jx4a65c_add_9ea2d : GoodIn wsX7_question wsJx4a65c_add_9ea2d := goodIn_r _ [65, 66, 67, 68, 26, 69, 70, 71, 24, 72, 73, 74, 75, 76, 77, 78, 79, 80, 81, 82, 83, 84, 85, 86, 87, 88, 89, 90, 91, 92, 93, 94, 95, 96, 97, 98, 99, 100, 101, 102, 103, 104, 105, 106, 107, 108, 109, 110, 111, 112, 113, 114, 115, 135, 136, 137] (by decide +kernel) (by decide +kernel)
set_option maxRecDepth 20000 in
theorem gX7_question_Jx4a65c_add_9ea2d : GoodIn wsX7_question (wsV RX7 59 RJx4a65c yJx4a65c_add_9ea2d wsJx4a65c_add_9ea2d) := goodIn_app (goodIn_of _ (by decide +kernel)) ggX7_question_Jx4a65c_add_9ea2d
theorem dX7_question_0 : decode cX7_question 0 = .ok (.iload_n 1, 1) := by decide +kernel
theorem dX7_question_1 : decode cX7_question 1 = .ok (.invokestatic 44, 3) := by decide +kernel
theorem dX7_question_4 : decode cX7_question 4 = .ok (.ifCond .eq 17, 3) := by decide +kernel
theorem dX7_question_7 : decode cX7_question 7 = .ok (.iload_n 2, 1) := by decide +kernel
theorem dX7_question_8 : decode cX7_question 8 = .ok (.invokestatic 47, 3) := by decide +kernel
theorem dX7_question_11 : decode cX7_question 11 = .ok (.ifCond .eq 10, 3) := by decide +kernel
theorem dX7_question_14 : decode cX7_question 14 = .ok (.iload_n 3, 1) := by decide +kernel
theorem dX7_question_15 : decode cX7_question 15 = .ok (.invokestatic 26, 3) := by decide +kernel
theorem dX7_question_18 : decode cX7_question 18 = .ok (.ifCond .ne 5, 3) := by decide +kernel
theorem dX7_question_21 : decode cX7_question 21 = .ok (.iconst (-1), 1) := by decide +kernel
theorem dX7_question_22 : decode cX7_question 22 = .ok (.ireturn, 1) := by decide +kernel
theorem dX7_question_23 : decode cX7_question 23 = .ok (.aload_n 0, 1) := by decide +kernel
theorem dX7_question_24 : decode cX7_question 24 = .ok (.invokevirtual 50, 3) := by decide +kernel
theorem dX7_question_27 : decode cX7_question 27 = .ok (.istore 4, 2) := by decide +kernel
theorem dX7_question_29 : decode cX7_question 29 = .ok (.iload 4, 2) := by decide +kernel
theorem dX7_question_31 : decode cX7_question 31 = .ok (.ifCond .lt 27, 3) := by decide +kernel
theorem dX7_question_34 : decode cX7_question 34 = .ok (.aload_n 0, 1) := by decide +kernel
theorem dX7_question_35 : decode cX7_question 35 = .ok (.getfield 19, 3) := by decide +kernel
theorem dX7_question_38 : decode cX7_question 38 = .ok (.new 54, 3) := by decide +kernel
theorem dX7_question_41 : decode cX7_question 41 = .ok (.dup, 1) := by decide +kernel
theorem dX7_question_42 : decode cX7_question 42 = .ok (.iload 4, 2) := by decide +kernel
theorem dX7_question_44 : decode cX7_question 44 = .ok (.iload_n 1, 1) := by decide +kernel
theorem dX7_question_45 : decode cX7_question 45 = .ok (.iload_n 2, 1) := by decide +kernel
theorem dX7_question_46 : decode cX7_question 46 = .ok (.iload_n 3, 1) := by decide +kernel
theorem dX7_question_47 : decode cX7_question 47 = .ok (.aload_n 0, 1) := by decide +kernel
theorem dX7_question_48 : decode cX7_question 48 = .ok (.getfield 12, 3) := by decide +kernel
theorem dX7_question_51 : decode cX7_question 51 = .ok (.invokespecial 56, 3) := by decide +kernel
theorem dX7_question_54 : decode cX7_question 54 = .ok (.invokevirtual 59, 3) := by decide +kernel
theorem dX7_question_57 : decode cX7_question 57 = .ok (.pop, 1) := by decide +kernel
theorem dX7_question_58 : decode cX7_question 58 = .ok (.iload 4, 2) := by decide +kernel
theorem dX7_question_60 : decode cX7_question 60 = .ok (.ireturn, 1) := by decide +kernel
set_option maxRecDepth 20000 in
theorem ggX7_writer_X7_areSteps : GoodIn wsX7_writer wsX7_areSteps := goodIn_r _ [8] (by decide +kernel) (by decide +kernel)
set_option maxRecDepth 20000 in
theorem gX7_writer_X7_areSteps : GoodIn wsX7_writer (va_wsS RX7 44 yX7_areSteps wsX7_areSteps) := goodIn_app (goodIn_of _ (by decide +kernel)) ggX7_writer_X7_areSteps
set_option maxRecDepth 20000 in
theorem ggX7_writer_X7_isFailsAt : GoodIn wsX7_writer wsX7_isFailsAt := goodIn_r _ [11] (by decide +kernel) (by decide +kernel)
set_option maxRecDepth 20000 in
theorem gX7_writer_X7_isFailsAt : GoodIn wsX7_writer (va_wsS RX7 47 yX7_isFailsAt wsX7_isFailsAt) := goodIn_app (goodIn_of _ (by decide +kernel)) ggX7_writer_X7_isFailsAt
set_option maxRecDepth 20000 in
theorem ggX7_writer_X7_isCell : GoodIn wsX7_writer wsX7_isCell := goodIn_r _ [14] (by decide +kernel) (by decide +kernel)
set_option maxRecDepth 20000 in
theorem gX7_writer_X7_isCell : GoodIn wsX7_writer (va_wsS RX7 26 yX7_isCell wsX7_isCell) := goodIn_app (goodIn_of _ (by decide +kernel)) ggX7_writer_X7_isCell
set_option maxRecDepth 20000 in
theorem ggX7_writer_X7_nextNumber : GoodIn wsX7_writer wsX7_nextNumber := goodIn_r _ [18, 19, 1, 20, 21, 22, 23, 24, 25, 108, 109, 110, 111, 112, 113, 128, 129, 130] (by decide +kernel) (by decide +kernel)
set_option maxRecDepth 20000 in
theorem gX7_writer_X7_nextNumber : GoodIn wsX7_writer (wsV RX7 50 RX7 yX7_nextNumber wsX7_nextNumber) := goodIn_app (goodIn_of _ (by decide +kernel)) ggX7_writer_X7_nextNumber
set_option maxRecDepth 20000 in
theorem ggX7_writer_X6_init : GoodIn wsX7_writer wsX6_init := goodIn_r _ [28, 29, 30, 31, 32, 33, 34, 35, 36, 37, 38, 39, 40, 41, 42, 43, 44, 45, 46, 47, 48, 49, 50, 51, 52, 53, 131, 114, 115, 116, 117, 118, 119, 120, 121, 122, 123, 124, 125, 126, 127, 132, 133, 134, 135, 136, 137, 138, 139, 140, 141, 142, 143, 144, 145, 146, 147, 148, 149, 150, 151, 152, 153, 154, 155, 156, 157, 158, 159, 160, 161, 162, 163, 164, 165, 166, 167] (by decide +kernel) (by decide +kernel)
set_option maxRecDepth 20000 in
theorem gX7_writer_X6_init : GoodIn wsX7_writer (wsX6_init) := ggX7_writer_X6_init
set_option maxRecDepth 20000 in
theorem ggX7_writer_Jx4a65c_add_9ea2d : GoodIn wsX7_writer wsJx4a65c_add_9ea2d := goodIn_r _ [57, 58, 59, 60, 25, 61, 62, 63, 23, 64, 65, 66, 67, 68, 69, 70, 71, 72, 73, 74, 75, 76, 77, 78, 79, 80, 81, 82, 83, 84, 85, 86, 87, 88, 89, 90, 91, 92, 93, 94, 95, 96, 97, 98, 99, 100, 101, 102, 103, 104, 105, 106, 107, 128, 129, 130] (by decide +kernel) (by decide +kernel)
set_option maxRecDepth 20000 in
theorem gX7_writer_Jx4a65c_add_9ea2d : GoodIn wsX7_writer (wsV RX7 59 RJx4a65c yJx4a65c_add_9ea2d wsJx4a65c_add_9ea2d) := goodIn_app (goodIn_of _ (by decide +kernel)) ggX7_writer_Jx4a65c_add_9ea2d
theorem dX7_writer_0 : decode cX7_writer 0 = .ok (.iload_n 1, 1) := by decide +kernel
theorem dX7_writer_1 : decode cX7_writer 1 = .ok (.invokestatic 44, 3) := by decide +kernel
theorem dX7_writer_4 : decode cX7_writer 4 = .ok (.ifCond .eq 17, 3) := by decide +kernel
theorem dX7_writer_7 : decode cX7_writer 7 = .ok (.iload_n 2, 1) := by decide +kernel
theorem dX7_writer_8 : decode cX7_writer 8 = .ok (.invokestatic 47, 3) := by decide +kernel
theorem dX7_writer_11 : decode cX7_writer 11 = .ok (.ifCond .eq 10, 3) := by decide +kernel
theorem dX7_writer_14 : decode cX7_writer 14 = .ok (.iload_n 3, 1) := by decide +kernel
theorem dX7_writer_15 : decode cX7_writer 15 = .ok (.invokestatic 26, 3) := by decide +kernel
theorem dX7_writer_18 : decode cX7_writer 18 = .ok (.ifCond .ne 5, 3) := by decide +kernel
theorem dX7_writer_21 : decode cX7_writer 21 = .ok (.iconst (-1), 1) := by decide +kernel
theorem dX7_writer_22 : decode cX7_writer 22 = .ok (.ireturn, 1) := by decide +kernel
theorem dX7_writer_23 : decode cX7_writer 23 = .ok (.aload_n 0, 1) := by decide +kernel
theorem dX7_writer_24 : decode cX7_writer 24 = .ok (.invokevirtual 50, 3) := by decide +kernel
theorem dX7_writer_27 : decode cX7_writer 27 = .ok (.istore 5, 2) := by decide +kernel
theorem dX7_writer_29 : decode cX7_writer 29 = .ok (.iload 5, 2) := by decide +kernel
theorem dX7_writer_31 : decode cX7_writer 31 = .ok (.ifCond .lt 25, 3) := by decide +kernel
theorem dX7_writer_34 : decode cX7_writer 34 = .ok (.aload_n 0, 1) := by decide +kernel
theorem dX7_writer_35 : decode cX7_writer 35 = .ok (.getfield 19, 3) := by decide +kernel
theorem dX7_writer_38 : decode cX7_writer 38 = .ok (.new 63, 3) := by decide +kernel
theorem dX7_writer_41 : decode cX7_writer 41 = .ok (.dup, 1) := by decide +kernel
theorem dX7_writer_42 : decode cX7_writer 42 = .ok (.iload 5, 2) := by decide +kernel
theorem dX7_writer_44 : decode cX7_writer 44 = .ok (.iload_n 1, 1) := by decide +kernel
theorem dX7_writer_45 : decode cX7_writer 45 = .ok (.iload_n 2, 1) := by decide +kernel
theorem dX7_writer_46 : decode cX7_writer 46 = .ok (.iload_n 3, 1) := by decide +kernel
theorem dX7_writer_47 : decode cX7_writer 47 = .ok (.iload 4, 2) := by decide +kernel
theorem dX7_writer_49 : decode cX7_writer 49 = .ok (.invokespecial 65, 3) := by decide +kernel
theorem dX7_writer_52 : decode cX7_writer 52 = .ok (.invokevirtual 59, 3) := by decide +kernel
theorem dX7_writer_55 : decode cX7_writer 55 = .ok (.pop, 1) := by decide +kernel
theorem dX7_writer_56 : decode cX7_writer 56 = .ok (.iload 5, 2) := by decide +kernel
theorem dX7_writer_58 : decode cX7_writer 58 = .ok (.ireturn, 1) := by decide +kernel
set_option maxRecDepth 20000 in
theorem ggX7_reason_X7_areSteps : GoodIn wsX7_reason wsX7_areSteps := goodIn_r _ [8] (by decide +kernel) (by decide +kernel)
set_option maxRecDepth 20000 in
theorem gX7_reason_X7_areSteps : GoodIn wsX7_reason (va_wsS RX7 44 yX7_areSteps wsX7_areSteps) := goodIn_app (goodIn_of _ (by decide +kernel)) ggX7_reason_X7_areSteps
set_option maxRecDepth 20000 in
theorem ggX7_reason_X7_isFailsAt : GoodIn wsX7_reason wsX7_isFailsAt := goodIn_r _ [11] (by decide +kernel) (by decide +kernel)
set_option maxRecDepth 20000 in
theorem gX7_reason_X7_isFailsAt : GoodIn wsX7_reason (va_wsS RX7 47 yX7_isFailsAt wsX7_isFailsAt) := goodIn_app (goodIn_of _ (by decide +kernel)) ggX7_reason_X7_isFailsAt
set_option maxRecDepth 20000 in
theorem ggX7_reason_X7_nextNumber : GoodIn wsX7_reason wsX7_nextNumber := goodIn_r _ [15, 16, 1, 17, 18, 19, 20, 21, 22, 103, 104, 105, 106, 107, 108, 121, 122, 123] (by decide +kernel) (by decide +kernel)
set_option maxRecDepth 20000 in
theorem gX7_reason_X7_nextNumber : GoodIn wsX7_reason (wsV RX7 50 RX7 yX7_nextNumber wsX7_nextNumber) := goodIn_app (goodIn_of _ (by decide +kernel)) ggX7_reason_X7_nextNumber
set_option maxRecDepth 20000 in
theorem ggX7_reason_X2_init : GoodIn wsX7_reason wsX2_init := goodIn_r _ [25, 26, 27, 28, 29, 30, 31, 32, 33, 34, 35, 36, 37, 38, 39, 40, 41, 42, 43, 44, 45, 46, 47, 48, 124, 109, 110, 111, 112, 113, 114, 115, 116, 117, 118, 119, 120, 125, 126, 127, 128, 129, 130, 131, 132, 133, 134, 135, 136, 137, 138, 139, 140, 141, 142, 143, 144, 145, 146, 147, 148, 149, 150, 151, 152, 153, 154, 155, 156, 157, 158, 159, 160, 161, 162] (by decide +kernel) (by decide +kernel)
set_option maxRecDepth 20000 in
theorem gX7_reason_X2_init : GoodIn wsX7_reason (wsX2_init) := ggX7_reason_X2_init
set_option maxRecDepth 20000 in
theorem ggX7_reason_Jx4a65c_add_9ea2d : GoodIn wsX7_reason wsJx4a65c_add_9ea2d := goodIn_r _ [52, 53, 54, 55, 22, 56, 57, 58, 20, 59, 60, 61, 62, 63, 64, 65, 66, 67, 68, 69, 70, 71, 72, 73, 74, 75, 76, 77, 78, 79, 80, 81, 82, 83, 84, 85, 86, 87, 88, 89, 90, 91, 92, 93, 94, 95, 96, 97, 98, 99, 100, 101, 102, 121, 122, 123] (by decide +kernel) (by decide +kernel)
set_option maxRecDepth 20000 in
theorem gX7_reason_Jx4a65c_add_9ea2d : GoodIn wsX7_reason (wsV RX7 59 RJx4a65c yJx4a65c_add_9ea2d wsJx4a65c_add_9ea2d) := goodIn_app (goodIn_of _ (by decide +kernel)) ggX7_reason_Jx4a65c_add_9ea2d
theorem dX7_reason_0 : decode cX7_reason 0 = .ok (.iload_n 1, 1) := by decide +kernel
theorem dX7_reason_1 : decode cX7_reason 1 = .ok (.invokestatic 44, 3) := by decide +kernel
theorem dX7_reason_4 : decode cX7_reason 4 = .ok (.ifCond .eq 10, 3) := by decide +kernel
theorem dX7_reason_7 : decode cX7_reason 7 = .ok (.iload_n 2, 1) := by decide +kernel
theorem dX7_reason_8 : decode cX7_reason 8 = .ok (.invokestatic 47, 3) := by decide +kernel
theorem dX7_reason_11 : decode cX7_reason 11 = .ok (.ifCond .ne 5, 3) := by decide +kernel
theorem dX7_reason_14 : decode cX7_reason 14 = .ok (.iconst (-1), 1) := by decide +kernel
theorem dX7_reason_15 : decode cX7_reason 15 = .ok (.ireturn, 1) := by decide +kernel
theorem dX7_reason_16 : decode cX7_reason 16 = .ok (.aload_n 0, 1) := by decide +kernel
theorem dX7_reason_17 : decode cX7_reason 17 = .ok (.invokevirtual 50, 3) := by decide +kernel
theorem dX7_reason_20 : decode cX7_reason 20 = .ok (.istore_n 3, 1) := by decide +kernel
theorem dX7_reason_21 : decode cX7_reason 21 = .ok (.iload_n 3, 1) := by decide +kernel
theorem dX7_reason_22 : decode cX7_reason 22 = .ok (.ifCond .lt 21, 3) := by decide +kernel
theorem dX7_reason_25 : decode cX7_reason 25 = .ok (.aload_n 0, 1) := by decide +kernel
theorem dX7_reason_26 : decode cX7_reason 26 = .ok (.getfield 19, 3) := by decide +kernel
theorem dX7_reason_29 : decode cX7_reason 29 = .ok (.new 68, 3) := by decide +kernel
theorem dX7_reason_32 : decode cX7_reason 32 = .ok (.dup, 1) := by decide +kernel
theorem dX7_reason_33 : decode cX7_reason 33 = .ok (.iload_n 3, 1) := by decide +kernel
theorem dX7_reason_34 : decode cX7_reason 34 = .ok (.iload_n 1, 1) := by decide +kernel
theorem dX7_reason_35 : decode cX7_reason 35 = .ok (.iload_n 2, 1) := by decide +kernel
theorem dX7_reason_36 : decode cX7_reason 36 = .ok (.invokespecial 70, 3) := by decide +kernel
theorem dX7_reason_39 : decode cX7_reason 39 = .ok (.invokevirtual 59, 3) := by decide +kernel
theorem dX7_reason_42 : decode cX7_reason 42 = .ok (.pop, 1) := by decide +kernel
theorem dX7_reason_43 : decode cX7_reason 43 = .ok (.iload_n 3, 1) := by decide +kernel
theorem dX7_reason_44 : decode cX7_reason 44 = .ok (.ireturn, 1) := by decide +kernel
set_option maxRecDepth 20000 in
theorem ggX7_stream_X7_nextNumber : GoodIn wsX7_stream wsX7_nextNumber := goodIn_r _ [10, 11, 1, 12, 13, 14, 15, 16, 17, 98, 99, 100, 101, 102, 103, 115, 116, 117] (by decide +kernel) (by decide +kernel)
set_option maxRecDepth 20000 in
theorem gX7_stream_X7_nextNumber : GoodIn wsX7_stream (wsV RX7 50 RX7 yX7_nextNumber wsX7_nextNumber) := goodIn_app (goodIn_of _ (by decide +kernel)) ggX7_stream_X7_nextNumber
set_option maxRecDepth 20000 in
theorem ggX7_stream_X4_init : GoodIn wsX7_stream wsX4_init := goodIn_r _ [20, 21, 22, 23, 24, 25, 26, 27, 28, 29, 30, 31, 32, 33, 34, 35, 36, 37, 38, 39, 40, 41, 42, 43, 13, 14, 15, 16, 17, 118, 119, 120, 121, 122, 123, 124, 125, 126, 127, 128, 129, 130, 131, 132, 133, 134, 135, 136, 137, 138, 139, 140, 141, 142, 104, 105, 106, 107, 108, 109, 110, 111, 112, 113, 114, 143, 144, 145, 146, 147, 148, 149, 150, 151, 152, 153, 154, 155, 156, 157, 158, 159, 115, 116, 117] (by decide +kernel) (by decide +kernel)
set_option maxRecDepth 20000 in
theorem gX7_stream_X4_init : GoodIn wsX7_stream (wsX4_init) := ggX7_stream_X4_init
set_option maxRecDepth 20000 in
theorem ggX7_stream_Jx4a65c_add_9ea2d : GoodIn wsX7_stream wsJx4a65c_add_9ea2d := goodIn_r _ [47, 48, 49, 50, 17, 51, 52, 53, 15, 54, 55, 56, 57, 58, 59, 60, 61, 62, 63, 64, 65, 66, 67, 68, 69, 70, 71, 72, 73, 74, 75, 76, 77, 78, 79, 80, 81, 82, 83, 84, 85, 86, 87, 88, 89, 90, 91, 92, 93, 94, 95, 96, 97, 115, 116, 117] (by decide +kernel) (by decide +kernel)
set_option maxRecDepth 20000 in
theorem gX7_stream_Jx4a65c_add_9ea2d : GoodIn wsX7_stream (wsV RX7 59 RJx4a65c yJx4a65c_add_9ea2d wsJx4a65c_add_9ea2d) := goodIn_app (goodIn_of _ (by decide +kernel)) ggX7_stream_Jx4a65c_add_9ea2d
theorem dX7_stream_0 : decode cX7_stream 0 = .ok (.aload_n 0, 1) := by decide +kernel
theorem dX7_stream_1 : decode cX7_stream 1 = .ok (.invokevirtual 50, 3) := by decide +kernel
theorem dX7_stream_4 : decode cX7_stream 4 = .ok (.istore_n 1, 1) := by decide +kernel
theorem dX7_stream_5 : decode cX7_stream 5 = .ok (.iload_n 1, 1) := by decide +kernel
theorem dX7_stream_6 : decode cX7_stream 6 = .ok (.ifCond .lt 23, 3) := by decide +kernel
theorem dX7_stream_9 : decode cX7_stream 9 = .ok (.aload_n 0, 1) := by decide +kernel
theorem dX7_stream_10 : decode cX7_stream 10 = .ok (.getfield 19, 3) := by decide +kernel
theorem dX7_stream_13 : decode cX7_stream 13 = .ok (.new 73, 3) := by decide +kernel
theorem dX7_stream_16 : decode cX7_stream 16 = .ok (.dup, 1) := by decide +kernel
theorem dX7_stream_17 : decode cX7_stream 17 = .ok (.iload_n 1, 1) := by decide +kernel
theorem dX7_stream_18 : decode cX7_stream 18 = .ok (.aload_n 0, 1) := by decide +kernel
theorem dX7_stream_19 : decode cX7_stream 19 = .ok (.getfield 12, 3) := by decide +kernel
theorem dX7_stream_22 : decode cX7_stream 22 = .ok (.invokespecial 75, 3) := by decide +kernel
theorem dX7_stream_25 : decode cX7_stream 25 = .ok (.invokevirtual 59, 3) := by decide +kernel
theorem dX7_stream_28 : decode cX7_stream 28 = .ok (.pop, 1) := by decide +kernel
theorem dX7_stream_29 : decode cX7_stream 29 = .ok (.iload_n 1, 1) := by decide +kernel
theorem dX7_stream_30 : decode cX7_stream 30 = .ok (.ireturn, 1) := by decide +kernel
set_option maxRecDepth 20000 in
theorem ggX7_turn_X7_find : GoodIn wsX7_turn wsX7_find := goodIn_r _ [5, 6, 7, 8, 9, 10, 11, 12, 13, 14, 15, 16, 17, 18, 19, 20, 21, 22, 23, 24, 25, 26, 27, 28, 29, 30, 271, 272, 273, 274, 275, 276, 277, 278, 279] (by decide +kernel) (by decide +kernel)
set_option maxRecDepth 20000 in
theorem gX7_turn_X7_find : GoodIn wsX7_turn (wsV RX7 78 RX7 yX7_find wsX7_find) := goodIn_app (goodIn_of _ (by decide +kernel)) ggX7_turn_X7_find
set_option maxRecDepth 20000 in
theorem ggX7_turn_X7_giveTurn : GoodIn wsX7_turn wsX7_giveTurn := goodIn_r _ [34, 35, 36, 37, 38, 39, 40, 41, 42, 43, 44, 45, 46, 47, 48, 49, 4, 50, 51, 52, 53, 54, 55, 56, 57, 6, 7, 8, 9, 10, 11, 12, 13, 14, 15, 16, 17, 18, 19, 20, 21, 22, 23, 24, 25, 26, 27, 28, 29, 30, 58, 59, 60, 61, 62, 63, 64, 65, 66, 67, 68, 69, 70, 71, 72, 73, 74, 75, 76, 77, 78, 79, 80, 81, 82, 83, 84, 85, 86, 87, 88, 89, 90, 91, 92, 93, 94, 95, 96, 97, 98, 99, 100, 101, 102, 103, 104, 105, 106, 107, 108, 109, 110, 111, 112, 113, 114, 115, 116, 117, 118, 119, 120, 121, 122, 123, 124, 125, 126, 127, 128, 129, 130, 131, 132, 133, 134, 135, 136, 137, 138, 139, 140, 141, 142, 143, 144, 145, 146, 147, 148, 149, 150, 151, 152, 153, 154, 155, 156, 157, 158, 159, 160, 161, 162, 163, 164, 165, 166, 167, 168, 169, 170, 171, 172, 173, 174, 175, 176, 177, 178, 179, 180, 181, 182, 183, 184, 185, 186, 187, 188, 189, 190, 191, 192, 193, 194, 195, 196, 197, 198, 199, 200, 201, 202, 203, 204, 205, 206, 207, 208, 209, 210, 211, 212, 213, 214, 215, 216, 217, 218, 219, 220, 221, 222, 223, 224, 225, 226, 227, 228, 229, 230, 231, 232, 233, 234, 235, 236, 237, 238, 239, 240, 241, 242, 243, 244, 245, 246, 247, 248, 249, 250, 251, 252, 253, 254, 255, 256, 257, 258, 259, 260, 261, 262, 263, 264, 265, 266, 267, 268, 269, 270, 271, 272, 273, 274, 275, 276, 280, 281, 282, 283, 284, 285, 286, 287, 288, 289, 290, 291, 292, 293, 294, 295, 296, 297, 298, 299, 300, 301, 302, 303, 304, 305, 306, 307, 308, 309, 310, 311, 312, 313, 314, 315, 316, 317, 318, 319, 320, 321, 322, 323, 324, 325, 326, 327, 328, 329, 277, 278, 279, 330, 331, 332, 333] (by decide +kernel) (by decide +kernel)
set_option maxRecDepth 20000 in
theorem gX7_turn_X7_giveTurn : GoodIn wsX7_turn (wsV RX7 82 RX7 yX7_giveTurn wsX7_giveTurn) := goodIn_app (goodIn_of _ (by decide +kernel)) ggX7_turn_X7_giveTurn
theorem dX7_turn_0 : decode cX7_turn 0 = .ok (.aload_n 0, 1) := by decide +kernel
theorem dX7_turn_1 : decode cX7_turn 1 = .ok (.iload_n 1, 1) := by decide +kernel
theorem dX7_turn_2 : decode cX7_turn 2 = .ok (.invokevirtual 78, 3) := by decide +kernel
theorem dX7_turn_5 : decode cX7_turn 5 = .ok (.astore_n 2, 1) := by decide +kernel
theorem dX7_turn_6 : decode cX7_turn 6 = .ok (.aload_n 2, 1) := by decide +kernel
theorem dX7_turn_7 : decode cX7_turn 7 = .ok (.ifnonnull 5, 3) := by decide +kernel
theorem dX7_turn_10 : decode cX7_turn 10 = .ok (.iconst (-1), 1) := by decide +kernel
theorem dX7_turn_11 : decode cX7_turn 11 = .ok (.ireturn, 1) := by decide +kernel
theorem dX7_turn_12 : decode cX7_turn 12 = .ok (.aload_n 0, 1) := by decide +kernel
theorem dX7_turn_13 : decode cX7_turn 13 = .ok (.aload_n 2, 1) := by decide +kernel
theorem dX7_turn_14 : decode cX7_turn 14 = .ok (.invokevirtual 82, 3) := by decide +kernel
theorem dX7_turn_17 : decode cX7_turn 17 = .ok (.ireturn, 1) := by decide +kernel
set_option maxRecDepth 20000 in
theorem ggX7_run_X7_giveRow : GoodIn wsX7_run wsX7_giveRow := goodIn_r _ [5, 6, 7, 8, 9, 10, 11, 12, 13, 14, 15, 16, 17, 18, 19, 20, 21, 22, 23, 24, 25, 26, 27, 28, 29, 30, 31, 32, 33, 4, 34, 35, 36, 37, 38, 39, 40, 41, 42, 43, 44, 45, 46, 47, 48, 49, 50, 51, 52, 53, 54, 55, 56, 57, 58, 59, 60, 61, 62, 63, 64, 65, 66, 67, 68, 69, 70, 71, 72, 73, 74, 75, 76, 77, 78, 79, 80, 81, 82, 83, 84, 85, 86, 87, 88, 89, 90, 91, 92, 93, 94, 95, 96, 97, 98, 99, 100, 101, 102, 103, 104, 105, 106, 107, 108, 109, 110, 111, 112, 113, 114, 115, 116, 117, 118, 119, 120, 121, 122, 123, 124, 125, 126, 127, 128, 129, 130, 131, 132, 133, 134, 135, 136, 137, 138, 139, 140, 141, 142, 143, 144, 145, 146, 147, 148, 149, 150, 151, 152, 153, 154, 155, 156, 157, 158, 159, 160, 161, 162, 163, 164, 165, 166, 167, 168, 169, 170, 171, 172, 173, 174, 175, 176, 177, 178, 179, 180, 181, 182, 183, 184, 185, 186, 187, 188, 189, 190, 191, 192, 193, 194, 195, 196, 197, 198, 199, 200, 201, 202, 203, 204, 205, 206, 207, 208, 209, 210, 211, 212, 213, 214, 215, 216, 217, 218, 219, 220, 221, 222, 223, 224, 225, 226, 227, 228, 229, 230, 231, 232, 233, 234, 235, 236, 237, 238, 239, 240, 241, 242, 243, 244, 245, 246, 247, 248, 249, 250, 251, 252, 253, 254, 255, 256, 257, 258, 259, 260, 261, 262, 263, 264, 265, 266, 267, 268, 269, 270, 271, 272, 273, 274, 275, 276, 277, 278, 279, 280, 281, 282, 283, 284, 285, 286, 287, 288, 289, 290, 291, 292, 293, 294, 295, 296, 297, 298, 299, 300, 301, 302, 303, 304, 305, 306, 307, 308, 309, 310, 311, 312, 313, 314, 315, 316, 317, 318, 319, 320, 321, 322, 323, 324, 325, 326, 327, 328, 329, 330, 331, 332, 333] (by decide +kernel) (by decide +kernel)
set_option maxRecDepth 20000 in
theorem gX7_run_X7_giveRow : GoodIn wsX7_run (wsV RX7 86 RX7 yX7_giveRow wsX7_giveRow) := goodIn_app (goodIn_of _ (by decide +kernel)) ggX7_run_X7_giveRow
theorem dX7_run_0 : decode cX7_run 0 = .ok (.iload_n 1, 1) := by decide +kernel
theorem dX7_run_1 : decode cX7_run 1 = .ok (.ifCond .lt 10, 3) := by decide +kernel
theorem dX7_run_4 : decode cX7_run 4 = .ok (.iload_n 1, 1) := by decide +kernel
theorem dX7_run_5 : decode cX7_run 5 = .ok (.sipush 1000, 3) := by decide +kernel
theorem dX7_run_8 : decode cX7_run 8 = .ok (.if_icmp .le 5, 3) := by decide +kernel
theorem dX7_run_11 : decode cX7_run 11 = .ok (.iconst (-1), 1) := by decide +kernel
theorem dX7_run_12 : decode cX7_run 12 = .ok (.ireturn, 1) := by decide +kernel
theorem dX7_run_13 : decode cX7_run 13 = .ok (.iconst 0, 1) := by decide +kernel
theorem dX7_run_14 : decode cX7_run 14 = .ok (.istore_n 2, 1) := by decide +kernel
theorem dX7_run_15 : decode cX7_run 15 = .ok (.iconst 0, 1) := by decide +kernel
theorem dX7_run_16 : decode cX7_run 16 = .ok (.istore_n 3, 1) := by decide +kernel
theorem dX7_run_17 : decode cX7_run 17 = .ok (.iload_n 3, 1) := by decide +kernel
theorem dX7_run_18 : decode cX7_run 18 = .ok (.iload_n 1, 1) := by decide +kernel
theorem dX7_run_19 : decode cX7_run 19 = .ok (.if_icmp .ge 31, 3) := by decide +kernel
theorem dX7_run_22 : decode cX7_run 22 = .ok (.aload_n 0, 1) := by decide +kernel
theorem dX7_run_23 : decode cX7_run 23 = .ok (.iload_n 1, 1) := by decide +kernel
theorem dX7_run_24 : decode cX7_run 24 = .ok (.iload_n 2, 1) := by decide +kernel
theorem dX7_run_25 : decode cX7_run 25 = .ok (.isub, 1) := by decide +kernel
theorem dX7_run_26 : decode cX7_run 26 = .ok (.invokevirtual 86, 3) := by decide +kernel
theorem dX7_run_29 : decode cX7_run 29 = .ok (.istore 4, 2) := by decide +kernel
theorem dX7_run_31 : decode cX7_run 31 = .ok (.iload 4, 2) := by decide +kernel
theorem dX7_run_33 : decode cX7_run 33 = .ok (.ifCond .ne 6, 3) := by decide +kernel
theorem dX7_run_36 : decode cX7_run 36 = .ok (.goto 14, 3) := by decide +kernel
theorem dX7_run_39 : decode cX7_run 39 = .ok (.iload_n 2, 1) := by decide +kernel
theorem dX7_run_40 : decode cX7_run 40 = .ok (.iload 4, 2) := by decide +kernel
theorem dX7_run_42 : decode cX7_run 42 = .ok (.iadd, 1) := by decide +kernel
theorem dX7_run_43 : decode cX7_run 43 = .ok (.istore_n 2, 1) := by decide +kernel
theorem dX7_run_44 : decode cX7_run 44 = .ok (.iinc 3 1, 3) := by decide +kernel
theorem dX7_run_47 : decode cX7_run 47 = .ok (.goto (-30), 3) := by decide +kernel
theorem dX7_run_50 : decode cX7_run 50 = .ok (.iload_n 2, 1) := by decide +kernel
theorem dX7_run_51 : decode cX7_run 51 = .ok (.ireturn, 1) := by decide +kernel
set_option maxRecDepth 20000 in
theorem ggX7_cancel_X7_find : GoodIn wsX7_cancel wsX7_find := goodIn_r _ [6, 7, 8, 9, 10, 11, 12, 13, 14, 15, 16, 17, 18, 19, 20, 21, 22, 23, 24, 25, 26, 27, 28, 29, 30, 31, 92, 93, 94, 95, 96, 97, 98, 99, 100] (by decide +kernel) (by decide +kernel)
set_option maxRecDepth 20000 in
theorem gX7_cancel_X7_find : GoodIn wsX7_cancel (wsV RX7 78 RX7 yX7_find wsX7_find) := goodIn_app (goodIn_of _ (by decide +kernel)) ggX7_cancel_X7_find
set_option maxRecDepth 20000 in
theorem ggX7_cancel_X5_hasEnded : GoodIn wsX7_cancel wsX5_hasEnded := goodIn_r _ [37, 38, 42, 43, 44, 45, 46, 47, 48, 49, 50, 51, 52, 53, 54, 55, 56, 57, 58, 59, 60, 61, 62, 63, 64, 65, 66, 67, 68, 69, 70, 71, 72, 73, 74, 75, 76, 77, 78, 79, 80, 81, 82, 83, 84, 85, 86, 87, 88, 89, 90, 91] (by decide +kernel) (by decide +kernel)
set_option maxRecDepth 20000 in
theorem gX7_cancel_X5_hasEnded_u90X1 : GoodIn wsX7_cancel (va_wsU RX7 90 RX1 "HouseWorkers$Work" ⟨"HouseWorkers$Work", "hasEnded", "()Z"⟩ yX5_hasEnded wsX5_hasEnded) := goodIn_app (goodIn_of _ (by decide +kernel)) ggX7_cancel_X5_hasEnded
set_option maxRecDepth 20000 in
theorem gX7_cancel_X5_hasEnded_u90X2 : GoodIn wsX7_cancel (va_wsU RX7 90 RX2 "HouseWorkers$Work" ⟨"HouseWorkers$Work", "hasEnded", "()Z"⟩ yX5_hasEnded wsX5_hasEnded) := goodIn_app (goodIn_of _ (by decide +kernel)) ggX7_cancel_X5_hasEnded
set_option maxRecDepth 20000 in
theorem gX7_cancel_X5_hasEnded_u90X4 : GoodIn wsX7_cancel (va_wsU RX7 90 RX4 "HouseWorkers$Work" ⟨"HouseWorkers$Work", "hasEnded", "()Z"⟩ yX5_hasEnded wsX5_hasEnded) := goodIn_app (goodIn_of _ (by decide +kernel)) ggX7_cancel_X5_hasEnded
set_option maxRecDepth 20000 in
theorem gX7_cancel_X5_hasEnded_u90X6 : GoodIn wsX7_cancel (va_wsU RX7 90 RX6 "HouseWorkers$Work" ⟨"HouseWorkers$Work", "hasEnded", "()Z"⟩ yX5_hasEnded wsX5_hasEnded) := goodIn_app (goodIn_of _ (by decide +kernel)) ggX7_cancel_X5_hasEnded
theorem dX7_cancel_0 : decode cX7_cancel 0 = .ok (.aload_n 0, 1) := by decide +kernel
theorem dX7_cancel_1 : decode cX7_cancel 1 = .ok (.iload_n 1, 1) := by decide +kernel
theorem dX7_cancel_2 : decode cX7_cancel 2 = .ok (.invokevirtual 78, 3) := by decide +kernel
theorem dX7_cancel_5 : decode cX7_cancel 5 = .ok (.astore_n 2, 1) := by decide +kernel
theorem dX7_cancel_6 : decode cX7_cancel 6 = .ok (.aload_n 2, 1) := by decide +kernel
theorem dX7_cancel_7 : decode cX7_cancel 7 = .ok (.ifnonnull 5, 3) := by decide +kernel
theorem dX7_cancel_10 : decode cX7_cancel 10 = .ok (.iconst (-1), 1) := by decide +kernel
theorem dX7_cancel_11 : decode cX7_cancel 11 = .ok (.ireturn, 1) := by decide +kernel
theorem dX7_cancel_12 : decode cX7_cancel 12 = .ok (.aload_n 2, 1) := by decide +kernel
theorem dX7_cancel_13 : decode cX7_cancel 13 = .ok (.invokevirtual 90, 3) := by decide +kernel
theorem dX7_cancel_16 : decode cX7_cancel 16 = .ok (.ifCond .ne 10, 3) := by decide +kernel
theorem dX7_cancel_19 : decode cX7_cancel 19 = .ok (.aload_n 2, 1) := by decide +kernel
theorem dX7_cancel_20 : decode cX7_cancel 20 = .ok (.getfield 95, 3) := by decide +kernel
theorem dX7_cancel_23 : decode cX7_cancel 23 = .ok (.ifCond .eq 5, 3) := by decide +kernel
theorem dX7_cancel_26 : decode cX7_cancel 26 = .ok (.iconst 0, 1) := by decide +kernel
theorem dX7_cancel_27 : decode cX7_cancel 27 = .ok (.ireturn, 1) := by decide +kernel
theorem dX7_cancel_28 : decode cX7_cancel 28 = .ok (.aload_n 2, 1) := by decide +kernel
theorem dX7_cancel_29 : decode cX7_cancel 29 = .ok (.iconst 1, 1) := by decide +kernel
theorem dX7_cancel_30 : decode cX7_cancel 30 = .ok (.putfield 95, 3) := by decide +kernel
theorem dX7_cancel_33 : decode cX7_cancel 33 = .ok (.iconst 1, 1) := by decide +kernel
theorem dX7_cancel_34 : decode cX7_cancel 34 = .ok (.ireturn, 1) := by decide +kernel
set_option maxRecDepth 20000 in
theorem ggX7_close_Jx4a65c_size_8abf5 : GoodIn wsX7_close wsJx4a65c_size_8abf5 := goodIn_r _ [8, 9, 105, 106, 107] (by decide +kernel) (by decide +kernel)
set_option maxRecDepth 20000 in
theorem gX7_close_Jx4a65c_size_8abf5 : GoodIn wsX7_close (wsV RX7 102 RJx4a65c yJx4a65c_size_8abf5 wsJx4a65c_size_8abf5) := goodIn_app (goodIn_of _ (by decide +kernel)) ggX7_close_Jx4a65c_size_8abf5
set_option maxRecDepth 20000 in
theorem ggX7_close_Jx4a65c_get_915e3 : GoodIn wsX7_close wsJx4a65c_get_915e3 := goodIn_r _ [13, 9, 14, 15, 16, 17, 18, 19, 20, 21, 22, 23, 24, 7, 25, 26, 105, 106, 107] (by decide +kernel) (by decide +kernel)
set_option maxRecDepth 20000 in
theorem gX7_close_Jx4a65c_get_915e3 : GoodIn wsX7_close (wsV RX7 105 RJx4a65c yJx4a65c_get_915e3 wsJx4a65c_get_915e3) := goodIn_app (goodIn_of _ (by decide +kernel)) ggX7_close_Jx4a65c_get_915e3
set_option maxRecDepth 20000 in
theorem ggX7_close_X5_hasEnded : GoodIn wsX7_close wsX5_hasEnded := goodIn_r _ [32, 33, 108, 109, 110, 111, 112, 113, 114, 115, 116, 117, 118, 119, 120, 121, 122, 123, 124, 125, 126, 127, 128, 129, 130, 131, 132, 133, 134, 135, 136, 137, 138, 139, 140, 141, 142, 143, 144, 145, 146, 147, 148, 149, 150, 151, 152, 153, 154, 155, 156, 157] (by decide +kernel) (by decide +kernel)
