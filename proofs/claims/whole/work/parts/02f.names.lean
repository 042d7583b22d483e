set_option maxRecDepth 20000 in
theorem gX7_giveTurn_X5_hasEnded_u90X4 : GoodIn wsX7_giveTurn (va_wsU RX7 90 RX4 "HouseWorkers$Work" ⟨"HouseWorkers$Work", "hasEnded", "()Z"⟩ yX5_hasEnded wsX5_hasEnded) := goodIn_app (goodIn_of _ (by decide +kernel)) ggX7_giveTurn_X5_hasEnded
set_option maxRecDepth 20000 in
theorem gX7_giveTurn_X5_hasEnded_u90X6 : GoodIn wsX7_giveTurn (va_wsU RX7 90 RX6 "HouseWorkers$Work" ⟨"HouseWorkers$Work", "hasEnded", "()Z"⟩ yX5_hasEnded wsX5_hasEnded) := goodIn_app (goodIn_of _ (by decide +kernel)) ggX7_giveTurn_X5_hasEnded
set_option maxRecDepth 20000 in
theorem ggX7_giveTurn_X7_standsStill : GoodIn wsX7_giveTurn wsX7_standsStill := goodIn_r _ [17, 18, 19, 3, 4, 5, 6, 7, 8, 9, 10, 11, 12, 20, 21, 22, 16, 23, 24, 25, 26, 27, 28, 29, 30, 31, 32, 33, 34, 35, 36, 37, 38, 39, 40, 41, 42, 43, 44, 45, 46, 47, 48, 49, 50, 51, 52, 53, 54, 55, 56, 57, 58, 59, 60, 61, 62, 63, 64, 65, 66, 67, 68, 69, 70, 71, 72, 73, 74, 75, 76, 77, 78, 79, 80, 81, 82, 83, 84, 85, 86, 87, 88, 89, 90, 91, 92, 93, 94, 269, 270, 271, 272, 273, 274, 275, 276, 277, 278, 279, 280, 281, 282, 283, 284, 285, 286, 287, 288, 289, 290, 291, 292, 293, 294, 295, 296, 297, 298, 299, 300, 301, 302, 303, 304, 305, 306, 307, 308, 309, 310, 311, 312, 313, 314, 315, 316, 317, 318, 263, 264, 265, 266, 267, 268, 319, 320, 321, 322, 323, 324] (by decide +kernel) (by decide +kernel)
set_option maxRecDepth 20000 in
theorem gX7_giveTurn_X7_standsStill : GoodIn wsX7_giveTurn (wsV RX7 129 RX7 yX7_standsStill wsX7_standsStill) := goodIn_app (goodIn_of _ (by decide +kernel)) ggX7_giveTurn_X7_standsStill
set_option maxRecDepth 20000 in
theorem ggX7_giveTurn_X7_act : GoodIn wsX7_giveTurn wsX7_act := goodIn_r _ [98, 18, 19, 99, 100, 101, 102, 7, 103, 104, 93, 105, 106, 107, 91, 92, 94, 108, 109, 110, 111, 112, 113, 114, 115, 116, 117, 63, 118, 119, 120, 121, 122, 123, 124, 125, 126, 127, 128, 129, 130, 131, 132, 133, 134, 135, 67, 136, 137, 138, 139, 69, 70, 140, 141, 142, 143, 144, 145, 146, 147, 80, 148, 82, 149, 150, 151, 152, 30, 153, 154, 155, 49, 32, 156, 157, 158, 159, 160, 161, 162, 163, 164, 165, 166, 167, 168, 169, 170, 171, 172, 173, 174, 175, 176, 177, 178, 179, 180, 181, 182, 183, 184, 185, 186, 187, 188, 189, 190, 191, 192, 193, 194, 195, 196, 197, 198, 199, 200, 201, 202, 83, 28, 29, 31, 203, 204, 205, 206, 207, 208, 209, 210, 211, 78, 79, 81, 212, 213, 214, 215, 216, 217, 218, 73, 219, 75, 76, 220, 221, 222, 223, 224, 225, 226, 227, 228, 229, 230, 34, 35, 36, 37, 38, 39, 40, 41, 42, 43, 44, 45, 46, 47, 48, 231, 232, 233, 234, 235, 236, 86, 237, 238, 239, 240, 241, 242, 243, 244, 88, 89, 90, 245, 246, 247, 248, 249, 250, 251, 252, 253, 254, 269, 270, 271, 272, 273, 274, 275, 276, 277, 278, 279, 280, 281, 282, 283, 284, 285, 286, 287, 288, 289, 290, 291, 292, 293, 294, 295, 296, 297, 298, 299, 300, 301, 302, 303, 304, 305, 306, 307, 308, 309, 310, 311, 312, 313, 314, 315, 316, 317, 318, 263, 264, 265, 266, 267, 268, 325, 322, 323, 324, 319, 320, 321] (by decide +kernel) (by decide +kernel)
set_option maxRecDepth 20000 in
theorem gX7_giveTurn_X7_act : GoodIn wsX7_giveTurn (wsV RX7 161 RX7 yX7_act wsX7_act) := goodIn_app (goodIn_of _ (by decide +kernel)) ggX7_giveTurn_X7_act
set_option maxRecDepth 20000 in
theorem ggX7_giveTurn_X7_endWork : GoodIn wsX7_giveTurn wsX7_endWork := goodIn_r _ [258, 259, 2, 260, 261, 262, 151, 152, 30, 153, 154, 155, 49, 32, 156, 157, 158, 159, 160, 161, 162, 163, 164, 165, 166, 167, 168, 169, 170, 171, 172, 173, 174, 175, 176, 177, 178, 179, 180, 181, 182, 183, 184, 185, 186, 187, 188, 189, 190, 191, 192, 193, 194, 195, 196, 197, 198, 199, 200, 201, 202, 269, 270, 271, 272, 273, 274, 275, 276, 277, 278, 279, 280, 281, 282, 283, 284, 285, 286, 287, 288, 289, 290, 291, 292, 293, 294, 295, 296, 297, 298, 299, 300, 301, 302, 303, 304, 305, 306, 307, 308, 309, 310, 311, 312, 313, 314, 315, 316, 317, 318, 263, 264, 265, 266, 267, 268, 319, 320, 321] (by decide +kernel) (by decide +kernel)
set_option maxRecDepth 20000 in
theorem gX7_giveTurn_X7_endWork : GoodIn wsX7_giveTurn (wsV RX7 109 RX7 yX7_endWork wsX7_endWork) := goodIn_app (goodIn_of _ (by decide +kernel)) ggX7_giveTurn_X7_endWork
theorem dX7_giveTurn_0 : decode cX7_giveTurn 0 = .ok (.aload_n 1, 1) := by decide +kernel
theorem dX7_giveTurn_1 : decode cX7_giveTurn 1 = .ok (.invokevirtual 90, 3) := by decide +kernel
theorem dX7_giveTurn_4 : decode cX7_giveTurn 4 = .ok (.ifCond .eq 5, 3) := by decide +kernel
theorem dX7_giveTurn_7 : decode cX7_giveTurn 7 = .ok (.iconst 0, 1) := by decide +kernel
theorem dX7_giveTurn_8 : decode cX7_giveTurn 8 = .ok (.ireturn, 1) := by decide +kernel
theorem dX7_giveTurn_9 : decode cX7_giveTurn 9 = .ok (.aload_n 0, 1) := by decide +kernel
theorem dX7_giveTurn_10 : decode cX7_giveTurn 10 = .ok (.aload_n 1, 1) := by decide +kernel
theorem dX7_giveTurn_11 : decode cX7_giveTurn 11 = .ok (.invokevirtual 129, 3) := by decide +kernel
theorem dX7_giveTurn_14 : decode cX7_giveTurn 14 = .ok (.ifCond .eq 15, 3) := by decide +kernel
theorem dX7_giveTurn_17 : decode cX7_giveTurn 17 = .ok (.aload_n 0, 1) := by decide +kernel
theorem dX7_giveTurn_18 : decode cX7_giveTurn 18 = .ok (.dup, 1) := by decide +kernel
theorem dX7_giveTurn_19 : decode cX7_giveTurn 19 = .ok (.getfield 158, 3) := by decide +kernel
theorem dX7_giveTurn_22 : decode cX7_giveTurn 22 = .ok (.iconst 1, 1) := by decide +kernel
theorem dX7_giveTurn_23 : decode cX7_giveTurn 23 = .ok (.iadd, 1) := by decide +kernel
theorem dX7_giveTurn_24 : decode cX7_giveTurn 24 = .ok (.putfield 158, 3) := by decide +kernel
theorem dX7_giveTurn_27 : decode cX7_giveTurn 27 = .ok (.iconst 0, 1) := by decide +kernel
theorem dX7_giveTurn_28 : decode cX7_giveTurn 28 = .ok (.ireturn, 1) := by decide +kernel
theorem dX7_giveTurn_29 : decode cX7_giveTurn 29 = .ok (.aload_n 0, 1) := by decide +kernel
theorem dX7_giveTurn_30 : decode cX7_giveTurn 30 = .ok (.dup, 1) := by decide +kernel
theorem dX7_giveTurn_31 : decode cX7_giveTurn 31 = .ok (.getfield 155, 3) := by decide +kernel
theorem dX7_giveTurn_34 : decode cX7_giveTurn 34 = .ok (.iconst 1, 1) := by decide +kernel
theorem dX7_giveTurn_35 : decode cX7_giveTurn 35 = .ok (.iadd, 1) := by decide +kernel
theorem dX7_giveTurn_36 : decode cX7_giveTurn 36 = .ok (.putfield 155, 3) := by decide +kernel
theorem dX7_giveTurn_39 : decode cX7_giveTurn 39 = .ok (.aload_n 0, 1) := by decide +kernel
theorem dX7_giveTurn_40 : decode cX7_giveTurn 40 = .ok (.aload_n 1, 1) := by decide +kernel
theorem dX7_giveTurn_41 : decode cX7_giveTurn 41 = .ok (.invokevirtual 161, 3) := by decide +kernel
theorem dX7_giveTurn_44 : decode cX7_giveTurn 44 = .ok (.istore_n 2, 1) := by decide +kernel
theorem dX7_giveTurn_45 : decode cX7_giveTurn 45 = .ok (.iload_n 2, 1) := by decide +kernel
theorem dX7_giveTurn_46 : decode cX7_giveTurn 46 = .ok (.iconst 1, 1) := by decide +kernel
theorem dX7_giveTurn_47 : decode cX7_giveTurn 47 = .ok (.if_icmp .eq 9, 3) := by decide +kernel
theorem dX7_giveTurn_50 : decode cX7_giveTurn 50 = .ok (.aload_n 0, 1) := by decide +kernel
theorem dX7_giveTurn_51 : decode cX7_giveTurn 51 = .ok (.aload_n 1, 1) := by decide +kernel
theorem dX7_giveTurn_52 : decode cX7_giveTurn 52 = .ok (.iload_n 2, 1) := by decide +kernel
theorem dX7_giveTurn_53 : decode cX7_giveTurn 53 = .ok (.invokevirtual 109, 3) := by decide +kernel
theorem dX7_giveTurn_56 : decode cX7_giveTurn 56 = .ok (.iload_n 2, 1) := by decide +kernel
theorem dX7_giveTurn_57 : decode cX7_giveTurn 57 = .ok (.ireturn, 1) := by decide +kernel
set_option maxRecDepth 20000 in
theorem ggX7_act_X5_failsNow : GoodIn wsX7_act wsX5_failsNow := goodIn_r _ [8, 9, 10, 11, 12, 13, 14, 7, 15, 16, 17, 18, 19, 202, 203, 204, 205, 206, 207, 208, 209, 210, 211, 212, 213, 214, 215, 216, 217, 218, 219, 220, 221, 222, 223, 224, 225, 226, 227, 228, 229, 230, 231, 232, 233, 234, 235, 236, 237, 238, 239, 240, 241, 242, 243, 244, 245, 246, 247, 248, 249, 250, 251] (by decide +kernel) (by decide +kernel)
set_option maxRecDepth 20000 in
theorem gX7_act_X5_failsNow_u164X1 : GoodIn wsX7_act (va_wsU RX7 164 RX1 "HouseWorkers$Work" ⟨"HouseWorkers$Work", "failsNow", "()Z"⟩ yX5_failsNow wsX5_failsNow) := goodIn_app (goodIn_of _ (by decide +kernel)) ggX7_act_X5_failsNow
set_option maxRecDepth 20000 in
theorem gX7_act_X5_failsNow_u164X2 : GoodIn wsX7_act (va_wsU RX7 164 RX2 "HouseWorkers$Work" ⟨"HouseWorkers$Work", "failsNow", "()Z"⟩ yX5_failsNow wsX5_failsNow) := goodIn_app (goodIn_of _ (by decide +kernel)) ggX7_act_X5_failsNow
set_option maxRecDepth 20000 in
theorem gX7_act_X5_failsNow_u164X4 : GoodIn wsX7_act (va_wsU RX7 164 RX4 "HouseWorkers$Work" ⟨"HouseWorkers$Work", "failsNow", "()Z"⟩ yX5_failsNow wsX5_failsNow) := goodIn_app (goodIn_of _ (by decide +kernel)) ggX7_act_X5_failsNow
set_option maxRecDepth 20000 in
theorem gX7_act_X5_failsNow_u164X6 : GoodIn wsX7_act (va_wsU RX7 164 RX6 "HouseWorkers$Work" ⟨"HouseWorkers$Work", "failsNow", "()Z"⟩ yX5_failsNow wsX5_failsNow) := goodIn_app (goodIn_of _ (by decide +kernel)) ggX7_act_X5_failsNow
set_option maxRecDepth 20000 in
theorem ggX7_act_X1_goOn : GoodIn wsX7_act wsX1_goOn := goodIn_r _ [28, 29, 30, 31, 32, 33, 34, 35, 36, 37, 38, 39, 40, 41, 42, 43, 14, 7, 15, 10, 16, 202, 203, 204, 205, 206, 207, 208, 209, 210, 211, 212, 213, 214, 215, 216, 217, 218, 219, 220, 221, 222, 223, 224, 225, 226, 227, 228, 229, 230, 231, 232, 233, 234, 235, 236, 237, 238, 239, 240, 241, 242, 243, 244, 245, 246, 247, 248, 249, 250, 251, 258] (by decide +kernel) (by decide +kernel)
set_option maxRecDepth 20000 in
theorem gX7_act_X1_goOn_u167X1 : GoodIn wsX7_act (va_wsU RX7 167 RX1 "HouseWorkers$Work" ⟨"HouseWorkers$Work", "goOn", "(LHouseWorkers$Store;)I"⟩ yX1_goOn wsX1_goOn) := goodIn_app (goodIn_of _ (by decide +kernel)) ggX7_act_X1_goOn
set_option maxRecDepth 20000 in
theorem ggX7_act_X2_goOn : GoodIn wsX7_act wsX2_goOn := goodIn_r _ [47, 48, 49, 50, 51, 52, 53, 54, 55, 56, 57, 14, 7, 15, 10, 16, 58, 59, 60, 61, 62, 63, 64, 65, 66, 67, 68, 69, 70, 71, 72, 73, 74, 75, 76, 77, 78, 79, 80, 81, 82, 83, 84, 85, 86, 87, 88, 89, 90, 91, 92, 93, 94, 95, 96, 97, 98, 99, 100, 101, 102, 103, 104, 105, 106, 107, 108, 109, 110, 111, 112, 113, 114, 115, 116, 117, 118, 119, 120, 121, 122, 123, 124, 125, 126, 127, 128, 129, 130, 131, 38, 132, 40, 133, 134, 135, 136, 137, 138, 139, 140, 141, 215, 216, 217, 218, 219, 220, 221, 222, 223, 224, 225, 226, 202, 203, 204, 205, 206, 207, 208, 209, 210, 211, 212, 213, 214, 227, 228, 229, 230, 231, 232, 233, 234, 235, 236, 237, 238, 239, 240, 241, 242, 243, 244, 245, 246, 247, 248, 249, 250, 251, 259, 260, 261, 262, 263, 264, 258] (by decide +kernel) (by decide +kernel)
set_option maxRecDepth 20000 in
theorem gX7_act_X2_goOn_u167X2 : GoodIn wsX7_act (va_wsU RX7 167 RX2 "HouseWorkers$Work" ⟨"HouseWorkers$Work", "goOn", "(LHouseWorkers$Store;)I"⟩ yX2_goOn wsX2_goOn) := goodIn_app (goodIn_of _ (by decide +kernel)) ggX7_act_X2_goOn
set_option maxRecDepth 20000 in
theorem ggX7_act_X4_goOn : GoodIn wsX7_act wsX4_goOn := goodIn_r _ [145, 146, 147, 148, 149, 150, 151, 152, 153, 154, 61, 155, 156, 63, 157, 121, 122, 123, 68, 124, 73, 158, 159, 160, 161, 162, 163, 164, 165, 166, 167, 168, 169, 170, 171, 172, 173, 72, 174, 175, 176, 38, 177, 40, 202, 203, 204, 205, 206, 207, 208, 209, 210, 211, 212, 213, 214, 215, 216, 217, 218, 219, 220, 221, 222, 223, 224, 225, 226, 227, 228, 229, 230, 231, 232, 233, 234, 235, 236, 237, 238, 239, 240, 241, 242, 243, 244, 245, 246, 247, 248, 249, 250, 251, 259, 260, 261, 262, 263, 264, 258] (by decide +kernel) (by decide +kernel)
set_option maxRecDepth 20000 in
theorem gX7_act_X4_goOn_u167X4 : GoodIn wsX7_act (va_wsU RX7 167 RX4 "HouseWorkers$Work" ⟨"HouseWorkers$Work", "goOn", "(LHouseWorkers$Store;)I"⟩ yX4_goOn wsX4_goOn) := goodIn_app (goodIn_of _ (by decide +kernel)) ggX7_act_X4_goOn
set_option maxRecDepth 20000 in
theorem ggX7_act_X6_goOn : GoodIn wsX7_act wsX6_goOn := goodIn_r _ [181, 182, 183, 184, 185, 186, 187, 188, 189, 190, 191, 14, 7, 15, 10, 16, 192, 126, 127, 61, 128, 64, 193, 194, 195, 38, 196, 40, 197, 59, 60, 62, 63, 65, 66, 67, 68, 69, 70, 71, 72, 73, 74, 75, 76, 77, 78, 79, 80, 81, 82, 83, 84, 85, 86, 87, 88, 89, 90, 91, 92, 93, 94, 95, 96, 97, 98, 99, 100, 101, 102, 103, 104, 105, 106, 107, 108, 109, 110, 111, 112, 113, 114, 115, 116, 117, 118, 119, 120, 121, 122, 123, 124, 198, 199, 200, 201, 238, 239, 240, 241, 242, 243, 244, 245, 246, 247, 248, 249, 250, 251, 202, 203, 204, 205, 206, 207, 208, 209, 210, 211, 212, 213, 214, 215, 216, 217, 218, 219, 220, 221, 222, 223, 224, 225, 226, 227, 228, 229, 230, 231, 232, 233, 234, 235, 236, 237, 259, 260, 261, 258, 262, 263, 264] (by decide +kernel) (by decide +kernel)
set_option maxRecDepth 20000 in
theorem gX7_act_X6_goOn_u167X6 : GoodIn wsX7_act (va_wsU RX7 167 RX6 "HouseWorkers$Work" ⟨"HouseWorkers$Work", "goOn", "(LHouseWorkers$Store;)I"⟩ yX6_goOn wsX6_goOn) := goodIn_app (goodIn_of _ (by decide +kernel)) ggX7_act_X6_goOn
theorem dX7_act_0 : decode cX7_act 0 = .ok (.aload_n 1, 1) := by decide +kernel
theorem dX7_act_1 : decode cX7_act 1 = .ok (.getfield 95, 3) := by decide +kernel
theorem dX7_act_4 : decode cX7_act 4 = .ok (.ifCond .eq 5, 3) := by decide +kernel
theorem dX7_act_7 : decode cX7_act 7 = .ok (.iconst 4, 1) := by decide +kernel
theorem dX7_act_8 : decode cX7_act 8 = .ok (.ireturn, 1) := by decide +kernel
theorem dX7_act_9 : decode cX7_act 9 = .ok (.aload_n 1, 1) := by decide +kernel
theorem dX7_act_10 : decode cX7_act 10 = .ok (.invokevirtual 164, 3) := by decide +kernel
theorem dX7_act_13 : decode cX7_act 13 = .ok (.ifCond .eq 7, 3) := by decide +kernel
theorem dX7_act_16 : decode cX7_act 16 = .ok (.iconst 3, 1) := by decide +kernel
theorem dX7_act_17 : decode cX7_act 17 = .ok (.goto 11, 3) := by decide +kernel
theorem dX7_act_20 : decode cX7_act 20 = .ok (.aload_n 1, 1) := by decide +kernel
theorem dX7_act_21 : decode cX7_act 21 = .ok (.aload_n 0, 1) := by decide +kernel
theorem dX7_act_22 : decode cX7_act 22 = .ok (.getfield 12, 3) := by decide +kernel
theorem dX7_act_25 : decode cX7_act 25 = .ok (.invokevirtual 167, 3) := by decide +kernel
theorem dX7_act_28 : decode cX7_act 28 = .ok (.ireturn, 1) := by decide +kernel
set_option maxRecDepth 20000 in
theorem ggX7_standsStill_X5_hasEnded : GoodIn wsX7_standsStill wsX5_hasEnded := goodIn_r _ [8, 9, 89, 90, 91, 92, 93, 94, 95, 96, 97, 98, 99, 100, 101, 102, 103, 104, 105, 106, 107, 108, 109, 110, 111, 112, 113, 114, 115, 116, 117, 118, 119, 120, 121, 122, 123, 124, 125, 126, 127, 128, 129, 130, 131, 132, 133, 134, 135, 136, 137, 138] (by decide +kernel) (by decide +kernel)
set_option maxRecDepth 20000 in
theorem gX7_standsStill_X5_hasEnded_u90X1 : GoodIn wsX7_standsStill (va_wsU RX7 90 RX1 "HouseWorkers$Work" ⟨"HouseWorkers$Work", "hasEnded", "()Z"⟩ yX5_hasEnded wsX5_hasEnded) := goodIn_app (goodIn_of _ (by decide +kernel)) ggX7_standsStill_X5_hasEnded
set_option maxRecDepth 20000 in
theorem gX7_standsStill_X5_hasEnded_u90X2 : GoodIn wsX7_standsStill (va_wsU RX7 90 RX2 "HouseWorkers$Work" ⟨"HouseWorkers$Work", "hasEnded", "()Z"⟩ yX5_hasEnded wsX5_hasEnded) := goodIn_app (goodIn_of _ (by decide +kernel)) ggX7_standsStill_X5_hasEnded
set_option maxRecDepth 20000 in
theorem gX7_standsStill_X5_hasEnded_u90X4 : GoodIn wsX7_standsStill (va_wsU RX7 90 RX4 "HouseWorkers$Work" ⟨"HouseWorkers$Work", "hasEnded", "()Z"⟩ yX5_hasEnded wsX5_hasEnded) := goodIn_app (goodIn_of _ (by decide +kernel)) ggX7_standsStill_X5_hasEnded
set_option maxRecDepth 20000 in
theorem gX7_standsStill_X5_hasEnded_u90X6 : GoodIn wsX7_standsStill (va_wsU RX7 90 RX6 "HouseWorkers$Work" ⟨"HouseWorkers$Work", "hasEnded", "()Z"⟩ yX5_hasEnded wsX5_hasEnded) := goodIn_app (goodIn_of _ (by decide +kernel)) ggX7_standsStill_X5_hasEnded
set_option maxRecDepth 20000 in
theorem ggX7_standsStill_X7_hasNobodyBefore : GoodIn wsX7_standsStill wsX7_hasNobodyBefore := goodIn_r _ [17, 18, 19, 20, 21, 22, 23, 24, 25, 26, 27, 28, 29, 30, 31, 32, 33, 34, 35, 36, 37, 38, 39, 40, 41, 42, 43, 44, 45, 46, 47, 7, 48, 49, 50, 51, 52, 3, 4, 5, 6, 8, 9, 10, 11, 12, 89, 90, 91, 92, 93, 94, 95, 96, 97, 98, 99, 100, 101, 102, 103, 104, 105, 106, 107, 108, 109, 110, 111, 112, 113, 114, 115, 116, 117, 118, 119, 120, 121, 122, 123, 124, 125, 126, 127, 128, 129, 130, 131, 132, 133, 134, 135, 136, 137, 138, 139, 140, 141, 142, 143, 144, 145, 146, 147] (by decide +kernel) (by decide +kernel)
set_option maxRecDepth 20000 in
theorem gX7_standsStill_X7_hasNobodyBefore : GoodIn wsX7_standsStill (wsV RX7 171 RX7 yX7_hasNobodyBefore wsX7_hasNobodyBefore) := goodIn_app (goodIn_of _ (by decide +kernel)) ggX7_standsStill_X7_hasNobodyBefore
set_option maxRecDepth 20000 in
theorem ggX7_standsStill_X1_waits : GoodIn wsX7_standsStill wsX1_waits := goodIn_r _ [58] (by decide +kernel) (by decide +kernel)
set_option maxRecDepth 20000 in
theorem gX7_standsStill_X1_waits_u174X1 : GoodIn wsX7_standsStill (va_wsU RX7 174 RX1 "HouseWorkers$Work" ⟨"HouseWorkers$Work", "waits", "(LHouseWorkers$Store;Z)Z"⟩ yX1_waits wsX1_waits) := goodIn_app (goodIn_of _ (by decide +kernel)) ggX7_standsStill_X1_waits
set_option maxRecDepth 20000 in
theorem ggX7_standsStill_X2_waits : GoodIn wsX7_standsStill wsX2_waits := goodIn_r _ [62, 63, 64, 89, 90, 91, 92, 93, 94, 95, 96, 97, 98, 99, 100, 101, 102, 103, 104, 105, 106, 107, 108, 109, 110, 111, 112, 113, 114, 115, 116, 117, 118, 119, 120, 121, 122, 123, 124, 125, 126, 127, 128, 129, 130, 131, 132, 133, 134, 135, 136, 137, 138] (by decide +kernel) (by decide +kernel)
set_option maxRecDepth 20000 in
theorem gX7_standsStill_X2_waits_u174X2 : GoodIn wsX7_standsStill (va_wsU RX7 174 RX2 "HouseWorkers$Work" ⟨"HouseWorkers$Work", "waits", "(LHouseWorkers$Store;Z)Z"⟩ yX2_waits wsX2_waits) := goodIn_app (goodIn_of _ (by decide +kernel)) ggX7_standsStill_X2_waits
set_option maxRecDepth 20000 in
theorem ggX7_standsStill_X4_waits : GoodIn wsX7_standsStill wsX4_waits := goodIn_r _ [68, 69, 70, 71, 72, 73, 74, 75, 76, 77, 22, 23, 24, 25, 26, 89, 90, 91, 92, 93, 94, 95, 96, 97, 98, 99, 100, 101, 102, 103, 104, 105, 106, 107, 108, 109, 110, 111, 112, 113, 114, 115, 116, 117, 118, 119, 120, 121, 122, 123, 124, 125, 126, 127, 128, 129, 130, 131, 132, 133, 134, 135, 136, 137, 138, 148, 149, 150, 145, 146, 147] (by decide +kernel) (by decide +kernel)
set_option maxRecDepth 20000 in
theorem gX7_standsStill_X4_waits_u174X4 : GoodIn wsX7_standsStill (va_wsU RX7 174 RX4 "HouseWorkers$Work" ⟨"HouseWorkers$Work", "waits", "(LHouseWorkers$Store;Z)Z"⟩ yX4_waits wsX4_waits) := goodIn_app (goodIn_of _ (by decide +kernel)) ggX7_standsStill_X4_waits
set_option maxRecDepth 20000 in
theorem ggX7_standsStill_X6_waits : GoodIn wsX7_standsStill wsX6_waits := goodIn_r _ [81, 82, 83, 84, 85, 7, 86, 87, 88, 89, 90, 91, 92, 93, 94, 95, 96, 97, 98, 99, 100, 101, 102, 103, 104, 105, 106, 107, 108, 109, 110, 111, 112, 113, 114, 115, 116, 117, 118, 119, 120, 121, 122, 123, 124, 125, 126, 127, 128, 129, 130, 131, 132, 133, 134, 135, 136, 137, 138] (by decide +kernel) (by decide +kernel)
set_option maxRecDepth 20000 in
theorem gX7_standsStill_X6_waits_u174X6 : GoodIn wsX7_standsStill (va_wsU RX7 174 RX6 "HouseWorkers$Work" ⟨"HouseWorkers$Work", "waits", "(LHouseWorkers$Store;Z)Z"⟩ yX6_waits wsX6_waits) := goodIn_app (goodIn_of _ (by decide +kernel)) ggX7_standsStill_X6_waits
theorem dX7_standsStill_0 : decode cX7_standsStill 0 = .ok (.aload_n 1, 1) := by decide +kernel
theorem dX7_standsStill_1 : decode cX7_standsStill 1 = .ok (.invokevirtual 90, 3) := by decide +kernel
theorem dX7_standsStill_4 : decode cX7_standsStill 4 = .ok (.ifCond .eq 5, 3) := by decide +kernel
theorem dX7_standsStill_7 : decode cX7_standsStill 7 = .ok (.iconst 1, 1) := by decide +kernel
theorem dX7_standsStill_8 : decode cX7_standsStill 8 = .ok (.ireturn, 1) := by decide +kernel
theorem dX7_standsStill_9 : decode cX7_standsStill 9 = .ok (.aload_n 1, 1) := by decide +kernel
theorem dX7_standsStill_10 : decode cX7_standsStill 10 = .ok (.getfield 95, 3) := by decide +kernel
theorem dX7_standsStill_13 : decode cX7_standsStill 13 = .ok (.ifCond .ne 23, 3) := by decide +kernel
theorem dX7_standsStill_16 : decode cX7_standsStill 16 = .ok (.aload_n 1, 1) := by decide +kernel
theorem dX7_standsStill_17 : decode cX7_standsStill 17 = .ok (.aload_n 0, 1) := by decide +kernel
theorem dX7_standsStill_18 : decode cX7_standsStill 18 = .ok (.getfield 12, 3) := by decide +kernel
theorem dX7_standsStill_21 : decode cX7_standsStill 21 = .ok (.aload_n 0, 1) := by decide +kernel
theorem dX7_standsStill_22 : decode cX7_standsStill 22 = .ok (.aload_n 1, 1) := by decide +kernel
theorem dX7_standsStill_23 : decode cX7_standsStill 23 = .ok (.invokevirtual 171, 3) := by decide +kernel
theorem dX7_standsStill_26 : decode cX7_standsStill 26 = .ok (.invokevirtual 174, 3) := by decide +kernel
theorem dX7_standsStill_29 : decode cX7_standsStill 29 = .ok (.ifCond .eq 7, 3) := by decide +kernel
theorem dX7_standsStill_32 : decode cX7_standsStill 32 = .ok (.iconst 1, 1) := by decide +kernel
theorem dX7_standsStill_33 : decode cX7_standsStill 33 = .ok (.goto 4, 3) := by decide +kernel
theorem dX7_standsStill_36 : decode cX7_standsStill 36 = .ok (.iconst 0, 1) := by decide +kernel
theorem dX7_standsStill_37 : decode cX7_standsStill 37 = .ok (.ireturn, 1) := by decide +kernel
set_option maxRecDepth 20000 in
theorem ggX7_hasNobodyBefore_Jx4a65c_size_8abf5 : GoodIn wsX7_hasNobodyBefore wsJx4a65c_size_8abf5 := goodIn_r _ [8, 9, 102, 103, 104] (by decide +kernel) (by decide +kernel)
set_option maxRecDepth 20000 in
theorem gX7_hasNobodyBefore_Jx4a65c_size_8abf5 : GoodIn wsX7_hasNobodyBefore (wsV RX7 102 RJx4a65c yJx4a65c_size_8abf5 wsJx4a65c_size_8abf5) := goodIn_app (goodIn_of _ (by decide +kernel)) ggX7_hasNobodyBefore_Jx4a65c_size_8abf5
set_option maxRecDepth 20000 in
theorem ggX7_hasNobodyBefore_Jx4a65c_get_915e3 : GoodIn wsX7_hasNobodyBefore wsJx4a65c_get_915e3 := goodIn_r _ [13, 9, 14, 15, 16, 17, 18, 19, 20, 21, 22, 23, 24, 7, 25, 26, 102, 103, 104] (by decide +kernel) (by decide +kernel)
set_option maxRecDepth 20000 in
theorem gX7_hasNobodyBefore_Jx4a65c_get_915e3 : GoodIn wsX7_hasNobodyBefore (wsV RX7 105 RJx4a65c yJx4a65c_get_915e3 wsJx4a65c_get_915e3) := goodIn_app (goodIn_of _ (by decide +kernel)) ggX7_hasNobodyBefore_Jx4a65c_get_915e3
set_option maxRecDepth 20000 in
theorem ggX7_hasNobodyBefore_X5_commits : GoodIn wsX7_hasNobodyBefore wsX5_commits := goodIn_r _ [32, 33, 46, 47, 48, 49, 50, 51, 52, 53, 54, 55, 56, 57, 58, 59, 60, 61, 62, 63, 64, 65, 66, 67, 68, 69, 70, 71, 72, 73, 74, 75, 76, 77, 78, 79, 80, 81, 82, 83, 84, 85, 86, 87, 88, 89, 90, 91, 92, 93, 94, 95] (by decide +kernel) (by decide +kernel)
set_option maxRecDepth 20000 in
theorem gX7_hasNobodyBefore_X5_commits_u178X1 : GoodIn wsX7_hasNobodyBefore (va_wsU RX7 178 RX1 "HouseWorkers$Work" ⟨"HouseWorkers$Work", "commits", "()Z"⟩ yX5_commits wsX5_commits) := goodIn_app (goodIn_of _ (by decide +kernel)) ggX7_hasNobodyBefore_X5_commits
set_option maxRecDepth 20000 in
theorem gX7_hasNobodyBefore_X5_commits_u178X2 : GoodIn wsX7_hasNobodyBefore (va_wsU RX7 178 RX2 "HouseWorkers$Work" ⟨"HouseWorkers$Work", "commits", "()Z"⟩ yX5_commits wsX5_commits) := goodIn_app (goodIn_of _ (by decide +kernel)) ggX7_hasNobodyBefore_X5_commits
set_option maxRecDepth 20000 in
theorem gX7_hasNobodyBefore_X5_commits_u178X4 : GoodIn wsX7_hasNobodyBefore (va_wsU RX7 178 RX4 "HouseWorkers$Work" ⟨"HouseWorkers$Work", "commits", "()Z"⟩ yX5_commits wsX5_commits) := goodIn_app (goodIn_of _ (by decide +kernel)) ggX7_hasNobodyBefore_X5_commits
set_option maxRecDepth 20000 in
theorem gX7_hasNobodyBefore_X5_commits_u178X6 : GoodIn wsX7_hasNobodyBefore (va_wsU RX7 178 RX6 "HouseWorkers$Work" ⟨"HouseWorkers$Work", "commits", "()Z"⟩ yX5_commits wsX5_commits) := goodIn_app (goodIn_of _ (by decide +kernel)) ggX7_hasNobodyBefore_X5_commits
set_option maxRecDepth 20000 in
theorem ggX7_hasNobodyBefore_X5_hasEnded : GoodIn wsX7_hasNobodyBefore wsX5_hasEnded := goodIn_r _ [41, 42, 46, 47, 48, 49, 50, 51, 52, 53, 54, 55, 56, 57, 58, 59, 60, 61, 62, 63, 64, 65, 66, 67, 68, 69, 70, 71, 72, 73, 74, 75, 76, 77, 78, 79, 80, 81, 82, 83, 84, 85, 86, 87, 88, 89, 90, 91, 92, 93, 94, 95] (by decide +kernel) (by decide +kernel)
set_option maxRecDepth 20000 in
theorem gX7_hasNobodyBefore_X5_hasEnded_u90X1 : GoodIn wsX7_hasNobodyBefore (va_wsU RX7 90 RX1 "HouseWorkers$Work" ⟨"HouseWorkers$Work", "hasEnded", "()Z"⟩ yX5_hasEnded wsX5_hasEnded) := goodIn_app (goodIn_of _ (by decide +kernel)) ggX7_hasNobodyBefore_X5_hasEnded
set_option maxRecDepth 20000 in
theorem gX7_hasNobodyBefore_X5_hasEnded_u90X2 : GoodIn wsX7_hasNobodyBefore (va_wsU RX7 90 RX2 "HouseWorkers$Work" ⟨"HouseWorkers$Work", "hasEnded", "()Z"⟩ yX5_hasEnded wsX5_hasEnded) := goodIn_app (goodIn_of _ (by decide +kernel)) ggX7_hasNobodyBefore_X5_hasEnded
set_option maxRecDepth 20000 in
theorem gX7_hasNobodyBefore_X5_hasEnded_u90X4 : GoodIn wsX7_hasNobodyBefore (va_wsU RX7 90 RX4 "HouseWorkers$Work" ⟨"HouseWorkers$Work", "hasEnded", "()Z"⟩ yX5_hasEnded wsX5_hasEnded) := goodIn_app (goodIn_of _ (by decide +kernel)) ggX7_hasNobodyBefore_X5_hasEnded
set_option maxRecDepth 20000 in
theorem gX7_hasNobodyBefore_X5_hasEnded_u90X6 : GoodIn wsX7_hasNobodyBefore (va_wsU RX7 90 RX6 "HouseWorkers$Work" ⟨"HouseWorkers$Work", "hasEnded", "()Z"⟩ yX5_hasEnded wsX5_hasEnded) := goodIn_app (goodIn_of _ (by decide +kernel)) ggX7_hasNobodyBefore_X5_hasEnded
theorem dX7_hasNobodyBefore_0 : decode cX7_hasNobodyBefore 0 = .ok (.iconst 0, 1) := by decide +kernel
theorem dX7_hasNobodyBefore_1 : decode cX7_hasNobodyBefore 1 = .ok (.istore_n 2, 1) := by decide +kernel
theorem dX7_hasNobodyBefore_2 : decode cX7_hasNobodyBefore 2 = .ok (.iload_n 2, 1) := by decide +kernel
theorem dX7_hasNobodyBefore_3 : decode cX7_hasNobodyBefore 3 = .ok (.aload_n 1, 1) := by decide +kernel
theorem dX7_hasNobodyBefore_4 : decode cX7_hasNobodyBefore 4 = .ok (.getfield 133, 3) := by decide +kernel
theorem dX7_hasNobodyBefore_7 : decode cX7_hasNobodyBefore 7 = .ok (.if_icmp .ge 48, 3) := by decide +kernel
theorem dX7_hasNobodyBefore_10 : decode cX7_hasNobodyBefore 10 = .ok (.iload_n 2, 1) := by decide +kernel
theorem dX7_hasNobodyBefore_11 : decode cX7_hasNobodyBefore 11 = .ok (.aload_n 0, 1) := by decide +kernel
theorem dX7_hasNobodyBefore_12 : decode cX7_hasNobodyBefore 12 = .ok (.getfield 19, 3) := by decide +kernel
theorem dX7_hasNobodyBefore_15 : decode cX7_hasNobodyBefore 15 = .ok (.invokevirtual 102, 3) := by decide +kernel
theorem dX7_hasNobodyBefore_18 : decode cX7_hasNobodyBefore 18 = .ok (.if_icmp .ge 37, 3) := by decide +kernel
theorem dX7_hasNobodyBefore_21 : decode cX7_hasNobodyBefore 21 = .ok (.aload_n 0, 1) := by decide +kernel
theorem dX7_hasNobodyBefore_22 : decode cX7_hasNobodyBefore 22 = .ok (.getfield 19, 3) := by decide +kernel
theorem dX7_hasNobodyBefore_25 : decode cX7_hasNobodyBefore 25 = .ok (.iload_n 2, 1) := by decide +kernel
theorem dX7_hasNobodyBefore_26 : decode cX7_hasNobodyBefore 26 = .ok (.invokevirtual 105, 3) := by decide +kernel
theorem dX7_hasNobodyBefore_29 : decode cX7_hasNobodyBefore 29 = .ok (.checkcast 91, 3) := by decide +kernel
theorem dX7_hasNobodyBefore_32 : decode cX7_hasNobodyBefore 32 = .ok (.astore_n 3, 1) := by decide +kernel
theorem dX7_hasNobodyBefore_33 : decode cX7_hasNobodyBefore 33 = .ok (.aload_n 3, 1) := by decide +kernel
theorem dX7_hasNobodyBefore_34 : decode cX7_hasNobodyBefore 34 = .ok (.invokevirtual 178, 3) := by decide +kernel
theorem dX7_hasNobodyBefore_37 : decode cX7_hasNobodyBefore 37 = .ok (.ifCond .eq 12, 3) := by decide +kernel
theorem dX7_hasNobodyBefore_40 : decode cX7_hasNobodyBefore 40 = .ok (.aload_n 3, 1) := by decide +kernel
theorem dX7_hasNobodyBefore_41 : decode cX7_hasNobodyBefore 41 = .ok (.invokevirtual 90, 3) := by decide +kernel
theorem dX7_hasNobodyBefore_44 : decode cX7_hasNobodyBefore 44 = .ok (.ifCond .ne 5, 3) := by decide +kernel
theorem dX7_hasNobodyBefore_47 : decode cX7_hasNobodyBefore 47 = .ok (.iconst 0, 1) := by decide +kernel
theorem dX7_hasNobodyBefore_48 : decode cX7_hasNobodyBefore 48 = .ok (.ireturn, 1) := by decide +kernel
theorem dX7_hasNobodyBefore_49 : decode cX7_hasNobodyBefore 49 = .ok (.iinc 2 1, 3) := by decide +kernel
theorem dX7_hasNobodyBefore_52 : decode cX7_hasNobodyBefore 52 = .ok (.goto (-50), 3) := by decide +kernel
theorem dX7_hasNobodyBefore_55 : decode cX7_hasNobodyBefore 55 = .ok (.iconst 1, 1) := by decide +kernel
theorem dX7_hasNobodyBefore_56 : decode cX7_hasNobodyBefore 56 = .ok (.ireturn, 1) := by decide +kernel
set_option maxRecDepth 20000 in
theorem ggX7_endWork_Jx4a65c_add_9ea2d : GoodIn wsX7_endWork wsJx4a65c_add_9ea2d := goodIn_r _ [9, 10, 11, 12, 13, 14, 15, 16, 8, 17, 18, 19, 20, 21, 22, 23, 24, 25, 26, 27, 28, 29, 30, 31, 32, 33, 34, 35, 36, 37, 38, 39, 40, 41, 42, 43, 44, 45, 46, 47, 48, 49, 50, 51, 52, 53, 54, 55, 56, 57, 58, 59, 60, 117, 118, 119] (by decide +kernel) (by decide +kernel)
set_option maxRecDepth 20000 in
theorem gX7_endWork_Jx4a65c_add_9ea2d : GoodIn wsX7_endWork (wsV RX7 59 RJx4a65c yJx4a65c_add_9ea2d wsJx4a65c_add_9ea2d) := goodIn_app (goodIn_of _ (by decide +kernel)) ggX7_endWork_Jx4a65c_add_9ea2d
theorem dX7_endWork_0 : decode cX7_endWork 0 = .ok (.aload_n 1, 1) := by decide +kernel
theorem dX7_endWork_1 : decode cX7_endWork 1 = .ok (.iload_n 2, 1) := by decide +kernel
theorem dX7_endWork_2 : decode cX7_endWork 2 = .ok (.putfield 117, 3) := by decide +kernel
theorem dX7_endWork_5 : decode cX7_endWork 5 = .ok (.aload_n 1, 1) := by decide +kernel
theorem dX7_endWork_6 : decode cX7_endWork 6 = .ok (.aload_n 0, 1) := by decide +kernel
theorem dX7_endWork_7 : decode cX7_endWork 7 = .ok (.getfield 155, 3) := by decide +kernel
theorem dX7_endWork_10 : decode cX7_endWork 10 = .ok (.putfield 136, 3) := by decide +kernel
theorem dX7_endWork_13 : decode cX7_endWork 13 = .ok (.aload_n 0, 1) := by decide +kernel
theorem dX7_endWork_14 : decode cX7_endWork 14 = .ok (.getfield 23, 3) := by decide +kernel
theorem dX7_endWork_17 : decode cX7_endWork 17 = .ok (.aload_n 1, 1) := by decide +kernel
theorem dX7_endWork_18 : decode cX7_endWork 18 = .ok (.invokevirtual 59, 3) := by decide +kernel
theorem dX7_endWork_21 : decode cX7_endWork 21 = .ok (.pop, 1) := by decide +kernel
theorem dX7_endWork_22 : decode cX7_endWork 22 = .ok (.return_, 1) := by decide +kernel
set_option maxRecDepth 20000 in
theorem ggX7_isKept_X3_latestNumber : GoodIn wsX7_isKept wsX3_latestNumber := goodIn_r _ [8, 9, 10, 11, 12, 13, 14, 15, 81, 82, 83, 84, 85, 86] (by decide +kernel) (by decide +kernel)
set_option maxRecDepth 20000 in
theorem gX7_isKept_X3_latestNumber : GoodIn wsX7_isKept (wsV RX7 181 RX3 yX3_latestNumber wsX3_latestNumber) := goodIn_app (goodIn_of _ (by decide +kernel)) ggX7_isKept_X3_latestNumber
set_option maxRecDepth 20000 in
theorem ggX7_isKept_X7_isPinned : GoodIn wsX7_isKept wsX7_isPinned := goodIn_r _ [20, 2, 3, 21, 11, 12, 13, 14, 15, 22, 23, 24, 25, 26, 27, 28, 29, 30, 31, 32, 33, 34, 35, 36, 37, 38, 39, 40, 41, 42, 43, 44, 45, 46, 47, 48, 49, 50, 51, 52, 53, 54, 55, 56, 57, 75, 76, 77, 78, 79, 80, 84, 85, 86, 87, 88, 89, 90, 91, 92, 93, 94, 95, 96, 97, 98, 99, 100, 101, 102, 103, 104, 105, 106, 107, 108, 109, 110, 111, 112, 113, 114, 115, 116, 117, 118, 119, 120, 121, 122, 123, 124, 125, 126, 127, 128, 129, 130, 131, 132, 133, 134, 135, 136] (by decide +kernel) (by decide +kernel)
set_option maxRecDepth 20000 in
theorem gX7_isKept_X7_isPinned : GoodIn wsX7_isKept (wsV RX7 184 RX7 yX7_isPinned wsX7_isPinned) := goodIn_app (goodIn_of _ (by decide +kernel)) ggX7_isKept_X7_isPinned
set_option maxRecDepth 20000 in
theorem ggX7_isKept_Jx4a65c_size_8abf5 : GoodIn wsX7_isKept wsJx4a65c_size_8abf5 := goodIn_r _ [14, 15, 84, 85, 86] (by decide +kernel) (by decide +kernel)
set_option maxRecDepth 20000 in
theorem gX7_isKept_Jx4a65c_size_8abf5 : GoodIn wsX7_isKept (wsV RX7 102 RJx4a65c yJx4a65c_size_8abf5 wsJx4a65c_size_8abf5) := goodIn_app (goodIn_of _ (by decide +kernel)) ggX7_isKept_Jx4a65c_size_8abf5
set_option maxRecDepth 20000 in
theorem ggX7_isKept_Jx4a65c_get_915e3 : GoodIn wsX7_isKept wsJx4a65c_get_915e3 := goodIn_r _ [25, 15, 26, 27, 28, 29, 30, 31, 32, 33, 34, 35, 36, 13, 37, 38, 84, 85, 86] (by decide +kernel) (by decide +kernel)
set_option maxRecDepth 20000 in
theorem gX7_isKept_Jx4a65c_get_915e3 : GoodIn wsX7_isKept (wsV RX7 105 RJx4a65c yJx4a65c_get_915e3 wsJx4a65c_get_915e3) := goodIn_app (goodIn_of _ (by decide +kernel)) ggX7_isKept_Jx4a65c_get_915e3
set_option maxRecDepth 20000 in
theorem ggX7_isKept_X5_isToGet : GoodIn wsX7_isKept wsX5_isToGet := goodIn_r _ [62] (by decide +kernel) (by decide +kernel)
set_option maxRecDepth 20000 in
theorem gX7_isKept_X5_isToGet_u187X1 : GoodIn wsX7_isKept (va_wsU RX7 187 RX1 "HouseWorkers$Work" ⟨"HouseWorkers$Work", "isToGet", "(I)Z"⟩ yX5_isToGet wsX5_isToGet) := goodIn_app (goodIn_of _ (by decide +kernel)) ggX7_isKept_X5_isToGet
set_option maxRecDepth 20000 in
theorem gX7_isKept_X5_isToGet_u187X2 : GoodIn wsX7_isKept (va_wsU RX7 187 RX2 "HouseWorkers$Work" ⟨"HouseWorkers$Work", "isToGet", "(I)Z"⟩ yX5_isToGet wsX5_isToGet) := goodIn_app (goodIn_of _ (by decide +kernel)) ggX7_isKept_X5_isToGet
set_option maxRecDepth 20000 in
theorem ggX7_isKept_X4_isToGet : GoodIn wsX7_isKept wsX4_isToGet := goodIn_r _ [68, 69, 70, 71, 72, 73, 49, 43, 50, 51, 87, 88, 89, 90, 91, 92, 93, 94, 95, 96, 97, 98, 99, 100, 101, 102, 103, 104, 105, 106, 107, 108, 109, 110, 111, 112, 113, 114, 115, 116, 117, 118, 119, 120, 121, 122, 123, 124, 125, 126, 127, 128, 129, 130, 131, 132, 133, 134, 135, 136] (by decide +kernel) (by decide +kernel)
set_option maxRecDepth 20000 in
theorem gX7_isKept_X4_isToGet_u187X4 : GoodIn wsX7_isKept (va_wsO RX7 187 RX4 "HouseWorkers$Work" ⟨"HouseWorkers$Work", "isToGet", "(I)Z"⟩ yX4_isToGet wsX4_isToGet) := goodIn_app (goodIn_of _ (by decide +kernel)) ggX7_isKept_X4_isToGet
set_option maxRecDepth 20000 in
theorem gX7_isKept_X5_isToGet_u187X6 : GoodIn wsX7_isKept (va_wsU RX7 187 RX6 "HouseWorkers$Work" ⟨"HouseWorkers$Work", "isToGet", "(I)Z"⟩ yX5_isToGet wsX5_isToGet) := goodIn_app (goodIn_of _ (by decide +kernel)) ggX7_isKept_X5_isToGet
theorem dX7_isKept_0 : decode cX7_isKept 0 = .ok (.iload_n 1, 1) := by decide +kernel
theorem dX7_isKept_1 : decode cX7_isKept 1 = .ok (.aload_n 0, 1) := by decide +kernel
theorem dX7_isKept_2 : decode cX7_isKept 2 = .ok (.getfield 12, 3) := by decide +kernel
theorem dX7_isKept_5 : decode cX7_isKept 5 = .ok (.invokevirtual 181, 3) := by decide +kernel
theorem dX7_isKept_8 : decode cX7_isKept 8 = .ok (.if_icmp .eq 11, 3) := by decide +kernel
theorem dX7_isKept_11 : decode cX7_isKept 11 = .ok (.aload_n 0, 1) := by decide +kernel
theorem dX7_isKept_12 : decode cX7_isKept 12 = .ok (.iload_n 1, 1) := by decide +kernel
theorem dX7_isKept_13 : decode cX7_isKept 13 = .ok (.invokevirtual 184, 3) := by decide +kernel
theorem dX7_isKept_16 : decode cX7_isKept 16 = .ok (.ifCond .eq 5, 3) := by decide +kernel
theorem dX7_isKept_19 : decode cX7_isKept 19 = .ok (.iconst 1, 1) := by decide +kernel
theorem dX7_isKept_20 : decode cX7_isKept 20 = .ok (.ireturn, 1) := by decide +kernel
theorem dX7_isKept_21 : decode cX7_isKept 21 = .ok (.iconst 0, 1) := by decide +kernel
theorem dX7_isKept_22 : decode cX7_isKept 22 = .ok (.istore_n 2, 1) := by decide +kernel
theorem dX7_isKept_23 : decode cX7_isKept 23 = .ok (.iload_n 2, 1) := by decide +kernel
theorem dX7_isKept_24 : decode cX7_isKept 24 = .ok (.aload_n 0, 1) := by decide +kernel
theorem dX7_isKept_25 : decode cX7_isKept 25 = .ok (.getfield 19, 3) := by decide +kernel
theorem dX7_isKept_28 : decode cX7_isKept 28 = .ok (.invokevirtual 102, 3) := by decide +kernel
theorem dX7_isKept_31 : decode cX7_isKept 31 = .ok (.if_icmp .ge 29, 3) := by decide +kernel
theorem dX7_isKept_34 : decode cX7_isKept 34 = .ok (.aload_n 0, 1) := by decide +kernel
theorem dX7_isKept_35 : decode cX7_isKept 35 = .ok (.getfield 19, 3) := by decide +kernel
theorem dX7_isKept_38 : decode cX7_isKept 38 = .ok (.iload_n 2, 1) := by decide +kernel
theorem dX7_isKept_39 : decode cX7_isKept 39 = .ok (.invokevirtual 105, 3) := by decide +kernel
theorem dX7_isKept_42 : decode cX7_isKept 42 = .ok (.checkcast 91, 3) := by decide +kernel
theorem dX7_isKept_45 : decode cX7_isKept 45 = .ok (.iload_n 1, 1) := by decide +kernel
theorem dX7_isKept_46 : decode cX7_isKept 46 = .ok (.invokevirtual 187, 3) := by decide +kernel
theorem dX7_isKept_49 : decode cX7_isKept 49 = .ok (.ifCond .eq 5, 3) := by decide +kernel
theorem dX7_isKept_52 : decode cX7_isKept 52 = .ok (.iconst 1, 1) := by decide +kernel
theorem dX7_isKept_53 : decode cX7_isKept 53 = .ok (.ireturn, 1) := by decide +kernel
theorem dX7_isKept_54 : decode cX7_isKept 54 = .ok (.iinc 2 1, 3) := by decide +kernel
theorem dX7_isKept_57 : decode cX7_isKept 57 = .ok (.goto (-34), 3) := by decide +kernel
theorem dX7_isKept_60 : decode cX7_isKept 60 = .ok (.iconst 0, 1) := by decide +kernel
theorem dX7_isKept_61 : decode cX7_isKept 61 = .ok (.ireturn, 1) := by decide +kernel
set_option maxRecDepth 20000 in
theorem ggX7_isPinned_Jx4a65c_size_8abf5 : GoodIn wsX7_isPinned wsJx4a65c_size_8abf5 := goodIn_r _ [7, 8, 51, 52, 53] (by decide +kernel) (by decide +kernel)
set_option maxRecDepth 20000 in
theorem gX7_isPinned_Jx4a65c_size_8abf5 : GoodIn wsX7_isPinned (wsV RX7 102 RJx4a65c yJx4a65c_size_8abf5 wsJx4a65c_size_8abf5) := goodIn_app (goodIn_of _ (by decide +kernel)) ggX7_isPinned_Jx4a65c_size_8abf5
set_option maxRecDepth 20000 in
theorem ggX7_isPinned_Jx4a65c_get_915e3 : GoodIn wsX7_isPinned wsJx4a65c_get_915e3 := goodIn_r _ [12, 8, 13, 14, 15, 16, 17, 18, 19, 20, 21, 22, 23, 6, 24, 25, 51, 52, 53] (by decide +kernel) (by decide +kernel)
set_option maxRecDepth 20000 in
theorem gX7_isPinned_Jx4a65c_get_915e3 : GoodIn wsX7_isPinned (wsV RX7 105 RJx4a65c yJx4a65c_get_915e3 wsJx4a65c_get_915e3) := goodIn_app (goodIn_of _ (by decide +kernel)) ggX7_isPinned_Jx4a65c_get_915e3
set_option maxRecDepth 20000 in
theorem ggX7_isPinned_X5_pins : GoodIn wsX7_isPinned wsX5_pins := goodIn_r _ [31, 32, 33, 34, 35, 36, 30, 37, 38, 39, 40, 41, 54, 55, 56, 57, 58, 59, 60, 61, 62, 63, 64, 65, 66, 67, 68, 69, 70, 71, 72, 73, 74, 75, 76, 77, 78, 79, 80, 81, 82, 83, 84, 85, 86, 87, 88, 89, 90, 91, 92, 93, 94, 95, 96, 97, 98, 99, 100, 101, 102, 103] (by decide +kernel) (by decide +kernel)
set_option maxRecDepth 20000 in
theorem gX7_isPinned_X5_pins_u190X1 : GoodIn wsX7_isPinned (va_wsU RX7 190 RX1 "HouseWorkers$Work" ⟨"HouseWorkers$Work", "pins", "(I)Z"⟩ yX5_pins wsX5_pins) := goodIn_app (goodIn_of _ (by decide +kernel)) ggX7_isPinned_X5_pins
set_option maxRecDepth 20000 in
theorem gX7_isPinned_X5_pins_u190X2 : GoodIn wsX7_isPinned (va_wsU RX7 190 RX2 "HouseWorkers$Work" ⟨"HouseWorkers$Work", "pins", "(I)Z"⟩ yX5_pins wsX5_pins) := goodIn_app (goodIn_of _ (by decide +kernel)) ggX7_isPinned_X5_pins
set_option maxRecDepth 20000 in
theorem gX7_isPinned_X5_pins_u190X4 : GoodIn wsX7_isPinned (va_wsU RX7 190 RX4 "HouseWorkers$Work" ⟨"HouseWorkers$Work", "pins", "(I)Z"⟩ yX5_pins wsX5_pins) := goodIn_app (goodIn_of _ (by decide +kernel)) ggX7_isPinned_X5_pins
set_option maxRecDepth 20000 in
theorem gX7_isPinned_X5_pins_u190X6 : GoodIn wsX7_isPinned (va_wsU RX7 190 RX6 "HouseWorkers$Work" ⟨"HouseWorkers$Work", "pins", "(I)Z"⟩ yX5_pins wsX5_pins) := goodIn_app (goodIn_of _ (by decide +kernel)) ggX7_isPinned_X5_pins
theorem dX7_isPinned_0 : decode cX7_isPinned 0 = .ok (.iconst 0, 1) := by decide +kernel
theorem dX7_isPinned_1 : decode cX7_isPinned 1 = .ok (.istore_n 2, 1) := by decide +kernel
theorem dX7_isPinned_2 : decode cX7_isPinned 2 = .ok (.iload_n 2, 1) := by decide +kernel
theorem dX7_isPinned_3 : decode cX7_isPinned 3 = .ok (.aload_n 0, 1) := by decide +kernel
theorem dX7_isPinned_4 : decode cX7_isPinned 4 = .ok (.getfield 19, 3) := by decide +kernel
theorem dX7_isPinned_7 : decode cX7_isPinned 7 = .ok (.invokevirtual 102, 3) := by decide +kernel
theorem dX7_isPinned_10 : decode cX7_isPinned 10 = .ok (.if_icmp .ge 29, 3) := by decide +kernel
theorem dX7_isPinned_13 : decode cX7_isPinned 13 = .ok (.aload_n 0, 1) := by decide +kernel
theorem dX7_isPinned_14 : decode cX7_isPinned 14 = .ok (.getfield 19, 3) := by decide +kernel
theorem dX7_isPinned_17 : decode cX7_isPinned 17 = .ok (.iload_n 2, 1) := by decide +kernel
theorem dX7_isPinned_18 : decode cX7_isPinned 18 = .ok (.invokevirtual 105, 3) := by decide +kernel
theorem dX7_isPinned_21 : decode cX7_isPinned 21 = .ok (.checkcast 91, 3) := by decide +kernel
theorem dX7_isPinned_24 : decode cX7_isPinned 24 = .ok (.iload_n 1, 1) := by decide +kernel
theorem dX7_isPinned_25 : decode cX7_isPinned 25 = .ok (.invokevirtual 190, 3) := by decide +kernel
theorem dX7_isPinned_28 : decode cX7_isPinned 28 = .ok (.ifCond .eq 5, 3) := by decide +kernel
theorem dX7_isPinned_31 : decode cX7_isPinned 31 = .ok (.iconst 1, 1) := by decide +kernel
theorem dX7_isPinned_32 : decode cX7_isPinned 32 = .ok (.ireturn, 1) := by decide +kernel
theorem dX7_isPinned_33 : decode cX7_isPinned 33 = .ok (.iinc 2 1, 3) := by decide +kernel
theorem dX7_isPinned_36 : decode cX7_isPinned 36 = .ok (.goto (-34), 3) := by decide +kernel
theorem dX7_isPinned_39 : decode cX7_isPinned 39 = .ok (.iconst 0, 1) := by decide +kernel
theorem dX7_isPinned_40 : decode cX7_isPinned 40 = .ok (.ireturn, 1) := by decide +kernel
set_option maxRecDepth 20000 in
theorem ggX7_countKept_X3_size : GoodIn wsX7_countKept wsX3_size := goodIn_r _ [6, 7, 8, 9, 10, 11, 12, 13, 89, 90, 91, 92, 93, 94] (by decide +kernel) (by decide +kernel)
set_option maxRecDepth 20000 in
theorem gX7_countKept_X3_size : GoodIn wsX7_countKept (wsV RX7 148 RX3 yX3_size wsX3_size) := goodIn_app (goodIn_of _ (by decide +kernel)) ggX7_countKept_X3_size
set_option maxRecDepth 20000 in
theorem ggX7_countKept_X7_isKept : GoodIn wsX7_countKept wsX7_isKept := goodIn_r _ [18, 1, 19, 20, 21, 22, 23, 5, 24, 7, 8, 9, 10, 11, 12, 13, 25, 26, 27, 17, 28, 29, 30, 31, 32, 33, 34, 35, 36, 37, 38, 39, 40, 41, 42, 43, 44, 45, 46, 47, 48, 49, 50, 51, 52, 53, 54, 55, 56, 57, 58, 59, 60, 61, 62, 63, 64, 65, 66, 67, 68, 69, 70, 71, 72, 73, 74, 75, 76, 77, 78, 79, 80, 81, 82, 83, 84, 85, 86, 87, 88, 89, 90, 91, 92, 93, 94, 95, 96, 97, 98, 99, 100, 101, 102, 103, 104, 105, 106, 107, 108, 109, 110, 111, 112, 113, 114, 115, 116, 117, 118, 119, 120, 121, 122, 123, 124, 125, 126, 127, 128, 129, 130, 131, 132, 133, 134, 135, 136, 137, 138, 139, 140, 141, 142, 143, 144] (by decide +kernel) (by decide +kernel)
set_option maxRecDepth 20000 in
theorem gX7_countKept_X7_isKept : GoodIn wsX7_countKept (wsV RX7 142 RX7 yX7_isKept wsX7_isKept) := goodIn_app (goodIn_of _ (by decide +kernel)) ggX7_countKept_X7_isKept
theorem dX7_countKept_0 : decode cX7_countKept 0 = .ok (.iconst 0, 1) := by decide +kernel
theorem dX7_countKept_1 : decode cX7_countKept 1 = .ok (.istore_n 1, 1) := by decide +kernel
theorem dX7_countKept_2 : decode cX7_countKept 2 = .ok (.iconst 0, 1) := by decide +kernel
theorem dX7_countKept_3 : decode cX7_countKept 3 = .ok (.istore_n 2, 1) := by decide +kernel
theorem dX7_countKept_4 : decode cX7_countKept 4 = .ok (.iload_n 2, 1) := by decide +kernel
theorem dX7_countKept_5 : decode cX7_countKept 5 = .ok (.aload_n 0, 1) := by decide +kernel
