theorem dX7_countKept_6 : decode cX7_countKept 6 = .ok (.getfield 12, 3) := by decide +kernel
theorem dX7_countKept_9 : decode cX7_countKept 9 = .ok (.invokevirtual 148, 3) := by decide +kernel
theorem dX7_countKept_12 : decode cX7_countKept 12 = .ok (.if_icmp .ge 20, 3) := by decide +kernel
theorem dX7_countKept_15 : decode cX7_countKept 15 = .ok (.aload_n 0, 1) := by decide +kernel
theorem dX7_countKept_16 : decode cX7_countKept 16 = .ok (.iload_n 2, 1) := by decide +kernel
theorem dX7_countKept_17 : decode cX7_countKept 17 = .ok (.invokevirtual 142, 3) := by decide +kernel
theorem dX7_countKept_20 : decode cX7_countKept 20 = .ok (.ifCond .eq 6, 3) := by decide +kernel
theorem dX7_countKept_23 : decode cX7_countKept 23 = .ok (.iinc 1 1, 3) := by decide +kernel
theorem dX7_countKept_26 : decode cX7_countKept 26 = .ok (.iinc 2 1, 3) := by decide +kernel
theorem dX7_countKept_29 : decode cX7_countKept 29 = .ok (.goto (-25), 3) := by decide +kernel
theorem dX7_countKept_32 : decode cX7_countKept 32 = .ok (.iload_n 1, 1) := by decide +kernel
theorem dX7_countKept_33 : decode cX7_countKept 33 = .ok (.ireturn, 1) := by decide +kernel
set_option maxRecDepth 20000 in
theorem ggX7_countPinned_X3_size : GoodIn wsX7_countPinned wsX3_size := goodIn_r _ [6, 7, 8, 9, 10, 11, 12, 13, 64, 65, 66, 67, 68, 69] (by decide +kernel) (by decide +kernel)
set_option maxRecDepth 20000 in
theorem gX7_countPinned_X3_size : GoodIn wsX7_countPinned (wsV RX7 148 RX3 yX3_size wsX3_size) := goodIn_app (goodIn_of _ (by decide +kernel)) ggX7_countPinned_X3_size
set_option maxRecDepth 20000 in
theorem ggX7_countPinned_X7_isPinned : GoodIn wsX7_countPinned wsX7_isPinned := goodIn_r _ [18, 19, 20, 21, 9, 10, 11, 12, 13, 22, 23, 24, 25, 26, 27, 28, 29, 30, 31, 32, 33, 34, 35, 36, 37, 38, 39, 40, 41, 42, 43, 44, 45, 46, 47, 48, 49, 50, 51, 52, 53, 54, 55, 56, 57, 58, 59, 60, 61, 62, 63, 67, 68, 69, 70, 71, 72, 73, 74, 75, 76, 77, 78, 79, 80, 81, 82, 83, 84, 85, 86, 87, 88, 89, 90, 91, 92, 93, 94, 95, 96, 97, 98, 99, 100, 101, 102, 103, 104, 105, 106, 107, 108, 109, 110, 111, 112, 113, 114, 115, 116, 117, 118, 119] (by decide +kernel) (by decide +kernel)
set_option maxRecDepth 20000 in
theorem gX7_countPinned_X7_isPinned : GoodIn wsX7_countPinned (wsV RX7 184 RX7 yX7_isPinned wsX7_isPinned) := goodIn_app (goodIn_of _ (by decide +kernel)) ggX7_countPinned_X7_isPinned
theorem dX7_countPinned_0 : decode cX7_countPinned 0 = .ok (.iconst 0, 1) := by decide +kernel
theorem dX7_countPinned_1 : decode cX7_countPinned 1 = .ok (.istore_n 1, 1) := by decide +kernel
theorem dX7_countPinned_2 : decode cX7_countPinned 2 = .ok (.iconst 0, 1) := by decide +kernel
theorem dX7_countPinned_3 : decode cX7_countPinned 3 = .ok (.istore_n 2, 1) := by decide +kernel
theorem dX7_countPinned_4 : decode cX7_countPinned 4 = .ok (.iload_n 2, 1) := by decide +kernel
theorem dX7_countPinned_5 : decode cX7_countPinned 5 = .ok (.aload_n 0, 1) := by decide +kernel
theorem dX7_countPinned_6 : decode cX7_countPinned 6 = .ok (.getfield 12, 3) := by decide +kernel
theorem dX7_countPinned_9 : decode cX7_countPinned 9 = .ok (.invokevirtual 148, 3) := by decide +kernel
theorem dX7_countPinned_12 : decode cX7_countPinned 12 = .ok (.if_icmp .ge 20, 3) := by decide +kernel
theorem dX7_countPinned_15 : decode cX7_countPinned 15 = .ok (.aload_n 0, 1) := by decide +kernel
theorem dX7_countPinned_16 : decode cX7_countPinned 16 = .ok (.iload_n 2, 1) := by decide +kernel
theorem dX7_countPinned_17 : decode cX7_countPinned 17 = .ok (.invokevirtual 184, 3) := by decide +kernel
theorem dX7_countPinned_20 : decode cX7_countPinned 20 = .ok (.ifCond .eq 6, 3) := by decide +kernel
theorem dX7_countPinned_23 : decode cX7_countPinned 23 = .ok (.iinc 1 1, 3) := by decide +kernel
theorem dX7_countPinned_26 : decode cX7_countPinned 26 = .ok (.iinc 2 1, 3) := by decide +kernel
theorem dX7_countPinned_29 : decode cX7_countPinned 29 = .ok (.goto (-25), 3) := by decide +kernel
theorem dX7_countPinned_32 : decode cX7_countPinned 32 = .ok (.iload_n 1, 1) := by decide +kernel
theorem dX7_countPinned_33 : decode cX7_countPinned 33 = .ok (.ireturn, 1) := by decide +kernel
theorem dX8_init_0 : decode cX8_init 0 = .ok (.aload_n 0, 1) := by decide +kernel
theorem dX8_init_1 : decode cX8_init 1 = .ok (.invokespecial 1, 3) := by decide +kernel
theorem dX8_init_4 : decode cX8_init 4 = .ok (.aload_n 0, 1) := by decide +kernel
theorem dX8_init_5 : decode cX8_init 5 = .ok (.sipush 640, 3) := by decide +kernel
theorem dX8_init_8 : decode cX8_init 8 = .ok (.newarray .int, 2) := by decide +kernel
theorem dX8_init_10 : decode cX8_init 10 = .ok (.putfield 7, 3) := by decide +kernel
theorem dX8_init_13 : decode cX8_init 13 = .ok (.aload_n 0, 1) := by decide +kernel
theorem dX8_init_14 : decode cX8_init 14 = .ok (.iconst 1, 1) := by decide +kernel
theorem dX8_init_15 : decode cX8_init 15 = .ok (.putfield 13, 3) := by decide +kernel
theorem dX8_init_18 : decode cX8_init 18 = .ok (.aload_n 0, 1) := by decide +kernel
theorem dX8_init_19 : decode cX8_init 19 = .ok (.bipush 30, 2) := by decide +kernel
theorem dX8_init_21 : decode cX8_init 21 = .ok (.newarray .int, 2) := by decide +kernel
theorem dX8_init_23 : decode cX8_init 23 = .ok (.putfield 17, 3) := by decide +kernel
theorem dX8_init_26 : decode cX8_init 26 = .ok (.aload_n 0, 1) := by decide +kernel
theorem dX8_init_27 : decode cX8_init 27 = .ok (.bipush 30, 2) := by decide +kernel
theorem dX8_init_29 : decode cX8_init 29 = .ok (.newarray .int, 2) := by decide +kernel
theorem dX8_init_31 : decode cX8_init 31 = .ok (.putfield 20, 3) := by decide +kernel
theorem dX8_init_34 : decode cX8_init 34 = .ok (.aload_n 0, 1) := by decide +kernel
theorem dX8_init_35 : decode cX8_init 35 = .ok (.bipush 30, 2) := by decide +kernel
theorem dX8_init_37 : decode cX8_init 37 = .ok (.newarray .int, 2) := by decide +kernel
theorem dX8_init_39 : decode cX8_init 39 = .ok (.putfield 23, 3) := by decide +kernel
theorem dX8_init_42 : decode cX8_init 42 = .ok (.aload_n 0, 1) := by decide +kernel
theorem dX8_init_43 : decode cX8_init 43 = .ok (.bipush 30, 2) := by decide +kernel
theorem dX8_init_45 : decode cX8_init 45 = .ok (.newarray .int, 2) := by decide +kernel
theorem dX8_init_47 : decode cX8_init 47 = .ok (.putfield 26, 3) := by decide +kernel
theorem dX8_init_50 : decode cX8_init 50 = .ok (.aload_n 0, 1) := by decide +kernel
theorem dX8_init_51 : decode cX8_init 51 = .ok (.bipush 30, 2) := by decide +kernel
theorem dX8_init_53 : decode cX8_init 53 = .ok (.newarray .int, 2) := by decide +kernel
theorem dX8_init_55 : decode cX8_init 55 = .ok (.putfield 29, 3) := by decide +kernel
theorem dX8_init_58 : decode cX8_init 58 = .ok (.aload_n 0, 1) := by decide +kernel
theorem dX8_init_59 : decode cX8_init 59 = .ok (.bipush 30, 2) := by decide +kernel
theorem dX8_init_61 : decode cX8_init 61 = .ok (.newarray .int, 2) := by decide +kernel
theorem dX8_init_63 : decode cX8_init 63 = .ok (.putfield 32, 3) := by decide +kernel
theorem dX8_init_66 : decode cX8_init 66 = .ok (.aload_n 0, 1) := by decide +kernel
theorem dX8_init_67 : decode cX8_init 67 = .ok (.bipush 30, 2) := by decide +kernel
theorem dX8_init_69 : decode cX8_init 69 = .ok (.newarray .int, 2) := by decide +kernel
theorem dX8_init_71 : decode cX8_init 71 = .ok (.putfield 35, 3) := by decide +kernel
theorem dX8_init_74 : decode cX8_init 74 = .ok (.aload_n 0, 1) := by decide +kernel
theorem dX8_init_75 : decode cX8_init 75 = .ok (.bipush 30, 2) := by decide +kernel
theorem dX8_init_77 : decode cX8_init 77 = .ok (.newarray .int, 2) := by decide +kernel
theorem dX8_init_79 : decode cX8_init 79 = .ok (.putfield 38, 3) := by decide +kernel
theorem dX8_init_82 : decode cX8_init 82 = .ok (.aload_n 0, 1) := by decide +kernel
theorem dX8_init_83 : decode cX8_init 83 = .ok (.bipush 30, 2) := by decide +kernel
theorem dX8_init_85 : decode cX8_init 85 = .ok (.newarray .int, 2) := by decide +kernel
theorem dX8_init_87 : decode cX8_init 87 = .ok (.putfield 41, 3) := by decide +kernel
theorem dX8_init_90 : decode cX8_init 90 = .ok (.aload_n 0, 1) := by decide +kernel
theorem dX8_init_91 : decode cX8_init 91 = .ok (.bipush 30, 2) := by decide +kernel
theorem dX8_init_93 : decode cX8_init 93 = .ok (.newarray .boolean, 2) := by decide +kernel
theorem dX8_init_95 : decode cX8_init 95 = .ok (.putfield 44, 3) := by decide +kernel
theorem dX8_init_98 : decode cX8_init 98 = .ok (.aload_n 0, 1) := by decide +kernel
theorem dX8_init_99 : decode cX8_init 99 = .ok (.sipush 480, 3) := by decide +kernel
theorem dX8_init_102 : decode cX8_init 102 = .ok (.newarray .int, 2) := by decide +kernel
theorem dX8_init_104 : decode cX8_init 104 = .ok (.putfield 48, 3) := by decide +kernel
theorem dX8_init_107 : decode cX8_init 107 = .ok (.aload_n 0, 1) := by decide +kernel
theorem dX8_init_108 : decode cX8_init 108 = .ok (.bipush 16, 2) := by decide +kernel
theorem dX8_init_110 : decode cX8_init 110 = .ok (.newarray .int, 2) := by decide +kernel
theorem dX8_init_112 : decode cX8_init 112 = .ok (.putfield 51, 3) := by decide +kernel
theorem dX8_init_115 : decode cX8_init 115 = .ok (.aload_n 0, 1) := by decide +kernel
theorem dX8_init_116 : decode cX8_init 116 = .ok (.bipush 30, 2) := by decide +kernel
theorem dX8_init_118 : decode cX8_init 118 = .ok (.newarray .int, 2) := by decide +kernel
theorem dX8_init_120 : decode cX8_init 120 = .ok (.putfield 54, 3) := by decide +kernel
theorem dX8_init_123 : decode cX8_init 123 = .ok (.aload_n 0, 1) := by decide +kernel
theorem dX8_init_124 : decode cX8_init 124 = .ok (.bipush 30, 2) := by decide +kernel
theorem dX8_init_126 : decode cX8_init 126 = .ok (.newarray .int, 2) := by decide +kernel
theorem dX8_init_128 : decode cX8_init 128 = .ok (.putfield 57, 3) := by decide +kernel
theorem dX8_init_131 : decode cX8_init 131 = .ok (.aload_n 0, 1) := by decide +kernel
theorem dX8_init_132 : decode cX8_init 132 = .ok (.bipush 30, 2) := by decide +kernel
theorem dX8_init_134 : decode cX8_init 134 = .ok (.newarray .int, 2) := by decide +kernel
theorem dX8_init_136 : decode cX8_init 136 = .ok (.putfield 60, 3) := by decide +kernel
theorem dX8_init_139 : decode cX8_init 139 = .ok (.return_, 1) := by decide +kernel
theorem dX8_in_0 : decode cX8_in 0 = .ok (.iload_n 0, 1) := by decide +kernel
theorem dX8_in_1 : decode cX8_in 1 = .ok (.iload_n 1, 1) := by decide +kernel
theorem dX8_in_2 : decode cX8_in 2 = .ok (.if_icmp .lt 12, 3) := by decide +kernel
theorem dX8_in_5 : decode cX8_in 5 = .ok (.iload_n 0, 1) := by decide +kernel
theorem dX8_in_6 : decode cX8_in 6 = .ok (.iload_n 2, 1) := by decide +kernel
theorem dX8_in_7 : decode cX8_in 7 = .ok (.if_icmp .gt 7, 3) := by decide +kernel
theorem dX8_in_10 : decode cX8_in 10 = .ok (.iconst 1, 1) := by decide +kernel
theorem dX8_in_11 : decode cX8_in 11 = .ok (.goto 4, 3) := by decide +kernel
theorem dX8_in_14 : decode cX8_in 14 = .ok (.iconst 0, 1) := by decide +kernel
theorem dX8_in_15 : decode cX8_in 15 = .ok (.ireturn, 1) := by decide +kernel
set_option maxRecDepth 20000 in
theorem ggX8_put_X8_in : GoodIn wsX8_put wsX8_in := goodIn_r _ [6] (by decide +kernel) (by decide +kernel)
set_option maxRecDepth 20000 in
theorem gX8_put_X8_in : GoodIn wsX8_put (va_wsS RX8 63 yX8_in wsX8_in) := goodIn_app (goodIn_of _ (by decide +kernel)) ggX8_put_X8_in
theorem dX8_put_0 : decode cX8_put 0 = .ok (.iload_n 1, 1) := by decide +kernel
theorem dX8_put_1 : decode cX8_put 1 = .ok (.iconst 0, 1) := by decide +kernel
theorem dX8_put_2 : decode cX8_put 2 = .ok (.bipush 15, 2) := by decide +kernel
theorem dX8_put_4 : decode cX8_put 4 = .ok (.invokestatic 63, 3) := by decide +kernel
theorem dX8_put_7 : decode cX8_put 7 = .ok (.ifCond .ne 5, 3) := by decide +kernel
theorem dX8_put_10 : decode cX8_put 10 = .ok (.iconst (-1), 1) := by decide +kernel
theorem dX8_put_11 : decode cX8_put 11 = .ok (.ireturn, 1) := by decide +kernel
theorem dX8_put_12 : decode cX8_put 12 = .ok (.aload_n 0, 1) := by decide +kernel
theorem dX8_put_13 : decode cX8_put 13 = .ok (.getfield 67, 3) := by decide +kernel
theorem dX8_put_16 : decode cX8_put 16 = .ok (.ifCond .le 6, 3) := by decide +kernel
theorem dX8_put_19 : decode cX8_put 19 = .ok (.bipush (-2), 2) := by decide +kernel
theorem dX8_put_21 : decode cX8_put 21 = .ok (.ireturn, 1) := by decide +kernel
theorem dX8_put_22 : decode cX8_put 22 = .ok (.aload_n 0, 1) := by decide +kernel
theorem dX8_put_23 : decode cX8_put 23 = .ok (.getfield 7, 3) := by decide +kernel
theorem dX8_put_26 : decode cX8_put 26 = .ok (.iload_n 1, 1) := by decide +kernel
theorem dX8_put_27 : decode cX8_put 27 = .ok (.iload_n 2, 1) := by decide +kernel
theorem dX8_put_28 : decode cX8_put 28 = .ok (.iastore, 1) := by decide +kernel
theorem dX8_put_29 : decode cX8_put 29 = .ok (.iconst 1, 1) := by decide +kernel
theorem dX8_put_30 : decode cX8_put 30 = .ok (.ireturn, 1) := by decide +kernel
theorem dX8_begin_0 : decode cX8_begin 0 = .ok (.aload_n 0, 1) := by decide +kernel
theorem dX8_begin_1 : decode cX8_begin 1 = .ok (.getfield 70, 3) := by decide +kernel
theorem dX8_begin_4 : decode cX8_begin 4 = .ok (.ifCond .eq 6, 3) := by decide +kernel
theorem dX8_begin_7 : decode cX8_begin 7 = .ok (.bipush (-2), 2) := by decide +kernel
theorem dX8_begin_9 : decode cX8_begin 9 = .ok (.ireturn, 1) := by decide +kernel
theorem dX8_begin_10 : decode cX8_begin 10 = .ok (.aload_n 0, 1) := by decide +kernel
theorem dX8_begin_11 : decode cX8_begin 11 = .ok (.getfield 67, 3) := by decide +kernel
theorem dX8_begin_14 : decode cX8_begin 14 = .ok (.bipush 30, 2) := by decide +kernel
theorem dX8_begin_16 : decode cX8_begin 16 = .ok (.if_icmp .ne 6, 3) := by decide +kernel
theorem dX8_begin_19 : decode cX8_begin 19 = .ok (.bipush (-3), 2) := by decide +kernel
theorem dX8_begin_21 : decode cX8_begin 21 = .ok (.ireturn, 1) := by decide +kernel
theorem dX8_begin_22 : decode cX8_begin 22 = .ok (.aload_n 0, 1) := by decide +kernel
theorem dX8_begin_23 : decode cX8_begin 23 = .ok (.getfield 67, 3) := by decide +kernel
theorem dX8_begin_26 : decode cX8_begin 26 = .ok (.istore 6, 2) := by decide +kernel
theorem dX8_begin_28 : decode cX8_begin 28 = .ok (.aload_n 0, 1) := by decide +kernel
theorem dX8_begin_29 : decode cX8_begin 29 = .ok (.getfield 17, 3) := by decide +kernel
theorem dX8_begin_32 : decode cX8_begin 32 = .ok (.iload 6, 2) := by decide +kernel
theorem dX8_begin_34 : decode cX8_begin 34 = .ok (.iload_n 1, 1) := by decide +kernel
theorem dX8_begin_35 : decode cX8_begin 35 = .ok (.iastore, 1) := by decide +kernel
theorem dX8_begin_36 : decode cX8_begin 36 = .ok (.aload_n 0, 1) := by decide +kernel
theorem dX8_begin_37 : decode cX8_begin 37 = .ok (.getfield 20, 3) := by decide +kernel
theorem dX8_begin_40 : decode cX8_begin 40 = .ok (.iload 6, 2) := by decide +kernel
theorem dX8_begin_42 : decode cX8_begin 42 = .ok (.iload_n 2, 1) := by decide +kernel
theorem dX8_begin_43 : decode cX8_begin 43 = .ok (.iastore, 1) := by decide +kernel
theorem dX8_begin_44 : decode cX8_begin 44 = .ok (.aload_n 0, 1) := by decide +kernel
theorem dX8_begin_45 : decode cX8_begin 45 = .ok (.getfield 23, 3) := by decide +kernel
theorem dX8_begin_48 : decode cX8_begin 48 = .ok (.iload 6, 2) := by decide +kernel
theorem dX8_begin_50 : decode cX8_begin 50 = .ok (.iload_n 3, 1) := by decide +kernel
theorem dX8_begin_51 : decode cX8_begin 51 = .ok (.iastore, 1) := by decide +kernel
theorem dX8_begin_52 : decode cX8_begin 52 = .ok (.aload_n 0, 1) := by decide +kernel
theorem dX8_begin_53 : decode cX8_begin 53 = .ok (.getfield 26, 3) := by decide +kernel
theorem dX8_begin_56 : decode cX8_begin 56 = .ok (.iload 6, 2) := by decide +kernel
theorem dX8_begin_58 : decode cX8_begin 58 = .ok (.iload 4, 2) := by decide +kernel
theorem dX8_begin_60 : decode cX8_begin 60 = .ok (.iastore, 1) := by decide +kernel
theorem dX8_begin_61 : decode cX8_begin 61 = .ok (.aload_n 0, 1) := by decide +kernel
theorem dX8_begin_62 : decode cX8_begin 62 = .ok (.getfield 29, 3) := by decide +kernel
theorem dX8_begin_65 : decode cX8_begin 65 = .ok (.iload 6, 2) := by decide +kernel
theorem dX8_begin_67 : decode cX8_begin 67 = .ok (.iload 5, 2) := by decide +kernel
theorem dX8_begin_69 : decode cX8_begin 69 = .ok (.iastore, 1) := by decide +kernel
theorem dX8_begin_70 : decode cX8_begin 70 = .ok (.aload_n 0, 1) := by decide +kernel
theorem dX8_begin_71 : decode cX8_begin 71 = .ok (.getfield 38, 3) := by decide +kernel
theorem dX8_begin_74 : decode cX8_begin 74 = .ok (.iload 6, 2) := by decide +kernel
theorem dX8_begin_76 : decode cX8_begin 76 = .ok (.iload_n 1, 1) := by decide +kernel
theorem dX8_begin_77 : decode cX8_begin 77 = .ok (.ifCond .eq 8, 3) := by decide +kernel
theorem dX8_begin_80 : decode cX8_begin 80 = .ok (.iload_n 1, 1) := by decide +kernel
theorem dX8_begin_81 : decode cX8_begin 81 = .ok (.iconst 3, 1) := by decide +kernel
theorem dX8_begin_82 : decode cX8_begin 82 = .ok (.if_icmp .ne 12, 3) := by decide +kernel
theorem dX8_begin_85 : decode cX8_begin 85 = .ok (.aload_n 0, 1) := by decide +kernel
theorem dX8_begin_86 : decode cX8_begin 86 = .ok (.getfield 13, 3) := by decide +kernel
theorem dX8_begin_89 : decode cX8_begin 89 = .ok (.iconst 1, 1) := by decide +kernel
theorem dX8_begin_90 : decode cX8_begin 90 = .ok (.isub, 1) := by decide +kernel
theorem dX8_begin_91 : decode cX8_begin 91 = .ok (.goto 4, 3) := by decide +kernel
theorem dX8_begin_94 : decode cX8_begin 94 = .ok (.iconst (-1), 1) := by decide +kernel
theorem dX8_begin_95 : decode cX8_begin 95 = .ok (.iastore, 1) := by decide +kernel
theorem dX8_begin_96 : decode cX8_begin 96 = .ok (.aload_n 0, 1) := by decide +kernel
theorem dX8_begin_97 : decode cX8_begin 97 = .ok (.dup, 1) := by decide +kernel
theorem dX8_begin_98 : decode cX8_begin 98 = .ok (.getfield 67, 3) := by decide +kernel
theorem dX8_begin_101 : decode cX8_begin 101 = .ok (.iconst 1, 1) := by decide +kernel
theorem dX8_begin_102 : decode cX8_begin 102 = .ok (.iadd, 1) := by decide +kernel
theorem dX8_begin_103 : decode cX8_begin 103 = .ok (.putfield 67, 3) := by decide +kernel
theorem dX8_begin_106 : decode cX8_begin 106 = .ok (.iload 6, 2) := by decide +kernel
theorem dX8_begin_108 : decode cX8_begin 108 = .ok (.ireturn, 1) := by decide +kernel
set_option maxRecDepth 20000 in
theorem ggX8_question_X8_in : GoodIn wsX8_question wsX8_in := goodIn_r _ [4] (by decide +kernel) (by decide +kernel)
set_option maxRecDepth 20000 in
theorem gX8_question_X8_in : GoodIn wsX8_question (va_wsS RX8 63 yX8_in wsX8_in) := goodIn_app (goodIn_of _ (by decide +kernel)) ggX8_question_X8_in
set_option maxRecDepth 20000 in
theorem ggX8_question_X8_begin : GoodIn wsX8_question wsX8_begin := goodIn_r _ [8, 9, 10, 11, 12, 13, 14, 15, 16, 17, 18, 19, 20, 21, 22, 23, 24, 25, 26, 27, 28, 29, 30, 31, 32, 33, 34, 35, 36, 37, 38, 39] (by decide +kernel) (by decide +kernel)
set_option maxRecDepth 20000 in
theorem gX8_question_X8_begin : GoodIn wsX8_question (wsV RX8 74 RX8 yX8_begin wsX8_begin) := goodIn_app (goodIn_of _ (by decide +kernel)) ggX8_question_X8_begin
theorem dX8_question_0 : decode cX8_question 0 = .ok (.iload_n 1, 1) := by decide +kernel
theorem dX8_question_1 : decode cX8_question 1 = .ok (.iconst 1, 1) := by decide +kernel
theorem dX8_question_2 : decode cX8_question 2 = .ok (.bipush 20, 2) := by decide +kernel
theorem dX8_question_4 : decode cX8_question 4 = .ok (.invokestatic 63, 3) := by decide +kernel
theorem dX8_question_7 : decode cX8_question 7 = .ok (.ifCond .eq 23, 3) := by decide +kernel
theorem dX8_question_10 : decode cX8_question 10 = .ok (.iload_n 2, 1) := by decide +kernel
theorem dX8_question_11 : decode cX8_question 11 = .ok (.iconst 0, 1) := by decide +kernel
theorem dX8_question_12 : decode cX8_question 12 = .ok (.bipush 30, 2) := by decide +kernel
theorem dX8_question_14 : decode cX8_question 14 = .ok (.invokestatic 63, 3) := by decide +kernel
theorem dX8_question_17 : decode cX8_question 17 = .ok (.ifCond .eq 13, 3) := by decide +kernel
theorem dX8_question_20 : decode cX8_question 20 = .ok (.iload_n 3, 1) := by decide +kernel
theorem dX8_question_21 : decode cX8_question 21 = .ok (.iconst 0, 1) := by decide +kernel
theorem dX8_question_22 : decode cX8_question 22 = .ok (.bipush 15, 2) := by decide +kernel
theorem dX8_question_24 : decode cX8_question 24 = .ok (.invokestatic 63, 3) := by decide +kernel
theorem dX8_question_27 : decode cX8_question 27 = .ok (.ifCond .ne 7, 3) := by decide +kernel
theorem dX8_question_30 : decode cX8_question 30 = .ok (.iconst (-1), 1) := by decide +kernel
theorem dX8_question_31 : decode cX8_question 31 = .ok (.goto 12, 3) := by decide +kernel
theorem dX8_question_34 : decode cX8_question 34 = .ok (.aload_n 0, 1) := by decide +kernel
theorem dX8_question_35 : decode cX8_question 35 = .ok (.iconst 0, 1) := by decide +kernel
theorem dX8_question_36 : decode cX8_question 36 = .ok (.iload_n 1, 1) := by decide +kernel
theorem dX8_question_37 : decode cX8_question 37 = .ok (.iload_n 2, 1) := by decide +kernel
theorem dX8_question_38 : decode cX8_question 38 = .ok (.iload_n 3, 1) := by decide +kernel
theorem dX8_question_39 : decode cX8_question 39 = .ok (.iconst 0, 1) := by decide +kernel
theorem dX8_question_40 : decode cX8_question 40 = .ok (.invokevirtual 74, 3) := by decide +kernel
theorem dX8_question_43 : decode cX8_question 43 = .ok (.ireturn, 1) := by decide +kernel
set_option maxRecDepth 20000 in
theorem ggX8_writer_X8_in : GoodIn wsX8_writer wsX8_in := goodIn_r _ [4] (by decide +kernel) (by decide +kernel)
set_option maxRecDepth 20000 in
theorem gX8_writer_X8_in : GoodIn wsX8_writer (va_wsS RX8 63 yX8_in wsX8_in) := goodIn_app (goodIn_of _ (by decide +kernel)) ggX8_writer_X8_in
set_option maxRecDepth 20000 in
theorem ggX8_writer_X8_begin : GoodIn wsX8_writer wsX8_begin := goodIn_r _ [8, 9, 10, 11, 12, 13, 14, 15, 16, 17, 18, 19, 20, 21, 22, 23, 24, 25, 26, 27, 28, 29, 30, 31, 32, 33, 34, 35, 36, 37, 38, 39] (by decide +kernel) (by decide +kernel)
set_option maxRecDepth 20000 in
theorem gX8_writer_X8_begin : GoodIn wsX8_writer (wsV RX8 74 RX8 yX8_begin wsX8_begin) := goodIn_app (goodIn_of _ (by decide +kernel)) ggX8_writer_X8_begin
theorem dX8_writer_0 : decode cX8_writer 0 = .ok (.iload_n 1, 1) := by decide +kernel
theorem dX8_writer_1 : decode cX8_writer 1 = .ok (.iconst 1, 1) := by decide +kernel
theorem dX8_writer_2 : decode cX8_writer 2 = .ok (.bipush 20, 2) := by decide +kernel
theorem dX8_writer_4 : decode cX8_writer 4 = .ok (.invokestatic 63, 3) := by decide +kernel
theorem dX8_writer_7 : decode cX8_writer 7 = .ok (.ifCond .eq 23, 3) := by decide +kernel
theorem dX8_writer_10 : decode cX8_writer 10 = .ok (.iload_n 2, 1) := by decide +kernel
theorem dX8_writer_11 : decode cX8_writer 11 = .ok (.iconst 0, 1) := by decide +kernel
theorem dX8_writer_12 : decode cX8_writer 12 = .ok (.bipush 30, 2) := by decide +kernel
theorem dX8_writer_14 : decode cX8_writer 14 = .ok (.invokestatic 63, 3) := by decide +kernel
theorem dX8_writer_17 : decode cX8_writer 17 = .ok (.ifCond .eq 13, 3) := by decide +kernel
theorem dX8_writer_20 : decode cX8_writer 20 = .ok (.iload_n 3, 1) := by decide +kernel
theorem dX8_writer_21 : decode cX8_writer 21 = .ok (.iconst 0, 1) := by decide +kernel
theorem dX8_writer_22 : decode cX8_writer 22 = .ok (.bipush 15, 2) := by decide +kernel
theorem dX8_writer_24 : decode cX8_writer 24 = .ok (.invokestatic 63, 3) := by decide +kernel
theorem dX8_writer_27 : decode cX8_writer 27 = .ok (.ifCond .ne 7, 3) := by decide +kernel
theorem dX8_writer_30 : decode cX8_writer 30 = .ok (.iconst (-1), 1) := by decide +kernel
theorem dX8_writer_31 : decode cX8_writer 31 = .ok (.goto 13, 3) := by decide +kernel
theorem dX8_writer_34 : decode cX8_writer 34 = .ok (.aload_n 0, 1) := by decide +kernel
theorem dX8_writer_35 : decode cX8_writer 35 = .ok (.iconst 1, 1) := by decide +kernel
theorem dX8_writer_36 : decode cX8_writer 36 = .ok (.iload_n 1, 1) := by decide +kernel
theorem dX8_writer_37 : decode cX8_writer 37 = .ok (.iload_n 2, 1) := by decide +kernel
theorem dX8_writer_38 : decode cX8_writer 38 = .ok (.iload_n 3, 1) := by decide +kernel
theorem dX8_writer_39 : decode cX8_writer 39 = .ok (.iload 4, 2) := by decide +kernel
theorem dX8_writer_41 : decode cX8_writer 41 = .ok (.invokevirtual 74, 3) := by decide +kernel
theorem dX8_writer_44 : decode cX8_writer 44 = .ok (.ireturn, 1) := by decide +kernel
set_option maxRecDepth 20000 in
theorem ggX8_reason_X8_in : GoodIn wsX8_reason wsX8_in := goodIn_r _ [4] (by decide +kernel) (by decide +kernel)
set_option maxRecDepth 20000 in
theorem gX8_reason_X8_in : GoodIn wsX8_reason (va_wsS RX8 63 yX8_in wsX8_in) := goodIn_app (goodIn_of _ (by decide +kernel)) ggX8_reason_X8_in
set_option maxRecDepth 20000 in
theorem ggX8_reason_X8_begin : GoodIn wsX8_reason wsX8_begin := goodIn_r _ [8, 9, 10, 11, 12, 13, 14, 15, 16, 17, 18, 19, 20, 21, 22, 23, 24, 25, 26, 27, 28, 29, 30, 31, 32, 33, 34, 35, 36, 37, 38, 39] (by decide +kernel) (by decide +kernel)
set_option maxRecDepth 20000 in
theorem gX8_reason_X8_begin : GoodIn wsX8_reason (wsV RX8 74 RX8 yX8_begin wsX8_begin) := goodIn_app (goodIn_of _ (by decide +kernel)) ggX8_reason_X8_begin
theorem dX8_reason_0 : decode cX8_reason 0 = .ok (.iload_n 1, 1) := by decide +kernel
theorem dX8_reason_1 : decode cX8_reason 1 = .ok (.iconst 1, 1) := by decide +kernel
theorem dX8_reason_2 : decode cX8_reason 2 = .ok (.bipush 20, 2) := by decide +kernel
theorem dX8_reason_4 : decode cX8_reason 4 = .ok (.invokestatic 63, 3) := by decide +kernel
theorem dX8_reason_7 : decode cX8_reason 7 = .ok (.ifCond .eq 13, 3) := by decide +kernel
theorem dX8_reason_10 : decode cX8_reason 10 = .ok (.iload_n 2, 1) := by decide +kernel
theorem dX8_reason_11 : decode cX8_reason 11 = .ok (.iconst 0, 1) := by decide +kernel
theorem dX8_reason_12 : decode cX8_reason 12 = .ok (.bipush 30, 2) := by decide +kernel
theorem dX8_reason_14 : decode cX8_reason 14 = .ok (.invokestatic 63, 3) := by decide +kernel
theorem dX8_reason_17 : decode cX8_reason 17 = .ok (.ifCond .ne 7, 3) := by decide +kernel
theorem dX8_reason_20 : decode cX8_reason 20 = .ok (.iconst (-1), 1) := by decide +kernel
theorem dX8_reason_21 : decode cX8_reason 21 = .ok (.goto 12, 3) := by decide +kernel
theorem dX8_reason_24 : decode cX8_reason 24 = .ok (.aload_n 0, 1) := by decide +kernel
theorem dX8_reason_25 : decode cX8_reason 25 = .ok (.iconst 2, 1) := by decide +kernel
theorem dX8_reason_26 : decode cX8_reason 26 = .ok (.iload_n 1, 1) := by decide +kernel
theorem dX8_reason_27 : decode cX8_reason 27 = .ok (.iload_n 2, 1) := by decide +kernel
theorem dX8_reason_28 : decode cX8_reason 28 = .ok (.iconst 0, 1) := by decide +kernel
theorem dX8_reason_29 : decode cX8_reason 29 = .ok (.iconst 0, 1) := by decide +kernel
theorem dX8_reason_30 : decode cX8_reason 30 = .ok (.invokevirtual 74, 3) := by decide +kernel
theorem dX8_reason_33 : decode cX8_reason 33 = .ok (.ireturn, 1) := by decide +kernel
set_option maxRecDepth 20000 in
theorem ggX8_stream_X8_begin : GoodIn wsX8_stream wsX8_begin := goodIn_r _ [5, 6, 7, 8, 9, 10, 11, 12, 13, 14, 15, 16, 17, 18, 19, 20, 21, 22, 23, 24, 25, 26, 27, 28, 29, 30, 31, 32, 33, 34, 35, 36] (by decide +kernel) (by decide +kernel)
set_option maxRecDepth 20000 in
theorem gX8_stream_X8_begin : GoodIn wsX8_stream (wsV RX8 74 RX8 yX8_begin wsX8_begin) := goodIn_app (goodIn_of _ (by decide +kernel)) ggX8_stream_X8_begin
theorem dX8_stream_0 : decode cX8_stream 0 = .ok (.aload_n 0, 1) := by decide +kernel
theorem dX8_stream_1 : decode cX8_stream 1 = .ok (.iconst 3, 1) := by decide +kernel
theorem dX8_stream_2 : decode cX8_stream 2 = .ok (.iconst 0, 1) := by decide +kernel
theorem dX8_stream_3 : decode cX8_stream 3 = .ok (.iconst 0, 1) := by decide +kernel
theorem dX8_stream_4 : decode cX8_stream 4 = .ok (.iconst 0, 1) := by decide +kernel
theorem dX8_stream_5 : decode cX8_stream 5 = .ok (.iconst 0, 1) := by decide +kernel
theorem dX8_stream_6 : decode cX8_stream 6 = .ok (.invokevirtual 74, 3) := by decide +kernel
theorem dX8_stream_9 : decode cX8_stream 9 = .ok (.ireturn, 1) := by decide +kernel
theorem dX8_isNext_0 : decode cX8_isNext 0 = .ok (.iconst 1, 1) := by decide +kernel
theorem dX8_isNext_1 : decode cX8_isNext 1 = .ok (.istore_n 2, 1) := by decide +kernel
theorem dX8_isNext_2 : decode cX8_isNext 2 = .ok (.iconst 0, 1) := by decide +kernel
theorem dX8_isNext_3 : decode cX8_isNext 3 = .ok (.istore_n 3, 1) := by decide +kernel
theorem dX8_isNext_4 : decode cX8_isNext 4 = .ok (.iload_n 3, 1) := by decide +kernel
theorem dX8_isNext_5 : decode cX8_isNext 5 = .ok (.iload_n 1, 1) := by decide +kernel
theorem dX8_isNext_6 : decode cX8_isNext 6 = .ok (.if_icmp .ge 47, 3) := by decide +kernel
theorem dX8_isNext_9 : decode cX8_isNext 9 = .ok (.iload_n 2, 1) := by decide +kernel
theorem dX8_isNext_10 : decode cX8_isNext 10 = .ok (.ifCond .eq 35, 3) := by decide +kernel
theorem dX8_isNext_13 : decode cX8_isNext 13 = .ok (.aload_n 0, 1) := by decide +kernel
theorem dX8_isNext_14 : decode cX8_isNext 14 = .ok (.getfield 41, 3) := by decide +kernel
theorem dX8_isNext_17 : decode cX8_isNext 17 = .ok (.iload_n 3, 1) := by decide +kernel
theorem dX8_isNext_18 : decode cX8_isNext 18 = .ok (.iaload, 1) := by decide +kernel
theorem dX8_isNext_19 : decode cX8_isNext 19 = .ok (.ifCond .gt 22, 3) := by decide +kernel
theorem dX8_isNext_22 : decode cX8_isNext 22 = .ok (.aload_n 0, 1) := by decide +kernel
theorem dX8_isNext_23 : decode cX8_isNext 23 = .ok (.getfield 17, 3) := by decide +kernel
theorem dX8_isNext_26 : decode cX8_isNext 26 = .ok (.iload_n 3, 1) := by decide +kernel
theorem dX8_isNext_27 : decode cX8_isNext 27 = .ok (.iaload, 1) := by decide +kernel
theorem dX8_isNext_28 : decode cX8_isNext 28 = .ok (.ifCond .eq 13, 3) := by decide +kernel
theorem dX8_isNext_31 : decode cX8_isNext 31 = .ok (.aload_n 0, 1) := by decide +kernel
theorem dX8_isNext_32 : decode cX8_isNext 32 = .ok (.getfield 17, 3) := by decide +kernel
