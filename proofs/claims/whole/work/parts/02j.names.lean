theorem dX8_isPinned_5 : decode cX8_isPinned 5 = .ok (.aload_n 0, 1) := by decide +kernel
theorem dX8_isPinned_6 : decode cX8_isPinned 6 = .ok (.getfield 67, 3) := by decide +kernel
theorem dX8_isPinned_9 : decode cX8_isPinned 9 = .ok (.if_icmp .ge 28, 3) := by decide +kernel
theorem dX8_isPinned_12 : decode cX8_isPinned 12 = .ok (.iload_n 2, 1) := by decide +kernel
theorem dX8_isPinned_13 : decode cX8_isPinned 13 = .ok (.ifCond .ne 12, 3) := by decide +kernel
theorem dX8_isPinned_16 : decode cX8_isPinned 16 = .ok (.aload_n 0, 1) := by decide +kernel
theorem dX8_isPinned_17 : decode cX8_isPinned 17 = .ok (.iload_n 3, 1) := by decide +kernel
theorem dX8_isPinned_18 : decode cX8_isPinned 18 = .ok (.invokevirtual 112, 3) := by decide +kernel
theorem dX8_isPinned_21 : decode cX8_isPinned 21 = .ok (.iload_n 1, 1) := by decide +kernel
theorem dX8_isPinned_22 : decode cX8_isPinned 22 = .ok (.if_icmp .ne 7, 3) := by decide +kernel
theorem dX8_isPinned_25 : decode cX8_isPinned 25 = .ok (.iconst 1, 1) := by decide +kernel
theorem dX8_isPinned_26 : decode cX8_isPinned 26 = .ok (.goto 4, 3) := by decide +kernel
theorem dX8_isPinned_29 : decode cX8_isPinned 29 = .ok (.iconst 0, 1) := by decide +kernel
theorem dX8_isPinned_30 : decode cX8_isPinned 30 = .ok (.istore_n 2, 1) := by decide +kernel
theorem dX8_isPinned_31 : decode cX8_isPinned 31 = .ok (.iinc 3 1, 3) := by decide +kernel
theorem dX8_isPinned_34 : decode cX8_isPinned 34 = .ok (.goto (-30), 3) := by decide +kernel
theorem dX8_isPinned_37 : decode cX8_isPinned 37 = .ok (.iload_n 2, 1) := by decide +kernel
theorem dX8_isPinned_38 : decode cX8_isPinned 38 = .ok (.ireturn, 1) := by decide +kernel
set_option maxRecDepth 20000 in
theorem ggX8_isKept_X8_isPinned : GoodIn wsX8_isKept wsX8_isPinned := goodIn_r _ [10, 2, 11, 12, 13, 9, 14, 4, 3, 5, 15, 16, 17, 18, 19, 20, 21, 22, 23, 24, 25, 26, 27, 28, 29, 30, 31, 32, 33, 34, 35, 36] (by decide +kernel) (by decide +kernel)
set_option maxRecDepth 20000 in
theorem gX8_isKept_X8_isPinned : GoodIn wsX8_isKept (wsV RX8 115 RX8 yX8_isPinned wsX8_isPinned) := goodIn_app (goodIn_of _ (by decide +kernel)) ggX8_isKept_X8_isPinned
theorem dX8_isKept_0 : decode cX8_isKept 0 = .ok (.iload_n 1, 1) := by decide +kernel
theorem dX8_isKept_1 : decode cX8_isKept 1 = .ok (.aload_n 0, 1) := by decide +kernel
theorem dX8_isKept_2 : decode cX8_isKept 2 = .ok (.getfield 13, 3) := by decide +kernel
theorem dX8_isKept_5 : decode cX8_isKept 5 = .ok (.iconst 1, 1) := by decide +kernel
theorem dX8_isKept_6 : decode cX8_isKept 6 = .ok (.isub, 1) := by decide +kernel
theorem dX8_isKept_7 : decode cX8_isKept 7 = .ok (.if_icmp .eq 11, 3) := by decide +kernel
theorem dX8_isKept_10 : decode cX8_isKept 10 = .ok (.aload_n 0, 1) := by decide +kernel
theorem dX8_isKept_11 : decode cX8_isKept 11 = .ok (.iload_n 1, 1) := by decide +kernel
theorem dX8_isKept_12 : decode cX8_isKept 12 = .ok (.invokevirtual 115, 3) := by decide +kernel
theorem dX8_isKept_15 : decode cX8_isKept 15 = .ok (.ifCond .eq 7, 3) := by decide +kernel
theorem dX8_isKept_18 : decode cX8_isKept 18 = .ok (.iconst 1, 1) := by decide +kernel
theorem dX8_isKept_19 : decode cX8_isKept 19 = .ok (.goto 4, 3) := by decide +kernel
theorem dX8_isKept_22 : decode cX8_isKept 22 = .ok (.iconst 0, 1) := by decide +kernel
theorem dX8_isKept_23 : decode cX8_isKept 23 = .ok (.istore_n 2, 1) := by decide +kernel
theorem dX8_isKept_24 : decode cX8_isKept 24 = .ok (.iconst 0, 1) := by decide +kernel
theorem dX8_isKept_25 : decode cX8_isKept 25 = .ok (.istore_n 3, 1) := by decide +kernel
theorem dX8_isKept_26 : decode cX8_isKept 26 = .ok (.iload_n 3, 1) := by decide +kernel
theorem dX8_isKept_27 : decode cX8_isKept 27 = .ok (.aload_n 0, 1) := by decide +kernel
theorem dX8_isKept_28 : decode cX8_isKept 28 = .ok (.getfield 67, 3) := by decide +kernel
theorem dX8_isKept_31 : decode cX8_isKept 31 = .ok (.if_icmp .ge 48, 3) := by decide +kernel
theorem dX8_isKept_34 : decode cX8_isKept 34 = .ok (.iload_n 2, 1) := by decide +kernel
theorem dX8_isKept_35 : decode cX8_isKept 35 = .ok (.ifCond .ne 32, 3) := by decide +kernel
theorem dX8_isKept_38 : decode cX8_isKept 38 = .ok (.aload_n 0, 1) := by decide +kernel
theorem dX8_isKept_39 : decode cX8_isKept 39 = .ok (.getfield 17, 3) := by decide +kernel
theorem dX8_isKept_42 : decode cX8_isKept 42 = .ok (.iload_n 3, 1) := by decide +kernel
theorem dX8_isKept_43 : decode cX8_isKept 43 = .ok (.iaload, 1) := by decide +kernel
theorem dX8_isKept_44 : decode cX8_isKept 44 = .ok (.iconst 3, 1) := by decide +kernel
theorem dX8_isKept_45 : decode cX8_isKept 45 = .ok (.if_icmp .ne 26, 3) := by decide +kernel
theorem dX8_isKept_48 : decode cX8_isKept 48 = .ok (.aload_n 0, 1) := by decide +kernel
theorem dX8_isKept_49 : decode cX8_isKept 49 = .ok (.getfield 41, 3) := by decide +kernel
theorem dX8_isKept_52 : decode cX8_isKept 52 = .ok (.iload_n 3, 1) := by decide +kernel
theorem dX8_isKept_53 : decode cX8_isKept 53 = .ok (.iaload, 1) := by decide +kernel
theorem dX8_isKept_54 : decode cX8_isKept 54 = .ok (.ifCond .ne 17, 3) := by decide +kernel
theorem dX8_isKept_57 : decode cX8_isKept 57 = .ok (.aload_n 0, 1) := by decide +kernel
theorem dX8_isKept_58 : decode cX8_isKept 58 = .ok (.getfield 38, 3) := by decide +kernel
theorem dX8_isKept_61 : decode cX8_isKept 61 = .ok (.iload_n 3, 1) := by decide +kernel
theorem dX8_isKept_62 : decode cX8_isKept 62 = .ok (.iaload, 1) := by decide +kernel
theorem dX8_isKept_63 : decode cX8_isKept 63 = .ok (.iload_n 1, 1) := by decide +kernel
theorem dX8_isKept_64 : decode cX8_isKept 64 = .ok (.if_icmp .ge 7, 3) := by decide +kernel
theorem dX8_isKept_67 : decode cX8_isKept 67 = .ok (.iconst 1, 1) := by decide +kernel
theorem dX8_isKept_68 : decode cX8_isKept 68 = .ok (.goto 4, 3) := by decide +kernel
theorem dX8_isKept_71 : decode cX8_isKept 71 = .ok (.iconst 0, 1) := by decide +kernel
theorem dX8_isKept_72 : decode cX8_isKept 72 = .ok (.istore_n 2, 1) := by decide +kernel
theorem dX8_isKept_73 : decode cX8_isKept 73 = .ok (.iinc 3 1, 3) := by decide +kernel
theorem dX8_isKept_76 : decode cX8_isKept 76 = .ok (.goto (-50), 3) := by decide +kernel
theorem dX8_isKept_79 : decode cX8_isKept 79 = .ok (.iload_n 2, 1) := by decide +kernel
theorem dX8_isKept_80 : decode cX8_isKept 80 = .ok (.ireturn, 1) := by decide +kernel
set_option maxRecDepth 20000 in
theorem ggX8_told_X8_in : GoodIn wsX8_told wsX8_in := goodIn_r _ [10] (by decide +kernel) (by decide +kernel)
set_option maxRecDepth 20000 in
theorem gX8_told_X8_in : GoodIn wsX8_told (va_wsS RX8 63 yX8_in wsX8_in) := goodIn_app (goodIn_of _ (by decide +kernel)) ggX8_told_X8_in
set_option maxRecDepth 20000 in
theorem ggX8_told_X8_waits : GoodIn wsX8_told wsX8_waits := goodIn_r _ [14, 3, 15, 2, 4, 16, 6, 17, 18, 19, 20, 9, 21, 22, 23, 24, 25, 26, 27, 28, 29, 30, 31, 32, 33, 34, 35, 36, 37, 38, 39, 40, 41, 42, 43] (by decide +kernel) (by decide +kernel)
set_option maxRecDepth 20000 in
theorem gX8_told_X8_waits : GoodIn wsX8_told (wsV RX8 92 RX8 yX8_waits wsX8_waits) := goodIn_app (goodIn_of _ (by decide +kernel)) ggX8_told_X8_waits
theorem dX8_told_0 : decode cX8_told 0 = .ok (.iload_n 1, 1) := by decide +kernel
theorem dX8_told_1 : decode cX8_told 1 = .ok (.iconst 0, 1) := by decide +kernel
theorem dX8_told_2 : decode cX8_told 2 = .ok (.aload_n 0, 1) := by decide +kernel
theorem dX8_told_3 : decode cX8_told 3 = .ok (.getfield 67, 3) := by decide +kernel
theorem dX8_told_6 : decode cX8_told 6 = .ok (.iconst 1, 1) := by decide +kernel
theorem dX8_told_7 : decode cX8_told 7 = .ok (.isub, 1) := by decide +kernel
theorem dX8_told_8 : decode cX8_told 8 = .ok (.invokestatic 63, 3) := by decide +kernel
theorem dX8_told_11 : decode cX8_told 11 = .ok (.ifCond .eq 12, 3) := by decide +kernel
theorem dX8_told_14 : decode cX8_told 14 = .ok (.iload_n 2, 1) := by decide +kernel
theorem dX8_told_15 : decode cX8_told 15 = .ok (.iconst 0, 1) := by decide +kernel
theorem dX8_told_16 : decode cX8_told 16 = .ok (.iconst 5, 1) := by decide +kernel
theorem dX8_told_17 : decode cX8_told 17 = .ok (.invokestatic 63, 3) := by decide +kernel
theorem dX8_told_20 : decode cX8_told 20 = .ok (.ifCond .ne 5, 3) := by decide +kernel
theorem dX8_told_23 : decode cX8_told 23 = .ok (.iconst (-1), 1) := by decide +kernel
theorem dX8_told_24 : decode cX8_told 24 = .ok (.ireturn, 1) := by decide +kernel
theorem dX8_told_25 : decode cX8_told 25 = .ok (.iload_n 2, 1) := by decide +kernel
theorem dX8_told_26 : decode cX8_told 26 = .ok (.tableswitch 93 0 4 #[34, 41, 48, 55, 62], 34) := by decide +kernel
theorem dX8_told_60 : decode cX8_told 60 = .ok (.aload_n 0, 1) := by decide +kernel
theorem dX8_told_61 : decode cX8_told 61 = .ok (.getfield 17, 3) := by decide +kernel
theorem dX8_told_64 : decode cX8_told 64 = .ok (.iload_n 1, 1) := by decide +kernel
theorem dX8_told_65 : decode cX8_told 65 = .ok (.iaload, 1) := by decide +kernel
theorem dX8_told_66 : decode cX8_told 66 = .ok (.ireturn, 1) := by decide +kernel
theorem dX8_told_67 : decode cX8_told 67 = .ok (.aload_n 0, 1) := by decide +kernel
theorem dX8_told_68 : decode cX8_told 68 = .ok (.getfield 41, 3) := by decide +kernel
theorem dX8_told_71 : decode cX8_told 71 = .ok (.iload_n 1, 1) := by decide +kernel
theorem dX8_told_72 : decode cX8_told 72 = .ok (.iaload, 1) := by decide +kernel
theorem dX8_told_73 : decode cX8_told 73 = .ok (.ireturn, 1) := by decide +kernel
theorem dX8_told_74 : decode cX8_told 74 = .ok (.aload_n 0, 1) := by decide +kernel
theorem dX8_told_75 : decode cX8_told 75 = .ok (.getfield 32, 3) := by decide +kernel
theorem dX8_told_78 : decode cX8_told 78 = .ok (.iload_n 1, 1) := by decide +kernel
theorem dX8_told_79 : decode cX8_told 79 = .ok (.iaload, 1) := by decide +kernel
theorem dX8_told_80 : decode cX8_told 80 = .ok (.ireturn, 1) := by decide +kernel
theorem dX8_told_81 : decode cX8_told 81 = .ok (.aload_n 0, 1) := by decide +kernel
theorem dX8_told_82 : decode cX8_told 82 = .ok (.getfield 35, 3) := by decide +kernel
theorem dX8_told_85 : decode cX8_told 85 = .ok (.iload_n 1, 1) := by decide +kernel
theorem dX8_told_86 : decode cX8_told 86 = .ok (.iaload, 1) := by decide +kernel
theorem dX8_told_87 : decode cX8_told 87 = .ok (.ireturn, 1) := by decide +kernel
theorem dX8_told_88 : decode cX8_told 88 = .ok (.aload_n 0, 1) := by decide +kernel
theorem dX8_told_89 : decode cX8_told 89 = .ok (.getfield 17, 3) := by decide +kernel
theorem dX8_told_92 : decode cX8_told 92 = .ok (.iload_n 1, 1) := by decide +kernel
theorem dX8_told_93 : decode cX8_told 93 = .ok (.iaload, 1) := by decide +kernel
theorem dX8_told_94 : decode cX8_told 94 = .ok (.iconst 2, 1) := by decide +kernel
theorem dX8_told_95 : decode cX8_told 95 = .ok (.if_icmp .ne 17, 3) := by decide +kernel
theorem dX8_told_98 : decode cX8_told 98 = .ok (.aload_n 0, 1) := by decide +kernel
theorem dX8_told_99 : decode cX8_told 99 = .ok (.getfield 41, 3) := by decide +kernel
theorem dX8_told_102 : decode cX8_told 102 = .ok (.iload_n 1, 1) := by decide +kernel
theorem dX8_told_103 : decode cX8_told 103 = .ok (.iaload, 1) := by decide +kernel
theorem dX8_told_104 : decode cX8_told 104 = .ok (.iconst 2, 1) := by decide +kernel
theorem dX8_told_105 : decode cX8_told 105 = .ok (.if_icmp .eq 7, 3) := by decide +kernel
theorem dX8_told_108 : decode cX8_told 108 = .ok (.iconst (-1), 1) := by decide +kernel
theorem dX8_told_109 : decode cX8_told 109 = .ok (.goto 9, 3) := by decide +kernel
theorem dX8_told_112 : decode cX8_told 112 = .ok (.aload_n 0, 1) := by decide +kernel
theorem dX8_told_113 : decode cX8_told 113 = .ok (.getfield 38, 3) := by decide +kernel
theorem dX8_told_116 : decode cX8_told 116 = .ok (.iload_n 1, 1) := by decide +kernel
theorem dX8_told_117 : decode cX8_told 117 = .ok (.iaload, 1) := by decide +kernel
theorem dX8_told_118 : decode cX8_told 118 = .ok (.ireturn, 1) := by decide +kernel
theorem dX8_told_119 : decode cX8_told 119 = .ok (.aload_n 0, 1) := by decide +kernel
theorem dX8_told_120 : decode cX8_told 120 = .ok (.iload_n 1, 1) := by decide +kernel
theorem dX8_told_121 : decode cX8_told 121 = .ok (.invokevirtual 92, 3) := by decide +kernel
theorem dX8_told_124 : decode cX8_told 124 = .ok (.ifCond .eq 7, 3) := by decide +kernel
theorem dX8_told_127 : decode cX8_told 127 = .ok (.iconst 1, 1) := by decide +kernel
theorem dX8_told_128 : decode cX8_told 128 = .ok (.goto 4, 3) := by decide +kernel
theorem dX8_told_131 : decode cX8_told 131 = .ok (.iconst 0, 1) := by decide +kernel
theorem dX8_told_132 : decode cX8_told 132 = .ok (.ireturn, 1) := by decide +kernel
set_option maxRecDepth 20000 in
theorem ggX8_ended_X8_in : GoodIn wsX8_ended wsX8_in := goodIn_r _ [8] (by decide +kernel) (by decide +kernel)
set_option maxRecDepth 20000 in
theorem gX8_ended_X8_in : GoodIn wsX8_ended (va_wsS RX8 63 yX8_in wsX8_in) := goodIn_app (goodIn_of _ (by decide +kernel)) ggX8_ended_X8_in
theorem dX8_ended_0 : decode cX8_ended 0 = .ok (.iload_n 2, 1) := by decide +kernel
theorem dX8_ended_1 : decode cX8_ended 1 = .ok (.iconst 0, 1) := by decide +kernel
theorem dX8_ended_2 : decode cX8_ended 2 = .ok (.iconst 2, 1) := by decide +kernel
theorem dX8_ended_3 : decode cX8_ended 3 = .ok (.invokestatic 63, 3) := by decide +kernel
theorem dX8_ended_6 : decode cX8_ended 6 = .ok (.ifCond .ne 5, 3) := by decide +kernel
theorem dX8_ended_9 : decode cX8_ended 9 = .ok (.iconst (-1), 1) := by decide +kernel
theorem dX8_ended_10 : decode cX8_ended 10 = .ok (.ireturn, 1) := by decide +kernel
theorem dX8_ended_11 : decode cX8_ended 11 = .ok (.iload_n 1, 1) := by decide +kernel
theorem dX8_ended_12 : decode cX8_ended 12 = .ok (.iconst 0, 1) := by decide +kernel
theorem dX8_ended_13 : decode cX8_ended 13 = .ok (.aload_n 0, 1) := by decide +kernel
theorem dX8_ended_14 : decode cX8_ended 14 = .ok (.getfield 82, 3) := by decide +kernel
theorem dX8_ended_17 : decode cX8_ended 17 = .ok (.iconst 1, 1) := by decide +kernel
theorem dX8_ended_18 : decode cX8_ended 18 = .ok (.isub, 1) := by decide +kernel
theorem dX8_ended_19 : decode cX8_ended 19 = .ok (.invokestatic 63, 3) := by decide +kernel
theorem dX8_ended_22 : decode cX8_ended 22 = .ok (.ifCond .ne 6, 3) := by decide +kernel
theorem dX8_ended_25 : decode cX8_ended 25 = .ok (.bipush (-2), 2) := by decide +kernel
theorem dX8_ended_27 : decode cX8_ended 27 = .ok (.ireturn, 1) := by decide +kernel
theorem dX8_ended_28 : decode cX8_ended 28 = .ok (.iload_n 2, 1) := by decide +kernel
theorem dX8_ended_29 : decode cX8_ended 29 = .ok (.ifCond .ne 12, 3) := by decide +kernel
theorem dX8_ended_32 : decode cX8_ended 32 = .ok (.aload_n 0, 1) := by decide +kernel
theorem dX8_ended_33 : decode cX8_ended 33 = .ok (.getfield 54, 3) := by decide +kernel
theorem dX8_ended_36 : decode cX8_ended 36 = .ok (.iload_n 1, 1) := by decide +kernel
theorem dX8_ended_37 : decode cX8_ended 37 = .ok (.iaload, 1) := by decide +kernel
theorem dX8_ended_38 : decode cX8_ended 38 = .ok (.goto 23, 3) := by decide +kernel
theorem dX8_ended_41 : decode cX8_ended 41 = .ok (.iload_n 2, 1) := by decide +kernel
theorem dX8_ended_42 : decode cX8_ended 42 = .ok (.iconst 1, 1) := by decide +kernel
theorem dX8_ended_43 : decode cX8_ended 43 = .ok (.if_icmp .ne 12, 3) := by decide +kernel
theorem dX8_ended_46 : decode cX8_ended 46 = .ok (.aload_n 0, 1) := by decide +kernel
theorem dX8_ended_47 : decode cX8_ended 47 = .ok (.getfield 57, 3) := by decide +kernel
theorem dX8_ended_50 : decode cX8_ended 50 = .ok (.iload_n 1, 1) := by decide +kernel
theorem dX8_ended_51 : decode cX8_ended 51 = .ok (.iaload, 1) := by decide +kernel
theorem dX8_ended_52 : decode cX8_ended 52 = .ok (.goto 9, 3) := by decide +kernel
theorem dX8_ended_55 : decode cX8_ended 55 = .ok (.aload_n 0, 1) := by decide +kernel
theorem dX8_ended_56 : decode cX8_ended 56 = .ok (.getfield 60, 3) := by decide +kernel
theorem dX8_ended_59 : decode cX8_ended 59 = .ok (.iload_n 1, 1) := by decide +kernel
theorem dX8_ended_60 : decode cX8_ended 60 = .ok (.iaload, 1) := by decide +kernel
theorem dX8_ended_61 : decode cX8_ended 61 = .ok (.ireturn, 1) := by decide +kernel
set_option maxRecDepth 20000 in
theorem ggX8_cell_X8_in : GoodIn wsX8_cell wsX8_in := goodIn_r _ [6] (by decide +kernel) (by decide +kernel)
set_option maxRecDepth 20000 in
theorem gX8_cell_X8_in : GoodIn wsX8_cell (va_wsS RX8 63 yX8_in wsX8_in) := goodIn_app (goodIn_of _ (by decide +kernel)) ggX8_cell_X8_in
set_option maxRecDepth 20000 in
theorem ggX8_cell_X8_isKept : GoodIn wsX8_cell wsX8_isKept := goodIn_r _ [10, 1, 11, 12, 13, 14, 15, 16, 17, 5, 18, 19, 20, 21, 22, 23, 24, 25, 26, 27, 28, 29, 30, 31, 32, 33, 34, 35, 36, 37, 38, 39, 40, 41, 42, 43, 44] (by decide +kernel) (by decide +kernel)
set_option maxRecDepth 20000 in
theorem gX8_cell_X8_isKept : GoodIn wsX8_cell (wsV RX8 118 RX8 yX8_isKept wsX8_isKept) := goodIn_app (goodIn_of _ (by decide +kernel)) ggX8_cell_X8_isKept
theorem dX8_cell_0 : decode cX8_cell 0 = .ok (.iload_n 2, 1) := by decide +kernel
theorem dX8_cell_1 : decode cX8_cell 1 = .ok (.iconst 0, 1) := by decide +kernel
theorem dX8_cell_2 : decode cX8_cell 2 = .ok (.bipush 15, 2) := by decide +kernel
theorem dX8_cell_4 : decode cX8_cell 4 = .ok (.invokestatic 63, 3) := by decide +kernel
theorem dX8_cell_7 : decode cX8_cell 7 = .ok (.ifCond .eq 17, 3) := by decide +kernel
theorem dX8_cell_10 : decode cX8_cell 10 = .ok (.iload_n 1, 1) := by decide +kernel
theorem dX8_cell_11 : decode cX8_cell 11 = .ok (.iconst 0, 1) := by decide +kernel
theorem dX8_cell_12 : decode cX8_cell 12 = .ok (.aload_n 0, 1) := by decide +kernel
theorem dX8_cell_13 : decode cX8_cell 13 = .ok (.getfield 13, 3) := by decide +kernel
theorem dX8_cell_16 : decode cX8_cell 16 = .ok (.iconst 1, 1) := by decide +kernel
theorem dX8_cell_17 : decode cX8_cell 17 = .ok (.isub, 1) := by decide +kernel
theorem dX8_cell_18 : decode cX8_cell 18 = .ok (.invokestatic 63, 3) := by decide +kernel
theorem dX8_cell_21 : decode cX8_cell 21 = .ok (.ifCond .ne 5, 3) := by decide +kernel
theorem dX8_cell_24 : decode cX8_cell 24 = .ok (.iconst (-1), 1) := by decide +kernel
theorem dX8_cell_25 : decode cX8_cell 25 = .ok (.ireturn, 1) := by decide +kernel
theorem dX8_cell_26 : decode cX8_cell 26 = .ok (.aload_n 0, 1) := by decide +kernel
theorem dX8_cell_27 : decode cX8_cell 27 = .ok (.iload_n 1, 1) := by decide +kernel
theorem dX8_cell_28 : decode cX8_cell 28 = .ok (.invokevirtual 118, 3) := by decide +kernel
theorem dX8_cell_31 : decode cX8_cell 31 = .ok (.ifCond .eq 17, 3) := by decide +kernel
theorem dX8_cell_34 : decode cX8_cell 34 = .ok (.aload_n 0, 1) := by decide +kernel
theorem dX8_cell_35 : decode cX8_cell 35 = .ok (.getfield 7, 3) := by decide +kernel
theorem dX8_cell_38 : decode cX8_cell 38 = .ok (.bipush 16, 2) := by decide +kernel
theorem dX8_cell_40 : decode cX8_cell 40 = .ok (.iload_n 1, 1) := by decide +kernel
theorem dX8_cell_41 : decode cX8_cell 41 = .ok (.imul, 1) := by decide +kernel
theorem dX8_cell_42 : decode cX8_cell 42 = .ok (.iload_n 2, 1) := by decide +kernel
theorem dX8_cell_43 : decode cX8_cell 43 = .ok (.iadd, 1) := by decide +kernel
theorem dX8_cell_44 : decode cX8_cell 44 = .ok (.iaload, 1) := by decide +kernel
theorem dX8_cell_45 : decode cX8_cell 45 = .ok (.goto 5, 3) := by decide +kernel
theorem dX8_cell_48 : decode cX8_cell 48 = .ok (.bipush (-2), 2) := by decide +kernel
theorem dX8_cell_50 : decode cX8_cell 50 = .ok (.ireturn, 1) := by decide +kernel
set_option maxRecDepth 20000 in
theorem ggX8_count_X8_isKept : GoodIn wsX8_count wsX8_isKept := goodIn_r _ [10, 1, 4, 11, 5, 12, 13, 14, 15, 9, 16, 17, 18, 19, 20, 21, 22, 23, 24, 25, 26, 27, 28, 29, 30, 31, 32, 33, 34, 35, 36, 37, 38, 39, 40, 41, 42] (by decide +kernel) (by decide +kernel)
set_option maxRecDepth 20000 in
theorem gX8_count_X8_isKept : GoodIn wsX8_count (wsV RX8 118 RX8 yX8_isKept wsX8_isKept) := goodIn_app (goodIn_of _ (by decide +kernel)) ggX8_count_X8_isKept
set_option maxRecDepth 20000 in
theorem ggX8_count_X8_isPinned : GoodIn wsX8_count wsX8_isPinned := goodIn_r _ [16, 4, 17, 18, 19, 9, 20, 5, 11, 12, 21, 22, 23, 24, 25, 26, 27, 28, 29, 30, 31, 32, 33, 34, 35, 36, 37, 38, 39, 40, 41, 42] (by decide +kernel) (by decide +kernel)
set_option maxRecDepth 20000 in
theorem gX8_count_X8_isPinned : GoodIn wsX8_count (wsV RX8 115 RX8 yX8_isPinned wsX8_isPinned) := goodIn_app (goodIn_of _ (by decide +kernel)) ggX8_count_X8_isPinned
theorem dX8_count_0 : decode cX8_count 0 = .ok (.iconst 0, 1) := by decide +kernel
theorem dX8_count_1 : decode cX8_count 1 = .ok (.istore_n 2, 1) := by decide +kernel
theorem dX8_count_2 : decode cX8_count 2 = .ok (.iload_n 1, 1) := by decide +kernel
theorem dX8_count_3 : decode cX8_count 3 = .ok (.tableswitch 155 0 5 #[37, 42, 76, 110, 115, 120], 37) := by decide +kernel
theorem dX8_count_40 : decode cX8_count 40 = .ok (.aload_n 0, 1) := by decide +kernel
theorem dX8_count_41 : decode cX8_count 41 = .ok (.getfield 13, 3) := by decide +kernel
theorem dX8_count_44 : decode cX8_count 44 = .ok (.ireturn, 1) := by decide +kernel
theorem dX8_count_45 : decode cX8_count 45 = .ok (.iconst 0, 1) := by decide +kernel
theorem dX8_count_46 : decode cX8_count 46 = .ok (.istore_n 3, 1) := by decide +kernel
theorem dX8_count_47 : decode cX8_count 47 = .ok (.iload_n 3, 1) := by decide +kernel
theorem dX8_count_48 : decode cX8_count 48 = .ok (.aload_n 0, 1) := by decide +kernel
theorem dX8_count_49 : decode cX8_count 49 = .ok (.getfield 13, 3) := by decide +kernel
theorem dX8_count_52 : decode cX8_count 52 = .ok (.if_icmp .ge 25, 3) := by decide +kernel
theorem dX8_count_55 : decode cX8_count 55 = .ok (.iload_n 2, 1) := by decide +kernel
theorem dX8_count_56 : decode cX8_count 56 = .ok (.aload_n 0, 1) := by decide +kernel
theorem dX8_count_57 : decode cX8_count 57 = .ok (.iload_n 3, 1) := by decide +kernel
theorem dX8_count_58 : decode cX8_count 58 = .ok (.invokevirtual 118, 3) := by decide +kernel
theorem dX8_count_61 : decode cX8_count 61 = .ok (.ifCond .eq 7, 3) := by decide +kernel
theorem dX8_count_64 : decode cX8_count 64 = .ok (.iconst 1, 1) := by decide +kernel
theorem dX8_count_65 : decode cX8_count 65 = .ok (.goto 4, 3) := by decide +kernel
theorem dX8_count_68 : decode cX8_count 68 = .ok (.iconst 0, 1) := by decide +kernel
theorem dX8_count_69 : decode cX8_count 69 = .ok (.iadd, 1) := by decide +kernel
theorem dX8_count_70 : decode cX8_count 70 = .ok (.istore_n 2, 1) := by decide +kernel
theorem dX8_count_71 : decode cX8_count 71 = .ok (.iinc 3 1, 3) := by decide +kernel
theorem dX8_count_74 : decode cX8_count 74 = .ok (.goto (-27), 3) := by decide +kernel
theorem dX8_count_77 : decode cX8_count 77 = .ok (.iload_n 2, 1) := by decide +kernel
theorem dX8_count_78 : decode cX8_count 78 = .ok (.ireturn, 1) := by decide +kernel
theorem dX8_count_79 : decode cX8_count 79 = .ok (.iconst 0, 1) := by decide +kernel
theorem dX8_count_80 : decode cX8_count 80 = .ok (.istore_n 3, 1) := by decide +kernel
theorem dX8_count_81 : decode cX8_count 81 = .ok (.iload_n 3, 1) := by decide +kernel
theorem dX8_count_82 : decode cX8_count 82 = .ok (.aload_n 0, 1) := by decide +kernel
theorem dX8_count_83 : decode cX8_count 83 = .ok (.getfield 13, 3) := by decide +kernel
theorem dX8_count_86 : decode cX8_count 86 = .ok (.if_icmp .ge 25, 3) := by decide +kernel
theorem dX8_count_89 : decode cX8_count 89 = .ok (.iload_n 2, 1) := by decide +kernel
theorem dX8_count_90 : decode cX8_count 90 = .ok (.aload_n 0, 1) := by decide +kernel
theorem dX8_count_91 : decode cX8_count 91 = .ok (.iload_n 3, 1) := by decide +kernel
theorem dX8_count_92 : decode cX8_count 92 = .ok (.invokevirtual 115, 3) := by decide +kernel
theorem dX8_count_95 : decode cX8_count 95 = .ok (.ifCond .eq 7, 3) := by decide +kernel
theorem dX8_count_98 : decode cX8_count 98 = .ok (.iconst 1, 1) := by decide +kernel
theorem dX8_count_99 : decode cX8_count 99 = .ok (.goto 4, 3) := by decide +kernel
theorem dX8_count_102 : decode cX8_count 102 = .ok (.iconst 0, 1) := by decide +kernel
theorem dX8_count_103 : decode cX8_count 103 = .ok (.iadd, 1) := by decide +kernel
theorem dX8_count_104 : decode cX8_count 104 = .ok (.istore_n 2, 1) := by decide +kernel
theorem dX8_count_105 : decode cX8_count 105 = .ok (.iinc 3 1, 3) := by decide +kernel
theorem dX8_count_108 : decode cX8_count 108 = .ok (.goto (-27), 3) := by decide +kernel
theorem dX8_count_111 : decode cX8_count 111 = .ok (.iload_n 2, 1) := by decide +kernel
theorem dX8_count_112 : decode cX8_count 112 = .ok (.ireturn, 1) := by decide +kernel
theorem dX8_count_113 : decode cX8_count 113 = .ok (.aload_n 0, 1) := by decide +kernel
theorem dX8_count_114 : decode cX8_count 114 = .ok (.getfield 85, 3) := by decide +kernel
theorem dX8_count_117 : decode cX8_count 117 = .ok (.ireturn, 1) := by decide +kernel
theorem dX8_count_118 : decode cX8_count 118 = .ok (.aload_n 0, 1) := by decide +kernel
theorem dX8_count_119 : decode cX8_count 119 = .ok (.getfield 95, 3) := by decide +kernel
theorem dX8_count_122 : decode cX8_count 122 = .ok (.ireturn, 1) := by decide +kernel
theorem dX8_count_123 : decode cX8_count 123 = .ok (.iconst 0, 1) := by decide +kernel
theorem dX8_count_124 : decode cX8_count 124 = .ok (.istore_n 3, 1) := by decide +kernel
theorem dX8_count_125 : decode cX8_count 125 = .ok (.iload_n 3, 1) := by decide +kernel
theorem dX8_count_126 : decode cX8_count 126 = .ok (.aload_n 0, 1) := by decide +kernel
theorem dX8_count_127 : decode cX8_count 127 = .ok (.getfield 67, 3) := by decide +kernel
theorem dX8_count_130 : decode cX8_count 130 = .ok (.if_icmp .ge 26, 3) := by decide +kernel
theorem dX8_count_133 : decode cX8_count 133 = .ok (.iload_n 2, 1) := by decide +kernel
theorem dX8_count_134 : decode cX8_count 134 = .ok (.aload_n 0, 1) := by decide +kernel
theorem dX8_count_135 : decode cX8_count 135 = .ok (.getfield 41, 3) := by decide +kernel
theorem dX8_count_138 : decode cX8_count 138 = .ok (.iload_n 3, 1) := by decide +kernel
theorem dX8_count_139 : decode cX8_count 139 = .ok (.iaload, 1) := by decide +kernel
theorem dX8_count_140 : decode cX8_count 140 = .ok (.ifCond .ne 7, 3) := by decide +kernel
theorem dX8_count_143 : decode cX8_count 143 = .ok (.iconst 1, 1) := by decide +kernel
theorem dX8_count_144 : decode cX8_count 144 = .ok (.goto 4, 3) := by decide +kernel
theorem dX8_count_147 : decode cX8_count 147 = .ok (.iconst 0, 1) := by decide +kernel
theorem dX8_count_148 : decode cX8_count 148 = .ok (.iadd, 1) := by decide +kernel
theorem dX8_count_149 : decode cX8_count 149 = .ok (.istore_n 2, 1) := by decide +kernel
theorem dX8_count_150 : decode cX8_count 150 = .ok (.iinc 3 1, 3) := by decide +kernel
theorem dX8_count_153 : decode cX8_count 153 = .ok (.goto (-28), 3) := by decide +kernel
theorem dX8_count_156 : decode cX8_count 156 = .ok (.iload_n 2, 1) := by decide +kernel
theorem dX8_count_157 : decode cX8_count 157 = .ok (.ireturn, 1) := by decide +kernel
theorem dX8_count_158 : decode cX8_count 158 = .ok (.iconst (-1), 1) := by decide +kernel
theorem dX8_count_159 : decode cX8_count 159 = .ok (.ireturn, 1) := by decide +kernel
theorem dJ9_max_7cf53_0 : decode cJ9_max_7cf53 0 = .ok (.iload_n 0, 1) := by decide +kernel
theorem dJ9_max_7cf53_1 : decode cJ9_max_7cf53 1 = .ok (.iload_n 1, 1) := by decide +kernel
theorem dJ9_max_7cf53_2 : decode cJ9_max_7cf53 2 = .ok (.if_icmp .lt 7, 3) := by decide +kernel
theorem dJ9_max_7cf53_5 : decode cJ9_max_7cf53 5 = .ok (.iload_n 0, 1) := by decide +kernel
theorem dJ9_max_7cf53_6 : decode cJ9_max_7cf53 6 = .ok (.goto 4, 3) := by decide +kernel
theorem dJ9_max_7cf53_9 : decode cJ9_max_7cf53 9 = .ok (.iload_n 1, 1) := by decide +kernel
theorem dJ9_max_7cf53_10 : decode cJ9_max_7cf53 10 = .ok (.ireturn, 1) := by decide +kernel
theorem dJ9_min_7cf53_0 : decode cJ9_min_7cf53 0 = .ok (.iload_n 0, 1) := by decide +kernel
theorem dJ9_min_7cf53_1 : decode cJ9_min_7cf53 1 = .ok (.iload_n 1, 1) := by decide +kernel
theorem dJ9_min_7cf53_2 : decode cJ9_min_7cf53 2 = .ok (.if_icmp .gt 7, 3) := by decide +kernel
theorem dJ9_min_7cf53_5 : decode cJ9_min_7cf53 5 = .ok (.iload_n 0, 1) := by decide +kernel
theorem dJ9_min_7cf53_6 : decode cJ9_min_7cf53 6 = .ok (.goto 4, 3) := by decide +kernel
theorem dJ9_min_7cf53_9 : decode cJ9_min_7cf53 9 = .ok (.iload_n 1, 1) := by decide +kernel
theorem dJ9_min_7cf53_10 : decode cJ9_min_7cf53 10 = .ok (.ireturn, 1) := by decide +kernel
theorem dJxa1e45_init_da8c8_0 : decode cJxa1e45_init_da8c8 0 = .ok (.aload_n 0, 1) := by decide +kernel
theorem dJxa1e45_init_da8c8_1 : decode cJxa1e45_init_da8c8 1 = .ok (.invokespecial 1, 3) := by decide +kernel
theorem dJxa1e45_init_da8c8_4 : decode cJxa1e45_init_da8c8 4 = .ok (.return_, 1) := by decide +kernel
set_option maxRecDepth 20000 in
theorem ggJxc12de_init_da8c8_Jxa1e45_init_da8c8 : GoodIn wsJxc12de_init_da8c8 wsJxa1e45_init_da8c8 := goodIn_r _ [5, 6, 7, 8] (by decide +kernel) (by decide +kernel)
set_option maxRecDepth 20000 in
theorem gJxc12de_init_da8c8_Jxa1e45_init_da8c8 : GoodIn wsJxc12de_init_da8c8 (wsJxa1e45_init_da8c8) := ggJxc12de_init_da8c8_Jxa1e45_init_da8c8
theorem dJxc12de_init_da8c8_0 : decode cJxc12de_init_da8c8 0 = .ok (.aload_n 0, 1) := by decide +kernel
theorem dJxc12de_init_da8c8_1 : decode cJxc12de_init_da8c8 1 = .ok (.invokespecial 1, 3) := by decide +kernel
theorem dJxc12de_init_da8c8_4 : decode cJxc12de_init_da8c8 4 = .ok (.aload_n 0, 1) := by decide +kernel
theorem dJxc12de_init_da8c8_5 : decode cJxc12de_init_da8c8 5 = .ok (.iconst 0, 1) := by decide +kernel
theorem dJxc12de_init_da8c8_6 : decode cJxc12de_init_da8c8 6 = .ok (.putfield 7, 3) := by decide +kernel
