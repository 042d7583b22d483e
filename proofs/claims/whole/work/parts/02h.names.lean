theorem dX8_isNext_35 : decode cX8_isNext 35 = .ok (.iload_n 3, 1) := by decide +kernel
theorem dX8_isNext_36 : decode cX8_isNext 36 = .ok (.iaload, 1) := by decide +kernel
theorem dX8_isNext_37 : decode cX8_isNext 37 = .ok (.iconst 3, 1) := by decide +kernel
theorem dX8_isNext_38 : decode cX8_isNext 38 = .ok (.if_icmp .ne 7, 3) := by decide +kernel
theorem dX8_isNext_41 : decode cX8_isNext 41 = .ok (.iconst 1, 1) := by decide +kernel
theorem dX8_isNext_42 : decode cX8_isNext 42 = .ok (.goto 4, 3) := by decide +kernel
theorem dX8_isNext_45 : decode cX8_isNext 45 = .ok (.iconst 0, 1) := by decide +kernel
theorem dX8_isNext_46 : decode cX8_isNext 46 = .ok (.istore_n 2, 1) := by decide +kernel
theorem dX8_isNext_47 : decode cX8_isNext 47 = .ok (.iinc 3 1, 3) := by decide +kernel
theorem dX8_isNext_50 : decode cX8_isNext 50 = .ok (.goto (-46), 3) := by decide +kernel
theorem dX8_isNext_53 : decode cX8_isNext 53 = .ok (.iload_n 2, 1) := by decide +kernel
theorem dX8_isNext_54 : decode cX8_isNext 54 = .ok (.ireturn, 1) := by decide +kernel
set_option maxRecDepth 20000 in
theorem ggX8_waits_X8_isNext : GoodIn wsX8_waits wsX8_isNext := goodIn_r _ [12, 1, 3, 13, 14, 15, 16, 17, 18, 19, 20, 21, 22, 23, 24, 25, 26, 27, 28, 29, 30, 31, 32, 33, 34] (by decide +kernel) (by decide +kernel)
set_option maxRecDepth 20000 in
theorem gX8_waits_X8_isNext : GoodIn wsX8_waits (wsV RX8 78 RX8 yX8_isNext wsX8_isNext) := goodIn_app (goodIn_of _ (by decide +kernel)) ggX8_waits_X8_isNext
theorem dX8_waits_0 : decode cX8_waits 0 = .ok (.aload_n 0, 1) := by decide +kernel
theorem dX8_waits_1 : decode cX8_waits 1 = .ok (.getfield 41, 3) := by decide +kernel
theorem dX8_waits_4 : decode cX8_waits 4 = .ok (.iload_n 1, 1) := by decide +kernel
theorem dX8_waits_5 : decode cX8_waits 5 = .ok (.iaload, 1) := by decide +kernel
theorem dX8_waits_6 : decode cX8_waits 6 = .ok (.ifCond .le 5, 3) := by decide +kernel
theorem dX8_waits_9 : decode cX8_waits 9 = .ok (.iconst 1, 1) := by decide +kernel
theorem dX8_waits_10 : decode cX8_waits 10 = .ok (.ireturn, 1) := by decide +kernel
theorem dX8_waits_11 : decode cX8_waits 11 = .ok (.aload_n 0, 1) := by decide +kernel
theorem dX8_waits_12 : decode cX8_waits 12 = .ok (.getfield 44, 3) := by decide +kernel
theorem dX8_waits_15 : decode cX8_waits 15 = .ok (.iload_n 1, 1) := by decide +kernel
theorem dX8_waits_16 : decode cX8_waits 16 = .ok (.baload, 1) := by decide +kernel
theorem dX8_waits_17 : decode cX8_waits 17 = .ok (.ifCond .eq 5, 3) := by decide +kernel
theorem dX8_waits_20 : decode cX8_waits 20 = .ok (.iconst 0, 1) := by decide +kernel
theorem dX8_waits_21 : decode cX8_waits 21 = .ok (.ireturn, 1) := by decide +kernel
theorem dX8_waits_22 : decode cX8_waits 22 = .ok (.aload_n 0, 1) := by decide +kernel
theorem dX8_waits_23 : decode cX8_waits 23 = .ok (.getfield 17, 3) := by decide +kernel
theorem dX8_waits_26 : decode cX8_waits 26 = .ok (.iload_n 1, 1) := by decide +kernel
theorem dX8_waits_27 : decode cX8_waits 27 = .ok (.iaload, 1) := by decide +kernel
theorem dX8_waits_28 : decode cX8_waits 28 = .ok (.tableswitch 101 1 3 #[28, 57, 80], 28) := by decide +kernel
theorem dX8_waits_56 : decode cX8_waits 56 = .ok (.aload_n 0, 1) := by decide +kernel
theorem dX8_waits_57 : decode cX8_waits 57 = .ok (.getfield 32, 3) := by decide +kernel
theorem dX8_waits_60 : decode cX8_waits 60 = .ok (.iload_n 1, 1) := by decide +kernel
theorem dX8_waits_61 : decode cX8_waits 61 = .ok (.iaload, 1) := by decide +kernel
theorem dX8_waits_62 : decode cX8_waits 62 = .ok (.aload_n 0, 1) := by decide +kernel
theorem dX8_waits_63 : decode cX8_waits 63 = .ok (.getfield 20, 3) := by decide +kernel
theorem dX8_waits_66 : decode cX8_waits 66 = .ok (.iload_n 1, 1) := by decide +kernel
theorem dX8_waits_67 : decode cX8_waits 67 = .ok (.iaload, 1) := by decide +kernel
theorem dX8_waits_68 : decode cX8_waits 68 = .ok (.if_icmp .ne 15, 3) := by decide +kernel
theorem dX8_waits_71 : decode cX8_waits 71 = .ok (.aload_n 0, 1) := by decide +kernel
theorem dX8_waits_72 : decode cX8_waits 72 = .ok (.iload_n 1, 1) := by decide +kernel
theorem dX8_waits_73 : decode cX8_waits 73 = .ok (.invokevirtual 78, 3) := by decide +kernel
theorem dX8_waits_76 : decode cX8_waits 76 = .ok (.ifCond .ne 7, 3) := by decide +kernel
theorem dX8_waits_79 : decode cX8_waits 79 = .ok (.iconst 1, 1) := by decide +kernel
theorem dX8_waits_80 : decode cX8_waits 80 = .ok (.goto 4, 3) := by decide +kernel
theorem dX8_waits_83 : decode cX8_waits 83 = .ok (.iconst 0, 1) := by decide +kernel
theorem dX8_waits_84 : decode cX8_waits 84 = .ok (.ireturn, 1) := by decide +kernel
theorem dX8_waits_85 : decode cX8_waits 85 = .ok (.aload_n 0, 1) := by decide +kernel
theorem dX8_waits_86 : decode cX8_waits 86 = .ok (.getfield 32, 3) := by decide +kernel
theorem dX8_waits_89 : decode cX8_waits 89 = .ok (.iload_n 1, 1) := by decide +kernel
theorem dX8_waits_90 : decode cX8_waits 90 = .ok (.iaload, 1) := by decide +kernel
theorem dX8_waits_91 : decode cX8_waits 91 = .ok (.ifCond .ne 15, 3) := by decide +kernel
theorem dX8_waits_94 : decode cX8_waits 94 = .ok (.aload_n 0, 1) := by decide +kernel
theorem dX8_waits_95 : decode cX8_waits 95 = .ok (.iload_n 1, 1) := by decide +kernel
theorem dX8_waits_96 : decode cX8_waits 96 = .ok (.invokevirtual 78, 3) := by decide +kernel
theorem dX8_waits_99 : decode cX8_waits 99 = .ok (.ifCond .ne 7, 3) := by decide +kernel
theorem dX8_waits_102 : decode cX8_waits 102 = .ok (.iconst 1, 1) := by decide +kernel
theorem dX8_waits_103 : decode cX8_waits 103 = .ok (.goto 4, 3) := by decide +kernel
theorem dX8_waits_106 : decode cX8_waits 106 = .ok (.iconst 0, 1) := by decide +kernel
theorem dX8_waits_107 : decode cX8_waits 107 = .ok (.ireturn, 1) := by decide +kernel
theorem dX8_waits_108 : decode cX8_waits 108 = .ok (.aload_n 0, 1) := by decide +kernel
theorem dX8_waits_109 : decode cX8_waits 109 = .ok (.getfield 38, 3) := by decide +kernel
theorem dX8_waits_112 : decode cX8_waits 112 = .ok (.iload_n 1, 1) := by decide +kernel
theorem dX8_waits_113 : decode cX8_waits 113 = .ok (.iaload, 1) := by decide +kernel
theorem dX8_waits_114 : decode cX8_waits 114 = .ok (.aload_n 0, 1) := by decide +kernel
theorem dX8_waits_115 : decode cX8_waits 115 = .ok (.getfield 13, 3) := by decide +kernel
theorem dX8_waits_118 : decode cX8_waits 118 = .ok (.iconst 1, 1) := by decide +kernel
theorem dX8_waits_119 : decode cX8_waits 119 = .ok (.isub, 1) := by decide +kernel
theorem dX8_waits_120 : decode cX8_waits 120 = .ok (.if_icmp .ne 7, 3) := by decide +kernel
theorem dX8_waits_123 : decode cX8_waits 123 = .ok (.iconst 1, 1) := by decide +kernel
theorem dX8_waits_124 : decode cX8_waits 124 = .ok (.goto 4, 3) := by decide +kernel
theorem dX8_waits_127 : decode cX8_waits 127 = .ok (.iconst 0, 1) := by decide +kernel
theorem dX8_waits_128 : decode cX8_waits 128 = .ok (.ireturn, 1) := by decide +kernel
theorem dX8_waits_129 : decode cX8_waits 129 = .ok (.iconst 0, 1) := by decide +kernel
theorem dX8_waits_130 : decode cX8_waits 130 = .ok (.ireturn, 1) := by decide +kernel
theorem dX8_finish_0 : decode cX8_finish 0 = .ok (.aload_n 0, 1) := by decide +kernel
theorem dX8_finish_1 : decode cX8_finish 1 = .ok (.getfield 41, 3) := by decide +kernel
theorem dX8_finish_4 : decode cX8_finish 4 = .ok (.iload_n 1, 1) := by decide +kernel
theorem dX8_finish_5 : decode cX8_finish 5 = .ok (.iload_n 2, 1) := by decide +kernel
theorem dX8_finish_6 : decode cX8_finish 6 = .ok (.iastore, 1) := by decide +kernel
theorem dX8_finish_7 : decode cX8_finish 7 = .ok (.aload_n 0, 1) := by decide +kernel
theorem dX8_finish_8 : decode cX8_finish 8 = .ok (.getfield 54, 3) := by decide +kernel
theorem dX8_finish_11 : decode cX8_finish 11 = .ok (.aload_n 0, 1) := by decide +kernel
theorem dX8_finish_12 : decode cX8_finish 12 = .ok (.getfield 82, 3) := by decide +kernel
theorem dX8_finish_15 : decode cX8_finish 15 = .ok (.iload_n 1, 1) := by decide +kernel
theorem dX8_finish_16 : decode cX8_finish 16 = .ok (.iastore, 1) := by decide +kernel
theorem dX8_finish_17 : decode cX8_finish 17 = .ok (.aload_n 0, 1) := by decide +kernel
theorem dX8_finish_18 : decode cX8_finish 18 = .ok (.getfield 57, 3) := by decide +kernel
theorem dX8_finish_21 : decode cX8_finish 21 = .ok (.aload_n 0, 1) := by decide +kernel
theorem dX8_finish_22 : decode cX8_finish 22 = .ok (.getfield 82, 3) := by decide +kernel
theorem dX8_finish_25 : decode cX8_finish 25 = .ok (.iload_n 2, 1) := by decide +kernel
theorem dX8_finish_26 : decode cX8_finish 26 = .ok (.iastore, 1) := by decide +kernel
theorem dX8_finish_27 : decode cX8_finish 27 = .ok (.aload_n 0, 1) := by decide +kernel
theorem dX8_finish_28 : decode cX8_finish 28 = .ok (.getfield 60, 3) := by decide +kernel
theorem dX8_finish_31 : decode cX8_finish 31 = .ok (.aload_n 0, 1) := by decide +kernel
theorem dX8_finish_32 : decode cX8_finish 32 = .ok (.getfield 82, 3) := by decide +kernel
theorem dX8_finish_35 : decode cX8_finish 35 = .ok (.aload_n 0, 1) := by decide +kernel
theorem dX8_finish_36 : decode cX8_finish 36 = .ok (.getfield 85, 3) := by decide +kernel
theorem dX8_finish_39 : decode cX8_finish 39 = .ok (.iastore, 1) := by decide +kernel
theorem dX8_finish_40 : decode cX8_finish 40 = .ok (.aload_n 0, 1) := by decide +kernel
theorem dX8_finish_41 : decode cX8_finish 41 = .ok (.dup, 1) := by decide +kernel
theorem dX8_finish_42 : decode cX8_finish 42 = .ok (.getfield 82, 3) := by decide +kernel
theorem dX8_finish_45 : decode cX8_finish 45 = .ok (.iconst 1, 1) := by decide +kernel
theorem dX8_finish_46 : decode cX8_finish 46 = .ok (.iadd, 1) := by decide +kernel
theorem dX8_finish_47 : decode cX8_finish 47 = .ok (.putfield 82, 3) := by decide +kernel
theorem dX8_finish_50 : decode cX8_finish 50 = .ok (.return_, 1) := by decide +kernel
theorem dX8_commit_0 : decode cX8_commit 0 = .ok (.bipush 16, 2) := by decide +kernel
theorem dX8_commit_2 : decode cX8_commit 2 = .ok (.aload_n 0, 1) := by decide +kernel
theorem dX8_commit_3 : decode cX8_commit 3 = .ok (.getfield 13, 3) := by decide +kernel
theorem dX8_commit_6 : decode cX8_commit 6 = .ok (.imul, 1) := by decide +kernel
theorem dX8_commit_7 : decode cX8_commit 7 = .ok (.istore_n 2, 1) := by decide +kernel
theorem dX8_commit_8 : decode cX8_commit 8 = .ok (.iconst 0, 1) := by decide +kernel
theorem dX8_commit_9 : decode cX8_commit 9 = .ok (.istore_n 3, 1) := by decide +kernel
theorem dX8_commit_10 : decode cX8_commit 10 = .ok (.iload_n 3, 1) := by decide +kernel
theorem dX8_commit_11 : decode cX8_commit 11 = .ok (.bipush 16, 2) := by decide +kernel
theorem dX8_commit_13 : decode cX8_commit 13 = .ok (.if_icmp .ge 54, 3) := by decide +kernel
theorem dX8_commit_16 : decode cX8_commit 16 = .ok (.aload_n 0, 1) := by decide +kernel
theorem dX8_commit_17 : decode cX8_commit 17 = .ok (.getfield 7, 3) := by decide +kernel
theorem dX8_commit_20 : decode cX8_commit 20 = .ok (.iload_n 2, 1) := by decide +kernel
theorem dX8_commit_21 : decode cX8_commit 21 = .ok (.iload_n 3, 1) := by decide +kernel
theorem dX8_commit_22 : decode cX8_commit 22 = .ok (.iadd, 1) := by decide +kernel
theorem dX8_commit_23 : decode cX8_commit 23 = .ok (.aload_n 0, 1) := by decide +kernel
theorem dX8_commit_24 : decode cX8_commit 24 = .ok (.getfield 17, 3) := by decide +kernel
theorem dX8_commit_27 : decode cX8_commit 27 = .ok (.iload_n 1, 1) := by decide +kernel
theorem dX8_commit_28 : decode cX8_commit 28 = .ok (.iaload, 1) := by decide +kernel
theorem dX8_commit_29 : decode cX8_commit 29 = .ok (.iconst 1, 1) := by decide +kernel
theorem dX8_commit_30 : decode cX8_commit 30 = .ok (.if_icmp .ne 17, 3) := by decide +kernel
theorem dX8_commit_33 : decode cX8_commit 33 = .ok (.aload_n 0, 1) := by decide +kernel
theorem dX8_commit_34 : decode cX8_commit 34 = .ok (.getfield 7, 3) := by decide +kernel
theorem dX8_commit_37 : decode cX8_commit 37 = .ok (.iload_n 2, 1) := by decide +kernel
theorem dX8_commit_38 : decode cX8_commit 38 = .ok (.bipush 16, 2) := by decide +kernel
theorem dX8_commit_40 : decode cX8_commit 40 = .ok (.isub, 1) := by decide +kernel
theorem dX8_commit_41 : decode cX8_commit 41 = .ok (.iload_n 3, 1) := by decide +kernel
theorem dX8_commit_42 : decode cX8_commit 42 = .ok (.iadd, 1) := by decide +kernel
theorem dX8_commit_43 : decode cX8_commit 43 = .ok (.iaload, 1) := by decide +kernel
theorem dX8_commit_44 : decode cX8_commit 44 = .ok (.goto 4, 3) := by decide +kernel
theorem dX8_commit_47 : decode cX8_commit 47 = .ok (.iconst 0, 1) := by decide +kernel
theorem dX8_commit_48 : decode cX8_commit 48 = .ok (.aload_n 0, 1) := by decide +kernel
theorem dX8_commit_49 : decode cX8_commit 49 = .ok (.getfield 48, 3) := by decide +kernel
theorem dX8_commit_52 : decode cX8_commit 52 = .ok (.bipush 16, 2) := by decide +kernel
theorem dX8_commit_54 : decode cX8_commit 54 = .ok (.iload_n 1, 1) := by decide +kernel
theorem dX8_commit_55 : decode cX8_commit 55 = .ok (.imul, 1) := by decide +kernel
theorem dX8_commit_56 : decode cX8_commit 56 = .ok (.iload_n 3, 1) := by decide +kernel
theorem dX8_commit_57 : decode cX8_commit 57 = .ok (.iadd, 1) := by decide +kernel
theorem dX8_commit_58 : decode cX8_commit 58 = .ok (.iaload, 1) := by decide +kernel
theorem dX8_commit_59 : decode cX8_commit 59 = .ok (.iadd, 1) := by decide +kernel
theorem dX8_commit_60 : decode cX8_commit 60 = .ok (.iastore, 1) := by decide +kernel
theorem dX8_commit_61 : decode cX8_commit 61 = .ok (.iinc 3 1, 3) := by decide +kernel
theorem dX8_commit_64 : decode cX8_commit 64 = .ok (.goto (-54), 3) := by decide +kernel
theorem dX8_commit_67 : decode cX8_commit 67 = .ok (.aload_n 0, 1) := by decide +kernel
theorem dX8_commit_68 : decode cX8_commit 68 = .ok (.getfield 38, 3) := by decide +kernel
theorem dX8_commit_71 : decode cX8_commit 71 = .ok (.iload_n 1, 1) := by decide +kernel
theorem dX8_commit_72 : decode cX8_commit 72 = .ok (.aload_n 0, 1) := by decide +kernel
theorem dX8_commit_73 : decode cX8_commit 73 = .ok (.getfield 13, 3) := by decide +kernel
theorem dX8_commit_76 : decode cX8_commit 76 = .ok (.iastore, 1) := by decide +kernel
theorem dX8_commit_77 : decode cX8_commit 77 = .ok (.aload_n 0, 1) := by decide +kernel
theorem dX8_commit_78 : decode cX8_commit 78 = .ok (.dup, 1) := by decide +kernel
theorem dX8_commit_79 : decode cX8_commit 79 = .ok (.getfield 13, 3) := by decide +kernel
theorem dX8_commit_82 : decode cX8_commit 82 = .ok (.iconst 1, 1) := by decide +kernel
theorem dX8_commit_83 : decode cX8_commit 83 = .ok (.iadd, 1) := by decide +kernel
theorem dX8_commit_84 : decode cX8_commit 84 = .ok (.putfield 13, 3) := by decide +kernel
theorem dX8_commit_87 : decode cX8_commit 87 = .ok (.return_, 1) := by decide +kernel
set_option maxRecDepth 20000 in
theorem ggX8_step_X8_round : GoodIn wsX8_step wsX8_round := goodIn_r _ [13, 2, 6, 14, 7, 5, 15, 16, 17, 18, 19, 20, 21, 22, 23, 24, 25, 26, 27, 28, 29, 30, 31, 32, 33, 34, 35, 36, 37] (by decide +kernel) (by decide +kernel)
set_option maxRecDepth 20000 in
theorem gX8_step_X8_round : GoodIn wsX8_step (wsV RX8 88 RX8 yX8_round wsX8_round) := goodIn_app (goodIn_of _ (by decide +kernel)) ggX8_step_X8_round
theorem dX8_step_0 : decode cX8_step 0 = .ok (.aload_n 0, 1) := by decide +kernel
theorem dX8_step_1 : decode cX8_step 1 = .ok (.getfield 26, 3) := by decide +kernel
theorem dX8_step_4 : decode cX8_step 4 = .ok (.iload_n 1, 1) := by decide +kernel
theorem dX8_step_5 : decode cX8_step 5 = .ok (.iaload, 1) := by decide +kernel
theorem dX8_step_6 : decode cX8_step 6 = .ok (.aload_n 0, 1) := by decide +kernel
theorem dX8_step_7 : decode cX8_step 7 = .ok (.getfield 32, 3) := by decide +kernel
theorem dX8_step_10 : decode cX8_step 10 = .ok (.iload_n 1, 1) := by decide +kernel
theorem dX8_step_11 : decode cX8_step 11 = .ok (.iaload, 1) := by decide +kernel
theorem dX8_step_12 : decode cX8_step 12 = .ok (.iadd, 1) := by decide +kernel
theorem dX8_step_13 : decode cX8_step 13 = .ok (.bipush 16, 2) := by decide +kernel
theorem dX8_step_15 : decode cX8_step 15 = .ok (.irem, 1) := by decide +kernel
theorem dX8_step_16 : decode cX8_step 16 = .ok (.istore_n 2, 1) := by decide +kernel
theorem dX8_step_17 : decode cX8_step 17 = .ok (.aload_n 0, 1) := by decide +kernel
theorem dX8_step_18 : decode cX8_step 18 = .ok (.getfield 17, 3) := by decide +kernel
theorem dX8_step_21 : decode cX8_step 21 = .ok (.iload_n 1, 1) := by decide +kernel
theorem dX8_step_22 : decode cX8_step 22 = .ok (.iaload, 1) := by decide +kernel
theorem dX8_step_23 : decode cX8_step 23 = .ok (.tableswitch 91 0 2 #[25, 60, 83], 25) := by decide +kernel
theorem dX8_step_48 : decode cX8_step 48 = .ok (.aload_n 0, 1) := by decide +kernel
theorem dX8_step_49 : decode cX8_step 49 = .ok (.getfield 35, 3) := by decide +kernel
theorem dX8_step_52 : decode cX8_step 52 = .ok (.iload_n 1, 1) := by decide +kernel
theorem dX8_step_53 : decode cX8_step 53 = .ok (.bipush 31, 2) := by decide +kernel
theorem dX8_step_55 : decode cX8_step 55 = .ok (.aload_n 0, 1) := by decide +kernel
theorem dX8_step_56 : decode cX8_step 56 = .ok (.getfield 35, 3) := by decide +kernel
theorem dX8_step_59 : decode cX8_step 59 = .ok (.iload_n 1, 1) := by decide +kernel
theorem dX8_step_60 : decode cX8_step 60 = .ok (.iaload, 1) := by decide +kernel
theorem dX8_step_61 : decode cX8_step 61 = .ok (.imul, 1) := by decide +kernel
theorem dX8_step_62 : decode cX8_step 62 = .ok (.aload_n 0, 1) := by decide +kernel
theorem dX8_step_63 : decode cX8_step 63 = .ok (.getfield 7, 3) := by decide +kernel
theorem dX8_step_66 : decode cX8_step 66 = .ok (.bipush 16, 2) := by decide +kernel
theorem dX8_step_68 : decode cX8_step 68 = .ok (.aload_n 0, 1) := by decide +kernel
theorem dX8_step_69 : decode cX8_step 69 = .ok (.getfield 38, 3) := by decide +kernel
theorem dX8_step_72 : decode cX8_step 72 = .ok (.iload_n 1, 1) := by decide +kernel
theorem dX8_step_73 : decode cX8_step 73 = .ok (.iaload, 1) := by decide +kernel
theorem dX8_step_74 : decode cX8_step 74 = .ok (.imul, 1) := by decide +kernel
theorem dX8_step_75 : decode cX8_step 75 = .ok (.iload_n 2, 1) := by decide +kernel
theorem dX8_step_76 : decode cX8_step 76 = .ok (.iadd, 1) := by decide +kernel
theorem dX8_step_77 : decode cX8_step 77 = .ok (.iaload, 1) := by decide +kernel
theorem dX8_step_78 : decode cX8_step 78 = .ok (.iadd, 1) := by decide +kernel
theorem dX8_step_79 : decode cX8_step 79 = .ok (.iastore, 1) := by decide +kernel
theorem dX8_step_80 : decode cX8_step 80 = .ok (.goto 99, 3) := by decide +kernel
theorem dX8_step_83 : decode cX8_step 83 = .ok (.aload_n 0, 1) := by decide +kernel
theorem dX8_step_84 : decode cX8_step 84 = .ok (.getfield 48, 3) := by decide +kernel
theorem dX8_step_87 : decode cX8_step 87 = .ok (.bipush 16, 2) := by decide +kernel
theorem dX8_step_89 : decode cX8_step 89 = .ok (.iload_n 1, 1) := by decide +kernel
theorem dX8_step_90 : decode cX8_step 90 = .ok (.imul, 1) := by decide +kernel
theorem dX8_step_91 : decode cX8_step 91 = .ok (.iload_n 2, 1) := by decide +kernel
theorem dX8_step_92 : decode cX8_step 92 = .ok (.iadd, 1) := by decide +kernel
theorem dX8_step_93 : decode cX8_step 93 = .ok (.dup2, 1) := by decide +kernel
theorem dX8_step_94 : decode cX8_step 94 = .ok (.iaload, 1) := by decide +kernel
theorem dX8_step_95 : decode cX8_step 95 = .ok (.aload_n 0, 1) := by decide +kernel
theorem dX8_step_96 : decode cX8_step 96 = .ok (.getfield 29, 3) := by decide +kernel
theorem dX8_step_99 : decode cX8_step 99 = .ok (.iload_n 1, 1) := by decide +kernel
theorem dX8_step_100 : decode cX8_step 100 = .ok (.iaload, 1) := by decide +kernel
theorem dX8_step_101 : decode cX8_step 101 = .ok (.iadd, 1) := by decide +kernel
theorem dX8_step_102 : decode cX8_step 102 = .ok (.iastore, 1) := by decide +kernel
theorem dX8_step_103 : decode cX8_step 103 = .ok (.goto 76, 3) := by decide +kernel
theorem dX8_step_106 : decode cX8_step 106 = .ok (.aload_n 0, 1) := by decide +kernel
theorem dX8_step_107 : decode cX8_step 107 = .ok (.iload_n 1, 1) := by decide +kernel
theorem dX8_step_108 : decode cX8_step 108 = .ok (.invokevirtual 88, 3) := by decide +kernel
theorem dX8_step_111 : decode cX8_step 111 = .ok (.goto 68, 3) := by decide +kernel
theorem dX8_step_114 : decode cX8_step 114 = .ok (.aload_n 0, 1) := by decide +kernel
theorem dX8_step_115 : decode cX8_step 115 = .ok (.getfield 38, 3) := by decide +kernel
theorem dX8_step_118 : decode cX8_step 118 = .ok (.iload_n 1, 1) := by decide +kernel
theorem dX8_step_119 : decode cX8_step 119 = .ok (.dup2, 1) := by decide +kernel
theorem dX8_step_120 : decode cX8_step 120 = .ok (.iaload, 1) := by decide +kernel
theorem dX8_step_121 : decode cX8_step 121 = .ok (.iconst 1, 1) := by decide +kernel
theorem dX8_step_122 : decode cX8_step 122 = .ok (.iadd, 1) := by decide +kernel
theorem dX8_step_123 : decode cX8_step 123 = .ok (.iastore, 1) := by decide +kernel
theorem dX8_step_124 : decode cX8_step 124 = .ok (.iconst 0, 1) := by decide +kernel
theorem dX8_step_125 : decode cX8_step 125 = .ok (.istore_n 3, 1) := by decide +kernel
theorem dX8_step_126 : decode cX8_step 126 = .ok (.iconst 0, 1) := by decide +kernel
theorem dX8_step_127 : decode cX8_step 127 = .ok (.istore 4, 2) := by decide +kernel
theorem dX8_step_129 : decode cX8_step 129 = .ok (.iload 4, 2) := by decide +kernel
theorem dX8_step_131 : decode cX8_step 131 = .ok (.bipush 16, 2) := by decide +kernel
theorem dX8_step_133 : decode cX8_step 133 = .ok (.if_icmp .ge 29, 3) := by decide +kernel
theorem dX8_step_136 : decode cX8_step 136 = .ok (.iload_n 3, 1) := by decide +kernel
theorem dX8_step_137 : decode cX8_step 137 = .ok (.aload_n 0, 1) := by decide +kernel
theorem dX8_step_138 : decode cX8_step 138 = .ok (.getfield 7, 3) := by decide +kernel
theorem dX8_step_141 : decode cX8_step 141 = .ok (.bipush 16, 2) := by decide +kernel
theorem dX8_step_143 : decode cX8_step 143 = .ok (.aload_n 0, 1) := by decide +kernel
theorem dX8_step_144 : decode cX8_step 144 = .ok (.getfield 38, 3) := by decide +kernel
theorem dX8_step_147 : decode cX8_step 147 = .ok (.iload_n 1, 1) := by decide +kernel
theorem dX8_step_148 : decode cX8_step 148 = .ok (.iaload, 1) := by decide +kernel
theorem dX8_step_149 : decode cX8_step 149 = .ok (.imul, 1) := by decide +kernel
theorem dX8_step_150 : decode cX8_step 150 = .ok (.iload 4, 2) := by decide +kernel
theorem dX8_step_152 : decode cX8_step 152 = .ok (.iadd, 1) := by decide +kernel
theorem dX8_step_153 : decode cX8_step 153 = .ok (.iaload, 1) := by decide +kernel
theorem dX8_step_154 : decode cX8_step 154 = .ok (.iadd, 1) := by decide +kernel
theorem dX8_step_155 : decode cX8_step 155 = .ok (.istore_n 3, 1) := by decide +kernel
theorem dX8_step_156 : decode cX8_step 156 = .ok (.iinc 4 1, 3) := by decide +kernel
theorem dX8_step_159 : decode cX8_step 159 = .ok (.goto (-30), 3) := by decide +kernel
theorem dX8_step_162 : decode cX8_step 162 = .ok (.aload_n 0, 1) := by decide +kernel
theorem dX8_step_163 : decode cX8_step 163 = .ok (.getfield 35, 3) := by decide +kernel
theorem dX8_step_166 : decode cX8_step 166 = .ok (.iload_n 1, 1) := by decide +kernel
theorem dX8_step_167 : decode cX8_step 167 = .ok (.bipush 31, 2) := by decide +kernel
theorem dX8_step_169 : decode cX8_step 169 = .ok (.aload_n 0, 1) := by decide +kernel
theorem dX8_step_170 : decode cX8_step 170 = .ok (.getfield 35, 3) := by decide +kernel
theorem dX8_step_173 : decode cX8_step 173 = .ok (.iload_n 1, 1) := by decide +kernel
theorem dX8_step_174 : decode cX8_step 174 = .ok (.iaload, 1) := by decide +kernel
theorem dX8_step_175 : decode cX8_step 175 = .ok (.imul, 1) := by decide +kernel
theorem dX8_step_176 : decode cX8_step 176 = .ok (.iload_n 3, 1) := by decide +kernel
theorem dX8_step_177 : decode cX8_step 177 = .ok (.iadd, 1) := by decide +kernel
theorem dX8_step_178 : decode cX8_step 178 = .ok (.iastore, 1) := by decide +kernel
theorem dX8_step_179 : decode cX8_step 179 = .ok (.aload_n 0, 1) := by decide +kernel
theorem dX8_step_180 : decode cX8_step 180 = .ok (.getfield 32, 3) := by decide +kernel
theorem dX8_step_183 : decode cX8_step 183 = .ok (.iload_n 1, 1) := by decide +kernel
theorem dX8_step_184 : decode cX8_step 184 = .ok (.dup2, 1) := by decide +kernel
theorem dX8_step_185 : decode cX8_step 185 = .ok (.iaload, 1) := by decide +kernel
theorem dX8_step_186 : decode cX8_step 186 = .ok (.iconst 1, 1) := by decide +kernel
theorem dX8_step_187 : decode cX8_step 187 = .ok (.iadd, 1) := by decide +kernel
theorem dX8_step_188 : decode cX8_step 188 = .ok (.iastore, 1) := by decide +kernel
theorem dX8_step_189 : decode cX8_step 189 = .ok (.return_, 1) := by decide +kernel
theorem dX8_round_0 : decode cX8_round 0 = .ok (.aload_n 0, 1) := by decide +kernel
theorem dX8_round_1 : decode cX8_round 1 = .ok (.getfield 32, 3) := by decide +kernel
theorem dX8_round_4 : decode cX8_round 4 = .ok (.iload_n 1, 1) := by decide +kernel
theorem dX8_round_5 : decode cX8_round 5 = .ok (.iaload, 1) := by decide +kernel
theorem dX8_round_6 : decode cX8_round 6 = .ok (.ifCond .ne 56, 3) := by decide +kernel
theorem dX8_round_9 : decode cX8_round 9 = .ok (.aload_n 0, 1) := by decide +kernel
theorem dX8_round_10 : decode cX8_round 10 = .ok (.getfield 38, 3) := by decide +kernel
theorem dX8_round_13 : decode cX8_round 13 = .ok (.iload_n 1, 1) := by decide +kernel
theorem dX8_round_14 : decode cX8_round 14 = .ok (.aload_n 0, 1) := by decide +kernel
theorem dX8_round_15 : decode cX8_round 15 = .ok (.getfield 13, 3) := by decide +kernel
theorem dX8_round_18 : decode cX8_round 18 = .ok (.iconst 1, 1) := by decide +kernel
theorem dX8_round_19 : decode cX8_round 19 = .ok (.isub, 1) := by decide +kernel
theorem dX8_round_20 : decode cX8_round 20 = .ok (.iastore, 1) := by decide +kernel
theorem dX8_round_21 : decode cX8_round 21 = .ok (.iconst 0, 1) := by decide +kernel
theorem dX8_round_22 : decode cX8_round 22 = .ok (.istore_n 2, 1) := by decide +kernel
theorem dX8_round_23 : decode cX8_round 23 = .ok (.iload_n 2, 1) := by decide +kernel
theorem dX8_round_24 : decode cX8_round 24 = .ok (.bipush 16, 2) := by decide +kernel
theorem dX8_round_26 : decode cX8_round 26 = .ok (.if_icmp .ge 36, 3) := by decide +kernel
theorem dX8_round_29 : decode cX8_round 29 = .ok (.aload_n 0, 1) := by decide +kernel
theorem dX8_round_30 : decode cX8_round 30 = .ok (.getfield 48, 3) := by decide +kernel
theorem dX8_round_33 : decode cX8_round 33 = .ok (.bipush 16, 2) := by decide +kernel
theorem dX8_round_35 : decode cX8_round 35 = .ok (.iload_n 1, 1) := by decide +kernel
theorem dX8_round_36 : decode cX8_round 36 = .ok (.imul, 1) := by decide +kernel
theorem dX8_round_37 : decode cX8_round 37 = .ok (.iload_n 2, 1) := by decide +kernel
theorem dX8_round_38 : decode cX8_round 38 = .ok (.iadd, 1) := by decide +kernel
theorem dX8_round_39 : decode cX8_round 39 = .ok (.aload_n 0, 1) := by decide +kernel
theorem dX8_round_40 : decode cX8_round 40 = .ok (.getfield 7, 3) := by decide +kernel
theorem dX8_round_43 : decode cX8_round 43 = .ok (.bipush 16, 2) := by decide +kernel
theorem dX8_round_45 : decode cX8_round 45 = .ok (.aload_n 0, 1) := by decide +kernel
theorem dX8_round_46 : decode cX8_round 46 = .ok (.getfield 38, 3) := by decide +kernel
theorem dX8_round_49 : decode cX8_round 49 = .ok (.iload_n 1, 1) := by decide +kernel
theorem dX8_round_50 : decode cX8_round 50 = .ok (.iaload, 1) := by decide +kernel
theorem dX8_round_51 : decode cX8_round 51 = .ok (.imul, 1) := by decide +kernel
theorem dX8_round_52 : decode cX8_round 52 = .ok (.iload_n 2, 1) := by decide +kernel
theorem dX8_round_53 : decode cX8_round 53 = .ok (.iadd, 1) := by decide +kernel
theorem dX8_round_54 : decode cX8_round 54 = .ok (.iaload, 1) := by decide +kernel
theorem dX8_round_55 : decode cX8_round 55 = .ok (.iastore, 1) := by decide +kernel
theorem dX8_round_56 : decode cX8_round 56 = .ok (.iinc 2 1, 3) := by decide +kernel
theorem dX8_round_59 : decode cX8_round 59 = .ok (.goto (-36), 3) := by decide +kernel
theorem dX8_round_62 : decode cX8_round 62 = .ok (.iconst 0, 1) := by decide +kernel
theorem dX8_round_63 : decode cX8_round 63 = .ok (.istore_n 2, 1) := by decide +kernel
theorem dX8_round_64 : decode cX8_round 64 = .ok (.iload_n 2, 1) := by decide +kernel
theorem dX8_round_65 : decode cX8_round 65 = .ok (.bipush 16, 2) := by decide +kernel
theorem dX8_round_67 : decode cX8_round 67 = .ok (.if_icmp .ge 26, 3) := by decide +kernel
theorem dX8_round_70 : decode cX8_round 70 = .ok (.aload_n 0, 1) := by decide +kernel
theorem dX8_round_71 : decode cX8_round 71 = .ok (.getfield 51, 3) := by decide +kernel
theorem dX8_round_74 : decode cX8_round 74 = .ok (.iload_n 2, 1) := by decide +kernel
