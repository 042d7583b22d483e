theorem dX8_round_75 : decode cX8_round 75 = .ok (.aload_n 0, 1) := by decide +kernel
theorem dX8_round_76 : decode cX8_round 76 = .ok (.getfield 48, 3) := by decide +kernel
theorem dX8_round_79 : decode cX8_round 79 = .ok (.bipush 16, 2) := by decide +kernel
theorem dX8_round_81 : decode cX8_round 81 = .ok (.iload_n 1, 1) := by decide +kernel
theorem dX8_round_82 : decode cX8_round 82 = .ok (.imul, 1) := by decide +kernel
theorem dX8_round_83 : decode cX8_round 83 = .ok (.iload_n 2, 1) := by decide +kernel
theorem dX8_round_84 : decode cX8_round 84 = .ok (.iadd, 1) := by decide +kernel
theorem dX8_round_85 : decode cX8_round 85 = .ok (.iaload, 1) := by decide +kernel
theorem dX8_round_86 : decode cX8_round 86 = .ok (.iastore, 1) := by decide +kernel
theorem dX8_round_87 : decode cX8_round 87 = .ok (.iinc 2 1, 3) := by decide +kernel
theorem dX8_round_90 : decode cX8_round 90 = .ok (.goto (-26), 3) := by decide +kernel
theorem dX8_round_93 : decode cX8_round 93 = .ok (.iconst 0, 1) := by decide +kernel
theorem dX8_round_94 : decode cX8_round 94 = .ok (.istore_n 2, 1) := by decide +kernel
theorem dX8_round_95 : decode cX8_round 95 = .ok (.iload_n 2, 1) := by decide +kernel
theorem dX8_round_96 : decode cX8_round 96 = .ok (.bipush 16, 2) := by decide +kernel
theorem dX8_round_98 : decode cX8_round 98 = .ok (.if_icmp .ge 53, 3) := by decide +kernel
theorem dX8_round_101 : decode cX8_round 101 = .ok (.aload_n 0, 1) := by decide +kernel
theorem dX8_round_102 : decode cX8_round 102 = .ok (.getfield 51, 3) := by decide +kernel
theorem dX8_round_105 : decode cX8_round 105 = .ok (.iload_n 2, 1) := by decide +kernel
theorem dX8_round_106 : decode cX8_round 106 = .ok (.bipush 15, 2) := by decide +kernel
theorem dX8_round_108 : decode cX8_round 108 = .ok (.iadd, 1) := by decide +kernel
theorem dX8_round_109 : decode cX8_round 109 = .ok (.bipush 16, 2) := by decide +kernel
theorem dX8_round_111 : decode cX8_round 111 = .ok (.irem, 1) := by decide +kernel
theorem dX8_round_112 : decode cX8_round 112 = .ok (.iaload, 1) := by decide +kernel
theorem dX8_round_113 : decode cX8_round 113 = .ok (.istore_n 3, 1) := by decide +kernel
theorem dX8_round_114 : decode cX8_round 114 = .ok (.aload_n 0, 1) := by decide +kernel
theorem dX8_round_115 : decode cX8_round 115 = .ok (.getfield 48, 3) := by decide +kernel
theorem dX8_round_118 : decode cX8_round 118 = .ok (.bipush 16, 2) := by decide +kernel
theorem dX8_round_120 : decode cX8_round 120 = .ok (.iload_n 1, 1) := by decide +kernel
theorem dX8_round_121 : decode cX8_round 121 = .ok (.imul, 1) := by decide +kernel
theorem dX8_round_122 : decode cX8_round 122 = .ok (.iload_n 2, 1) := by decide +kernel
theorem dX8_round_123 : decode cX8_round 123 = .ok (.iadd, 1) := by decide +kernel
theorem dX8_round_124 : decode cX8_round 124 = .ok (.iload_n 3, 1) := by decide +kernel
theorem dX8_round_125 : decode cX8_round 125 = .ok (.aload_n 0, 1) := by decide +kernel
theorem dX8_round_126 : decode cX8_round 126 = .ok (.getfield 51, 3) := by decide +kernel
theorem dX8_round_129 : decode cX8_round 129 = .ok (.iload_n 2, 1) := by decide +kernel
theorem dX8_round_130 : decode cX8_round 130 = .ok (.iaload, 1) := by decide +kernel
theorem dX8_round_131 : decode cX8_round 131 = .ok (.if_icmp .le 7, 3) := by decide +kernel
theorem dX8_round_134 : decode cX8_round 134 = .ok (.iload_n 3, 1) := by decide +kernel
theorem dX8_round_135 : decode cX8_round 135 = .ok (.goto 9, 3) := by decide +kernel
theorem dX8_round_138 : decode cX8_round 138 = .ok (.aload_n 0, 1) := by decide +kernel
theorem dX8_round_139 : decode cX8_round 139 = .ok (.getfield 51, 3) := by decide +kernel
theorem dX8_round_142 : decode cX8_round 142 = .ok (.iload_n 2, 1) := by decide +kernel
theorem dX8_round_143 : decode cX8_round 143 = .ok (.iaload, 1) := by decide +kernel
theorem dX8_round_144 : decode cX8_round 144 = .ok (.iastore, 1) := by decide +kernel
theorem dX8_round_145 : decode cX8_round 145 = .ok (.iinc 2 1, 3) := by decide +kernel
theorem dX8_round_148 : decode cX8_round 148 = .ok (.goto (-53), 3) := by decide +kernel
theorem dX8_round_151 : decode cX8_round 151 = .ok (.return_, 1) := by decide +kernel
set_option maxRecDepth 20000 in
theorem ggX8_turn_X8_in : GoodIn wsX8_turn wsX8_in := goodIn_r _ [13] (by decide +kernel) (by decide +kernel)
set_option maxRecDepth 20000 in
theorem gX8_turn_X8_in : GoodIn wsX8_turn (va_wsS RX8 63 yX8_in wsX8_in) := goodIn_app (goodIn_of _ (by decide +kernel)) ggX8_turn_X8_in
set_option maxRecDepth 20000 in
theorem ggX8_turn_X8_waits : GoodIn wsX8_turn wsX8_waits := goodIn_r _ [17, 3, 5, 8, 6, 7, 18, 19, 20, 21, 22, 12, 23, 50, 51, 52, 53, 54, 55, 56, 57, 58, 59, 60, 61, 62, 63, 64, 65, 66, 67, 68, 69, 70, 71] (by decide +kernel) (by decide +kernel)
set_option maxRecDepth 20000 in
theorem gX8_turn_X8_waits : GoodIn wsX8_turn (wsV RX8 92 RX8 yX8_waits wsX8_waits) := goodIn_app (goodIn_of _ (by decide +kernel)) ggX8_turn_X8_waits
set_option maxRecDepth 20000 in
theorem ggX8_turn_X8_commit : GoodIn wsX8_turn wsX8_commit := goodIn_r _ [27, 19, 28, 8, 29, 18, 50, 51, 52, 53, 54, 55, 56, 57, 58, 59, 60, 61, 62, 63, 64, 65, 66, 67, 68, 69, 70, 71] (by decide +kernel) (by decide +kernel)
set_option maxRecDepth 20000 in
theorem gX8_turn_X8_commit : GoodIn wsX8_turn (wsV RX8 98 RX8 yX8_commit wsX8_commit) := goodIn_app (goodIn_of _ (by decide +kernel)) ggX8_turn_X8_commit
set_option maxRecDepth 20000 in
theorem ggX8_turn_X8_step : GoodIn wsX8_turn wsX8_step := goodIn_r _ [33, 34, 6, 8, 35, 28, 18, 29, 36, 37, 38, 39, 12, 40, 19, 41, 50, 51, 52, 53, 54, 55, 56, 57, 58, 59, 60, 61, 62, 63, 64, 65, 66, 67, 68, 69, 70, 71] (by decide +kernel) (by decide +kernel)
set_option maxRecDepth 20000 in
theorem gX8_turn_X8_step : GoodIn wsX8_turn (wsV RX8 101 RX8 yX8_step wsX8_step) := goodIn_app (goodIn_of _ (by decide +kernel)) ggX8_turn_X8_step
set_option maxRecDepth 20000 in
theorem ggX8_turn_X8_finish : GoodIn wsX8_turn wsX8_finish := goodIn_r _ [45, 3, 46, 47, 48, 49, 4, 50, 51, 52, 53, 54, 55, 56, 57, 58, 59, 60, 61, 62, 63, 64, 65, 66, 67, 68, 69, 70, 71] (by decide +kernel) (by decide +kernel)
set_option maxRecDepth 20000 in
theorem gX8_turn_X8_finish : GoodIn wsX8_turn (wsV RX8 104 RX8 yX8_finish wsX8_finish) := goodIn_app (goodIn_of _ (by decide +kernel)) ggX8_turn_X8_finish
theorem dX8_turn_0 : decode cX8_turn 0 = .ok (.iload_n 1, 1) := by decide +kernel
theorem dX8_turn_1 : decode cX8_turn 1 = .ok (.iconst 0, 1) := by decide +kernel
theorem dX8_turn_2 : decode cX8_turn 2 = .ok (.aload_n 0, 1) := by decide +kernel
theorem dX8_turn_3 : decode cX8_turn 3 = .ok (.getfield 67, 3) := by decide +kernel
theorem dX8_turn_6 : decode cX8_turn 6 = .ok (.iconst 1, 1) := by decide +kernel
theorem dX8_turn_7 : decode cX8_turn 7 = .ok (.isub, 1) := by decide +kernel
theorem dX8_turn_8 : decode cX8_turn 8 = .ok (.invokestatic 63, 3) := by decide +kernel
theorem dX8_turn_11 : decode cX8_turn 11 = .ok (.ifCond .ne 5, 3) := by decide +kernel
theorem dX8_turn_14 : decode cX8_turn 14 = .ok (.iconst (-1), 1) := by decide +kernel
theorem dX8_turn_15 : decode cX8_turn 15 = .ok (.ireturn, 1) := by decide +kernel
theorem dX8_turn_16 : decode cX8_turn 16 = .ok (.aload_n 0, 1) := by decide +kernel
theorem dX8_turn_17 : decode cX8_turn 17 = .ok (.iload_n 1, 1) := by decide +kernel
theorem dX8_turn_18 : decode cX8_turn 18 = .ok (.invokevirtual 92, 3) := by decide +kernel
theorem dX8_turn_21 : decode cX8_turn 21 = .ok (.ifCond .eq 28, 3) := by decide +kernel
theorem dX8_turn_24 : decode cX8_turn 24 = .ok (.aload_n 0, 1) := by decide +kernel
theorem dX8_turn_25 : decode cX8_turn 25 = .ok (.dup, 1) := by decide +kernel
theorem dX8_turn_26 : decode cX8_turn 26 = .ok (.getfield 95, 3) := by decide +kernel
theorem dX8_turn_29 : decode cX8_turn 29 = .ok (.aload_n 0, 1) := by decide +kernel
theorem dX8_turn_30 : decode cX8_turn 30 = .ok (.getfield 41, 3) := by decide +kernel
theorem dX8_turn_33 : decode cX8_turn 33 = .ok (.iload_n 1, 1) := by decide +kernel
theorem dX8_turn_34 : decode cX8_turn 34 = .ok (.iaload, 1) := by decide +kernel
theorem dX8_turn_35 : decode cX8_turn 35 = .ok (.ifCond .le 7, 3) := by decide +kernel
theorem dX8_turn_38 : decode cX8_turn 38 = .ok (.iconst 0, 1) := by decide +kernel
theorem dX8_turn_39 : decode cX8_turn 39 = .ok (.goto 4, 3) := by decide +kernel
theorem dX8_turn_42 : decode cX8_turn 42 = .ok (.iconst 1, 1) := by decide +kernel
theorem dX8_turn_43 : decode cX8_turn 43 = .ok (.iadd, 1) := by decide +kernel
theorem dX8_turn_44 : decode cX8_turn 44 = .ok (.putfield 95, 3) := by decide +kernel
theorem dX8_turn_47 : decode cX8_turn 47 = .ok (.iconst 0, 1) := by decide +kernel
theorem dX8_turn_48 : decode cX8_turn 48 = .ok (.ireturn, 1) := by decide +kernel
theorem dX8_turn_49 : decode cX8_turn 49 = .ok (.aload_n 0, 1) := by decide +kernel
theorem dX8_turn_50 : decode cX8_turn 50 = .ok (.dup, 1) := by decide +kernel
theorem dX8_turn_51 : decode cX8_turn 51 = .ok (.getfield 85, 3) := by decide +kernel
theorem dX8_turn_54 : decode cX8_turn 54 = .ok (.iconst 1, 1) := by decide +kernel
theorem dX8_turn_55 : decode cX8_turn 55 = .ok (.iadd, 1) := by decide +kernel
theorem dX8_turn_56 : decode cX8_turn 56 = .ok (.putfield 85, 3) := by decide +kernel
theorem dX8_turn_59 : decode cX8_turn 59 = .ok (.iconst 1, 1) := by decide +kernel
theorem dX8_turn_60 : decode cX8_turn 60 = .ok (.istore_n 2, 1) := by decide +kernel
theorem dX8_turn_61 : decode cX8_turn 61 = .ok (.aload_n 0, 1) := by decide +kernel
theorem dX8_turn_62 : decode cX8_turn 62 = .ok (.getfield 44, 3) := by decide +kernel
theorem dX8_turn_65 : decode cX8_turn 65 = .ok (.iload_n 1, 1) := by decide +kernel
theorem dX8_turn_66 : decode cX8_turn 66 = .ok (.baload, 1) := by decide +kernel
theorem dX8_turn_67 : decode cX8_turn 67 = .ok (.ifCond .eq 8, 3) := by decide +kernel
theorem dX8_turn_70 : decode cX8_turn 70 = .ok (.iconst 4, 1) := by decide +kernel
theorem dX8_turn_71 : decode cX8_turn 71 = .ok (.istore_n 2, 1) := by decide +kernel
theorem dX8_turn_72 : decode cX8_turn 72 = .ok (.goto 95, 3) := by decide +kernel
theorem dX8_turn_75 : decode cX8_turn 75 = .ok (.aload_n 0, 1) := by decide +kernel
theorem dX8_turn_76 : decode cX8_turn 76 = .ok (.getfield 32, 3) := by decide +kernel
theorem dX8_turn_79 : decode cX8_turn 79 = .ok (.iload_n 1, 1) := by decide +kernel
theorem dX8_turn_80 : decode cX8_turn 80 = .ok (.iaload, 1) := by decide +kernel
theorem dX8_turn_81 : decode cX8_turn 81 = .ok (.aload_n 0, 1) := by decide +kernel
theorem dX8_turn_82 : decode cX8_turn 82 = .ok (.getfield 20, 3) := by decide +kernel
theorem dX8_turn_85 : decode cX8_turn 85 = .ok (.iload_n 1, 1) := by decide +kernel
theorem dX8_turn_86 : decode cX8_turn 86 = .ok (.iaload, 1) := by decide +kernel
theorem dX8_turn_87 : decode cX8_turn 87 = .ok (.if_icmp .ne 23, 3) := by decide +kernel
theorem dX8_turn_90 : decode cX8_turn 90 = .ok (.aload_n 0, 1) := by decide +kernel
theorem dX8_turn_91 : decode cX8_turn 91 = .ok (.getfield 17, 3) := by decide +kernel
theorem dX8_turn_94 : decode cX8_turn 94 = .ok (.iload_n 1, 1) := by decide +kernel
theorem dX8_turn_95 : decode cX8_turn 95 = .ok (.iaload, 1) := by decide +kernel
theorem dX8_turn_96 : decode cX8_turn 96 = .ok (.iconst 3, 1) := by decide +kernel
theorem dX8_turn_97 : decode cX8_turn 97 = .ok (.if_icmp .eq 13, 3) := by decide +kernel
theorem dX8_turn_100 : decode cX8_turn 100 = .ok (.aload_n 0, 1) := by decide +kernel
theorem dX8_turn_101 : decode cX8_turn 101 = .ok (.iload_n 1, 1) := by decide +kernel
theorem dX8_turn_102 : decode cX8_turn 102 = .ok (.invokevirtual 98, 3) := by decide +kernel
theorem dX8_turn_105 : decode cX8_turn 105 = .ok (.iconst 2, 1) := by decide +kernel
theorem dX8_turn_106 : decode cX8_turn 106 = .ok (.istore_n 2, 1) := by decide +kernel
theorem dX8_turn_107 : decode cX8_turn 107 = .ok (.goto 60, 3) := by decide +kernel
theorem dX8_turn_110 : decode cX8_turn 110 = .ok (.aload_n 0, 1) := by decide +kernel
theorem dX8_turn_111 : decode cX8_turn 111 = .ok (.getfield 23, 3) := by decide +kernel
theorem dX8_turn_114 : decode cX8_turn 114 = .ok (.iload_n 1, 1) := by decide +kernel
theorem dX8_turn_115 : decode cX8_turn 115 = .ok (.iaload, 1) := by decide +kernel
theorem dX8_turn_116 : decode cX8_turn 116 = .ok (.aload_n 0, 1) := by decide +kernel
theorem dX8_turn_117 : decode cX8_turn 117 = .ok (.getfield 32, 3) := by decide +kernel
theorem dX8_turn_120 : decode cX8_turn 120 = .ok (.iload_n 1, 1) := by decide +kernel
theorem dX8_turn_121 : decode cX8_turn 121 = .ok (.iaload, 1) := by decide +kernel
theorem dX8_turn_122 : decode cX8_turn 122 = .ok (.iconst 1, 1) := by decide +kernel
theorem dX8_turn_123 : decode cX8_turn 123 = .ok (.iadd, 1) := by decide +kernel
theorem dX8_turn_124 : decode cX8_turn 124 = .ok (.if_icmp .ne 8, 3) := by decide +kernel
theorem dX8_turn_127 : decode cX8_turn 127 = .ok (.iconst 3, 1) := by decide +kernel
theorem dX8_turn_128 : decode cX8_turn 128 = .ok (.istore_n 2, 1) := by decide +kernel
theorem dX8_turn_129 : decode cX8_turn 129 = .ok (.goto 38, 3) := by decide +kernel
theorem dX8_turn_132 : decode cX8_turn 132 = .ok (.aload_n 0, 1) := by decide +kernel
theorem dX8_turn_133 : decode cX8_turn 133 = .ok (.iload_n 1, 1) := by decide +kernel
theorem dX8_turn_134 : decode cX8_turn 134 = .ok (.invokevirtual 101, 3) := by decide +kernel
theorem dX8_turn_137 : decode cX8_turn 137 = .ok (.aload_n 0, 1) := by decide +kernel
theorem dX8_turn_138 : decode cX8_turn 138 = .ok (.getfield 17, 3) := by decide +kernel
theorem dX8_turn_141 : decode cX8_turn 141 = .ok (.iload_n 1, 1) := by decide +kernel
theorem dX8_turn_142 : decode cX8_turn 142 = .ok (.iaload, 1) := by decide +kernel
theorem dX8_turn_143 : decode cX8_turn 143 = .ok (.ifCond .ne 22, 3) := by decide +kernel
theorem dX8_turn_146 : decode cX8_turn 146 = .ok (.aload_n 0, 1) := by decide +kernel
theorem dX8_turn_147 : decode cX8_turn 147 = .ok (.getfield 32, 3) := by decide +kernel
theorem dX8_turn_150 : decode cX8_turn 150 = .ok (.iload_n 1, 1) := by decide +kernel
theorem dX8_turn_151 : decode cX8_turn 151 = .ok (.iaload, 1) := by decide +kernel
theorem dX8_turn_152 : decode cX8_turn 152 = .ok (.aload_n 0, 1) := by decide +kernel
theorem dX8_turn_153 : decode cX8_turn 153 = .ok (.getfield 20, 3) := by decide +kernel
theorem dX8_turn_156 : decode cX8_turn 156 = .ok (.iload_n 1, 1) := by decide +kernel
theorem dX8_turn_157 : decode cX8_turn 157 = .ok (.iaload, 1) := by decide +kernel
theorem dX8_turn_158 : decode cX8_turn 158 = .ok (.if_icmp .ne 7, 3) := by decide +kernel
theorem dX8_turn_161 : decode cX8_turn 161 = .ok (.iconst 2, 1) := by decide +kernel
theorem dX8_turn_162 : decode cX8_turn 162 = .ok (.goto 4, 3) := by decide +kernel
theorem dX8_turn_165 : decode cX8_turn 165 = .ok (.iconst 1, 1) := by decide +kernel
theorem dX8_turn_166 : decode cX8_turn 166 = .ok (.istore_n 2, 1) := by decide +kernel
theorem dX8_turn_167 : decode cX8_turn 167 = .ok (.iload_n 2, 1) := by decide +kernel
theorem dX8_turn_168 : decode cX8_turn 168 = .ok (.iconst 1, 1) := by decide +kernel
theorem dX8_turn_169 : decode cX8_turn 169 = .ok (.if_icmp .le 9, 3) := by decide +kernel
theorem dX8_turn_172 : decode cX8_turn 172 = .ok (.aload_n 0, 1) := by decide +kernel
theorem dX8_turn_173 : decode cX8_turn 173 = .ok (.iload_n 1, 1) := by decide +kernel
theorem dX8_turn_174 : decode cX8_turn 174 = .ok (.iload_n 2, 1) := by decide +kernel
theorem dX8_turn_175 : decode cX8_turn 175 = .ok (.invokevirtual 104, 3) := by decide +kernel
theorem dX8_turn_178 : decode cX8_turn 178 = .ok (.iload_n 2, 1) := by decide +kernel
theorem dX8_turn_179 : decode cX8_turn 179 = .ok (.ireturn, 1) := by decide +kernel
set_option maxRecDepth 20000 in
theorem ggX8_run_X8_in : GoodIn wsX8_run wsX8_in := goodIn_r _ [5] (by decide +kernel) (by decide +kernel)
set_option maxRecDepth 20000 in
theorem gX8_run_X8_in : GoodIn wsX8_run (va_wsS RX8 63 yX8_in wsX8_in) := goodIn_app (goodIn_of _ (by decide +kernel)) ggX8_run_X8_in
set_option maxRecDepth 20000 in
theorem ggX8_run_X8_turn : GoodIn wsX8_run wsX8_turn := goodIn_r _ [9, 1, 10, 11, 12, 13, 14, 15, 16, 17, 2, 3, 4, 5, 18, 19, 20, 21, 22, 23, 24, 25, 26, 27, 28, 29, 30, 31, 32, 33, 34, 35, 36, 37, 38, 39, 40, 41, 42, 43, 44, 45, 46, 47, 48, 49, 50, 51, 52, 53, 54, 55, 56, 57, 58, 59, 60, 61, 62, 63, 64, 65, 66, 67, 68, 69, 70, 71, 72, 73, 74, 75] (by decide +kernel) (by decide +kernel)
set_option maxRecDepth 20000 in
theorem gX8_run_X8_turn : GoodIn wsX8_run (wsV RX8 108 RX8 yX8_turn wsX8_turn) := goodIn_app (goodIn_of _ (by decide +kernel)) ggX8_run_X8_turn
theorem dX8_run_0 : decode cX8_run 0 = .ok (.iload_n 1, 1) := by decide +kernel
theorem dX8_run_1 : decode cX8_run 1 = .ok (.iconst 0, 1) := by decide +kernel
theorem dX8_run_2 : decode cX8_run 2 = .ok (.sipush 1000, 3) := by decide +kernel
theorem dX8_run_5 : decode cX8_run 5 = .ok (.invokestatic 63, 3) := by decide +kernel
theorem dX8_run_8 : decode cX8_run 8 = .ok (.ifCond .ne 5, 3) := by decide +kernel
theorem dX8_run_11 : decode cX8_run 11 = .ok (.iconst (-1), 1) := by decide +kernel
theorem dX8_run_12 : decode cX8_run 12 = .ok (.ireturn, 1) := by decide +kernel
theorem dX8_run_13 : decode cX8_run 13 = .ok (.iconst 0, 1) := by decide +kernel
theorem dX8_run_14 : decode cX8_run 14 = .ok (.istore_n 2, 1) := by decide +kernel
theorem dX8_run_15 : decode cX8_run 15 = .ok (.iconst 1, 1) := by decide +kernel
theorem dX8_run_16 : decode cX8_run 16 = .ok (.istore_n 3, 1) := by decide +kernel
theorem dX8_run_17 : decode cX8_run 17 = .ok (.iload_n 3, 1) := by decide +kernel
theorem dX8_run_18 : decode cX8_run 18 = .ok (.ifCond .eq 50, 3) := by decide +kernel
theorem dX8_run_21 : decode cX8_run 21 = .ok (.iload_n 2, 1) := by decide +kernel
theorem dX8_run_22 : decode cX8_run 22 = .ok (.iload_n 1, 1) := by decide +kernel
theorem dX8_run_23 : decode cX8_run 23 = .ok (.if_icmp .ge 45, 3) := by decide +kernel
theorem dX8_run_26 : decode cX8_run 26 = .ok (.iconst 0, 1) := by decide +kernel
theorem dX8_run_27 : decode cX8_run 27 = .ok (.istore_n 3, 1) := by decide +kernel
theorem dX8_run_28 : decode cX8_run 28 = .ok (.iconst 0, 1) := by decide +kernel
theorem dX8_run_29 : decode cX8_run 29 = .ok (.istore 4, 2) := by decide +kernel
theorem dX8_run_31 : decode cX8_run 31 = .ok (.iload 4, 2) := by decide +kernel
theorem dX8_run_33 : decode cX8_run 33 = .ok (.aload_n 0, 1) := by decide +kernel
theorem dX8_run_34 : decode cX8_run 34 = .ok (.getfield 67, 3) := by decide +kernel
theorem dX8_run_37 : decode cX8_run 37 = .ok (.if_icmp .ge 28, 3) := by decide +kernel
theorem dX8_run_40 : decode cX8_run 40 = .ok (.iload_n 2, 1) := by decide +kernel
theorem dX8_run_41 : decode cX8_run 41 = .ok (.iload_n 1, 1) := by decide +kernel
theorem dX8_run_42 : decode cX8_run 42 = .ok (.if_icmp .ge 23, 3) := by decide +kernel
theorem dX8_run_45 : decode cX8_run 45 = .ok (.aload_n 0, 1) := by decide +kernel
theorem dX8_run_46 : decode cX8_run 46 = .ok (.iload 4, 2) := by decide +kernel
theorem dX8_run_48 : decode cX8_run 48 = .ok (.invokevirtual 108, 3) := by decide +kernel
theorem dX8_run_51 : decode cX8_run 51 = .ok (.ifCond .le 8, 3) := by decide +kernel
theorem dX8_run_54 : decode cX8_run 54 = .ok (.iinc 2 1, 3) := by decide +kernel
theorem dX8_run_57 : decode cX8_run 57 = .ok (.iconst 1, 1) := by decide +kernel
theorem dX8_run_58 : decode cX8_run 58 = .ok (.istore_n 3, 1) := by decide +kernel
theorem dX8_run_59 : decode cX8_run 59 = .ok (.iinc 4 1, 3) := by decide +kernel
theorem dX8_run_62 : decode cX8_run 62 = .ok (.goto (-31), 3) := by decide +kernel
theorem dX8_run_65 : decode cX8_run 65 = .ok (.goto (-48), 3) := by decide +kernel
theorem dX8_run_68 : decode cX8_run 68 = .ok (.iload_n 2, 1) := by decide +kernel
theorem dX8_run_69 : decode cX8_run 69 = .ok (.ireturn, 1) := by decide +kernel
set_option maxRecDepth 20000 in
theorem ggX8_cancel_X8_in : GoodIn wsX8_cancel wsX8_in := goodIn_r _ [7] (by decide +kernel) (by decide +kernel)
set_option maxRecDepth 20000 in
theorem gX8_cancel_X8_in : GoodIn wsX8_cancel (va_wsS RX8 63 yX8_in wsX8_in) := goodIn_app (goodIn_of _ (by decide +kernel)) ggX8_cancel_X8_in
theorem dX8_cancel_0 : decode cX8_cancel 0 = .ok (.iload_n 1, 1) := by decide +kernel
theorem dX8_cancel_1 : decode cX8_cancel 1 = .ok (.iconst 0, 1) := by decide +kernel
theorem dX8_cancel_2 : decode cX8_cancel 2 = .ok (.aload_n 0, 1) := by decide +kernel
theorem dX8_cancel_3 : decode cX8_cancel 3 = .ok (.getfield 67, 3) := by decide +kernel
theorem dX8_cancel_6 : decode cX8_cancel 6 = .ok (.iconst 1, 1) := by decide +kernel
theorem dX8_cancel_7 : decode cX8_cancel 7 = .ok (.isub, 1) := by decide +kernel
theorem dX8_cancel_8 : decode cX8_cancel 8 = .ok (.invokestatic 63, 3) := by decide +kernel
theorem dX8_cancel_11 : decode cX8_cancel 11 = .ok (.ifCond .ne 5, 3) := by decide +kernel
theorem dX8_cancel_14 : decode cX8_cancel 14 = .ok (.iconst (-1), 1) := by decide +kernel
theorem dX8_cancel_15 : decode cX8_cancel 15 = .ok (.ireturn, 1) := by decide +kernel
theorem dX8_cancel_16 : decode cX8_cancel 16 = .ok (.aload_n 0, 1) := by decide +kernel
theorem dX8_cancel_17 : decode cX8_cancel 17 = .ok (.getfield 41, 3) := by decide +kernel
theorem dX8_cancel_20 : decode cX8_cancel 20 = .ok (.iload_n 1, 1) := by decide +kernel
theorem dX8_cancel_21 : decode cX8_cancel 21 = .ok (.iaload, 1) := by decide +kernel
theorem dX8_cancel_22 : decode cX8_cancel 22 = .ok (.ifCond .gt 12, 3) := by decide +kernel
theorem dX8_cancel_25 : decode cX8_cancel 25 = .ok (.aload_n 0, 1) := by decide +kernel
theorem dX8_cancel_26 : decode cX8_cancel 26 = .ok (.getfield 44, 3) := by decide +kernel
theorem dX8_cancel_29 : decode cX8_cancel 29 = .ok (.iload_n 1, 1) := by decide +kernel
theorem dX8_cancel_30 : decode cX8_cancel 30 = .ok (.baload, 1) := by decide +kernel
theorem dX8_cancel_31 : decode cX8_cancel 31 = .ok (.ifCond .eq 5, 3) := by decide +kernel
theorem dX8_cancel_34 : decode cX8_cancel 34 = .ok (.iconst 0, 1) := by decide +kernel
theorem dX8_cancel_35 : decode cX8_cancel 35 = .ok (.ireturn, 1) := by decide +kernel
theorem dX8_cancel_36 : decode cX8_cancel 36 = .ok (.aload_n 0, 1) := by decide +kernel
theorem dX8_cancel_37 : decode cX8_cancel 37 = .ok (.getfield 44, 3) := by decide +kernel
theorem dX8_cancel_40 : decode cX8_cancel 40 = .ok (.iload_n 1, 1) := by decide +kernel
theorem dX8_cancel_41 : decode cX8_cancel 41 = .ok (.iconst 1, 1) := by decide +kernel
theorem dX8_cancel_42 : decode cX8_cancel 42 = .ok (.bastore, 1) := by decide +kernel
theorem dX8_cancel_43 : decode cX8_cancel 43 = .ok (.iconst 1, 1) := by decide +kernel
theorem dX8_cancel_44 : decode cX8_cancel 44 = .ok (.ireturn, 1) := by decide +kernel
set_option maxRecDepth 20000 in
theorem ggX8_close_X8_finish : GoodIn wsX8_close wsX8_finish := goodIn_r _ [8, 3, 9, 10, 11, 12, 13, 14, 15, 16, 17, 18, 19, 20, 21, 22, 23, 24, 25, 26, 27, 28, 29, 30, 31, 32, 33, 34, 35] (by decide +kernel) (by decide +kernel)
set_option maxRecDepth 20000 in
theorem gX8_close_X8_finish : GoodIn wsX8_close (wsV RX8 104 RX8 yX8_finish wsX8_finish) := goodIn_app (goodIn_of _ (by decide +kernel)) ggX8_close_X8_finish
theorem dX8_close_0 : decode cX8_close 0 = .ok (.aload_n 0, 1) := by decide +kernel
theorem dX8_close_1 : decode cX8_close 1 = .ok (.getfield 70, 3) := by decide +kernel
theorem dX8_close_4 : decode cX8_close 4 = .ok (.ifCond .eq 6, 3) := by decide +kernel
theorem dX8_close_7 : decode cX8_close 7 = .ok (.bipush (-2), 2) := by decide +kernel
theorem dX8_close_9 : decode cX8_close 9 = .ok (.ireturn, 1) := by decide +kernel
theorem dX8_close_10 : decode cX8_close 10 = .ok (.aload_n 0, 1) := by decide +kernel
theorem dX8_close_11 : decode cX8_close 11 = .ok (.iconst 1, 1) := by decide +kernel
theorem dX8_close_12 : decode cX8_close 12 = .ok (.putfield 70, 3) := by decide +kernel
theorem dX8_close_15 : decode cX8_close 15 = .ok (.iconst 0, 1) := by decide +kernel
theorem dX8_close_16 : decode cX8_close 16 = .ok (.istore_n 1, 1) := by decide +kernel
theorem dX8_close_17 : decode cX8_close 17 = .ok (.iconst 0, 1) := by decide +kernel
theorem dX8_close_18 : decode cX8_close 18 = .ok (.istore_n 2, 1) := by decide +kernel
theorem dX8_close_19 : decode cX8_close 19 = .ok (.iload_n 2, 1) := by decide +kernel
theorem dX8_close_20 : decode cX8_close 20 = .ok (.aload_n 0, 1) := by decide +kernel
theorem dX8_close_21 : decode cX8_close 21 = .ok (.getfield 67, 3) := by decide +kernel
theorem dX8_close_24 : decode cX8_close 24 = .ok (.if_icmp .ge 27, 3) := by decide +kernel
theorem dX8_close_27 : decode cX8_close 27 = .ok (.aload_n 0, 1) := by decide +kernel
theorem dX8_close_28 : decode cX8_close 28 = .ok (.getfield 41, 3) := by decide +kernel
theorem dX8_close_31 : decode cX8_close 31 = .ok (.iload_n 2, 1) := by decide +kernel
theorem dX8_close_32 : decode cX8_close 32 = .ok (.iaload, 1) := by decide +kernel
theorem dX8_close_33 : decode cX8_close 33 = .ok (.ifCond .ne 12, 3) := by decide +kernel
theorem dX8_close_36 : decode cX8_close 36 = .ok (.aload_n 0, 1) := by decide +kernel
theorem dX8_close_37 : decode cX8_close 37 = .ok (.iload_n 2, 1) := by decide +kernel
theorem dX8_close_38 : decode cX8_close 38 = .ok (.iconst 4, 1) := by decide +kernel
theorem dX8_close_39 : decode cX8_close 39 = .ok (.invokevirtual 104, 3) := by decide +kernel
theorem dX8_close_42 : decode cX8_close 42 = .ok (.iinc 1 1, 3) := by decide +kernel
theorem dX8_close_45 : decode cX8_close 45 = .ok (.iinc 2 1, 3) := by decide +kernel
theorem dX8_close_48 : decode cX8_close 48 = .ok (.goto (-29), 3) := by decide +kernel
theorem dX8_close_51 : decode cX8_close 51 = .ok (.iload_n 1, 1) := by decide +kernel
theorem dX8_close_52 : decode cX8_close 52 = .ok (.ireturn, 1) := by decide +kernel
theorem dX8_pinned_0 : decode cX8_pinned 0 = .ok (.aload_n 0, 1) := by decide +kernel
theorem dX8_pinned_1 : decode cX8_pinned 1 = .ok (.getfield 41, 3) := by decide +kernel
theorem dX8_pinned_4 : decode cX8_pinned 4 = .ok (.iload_n 1, 1) := by decide +kernel
theorem dX8_pinned_5 : decode cX8_pinned 5 = .ok (.iaload, 1) := by decide +kernel
theorem dX8_pinned_6 : decode cX8_pinned 6 = .ok (.ifCond .ne 26, 3) := by decide +kernel
theorem dX8_pinned_9 : decode cX8_pinned 9 = .ok (.aload_n 0, 1) := by decide +kernel
theorem dX8_pinned_10 : decode cX8_pinned 10 = .ok (.getfield 17, 3) := by decide +kernel
theorem dX8_pinned_13 : decode cX8_pinned 13 = .ok (.iload_n 1, 1) := by decide +kernel
theorem dX8_pinned_14 : decode cX8_pinned 14 = .ok (.iaload, 1) := by decide +kernel
theorem dX8_pinned_15 : decode cX8_pinned 15 = .ok (.ifCond .eq 13, 3) := by decide +kernel
theorem dX8_pinned_18 : decode cX8_pinned 18 = .ok (.aload_n 0, 1) := by decide +kernel
theorem dX8_pinned_19 : decode cX8_pinned 19 = .ok (.getfield 17, 3) := by decide +kernel
theorem dX8_pinned_22 : decode cX8_pinned 22 = .ok (.iload_n 1, 1) := by decide +kernel
theorem dX8_pinned_23 : decode cX8_pinned 23 = .ok (.iaload, 1) := by decide +kernel
theorem dX8_pinned_24 : decode cX8_pinned 24 = .ok (.iconst 2, 1) := by decide +kernel
theorem dX8_pinned_25 : decode cX8_pinned 25 = .ok (.if_icmp .ne 7, 3) := by decide +kernel
theorem dX8_pinned_28 : decode cX8_pinned 28 = .ok (.iconst 1, 1) := by decide +kernel
theorem dX8_pinned_29 : decode cX8_pinned 29 = .ok (.goto 4, 3) := by decide +kernel
theorem dX8_pinned_32 : decode cX8_pinned 32 = .ok (.iconst 0, 1) := by decide +kernel
theorem dX8_pinned_33 : decode cX8_pinned 33 = .ok (.istore_n 2, 1) := by decide +kernel
theorem dX8_pinned_34 : decode cX8_pinned 34 = .ok (.iload_n 2, 1) := by decide +kernel
theorem dX8_pinned_35 : decode cX8_pinned 35 = .ok (.ifCond .eq 12, 3) := by decide +kernel
theorem dX8_pinned_38 : decode cX8_pinned 38 = .ok (.aload_n 0, 1) := by decide +kernel
theorem dX8_pinned_39 : decode cX8_pinned 39 = .ok (.getfield 38, 3) := by decide +kernel
theorem dX8_pinned_42 : decode cX8_pinned 42 = .ok (.iload_n 1, 1) := by decide +kernel
theorem dX8_pinned_43 : decode cX8_pinned 43 = .ok (.iaload, 1) := by decide +kernel
theorem dX8_pinned_44 : decode cX8_pinned 44 = .ok (.goto 4, 3) := by decide +kernel
theorem dX8_pinned_47 : decode cX8_pinned 47 = .ok (.iconst (-1), 1) := by decide +kernel
theorem dX8_pinned_48 : decode cX8_pinned 48 = .ok (.ireturn, 1) := by decide +kernel
set_option maxRecDepth 20000 in
theorem ggX8_isPinned_X8_pinned : GoodIn wsX8_isPinned wsX8_pinned := goodIn_r _ [6, 7, 8, 9, 10, 11, 12, 13, 14, 15, 16, 17, 18, 19, 20, 21, 22, 23, 24, 25, 26, 27, 28, 29, 30, 31] (by decide +kernel) (by decide +kernel)
set_option maxRecDepth 20000 in
theorem gX8_isPinned_X8_pinned : GoodIn wsX8_isPinned (wsV RX8 112 RX8 yX8_pinned wsX8_pinned) := goodIn_app (goodIn_of _ (by decide +kernel)) ggX8_isPinned_X8_pinned
theorem dX8_isPinned_0 : decode cX8_isPinned 0 = .ok (.iconst 0, 1) := by decide +kernel
theorem dX8_isPinned_1 : decode cX8_isPinned 1 = .ok (.istore_n 2, 1) := by decide +kernel
theorem dX8_isPinned_2 : decode cX8_isPinned 2 = .ok (.iconst 0, 1) := by decide +kernel
theorem dX8_isPinned_3 : decode cX8_isPinned 3 = .ok (.istore_n 3, 1) := by decide +kernel
theorem dX8_isPinned_4 : decode cX8_isPinned 4 = .ok (.iload_n 3, 1) := by decide +kernel
