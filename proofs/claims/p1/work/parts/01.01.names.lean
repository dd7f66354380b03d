theorem dX9_init_125 : decode cX9_init 125 = .ok (.new 65, 3) := by decide +kernel
theorem dX9_init_128 : decode cX9_init 128 = .ok (.dup, 1) := by decide +kernel
theorem dX9_init_129 : decode cX9_init 129 = .ok (.aload_n 0, 1) := by decide +kernel
theorem dX9_init_130 : decode cX9_init 130 = .ok (.getfield 12, 3) := by decide +kernel
theorem dX9_init_133 : decode cX9_init 133 = .ok (.invokespecial 67, 3) := by decide +kernel
theorem dX9_init_136 : decode cX9_init 136 = .ok (.putfield 70, 3) := by decide +kernel
theorem dX9_init_139 : decode cX9_init 139 = .ok (.aload_n 0, 1) := by decide +kernel
theorem dX9_init_140 : decode cX9_init 140 = .ok (.new 65, 3) := by decide +kernel
theorem dX9_init_143 : decode cX9_init 143 = .ok (.dup, 1) := by decide +kernel
theorem dX9_init_144 : decode cX9_init 144 = .ok (.new 9, 3) := by decide +kernel
theorem dX9_init_147 : decode cX9_init 147 = .ok (.dup, 1) := by decide +kernel
theorem dX9_init_148 : decode cX9_init 148 = .ok (.invokespecial 11, 3) := by decide +kernel
theorem dX9_init_151 : decode cX9_init 151 = .ok (.invokespecial 67, 3) := by decide +kernel
theorem dX9_init_154 : decode cX9_init 154 = .ok (.putfield 74, 3) := by decide +kernel
theorem dX9_init_157 : decode cX9_init 157 = .ok (.aload_n 0, 1) := by decide +kernel
theorem dX9_init_158 : decode cX9_init 158 = .ok (.iconst 4, 1) := by decide +kernel
theorem dX9_init_159 : decode cX9_init 159 = .ok (.anewarray 77, 3) := by decide +kernel
theorem dX9_init_162 : decode cX9_init 162 = .ok (.putfield 79, 3) := by decide +kernel
theorem dX9_init_165 : decode cX9_init 165 = .ok (.iconst 0, 1) := by decide +kernel
theorem dX9_init_166 : decode cX9_init 166 = .ok (.istore_n 1, 1) := by decide +kernel
theorem dX9_init_167 : decode cX9_init 167 = .ok (.iload_n 1, 1) := by decide +kernel
theorem dX9_init_168 : decode cX9_init 168 = .ok (.iconst 4, 1) := by decide +kernel
theorem dX9_init_169 : decode cX9_init 169 = .ok (.if_icmp .ge 22, 3) := by decide +kernel
theorem dX9_init_172 : decode cX9_init 172 = .ok (.aload_n 0, 1) := by decide +kernel
theorem dX9_init_173 : decode cX9_init 173 = .ok (.getfield 79, 3) := by decide +kernel
theorem dX9_init_176 : decode cX9_init 176 = .ok (.iload_n 1, 1) := by decide +kernel
theorem dX9_init_177 : decode cX9_init 177 = .ok (.new 77, 3) := by decide +kernel
theorem dX9_init_180 : decode cX9_init 180 = .ok (.dup, 1) := by decide +kernel
theorem dX9_init_181 : decode cX9_init 181 = .ok (.invokespecial 83, 3) := by decide +kernel
theorem dX9_init_184 : decode cX9_init 184 = .ok (.aastore, 1) := by decide +kernel
theorem dX9_init_185 : decode cX9_init 185 = .ok (.iinc 1 1, 3) := by decide +kernel
theorem dX9_init_188 : decode cX9_init 188 = .ok (.goto (-21), 3) := by decide +kernel
theorem dX9_init_191 : decode cX9_init 191 = .ok (.return_, 1) := by decide +kernel
set_option maxRecDepth 20000 in
theorem ggX9_account_X2_isKind : GoodIn wsX9_account wsX2_isKind := goodIn_r _ [7] (by decide +kernel) (by decide +kernel)
set_option maxRecDepth 20000 in
theorem gX9_account_X2_isKind : GoodIn wsX9_account (va_wsS RX9 84 yX2_isKind wsX2_isKind) := goodIn_app (goodIn_of _ (by decide +kernel)) ggX9_account_X2_isKind
set_option maxRecDepth 20000 in
theorem ggX9_account_X9_isWithin : GoodIn wsX9_account wsX9_isWithin := goodIn_r _ [11] (by decide +kernel) (by decide +kernel)
set_option maxRecDepth 20000 in
theorem gX9_account_X9_isWithin : GoodIn wsX9_account (va_wsS RX9 91 yX9_isWithin wsX9_isWithin) := goodIn_app (goodIn_of _ (by decide +kernel)) ggX9_account_X9_isWithin
set_option maxRecDepth 20000 in
theorem ggX9_account_X0_open : GoodIn wsX9_account wsX0_open := goodIn_r _ [16, 17, 18, 19, 20, 21, 22, 23, 24, 38, 39, 40, 41, 42, 43, 44, 45, 46, 47, 48, 49, 50] (by decide +kernel) (by decide +kernel)
set_option maxRecDepth 20000 in
theorem gX9_account_X0_open : GoodIn wsX9_account (wsV RX9 98 RX0 yX0_open wsX0_open) := goodIn_app (goodIn_of _ (by decide +kernel)) ggX9_account_X0_open
theorem dX9_account_0 : decode cX9_account 0 = .ok (.iload_n 1, 1) := by decide +kernel
theorem dX9_account_1 : decode cX9_account 1 = .ok (.invokestatic 84, 3) := by decide +kernel
theorem dX9_account_4 : decode cX9_account 4 = .ok (.ifCond .eq 12, 3) := by decide +kernel
theorem dX9_account_7 : decode cX9_account 7 = .ok (.iload_n 2, 1) := by decide +kernel
theorem dX9_account_8 : decode cX9_account 8 = .ok (.ldc 90, 2) := by decide +kernel
theorem dX9_account_10 : decode cX9_account 10 = .ok (.invokestatic 91, 3) := by decide +kernel
theorem dX9_account_13 : decode cX9_account 13 = .ok (.ifCond .ne 6, 3) := by decide +kernel
theorem dX9_account_16 : decode cX9_account 16 = .ok (.bipush (-2), 2) := by decide +kernel
theorem dX9_account_18 : decode cX9_account 18 = .ok (.ireturn, 1) := by decide +kernel
theorem dX9_account_19 : decode cX9_account 19 = .ok (.aload_n 0, 1) := by decide +kernel
theorem dX9_account_20 : decode cX9_account 20 = .ok (.getfield 12, 3) := by decide +kernel
theorem dX9_account_23 : decode cX9_account 23 = .ok (.getfield 95, 3) := by decide +kernel
theorem dX9_account_26 : decode cX9_account 26 = .ok (.bipush 8, 2) := by decide +kernel
theorem dX9_account_28 : decode cX9_account 28 = .ok (.if_icmp .lt 6, 3) := by decide +kernel
theorem dX9_account_34 : decode cX9_account 34 = .ok (.aload_n 0, 1) := by decide +kernel
theorem dX9_account_35 : decode cX9_account 35 = .ok (.getfield 12, 3) := by decide +kernel
theorem dX9_account_38 : decode cX9_account 38 = .ok (.iload_n 1, 1) := by decide +kernel
theorem dX9_account_39 : decode cX9_account 39 = .ok (.iload_n 2, 1) := by decide +kernel
theorem dX9_account_40 : decode cX9_account 40 = .ok (.invokevirtual 98, 3) := by decide +kernel
theorem dX9_account_43 : decode cX9_account 43 = .ok (.ireturn, 1) := by decide +kernel
set_option maxRecDepth 20000 in
theorem ggX9_set_X0_has : GoodIn wsX9_set wsX0_has := goodIn_r _ [10, 11, 29, 30, 31, 32, 33, 34, 35, 36, 37, 38, 39, 40, 41] (by decide +kernel) (by decide +kernel)
set_option maxRecDepth 20000 in
theorem gX9_set_X0_has : GoodIn wsX9_set (wsV RX9 102 RX0 yX0_has wsX0_has) := goodIn_app (goodIn_of _ (by decide +kernel)) ggX9_set_X0_has
theorem dX9_set_0 : decode cX9_set 0 = .ok (.aload_n 0, 1) := by decide +kernel
theorem dX9_set_1 : decode cX9_set 1 = .ok (.getfield 12, 3) := by decide +kernel
theorem dX9_set_4 : decode cX9_set 4 = .ok (.iload_n 1, 1) := by decide +kernel
theorem dX9_set_5 : decode cX9_set 5 = .ok (.invokevirtual 102, 3) := by decide +kernel
theorem dX9_set_8 : decode cX9_set 8 = .ok (.ifCond .ne 7, 3) := by decide +kernel
theorem dX9_set_11 : decode cX9_set 11 = .ok (.ldc2_w 105, 3) := by decide +kernel
theorem dX9_set_14 : decode cX9_set 14 = .ok (.lreturn, 1) := by decide +kernel
set_option maxRecDepth 20000 in
theorem ggX9_gate_X0_has : GoodIn wsX9_gate wsX0_has := goodIn_r _ [7, 8, 22, 23, 24, 25, 26, 27, 28, 29, 30, 31, 32, 33, 34] (by decide +kernel) (by decide +kernel)
set_option maxRecDepth 20000 in
theorem gX9_gate_X0_has : GoodIn wsX9_gate (wsV RX9 102 RX0 yX0_has wsX0_has) := goodIn_app (goodIn_of _ (by decide +kernel)) ggX9_gate_X0_has
theorem dX9_gate_0 : decode cX9_gate 0 = .ok (.aload_n 0, 1) := by decide +kernel
theorem dX9_gate_1 : decode cX9_gate 1 = .ok (.getfield 12, 3) := by decide +kernel
theorem dX9_gate_4 : decode cX9_gate 4 = .ok (.iload_n 1, 1) := by decide +kernel
theorem dX9_gate_5 : decode cX9_gate 5 = .ok (.invokevirtual 102, 3) := by decide +kernel
theorem dX9_gate_8 : decode cX9_gate 8 = .ok (.ifCond .ne 6, 3) := by decide +kernel
theorem dX9_gate_11 : decode cX9_gate 11 = .ok (.bipush (-2), 2) := by decide +kernel
theorem dX9_gate_13 : decode cX9_gate 13 = .ok (.ireturn, 1) := by decide +kernel
set_option maxRecDepth 20000 in
theorem ggX9_told_X0_has : GoodIn wsX9_told wsX0_has := goodIn_r _ [12, 13, 36, 37, 38, 39, 40, 41, 42, 43, 44, 45, 46, 47, 48] (by decide +kernel) (by decide +kernel)
set_option maxRecDepth 20000 in
theorem gX9_told_X0_has : GoodIn wsX9_told (wsV RX9 102 RX0 yX0_has wsX0_has) := goodIn_app (goodIn_of _ (by decide +kernel)) ggX9_told_X0_has
theorem dX9_told_0 : decode cX9_told 0 = .ok (.aload_n 0, 1) := by decide +kernel
theorem dX9_told_1 : decode cX9_told 1 = .ok (.getfield 12, 3) := by decide +kernel
theorem dX9_told_4 : decode cX9_told 4 = .ok (.iload_n 1, 1) := by decide +kernel
theorem dX9_told_5 : decode cX9_told 5 = .ok (.invokevirtual 102, 3) := by decide +kernel
theorem dX9_told_8 : decode cX9_told 8 = .ok (.ifCond .ne 6, 3) := by decide +kernel
theorem dX9_told_11 : decode cX9_told 11 = .ok (.bipush (-2), 2) := by decide +kernel
theorem dX9_told_13 : decode cX9_told 13 = .ok (.ireturn, 1) := by decide +kernel
set_option maxRecDepth 20000 in
theorem ggX9_of_X0_has : GoodIn wsX9_of wsX0_has := goodIn_r _ [9, 10, 44, 45, 46, 47, 48, 49, 50, 51, 52, 53, 54, 55, 56] (by decide +kernel) (by decide +kernel)
set_option maxRecDepth 20000 in
theorem gX9_of_X0_has : GoodIn wsX9_of (wsV RX9 102 RX0 yX0_has wsX0_has) := goodIn_app (goodIn_of _ (by decide +kernel)) ggX9_of_X0_has
theorem dX9_of_0 : decode cX9_of 0 = .ok (.aload_n 0, 1) := by decide +kernel
theorem dX9_of_1 : decode cX9_of 1 = .ok (.getfield 12, 3) := by decide +kernel
theorem dX9_of_4 : decode cX9_of 4 = .ok (.iload_n 1, 1) := by decide +kernel
theorem dX9_of_5 : decode cX9_of 5 = .ok (.invokevirtual 102, 3) := by decide +kernel
theorem dX9_of_8 : decode cX9_of 8 = .ok (.ifCond .ne 7, 3) := by decide +kernel
theorem dX9_of_11 : decode cX9_of 11 = .ok (.ldc2_w 105, 3) := by decide +kernel
theorem dX9_of_14 : decode cX9_of 14 = .ok (.lreturn, 1) := by decide +kernel
set_option maxRecDepth 20000 in
theorem ggX9_count_X6_keptMarks : GoodIn wsX9_count wsX6_keptMarks := goodIn_r _ [15, 16, 17, 18, 19, 20, 49, 50, 51, 52, 53, 54, 55, 56] (by decide +kernel) (by decide +kernel)
set_option maxRecDepth 20000 in
theorem gX9_count_X6_keptMarks : GoodIn wsX9_count (wsV RX9 156 RX6 yX6_keptMarks wsX6_keptMarks) := goodIn_app (goodIn_of _ (by decide +kernel)) ggX9_count_X6_keptMarks
theorem dX9_count_0 : decode cX9_count 0 = .ok (.iload_n 1, 1) := by decide +kernel
theorem dX9_count_1 : decode cX9_count 1 = .ok (.tableswitch 108 0 7 #[47, 55, 60, 68, 76, 84, 92, 100], 47) := by decide +kernel
theorem dX9_count_48 : decode cX9_count 48 = .ok (.aload_n 0, 1) := by decide +kernel
theorem dX9_count_49 : decode cX9_count 49 = .ok (.getfield 12, 3) := by decide +kernel
theorem dX9_count_52 : decode cX9_count 52 = .ok (.getfield 95, 3) := by decide +kernel
theorem dX9_count_55 : decode cX9_count 55 = .ok (.ireturn, 1) := by decide +kernel
theorem dX9_count_56 : decode cX9_count 56 = .ok (.aload_n 0, 1) := by decide +kernel
theorem dX9_count_57 : decode cX9_count 57 = .ok (.getfield 141, 3) := by decide +kernel
theorem dX9_count_60 : decode cX9_count 60 = .ok (.ireturn, 1) := by decide +kernel
theorem dX9_count_61 : decode cX9_count 61 = .ok (.aload_n 0, 1) := by decide +kernel
theorem dX9_count_62 : decode cX9_count 62 = .ok (.getfield 12, 3) := by decide +kernel
theorem dX9_count_65 : decode cX9_count 65 = .ok (.getfield 144, 3) := by decide +kernel
theorem dX9_count_68 : decode cX9_count 68 = .ok (.ireturn, 1) := by decide +kernel
theorem dX9_count_69 : decode cX9_count 69 = .ok (.aload_n 0, 1) := by decide +kernel
theorem dX9_count_70 : decode cX9_count 70 = .ok (.getfield 12, 3) := by decide +kernel
theorem dX9_count_73 : decode cX9_count 73 = .ok (.getfield 147, 3) := by decide +kernel
theorem dX9_count_76 : decode cX9_count 76 = .ok (.ireturn, 1) := by decide +kernel
theorem dX9_count_77 : decode cX9_count 77 = .ok (.aload_n 0, 1) := by decide +kernel
theorem dX9_count_78 : decode cX9_count 78 = .ok (.getfield 12, 3) := by decide +kernel
theorem dX9_count_81 : decode cX9_count 81 = .ok (.getfield 150, 3) := by decide +kernel
theorem dX9_count_84 : decode cX9_count 84 = .ok (.ireturn, 1) := by decide +kernel
theorem dX9_count_85 : decode cX9_count 85 = .ok (.aload_n 0, 1) := by decide +kernel
theorem dX9_count_86 : decode cX9_count 86 = .ok (.getfield 12, 3) := by decide +kernel
theorem dX9_count_89 : decode cX9_count 89 = .ok (.getfield 153, 3) := by decide +kernel
theorem dX9_count_92 : decode cX9_count 92 = .ok (.ireturn, 1) := by decide +kernel
theorem dX9_count_93 : decode cX9_count 93 = .ok (.aload_n 0, 1) := by decide +kernel
theorem dX9_count_94 : decode cX9_count 94 = .ok (.getfield 70, 3) := by decide +kernel
theorem dX9_count_97 : decode cX9_count 97 = .ok (.invokevirtual 156, 3) := by decide +kernel
theorem dX9_count_100 : decode cX9_count 100 = .ok (.ireturn, 1) := by decide +kernel
theorem dX9_count_101 : decode cX9_count 101 = .ok (.aload_n 0, 1) := by decide +kernel
theorem dX9_count_102 : decode cX9_count 102 = .ok (.getfield 54, 3) := by decide +kernel
theorem dX9_count_105 : decode cX9_count 105 = .ok (.getfield 160, 3) := by decide +kernel
theorem dX9_count_108 : decode cX9_count 108 = .ok (.ireturn, 1) := by decide +kernel
theorem dX9_count_109 : decode cX9_count 109 = .ok (.bipush (-2), 2) := by decide +kernel
theorem dX9_count_111 : decode cX9_count 111 = .ok (.ireturn, 1) := by decide +kernel
set_option maxRecDepth 20000 in
theorem ggX9_sum_X0_allMoney : GoodIn wsX9_sum wsX0_allMoney := goodIn_r _ [9, 10, 11, 12, 32, 33, 34, 35, 36, 37, 38, 39, 40, 41, 42, 43, 44] (by decide +kernel) (by decide +kernel)
set_option maxRecDepth 20000 in
theorem gX9_sum_X0_allMoney : GoodIn wsX9_sum (wsV RX9 167 RX0 yX0_allMoney wsX0_allMoney) := goodIn_app (goodIn_of _ (by decide +kernel)) ggX9_sum_X0_allMoney
set_option maxRecDepth 20000 in
theorem ggX9_sum_X1_total : GoodIn wsX9_sum wsX1_total := goodIn_r _ [17, 18, 45] (by decide +kernel) (by decide +kernel)
set_option maxRecDepth 20000 in
theorem gX9_sum_X1_total : GoodIn wsX9_sum (wsV RX9 171 RX1 yX1_total wsX1_total) := goodIn_app (goodIn_of _ (by decide +kernel)) ggX9_sum_X1_total
theorem dX9_sum_0 : decode cX9_sum 0 = .ok (.iload_n 1, 1) := by decide +kernel
theorem dX9_sum_1 : decode cX9_sum 1 = .ok (.tableswitch 51 0 2 #[27, 35, 43], 27) := by decide +kernel
theorem dX9_sum_28 : decode cX9_sum 28 = .ok (.aload_n 0, 1) := by decide +kernel
theorem dX9_sum_29 : decode cX9_sum 29 = .ok (.getfield 12, 3) := by decide +kernel
theorem dX9_sum_32 : decode cX9_sum 32 = .ok (.getfield 163, 3) := by decide +kernel
theorem dX9_sum_35 : decode cX9_sum 35 = .ok (.lreturn, 1) := by decide +kernel
theorem dX9_sum_36 : decode cX9_sum 36 = .ok (.aload_n 0, 1) := by decide +kernel
theorem dX9_sum_37 : decode cX9_sum 37 = .ok (.getfield 12, 3) := by decide +kernel
theorem dX9_sum_40 : decode cX9_sum 40 = .ok (.invokevirtual 167, 3) := by decide +kernel
theorem dX9_sum_43 : decode cX9_sum 43 = .ok (.lreturn, 1) := by decide +kernel
theorem dX9_sum_44 : decode cX9_sum 44 = .ok (.aload_n 0, 1) := by decide +kernel
theorem dX9_sum_45 : decode cX9_sum 45 = .ok (.getfield 24, 3) := by decide +kernel
theorem dX9_sum_48 : decode cX9_sum 48 = .ok (.invokevirtual 171, 3) := by decide +kernel
theorem dX9_sum_51 : decode cX9_sum 51 = .ok (.lreturn, 1) := by decide +kernel
theorem dX9_sum_52 : decode cX9_sum 52 = .ok (.ldc2_w 105, 3) := by decide +kernel
theorem dX9_sum_55 : decode cX9_sum 55 = .ok (.lreturn, 1) := by decide +kernel
set_option maxRecDepth 20000 in
theorem ggX9_taken_X0_has : GoodIn wsX9_taken wsX0_has := goodIn_r _ [8, 9, 30, 31, 32, 33, 34, 35, 36, 37, 38, 39, 40, 41, 42] (by decide +kernel) (by decide +kernel)
set_option maxRecDepth 20000 in
theorem gX9_taken_X0_has : GoodIn wsX9_taken (wsV RX9 102 RX0 yX0_has wsX0_has) := goodIn_app (goodIn_of _ (by decide +kernel)) ggX9_taken_X0_has
theorem dX9_taken_0 : decode cX9_taken 0 = .ok (.aload_n 0, 1) := by decide +kernel
theorem dX9_taken_1 : decode cX9_taken 1 = .ok (.getfield 12, 3) := by decide +kernel
theorem dX9_taken_4 : decode cX9_taken 4 = .ok (.iload_n 1, 1) := by decide +kernel
theorem dX9_taken_5 : decode cX9_taken 5 = .ok (.invokevirtual 102, 3) := by decide +kernel
theorem dX9_taken_8 : decode cX9_taken 8 = .ok (.ifCond .eq 10, 3) := by decide +kernel
theorem dX9_taken_18 : decode cX9_taken 18 = .ok (.bipush (-2), 2) := by decide +kernel
theorem dX9_taken_20 : decode cX9_taken 20 = .ok (.ireturn, 1) := by decide +kernel
set_option maxRecDepth 20000 in
theorem ggX9_feed_X9_isByte : GoodIn wsX9_feed wsX9_isByte := goodIn_r _ [6, 7, 8, 5, 9] (by decide +kernel) (by decide +kernel)
set_option maxRecDepth 20000 in
theorem gX9_feed_X9_isByte : GoodIn wsX9_feed (va_wsS RX9 177 yX9_isByte wsX9_isByte) := goodIn_app (goodIn_of _ (by decide +kernel)) ggX9_feed_X9_isByte
set_option maxRecDepth 20000 in
theorem ggX9_feed_X8_add : GoodIn wsX9_feed wsX8_add := goodIn_r _ [14, 15, 16, 30, 31] (by decide +kernel) (by decide +kernel)
set_option maxRecDepth 20000 in
theorem gX9_feed_X8_add : GoodIn wsX9_feed (wsV RX9 180 RX8 yX8_add wsX8_add) := goodIn_app (goodIn_of _ (by decide +kernel)) ggX9_feed_X8_add
theorem dX9_feed_0 : decode cX9_feed 0 = .ok (.iload_n 1, 1) := by decide +kernel
theorem dX9_feed_1 : decode cX9_feed 1 = .ok (.iconst 1, 1) := by decide +kernel
theorem dX9_feed_2 : decode cX9_feed 2 = .ok (.if_icmp .lt 8, 3) := by decide +kernel
theorem dX9_feed_5 : decode cX9_feed 5 = .ok (.iload_n 1, 1) := by decide +kernel
theorem dX9_feed_6 : decode cX9_feed 6 = .ok (.iconst 5, 1) := by decide +kernel
theorem dX9_feed_7 : decode cX9_feed 7 = .ok (.if_icmp .le 6, 3) := by decide +kernel
theorem dX9_feed_10 : decode cX9_feed 10 = .ok (.bipush (-2), 2) := by decide +kernel
theorem dX9_feed_12 : decode cX9_feed 12 = .ok (.ireturn, 1) := by decide +kernel
theorem dX9_feed_13 : decode cX9_feed 13 = .ok (.iload_n 2, 1) := by decide +kernel
theorem dX9_feed_14 : decode cX9_feed 14 = .ok (.invokestatic 177, 3) := by decide +kernel
theorem dX9_feed_17 : decode cX9_feed 17 = .ok (.ifCond .eq 34, 3) := by decide +kernel
theorem dX9_feed_20 : decode cX9_feed 20 = .ok (.iload_n 3, 1) := by decide +kernel
theorem dX9_feed_21 : decode cX9_feed 21 = .ok (.invokestatic 177, 3) := by decide +kernel
theorem dX9_feed_24 : decode cX9_feed 24 = .ok (.ifCond .eq 27, 3) := by decide +kernel
theorem dX9_feed_27 : decode cX9_feed 27 = .ok (.iload 4, 2) := by decide +kernel
theorem dX9_feed_29 : decode cX9_feed 29 = .ok (.invokestatic 177, 3) := by decide +kernel
theorem dX9_feed_32 : decode cX9_feed 32 = .ok (.ifCond .eq 19, 3) := by decide +kernel
theorem dX9_feed_35 : decode cX9_feed 35 = .ok (.iload 5, 2) := by decide +kernel
theorem dX9_feed_37 : decode cX9_feed 37 = .ok (.invokestatic 177, 3) := by decide +kernel
theorem dX9_feed_40 : decode cX9_feed 40 = .ok (.ifCond .eq 11, 3) := by decide +kernel
theorem dX9_feed_43 : decode cX9_feed 43 = .ok (.iload 6, 2) := by decide +kernel
theorem dX9_feed_45 : decode cX9_feed 45 = .ok (.invokestatic 177, 3) := by decide +kernel
theorem dX9_feed_48 : decode cX9_feed 48 = .ok (.ifCond .ne 6, 3) := by decide +kernel
theorem dX9_feed_51 : decode cX9_feed 51 = .ok (.bipush (-2), 2) := by decide +kernel
theorem dX9_feed_53 : decode cX9_feed 53 = .ok (.ireturn, 1) := by decide +kernel
theorem dX9_feed_54 : decode cX9_feed 54 = .ok (.aload_n 0, 1) := by decide +kernel
theorem dX9_feed_55 : decode cX9_feed 55 = .ok (.getfield 54, 3) := by decide +kernel
theorem dX9_feed_58 : decode cX9_feed 58 = .ok (.getfield 160, 3) := by decide +kernel
theorem dX9_feed_61 : decode cX9_feed 61 = .ok (.iload_n 1, 1) := by decide +kernel
theorem dX9_feed_62 : decode cX9_feed 62 = .ok (.iadd, 1) := by decide +kernel
theorem dX9_feed_63 : decode cX9_feed 63 = .ok (.bipush 80, 2) := by decide +kernel
theorem dX9_feed_65 : decode cX9_feed 65 = .ok (.if_icmp .le 6, 3) := by decide +kernel
theorem dX9_feed_71 : decode cX9_feed 71 = .ok (.aload_n 0, 1) := by decide +kernel
theorem dX9_feed_72 : decode cX9_feed 72 = .ok (.getfield 54, 3) := by decide +kernel
theorem dX9_feed_75 : decode cX9_feed 75 = .ok (.iload_n 2, 1) := by decide +kernel
theorem dX9_feed_76 : decode cX9_feed 76 = .ok (.invokevirtual 180, 3) := by decide +kernel
theorem dX9_feed_79 : decode cX9_feed 79 = .ok (.iload_n 1, 1) := by decide +kernel
theorem dX9_feed_80 : decode cX9_feed 80 = .ok (.iconst 1, 1) := by decide +kernel
theorem dX9_feed_81 : decode cX9_feed 81 = .ok (.if_icmp .le 11, 3) := by decide +kernel
theorem dX9_feed_84 : decode cX9_feed 84 = .ok (.aload_n 0, 1) := by decide +kernel
theorem dX9_feed_85 : decode cX9_feed 85 = .ok (.getfield 54, 3) := by decide +kernel
theorem dX9_feed_88 : decode cX9_feed 88 = .ok (.iload_n 3, 1) := by decide +kernel
theorem dX9_feed_89 : decode cX9_feed 89 = .ok (.invokevirtual 180, 3) := by decide +kernel
theorem dX9_feed_92 : decode cX9_feed 92 = .ok (.iload_n 1, 1) := by decide +kernel
theorem dX9_feed_93 : decode cX9_feed 93 = .ok (.iconst 2, 1) := by decide +kernel
theorem dX9_feed_94 : decode cX9_feed 94 = .ok (.if_icmp .le 12, 3) := by decide +kernel
theorem dX9_feed_97 : decode cX9_feed 97 = .ok (.aload_n 0, 1) := by decide +kernel
theorem dX9_feed_98 : decode cX9_feed 98 = .ok (.getfield 54, 3) := by decide +kernel
theorem dX9_feed_101 : decode cX9_feed 101 = .ok (.iload 4, 2) := by decide +kernel
theorem dX9_feed_103 : decode cX9_feed 103 = .ok (.invokevirtual 180, 3) := by decide +kernel
theorem dX9_feed_106 : decode cX9_feed 106 = .ok (.iload_n 1, 1) := by decide +kernel
theorem dX9_feed_107 : decode cX9_feed 107 = .ok (.iconst 3, 1) := by decide +kernel
theorem dX9_feed_108 : decode cX9_feed 108 = .ok (.if_icmp .le 12, 3) := by decide +kernel
theorem dX9_feed_111 : decode cX9_feed 111 = .ok (.aload_n 0, 1) := by decide +kernel
theorem dX9_feed_112 : decode cX9_feed 112 = .ok (.getfield 54, 3) := by decide +kernel
theorem dX9_feed_115 : decode cX9_feed 115 = .ok (.iload 5, 2) := by decide +kernel
theorem dX9_feed_117 : decode cX9_feed 117 = .ok (.invokevirtual 180, 3) := by decide +kernel
theorem dX9_feed_120 : decode cX9_feed 120 = .ok (.iload_n 1, 1) := by decide +kernel
theorem dX9_feed_121 : decode cX9_feed 121 = .ok (.iconst 4, 1) := by decide +kernel
theorem dX9_feed_122 : decode cX9_feed 122 = .ok (.if_icmp .le 12, 3) := by decide +kernel
theorem dX9_feed_125 : decode cX9_feed 125 = .ok (.aload_n 0, 1) := by decide +kernel
theorem dX9_feed_126 : decode cX9_feed 126 = .ok (.getfield 54, 3) := by decide +kernel
theorem dX9_feed_129 : decode cX9_feed 129 = .ok (.iload 6, 2) := by decide +kernel
theorem dX9_feed_131 : decode cX9_feed 131 = .ok (.invokevirtual 180, 3) := by decide +kernel
theorem dX9_feed_134 : decode cX9_feed 134 = .ok (.aload_n 0, 1) := by decide +kernel
theorem dX9_feed_135 : decode cX9_feed 135 = .ok (.getfield 54, 3) := by decide +kernel
theorem dX9_feed_138 : decode cX9_feed 138 = .ok (.getfield 160, 3) := by decide +kernel
theorem dX9_feed_141 : decode cX9_feed 141 = .ok (.ireturn, 1) := by decide +kernel
set_option maxRecDepth 20000 in
theorem ggX9_program_X3_takeOver : GoodIn wsX9_program wsX3_takeOver := goodIn_r _ [10, 11, 12, 13, 14, 15, 16, 17, 18, 84, 85, 86, 87, 88] (by decide +kernel) (by decide +kernel)
set_option maxRecDepth 20000 in
theorem gX9_program_X3_takeOver : GoodIn wsX9_program (wsV RX9 184 RX3 yX3_takeOver wsX3_takeOver) := goodIn_app (goodIn_of _ (by decide +kernel)) ggX9_program_X3_takeOver
set_option maxRecDepth 20000 in
theorem ggX9_program_X4_faultOf : GoodIn wsX9_program wsX4_faultOf := goodIn_r _ [23, 24, 25, 26, 27, 28, 29, 30, 31, 22, 32, 33, 34, 35, 9, 36, 18, 12, 37, 38, 39, 40, 41, 42, 43, 44, 45, 46, 47, 48, 49, 50, 51, 52, 53, 54, 55, 56, 57, 58, 59, 60, 61, 62, 63, 64, 65, 66, 67, 68, 69, 70, 89, 90, 91, 92, 93, 86, 87, 88] (by decide +kernel) (by decide +kernel)
set_option maxRecDepth 20000 in
theorem gX9_program_X4_faultOf : GoodIn wsX9_program (wsV RX9 188 RX4 yX4_faultOf wsX4_faultOf) := goodIn_app (goodIn_of _ (by decide +kernel)) ggX9_program_X4_faultOf
theorem dX9_program_0 : decode cX9_program 0 = .ok (.aload_n 0, 1) := by decide +kernel
theorem dX9_program_1 : decode cX9_program 1 = .ok (.getfield 141, 3) := by decide +kernel
theorem dX9_program_4 : decode cX9_program 4 = .ok (.iconst 4, 1) := by decide +kernel
theorem dX9_program_5 : decode cX9_program 5 = .ok (.if_icmp .lt 6, 3) := by decide +kernel
theorem dX9_program_11 : decode cX9_program 11 = .ok (.aload_n 0, 1) := by decide +kernel
theorem dX9_program_12 : decode cX9_program 12 = .ok (.getfield 42, 3) := by decide +kernel
theorem dX9_program_15 : decode cX9_program 15 = .ok (.aload_n 0, 1) := by decide +kernel
theorem dX9_program_16 : decode cX9_program 16 = .ok (.getfield 141, 3) := by decide +kernel
theorem dX9_program_19 : decode cX9_program 19 = .ok (.aaload, 1) := by decide +kernel
theorem dX9_program_20 : decode cX9_program 20 = .ok (.astore_n 1, 1) := by decide +kernel
theorem dX9_program_21 : decode cX9_program 21 = .ok (.aload_n 1, 1) := by decide +kernel
theorem dX9_program_22 : decode cX9_program 22 = .ok (.aload_n 0, 1) := by decide +kernel
theorem dX9_program_23 : decode cX9_program 23 = .ok (.getfield 54, 3) := by decide +kernel
theorem dX9_program_26 : decode cX9_program 26 = .ok (.invokevirtual 184, 3) := by decide +kernel
theorem dX9_program_29 : decode cX9_program 29 = .ok (.aload_n 0, 1) := by decide +kernel
theorem dX9_program_30 : decode cX9_program 30 = .ok (.getfield 54, 3) := by decide +kernel
theorem dX9_program_33 : decode cX9_program 33 = .ok (.iconst 0, 1) := by decide +kernel
theorem dX9_program_34 : decode cX9_program 34 = .ok (.putfield 160, 3) := by decide +kernel
theorem dX9_program_37 : decode cX9_program 37 = .ok (.aload_n 0, 1) := by decide +kernel
theorem dX9_program_38 : decode cX9_program 38 = .ok (.getfield 61, 3) := by decide +kernel
theorem dX9_program_41 : decode cX9_program 41 = .ok (.aload_n 1, 1) := by decide +kernel
theorem dX9_program_42 : decode cX9_program 42 = .ok (.invokevirtual 188, 3) := by decide +kernel
theorem dX9_program_45 : decode cX9_program 45 = .ok (.istore_n 2, 1) := by decide +kernel
theorem dX9_program_46 : decode cX9_program 46 = .ok (.iload_n 2, 1) := by decide +kernel
theorem dX9_program_47 : decode cX9_program 47 = .ok (.iconst (-1), 1) := by decide +kernel
theorem dX9_program_48 : decode cX9_program 48 = .ok (.if_icmp .eq 8, 3) := by decide +kernel
theorem dX9_program_51 : decode cX9_program 51 = .ok (.bipush (-100), 2) := by decide +kernel
theorem dX9_program_53 : decode cX9_program 53 = .ok (.iload_n 2, 1) := by decide +kernel
theorem dX9_program_54 : decode cX9_program 54 = .ok (.isub, 1) := by decide +kernel
theorem dX9_program_55 : decode cX9_program 55 = .ok (.ireturn, 1) := by decide +kernel
set_option maxRecDepth 20000 in
theorem ggX9_run_X9_isProgram : GoodIn wsX9_run wsX9_isProgram := goodIn_r _ [7, 8, 143, 144, 145, 146, 147, 148, 149, 150, 151, 152, 153, 154, 155] (by decide +kernel) (by decide +kernel)
set_option maxRecDepth 20000 in
theorem gX9_run_X9_isProgram : GoodIn wsX9_run (wsV RX9 192 RX9 yX9_isProgram wsX9_isProgram) := goodIn_app (goodIn_of _ (by decide +kernel)) ggX9_run_X9_isProgram
theorem dX9_run_0 : decode cX9_run 0 = .ok (.aload_n 0, 1) := by decide +kernel
theorem dX9_run_1 : decode cX9_run 1 = .ok (.iload_n 1, 1) := by decide +kernel
theorem dX9_run_2 : decode cX9_run 2 = .ok (.invokevirtual 192, 3) := by decide +kernel
theorem dX9_run_5 : decode cX9_run 5 = .ok (.ifCond .ne 6, 3) := by decide +kernel
theorem dX9_run_8 : decode cX9_run 8 = .ok (.bipush (-2), 2) := by decide +kernel
theorem dX9_run_10 : decode cX9_run 10 = .ok (.ireturn, 1) := by decide +kernel
set_option maxRecDepth 20000 in
theorem ggX9_trace_X6_keptMarks : GoodIn wsX9_trace wsX6_keptMarks := goodIn_r _ [7, 8, 9, 10, 11, 12, 26, 27, 28, 29, 30, 31, 32, 33] (by decide +kernel) (by decide +kernel)
set_option maxRecDepth 20000 in
theorem gX9_trace_X6_keptMarks : GoodIn wsX9_trace (wsV RX9 156 RX6 yX6_keptMarks wsX6_keptMarks) := goodIn_app (goodIn_of _ (by decide +kernel)) ggX9_trace_X6_keptMarks
theorem dX9_trace_0 : decode cX9_trace 0 = .ok (.iload_n 1, 1) := by decide +kernel
theorem dX9_trace_1 : decode cX9_trace 1 = .ok (.ifCond .lt 14, 3) := by decide +kernel
theorem dX9_trace_4 : decode cX9_trace 4 = .ok (.iload_n 1, 1) := by decide +kernel
theorem dX9_trace_5 : decode cX9_trace 5 = .ok (.aload_n 0, 1) := by decide +kernel
theorem dX9_trace_6 : decode cX9_trace 6 = .ok (.getfield 70, 3) := by decide +kernel
theorem dX9_trace_9 : decode cX9_trace 9 = .ok (.invokevirtual 156, 3) := by decide +kernel
theorem dX9_trace_12 : decode cX9_trace 12 = .ok (.if_icmp .lt 6, 3) := by decide +kernel
theorem dX9_trace_15 : decode cX9_trace 15 = .ok (.bipush (-12), 2) := by decide +kernel
theorem dX9_trace_17 : decode cX9_trace 17 = .ok (.ireturn, 1) := by decide +kernel
set_option maxRecDepth 20000 in
theorem ggX9_would_X9_isProgram : GoodIn wsX9_would wsX9_isProgram := goodIn_r _ [12, 13, 179, 180, 181, 182, 183, 184, 185, 186, 187, 188, 189, 190, 191] (by decide +kernel) (by decide +kernel)
set_option maxRecDepth 20000 in
theorem gX9_would_X9_isProgram : GoodIn wsX9_would (wsV RX9 192 RX9 yX9_isProgram wsX9_isProgram) := goodIn_app (goodIn_of _ (by decide +kernel)) ggX9_would_X9_isProgram
theorem dX9_would_0 : decode cX9_would 0 = .ok (.aload_n 0, 1) := by decide +kernel
theorem dX9_would_1 : decode cX9_would 1 = .ok (.iload_n 1, 1) := by decide +kernel
theorem dX9_would_2 : decode cX9_would 2 = .ok (.invokevirtual 192, 3) := by decide +kernel
theorem dX9_would_5 : decode cX9_would 5 = .ok (.ifCond .eq 11, 3) := by decide +kernel
theorem dX9_would_16 : decode cX9_would 16 = .ok (.ldc2_w 105, 3) := by decide +kernel
theorem dX9_would_19 : decode cX9_would 19 = .ok (.lreturn, 1) := by decide +kernel
set_option maxRecDepth 20000 in
theorem ggX9_needed_X9_isProgram : GoodIn wsX9_needed wsX9_isProgram := goodIn_r _ [10, 11, 161, 162, 163, 164, 165, 166, 167, 168, 169, 170, 171, 172, 173] (by decide +kernel) (by decide +kernel)
set_option maxRecDepth 20000 in
theorem gX9_needed_X9_isProgram : GoodIn wsX9_needed (wsV RX9 192 RX9 yX9_isProgram wsX9_isProgram) := goodIn_app (goodIn_of _ (by decide +kernel)) ggX9_needed_X9_isProgram
theorem dX9_needed_0 : decode cX9_needed 0 = .ok (.aload_n 0, 1) := by decide +kernel
theorem dX9_needed_1 : decode cX9_needed 1 = .ok (.iload_n 1, 1) := by decide +kernel
theorem dX9_needed_2 : decode cX9_needed 2 = .ok (.invokevirtual 192, 3) := by decide +kernel
theorem dX9_needed_5 : decode cX9_needed 5 = .ok (.ifCond .eq 14, 3) := by decide +kernel
theorem dX9_needed_19 : decode cX9_needed 19 = .ok (.bipush (-2), 2) := by decide +kernel
theorem dX9_needed_21 : decode cX9_needed 21 = .ok (.ireturn, 1) := by decide +kernel
set_option maxRecDepth 20000 in
theorem ggX9_hinges_X9_isProgram : GoodIn wsX9_hinges wsX9_isProgram := goodIn_r _ [11, 12, 165, 166, 167, 168, 169, 170, 171, 172, 173, 174, 175, 176, 177] (by decide +kernel) (by decide +kernel)
set_option maxRecDepth 20000 in
theorem gX9_hinges_X9_isProgram : GoodIn wsX9_hinges (wsV RX9 192 RX9 yX9_isProgram wsX9_isProgram) := goodIn_app (goodIn_of _ (by decide +kernel)) ggX9_hinges_X9_isProgram
theorem dX9_hinges_0 : decode cX9_hinges 0 = .ok (.aload_n 0, 1) := by decide +kernel
theorem dX9_hinges_1 : decode cX9_hinges 1 = .ok (.iload_n 1, 1) := by decide +kernel
theorem dX9_hinges_2 : decode cX9_hinges 2 = .ok (.invokevirtual 192, 3) := by decide +kernel
theorem dX9_hinges_5 : decode cX9_hinges 5 = .ok (.ifCond .ne 6, 3) := by decide +kernel
theorem dX9_hinges_8 : decode cX9_hinges 8 = .ok (.bipush (-2), 2) := by decide +kernel
theorem dX9_hinges_10 : decode cX9_hinges 10 = .ok (.ireturn, 1) := by decide +kernel
set_option maxRecDepth 20000 in
theorem ggX9_owe_X9_isPair : GoodIn wsX9_owe wsX9_isPair := goodIn_r _ [7, 8, 9, 10, 11, 12, 13, 14, 28, 29, 30, 31, 32, 33, 34, 35, 36, 37, 38, 39, 40, 41, 42, 43, 44, 45, 46, 47, 48, 49, 50, 51, 52, 53] (by decide +kernel) (by decide +kernel)
set_option maxRecDepth 20000 in
theorem gX9_owe_X9_isPair : GoodIn wsX9_owe (wsV RX9 217 RX9 yX9_isPair wsX9_isPair) := goodIn_app (goodIn_of _ (by decide +kernel)) ggX9_owe_X9_isPair
theorem dX9_owe_0 : decode cX9_owe 0 = .ok (.aload_n 0, 1) := by decide +kernel
theorem dX9_owe_1 : decode cX9_owe 1 = .ok (.iload_n 1, 1) := by decide +kernel
theorem dX9_owe_2 : decode cX9_owe 2 = .ok (.iload_n 2, 1) := by decide +kernel
theorem dX9_owe_3 : decode cX9_owe 3 = .ok (.invokevirtual 217, 3) := by decide +kernel
theorem dX9_owe_6 : decode cX9_owe 6 = .ok (.ifCond .eq 12, 3) := by decide +kernel
theorem dX9_owe_18 : decode cX9_owe 18 = .ok (.bipush (-2), 2) := by decide +kernel
theorem dX9_owe_20 : decode cX9_owe 20 = .ok (.ireturn, 1) := by decide +kernel
set_option maxRecDepth 20000 in
theorem ggX9_owed_X9_isPair : GoodIn wsX9_owed wsX9_isPair := goodIn_r _ [6, 7, 8, 9, 10, 11, 12, 13, 20, 21, 22, 23, 24, 25, 26, 27, 28, 29, 30, 31, 32, 33, 34, 35, 36, 37, 38, 39, 40, 41, 42, 43, 44, 45] (by decide +kernel) (by decide +kernel)
set_option maxRecDepth 20000 in
theorem gX9_owed_X9_isPair : GoodIn wsX9_owed (wsV RX9 217 RX9 yX9_isPair wsX9_isPair) := goodIn_app (goodIn_of _ (by decide +kernel)) ggX9_owed_X9_isPair
theorem dX9_owed_0 : decode cX9_owed 0 = .ok (.aload_n 0, 1) := by decide +kernel
theorem dX9_owed_1 : decode cX9_owed 1 = .ok (.iload_n 1, 1) := by decide +kernel
theorem dX9_owed_2 : decode cX9_owed 2 = .ok (.iload_n 2, 1) := by decide +kernel
theorem dX9_owed_3 : decode cX9_owed 3 = .ok (.invokevirtual 217, 3) := by decide +kernel
theorem dX9_owed_6 : decode cX9_owed 6 = .ok (.ifCond .ne 6, 3) := by decide +kernel
theorem dX9_owed_9 : decode cX9_owed 9 = .ok (.bipush (-2), 2) := by decide +kernel
theorem dX9_owed_11 : decode cX9_owed 11 = .ok (.ireturn, 1) := by decide +kernel
set_option maxRecDepth 20000 in
theorem ggX9_net_X0_hasAllGates : GoodIn wsX9_net wsX0_hasAllGates := goodIn_r _ [8, 9, 10, 74, 75, 76, 77, 78, 79, 80, 81, 82, 83, 84, 85, 86] (by decide +kernel) (by decide +kernel)
set_option maxRecDepth 20000 in
theorem gX9_net_X0_hasAllGates : GoodIn wsX9_net (wsV RX9 228 RX0 yX0_hasAllGates wsX0_hasAllGates) := goodIn_app (goodIn_of _ (by decide +kernel)) ggX9_net_X0_hasAllGates
set_option maxRecDepth 20000 in
theorem ggX9_net_X0_enterAll : GoodIn wsX9_net wsX0_enterAll := goodIn_r _ [14, 9, 15, 74, 75, 76, 77, 78, 79, 80, 81, 82, 83, 84, 85, 86] (by decide +kernel) (by decide +kernel)
set_option maxRecDepth 20000 in
theorem gX9_net_X0_enterAll : GoodIn wsX9_net (wsV RX9 232 RX0 yX0_enterAll wsX0_enterAll) := goodIn_app (goodIn_of _ (by decide +kernel)) ggX9_net_X0_enterAll
set_option maxRecDepth 20000 in
theorem ggX9_net_X5_cutAll : GoodIn wsX9_net wsX5_cutAll := goodIn_r _ [20, 21, 22, 23, 19, 24, 25, 26, 27, 28, 29, 30, 31, 32, 33, 34, 35, 36, 37, 38, 39, 40, 41, 42, 43, 44, 45, 46, 47, 48, 49, 50, 51, 52, 53, 54, 55, 87, 88, 89, 90, 91] (by decide +kernel) (by decide +kernel)
set_option maxRecDepth 20000 in
theorem gX9_net_X5_cutAll : GoodIn wsX9_net (wsV RX9 235 RX5 yX5_cutAll wsX5_cutAll) := goodIn_app (goodIn_of _ (by decide +kernel)) ggX9_net_X5_cutAll
set_option maxRecDepth 20000 in
theorem ggX9_net_X0_leaveAll : GoodIn wsX9_net wsX0_leaveAll := goodIn_r _ [59, 9, 60, 74, 75, 76, 77, 78, 79, 80, 81, 82, 83, 84, 85, 86] (by decide +kernel) (by decide +kernel)
set_option maxRecDepth 20000 in
theorem gX9_net_X0_leaveAll : GoodIn wsX9_net (wsV RX9 238 RX0 yX0_leaveAll wsX0_leaveAll) := goodIn_app (goodIn_of _ (by decide +kernel)) ggX9_net_X0_leaveAll
theorem dX9_net_0 : decode cX9_net 0 = .ok (.aload_n 0, 1) := by decide +kernel
theorem dX9_net_1 : decode cX9_net 1 = .ok (.getfield 12, 3) := by decide +kernel
theorem dX9_net_4 : decode cX9_net 4 = .ok (.invokevirtual 228, 3) := by decide +kernel
theorem dX9_net_7 : decode cX9_net 7 = .ok (.ifCond .ne 6, 3) := by decide +kernel
theorem dX9_net_13 : decode cX9_net 13 = .ok (.aload_n 0, 1) := by decide +kernel
theorem dX9_net_14 : decode cX9_net 14 = .ok (.getfield 12, 3) := by decide +kernel
theorem dX9_net_17 : decode cX9_net 17 = .ok (.invokevirtual 232, 3) := by decide +kernel
theorem dX9_net_20 : decode cX9_net 20 = .ok (.aload_n 0, 1) := by decide +kernel
theorem dX9_net_21 : decode cX9_net 21 = .ok (.getfield 36, 3) := by decide +kernel
theorem dX9_net_24 : decode cX9_net 24 = .ok (.aload_n 0, 1) := by decide +kernel
theorem dX9_net_25 : decode cX9_net 25 = .ok (.getfield 12, 3) := by decide +kernel
theorem dX9_net_28 : decode cX9_net 28 = .ok (.getfield 95, 3) := by decide +kernel
theorem dX9_net_31 : decode cX9_net 31 = .ok (.invokevirtual 235, 3) := by decide +kernel
theorem dX9_net_34 : decode cX9_net 34 = .ok (.istore_n 1, 1) := by decide +kernel
theorem dX9_net_35 : decode cX9_net 35 = .ok (.aload_n 0, 1) := by decide +kernel
theorem dX9_net_36 : decode cX9_net 36 = .ok (.getfield 12, 3) := by decide +kernel
theorem dX9_net_39 : decode cX9_net 39 = .ok (.invokevirtual 238, 3) := by decide +kernel
theorem dX9_net_42 : decode cX9_net 42 = .ok (.iload_n 1, 1) := by decide +kernel
theorem dX9_net_43 : decode cX9_net 43 = .ok (.ireturn, 1) := by decide +kernel
set_option maxRecDepth 20000 in
theorem ggX9_tells_X9_isSheet : GoodIn wsX9_tells wsX9_isSheet := goodIn_r _ [9] (by decide +kernel) (by decide +kernel)
set_option maxRecDepth 20000 in
theorem gX9_tells_X9_isSheet : GoodIn wsX9_tells (va_wsS RX9 241 yX9_isSheet wsX9_isSheet) := goodIn_app (goodIn_of _ (by decide +kernel)) ggX9_tells_X9_isSheet
set_option maxRecDepth 20000 in
theorem ggX9_tells_X9_isProgram : GoodIn wsX9_tells wsX9_isProgram := goodIn_r _ [13, 14, 195, 196, 197, 198, 199, 200, 201, 202, 203, 204, 205, 206, 207] (by decide +kernel) (by decide +kernel)
set_option maxRecDepth 20000 in
theorem gX9_tells_X9_isProgram : GoodIn wsX9_tells (wsV RX9 192 RX9 yX9_isProgram wsX9_isProgram) := goodIn_app (goodIn_of _ (by decide +kernel)) ggX9_tells_X9_isProgram
theorem dX9_tells_0 : decode cX9_tells 0 = .ok (.iload_n 1, 1) := by decide +kernel
theorem dX9_tells_1 : decode cX9_tells 1 = .ok (.invokestatic 241, 3) := by decide +kernel
theorem dX9_tells_4 : decode cX9_tells 4 = .ok (.ifCond .eq 22, 3) := by decide +kernel
theorem dX9_tells_7 : decode cX9_tells 7 = .ok (.aload_n 0, 1) := by decide +kernel
theorem dX9_tells_8 : decode cX9_tells 8 = .ok (.iload_n 2, 1) := by decide +kernel
theorem dX9_tells_9 : decode cX9_tells 9 = .ok (.invokevirtual 192, 3) := by decide +kernel
theorem dX9_tells_12 : decode cX9_tells 12 = .ok (.ifCond .eq 14, 3) := by decide +kernel
theorem dX9_tells_26 : decode cX9_tells 26 = .ok (.bipush (-2), 2) := by decide +kernel
theorem dX9_tells_28 : decode cX9_tells 28 = .ok (.ireturn, 1) := by decide +kernel
set_option maxRecDepth 20000 in
theorem ggX9_film_X9_isSheet : GoodIn wsX9_film wsX9_isSheet := goodIn_r _ [7] (by decide +kernel) (by decide +kernel)
set_option maxRecDepth 20000 in
theorem gX9_film_X9_isSheet : GoodIn wsX9_film (va_wsS RX9 241 yX9_isSheet wsX9_isSheet) := goodIn_app (goodIn_of _ (by decide +kernel)) ggX9_film_X9_isSheet
set_option maxRecDepth 20000 in
theorem ggX9_film_X9_isProgram : GoodIn wsX9_film wsX9_isProgram := goodIn_r _ [11, 12, 188, 189, 190, 191, 192, 193, 194, 195, 196, 197, 198, 199, 200] (by decide +kernel) (by decide +kernel)
set_option maxRecDepth 20000 in
theorem gX9_film_X9_isProgram : GoodIn wsX9_film (wsV RX9 192 RX9 yX9_isProgram wsX9_isProgram) := goodIn_app (goodIn_of _ (by decide +kernel)) ggX9_film_X9_isProgram
theorem dX9_film_0 : decode cX9_film 0 = .ok (.iload_n 1, 1) := by decide +kernel
theorem dX9_film_1 : decode cX9_film 1 = .ok (.invokestatic 241, 3) := by decide +kernel
theorem dX9_film_4 : decode cX9_film 4 = .ok (.ifCond .eq 11, 3) := by decide +kernel
theorem dX9_film_7 : decode cX9_film 7 = .ok (.aload_n 0, 1) := by decide +kernel
theorem dX9_film_8 : decode cX9_film 8 = .ok (.iload_n 2, 1) := by decide +kernel
theorem dX9_film_9 : decode cX9_film 9 = .ok (.invokevirtual 192, 3) := by decide +kernel
theorem dX9_film_12 : decode cX9_film 12 = .ok (.ifCond .ne 6, 3) := by decide +kernel
theorem dX9_film_15 : decode cX9_film 15 = .ok (.bipush (-2), 2) := by decide +kernel
theorem dX9_film_17 : decode cX9_film 17 = .ok (.ireturn, 1) := by decide +kernel
set_option maxRecDepth 20000 in
theorem ggX9_image_X0_becomeAs : GoodIn wsX9_image wsX0_becomeAs := goodIn_r _ [12, 13, 14, 15, 16, 17, 18, 19, 20, 21, 22, 23, 24, 25, 26, 27, 28, 29, 50, 51, 52, 53, 54, 55, 56, 57, 58, 59, 60, 61, 62] (by decide +kernel) (by decide +kernel)
set_option maxRecDepth 20000 in
theorem gX9_image_X0_becomeAs : GoodIn wsX9_image (wsV RX9 214 RX0 yX0_becomeAs wsX0_becomeAs) := goodIn_app (goodIn_of _ (by decide +kernel)) ggX9_image_X0_becomeAs
set_option maxRecDepth 20000 in
theorem ggX9_image_X1_becomeAs : GoodIn wsX9_image wsX1_becomeAs := goodIn_r _ [34, 35, 36, 15, 16, 17, 63] (by decide +kernel) (by decide +kernel)
set_option maxRecDepth 20000 in
theorem gX9_image_X1_becomeAs : GoodIn wsX9_image (wsV RX9 259 RX1 yX1_becomeAs wsX1_becomeAs) := goodIn_app (goodIn_of _ (by decide +kernel)) ggX9_image_X1_becomeAs
theorem dX9_image_0 : decode cX9_image 0 = .ok (.aload_n 0, 1) := by decide +kernel
theorem dX9_image_1 : decode cX9_image 1 = .ok (.getfield 18, 3) := by decide +kernel
theorem dX9_image_4 : decode cX9_image 4 = .ok (.aload_n 0, 1) := by decide +kernel
theorem dX9_image_5 : decode cX9_image 5 = .ok (.getfield 12, 3) := by decide +kernel
theorem dX9_image_8 : decode cX9_image 8 = .ok (.invokevirtual 214, 3) := by decide +kernel
theorem dX9_image_11 : decode cX9_image 11 = .ok (.aload_n 0, 1) := by decide +kernel
theorem dX9_image_12 : decode cX9_image 12 = .ok (.getfield 28, 3) := by decide +kernel
theorem dX9_image_15 : decode cX9_image 15 = .ok (.aload_n 0, 1) := by decide +kernel
theorem dX9_image_16 : decode cX9_image 16 = .ok (.getfield 24, 3) := by decide +kernel
theorem dX9_image_19 : decode cX9_image 19 = .ok (.invokevirtual 259, 3) := by decide +kernel
theorem dX9_image_22 : decode cX9_image 22 = .ok (.aload_n 0, 1) := by decide +kernel
theorem dX9_image_23 : decode cX9_image 23 = .ok (.aload_n 0, 1) := by decide +kernel
theorem dX9_image_24 : decode cX9_image 24 = .ok (.getfield 141, 3) := by decide +kernel
theorem dX9_image_27 : decode cX9_image 27 = .ok (.putfield 47, 3) := by decide +kernel
theorem dX9_image_30 : decode cX9_image 30 = .ok (.aload_n 0, 1) := by decide +kernel
theorem dX9_image_31 : decode cX9_image 31 = .ok (.getfield 12, 3) := by decide +kernel
theorem dX9_image_34 : decode cX9_image 34 = .ok (.getfield 95, 3) := by decide +kernel
theorem dX9_image_37 : decode cX9_image 37 = .ok (.ireturn, 1) := by decide +kernel
theorem dX9_back_0 : decode cX9_back 0 = .ok (.aload_n 0, 1) := by decide +kernel
theorem dX9_back_1 : decode cX9_back 1 = .ok (.getfield 47, 3) := by decide +kernel
theorem dX9_back_4 : decode cX9_back 4 = .ok (.iconst (-1), 1) := by decide +kernel
theorem dX9_back_5 : decode cX9_back 5 = .ok (.if_icmp .ne 6, 3) := by decide +kernel
theorem dX9_back_8 : decode cX9_back 8 = .ok (.bipush (-3), 2) := by decide +kernel
theorem dX9_back_10 : decode cX9_back 10 = .ok (.ireturn, 1) := by decide +kernel
set_option maxRecDepth 20000 in
theorem ggX9_sheet_X9_isSheet : GoodIn wsX9_sheet wsX9_isSheet := goodIn_r _ [5] (by decide +kernel) (by decide +kernel)
set_option maxRecDepth 20000 in
theorem gX9_sheet_X9_isSheet : GoodIn wsX9_sheet (va_wsS RX9 241 yX9_isSheet wsX9_isSheet) := goodIn_app (goodIn_of _ (by decide +kernel)) ggX9_sheet_X9_isSheet
set_option maxRecDepth 20000 in
theorem ggX9_sheet_X7_become : GoodIn wsX9_sheet wsX7_become := goodIn_r _ [10, 11, 12, 13, 27, 28, 29] (by decide +kernel) (by decide +kernel)
set_option maxRecDepth 20000 in
theorem gX9_sheet_X7_become : GoodIn wsX9_sheet (wsV RX9 261 RX7 yX7_become wsX7_become) := goodIn_app (goodIn_of _ (by decide +kernel)) ggX9_sheet_X7_become
theorem dX9_sheet_0 : decode cX9_sheet 0 = .ok (.iload_n 1, 1) := by decide +kernel
theorem dX9_sheet_1 : decode cX9_sheet 1 = .ok (.invokestatic 241, 3) := by decide +kernel
theorem dX9_sheet_4 : decode cX9_sheet 4 = .ok (.ifCond .eq 13, 3) := by decide +kernel
theorem dX9_sheet_7 : decode cX9_sheet 7 = .ok (.iload_n 2, 1) := by decide +kernel
theorem dX9_sheet_8 : decode cX9_sheet 8 = .ok (.iconst (-1), 1) := by decide +kernel
theorem dX9_sheet_9 : decode cX9_sheet 9 = .ok (.if_icmp .lt 8, 3) := by decide +kernel
theorem dX9_sheet_12 : decode cX9_sheet 12 = .ok (.iload_n 2, 1) := by decide +kernel
theorem dX9_sheet_13 : decode cX9_sheet 13 = .ok (.iconst 1, 1) := by decide +kernel
theorem dX9_sheet_14 : decode cX9_sheet 14 = .ok (.if_icmp .le 6, 3) := by decide +kernel
theorem dX9_sheet_17 : decode cX9_sheet 17 = .ok (.bipush (-2), 2) := by decide +kernel
theorem dX9_sheet_19 : decode cX9_sheet 19 = .ok (.ireturn, 1) := by decide +kernel
theorem dX9_sheet_20 : decode cX9_sheet 20 = .ok (.iload_n 2, 1) := by decide +kernel
theorem dX9_sheet_21 : decode cX9_sheet 21 = .ok (.iconst (-1), 1) := by decide +kernel
theorem dX9_sheet_22 : decode cX9_sheet 22 = .ok (.if_icmp .ne 16, 3) := by decide +kernel
theorem dX9_sheet_25 : decode cX9_sheet 25 = .ok (.aload_n 0, 1) := by decide +kernel
theorem dX9_sheet_26 : decode cX9_sheet 26 = .ok (.getfield 79, 3) := by decide +kernel
theorem dX9_sheet_29 : decode cX9_sheet 29 = .ok (.iload_n 1, 1) := by decide +kernel
theorem dX9_sheet_30 : decode cX9_sheet 30 = .ok (.aaload, 1) := by decide +kernel
theorem dX9_sheet_31 : decode cX9_sheet 31 = .ok (.iconst (-1), 1) := by decide +kernel
theorem dX9_sheet_32 : decode cX9_sheet 32 = .ok (.iconst 0, 1) := by decide +kernel
theorem dX9_sheet_33 : decode cX9_sheet 33 = .ok (.invokevirtual 261, 3) := by decide +kernel
theorem dX9_sheet_36 : decode cX9_sheet 36 = .ok (.iconst 1, 1) := by decide +kernel
theorem dX9_sheet_37 : decode cX9_sheet 37 = .ok (.ireturn, 1) := by decide +kernel
theorem dX9_sheet_38 : decode cX9_sheet 38 = .ok (.iload_n 3, 1) := by decide +kernel
theorem dX9_sheet_39 : decode cX9_sheet 39 = .ok (.bipush 60, 2) := by decide +kernel
theorem dX9_sheet_41 : decode cX9_sheet 41 = .ok (.if_icmp .le 6, 3) := by decide +kernel
theorem dX9_sheet_44 : decode cX9_sheet 44 = .ok (.bipush (-2), 2) := by decide +kernel
theorem dX9_sheet_46 : decode cX9_sheet 46 = .ok (.ireturn, 1) := by decide +kernel
theorem dX9_sheet_47 : decode cX9_sheet 47 = .ok (.iload_n 3, 1) := by decide +kernel
theorem dX9_sheet_48 : decode cX9_sheet 48 = .ok (.ifCond .ge 6, 3) := by decide +kernel
theorem dX9_sheet_51 : decode cX9_sheet 51 = .ok (.bipush (-14), 2) := by decide +kernel
theorem dX9_sheet_53 : decode cX9_sheet 53 = .ok (.ireturn, 1) := by decide +kernel
theorem dX9_sheet_54 : decode cX9_sheet 54 = .ok (.aload_n 0, 1) := by decide +kernel
theorem dX9_sheet_55 : decode cX9_sheet 55 = .ok (.getfield 79, 3) := by decide +kernel
theorem dX9_sheet_58 : decode cX9_sheet 58 = .ok (.iload_n 1, 1) := by decide +kernel
theorem dX9_sheet_59 : decode cX9_sheet 59 = .ok (.aaload, 1) := by decide +kernel
theorem dX9_sheet_60 : decode cX9_sheet 60 = .ok (.iload_n 2, 1) := by decide +kernel
theorem dX9_sheet_61 : decode cX9_sheet 61 = .ok (.iload_n 3, 1) := by decide +kernel
theorem dX9_sheet_62 : decode cX9_sheet 62 = .ok (.invokevirtual 261, 3) := by decide +kernel
theorem dX9_sheet_65 : decode cX9_sheet 65 = .ok (.iconst 1, 1) := by decide +kernel
theorem dX9_sheet_66 : decode cX9_sheet 66 = .ok (.ireturn, 1) := by decide +kernel
set_option maxRecDepth 20000 in
theorem ggX9_put_X9_isSheet : GoodIn wsX9_put wsX9_isSheet := goodIn_r _ [5] (by decide +kernel) (by decide +kernel)
set_option maxRecDepth 20000 in
theorem gX9_put_X9_isSheet : GoodIn wsX9_put (va_wsS RX9 241 yX9_isSheet wsX9_isSheet) := goodIn_app (goodIn_of _ (by decide +kernel)) ggX9_put_X9_isSheet
set_option maxRecDepth 20000 in
theorem ggX9_put_X7_isMissing : GoodIn wsX9_put wsX7_isMissing := goodIn_r _ [10, 11, 35, 36, 37] (by decide +kernel) (by decide +kernel)
set_option maxRecDepth 20000 in
theorem gX9_put_X7_isMissing : GoodIn wsX9_put (wsV RX9 244 RX7 yX7_isMissing wsX7_isMissing) := goodIn_app (goodIn_of _ (by decide +kernel)) ggX9_put_X7_isMissing
theorem dX9_put_0 : decode cX9_put 0 = .ok (.iload_n 1, 1) := by decide +kernel
theorem dX9_put_1 : decode cX9_put 1 = .ok (.invokestatic 241, 3) := by decide +kernel
theorem dX9_put_4 : decode cX9_put 4 = .ok (.ifCond .ne 6, 3) := by decide +kernel
theorem dX9_put_7 : decode cX9_put 7 = .ok (.bipush (-2), 2) := by decide +kernel
theorem dX9_put_9 : decode cX9_put 9 = .ok (.ireturn, 1) := by decide +kernel
theorem dX9_put_10 : decode cX9_put 10 = .ok (.aload_n 0, 1) := by decide +kernel
theorem dX9_put_11 : decode cX9_put 11 = .ok (.getfield 79, 3) := by decide +kernel
theorem dX9_put_14 : decode cX9_put 14 = .ok (.iload_n 1, 1) := by decide +kernel
theorem dX9_put_15 : decode cX9_put 15 = .ok (.aaload, 1) := by decide +kernel
theorem dX9_put_16 : decode cX9_put 16 = .ok (.astore 4, 2) := by decide +kernel
theorem dX9_put_18 : decode cX9_put 18 = .ok (.aload 4, 2) := by decide +kernel
theorem dX9_put_20 : decode cX9_put 20 = .ok (.invokevirtual 244, 3) := by decide +kernel
theorem dX9_put_23 : decode cX9_put 23 = .ok (.ifCond .eq 6, 3) := by decide +kernel
theorem dX9_put_26 : decode cX9_put 26 = .ok (.bipush (-11), 2) := by decide +kernel
theorem dX9_put_28 : decode cX9_put 28 = .ok (.ireturn, 1) := by decide +kernel
set_option maxRecDepth 20000 in
theorem ggX9_copy_X9_isSheet : GoodIn wsX9_copy wsX9_isSheet := goodIn_r _ [11] (by decide +kernel) (by decide +kernel)
set_option maxRecDepth 20000 in
theorem gX9_copy_X9_isSheet : GoodIn wsX9_copy (va_wsS RX9 241 yX9_isSheet wsX9_isSheet) := goodIn_app (goodIn_of _ (by decide +kernel)) ggX9_copy_X9_isSheet
set_option maxRecDepth 20000 in
theorem ggX9_copy_X7_isMissing : GoodIn wsX9_copy wsX7_isMissing := goodIn_r _ [16, 17, 36, 37, 38] (by decide +kernel) (by decide +kernel)
set_option maxRecDepth 20000 in
theorem gX9_copy_X7_isMissing : GoodIn wsX9_copy (wsV RX9 244 RX7 yX7_isMissing wsX7_isMissing) := goodIn_app (goodIn_of _ (by decide +kernel)) ggX9_copy_X7_isMissing
theorem dX9_copy_0 : decode cX9_copy 0 = .ok (.iload_n 1, 1) := by decide +kernel
theorem dX9_copy_1 : decode cX9_copy 1 = .ok (.invokestatic 241, 3) := by decide +kernel
theorem dX9_copy_4 : decode cX9_copy 4 = .ok (.ifCond .eq 10, 3) := by decide +kernel
theorem dX9_copy_7 : decode cX9_copy 7 = .ok (.iload_n 3, 1) := by decide +kernel
theorem dX9_copy_8 : decode cX9_copy 8 = .ok (.invokestatic 241, 3) := by decide +kernel
theorem dX9_copy_11 : decode cX9_copy 11 = .ok (.ifCond .ne 6, 3) := by decide +kernel
theorem dX9_copy_14 : decode cX9_copy 14 = .ok (.bipush (-2), 2) := by decide +kernel
theorem dX9_copy_16 : decode cX9_copy 16 = .ok (.ireturn, 1) := by decide +kernel
theorem dX9_copy_17 : decode cX9_copy 17 = .ok (.aload_n 0, 1) := by decide +kernel
theorem dX9_copy_18 : decode cX9_copy 18 = .ok (.getfield 79, 3) := by decide +kernel
theorem dX9_copy_21 : decode cX9_copy 21 = .ok (.iload_n 1, 1) := by decide +kernel
theorem dX9_copy_22 : decode cX9_copy 22 = .ok (.aaload, 1) := by decide +kernel
theorem dX9_copy_23 : decode cX9_copy 23 = .ok (.astore 6, 2) := by decide +kernel
theorem dX9_copy_25 : decode cX9_copy 25 = .ok (.aload_n 0, 1) := by decide +kernel
theorem dX9_copy_26 : decode cX9_copy 26 = .ok (.getfield 79, 3) := by decide +kernel
theorem dX9_copy_29 : decode cX9_copy 29 = .ok (.iload_n 3, 1) := by decide +kernel
theorem dX9_copy_30 : decode cX9_copy 30 = .ok (.aaload, 1) := by decide +kernel
theorem dX9_copy_31 : decode cX9_copy 31 = .ok (.astore 7, 2) := by decide +kernel
theorem dX9_copy_33 : decode cX9_copy 33 = .ok (.aload 6, 2) := by decide +kernel
theorem dX9_copy_35 : decode cX9_copy 35 = .ok (.invokevirtual 244, 3) := by decide +kernel
theorem dX9_copy_38 : decode cX9_copy 38 = .ok (.ifCond .ne 11, 3) := by decide +kernel
theorem dX9_copy_49 : decode cX9_copy 49 = .ok (.bipush (-11), 2) := by decide +kernel
theorem dX9_copy_51 : decode cX9_copy 51 = .ok (.ireturn, 1) := by decide +kernel
set_option maxRecDepth 20000 in
theorem ggX9_load_X9_isSheet : GoodIn wsX9_load wsX9_isSheet := goodIn_r _ [7] (by decide +kernel) (by decide +kernel)
set_option maxRecDepth 20000 in
theorem gX9_load_X9_isSheet : GoodIn wsX9_load (va_wsS RX9 241 yX9_isSheet wsX9_isSheet) := goodIn_app (goodIn_of _ (by decide +kernel)) ggX9_load_X9_isSheet
set_option maxRecDepth 20000 in
theorem ggX9_load_X9_isWithin : GoodIn wsX9_load wsX9_isWithin := goodIn_r _ [10] (by decide +kernel) (by decide +kernel)
set_option maxRecDepth 20000 in
theorem gX9_load_X9_isWithin : GoodIn wsX9_load (va_wsS RX9 91 yX9_isWithin wsX9_isWithin) := goodIn_app (goodIn_of _ (by decide +kernel)) ggX9_load_X9_isWithin
set_option maxRecDepth 20000 in
theorem ggX9_load_X7_isMissing : GoodIn wsX9_load wsX7_isMissing := goodIn_r _ [15, 16, 62, 63, 64] (by decide +kernel) (by decide +kernel)
set_option maxRecDepth 20000 in
theorem gX9_load_X7_isMissing : GoodIn wsX9_load (wsV RX9 244 RX7 yX7_isMissing wsX7_isMissing) := goodIn_app (goodIn_of _ (by decide +kernel)) ggX9_load_X7_isMissing
theorem dX9_load_0 : decode cX9_load 0 = .ok (.iload_n 1, 1) := by decide +kernel
theorem dX9_load_1 : decode cX9_load 1 = .ok (.invokestatic 241, 3) := by decide +kernel
theorem dX9_load_4 : decode cX9_load 4 = .ok (.ifCond .eq 22, 3) := by decide +kernel
theorem dX9_load_7 : decode cX9_load 7 = .ok (.iload_n 2, 1) := by decide +kernel
theorem dX9_load_8 : decode cX9_load 8 = .ok (.ifCond .lt 18, 3) := by decide +kernel
theorem dX9_load_11 : decode cX9_load 11 = .ok (.iload_n 2, 1) := by decide +kernel
theorem dX9_load_12 : decode cX9_load 12 = .ok (.iconst 1, 1) := by decide +kernel
theorem dX9_load_13 : decode cX9_load 13 = .ok (.if_icmp .gt 13, 3) := by decide +kernel
theorem dX9_load_16 : decode cX9_load 16 = .ok (.iload 4, 2) := by decide +kernel
theorem dX9_load_18 : decode cX9_load 18 = .ok (.bipush 20, 2) := by decide +kernel
theorem dX9_load_20 : decode cX9_load 20 = .ok (.invokestatic 91, 3) := by decide +kernel
theorem dX9_load_23 : decode cX9_load 23 = .ok (.ifCond .ne 6, 3) := by decide +kernel
theorem dX9_load_26 : decode cX9_load 26 = .ok (.bipush (-2), 2) := by decide +kernel
theorem dX9_load_28 : decode cX9_load 28 = .ok (.ireturn, 1) := by decide +kernel
theorem dX9_load_29 : decode cX9_load 29 = .ok (.aload_n 0, 1) := by decide +kernel
theorem dX9_load_30 : decode cX9_load 30 = .ok (.getfield 79, 3) := by decide +kernel
theorem dX9_load_33 : decode cX9_load 33 = .ok (.iload_n 1, 1) := by decide +kernel
theorem dX9_load_34 : decode cX9_load 34 = .ok (.aaload, 1) := by decide +kernel
theorem dX9_load_35 : decode cX9_load 35 = .ok (.astore 5, 2) := by decide +kernel
theorem dX9_load_37 : decode cX9_load 37 = .ok (.aload 5, 2) := by decide +kernel
theorem dX9_load_39 : decode cX9_load 39 = .ok (.invokevirtual 244, 3) := by decide +kernel
theorem dX9_load_42 : decode cX9_load 42 = .ok (.ifCond .eq 6, 3) := by decide +kernel
theorem dX9_load_45 : decode cX9_load 45 = .ok (.bipush (-11), 2) := by decide +kernel
theorem dX9_load_47 : decode cX9_load 47 = .ok (.ireturn, 1) := by decide +kernel
theorem dX9_isWithin_0 : decode cX9_isWithin 0 = .ok (.iload_n 0, 1) := by decide +kernel
theorem dX9_isWithin_1 : decode cX9_isWithin 1 = .ok (.ifCond .lt 12, 3) := by decide +kernel
theorem dX9_isWithin_4 : decode cX9_isWithin 4 = .ok (.iload_n 0, 1) := by decide +kernel
theorem dX9_isWithin_5 : decode cX9_isWithin 5 = .ok (.iload_n 1, 1) := by decide +kernel
theorem dX9_isWithin_6 : decode cX9_isWithin 6 = .ok (.if_icmp .gt 7, 3) := by decide +kernel
theorem dX9_isWithin_9 : decode cX9_isWithin 9 = .ok (.iconst 1, 1) := by decide +kernel
theorem dX9_isWithin_10 : decode cX9_isWithin 10 = .ok (.goto 4, 3) := by decide +kernel
theorem dX9_isWithin_13 : decode cX9_isWithin 13 = .ok (.iconst 0, 1) := by decide +kernel
theorem dX9_isWithin_14 : decode cX9_isWithin 14 = .ok (.ireturn, 1) := by decide +kernel
set_option maxRecDepth 20000 in
theorem ggX9_isByte_X9_isWithin : GoodIn wsX9_isByte wsX9_isWithin := goodIn_r _ [4] (by decide +kernel) (by decide +kernel)
set_option maxRecDepth 20000 in
theorem gX9_isByte_X9_isWithin : GoodIn wsX9_isByte (va_wsS RX9 91 yX9_isWithin wsX9_isWithin) := goodIn_app (goodIn_of _ (by decide +kernel)) ggX9_isByte_X9_isWithin
theorem dX9_isByte_0 : decode cX9_isByte 0 = .ok (.iload_n 0, 1) := by decide +kernel
theorem dX9_isByte_1 : decode cX9_isByte 1 = .ok (.sipush 255, 3) := by decide +kernel
theorem dX9_isByte_4 : decode cX9_isByte 4 = .ok (.invokestatic 91, 3) := by decide +kernel
theorem dX9_isByte_7 : decode cX9_isByte 7 = .ok (.ireturn, 1) := by decide +kernel
theorem dX9_isSheet_0 : decode cX9_isSheet 0 = .ok (.iload_n 0, 1) := by decide +kernel
theorem dX9_isSheet_1 : decode cX9_isSheet 1 = .ok (.ifCond .lt 12, 3) := by decide +kernel
theorem dX9_isSheet_4 : decode cX9_isSheet 4 = .ok (.iload_n 0, 1) := by decide +kernel
theorem dX9_isSheet_5 : decode cX9_isSheet 5 = .ok (.iconst 4, 1) := by decide +kernel
theorem dX9_isSheet_6 : decode cX9_isSheet 6 = .ok (.if_icmp .ge 7, 3) := by decide +kernel
theorem dX9_isSheet_9 : decode cX9_isSheet 9 = .ok (.iconst 1, 1) := by decide +kernel
theorem dX9_isSheet_10 : decode cX9_isSheet 10 = .ok (.goto 4, 3) := by decide +kernel
theorem dX9_isSheet_13 : decode cX9_isSheet 13 = .ok (.iconst 0, 1) := by decide +kernel
theorem dX9_isSheet_14 : decode cX9_isSheet 14 = .ok (.ireturn, 1) := by decide +kernel
theorem dX9_isProgram_0 : decode cX9_isProgram 0 = .ok (.iload_n 1, 1) := by decide +kernel
theorem dX9_isProgram_1 : decode cX9_isProgram 1 = .ok (.ifCond .lt 15, 3) := by decide +kernel
theorem dX9_isProgram_4 : decode cX9_isProgram 4 = .ok (.iload_n 1, 1) := by decide +kernel
theorem dX9_isProgram_5 : decode cX9_isProgram 5 = .ok (.aload_n 0, 1) := by decide +kernel
theorem dX9_isProgram_6 : decode cX9_isProgram 6 = .ok (.getfield 141, 3) := by decide +kernel
theorem dX9_isProgram_9 : decode cX9_isProgram 9 = .ok (.if_icmp .ge 7, 3) := by decide +kernel
theorem dX9_isProgram_16 : decode cX9_isProgram 16 = .ok (.iconst 0, 1) := by decide +kernel
theorem dX9_isProgram_17 : decode cX9_isProgram 17 = .ok (.ireturn, 1) := by decide +kernel
set_option maxRecDepth 20000 in
theorem ggX9_isPair_X0_has : GoodIn wsX9_isPair wsX0_has := goodIn_r _ [6, 7, 21, 22, 23, 24, 25, 26, 27, 28, 29, 30, 31, 32, 33] (by decide +kernel) (by decide +kernel)
set_option maxRecDepth 20000 in
theorem gX9_isPair_X0_has : GoodIn wsX9_isPair (wsV RX9 102 RX0 yX0_has wsX0_has) := goodIn_app (goodIn_of _ (by decide +kernel)) ggX9_isPair_X0_has
theorem dX9_isPair_0 : decode cX9_isPair 0 = .ok (.aload_n 0, 1) := by decide +kernel
theorem dX9_isPair_1 : decode cX9_isPair 1 = .ok (.getfield 12, 3) := by decide +kernel
theorem dX9_isPair_4 : decode cX9_isPair 4 = .ok (.iload_n 1, 1) := by decide +kernel
theorem dX9_isPair_5 : decode cX9_isPair 5 = .ok (.invokevirtual 102, 3) := by decide +kernel
theorem dX9_isPair_8 : decode cX9_isPair 8 = .ok (.ifCond .eq 23, 3) := by decide +kernel
theorem dX9_isPair_31 : decode cX9_isPair 31 = .ok (.iconst 0, 1) := by decide +kernel
theorem dX9_isPair_32 : decode cX9_isPair 32 = .ok (.ireturn, 1) := by decide +kernel
theorem dX10_init_0 : decode cX10_init 0 = .ok (.aload_n 0, 1) := by decide +kernel
theorem dX10_init_1 : decode cX10_init 1 = .ok (.invokespecial 5, 3) := by decide +kernel
theorem dX10_init_4 : decode cX10_init 4 = .ok (.aload_n 0, 1) := by decide +kernel
theorem dX10_init_5 : decode cX10_init 5 = .ok (.bipush 125, 2) := by decide +kernel
theorem dX10_init_7 : decode cX10_init 7 = .ok (.newarray .int, 2) := by decide +kernel
theorem dX10_init_9 : decode cX10_init 9 = .ok (.putfield 11, 3) := by decide +kernel
theorem dX10_init_12 : decode cX10_init 12 = .ok (.aload_n 0, 1) := by decide +kernel
theorem dX10_init_13 : decode cX10_init 13 = .ok (.bipush 125, 2) := by decide +kernel
theorem dX10_init_15 : decode cX10_init 15 = .ok (.newarray .int, 2) := by decide +kernel
theorem dX10_init_17 : decode cX10_init 17 = .ok (.putfield 15, 3) := by decide +kernel
theorem dX10_init_20 : decode cX10_init 20 = .ok (.aload_n 0, 1) := by decide +kernel
theorem dX10_init_21 : decode cX10_init 21 = .ok (.bipush 125, 2) := by decide +kernel
theorem dX10_init_23 : decode cX10_init 23 = .ok (.newarray .int, 2) := by decide +kernel
theorem dX10_init_25 : decode cX10_init 25 = .ok (.putfield 18, 3) := by decide +kernel
theorem dX10_init_28 : decode cX10_init 28 = .ok (.aload_n 0, 1) := by decide +kernel
theorem dX10_init_29 : decode cX10_init 29 = .ok (.bipush 80, 2) := by decide +kernel
theorem dX10_init_31 : decode cX10_init 31 = .ok (.newarray .int, 2) := by decide +kernel
theorem dX10_init_33 : decode cX10_init 33 = .ok (.putfield 21, 3) := by decide +kernel
theorem dX10_init_36 : decode cX10_init 36 = .ok (.aload_n 0, 1) := by decide +kernel
theorem dX10_init_37 : decode cX10_init 37 = .ok (.sipush 320, 3) := by decide +kernel
theorem dX10_init_40 : decode cX10_init 40 = .ok (.newarray .int, 2) := by decide +kernel
theorem dX10_init_42 : decode cX10_init 42 = .ok (.putfield 24, 3) := by decide +kernel
theorem dX10_init_45 : decode cX10_init 45 = .ok (.aload_n 0, 1) := by decide +kernel
theorem dX10_init_46 : decode cX10_init 46 = .ok (.iconst 4, 1) := by decide +kernel
theorem dX10_init_47 : decode cX10_init 47 = .ok (.newarray .int, 2) := by decide +kernel
theorem dX10_init_49 : decode cX10_init 49 = .ok (.putfield 27, 3) := by decide +kernel
theorem dX10_init_52 : decode cX10_init 52 = .ok (.aload_n 0, 1) := by decide +kernel
theorem dX10_init_53 : decode cX10_init 53 = .ok (.sipush 320, 3) := by decide +kernel
theorem dX10_init_56 : decode cX10_init 56 = .ok (.newarray .int, 2) := by decide +kernel
theorem dX10_init_58 : decode cX10_init 58 = .ok (.putfield 30, 3) := by decide +kernel
theorem dX10_init_61 : decode cX10_init 61 = .ok (.aload_n 0, 1) := by decide +kernel
theorem dX10_init_62 : decode cX10_init 62 = .ok (.iconst 4, 1) := by decide +kernel
theorem dX10_init_63 : decode cX10_init 63 = .ok (.newarray .int, 2) := by decide +kernel
theorem dX10_init_65 : decode cX10_init 65 = .ok (.putfield 33, 3) := by decide +kernel
theorem dX10_init_68 : decode cX10_init 68 = .ok (.aload_n 0, 1) := by decide +kernel
theorem dX10_init_69 : decode cX10_init 69 = .ok (.bipush 8, 2) := by decide +kernel
theorem dX10_init_71 : decode cX10_init 71 = .ok (.newarray .int, 2) := by decide +kernel
theorem dX10_init_73 : decode cX10_init 73 = .ok (.putfield 36, 3) := by decide +kernel
theorem dX10_init_76 : decode cX10_init 76 = .ok (.aload_n 0, 1) := by decide +kernel
theorem dX10_init_77 : decode cX10_init 77 = .ok (.bipush 60, 2) := by decide +kernel
theorem dX10_init_79 : decode cX10_init 79 = .ok (.newarray .int, 2) := by decide +kernel
theorem dX10_init_81 : decode cX10_init 81 = .ok (.putfield 39, 3) := by decide +kernel
theorem dX10_init_84 : decode cX10_init 84 = .ok (.aload_n 0, 1) := by decide +kernel
theorem dX10_init_85 : decode cX10_init 85 = .ok (.bipush 60, 2) := by decide +kernel
theorem dX10_init_87 : decode cX10_init 87 = .ok (.newarray .int, 2) := by decide +kernel
theorem dX10_init_89 : decode cX10_init 89 = .ok (.putfield 42, 3) := by decide +kernel
theorem dX10_init_92 : decode cX10_init 92 = .ok (.aload_n 0, 1) := by decide +kernel
theorem dX10_init_93 : decode cX10_init 93 = .ok (.bipush 80, 2) := by decide +kernel
theorem dX10_init_95 : decode cX10_init 95 = .ok (.newarray .int, 2) := by decide +kernel
theorem dX10_init_97 : decode cX10_init 97 = .ok (.putfield 45, 3) := by decide +kernel
theorem dX10_init_100 : decode cX10_init 100 = .ok (.aload_n 0, 1) := by decide +kernel
theorem dX10_init_101 : decode cX10_init 101 = .ok (.bipush 10, 2) := by decide +kernel
theorem dX10_init_103 : decode cX10_init 103 = .ok (.newarray .long, 2) := by decide +kernel
theorem dX10_init_105 : decode cX10_init 105 = .ok (.putfield 48, 3) := by decide +kernel
theorem dX10_init_108 : decode cX10_init 108 = .ok (.aload_n 0, 1) := by decide +kernel
theorem dX10_init_109 : decode cX10_init 109 = .ok (.bipush 8, 2) := by decide +kernel
theorem dX10_init_111 : decode cX10_init 111 = .ok (.newarray .int, 2) := by decide +kernel
theorem dX10_init_113 : decode cX10_init 113 = .ok (.putfield 52, 3) := by decide +kernel
theorem dX10_init_116 : decode cX10_init 116 = .ok (.aload_n 0, 1) := by decide +kernel
theorem dX10_init_117 : decode cX10_init 117 = .ok (.iconst 4, 1) := by decide +kernel
theorem dX10_init_118 : decode cX10_init 118 = .ok (.newarray .int, 2) := by decide +kernel
theorem dX10_init_120 : decode cX10_init 120 = .ok (.dup, 1) := by decide +kernel
theorem dX10_init_121 : decode cX10_init 121 = .ok (.iconst 0, 1) := by decide +kernel
theorem dX10_init_122 : decode cX10_init 122 = .ok (.iconst (-1), 1) := by decide +kernel
theorem dX10_init_123 : decode cX10_init 123 = .ok (.iastore, 1) := by decide +kernel
theorem dX10_init_124 : decode cX10_init 124 = .ok (.dup, 1) := by decide +kernel
theorem dX10_init_125 : decode cX10_init 125 = .ok (.iconst 1, 1) := by decide +kernel
theorem dX10_init_126 : decode cX10_init 126 = .ok (.iconst (-1), 1) := by decide +kernel
theorem dX10_init_127 : decode cX10_init 127 = .ok (.iastore, 1) := by decide +kernel
theorem dX10_init_128 : decode cX10_init 128 = .ok (.dup, 1) := by decide +kernel
theorem dX10_init_129 : decode cX10_init 129 = .ok (.iconst 2, 1) := by decide +kernel
theorem dX10_init_130 : decode cX10_init 130 = .ok (.iconst (-1), 1) := by decide +kernel
theorem dX10_init_131 : decode cX10_init 131 = .ok (.iastore, 1) := by decide +kernel
theorem dX10_init_132 : decode cX10_init 132 = .ok (.dup, 1) := by decide +kernel
theorem dX10_init_133 : decode cX10_init 133 = .ok (.iconst 3, 1) := by decide +kernel
theorem dX10_init_134 : decode cX10_init 134 = .ok (.iconst (-1), 1) := by decide +kernel
theorem dX10_init_135 : decode cX10_init 135 = .ok (.iastore, 1) := by decide +kernel
theorem dX10_init_136 : decode cX10_init 136 = .ok (.putfield 55, 3) := by decide +kernel
theorem dX10_init_139 : decode cX10_init 139 = .ok (.aload_n 0, 1) := by decide +kernel
theorem dX10_init_140 : decode cX10_init 140 = .ok (.iconst 4, 1) := by decide +kernel
theorem dX10_init_141 : decode cX10_init 141 = .ok (.newarray .int, 2) := by decide +kernel
theorem dX10_init_143 : decode cX10_init 143 = .ok (.putfield 58, 3) := by decide +kernel
theorem dX10_init_146 : decode cX10_init 146 = .ok (.aload_n 0, 1) := by decide +kernel
theorem dX10_init_147 : decode cX10_init 147 = .ok (.sipush 240, 3) := by decide +kernel
theorem dX10_init_150 : decode cX10_init 150 = .ok (.newarray .int, 2) := by decide +kernel
theorem dX10_init_152 : decode cX10_init 152 = .ok (.putfield 61, 3) := by decide +kernel
theorem dX10_init_155 : decode cX10_init 155 = .ok (.aload_n 0, 1) := by decide +kernel
theorem dX10_init_156 : decode cX10_init 156 = .ok (.bipush 60, 2) := by decide +kernel
theorem dX10_init_158 : decode cX10_init 158 = .ok (.newarray .int, 2) := by decide +kernel
theorem dX10_init_160 : decode cX10_init 160 = .ok (.putfield 64, 3) := by decide +kernel
theorem dX10_init_163 : decode cX10_init 163 = .ok (.return_, 1) := by decide +kernel
theorem dX10_isIn_0 : decode cX10_isIn 0 = .ok (.lload_n 0, 1) := by decide +kernel
theorem dX10_isIn_1 : decode cX10_isIn 1 = .ok (.lload_n 2, 1) := by decide +kernel
theorem dX10_isIn_2 : decode cX10_isIn 2 = .ok (.lcmp, 1) := by decide +kernel
theorem dX10_isIn_3 : decode cX10_isIn 3 = .ok (.ifCond .lt 14, 3) := by decide +kernel
theorem dX10_isIn_6 : decode cX10_isIn 6 = .ok (.lload_n 0, 1) := by decide +kernel
theorem dX10_isIn_7 : decode cX10_isIn 7 = .ok (.lload 4, 2) := by decide +kernel
theorem dX10_isIn_9 : decode cX10_isIn 9 = .ok (.lcmp, 1) := by decide +kernel
theorem dX10_isIn_10 : decode cX10_isIn 10 = .ok (.ifCond .gt 7, 3) := by decide +kernel
theorem dX10_isIn_13 : decode cX10_isIn 13 = .ok (.iconst 1, 1) := by decide +kernel
theorem dX10_isIn_14 : decode cX10_isIn 14 = .ok (.goto 4, 3) := by decide +kernel
theorem dX10_isIn_17 : decode cX10_isIn 17 = .ok (.iconst 0, 1) := by decide +kernel
theorem dX10_isIn_18 : decode cX10_isIn 18 = .ok (.ireturn, 1) := by decide +kernel
set_option maxRecDepth 20000 in
theorem ggX10_isAccount_X10_isIn : GoodIn wsX10_isAccount wsX10_isIn := goodIn_r _ [5] (by decide +kernel) (by decide +kernel)
set_option maxRecDepth 20000 in
theorem gX10_isAccount_X10_isIn : GoodIn wsX10_isAccount (va_wsS RX10 67 yX10_isIn wsX10_isIn) := goodIn_app (goodIn_of _ (by decide +kernel)) ggX10_isAccount_X10_isIn
theorem dX10_isAccount_0 : decode cX10_isAccount 0 = .ok (.iload_n 1, 1) := by decide +kernel
theorem dX10_isAccount_1 : decode cX10_isAccount 1 = .ok (.i2l, 1) := by decide +kernel
theorem dX10_isAccount_2 : decode cX10_isAccount 2 = .ok (.lconst 0, 1) := by decide +kernel
theorem dX10_isAccount_3 : decode cX10_isAccount 3 = .ok (.aload_n 0, 1) := by decide +kernel
theorem dX10_isAccount_4 : decode cX10_isAccount 4 = .ok (.getfield 11, 3) := by decide +kernel
theorem dX10_isAccount_7 : decode cX10_isAccount 7 = .ok (.bipush 60, 2) := by decide +kernel
theorem dX10_isAccount_9 : decode cX10_isAccount 9 = .ok (.iaload, 1) := by decide +kernel
theorem dX10_isAccount_10 : decode cX10_isAccount 10 = .ok (.iconst 1, 1) := by decide +kernel
theorem dX10_isAccount_11 : decode cX10_isAccount 11 = .ok (.isub, 1) := by decide +kernel
theorem dX10_isAccount_12 : decode cX10_isAccount 12 = .ok (.i2l, 1) := by decide +kernel
theorem dX10_isAccount_13 : decode cX10_isAccount 13 = .ok (.invokestatic 67, 3) := by decide +kernel
theorem dX10_isAccount_16 : decode cX10_isAccount 16 = .ok (.ireturn, 1) := by decide +kernel
set_option maxRecDepth 20000 in
theorem ggX10_account_X10_isIn : GoodIn wsX10_account wsX10_isIn := goodIn_r _ [7] (by decide +kernel) (by decide +kernel)
set_option maxRecDepth 20000 in
theorem gX10_account_X10_isIn : GoodIn wsX10_account (va_wsS RX10 67 yX10_isIn wsX10_isIn) := goodIn_app (goodIn_of _ (by decide +kernel)) ggX10_account_X10_isIn
theorem dX10_account_0 : decode cX10_account 0 = .ok (.iload_n 1, 1) := by decide +kernel
theorem dX10_account_1 : decode cX10_account 1 = .ok (.i2l, 1) := by decide +kernel
theorem dX10_account_2 : decode cX10_account 2 = .ok (.lconst 0, 1) := by decide +kernel
theorem dX10_account_3 : decode cX10_account 3 = .ok (.ldc2_w 71, 3) := by decide +kernel
theorem dX10_account_6 : decode cX10_account 6 = .ok (.invokestatic 67, 3) := by decide +kernel
theorem dX10_account_9 : decode cX10_account 9 = .ok (.ifCond .eq 15, 3) := by decide +kernel
theorem dX10_account_12 : decode cX10_account 12 = .ok (.iload_n 2, 1) := by decide +kernel
theorem dX10_account_13 : decode cX10_account 13 = .ok (.i2l, 1) := by decide +kernel
theorem dX10_account_14 : decode cX10_account 14 = .ok (.lconst 0, 1) := by decide +kernel
theorem dX10_account_15 : decode cX10_account 15 = .ok (.ldc2_w 73, 3) := by decide +kernel
theorem dX10_account_18 : decode cX10_account 18 = .ok (.invokestatic 67, 3) := by decide +kernel
theorem dX10_account_21 : decode cX10_account 21 = .ok (.ifCond .ne 6, 3) := by decide +kernel
theorem dX10_account_24 : decode cX10_account 24 = .ok (.bipush (-2), 2) := by decide +kernel
theorem dX10_account_26 : decode cX10_account 26 = .ok (.ireturn, 1) := by decide +kernel
theorem dX10_account_27 : decode cX10_account 27 = .ok (.aload_n 0, 1) := by decide +kernel
theorem dX10_account_28 : decode cX10_account 28 = .ok (.getfield 11, 3) := by decide +kernel
theorem dX10_account_31 : decode cX10_account 31 = .ok (.bipush 60, 2) := by decide +kernel
theorem dX10_account_33 : decode cX10_account 33 = .ok (.iaload, 1) := by decide +kernel
theorem dX10_account_34 : decode cX10_account 34 = .ok (.bipush 8, 2) := by decide +kernel
theorem dX10_account_36 : decode cX10_account 36 = .ok (.if_icmp .ne 6, 3) := by decide +kernel
theorem dX10_account_42 : decode cX10_account 42 = .ok (.aload_n 0, 1) := by decide +kernel
theorem dX10_account_43 : decode cX10_account 43 = .ok (.getfield 11, 3) := by decide +kernel
theorem dX10_account_46 : decode cX10_account 46 = .ok (.bipush 60, 2) := by decide +kernel
theorem dX10_account_48 : decode cX10_account 48 = .ok (.iaload, 1) := by decide +kernel
theorem dX10_account_49 : decode cX10_account 49 = .ok (.istore_n 3, 1) := by decide +kernel
theorem dX10_account_50 : decode cX10_account 50 = .ok (.aload_n 0, 1) := by decide +kernel
theorem dX10_account_51 : decode cX10_account 51 = .ok (.getfield 11, 3) := by decide +kernel
theorem dX10_account_54 : decode cX10_account 54 = .ok (.iconst 0, 1) := by decide +kernel
theorem dX10_account_55 : decode cX10_account 55 = .ok (.iload_n 3, 1) := by decide +kernel
theorem dX10_account_56 : decode cX10_account 56 = .ok (.iadd, 1) := by decide +kernel
theorem dX10_account_57 : decode cX10_account 57 = .ok (.iload_n 1, 1) := by decide +kernel
theorem dX10_account_58 : decode cX10_account 58 = .ok (.iastore, 1) := by decide +kernel
theorem dX10_account_59 : decode cX10_account 59 = .ok (.aload_n 0, 1) := by decide +kernel
theorem dX10_account_60 : decode cX10_account 60 = .ok (.getfield 11, 3) := by decide +kernel
theorem dX10_account_63 : decode cX10_account 63 = .ok (.bipush 8, 2) := by decide +kernel
theorem dX10_account_65 : decode cX10_account 65 = .ok (.iload_n 3, 1) := by decide +kernel
theorem dX10_account_66 : decode cX10_account 66 = .ok (.iadd, 1) := by decide +kernel
theorem dX10_account_67 : decode cX10_account 67 = .ok (.iload_n 2, 1) := by decide +kernel
theorem dX10_account_68 : decode cX10_account 68 = .ok (.iastore, 1) := by decide +kernel
theorem dX10_account_69 : decode cX10_account 69 = .ok (.aload_n 0, 1) := by decide +kernel
theorem dX10_account_70 : decode cX10_account 70 = .ok (.getfield 11, 3) := by decide +kernel
theorem dX10_account_73 : decode cX10_account 73 = .ok (.bipush 16, 2) := by decide +kernel
theorem dX10_account_75 : decode cX10_account 75 = .ok (.iload_n 3, 1) := by decide +kernel
theorem dX10_account_76 : decode cX10_account 76 = .ok (.iadd, 1) := by decide +kernel
theorem dX10_account_77 : decode cX10_account 77 = .ok (.iconst 0, 1) := by decide +kernel
theorem dX10_account_78 : decode cX10_account 78 = .ok (.iastore, 1) := by decide +kernel
theorem dX10_account_79 : decode cX10_account 79 = .ok (.aload_n 0, 1) := by decide +kernel
theorem dX10_account_80 : decode cX10_account 80 = .ok (.getfield 11, 3) := by decide +kernel
theorem dX10_account_83 : decode cX10_account 83 = .ok (.bipush 24, 2) := by decide +kernel
theorem dX10_account_85 : decode cX10_account 85 = .ok (.iload_n 3, 1) := by decide +kernel
theorem dX10_account_86 : decode cX10_account 86 = .ok (.iadd, 1) := by decide +kernel
theorem dX10_account_87 : decode cX10_account 87 = .ok (.iconst 1, 1) := by decide +kernel
theorem dX10_account_88 : decode cX10_account 88 = .ok (.iastore, 1) := by decide +kernel
theorem dX10_account_89 : decode cX10_account 89 = .ok (.aload_n 0, 1) := by decide +kernel
theorem dX10_account_90 : decode cX10_account 90 = .ok (.getfield 11, 3) := by decide +kernel
theorem dX10_account_93 : decode cX10_account 93 = .ok (.bipush 60, 2) := by decide +kernel
theorem dX10_account_95 : decode cX10_account 95 = .ok (.dup2, 1) := by decide +kernel
theorem dX10_account_96 : decode cX10_account 96 = .ok (.iaload, 1) := by decide +kernel
theorem dX10_account_97 : decode cX10_account 97 = .ok (.iconst 1, 1) := by decide +kernel
theorem dX10_account_98 : decode cX10_account 98 = .ok (.iadd, 1) := by decide +kernel
theorem dX10_account_99 : decode cX10_account 99 = .ok (.iastore, 1) := by decide +kernel
theorem dX10_account_100 : decode cX10_account 100 = .ok (.iload_n 3, 1) := by decide +kernel
theorem dX10_account_101 : decode cX10_account 101 = .ok (.ireturn, 1) := by decide +kernel
set_option maxRecDepth 20000 in
theorem ggX10_set_X10_isAccount : GoodIn wsX10_set wsX10_isAccount := goodIn_r _ [9, 4, 10, 11, 8, 12, 13, 14, 15, 16, 17, 18, 19, 20, 21, 22, 23, 24, 25, 26, 27, 28, 29, 30, 31, 32, 33, 34, 35, 36, 37, 38, 39, 40, 41, 42, 43, 44] (by decide +kernel) (by decide +kernel)
set_option maxRecDepth 20000 in
theorem gX10_set_X10_isAccount : GoodIn wsX10_set (wsV RX10 75 RX10 yX10_isAccount wsX10_isAccount) := goodIn_app (goodIn_of _ (by decide +kernel)) ggX10_set_X10_isAccount
theorem dX10_set_0 : decode cX10_set 0 = .ok (.aload_n 0, 1) := by decide +kernel
theorem dX10_set_1 : decode cX10_set 1 = .ok (.iload_n 1, 1) := by decide +kernel
theorem dX10_set_2 : decode cX10_set 2 = .ok (.invokevirtual 75, 3) := by decide +kernel
theorem dX10_set_5 : decode cX10_set 5 = .ok (.ifCond .eq 35, 3) := by decide +kernel
theorem dX10_set_40 : decode cX10_set 40 = .ok (.ldc2_w 81, 3) := by decide +kernel
theorem dX10_set_43 : decode cX10_set 43 = .ok (.lreturn, 1) := by decide +kernel
set_option maxRecDepth 20000 in
theorem ggX10_gate_X10_isAccount : GoodIn wsX10_gate wsX10_isAccount := goodIn_r _ [6, 1, 7, 8, 5, 9, 10, 11, 12, 13, 14, 15, 16, 17, 18, 19, 20, 21, 22, 23, 24, 25, 26, 27, 28, 29, 30, 31, 32, 33, 34, 35, 36, 37, 38, 39, 40, 41] (by decide +kernel) (by decide +kernel)
set_option maxRecDepth 20000 in
theorem gX10_gate_X10_isAccount : GoodIn wsX10_gate (wsV RX10 75 RX10 yX10_isAccount wsX10_isAccount) := goodIn_app (goodIn_of _ (by decide +kernel)) ggX10_gate_X10_isAccount
theorem dX10_gate_0 : decode cX10_gate 0 = .ok (.aload_n 0, 1) := by decide +kernel
theorem dX10_gate_1 : decode cX10_gate 1 = .ok (.iload_n 1, 1) := by decide +kernel
theorem dX10_gate_2 : decode cX10_gate 2 = .ok (.invokevirtual 75, 3) := by decide +kernel
theorem dX10_gate_5 : decode cX10_gate 5 = .ok (.ifCond .ne 6, 3) := by decide +kernel
theorem dX10_gate_8 : decode cX10_gate 8 = .ok (.bipush (-2), 2) := by decide +kernel
theorem dX10_gate_10 : decode cX10_gate 10 = .ok (.ireturn, 1) := by decide +kernel
set_option maxRecDepth 20000 in
theorem ggX10_told_X10_isAccount : GoodIn wsX10_told wsX10_isAccount := goodIn_r _ [6, 1, 7, 8, 5, 9, 14, 15, 16, 17, 18, 19, 20, 21, 22, 23, 24, 25, 26, 27, 28, 29, 30, 31, 32, 33, 34, 35, 36, 37, 38, 39, 40, 41, 42, 43, 44, 45] (by decide +kernel) (by decide +kernel)
set_option maxRecDepth 20000 in
theorem gX10_told_X10_isAccount : GoodIn wsX10_told (wsV RX10 75 RX10 yX10_isAccount wsX10_isAccount) := goodIn_app (goodIn_of _ (by decide +kernel)) ggX10_told_X10_isAccount
theorem dX10_told_0 : decode cX10_told 0 = .ok (.aload_n 0, 1) := by decide +kernel
theorem dX10_told_1 : decode cX10_told 1 = .ok (.iload_n 1, 1) := by decide +kernel
theorem dX10_told_2 : decode cX10_told 2 = .ok (.invokevirtual 75, 3) := by decide +kernel
theorem dX10_told_5 : decode cX10_told 5 = .ok (.ifCond .ne 6, 3) := by decide +kernel
theorem dX10_told_8 : decode cX10_told 8 = .ok (.bipush (-2), 2) := by decide +kernel
theorem dX10_told_10 : decode cX10_told 10 = .ok (.ireturn, 1) := by decide +kernel
set_option maxRecDepth 20000 in
theorem ggX10_of_X10_isAccount : GoodIn wsX10_of wsX10_isAccount := goodIn_r _ [8, 3, 9, 10, 7, 11, 24, 25, 26, 27, 28, 29, 30, 31, 32, 33, 34, 35, 36, 37, 38, 39, 40, 41, 42, 43, 44, 45, 46, 47, 48, 49, 50, 51, 52, 53, 54, 55] (by decide +kernel) (by decide +kernel)
set_option maxRecDepth 20000 in
theorem gX10_of_X10_isAccount : GoodIn wsX10_of (wsV RX10 75 RX10 yX10_isAccount wsX10_isAccount) := goodIn_app (goodIn_of _ (by decide +kernel)) ggX10_of_X10_isAccount
theorem dX10_of_0 : decode cX10_of 0 = .ok (.aload_n 0, 1) := by decide +kernel
theorem dX10_of_1 : decode cX10_of 1 = .ok (.iload_n 1, 1) := by decide +kernel
theorem dX10_of_2 : decode cX10_of 2 = .ok (.invokevirtual 75, 3) := by decide +kernel
theorem dX10_of_5 : decode cX10_of 5 = .ok (.ifCond .eq 15, 3) := by decide +kernel
theorem dX10_of_20 : decode cX10_of 20 = .ok (.ldc2_w 81, 3) := by decide +kernel
theorem dX10_of_23 : decode cX10_of 23 = .ok (.lreturn, 1) := by decide +kernel
theorem dX10_count_0 : decode cX10_count 0 = .ok (.iload_n 1, 1) := by decide +kernel
theorem dX10_count_1 : decode cX10_count 1 = .ok (.tableswitch 102 0 7 #[47, 55, 60, 68, 76, 84, 92, 97], 47) := by decide +kernel
theorem dX10_count_48 : decode cX10_count 48 = .ok (.aload_n 0, 1) := by decide +kernel
theorem dX10_count_49 : decode cX10_count 49 = .ok (.getfield 11, 3) := by decide +kernel
theorem dX10_count_52 : decode cX10_count 52 = .ok (.bipush 60, 2) := by decide +kernel
theorem dX10_count_54 : decode cX10_count 54 = .ok (.iaload, 1) := by decide +kernel
theorem dX10_count_55 : decode cX10_count 55 = .ok (.ireturn, 1) := by decide +kernel
theorem dX10_count_56 : decode cX10_count 56 = .ok (.aload_n 0, 1) := by decide +kernel
theorem dX10_count_57 : decode cX10_count 57 = .ok (.getfield 100, 3) := by decide +kernel
theorem dX10_count_60 : decode cX10_count 60 = .ok (.ireturn, 1) := by decide +kernel
theorem dX10_count_61 : decode cX10_count 61 = .ok (.aload_n 0, 1) := by decide +kernel
theorem dX10_count_62 : decode cX10_count 62 = .ok (.getfield 11, 3) := by decide +kernel
theorem dX10_count_65 : decode cX10_count 65 = .ok (.bipush 56, 2) := by decide +kernel
theorem dX10_count_67 : decode cX10_count 67 = .ok (.iaload, 1) := by decide +kernel
theorem dX10_count_68 : decode cX10_count 68 = .ok (.ireturn, 1) := by decide +kernel
theorem dX10_count_69 : decode cX10_count 69 = .ok (.aload_n 0, 1) := by decide +kernel
theorem dX10_count_70 : decode cX10_count 70 = .ok (.getfield 11, 3) := by decide +kernel
theorem dX10_count_73 : decode cX10_count 73 = .ok (.bipush 57, 2) := by decide +kernel
theorem dX10_count_75 : decode cX10_count 75 = .ok (.iaload, 1) := by decide +kernel
theorem dX10_count_76 : decode cX10_count 76 = .ok (.ireturn, 1) := by decide +kernel
theorem dX10_count_77 : decode cX10_count 77 = .ok (.aload_n 0, 1) := by decide +kernel
theorem dX10_count_78 : decode cX10_count 78 = .ok (.getfield 11, 3) := by decide +kernel
theorem dX10_count_81 : decode cX10_count 81 = .ok (.bipush 58, 2) := by decide +kernel
theorem dX10_count_83 : decode cX10_count 83 = .ok (.iaload, 1) := by decide +kernel
theorem dX10_count_84 : decode cX10_count 84 = .ok (.ireturn, 1) := by decide +kernel
theorem dX10_count_85 : decode cX10_count 85 = .ok (.aload_n 0, 1) := by decide +kernel
theorem dX10_count_86 : decode cX10_count 86 = .ok (.getfield 11, 3) := by decide +kernel
theorem dX10_count_89 : decode cX10_count 89 = .ok (.bipush 59, 2) := by decide +kernel
theorem dX10_count_91 : decode cX10_count 91 = .ok (.iaload, 1) := by decide +kernel
theorem dX10_count_92 : decode cX10_count 92 = .ok (.ireturn, 1) := by decide +kernel
theorem dX10_count_93 : decode cX10_count 93 = .ok (.aload_n 0, 1) := by decide +kernel
theorem dX10_count_94 : decode cX10_count 94 = .ok (.getfield 104, 3) := by decide +kernel
theorem dX10_count_97 : decode cX10_count 97 = .ok (.ireturn, 1) := by decide +kernel
theorem dX10_count_98 : decode cX10_count 98 = .ok (.aload_n 0, 1) := by decide +kernel
theorem dX10_count_99 : decode cX10_count 99 = .ok (.getfield 107, 3) := by decide +kernel
theorem dX10_count_102 : decode cX10_count 102 = .ok (.ireturn, 1) := by decide +kernel
theorem dX10_count_103 : decode cX10_count 103 = .ok (.bipush (-2), 2) := by decide +kernel
theorem dX10_count_105 : decode cX10_count 105 = .ok (.ireturn, 1) := by decide +kernel
set_option maxRecDepth 20000 in
theorem ggX10_sum_X10_isIn : GoodIn wsX10_sum wsX10_isIn := goodIn_r _ [8] (by decide +kernel) (by decide +kernel)
set_option maxRecDepth 20000 in
theorem gX10_sum_X10_isIn : GoodIn wsX10_sum (va_wsS RX10 67 yX10_isIn wsX10_isIn) := goodIn_app (goodIn_of _ (by decide +kernel)) ggX10_sum_X10_isIn
theorem dX10_sum_0 : decode cX10_sum 0 = .ok (.iload_n 1, 1) := by decide +kernel
theorem dX10_sum_1 : decode cX10_sum 1 = .ok (.i2l, 1) := by decide +kernel
theorem dX10_sum_2 : decode cX10_sum 2 = .ok (.lconst 0, 1) := by decide +kernel
theorem dX10_sum_3 : decode cX10_sum 3 = .ok (.ldc2_w 90, 3) := by decide +kernel
theorem dX10_sum_6 : decode cX10_sum 6 = .ok (.invokestatic 67, 3) := by decide +kernel
theorem dX10_sum_9 : decode cX10_sum 9 = .ok (.ifCond .ne 7, 3) := by decide +kernel
theorem dX10_sum_12 : decode cX10_sum 12 = .ok (.ldc2_w 81, 3) := by decide +kernel
theorem dX10_sum_15 : decode cX10_sum 15 = .ok (.lreturn, 1) := by decide +kernel
theorem dX10_sum_16 : decode cX10_sum 16 = .ok (.iload_n 1, 1) := by decide +kernel
theorem dX10_sum_17 : decode cX10_sum 17 = .ok (.iconst 2, 1) := by decide +kernel
theorem dX10_sum_18 : decode cX10_sum 18 = .ok (.if_icmp .ne 7, 3) := by decide +kernel
theorem dX10_sum_21 : decode cX10_sum 21 = .ok (.lconst 0, 1) := by decide +kernel
theorem dX10_sum_22 : decode cX10_sum 22 = .ok (.goto 7, 3) := by decide +kernel
theorem dX10_sum_25 : decode cX10_sum 25 = .ok (.aload_n 0, 1) := by decide +kernel
theorem dX10_sum_26 : decode cX10_sum 26 = .ok (.getfield 110, 3) := by decide +kernel
theorem dX10_sum_29 : decode cX10_sum 29 = .ok (.lstore_n 2, 1) := by decide +kernel
theorem dX10_sum_30 : decode cX10_sum 30 = .ok (.iconst 0, 1) := by decide +kernel
theorem dX10_sum_31 : decode cX10_sum 31 = .ok (.istore 4, 2) := by decide +kernel
theorem dX10_sum_33 : decode cX10_sum 33 = .ok (.iload 4, 2) := by decide +kernel
theorem dX10_sum_35 : decode cX10_sum 35 = .ok (.aload_n 0, 1) := by decide +kernel
theorem dX10_sum_36 : decode cX10_sum 36 = .ok (.getfield 11, 3) := by decide +kernel
theorem dX10_sum_39 : decode cX10_sum 39 = .ok (.bipush 60, 2) := by decide +kernel
theorem dX10_sum_41 : decode cX10_sum 41 = .ok (.iaload, 1) := by decide +kernel
theorem dX10_sum_42 : decode cX10_sum 42 = .ok (.if_icmp .ge 28, 3) := by decide +kernel
theorem dX10_sum_70 : decode cX10_sum 70 = .ok (.iconst 0, 1) := by decide +kernel
theorem dX10_sum_71 : decode cX10_sum 71 = .ok (.istore 4, 2) := by decide +kernel
theorem dX10_sum_73 : decode cX10_sum 73 = .ok (.iload 4, 2) := by decide +kernel
theorem dX10_sum_75 : decode cX10_sum 75 = .ok (.bipush 64, 2) := by decide +kernel
theorem dX10_sum_77 : decode cX10_sum 77 = .ok (.if_icmp .ge 28, 3) := by decide +kernel
theorem dX10_sum_80 : decode cX10_sum 80 = .ok (.iload_n 1, 1) := by decide +kernel
theorem dX10_sum_81 : decode cX10_sum 81 = .ok (.iconst 2, 1) := by decide +kernel
theorem dX10_sum_82 : decode cX10_sum 82 = .ok (.if_icmp .ne 23, 3) := by decide +kernel
theorem dX10_sum_85 : decode cX10_sum 85 = .ok (.lload_n 2, 1) := by decide +kernel
theorem dX10_sum_86 : decode cX10_sum 86 = .ok (.aload_n 0, 1) := by decide +kernel
theorem dX10_sum_87 : decode cX10_sum 87 = .ok (.getfield 11, 3) := by decide +kernel
theorem dX10_sum_90 : decode cX10_sum 90 = .ok (.bipush 61, 2) := by decide +kernel
theorem dX10_sum_92 : decode cX10_sum 92 = .ok (.iload 4, 2) := by decide +kernel
theorem dX10_sum_94 : decode cX10_sum 94 = .ok (.iadd, 1) := by decide +kernel
theorem dX10_sum_95 : decode cX10_sum 95 = .ok (.iaload, 1) := by decide +kernel
theorem dX10_sum_96 : decode cX10_sum 96 = .ok (.i2l, 1) := by decide +kernel
theorem dX10_sum_97 : decode cX10_sum 97 = .ok (.ladd, 1) := by decide +kernel
theorem dX10_sum_98 : decode cX10_sum 98 = .ok (.lstore_n 2, 1) := by decide +kernel
theorem dX10_sum_99 : decode cX10_sum 99 = .ok (.iinc 4 1, 3) := by decide +kernel
theorem dX10_sum_102 : decode cX10_sum 102 = .ok (.goto (-29), 3) := by decide +kernel
theorem dX10_sum_105 : decode cX10_sum 105 = .ok (.lload_n 2, 1) := by decide +kernel
theorem dX10_sum_106 : decode cX10_sum 106 = .ok (.lreturn, 1) := by decide +kernel
set_option maxRecDepth 20000 in
theorem ggX10_taken_X10_isAccount : GoodIn wsX10_taken wsX10_isAccount := goodIn_r _ [7, 2, 8, 9, 6, 10, 14, 15, 16, 17, 18, 19, 20, 21, 22, 23, 24, 25, 26, 27, 28, 29, 30, 31, 32, 33, 34, 35, 36, 37, 38, 39, 40, 41, 42, 43, 44, 45] (by decide +kernel) (by decide +kernel)
set_option maxRecDepth 20000 in
theorem gX10_taken_X10_isAccount : GoodIn wsX10_taken (wsV RX10 75 RX10 yX10_isAccount wsX10_isAccount) := goodIn_app (goodIn_of _ (by decide +kernel)) ggX10_taken_X10_isAccount
theorem dX10_taken_0 : decode cX10_taken 0 = .ok (.aload_n 0, 1) := by decide +kernel
theorem dX10_taken_1 : decode cX10_taken 1 = .ok (.iload_n 1, 1) := by decide +kernel
theorem dX10_taken_2 : decode cX10_taken 2 = .ok (.invokevirtual 75, 3) := by decide +kernel
theorem dX10_taken_5 : decode cX10_taken 5 = .ok (.ifCond .eq 15, 3) := by decide +kernel
theorem dX10_taken_20 : decode cX10_taken 20 = .ok (.bipush (-2), 2) := by decide +kernel
theorem dX10_taken_22 : decode cX10_taken 22 = .ok (.ireturn, 1) := by decide +kernel
set_option maxRecDepth 20000 in
theorem ggX10_isByte_X10_isIn : GoodIn wsX10_isByte wsX10_isIn := goodIn_r _ [5] (by decide +kernel) (by decide +kernel)
set_option maxRecDepth 20000 in
theorem gX10_isByte_X10_isIn : GoodIn wsX10_isByte (va_wsS RX10 67 yX10_isIn wsX10_isIn) := goodIn_app (goodIn_of _ (by decide +kernel)) ggX10_isByte_X10_isIn
theorem dX10_isByte_0 : decode cX10_isByte 0 = .ok (.iload_n 0, 1) := by decide +kernel
theorem dX10_isByte_1 : decode cX10_isByte 1 = .ok (.i2l, 1) := by decide +kernel
theorem dX10_isByte_2 : decode cX10_isByte 2 = .ok (.lconst 0, 1) := by decide +kernel
theorem dX10_isByte_3 : decode cX10_isByte 3 = .ok (.ldc2_w 117, 3) := by decide +kernel
theorem dX10_isByte_6 : decode cX10_isByte 6 = .ok (.invokestatic 67, 3) := by decide +kernel
theorem dX10_isByte_9 : decode cX10_isByte 9 = .ok (.ireturn, 1) := by decide +kernel
set_option maxRecDepth 20000 in
theorem ggX10_feed_X10_isIn : GoodIn wsX10_feed wsX10_isIn := goodIn_r _ [7] (by decide +kernel) (by decide +kernel)
set_option maxRecDepth 20000 in
theorem gX10_feed_X10_isIn : GoodIn wsX10_feed (va_wsS RX10 67 yX10_isIn wsX10_isIn) := goodIn_app (goodIn_of _ (by decide +kernel)) ggX10_feed_X10_isIn
set_option maxRecDepth 20000 in
theorem ggX10_feed_X10_isByte : GoodIn wsX10_feed wsX10_isByte := goodIn_r _ [10, 11, 4, 5, 6, 7] (by decide +kernel) (by decide +kernel)
set_option maxRecDepth 20000 in
theorem gX10_feed_X10_isByte : GoodIn wsX10_feed (va_wsS RX10 121 yX10_isByte wsX10_isByte) := goodIn_app (goodIn_of _ (by decide +kernel)) ggX10_feed_X10_isByte
theorem dX10_feed_0 : decode cX10_feed 0 = .ok (.iload_n 1, 1) := by decide +kernel
theorem dX10_feed_1 : decode cX10_feed 1 = .ok (.i2l, 1) := by decide +kernel
theorem dX10_feed_2 : decode cX10_feed 2 = .ok (.lconst 1, 1) := by decide +kernel
theorem dX10_feed_3 : decode cX10_feed 3 = .ok (.ldc2_w 119, 3) := by decide +kernel
theorem dX10_feed_6 : decode cX10_feed 6 = .ok (.invokestatic 67, 3) := by decide +kernel
theorem dX10_feed_9 : decode cX10_feed 9 = .ok (.ifCond .eq 41, 3) := by decide +kernel
theorem dX10_feed_12 : decode cX10_feed 12 = .ok (.iload_n 2, 1) := by decide +kernel
theorem dX10_feed_13 : decode cX10_feed 13 = .ok (.invokestatic 121, 3) := by decide +kernel
theorem dX10_feed_16 : decode cX10_feed 16 = .ok (.ifCond .eq 34, 3) := by decide +kernel
theorem dX10_feed_19 : decode cX10_feed 19 = .ok (.iload_n 3, 1) := by decide +kernel
theorem dX10_feed_20 : decode cX10_feed 20 = .ok (.invokestatic 121, 3) := by decide +kernel
theorem dX10_feed_23 : decode cX10_feed 23 = .ok (.ifCond .eq 27, 3) := by decide +kernel
theorem dX10_feed_26 : decode cX10_feed 26 = .ok (.iload 4, 2) := by decide +kernel
theorem dX10_feed_28 : decode cX10_feed 28 = .ok (.invokestatic 121, 3) := by decide +kernel
theorem dX10_feed_31 : decode cX10_feed 31 = .ok (.ifCond .eq 19, 3) := by decide +kernel
theorem dX10_feed_34 : decode cX10_feed 34 = .ok (.iload 5, 2) := by decide +kernel
theorem dX10_feed_36 : decode cX10_feed 36 = .ok (.invokestatic 121, 3) := by decide +kernel
theorem dX10_feed_39 : decode cX10_feed 39 = .ok (.ifCond .eq 11, 3) := by decide +kernel
theorem dX10_feed_42 : decode cX10_feed 42 = .ok (.iload 6, 2) := by decide +kernel
theorem dX10_feed_44 : decode cX10_feed 44 = .ok (.invokestatic 121, 3) := by decide +kernel
theorem dX10_feed_47 : decode cX10_feed 47 = .ok (.ifCond .ne 6, 3) := by decide +kernel
theorem dX10_feed_50 : decode cX10_feed 50 = .ok (.bipush (-2), 2) := by decide +kernel
theorem dX10_feed_52 : decode cX10_feed 52 = .ok (.ireturn, 1) := by decide +kernel
theorem dX10_feed_53 : decode cX10_feed 53 = .ok (.aload_n 0, 1) := by decide +kernel
theorem dX10_feed_54 : decode cX10_feed 54 = .ok (.getfield 107, 3) := by decide +kernel
theorem dX10_feed_57 : decode cX10_feed 57 = .ok (.iload_n 1, 1) := by decide +kernel
theorem dX10_feed_58 : decode cX10_feed 58 = .ok (.iadd, 1) := by decide +kernel
theorem dX10_feed_59 : decode cX10_feed 59 = .ok (.bipush 80, 2) := by decide +kernel
theorem dX10_feed_61 : decode cX10_feed 61 = .ok (.if_icmp .le 6, 3) := by decide +kernel
theorem dX10_feed_67 : decode cX10_feed 67 = .ok (.iconst 0, 1) := by decide +kernel
theorem dX10_feed_68 : decode cX10_feed 68 = .ok (.istore 7, 2) := by decide +kernel
theorem dX10_feed_70 : decode cX10_feed 70 = .ok (.iload 7, 2) := by decide +kernel
theorem dX10_feed_72 : decode cX10_feed 72 = .ok (.iload_n 1, 1) := by decide +kernel
theorem dX10_feed_73 : decode cX10_feed 73 = .ok (.if_icmp .ge 71, 3) := by decide +kernel
theorem dX10_feed_76 : decode cX10_feed 76 = .ok (.aload_n 0, 1) := by decide +kernel
theorem dX10_feed_77 : decode cX10_feed 77 = .ok (.getfield 21, 3) := by decide +kernel
theorem dX10_feed_80 : decode cX10_feed 80 = .ok (.aload_n 0, 1) := by decide +kernel
theorem dX10_feed_81 : decode cX10_feed 81 = .ok (.getfield 107, 3) := by decide +kernel
theorem dX10_feed_84 : decode cX10_feed 84 = .ok (.iload 7, 2) := by decide +kernel
theorem dX10_feed_86 : decode cX10_feed 86 = .ok (.ifCond .ne 7, 3) := by decide +kernel
theorem dX10_feed_89 : decode cX10_feed 89 = .ok (.iload_n 2, 1) := by decide +kernel
theorem dX10_feed_90 : decode cX10_feed 90 = .ok (.goto 37, 3) := by decide +kernel
theorem dX10_feed_93 : decode cX10_feed 93 = .ok (.iload 7, 2) := by decide +kernel
theorem dX10_feed_95 : decode cX10_feed 95 = .ok (.iconst 1, 1) := by decide +kernel
theorem dX10_feed_96 : decode cX10_feed 96 = .ok (.if_icmp .ne 7, 3) := by decide +kernel
theorem dX10_feed_99 : decode cX10_feed 99 = .ok (.iload_n 3, 1) := by decide +kernel
theorem dX10_feed_100 : decode cX10_feed 100 = .ok (.goto 27, 3) := by decide +kernel
theorem dX10_feed_103 : decode cX10_feed 103 = .ok (.iload 7, 2) := by decide +kernel
theorem dX10_feed_105 : decode cX10_feed 105 = .ok (.iconst 2, 1) := by decide +kernel
theorem dX10_feed_106 : decode cX10_feed 106 = .ok (.if_icmp .ne 8, 3) := by decide +kernel
theorem dX10_feed_109 : decode cX10_feed 109 = .ok (.iload 4, 2) := by decide +kernel
theorem dX10_feed_111 : decode cX10_feed 111 = .ok (.goto 16, 3) := by decide +kernel
theorem dX10_feed_114 : decode cX10_feed 114 = .ok (.iload 7, 2) := by decide +kernel
theorem dX10_feed_116 : decode cX10_feed 116 = .ok (.iconst 3, 1) := by decide +kernel
theorem dX10_feed_117 : decode cX10_feed 117 = .ok (.if_icmp .ne 8, 3) := by decide +kernel
theorem dX10_feed_120 : decode cX10_feed 120 = .ok (.iload 5, 2) := by decide +kernel
theorem dX10_feed_122 : decode cX10_feed 122 = .ok (.goto 5, 3) := by decide +kernel
theorem dX10_feed_125 : decode cX10_feed 125 = .ok (.iload 6, 2) := by decide +kernel
theorem dX10_feed_127 : decode cX10_feed 127 = .ok (.iastore, 1) := by decide +kernel
theorem dX10_feed_128 : decode cX10_feed 128 = .ok (.aload_n 0, 1) := by decide +kernel
theorem dX10_feed_129 : decode cX10_feed 129 = .ok (.dup, 1) := by decide +kernel
theorem dX10_feed_130 : decode cX10_feed 130 = .ok (.getfield 107, 3) := by decide +kernel
theorem dX10_feed_133 : decode cX10_feed 133 = .ok (.iconst 1, 1) := by decide +kernel
theorem dX10_feed_134 : decode cX10_feed 134 = .ok (.iadd, 1) := by decide +kernel
theorem dX10_feed_135 : decode cX10_feed 135 = .ok (.putfield 107, 3) := by decide +kernel
theorem dX10_feed_138 : decode cX10_feed 138 = .ok (.iinc 7 1, 3) := by decide +kernel
theorem dX10_feed_141 : decode cX10_feed 141 = .ok (.goto (-71), 3) := by decide +kernel
theorem dX10_feed_144 : decode cX10_feed 144 = .ok (.aload_n 0, 1) := by decide +kernel
theorem dX10_feed_145 : decode cX10_feed 145 = .ok (.getfield 107, 3) := by decide +kernel
theorem dX10_feed_148 : decode cX10_feed 148 = .ok (.ireturn, 1) := by decide +kernel
theorem dX10_byteAt_0 : decode cX10_byteAt 0 = .ok (.aload_n 0, 1) := by decide +kernel
theorem dX10_byteAt_1 : decode cX10_byteAt 1 = .ok (.getfield 124, 3) := by decide +kernel
theorem dX10_byteAt_4 : decode cX10_byteAt 4 = .ok (.aload_n 0, 1) := by decide +kernel
theorem dX10_byteAt_5 : decode cX10_byteAt 5 = .ok (.getfield 107, 3) := by decide +kernel
theorem dX10_byteAt_8 : decode cX10_byteAt 8 = .ok (.if_icmp .ge 15, 3) := by decide +kernel
theorem dX10_byteAt_23 : decode cX10_byteAt 23 = .ok (.iconst (-1), 1) := by decide +kernel
theorem dX10_byteAt_24 : decode cX10_byteAt 24 = .ok (.ireturn, 1) := by decide +kernel
set_option maxRecDepth 20000 in
theorem ggX10_takesItem_X10_byteAt : GoodIn wsX10_takesItem wsX10_byteAt := goodIn_r _ [6, 1, 7, 8, 30, 31, 32, 33, 34, 35, 36, 37, 38, 39, 40, 41, 42, 43, 44, 45, 46, 47, 48, 49, 50, 51, 52, 53, 54, 55, 56, 57, 58, 59, 60, 61] (by decide +kernel) (by decide +kernel)
set_option maxRecDepth 20000 in
theorem gX10_takesItem_X10_byteAt : GoodIn wsX10_takesItem (wsV RX10 127 RX10 yX10_byteAt wsX10_byteAt) := goodIn_app (goodIn_of _ (by decide +kernel)) ggX10_takesItem_X10_byteAt
theorem dX10_takesItem_0 : decode cX10_takesItem 0 = .ok (.aload_n 0, 1) := by decide +kernel
theorem dX10_takesItem_1 : decode cX10_takesItem 1 = .ok (.invokevirtual 127, 3) := by decide +kernel
theorem dX10_takesItem_4 : decode cX10_takesItem 4 = .ok (.istore_n 2, 1) := by decide +kernel
theorem dX10_takesItem_5 : decode cX10_takesItem 5 = .ok (.iload_n 2, 1) := by decide +kernel
theorem dX10_takesItem_6 : decode cX10_takesItem 6 = .ok (.bipush 40, 2) := by decide +kernel
theorem dX10_takesItem_8 : decode cX10_takesItem 8 = .ok (.if_icmp .eq 21, 3) := by decide +kernel
theorem dX10_takesItem_11 : decode cX10_takesItem 11 = .ok (.iload_n 2, 1) := by decide +kernel
theorem dX10_takesItem_12 : decode cX10_takesItem 12 = .ok (.bipush 91, 2) := by decide +kernel
theorem dX10_takesItem_14 : decode cX10_takesItem 14 = .ok (.if_icmp .eq 15, 3) := by decide +kernel
theorem dX10_takesItem_17 : decode cX10_takesItem 17 = .ok (.iload_n 2, 1) := by decide +kernel
theorem dX10_takesItem_18 : decode cX10_takesItem 18 = .ok (.bipush 60, 2) := by decide +kernel
theorem dX10_takesItem_20 : decode cX10_takesItem 20 = .ok (.if_icmp .eq 9, 3) := by decide +kernel
theorem dX10_takesItem_23 : decode cX10_takesItem 23 = .ok (.iload_n 2, 1) := by decide +kernel
theorem dX10_takesItem_24 : decode cX10_takesItem 24 = .ok (.bipush 123, 2) := by decide +kernel
theorem dX10_takesItem_26 : decode cX10_takesItem 26 = .ok (.if_icmp .ne 10, 3) := by decide +kernel
theorem dX10_takesItem_36 : decode cX10_takesItem 36 = .ok (.iload_n 2, 1) := by decide +kernel
theorem dX10_takesItem_37 : decode cX10_takesItem 37 = .ok (.bipush 112, 2) := by decide +kernel
theorem dX10_takesItem_39 : decode cX10_takesItem 39 = .ok (.if_icmp .ne 8, 3) := by decide +kernel
theorem dX10_takesItem_47 : decode cX10_takesItem 47 = .ok (.iload_n 2, 1) := by decide +kernel
theorem dX10_takesItem_48 : decode cX10_takesItem 48 = .ok (.bipush 120, 2) := by decide +kernel
theorem dX10_takesItem_50 : decode cX10_takesItem 50 = .ok (.if_icmp .eq 19, 3) := by decide +kernel
theorem dX10_takesItem_53 : decode cX10_takesItem 53 = .ok (.iload_n 1, 1) := by decide +kernel
theorem dX10_takesItem_54 : decode cX10_takesItem 54 = .ok (.ifCond .eq 27, 3) := by decide +kernel
theorem dX10_takesItem_81 : decode cX10_takesItem 81 = .ok (.iload_n 2, 1) := by decide +kernel
theorem dX10_takesItem_82 : decode cX10_takesItem 82 = .ok (.bipush 110, 2) := by decide +kernel
theorem dX10_takesItem_84 : decode cX10_takesItem 84 = .ok (.if_icmp .eq 9, 3) := by decide +kernel
theorem dX10_takesItem_87 : decode cX10_takesItem 87 = .ok (.iload_n 2, 1) := by decide +kernel
theorem dX10_takesItem_88 : decode cX10_takesItem 88 = .ok (.bipush 97, 2) := by decide +kernel
theorem dX10_takesItem_90 : decode cX10_takesItem 90 = .ok (.if_icmp .ne 21, 3) := by decide +kernel
theorem dX10_takesItem_111 : decode cX10_takesItem 111 = .ok (.iconst 0, 1) := by decide +kernel
theorem dX10_takesItem_112 : decode cX10_takesItem 112 = .ok (.ireturn, 1) := by decide +kernel
set_option maxRecDepth 20000 in
theorem ggX10_program_X10_takesItem : GoodIn wsX10_program wsX10_takesItem := goodIn_r _ [12, 2, 13, 14, 15, 11, 16, 4, 6, 17, 18, 19, 20, 21, 22, 23, 24, 25, 26, 27, 28, 29, 30, 31, 32, 33, 3, 8, 9, 10, 34, 35, 36, 37, 38, 39, 40, 41, 42, 43, 44, 45, 46, 47, 48, 49, 50, 51, 52, 53, 54, 55, 56, 57, 58, 59, 60, 61, 62, 63, 64, 65] (by decide +kernel) (by decide +kernel)
set_option maxRecDepth 20000 in
theorem gX10_program_X10_takesItem : GoodIn wsX10_program (wsV RX10 138 RX10 yX10_takesItem wsX10_takesItem) := goodIn_app (goodIn_of _ (by decide +kernel)) ggX10_program_X10_takesItem
theorem dX10_program_0 : decode cX10_program 0 = .ok (.aload_n 0, 1) := by decide +kernel
theorem dX10_program_1 : decode cX10_program 1 = .ok (.getfield 100, 3) := by decide +kernel
theorem dX10_program_4 : decode cX10_program 4 = .ok (.iconst 4, 1) := by decide +kernel
theorem dX10_program_5 : decode cX10_program 5 = .ok (.if_icmp .ne 6, 3) := by decide +kernel
theorem dX10_program_11 : decode cX10_program 11 = .ok (.aload_n 0, 1) := by decide +kernel
theorem dX10_program_12 : decode cX10_program 12 = .ok (.iconst 0, 1) := by decide +kernel
theorem dX10_program_13 : decode cX10_program 13 = .ok (.putfield 124, 3) := by decide +kernel
theorem dX10_program_16 : decode cX10_program 16 = .ok (.aload_n 0, 1) := by decide +kernel
theorem dX10_program_17 : decode cX10_program 17 = .ok (.iconst 0, 1) := by decide +kernel
theorem dX10_program_18 : decode cX10_program 18 = .ok (.putfield 131, 3) := by decide +kernel
theorem dX10_program_21 : decode cX10_program 21 = .ok (.aload_n 0, 1) := by decide +kernel
theorem dX10_program_22 : decode cX10_program 22 = .ok (.iconst 0, 1) := by decide +kernel
theorem dX10_program_23 : decode cX10_program 23 = .ok (.invokevirtual 138, 3) := by decide +kernel
theorem dX10_program_26 : decode cX10_program 26 = .ok (.istore_n 1, 1) := by decide +kernel
theorem dX10_program_27 : decode cX10_program 27 = .ok (.iload_n 1, 1) := by decide +kernel
theorem dX10_program_28 : decode cX10_program 28 = .ok (.ifCond .eq 23, 3) := by decide +kernel
theorem dX10_program_51 : decode cX10_program 51 = .ok (.aload_n 0, 1) := by decide +kernel
theorem dX10_program_52 : decode cX10_program 52 = .ok (.getfield 107, 3) := by decide +kernel
theorem dX10_program_55 : decode cX10_program 55 = .ok (.istore_n 2, 1) := by decide +kernel
theorem dX10_program_56 : decode cX10_program 56 = .ok (.aload_n 0, 1) := by decide +kernel
theorem dX10_program_57 : decode cX10_program 57 = .ok (.iconst 0, 1) := by decide +kernel
theorem dX10_program_58 : decode cX10_program 58 = .ok (.putfield 107, 3) := by decide +kernel
theorem dX10_program_61 : decode cX10_program 61 = .ok (.iload_n 1, 1) := by decide +kernel
theorem dX10_program_62 : decode cX10_program 62 = .ok (.ifCond .ne 11, 3) := by decide +kernel
theorem dX10_program_65 : decode cX10_program 65 = .ok (.bipush (-100), 2) := by decide +kernel
theorem dX10_program_67 : decode cX10_program 67 = .ok (.aload_n 0, 1) := by decide +kernel
theorem dX10_program_68 : decode cX10_program 68 = .ok (.getfield 124, 3) := by decide +kernel
theorem dX10_program_71 : decode cX10_program 71 = .ok (.isub, 1) := by decide +kernel
theorem dX10_program_72 : decode cX10_program 72 = .ok (.ireturn, 1) := by decide +kernel
set_option maxRecDepth 20000 in
theorem ggX10_isProgram_X10_isIn : GoodIn wsX10_isProgram wsX10_isIn := goodIn_r _ [5] (by decide +kernel) (by decide +kernel)
set_option maxRecDepth 20000 in
theorem gX10_isProgram_X10_isIn : GoodIn wsX10_isProgram (va_wsS RX10 67 yX10_isIn wsX10_isIn) := goodIn_app (goodIn_of _ (by decide +kernel)) ggX10_isProgram_X10_isIn
theorem dX10_isProgram_0 : decode cX10_isProgram 0 = .ok (.iload_n 1, 1) := by decide +kernel
theorem dX10_isProgram_1 : decode cX10_isProgram 1 = .ok (.i2l, 1) := by decide +kernel
theorem dX10_isProgram_2 : decode cX10_isProgram 2 = .ok (.lconst 0, 1) := by decide +kernel
theorem dX10_isProgram_3 : decode cX10_isProgram 3 = .ok (.aload_n 0, 1) := by decide +kernel
theorem dX10_isProgram_4 : decode cX10_isProgram 4 = .ok (.getfield 100, 3) := by decide +kernel
theorem dX10_isProgram_7 : decode cX10_isProgram 7 = .ok (.iconst 1, 1) := by decide +kernel
theorem dX10_isProgram_8 : decode cX10_isProgram 8 = .ok (.isub, 1) := by decide +kernel
theorem dX10_isProgram_9 : decode cX10_isProgram 9 = .ok (.i2l, 1) := by decide +kernel
theorem dX10_isProgram_10 : decode cX10_isProgram 10 = .ok (.invokestatic 67, 3) := by decide +kernel
theorem dX10_isProgram_13 : decode cX10_isProgram 13 = .ok (.ireturn, 1) := by decide +kernel
set_option maxRecDepth 20000 in
theorem ggX10_run_X10_isProgram : GoodIn wsX10_run wsX10_isProgram := goodIn_r _ [13, 14, 15, 16, 12, 17, 113, 114, 115, 116, 117, 118, 119, 120, 121, 122, 123, 124, 125, 126, 127, 128, 129, 130, 131, 132, 133, 134, 135, 136, 137, 138, 139, 140, 141, 142, 143, 144] (by decide +kernel) (by decide +kernel)
set_option maxRecDepth 20000 in
theorem gX10_run_X10_isProgram : GoodIn wsX10_run (wsV RX10 216 RX10 yX10_isProgram wsX10_isProgram) := goodIn_app (goodIn_of _ (by decide +kernel)) ggX10_run_X10_isProgram
theorem dX10_run_0 : decode cX10_run 0 = .ok (.aload_n 0, 1) := by decide +kernel
theorem dX10_run_1 : decode cX10_run 1 = .ok (.iload_n 1, 1) := by decide +kernel
theorem dX10_run_2 : decode cX10_run 2 = .ok (.invokevirtual 216, 3) := by decide +kernel
theorem dX10_run_5 : decode cX10_run 5 = .ok (.ifCond .ne 6, 3) := by decide +kernel
theorem dX10_run_8 : decode cX10_run 8 = .ok (.bipush (-2), 2) := by decide +kernel
theorem dX10_run_10 : decode cX10_run 10 = .ok (.ireturn, 1) := by decide +kernel
set_option maxRecDepth 20000 in
theorem ggX10_trace_X10_isIn : GoodIn wsX10_trace wsX10_isIn := goodIn_r _ [6] (by decide +kernel) (by decide +kernel)
set_option maxRecDepth 20000 in
theorem gX10_trace_X10_isIn : GoodIn wsX10_trace (va_wsS RX10 67 yX10_isIn wsX10_isIn) := goodIn_app (goodIn_of _ (by decide +kernel)) ggX10_trace_X10_isIn
theorem dX10_trace_0 : decode cX10_trace 0 = .ok (.iload_n 1, 1) := by decide +kernel
theorem dX10_trace_1 : decode cX10_trace 1 = .ok (.i2l, 1) := by decide +kernel
theorem dX10_trace_2 : decode cX10_trace 2 = .ok (.lconst 0, 1) := by decide +kernel
theorem dX10_trace_3 : decode cX10_trace 3 = .ok (.aload_n 0, 1) := by decide +kernel
theorem dX10_trace_4 : decode cX10_trace 4 = .ok (.getfield 104, 3) := by decide +kernel
theorem dX10_trace_7 : decode cX10_trace 7 = .ok (.iconst 1, 1) := by decide +kernel
theorem dX10_trace_8 : decode cX10_trace 8 = .ok (.isub, 1) := by decide +kernel
theorem dX10_trace_9 : decode cX10_trace 9 = .ok (.i2l, 1) := by decide +kernel
theorem dX10_trace_10 : decode cX10_trace 10 = .ok (.invokestatic 67, 3) := by decide +kernel
theorem dX10_trace_13 : decode cX10_trace 13 = .ok (.ifCond .eq 12, 3) := by decide +kernel
theorem dX10_trace_25 : decode cX10_trace 25 = .ok (.bipush (-12), 2) := by decide +kernel
theorem dX10_trace_27 : decode cX10_trace 27 = .ok (.ireturn, 1) := by decide +kernel
set_option maxRecDepth 20000 in
theorem ggX10_would_X10_isProgram : GoodIn wsX10_would wsX10_isProgram := goodIn_r _ [11, 12, 13, 14, 10, 15, 128, 129, 130, 131, 132, 133, 134, 135, 136, 137, 138, 139, 140, 141, 142, 143, 144, 145, 146, 147, 148, 149, 150, 151, 152, 153, 154, 155, 156, 157, 158, 159] (by decide +kernel) (by decide +kernel)
set_option maxRecDepth 20000 in
theorem gX10_would_X10_isProgram : GoodIn wsX10_would (wsV RX10 216 RX10 yX10_isProgram wsX10_isProgram) := goodIn_app (goodIn_of _ (by decide +kernel)) ggX10_would_X10_isProgram
theorem dX10_would_0 : decode cX10_would 0 = .ok (.aload_n 0, 1) := by decide +kernel
theorem dX10_would_1 : decode cX10_would 1 = .ok (.iload_n 1, 1) := by decide +kernel
theorem dX10_would_2 : decode cX10_would 2 = .ok (.invokevirtual 216, 3) := by decide +kernel
theorem dX10_would_5 : decode cX10_would 5 = .ok (.ifCond .eq 37, 3) := by decide +kernel
theorem dX10_would_42 : decode cX10_would 42 = .ok (.ldc2_w 81, 3) := by decide +kernel
theorem dX10_would_45 : decode cX10_would 45 = .ok (.lreturn, 1) := by decide +kernel
set_option maxRecDepth 20000 in
theorem ggX10_needed_X10_isProgram : GoodIn wsX10_needed wsX10_isProgram := goodIn_r _ [7, 8, 9, 10, 6, 11, 137, 138, 139, 140, 141, 142, 143, 144, 145, 146, 147, 148, 149, 150, 151, 152, 153, 154, 155, 156, 157, 158, 159, 160, 161, 162, 163, 164, 165, 166, 167, 168] (by decide +kernel) (by decide +kernel)
set_option maxRecDepth 20000 in
theorem gX10_needed_X10_isProgram : GoodIn wsX10_needed (wsV RX10 216 RX10 yX10_isProgram wsX10_isProgram) := goodIn_app (goodIn_of _ (by decide +kernel)) ggX10_needed_X10_isProgram
theorem dX10_needed_0 : decode cX10_needed 0 = .ok (.aload_n 0, 1) := by decide +kernel
theorem dX10_needed_1 : decode cX10_needed 1 = .ok (.iload_n 1, 1) := by decide +kernel
theorem dX10_needed_2 : decode cX10_needed 2 = .ok (.invokevirtual 216, 3) := by decide +kernel
theorem dX10_needed_5 : decode cX10_needed 5 = .ok (.ifCond .eq 11, 3) := by decide +kernel
theorem dX10_needed_16 : decode cX10_needed 16 = .ok (.bipush (-2), 2) := by decide +kernel
theorem dX10_needed_18 : decode cX10_needed 18 = .ok (.ireturn, 1) := by decide +kernel
set_option maxRecDepth 20000 in
theorem ggX10_hinges_X10_isProgram : GoodIn wsX10_hinges wsX10_isProgram := goodIn_r _ [6, 7, 8, 9, 5, 10, 136, 137, 138, 139, 140, 141, 142, 143, 144, 145, 146, 147, 148, 149, 150, 151, 152, 153, 154, 155, 156, 157, 158, 159, 160, 161, 162, 163, 164, 165, 166, 167] (by decide +kernel) (by decide +kernel)
set_option maxRecDepth 20000 in
theorem gX10_hinges_X10_isProgram : GoodIn wsX10_hinges (wsV RX10 216 RX10 yX10_isProgram wsX10_isProgram) := goodIn_app (goodIn_of _ (by decide +kernel)) ggX10_hinges_X10_isProgram
theorem dX10_hinges_0 : decode cX10_hinges 0 = .ok (.aload_n 0, 1) := by decide +kernel
theorem dX10_hinges_1 : decode cX10_hinges 1 = .ok (.iload_n 1, 1) := by decide +kernel
theorem dX10_hinges_2 : decode cX10_hinges 2 = .ok (.invokevirtual 216, 3) := by decide +kernel
theorem dX10_hinges_5 : decode cX10_hinges 5 = .ok (.ifCond .ne 6, 3) := by decide +kernel
theorem dX10_hinges_8 : decode cX10_hinges 8 = .ok (.bipush (-2), 2) := by decide +kernel
theorem dX10_hinges_10 : decode cX10_hinges 10 = .ok (.ireturn, 1) := by decide +kernel
set_option maxRecDepth 20000 in
theorem ggX10_areTwo_X10_isAccount : GoodIn wsX10_areTwo wsX10_isAccount := goodIn_r _ [5, 6, 7, 8, 4, 9, 10, 11, 12, 13, 14, 15, 16, 17, 18, 19, 20, 21, 22, 23, 24, 25, 26, 27, 28, 29, 30, 31, 32, 33, 34, 35, 36, 37, 38, 39, 40, 41] (by decide +kernel) (by decide +kernel)
set_option maxRecDepth 20000 in
theorem gX10_areTwo_X10_isAccount : GoodIn wsX10_areTwo (wsV RX10 75 RX10 yX10_isAccount wsX10_isAccount) := goodIn_app (goodIn_of _ (by decide +kernel)) ggX10_areTwo_X10_isAccount
theorem dX10_areTwo_0 : decode cX10_areTwo 0 = .ok (.aload_n 0, 1) := by decide +kernel
theorem dX10_areTwo_1 : decode cX10_areTwo 1 = .ok (.iload_n 1, 1) := by decide +kernel
theorem dX10_areTwo_2 : decode cX10_areTwo 2 = .ok (.invokevirtual 75, 3) := by decide +kernel
theorem dX10_areTwo_5 : decode cX10_areTwo 5 = .ok (.ifCond .eq 20, 3) := by decide +kernel
theorem dX10_areTwo_25 : decode cX10_areTwo 25 = .ok (.iconst 0, 1) := by decide +kernel
theorem dX10_areTwo_26 : decode cX10_areTwo 26 = .ok (.ireturn, 1) := by decide +kernel
set_option maxRecDepth 20000 in
theorem ggX10_owe_X10_areTwo : GoodIn wsX10_owe wsX10_areTwo := goodIn_r _ [7, 8, 9, 10, 6, 11, 2, 12, 13, 14, 19, 20, 21, 22, 23, 24, 25, 26, 27, 28, 29, 30, 31, 32, 33, 34, 35, 36, 37, 38, 39, 40, 41, 42, 43, 44, 45, 46, 47, 48, 49, 50] (by decide +kernel) (by decide +kernel)
set_option maxRecDepth 20000 in
theorem gX10_owe_X10_areTwo : GoodIn wsX10_owe (wsV RX10 258 RX10 yX10_areTwo wsX10_areTwo) := goodIn_app (goodIn_of _ (by decide +kernel)) ggX10_owe_X10_areTwo
theorem dX10_owe_0 : decode cX10_owe 0 = .ok (.aload_n 0, 1) := by decide +kernel
theorem dX10_owe_1 : decode cX10_owe 1 = .ok (.iload_n 1, 1) := by decide +kernel
theorem dX10_owe_2 : decode cX10_owe 2 = .ok (.iload_n 2, 1) := by decide +kernel
theorem dX10_owe_3 : decode cX10_owe 3 = .ok (.invokevirtual 258, 3) := by decide +kernel
theorem dX10_owe_6 : decode cX10_owe 6 = .ok (.ifCond .eq 15, 3) := by decide +kernel
theorem dX10_owe_21 : decode cX10_owe 21 = .ok (.bipush (-2), 2) := by decide +kernel
theorem dX10_owe_23 : decode cX10_owe 23 = .ok (.ireturn, 1) := by decide +kernel
set_option maxRecDepth 20000 in
theorem ggX10_owed_X10_areTwo : GoodIn wsX10_owed wsX10_areTwo := goodIn_r _ [5, 6, 7, 8, 4, 9, 10, 11, 12, 13, 18, 19, 20, 21, 22, 23, 24, 25, 26, 27, 28, 29, 30, 31, 32, 33, 34, 35, 36, 37, 38, 39, 40, 41, 42, 43, 44, 45, 46, 47, 48, 49] (by decide +kernel) (by decide +kernel)
set_option maxRecDepth 20000 in
theorem gX10_owed_X10_areTwo : GoodIn wsX10_owed (wsV RX10 258 RX10 yX10_areTwo wsX10_areTwo) := goodIn_app (goodIn_of _ (by decide +kernel)) ggX10_owed_X10_areTwo
theorem dX10_owed_0 : decode cX10_owed 0 = .ok (.aload_n 0, 1) := by decide +kernel
theorem dX10_owed_1 : decode cX10_owed 1 = .ok (.iload_n 1, 1) := by decide +kernel
theorem dX10_owed_2 : decode cX10_owed 2 = .ok (.iload_n 2, 1) := by decide +kernel
theorem dX10_owed_3 : decode cX10_owed 3 = .ok (.invokevirtual 258, 3) := by decide +kernel
theorem dX10_owed_6 : decode cX10_owed 6 = .ok (.ifCond .eq 12, 3) := by decide +kernel
theorem dX10_owed_18 : decode cX10_owed 18 = .ok (.bipush (-2), 2) := by decide +kernel
theorem dX10_owed_20 : decode cX10_owed 20 = .ok (.ireturn, 1) := by decide +kernel
theorem dX10_firstRing_0 : decode cX10_firstRing 0 = .ok (.iconst 0, 1) := by decide +kernel
theorem dX10_firstRing_1 : decode cX10_firstRing 1 = .ok (.istore_n 1, 1) := by decide +kernel
theorem dX10_firstRing_2 : decode cX10_firstRing 2 = .ok (.iload_n 1, 1) := by decide +kernel
theorem dX10_firstRing_3 : decode cX10_firstRing 3 = .ok (.aload_n 0, 1) := by decide +kernel
theorem dX10_firstRing_4 : decode cX10_firstRing 4 = .ok (.getfield 11, 3) := by decide +kernel
theorem dX10_firstRing_7 : decode cX10_firstRing 7 = .ok (.bipush 60, 2) := by decide +kernel
theorem dX10_firstRing_9 : decode cX10_firstRing 9 = .ok (.iaload, 1) := by decide +kernel
theorem dX10_firstRing_10 : decode cX10_firstRing 10 = .ok (.if_icmp .ge 31, 3) := by decide +kernel
theorem dX10_firstRing_41 : decode cX10_firstRing 41 = .ok (.iconst 0, 1) := by decide +kernel
theorem dX10_firstRing_42 : decode cX10_firstRing 42 = .ok (.ireturn, 1) := by decide +kernel
set_option maxRecDepth 20000 in
theorem ggX10_net_X10_firstRing : GoodIn wsX10_net wsX10_firstRing := goodIn_r _ [12, 1, 3, 13, 14, 15, 11, 16, 17, 18, 19, 20, 21, 22, 23, 24, 25, 26, 27, 28, 29, 30, 31, 32, 33, 34, 35, 36, 37, 38, 39, 40, 41, 42, 43, 44, 45, 46, 47, 48, 49, 50, 51, 52] (by decide +kernel) (by decide +kernel)
set_option maxRecDepth 20000 in
theorem gX10_net_X10_firstRing : GoodIn wsX10_net (wsV RX10 266 RX10 yX10_firstRing wsX10_firstRing) := goodIn_app (goodIn_of _ (by decide +kernel)) ggX10_net_X10_firstRing
theorem dX10_net_0 : decode cX10_net 0 = .ok (.iconst 0, 1) := by decide +kernel
theorem dX10_net_1 : decode cX10_net 1 = .ok (.istore_n 1, 1) := by decide +kernel
theorem dX10_net_2 : decode cX10_net 2 = .ok (.iload_n 1, 1) := by decide +kernel
theorem dX10_net_3 : decode cX10_net 3 = .ok (.aload_n 0, 1) := by decide +kernel
theorem dX10_net_4 : decode cX10_net 4 = .ok (.getfield 11, 3) := by decide +kernel
theorem dX10_net_7 : decode cX10_net 7 = .ok (.bipush 60, 2) := by decide +kernel
theorem dX10_net_9 : decode cX10_net 9 = .ok (.iaload, 1) := by decide +kernel
theorem dX10_net_10 : decode cX10_net 10 = .ok (.if_icmp .ge 24, 3) := by decide +kernel
theorem dX10_net_34 : decode cX10_net 34 = .ok (.iconst 0, 1) := by decide +kernel
theorem dX10_net_35 : decode cX10_net 35 = .ok (.istore_n 1, 1) := by decide +kernel
theorem dX10_net_36 : decode cX10_net 36 = .ok (.iload_n 1, 1) := by decide +kernel
theorem dX10_net_37 : decode cX10_net 37 = .ok (.aload_n 0, 1) := by decide +kernel
theorem dX10_net_38 : decode cX10_net 38 = .ok (.getfield 11, 3) := by decide +kernel
theorem dX10_net_41 : decode cX10_net 41 = .ok (.bipush 60, 2) := by decide +kernel
theorem dX10_net_43 : decode cX10_net 43 = .ok (.iaload, 1) := by decide +kernel
theorem dX10_net_44 : decode cX10_net 44 = .ok (.if_icmp .ge 35, 3) := by decide +kernel
theorem dX10_net_79 : decode cX10_net 79 = .ok (.iconst 0, 1) := by decide +kernel
theorem dX10_net_80 : decode cX10_net 80 = .ok (.istore_n 1, 1) := by decide +kernel
theorem dX10_net_81 : decode cX10_net 81 = .ok (.aload_n 0, 1) := by decide +kernel
theorem dX10_net_82 : decode cX10_net 82 = .ok (.invokevirtual 266, 3) := by decide +kernel
theorem dX10_net_85 : decode cX10_net 85 = .ok (.istore_n 2, 1) := by decide +kernel
theorem dX10_net_86 : decode cX10_net 86 = .ok (.iload_n 2, 1) := by decide +kernel
theorem dX10_net_87 : decode cX10_net 87 = .ok (.ifCond .le 109, 3) := by decide +kernel
theorem dX10_net_196 : decode cX10_net 196 = .ok (.iload_n 1, 1) := by decide +kernel
theorem dX10_net_197 : decode cX10_net 197 = .ok (.ireturn, 1) := by decide +kernel
set_option maxRecDepth 20000 in
theorem ggX10_isSheet_X10_isIn : GoodIn wsX10_isSheet wsX10_isIn := goodIn_r _ [5] (by decide +kernel) (by decide +kernel)
set_option maxRecDepth 20000 in
theorem gX10_isSheet_X10_isIn : GoodIn wsX10_isSheet (va_wsS RX10 67 yX10_isIn wsX10_isIn) := goodIn_app (goodIn_of _ (by decide +kernel)) ggX10_isSheet_X10_isIn
theorem dX10_isSheet_0 : decode cX10_isSheet 0 = .ok (.iload_n 0, 1) := by decide +kernel
theorem dX10_isSheet_1 : decode cX10_isSheet 1 = .ok (.i2l, 1) := by decide +kernel
theorem dX10_isSheet_2 : decode cX10_isSheet 2 = .ok (.lconst 0, 1) := by decide +kernel
theorem dX10_isSheet_3 : decode cX10_isSheet 3 = .ok (.ldc2_w 236, 3) := by decide +kernel
theorem dX10_isSheet_6 : decode cX10_isSheet 6 = .ok (.invokestatic 67, 3) := by decide +kernel
theorem dX10_isSheet_9 : decode cX10_isSheet 9 = .ok (.ireturn, 1) := by decide +kernel
set_option maxRecDepth 20000 in
theorem ggX10_tells_X10_isSheet : GoodIn wsX10_tells wsX10_isSheet := goodIn_r _ [6, 7, 8, 9, 5, 10] (by decide +kernel) (by decide +kernel)
set_option maxRecDepth 20000 in
theorem gX10_tells_X10_isSheet : GoodIn wsX10_tells (va_wsS RX10 273 yX10_isSheet wsX10_isSheet) := goodIn_app (goodIn_of _ (by decide +kernel)) ggX10_tells_X10_isSheet
set_option maxRecDepth 20000 in
theorem ggX10_tells_X10_isProgram : GoodIn wsX10_tells wsX10_isProgram := goodIn_r _ [14, 15, 8, 9, 5, 10, 140, 141, 142, 143, 144, 145, 146, 147, 148, 149, 150, 151, 152, 153, 154, 155, 156, 157, 158, 159, 160, 161, 162, 163, 164, 165, 166, 167, 168, 169, 170, 171] (by decide +kernel) (by decide +kernel)
set_option maxRecDepth 20000 in
theorem gX10_tells_X10_isProgram : GoodIn wsX10_tells (wsV RX10 216 RX10 yX10_isProgram wsX10_isProgram) := goodIn_app (goodIn_of _ (by decide +kernel)) ggX10_tells_X10_isProgram
theorem dX10_tells_0 : decode cX10_tells 0 = .ok (.iload_n 1, 1) := by decide +kernel
theorem dX10_tells_1 : decode cX10_tells 1 = .ok (.invokestatic 273, 3) := by decide +kernel
theorem dX10_tells_4 : decode cX10_tells 4 = .ok (.ifCond .eq 36, 3) := by decide +kernel
theorem dX10_tells_7 : decode cX10_tells 7 = .ok (.aload_n 0, 1) := by decide +kernel
theorem dX10_tells_8 : decode cX10_tells 8 = .ok (.iload_n 2, 1) := by decide +kernel
theorem dX10_tells_9 : decode cX10_tells 9 = .ok (.invokevirtual 216, 3) := by decide +kernel
theorem dX10_tells_12 : decode cX10_tells 12 = .ok (.ifCond .eq 28, 3) := by decide +kernel
theorem dX10_tells_40 : decode cX10_tells 40 = .ok (.bipush (-2), 2) := by decide +kernel
theorem dX10_tells_42 : decode cX10_tells 42 = .ok (.ireturn, 1) := by decide +kernel
set_option maxRecDepth 20000 in
theorem ggX10_film_X10_isSheet : GoodIn wsX10_film wsX10_isSheet := goodIn_r _ [11, 12, 13, 14, 10, 15] (by decide +kernel) (by decide +kernel)
set_option maxRecDepth 20000 in
theorem gX10_film_X10_isSheet : GoodIn wsX10_film (va_wsS RX10 273 yX10_isSheet wsX10_isSheet) := goodIn_app (goodIn_of _ (by decide +kernel)) ggX10_film_X10_isSheet
set_option maxRecDepth 20000 in
theorem ggX10_film_X10_isProgram : GoodIn wsX10_film wsX10_isProgram := goodIn_r _ [19, 20, 13, 14, 10, 15, 137, 138, 139, 140, 141, 142, 143, 144, 145, 146, 147, 148, 149, 150, 151, 152, 153, 154, 155, 156, 157, 158, 159, 160, 161, 162, 163, 164, 165, 166, 167, 168] (by decide +kernel) (by decide +kernel)
set_option maxRecDepth 20000 in
theorem gX10_film_X10_isProgram : GoodIn wsX10_film (wsV RX10 216 RX10 yX10_isProgram wsX10_isProgram) := goodIn_app (goodIn_of _ (by decide +kernel)) ggX10_film_X10_isProgram
theorem dX10_film_0 : decode cX10_film 0 = .ok (.iload_n 1, 1) := by decide +kernel
theorem dX10_film_1 : decode cX10_film 1 = .ok (.invokestatic 273, 3) := by decide +kernel
theorem dX10_film_4 : decode cX10_film 4 = .ok (.ifCond .eq 11, 3) := by decide +kernel
theorem dX10_film_7 : decode cX10_film 7 = .ok (.aload_n 0, 1) := by decide +kernel
theorem dX10_film_8 : decode cX10_film 8 = .ok (.iload_n 2, 1) := by decide +kernel
theorem dX10_film_9 : decode cX10_film 9 = .ok (.invokevirtual 216, 3) := by decide +kernel
theorem dX10_film_12 : decode cX10_film 12 = .ok (.ifCond .ne 6, 3) := by decide +kernel
theorem dX10_film_15 : decode cX10_film 15 = .ok (.bipush (-2), 2) := by decide +kernel
theorem dX10_film_17 : decode cX10_film 17 = .ok (.ireturn, 1) := by decide +kernel
theorem dX10_image_0 : decode cX10_image 0 = .ok (.aload_n 0, 1) := by decide +kernel
theorem dX10_image_1 : decode cX10_image 1 = .ok (.getfield 11, 3) := by decide +kernel
theorem dX10_image_4 : decode cX10_image 4 = .ok (.iconst 0, 1) := by decide +kernel
theorem dX10_image_5 : decode cX10_image 5 = .ok (.aload_n 0, 1) := by decide +kernel
theorem dX10_image_6 : decode cX10_image 6 = .ok (.getfield 18, 3) := by decide +kernel
theorem dX10_image_9 : decode cX10_image 9 = .ok (.iconst 0, 1) := by decide +kernel
theorem dX10_image_10 : decode cX10_image 10 = .ok (.bipush 125, 2) := by decide +kernel
theorem dX10_image_12 : decode cX10_image 12 = .ok (.invokestatic 227, 3) := by decide +kernel
theorem dX10_image_15 : decode cX10_image 15 = .ok (.aload_n 0, 1) := by decide +kernel
theorem dX10_image_16 : decode cX10_image 16 = .ok (.getfield 24, 3) := by decide +kernel
theorem dX10_image_19 : decode cX10_image 19 = .ok (.iconst 0, 1) := by decide +kernel
theorem dX10_image_20 : decode cX10_image 20 = .ok (.aload_n 0, 1) := by decide +kernel
theorem dX10_image_21 : decode cX10_image 21 = .ok (.getfield 30, 3) := by decide +kernel
