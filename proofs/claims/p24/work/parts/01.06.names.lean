set_option maxRecDepth 20000 in
theorem ggX10_load_X10_owe : GoodIn wsX10_load wsX10_owe := goodIn_r _ [20, 21, 22, 23, 24, 25, 7, 26, 27, 28, 29, 30, 9, 10, 11, 31, 32, 33, 34, 35, 36, 37, 38, 39, 40, 41, 42, 43, 44, 45, 46, 47, 48, 49, 50, 51, 52, 53, 54, 55, 56, 57, 58, 59, 60, 61, 62, 63, 64, 65, 66] (by decide +kernel) (by decide +kernel)
set_option maxRecDepth 20000 in
theorem gX10_load_X10_owe : GoodIn wsX10_load (wsV RX10 297 RX10 yX10_owe wsX10_owe) := goodIn_app (goodIn_of _ (by decide +kernel)) ggX10_load_X10_owe
theorem dX10_load_0 : decode cX10_load 0 = .ok (.iload_n 1, 1) := by decide +kernel
theorem dX10_load_1 : decode cX10_load 1 = .ok (.invokestatic 273, 3) := by decide +kernel
theorem dX10_load_4 : decode cX10_load 4 = .ok (.ifCond .eq 26, 3) := by decide +kernel
theorem dX10_load_7 : decode cX10_load 7 = .ok (.iload_n 2, 1) := by decide +kernel
theorem dX10_load_8 : decode cX10_load 8 = .ok (.i2l, 1) := by decide +kernel
theorem dX10_load_9 : decode cX10_load 9 = .ok (.lconst 0, 1) := by decide +kernel
theorem dX10_load_10 : decode cX10_load 10 = .ok (.lconst 1, 1) := by decide +kernel
theorem dX10_load_11 : decode cX10_load 11 = .ok (.invokestatic 67, 3) := by decide +kernel
theorem dX10_load_14 : decode cX10_load 14 = .ok (.ifCond .eq 16, 3) := by decide +kernel
theorem dX10_load_17 : decode cX10_load 17 = .ok (.iload 4, 2) := by decide +kernel
theorem dX10_load_19 : decode cX10_load 19 = .ok (.i2l, 1) := by decide +kernel
theorem dX10_load_20 : decode cX10_load 20 = .ok (.lconst 0, 1) := by decide +kernel
theorem dX10_load_21 : decode cX10_load 21 = .ok (.ldc2_w 295, 3) := by decide +kernel
theorem dX10_load_24 : decode cX10_load 24 = .ok (.invokestatic 67, 3) := by decide +kernel
theorem dX10_load_27 : decode cX10_load 27 = .ok (.ifCond .ne 6, 3) := by decide +kernel
theorem dX10_load_30 : decode cX10_load 30 = .ok (.bipush (-2), 2) := by decide +kernel
theorem dX10_load_32 : decode cX10_load 32 = .ok (.ireturn, 1) := by decide +kernel
theorem dX10_load_33 : decode cX10_load 33 = .ok (.aload_n 0, 1) := by decide +kernel
theorem dX10_load_34 : decode cX10_load 34 = .ok (.getfield 55, 3) := by decide +kernel
theorem dX10_load_37 : decode cX10_load 37 = .ok (.iload_n 1, 1) := by decide +kernel
theorem dX10_load_38 : decode cX10_load 38 = .ok (.iaload, 1) := by decide +kernel
theorem dX10_load_39 : decode cX10_load 39 = .ok (.iconst (-1), 1) := by decide +kernel
theorem dX10_load_40 : decode cX10_load 40 = .ok (.if_icmp .eq 16, 3) := by decide +kernel
theorem dX10_load_43 : decode cX10_load 43 = .ok (.aload_n 0, 1) := by decide +kernel
theorem dX10_load_44 : decode cX10_load 44 = .ok (.getfield 55, 3) := by decide +kernel
theorem dX10_load_47 : decode cX10_load 47 = .ok (.iload_n 1, 1) := by decide +kernel
theorem dX10_load_48 : decode cX10_load 48 = .ok (.iaload, 1) := by decide +kernel
theorem dX10_load_49 : decode cX10_load 49 = .ok (.iload_n 2, 1) := by decide +kernel
theorem dX10_load_50 : decode cX10_load 50 = .ok (.if_icmp .eq 6, 3) := by decide +kernel
theorem dX10_load_53 : decode cX10_load 53 = .ok (.bipush (-13), 2) := by decide +kernel
theorem dX10_load_55 : decode cX10_load 55 = .ok (.ireturn, 1) := by decide +kernel
theorem dX10_load_56 : decode cX10_load 56 = .ok (.aload_n 0, 1) := by decide +kernel
theorem dX10_load_57 : decode cX10_load 57 = .ok (.getfield 55, 3) := by decide +kernel
theorem dX10_load_60 : decode cX10_load 60 = .ok (.iload_n 1, 1) := by decide +kernel
theorem dX10_load_61 : decode cX10_load 61 = .ok (.iaload, 1) := by decide +kernel
theorem dX10_load_62 : decode cX10_load 62 = .ok (.iconst (-1), 1) := by decide +kernel
theorem dX10_load_63 : decode cX10_load 63 = .ok (.if_icmp .ne 6, 3) := by decide +kernel
theorem dX10_load_66 : decode cX10_load 66 = .ok (.bipush (-11), 2) := by decide +kernel
theorem dX10_load_68 : decode cX10_load 68 = .ok (.ireturn, 1) := by decide +kernel
theorem dX10_load_69 : decode cX10_load 69 = .ok (.iconst 0, 1) := by decide +kernel
theorem dX10_load_70 : decode cX10_load 70 = .ok (.istore 5, 2) := by decide +kernel
theorem dX10_load_72 : decode cX10_load 72 = .ok (.iconst 0, 1) := by decide +kernel
theorem dX10_load_73 : decode cX10_load 73 = .ok (.istore 6, 2) := by decide +kernel
theorem dX10_load_75 : decode cX10_load 75 = .ok (.iload 6, 2) := by decide +kernel
theorem dX10_load_77 : decode cX10_load 77 = .ok (.iload 4, 2) := by decide +kernel
theorem dX10_load_79 : decode cX10_load 79 = .ok (.if_icmp .ge 89, 3) := by decide +kernel
theorem dX10_load_82 : decode cX10_load 82 = .ok (.iload_n 3, 1) := by decide +kernel
theorem dX10_load_83 : decode cX10_load 83 = .ok (.i2l, 1) := by decide +kernel
theorem dX10_load_84 : decode cX10_load 84 = .ok (.ldc2_w 236, 3) := by decide +kernel
theorem dX10_load_87 : decode cX10_load 87 = .ok (.iload 6, 2) := by decide +kernel
theorem dX10_load_89 : decode cX10_load 89 = .ok (.i2l, 1) := by decide +kernel
theorem dX10_load_90 : decode cX10_load 90 = .ok (.lmul, 1) := by decide +kernel
theorem dX10_load_91 : decode cX10_load 91 = .ok (.ladd, 1) := by decide +kernel
theorem dX10_load_92 : decode cX10_load 92 = .ok (.lstore 7, 2) := by decide +kernel
theorem dX10_load_94 : decode cX10_load 94 = .ok (.lload 7, 2) := by decide +kernel
theorem dX10_load_96 : decode cX10_load 96 = .ok (.lconst 0, 1) := by decide +kernel
theorem dX10_load_97 : decode cX10_load 97 = .ok (.aload_n 0, 1) := by decide +kernel
theorem dX10_load_98 : decode cX10_load 98 = .ok (.getfield 58, 3) := by decide +kernel
theorem dX10_load_101 : decode cX10_load 101 = .ok (.iload_n 1, 1) := by decide +kernel
theorem dX10_load_102 : decode cX10_load 102 = .ok (.iaload, 1) := by decide +kernel
theorem dX10_load_103 : decode cX10_load 103 = .ok (.iconst 3, 1) := by decide +kernel
theorem dX10_load_104 : decode cX10_load 104 = .ok (.isub, 1) := by decide +kernel
theorem dX10_load_105 : decode cX10_load 105 = .ok (.i2l, 1) := by decide +kernel
theorem dX10_load_106 : decode cX10_load 106 = .ok (.invokestatic 67, 3) := by decide +kernel
theorem dX10_load_109 : decode cX10_load 109 = .ok (.ifCond .ne 6, 3) := by decide +kernel
theorem dX10_load_112 : decode cX10_load 112 = .ok (.bipush (-12), 2) := by decide +kernel
theorem dX10_load_114 : decode cX10_load 114 = .ok (.ireturn, 1) := by decide +kernel
theorem dX10_load_115 : decode cX10_load 115 = .ok (.lload 7, 2) := by decide +kernel
theorem dX10_load_117 : decode cX10_load 117 = .ok (.l2i, 1) := by decide +kernel
theorem dX10_load_118 : decode cX10_load 118 = .ok (.istore 9, 2) := by decide +kernel
theorem dX10_load_120 : decode cX10_load 120 = .ok (.iload 5, 2) := by decide +kernel
theorem dX10_load_122 : decode cX10_load 122 = .ok (.aload_n 0, 1) := by decide +kernel
theorem dX10_load_123 : decode cX10_load 123 = .ok (.aload_n 0, 1) := by decide +kernel
theorem dX10_load_124 : decode cX10_load 124 = .ok (.iload_n 1, 1) := by decide +kernel
theorem dX10_load_125 : decode cX10_load 125 = .ok (.iload 9, 2) := by decide +kernel
theorem dX10_load_127 : decode cX10_load 127 = .ok (.invokevirtual 270, 3) := by decide +kernel
theorem dX10_load_130 : decode cX10_load 130 = .ok (.aload_n 0, 1) := by decide +kernel
theorem dX10_load_131 : decode cX10_load 131 = .ok (.iload_n 1, 1) := by decide +kernel
theorem dX10_load_132 : decode cX10_load 132 = .ok (.iload 9, 2) := by decide +kernel
theorem dX10_load_134 : decode cX10_load 134 = .ok (.iconst 1, 1) := by decide +kernel
theorem dX10_load_135 : decode cX10_load 135 = .ok (.iadd, 1) := by decide +kernel
theorem dX10_load_136 : decode cX10_load 136 = .ok (.invokevirtual 270, 3) := by decide +kernel
theorem dX10_load_139 : decode cX10_load 139 = .ok (.aload_n 0, 1) := by decide +kernel
theorem dX10_load_140 : decode cX10_load 140 = .ok (.iload_n 1, 1) := by decide +kernel
theorem dX10_load_141 : decode cX10_load 141 = .ok (.iload 9, 2) := by decide +kernel
theorem dX10_load_143 : decode cX10_load 143 = .ok (.iconst 2, 1) := by decide +kernel
theorem dX10_load_144 : decode cX10_load 144 = .ok (.iadd, 1) := by decide +kernel
theorem dX10_load_145 : decode cX10_load 145 = .ok (.invokevirtual 270, 3) := by decide +kernel
theorem dX10_load_148 : decode cX10_load 148 = .ok (.invokevirtual 297, 3) := by decide +kernel
theorem dX10_load_151 : decode cX10_load 151 = .ok (.ifCond .lt 7, 3) := by decide +kernel
theorem dX10_load_154 : decode cX10_load 154 = .ok (.iconst 1, 1) := by decide +kernel
theorem dX10_load_155 : decode cX10_load 155 = .ok (.goto 4, 3) := by decide +kernel
theorem dX10_load_158 : decode cX10_load 158 = .ok (.iconst 0, 1) := by decide +kernel
theorem dX10_load_159 : decode cX10_load 159 = .ok (.iadd, 1) := by decide +kernel
theorem dX10_load_160 : decode cX10_load 160 = .ok (.istore 5, 2) := by decide +kernel
theorem dX10_load_162 : decode cX10_load 162 = .ok (.iinc 6 1, 3) := by decide +kernel
theorem dX10_load_165 : decode cX10_load 165 = .ok (.goto (-90), 3) := by decide +kernel
theorem dX10_load_168 : decode cX10_load 168 = .ok (.iload 5, 2) := by decide +kernel
theorem dX10_load_170 : decode cX10_load 170 = .ok (.ireturn, 1) := by decide +kernel
theorem dJ9_max_7cf53_0 : decode cJ9_max_7cf53 0 = .ok (.iload_n 0, 1) := by decide +kernel
theorem dJ9_max_7cf53_1 : decode cJ9_max_7cf53 1 = .ok (.iload_n 1, 1) := by decide +kernel
theorem dJ9_max_7cf53_2 : decode cJ9_max_7cf53 2 = .ok (.if_icmp .lt 7, 3) := by decide +kernel
theorem dJ9_max_7cf53_5 : decode cJ9_max_7cf53 5 = .ok (.iload_n 0, 1) := by decide +kernel
theorem dJ9_max_7cf53_6 : decode cJ9_max_7cf53 6 = .ok (.goto 4, 3) := by decide +kernel
theorem dJ9_max_7cf53_9 : decode cJ9_max_7cf53 9 = .ok (.iload_n 1, 1) := by decide +kernel
theorem dJ9_max_7cf53_10 : decode cJ9_max_7cf53 10 = .ok (.ireturn, 1) := by decide +kernel
theorem dJ9_min_7cf53_0 : decode cJ9_min_7cf53 0 = .ok (.iload_n 0, 1) := by decide +kernel
theorem dJ9_min_7cf53_1 : decode cJ9_min_7cf53 1 = .ok (.iload_n 1, 1) := by decide +kernel
theorem dJ9_min_7cf53_2 : decode cJ9_min_7cf53 2 = .ok (.if_icmp .gt 7, 3) := by decide +kernel
theorem dJ9_min_7cf53_5 : decode cJ9_min_7cf53 5 = .ok (.iload_n 0, 1) := by decide +kernel
theorem dJ9_min_7cf53_6 : decode cJ9_min_7cf53 6 = .ok (.goto 4, 3) := by decide +kernel
theorem dJ9_min_7cf53_9 : decode cJ9_min_7cf53 9 = .ok (.iload_n 1, 1) := by decide +kernel
theorem dJ9_min_7cf53_10 : decode cJ9_min_7cf53 10 = .ok (.ireturn, 1) := by decide +kernel
abbrev vwCl : List vw_C := [(RX0, TX0, 13), (RX1, TX1, 1), (RX3, TX3, 3), (RX4, TX4, 5), (RX5, TX5, 4), (RX6, TX6, 8), (RX7, TX7, 3), (RX8, TX8, 2), (RX9, TX9, 13), (RX10, TX10, 32)]
