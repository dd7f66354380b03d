theorem dX10_loops_9 : decode cX10_loops 9 = .ok (.ifCond .le 39, 3) := by decide +kernel
theorem dX10_loops_12 : decode cX10_loops 12 = .ok (.aload_n 0, 1) := by decide +kernel
theorem dX10_loops_13 : decode cX10_loops 13 = .ok (.aload_n 0, 1) := by decide +kernel
theorem dX10_loops_14 : decode cX10_loops 14 = .ok (.iload_n 1, 1) := by decide +kernel
theorem dX10_loops_15 : decode cX10_loops 15 = .ok (.invokevirtual 163, 3) := by decide +kernel
theorem dX10_loops_18 : decode cX10_loops 18 = .ok (.invokevirtual 187, 3) := by decide +kernel
theorem dX10_loops_21 : decode cX10_loops 21 = .ok (.istore_n 3, 1) := by decide +kernel
theorem dX10_loops_22 : decode cX10_loops 22 = .ok (.iload_n 3, 1) := by decide +kernel
theorem dX10_loops_23 : decode cX10_loops 23 = .ok (.bipush 6, 2) := by decide +kernel
theorem dX10_loops_25 : decode cX10_loops 25 = .ok (.if_icmp .ne 5, 3) := by decide +kernel
theorem dX10_loops_28 : decode cX10_loops 28 = .ok (.iconst 0, 1) := by decide +kernel
theorem dX10_loops_29 : decode cX10_loops 29 = .ok (.ireturn, 1) := by decide +kernel
theorem dX10_loops_30 : decode cX10_loops 30 = .ok (.iload_n 3, 1) := by decide +kernel
theorem dX10_loops_31 : decode cX10_loops 31 = .ok (.ifCond .eq 11, 3) := by decide +kernel
theorem dX10_loops_34 : decode cX10_loops 34 = .ok (.iload_n 3, 1) := by decide +kernel
theorem dX10_loops_35 : decode cX10_loops 35 = .ok (.bipush 7, 2) := by decide +kernel
theorem dX10_loops_37 : decode cX10_loops 37 = .ok (.if_icmp .eq 5, 3) := by decide +kernel
theorem dX10_loops_40 : decode cX10_loops 40 = .ok (.iload_n 3, 1) := by decide +kernel
theorem dX10_loops_41 : decode cX10_loops 41 = .ok (.ireturn, 1) := by decide +kernel
theorem dX10_loops_42 : decode cX10_loops 42 = .ok (.iinc 2 (-1), 3) := by decide +kernel
theorem dX10_loops_45 : decode cX10_loops 45 = .ok (.goto (-37), 3) := by decide +kernel
theorem dX10_loops_48 : decode cX10_loops 48 = .ok (.iconst 0, 1) := by decide +kernel
theorem dX10_loops_49 : decode cX10_loops 49 = .ok (.ireturn, 1) := by decide +kernel
theorem dX10_tries_0 : decode cX10_tries 0 = .ok (.aload_n 0, 1) := by decide +kernel
theorem dX10_tries_1 : decode cX10_tries 1 = .ok (.invokevirtual 190, 3) := by decide +kernel
theorem dX10_tries_4 : decode cX10_tries 4 = .ok (.aload_n 0, 1) := by decide +kernel
theorem dX10_tries_5 : decode cX10_tries 5 = .ok (.aload_n 0, 1) := by decide +kernel
theorem dX10_tries_6 : decode cX10_tries 6 = .ok (.iload_n 1, 1) := by decide +kernel
theorem dX10_tries_7 : decode cX10_tries 7 = .ok (.invokevirtual 163, 3) := by decide +kernel
theorem dX10_tries_10 : decode cX10_tries 10 = .ok (.invokevirtual 187, 3) := by decide +kernel
theorem dX10_tries_13 : decode cX10_tries 13 = .ok (.istore_n 3, 1) := by decide +kernel
theorem dX10_tries_14 : decode cX10_tries 14 = .ok (.iload_n 3, 1) := by decide +kernel
theorem dX10_tries_15 : decode cX10_tries 15 = .ok (.i2l, 1) := by decide +kernel
theorem dX10_tries_16 : decode cX10_tries 16 = .ok (.lconst 1, 1) := by decide +kernel
theorem dX10_tries_17 : decode cX10_tries 17 = .ok (.iload_n 2, 1) := by decide +kernel
theorem dX10_tries_18 : decode cX10_tries 18 = .ok (.ifCond .eq 9, 3) := by decide +kernel
theorem dX10_tries_21 : decode cX10_tries 21 = .ok (.ldc2_w 90, 3) := by decide +kernel
theorem dX10_tries_24 : decode cX10_tries 24 = .ok (.goto 6, 3) := by decide +kernel
theorem dX10_tries_27 : decode cX10_tries 27 = .ok (.ldc2_w 71, 3) := by decide +kernel
theorem dX10_tries_30 : decode cX10_tries 30 = .ok (.invokestatic 67, 3) := by decide +kernel
theorem dX10_tries_33 : decode cX10_tries 33 = .ok (.istore 4, 2) := by decide +kernel
theorem dX10_tries_35 : decode cX10_tries 35 = .ok (.aload_n 0, 1) := by decide +kernel
theorem dX10_tries_36 : decode cX10_tries 36 = .ok (.iload 4, 2) := by decide +kernel
theorem dX10_tries_38 : decode cX10_tries 38 = .ok (.invokevirtual 193, 3) := by decide +kernel
theorem dX10_tries_41 : decode cX10_tries 41 = .ok (.iload 4, 2) := by decide +kernel
theorem dX10_tries_43 : decode cX10_tries 43 = .ok (.ifCond .eq 22, 3) := by decide +kernel
theorem dX10_tries_46 : decode cX10_tries 46 = .ok (.aload_n 0, 1) := by decide +kernel
theorem dX10_tries_47 : decode cX10_tries 47 = .ok (.getfield 11, 3) := by decide +kernel
theorem dX10_tries_50 : decode cX10_tries 50 = .ok (.bipush 59, 2) := by decide +kernel
theorem dX10_tries_52 : decode cX10_tries 52 = .ok (.dup2, 1) := by decide +kernel
theorem dX10_tries_53 : decode cX10_tries 53 = .ok (.iaload, 1) := by decide +kernel
theorem dX10_tries_54 : decode cX10_tries 54 = .ok (.iconst 1, 1) := by decide +kernel
theorem dX10_tries_55 : decode cX10_tries 55 = .ok (.iadd, 1) := by decide +kernel
theorem dX10_tries_56 : decode cX10_tries 56 = .ok (.iastore, 1) := by decide +kernel
theorem dX10_tries_57 : decode cX10_tries 57 = .ok (.aload_n 0, 1) := by decide +kernel
theorem dX10_tries_58 : decode cX10_tries 58 = .ok (.bipush 50, 2) := by decide +kernel
theorem dX10_tries_60 : decode cX10_tries 60 = .ok (.iload_n 3, 1) := by decide +kernel
theorem dX10_tries_61 : decode cX10_tries 61 = .ok (.iadd, 1) := by decide +kernel
theorem dX10_tries_62 : decode cX10_tries 62 = .ok (.invokevirtual 184, 3) := by decide +kernel
theorem dX10_tries_65 : decode cX10_tries 65 = .ok (.iload 4, 2) := by decide +kernel
theorem dX10_tries_67 : decode cX10_tries 67 = .ok (.ifCond .eq 7, 3) := by decide +kernel
theorem dX10_tries_70 : decode cX10_tries 70 = .ok (.iconst 0, 1) := by decide +kernel
theorem dX10_tries_71 : decode cX10_tries 71 = .ok (.goto 4, 3) := by decide +kernel
theorem dX10_tries_74 : decode cX10_tries 74 = .ok (.iload_n 3, 1) := by decide +kernel
theorem dX10_tries_75 : decode cX10_tries 75 = .ok (.ireturn, 1) := by decide +kernel
theorem dX10_doesItem_0 : decode cX10_doesItem 0 = .ok (.aload_n 0, 1) := by decide +kernel
theorem dX10_doesItem_1 : decode cX10_doesItem 1 = .ok (.getfield 197, 3) := by decide +kernel
theorem dX10_doesItem_4 : decode cX10_doesItem 4 = .ok (.sipush 500, 3) := by decide +kernel
theorem dX10_doesItem_7 : decode cX10_doesItem 7 = .ok (.if_icmp .ne 5, 3) := by decide +kernel
theorem dX10_doesItem_10 : decode cX10_doesItem 10 = .ok (.iconst 5, 1) := by decide +kernel
theorem dX10_doesItem_11 : decode cX10_doesItem 11 = .ok (.ireturn, 1) := by decide +kernel
theorem dX10_doesItem_12 : decode cX10_doesItem 12 = .ok (.aload_n 0, 1) := by decide +kernel
theorem dX10_doesItem_13 : decode cX10_doesItem 13 = .ok (.dup, 1) := by decide +kernel
theorem dX10_doesItem_14 : decode cX10_doesItem 14 = .ok (.getfield 197, 3) := by decide +kernel
theorem dX10_doesItem_17 : decode cX10_doesItem 17 = .ok (.iconst 1, 1) := by decide +kernel
theorem dX10_doesItem_18 : decode cX10_doesItem 18 = .ok (.iadd, 1) := by decide +kernel
theorem dX10_doesItem_19 : decode cX10_doesItem 19 = .ok (.putfield 197, 3) := by decide +kernel
theorem dX10_doesItem_22 : decode cX10_doesItem 22 = .ok (.aload_n 0, 1) := by decide +kernel
theorem dX10_doesItem_23 : decode cX10_doesItem 23 = .ok (.iload_n 1, 1) := by decide +kernel
theorem dX10_doesItem_24 : decode cX10_doesItem 24 = .ok (.invokevirtual 160, 3) := by decide +kernel
theorem dX10_doesItem_27 : decode cX10_doesItem 27 = .ok (.lookupswitch 134 #[(40, 81), (60, 94), (91, 87), (98, 115), (99, 118), (110, 121), (112, 107), (120, 113), (123, 101)], 81) := by decide +kernel
theorem dX10_doesItem_108 : decode cX10_doesItem 108 = .ok (.aload_n 0, 1) := by decide +kernel
theorem dX10_doesItem_109 : decode cX10_doesItem 109 = .ok (.iload_n 1, 1) := by decide +kernel
theorem dX10_doesItem_110 : decode cX10_doesItem 110 = .ok (.invokevirtual 200, 3) := by decide +kernel
theorem dX10_doesItem_113 : decode cX10_doesItem 113 = .ok (.ireturn, 1) := by decide +kernel
theorem dX10_doesItem_114 : decode cX10_doesItem 114 = .ok (.aload_n 0, 1) := by decide +kernel
theorem dX10_doesItem_115 : decode cX10_doesItem 115 = .ok (.iload_n 1, 1) := by decide +kernel
theorem dX10_doesItem_116 : decode cX10_doesItem 116 = .ok (.iconst 0, 1) := by decide +kernel
theorem dX10_doesItem_117 : decode cX10_doesItem 117 = .ok (.invokevirtual 203, 3) := by decide +kernel
theorem dX10_doesItem_120 : decode cX10_doesItem 120 = .ok (.ireturn, 1) := by decide +kernel
theorem dX10_doesItem_121 : decode cX10_doesItem 121 = .ok (.aload_n 0, 1) := by decide +kernel
theorem dX10_doesItem_122 : decode cX10_doesItem 122 = .ok (.iload_n 1, 1) := by decide +kernel
theorem dX10_doesItem_123 : decode cX10_doesItem 123 = .ok (.iconst 1, 1) := by decide +kernel
theorem dX10_doesItem_124 : decode cX10_doesItem 124 = .ok (.invokevirtual 203, 3) := by decide +kernel
theorem dX10_doesItem_127 : decode cX10_doesItem 127 = .ok (.ireturn, 1) := by decide +kernel
theorem dX10_doesItem_128 : decode cX10_doesItem 128 = .ok (.aload_n 0, 1) := by decide +kernel
theorem dX10_doesItem_129 : decode cX10_doesItem 129 = .ok (.iload_n 1, 1) := by decide +kernel
theorem dX10_doesItem_130 : decode cX10_doesItem 130 = .ok (.invokevirtual 207, 3) := by decide +kernel
theorem dX10_doesItem_133 : decode cX10_doesItem 133 = .ok (.ireturn, 1) := by decide +kernel
theorem dX10_doesItem_134 : decode cX10_doesItem 134 = .ok (.aload_n 0, 1) := by decide +kernel
theorem dX10_doesItem_135 : decode cX10_doesItem 135 = .ok (.iload_n 1, 1) := by decide +kernel
theorem dX10_doesItem_136 : decode cX10_doesItem 136 = .ok (.invokevirtual 210, 3) := by decide +kernel
theorem dX10_doesItem_139 : decode cX10_doesItem 139 = .ok (.ireturn, 1) := by decide +kernel
theorem dX10_doesItem_140 : decode cX10_doesItem 140 = .ok (.iconst 4, 1) := by decide +kernel
theorem dX10_doesItem_141 : decode cX10_doesItem 141 = .ok (.ireturn, 1) := by decide +kernel
theorem dX10_doesItem_142 : decode cX10_doesItem 142 = .ok (.bipush 6, 2) := by decide +kernel
theorem dX10_doesItem_144 : decode cX10_doesItem 144 = .ok (.ireturn, 1) := by decide +kernel
theorem dX10_doesItem_145 : decode cX10_doesItem 145 = .ok (.bipush 7, 2) := by decide +kernel
theorem dX10_doesItem_147 : decode cX10_doesItem 147 = .ok (.ireturn, 1) := by decide +kernel
theorem dX10_doesItem_148 : decode cX10_doesItem 148 = .ok (.aload_n 0, 1) := by decide +kernel
theorem dX10_doesItem_149 : decode cX10_doesItem 149 = .ok (.aload_n 0, 1) := by decide +kernel
theorem dX10_doesItem_150 : decode cX10_doesItem 150 = .ok (.iload_n 1, 1) := by decide +kernel
theorem dX10_doesItem_151 : decode cX10_doesItem 151 = .ok (.iconst 1, 1) := by decide +kernel
theorem dX10_doesItem_152 : decode cX10_doesItem 152 = .ok (.iadd, 1) := by decide +kernel
theorem dX10_doesItem_153 : decode cX10_doesItem 153 = .ok (.invokevirtual 178, 3) := by decide +kernel
theorem dX10_doesItem_156 : decode cX10_doesItem 156 = .ok (.iconst 1, 1) := by decide +kernel
theorem dX10_doesItem_157 : decode cX10_doesItem 157 = .ok (.invokevirtual 213, 3) := by decide +kernel
theorem dX10_doesItem_160 : decode cX10_doesItem 160 = .ok (.ireturn, 1) := by decide +kernel
theorem dX10_doesItem_161 : decode cX10_doesItem 161 = .ok (.aload_n 0, 1) := by decide +kernel
theorem dX10_doesItem_162 : decode cX10_doesItem 162 = .ok (.aload_n 0, 1) := by decide +kernel
theorem dX10_doesItem_163 : decode cX10_doesItem 163 = .ok (.iload_n 1, 1) := by decide +kernel
theorem dX10_doesItem_164 : decode cX10_doesItem 164 = .ok (.iconst 1, 1) := by decide +kernel
theorem dX10_doesItem_165 : decode cX10_doesItem 165 = .ok (.iadd, 1) := by decide +kernel
theorem dX10_doesItem_166 : decode cX10_doesItem 166 = .ok (.invokevirtual 178, 3) := by decide +kernel
theorem dX10_doesItem_169 : decode cX10_doesItem 169 = .ok (.iconst 2, 1) := by decide +kernel
theorem dX10_doesItem_170 : decode cX10_doesItem 170 = .ok (.invokevirtual 213, 3) := by decide +kernel
theorem dX10_doesItem_173 : decode cX10_doesItem 173 = .ok (.ireturn, 1) := by decide +kernel
theorem dX10_runs_0 : decode cX10_runs 0 = .ok (.aload_n 0, 1) := by decide +kernel
theorem dX10_runs_1 : decode cX10_runs 1 = .ok (.iload_n 1, 1) := by decide +kernel
theorem dX10_runs_2 : decode cX10_runs 2 = .ok (.putfield 157, 3) := by decide +kernel
theorem dX10_runs_5 : decode cX10_runs 5 = .ok (.aload_n 0, 1) := by decide +kernel
theorem dX10_runs_6 : decode cX10_runs 6 = .ok (.iconst 0, 1) := by decide +kernel
theorem dX10_runs_7 : decode cX10_runs 7 = .ok (.putfield 197, 3) := by decide +kernel
theorem dX10_runs_10 : decode cX10_runs 10 = .ok (.aload_n 0, 1) := by decide +kernel
theorem dX10_runs_11 : decode cX10_runs 11 = .ok (.iconst 0, 1) := by decide +kernel
theorem dX10_runs_12 : decode cX10_runs 12 = .ok (.putfield 154, 3) := by decide +kernel
theorem dX10_runs_15 : decode cX10_runs 15 = .ok (.aload_n 0, 1) := by decide +kernel
theorem dX10_runs_16 : decode cX10_runs 16 = .ok (.iconst 0, 1) := by decide +kernel
theorem dX10_runs_17 : decode cX10_runs 17 = .ok (.putfield 172, 3) := by decide +kernel
theorem dX10_runs_20 : decode cX10_runs 20 = .ok (.iconst 0, 1) := by decide +kernel
theorem dX10_runs_21 : decode cX10_runs 21 = .ok (.istore_n 2, 1) := by decide +kernel
theorem dX10_runs_22 : decode cX10_runs 22 = .ok (.iload_n 2, 1) := by decide +kernel
theorem dX10_runs_23 : decode cX10_runs 23 = .ok (.bipush 8, 2) := by decide +kernel
theorem dX10_runs_25 : decode cX10_runs 25 = .ok (.if_icmp .ge 16, 3) := by decide +kernel
theorem dX10_runs_28 : decode cX10_runs 28 = .ok (.aload_n 0, 1) := by decide +kernel
theorem dX10_runs_29 : decode cX10_runs 29 = .ok (.getfield 36, 3) := by decide +kernel
theorem dX10_runs_32 : decode cX10_runs 32 = .ok (.iload_n 2, 1) := by decide +kernel
theorem dX10_runs_33 : decode cX10_runs 33 = .ok (.iconst 0, 1) := by decide +kernel
theorem dX10_runs_34 : decode cX10_runs 34 = .ok (.iastore, 1) := by decide +kernel
theorem dX10_runs_35 : decode cX10_runs 35 = .ok (.iinc 2 1, 3) := by decide +kernel
theorem dX10_runs_38 : decode cX10_runs 38 = .ok (.goto (-16), 3) := by decide +kernel
theorem dX10_runs_41 : decode cX10_runs 41 = .ok (.aload_n 0, 1) := by decide +kernel
theorem dX10_runs_42 : decode cX10_runs 42 = .ok (.invokevirtual 190, 3) := by decide +kernel
theorem dX10_runs_45 : decode cX10_runs 45 = .ok (.aload_n 0, 1) := by decide +kernel
theorem dX10_runs_46 : decode cX10_runs 46 = .ok (.iconst 0, 1) := by decide +kernel
theorem dX10_runs_47 : decode cX10_runs 47 = .ok (.invokevirtual 187, 3) := by decide +kernel
theorem dX10_runs_50 : decode cX10_runs 50 = .ok (.istore_n 2, 1) := by decide +kernel
theorem dX10_runs_51 : decode cX10_runs 51 = .ok (.aload_n 0, 1) := by decide +kernel
theorem dX10_runs_52 : decode cX10_runs 52 = .ok (.iload_n 2, 1) := by decide +kernel
theorem dX10_runs_53 : decode cX10_runs 53 = .ok (.ifCond .eq 7, 3) := by decide +kernel
theorem dX10_runs_56 : decode cX10_runs 56 = .ok (.iconst 1, 1) := by decide +kernel
theorem dX10_runs_57 : decode cX10_runs 57 = .ok (.goto 4, 3) := by decide +kernel
theorem dX10_runs_60 : decode cX10_runs 60 = .ok (.iconst 0, 1) := by decide +kernel
theorem dX10_runs_61 : decode cX10_runs 61 = .ok (.invokevirtual 193, 3) := by decide +kernel
theorem dX10_runs_64 : decode cX10_runs 64 = .ok (.iload_n 2, 1) := by decide +kernel
theorem dX10_runs_65 : decode cX10_runs 65 = .ok (.ireturn, 1) := by decide +kernel
theorem dX10_isProgram_0 : decode cX10_isProgram 0 = .ok (.iload_n 1, 1) := by decide +kernel
theorem dX10_isProgram_1 : decode cX10_isProgram 1 = .ok (.i2l, 1) := by decide +kernel
theorem dX10_isProgram_2 : decode cX10_isProgram 2 = .ok (.lconst 0, 1) := by decide +kernel
theorem dX10_isProgram_3 : decode cX10_isProgram 3 = .ok (.aload_n 0, 1) := by decide +kernel
theorem dX10_isProgram_4 : decode cX10_isProgram 4 = .ok (.getfield 100, 3) := by decide +kernel
theorem dX10_isProgram_7 : decode cX10_isProgram 7 = .ok (.iconst 1, 1) := by decide +kernel
theorem dX10_isProgram_8 : decode cX10_isProgram 8 = .ok (.isub, 1) := by decide +kernel
theorem dX10_isProgram_9 : decode cX10_isProgram 9 = .ok (.i2l, 1) := by decide +kernel
theorem dX10_isProgram_10 : decode cX10_isProgram 10 = .ok (.invokestatic 67, 3) := by decide +kernel
theorem dX10_isProgram_13 : decode cX10_isProgram 13 = .ok (.ireturn, 1) := by decide +kernel
theorem dX10_run_0 : decode cX10_run 0 = .ok (.aload_n 0, 1) := by decide +kernel
theorem dX10_run_1 : decode cX10_run 1 = .ok (.iload_n 1, 1) := by decide +kernel
theorem dX10_run_2 : decode cX10_run 2 = .ok (.invokevirtual 216, 3) := by decide +kernel
theorem dX10_run_5 : decode cX10_run 5 = .ok (.ifCond .ne 6, 3) := by decide +kernel
theorem dX10_run_8 : decode cX10_run 8 = .ok (.bipush (-2), 2) := by decide +kernel
theorem dX10_run_10 : decode cX10_run 10 = .ok (.ireturn, 1) := by decide +kernel
theorem dX10_run_11 : decode cX10_run 11 = .ok (.aload_n 0, 1) := by decide +kernel
theorem dX10_run_12 : decode cX10_run 12 = .ok (.iload_n 1, 1) := by decide +kernel
theorem dX10_run_13 : decode cX10_run 13 = .ok (.invokevirtual 219, 3) := by decide +kernel
theorem dX10_run_16 : decode cX10_run 16 = .ok (.istore_n 2, 1) := by decide +kernel
theorem dX10_run_17 : decode cX10_run 17 = .ok (.aload_n 0, 1) := by decide +kernel
theorem dX10_run_18 : decode cX10_run 18 = .ok (.bipush 60, 2) := by decide +kernel
theorem dX10_run_20 : decode cX10_run 20 = .ok (.aload_n 0, 1) := by decide +kernel
theorem dX10_run_21 : decode cX10_run 21 = .ok (.getfield 154, 3) := by decide +kernel
theorem dX10_run_24 : decode cX10_run 24 = .ok (.invokestatic 222, 3) := by decide +kernel
theorem dX10_run_27 : decode cX10_run 27 = .ok (.putfield 104, 3) := by decide +kernel
theorem dX10_run_30 : decode cX10_run 30 = .ok (.iconst 0, 1) := by decide +kernel
theorem dX10_run_31 : decode cX10_run 31 = .ok (.istore_n 3, 1) := by decide +kernel
theorem dX10_run_32 : decode cX10_run 32 = .ok (.iload_n 3, 1) := by decide +kernel
theorem dX10_run_33 : decode cX10_run 33 = .ok (.aload_n 0, 1) := by decide +kernel
theorem dX10_run_34 : decode cX10_run 34 = .ok (.getfield 104, 3) := by decide +kernel
theorem dX10_run_37 : decode cX10_run 37 = .ok (.if_icmp .ge 21, 3) := by decide +kernel
theorem dX10_run_40 : decode cX10_run 40 = .ok (.aload_n 0, 1) := by decide +kernel
theorem dX10_run_41 : decode cX10_run 41 = .ok (.getfield 42, 3) := by decide +kernel
theorem dX10_run_44 : decode cX10_run 44 = .ok (.iload_n 3, 1) := by decide +kernel
theorem dX10_run_45 : decode cX10_run 45 = .ok (.aload_n 0, 1) := by decide +kernel
theorem dX10_run_46 : decode cX10_run 46 = .ok (.getfield 39, 3) := by decide +kernel
theorem dX10_run_49 : decode cX10_run 49 = .ok (.iload_n 3, 1) := by decide +kernel
theorem dX10_run_50 : decode cX10_run 50 = .ok (.iaload, 1) := by decide +kernel
theorem dX10_run_51 : decode cX10_run 51 = .ok (.iastore, 1) := by decide +kernel
theorem dX10_run_52 : decode cX10_run 52 = .ok (.iinc 3 1, 3) := by decide +kernel
theorem dX10_run_55 : decode cX10_run 55 = .ok (.goto (-23), 3) := by decide +kernel
theorem dX10_run_58 : decode cX10_run 58 = .ok (.iload_n 2, 1) := by decide +kernel
theorem dX10_run_59 : decode cX10_run 59 = .ok (.ireturn, 1) := by decide +kernel
theorem dX10_trace_0 : decode cX10_trace 0 = .ok (.iload_n 1, 1) := by decide +kernel
theorem dX10_trace_1 : decode cX10_trace 1 = .ok (.i2l, 1) := by decide +kernel
theorem dX10_trace_2 : decode cX10_trace 2 = .ok (.lconst 0, 1) := by decide +kernel
theorem dX10_trace_3 : decode cX10_trace 3 = .ok (.aload_n 0, 1) := by decide +kernel
theorem dX10_trace_4 : decode cX10_trace 4 = .ok (.getfield 104, 3) := by decide +kernel
theorem dX10_trace_7 : decode cX10_trace 7 = .ok (.iconst 1, 1) := by decide +kernel
theorem dX10_trace_8 : decode cX10_trace 8 = .ok (.isub, 1) := by decide +kernel
theorem dX10_trace_9 : decode cX10_trace 9 = .ok (.i2l, 1) := by decide +kernel
theorem dX10_trace_10 : decode cX10_trace 10 = .ok (.invokestatic 67, 3) := by decide +kernel
theorem dX10_trace_13 : decode cX10_trace 13 = .ok (.ifCond .eq 12, 3) := by decide +kernel
theorem dX10_trace_16 : decode cX10_trace 16 = .ok (.aload_n 0, 1) := by decide +kernel
theorem dX10_trace_17 : decode cX10_trace 17 = .ok (.getfield 42, 3) := by decide +kernel
theorem dX10_trace_20 : decode cX10_trace 20 = .ok (.iload_n 1, 1) := by decide +kernel
theorem dX10_trace_21 : decode cX10_trace 21 = .ok (.iaload, 1) := by decide +kernel
theorem dX10_trace_22 : decode cX10_trace 22 = .ok (.goto 5, 3) := by decide +kernel
theorem dX10_trace_25 : decode cX10_trace 25 = .ok (.bipush (-12), 2) := by decide +kernel
theorem dX10_trace_27 : decode cX10_trace 27 = .ok (.ireturn, 1) := by decide +kernel
theorem dX10_thinks_0 : decode cX10_thinks 0 = .ok (.aload_n 0, 1) := by decide +kernel
theorem dX10_thinks_1 : decode cX10_thinks 1 = .ok (.getfield 11, 3) := by decide +kernel
theorem dX10_thinks_4 : decode cX10_thinks 4 = .ok (.iconst 0, 1) := by decide +kernel
theorem dX10_thinks_5 : decode cX10_thinks 5 = .ok (.aload_n 0, 1) := by decide +kernel
theorem dX10_thinks_6 : decode cX10_thinks 6 = .ok (.getfield 15, 3) := by decide +kernel
theorem dX10_thinks_9 : decode cX10_thinks 9 = .ok (.iconst 0, 1) := by decide +kernel
theorem dX10_thinks_10 : decode cX10_thinks 10 = .ok (.bipush 125, 2) := by decide +kernel
theorem dX10_thinks_12 : decode cX10_thinks 12 = .ok (.invokestatic 227, 3) := by decide +kernel
theorem dX10_thinks_15 : decode cX10_thinks 15 = .ok (.aload_n 0, 1) := by decide +kernel
theorem dX10_thinks_16 : decode cX10_thinks 16 = .ok (.aload_n 0, 1) := by decide +kernel
theorem dX10_thinks_17 : decode cX10_thinks 17 = .ok (.getfield 110, 3) := by decide +kernel
theorem dX10_thinks_20 : decode cX10_thinks 20 = .ok (.putfield 233, 3) := by decide +kernel
theorem dX10_thinks_23 : decode cX10_thinks 23 = .ok (.return_, 1) := by decide +kernel
theorem dX10_wakes_0 : decode cX10_wakes 0 = .ok (.aload_n 0, 1) := by decide +kernel
theorem dX10_wakes_1 : decode cX10_wakes 1 = .ok (.getfield 15, 3) := by decide +kernel
theorem dX10_wakes_4 : decode cX10_wakes 4 = .ok (.iconst 0, 1) := by decide +kernel
theorem dX10_wakes_5 : decode cX10_wakes 5 = .ok (.aload_n 0, 1) := by decide +kernel
theorem dX10_wakes_6 : decode cX10_wakes 6 = .ok (.getfield 11, 3) := by decide +kernel
theorem dX10_wakes_9 : decode cX10_wakes 9 = .ok (.iconst 0, 1) := by decide +kernel
theorem dX10_wakes_10 : decode cX10_wakes 10 = .ok (.bipush 125, 2) := by decide +kernel
theorem dX10_wakes_12 : decode cX10_wakes 12 = .ok (.invokestatic 227, 3) := by decide +kernel
theorem dX10_wakes_15 : decode cX10_wakes 15 = .ok (.aload_n 0, 1) := by decide +kernel
theorem dX10_wakes_16 : decode cX10_wakes 16 = .ok (.aload_n 0, 1) := by decide +kernel
theorem dX10_wakes_17 : decode cX10_wakes 17 = .ok (.getfield 233, 3) := by decide +kernel
theorem dX10_wakes_20 : decode cX10_wakes 20 = .ok (.putfield 110, 3) := by decide +kernel
theorem dX10_wakes_23 : decode cX10_wakes 23 = .ok (.return_, 1) := by decide +kernel
theorem dX10_entries_0 : decode cX10_entries 0 = .ok (.lconst 0, 1) := by decide +kernel
theorem dX10_entries_1 : decode cX10_entries 1 = .ok (.lstore_n 1, 1) := by decide +kernel
theorem dX10_entries_2 : decode cX10_entries 2 = .ok (.iconst 0, 1) := by decide +kernel
theorem dX10_entries_3 : decode cX10_entries 3 = .ok (.istore_n 3, 1) := by decide +kernel
theorem dX10_entries_4 : decode cX10_entries 4 = .ok (.iload_n 3, 1) := by decide +kernel
theorem dX10_entries_5 : decode cX10_entries 5 = .ok (.aload_n 0, 1) := by decide +kernel
theorem dX10_entries_6 : decode cX10_entries 6 = .ok (.getfield 11, 3) := by decide +kernel
theorem dX10_entries_9 : decode cX10_entries 9 = .ok (.bipush 60, 2) := by decide +kernel
theorem dX10_entries_11 : decode cX10_entries 11 = .ok (.iaload, 1) := by decide +kernel
theorem dX10_entries_12 : decode cX10_entries 12 = .ok (.if_icmp .ge 22, 3) := by decide +kernel
theorem dX10_entries_15 : decode cX10_entries 15 = .ok (.lload_n 1, 1) := by decide +kernel
theorem dX10_entries_16 : decode cX10_entries 16 = .ok (.aload_n 0, 1) := by decide +kernel
theorem dX10_entries_17 : decode cX10_entries 17 = .ok (.getfield 11, 3) := by decide +kernel
theorem dX10_entries_20 : decode cX10_entries 20 = .ok (.bipush 32, 2) := by decide +kernel
theorem dX10_entries_22 : decode cX10_entries 22 = .ok (.iload_n 3, 1) := by decide +kernel
theorem dX10_entries_23 : decode cX10_entries 23 = .ok (.iadd, 1) := by decide +kernel
theorem dX10_entries_24 : decode cX10_entries 24 = .ok (.iaload, 1) := by decide +kernel
theorem dX10_entries_25 : decode cX10_entries 25 = .ok (.i2l, 1) := by decide +kernel
theorem dX10_entries_26 : decode cX10_entries 26 = .ok (.ladd, 1) := by decide +kernel
theorem dX10_entries_27 : decode cX10_entries 27 = .ok (.lstore_n 1, 1) := by decide +kernel
theorem dX10_entries_28 : decode cX10_entries 28 = .ok (.iinc 3 1, 3) := by decide +kernel
theorem dX10_entries_31 : decode cX10_entries 31 = .ok (.goto (-27), 3) := by decide +kernel
theorem dX10_entries_34 : decode cX10_entries 34 = .ok (.lload_n 1, 1) := by decide +kernel
theorem dX10_entries_35 : decode cX10_entries 35 = .ok (.lreturn, 1) := by decide +kernel
theorem dX10_would_0 : decode cX10_would 0 = .ok (.aload_n 0, 1) := by decide +kernel
theorem dX10_would_1 : decode cX10_would 1 = .ok (.iload_n 1, 1) := by decide +kernel
theorem dX10_would_2 : decode cX10_would 2 = .ok (.invokevirtual 216, 3) := by decide +kernel
theorem dX10_would_5 : decode cX10_would 5 = .ok (.ifCond .eq 37, 3) := by decide +kernel
theorem dX10_would_8 : decode cX10_would 8 = .ok (.iload_n 2, 1) := by decide +kernel
theorem dX10_would_9 : decode cX10_would 9 = .ok (.i2l, 1) := by decide +kernel
theorem dX10_would_10 : decode cX10_would 10 = .ok (.lconst 0, 1) := by decide +kernel
theorem dX10_would_11 : decode cX10_would 11 = .ok (.ldc2_w 236, 3) := by decide +kernel
theorem dX10_would_14 : decode cX10_would 14 = .ok (.invokestatic 67, 3) := by decide +kernel
theorem dX10_would_17 : decode cX10_would 17 = .ok (.ifCond .ne 29, 3) := by decide +kernel
theorem dX10_would_20 : decode cX10_would 20 = .ok (.iload_n 2, 1) := by decide +kernel
theorem dX10_would_21 : decode cX10_would 21 = .ok (.i2l, 1) := by decide +kernel
theorem dX10_would_22 : decode cX10_would 22 = .ok (.ldc2_w 238, 3) := by decide +kernel
theorem dX10_would_25 : decode cX10_would 25 = .ok (.bipush 9, 2) := by decide +kernel
theorem dX10_would_27 : decode cX10_would 27 = .ok (.aload_n 0, 1) := by decide +kernel
theorem dX10_would_28 : decode cX10_would 28 = .ok (.getfield 11, 3) := by decide +kernel
theorem dX10_would_31 : decode cX10_would 31 = .ok (.bipush 60, 2) := by decide +kernel
theorem dX10_would_33 : decode cX10_would 33 = .ok (.iaload, 1) := by decide +kernel
theorem dX10_would_34 : decode cX10_would 34 = .ok (.iadd, 1) := by decide +kernel
theorem dX10_would_35 : decode cX10_would 35 = .ok (.i2l, 1) := by decide +kernel
theorem dX10_would_36 : decode cX10_would 36 = .ok (.invokestatic 67, 3) := by decide +kernel
theorem dX10_would_39 : decode cX10_would 39 = .ok (.ifCond .ne 7, 3) := by decide +kernel
theorem dX10_would_42 : decode cX10_would 42 = .ok (.ldc2_w 81, 3) := by decide +kernel
theorem dX10_would_45 : decode cX10_would 45 = .ok (.lreturn, 1) := by decide +kernel
theorem dX10_would_46 : decode cX10_would 46 = .ok (.aload_n 0, 1) := by decide +kernel
theorem dX10_would_47 : decode cX10_would 47 = .ok (.invokevirtual 240, 3) := by decide +kernel
theorem dX10_would_50 : decode cX10_would 50 = .ok (.lstore_n 3, 1) := by decide +kernel
theorem dX10_would_51 : decode cX10_would 51 = .ok (.aload_n 0, 1) := by decide +kernel
theorem dX10_would_52 : decode cX10_would 52 = .ok (.invokevirtual 244, 3) := by decide +kernel
theorem dX10_would_55 : decode cX10_would 55 = .ok (.aload_n 0, 1) := by decide +kernel
theorem dX10_would_56 : decode cX10_would 56 = .ok (.iload_n 1, 1) := by decide +kernel
theorem dX10_would_57 : decode cX10_would 57 = .ok (.invokevirtual 219, 3) := by decide +kernel
theorem dX10_would_60 : decode cX10_would 60 = .ok (.istore 5, 2) := by decide +kernel
theorem dX10_would_62 : decode cX10_would 62 = .ok (.iload_n 2, 1) := by decide +kernel
theorem dX10_would_63 : decode cX10_would 63 = .ok (.ifCond .ne 9, 3) := by decide +kernel
theorem dX10_would_66 : decode cX10_would 66 = .ok (.iload 5, 2) := by decide +kernel
theorem dX10_would_68 : decode cX10_would 68 = .ok (.i2l, 1) := by decide +kernel
theorem dX10_would_69 : decode cX10_would 69 = .ok (.goto 55, 3) := by decide +kernel
theorem dX10_would_72 : decode cX10_would 72 = .ok (.iload_n 2, 1) := by decide +kernel
theorem dX10_would_73 : decode cX10_would 73 = .ok (.iconst 1, 1) := by decide +kernel
theorem dX10_would_74 : decode cX10_would 74 = .ok (.if_icmp .ne 10, 3) := by decide +kernel
theorem dX10_would_77 : decode cX10_would 77 = .ok (.aload_n 0, 1) := by decide +kernel
theorem dX10_would_78 : decode cX10_would 78 = .ok (.getfield 110, 3) := by decide +kernel
theorem dX10_would_81 : decode cX10_would 81 = .ok (.goto 43, 3) := by decide +kernel
theorem dX10_would_84 : decode cX10_would 84 = .ok (.iload_n 2, 1) := by decide +kernel
theorem dX10_would_85 : decode cX10_would 85 = .ok (.iconst 2, 1) := by decide +kernel
theorem dX10_would_86 : decode cX10_would 86 = .ok (.if_icmp .ne 11, 3) := by decide +kernel
theorem dX10_would_89 : decode cX10_would 89 = .ok (.aload_n 0, 1) := by decide +kernel
theorem dX10_would_90 : decode cX10_would 90 = .ok (.getfield 154, 3) := by decide +kernel
theorem dX10_would_93 : decode cX10_would 93 = .ok (.i2l, 1) := by decide +kernel
theorem dX10_would_94 : decode cX10_would 94 = .ok (.goto 30, 3) := by decide +kernel
theorem dX10_would_97 : decode cX10_would 97 = .ok (.iload_n 2, 1) := by decide +kernel
theorem dX10_would_98 : decode cX10_would 98 = .ok (.iconst 3, 1) := by decide +kernel
theorem dX10_would_99 : decode cX10_would 99 = .ok (.if_icmp .ne 12, 3) := by decide +kernel
theorem dX10_would_102 : decode cX10_would 102 = .ok (.aload_n 0, 1) := by decide +kernel
theorem dX10_would_103 : decode cX10_would 103 = .ok (.invokevirtual 240, 3) := by decide +kernel
theorem dX10_would_106 : decode cX10_would 106 = .ok (.lload_n 3, 1) := by decide +kernel
theorem dX10_would_107 : decode cX10_would 107 = .ok (.lsub, 1) := by decide +kernel
theorem dX10_would_108 : decode cX10_would 108 = .ok (.goto 16, 3) := by decide +kernel
theorem dX10_would_111 : decode cX10_would 111 = .ok (.aload_n 0, 1) := by decide +kernel
theorem dX10_would_112 : decode cX10_would 112 = .ok (.getfield 11, 3) := by decide +kernel
theorem dX10_would_115 : decode cX10_would 115 = .ok (.bipush 8, 2) := by decide +kernel
theorem dX10_would_117 : decode cX10_would 117 = .ok (.iload_n 2, 1) := by decide +kernel
theorem dX10_would_118 : decode cX10_would 118 = .ok (.iadd, 1) := by decide +kernel
theorem dX10_would_119 : decode cX10_would 119 = .ok (.bipush 10, 2) := by decide +kernel
theorem dX10_would_121 : decode cX10_would 121 = .ok (.isub, 1) := by decide +kernel
theorem dX10_would_122 : decode cX10_would 122 = .ok (.iaload, 1) := by decide +kernel
theorem dX10_would_123 : decode cX10_would 123 = .ok (.i2l, 1) := by decide +kernel
theorem dX10_would_124 : decode cX10_would 124 = .ok (.lstore 6, 2) := by decide +kernel
theorem dX10_would_126 : decode cX10_would 126 = .ok (.aload_n 0, 1) := by decide +kernel
theorem dX10_would_127 : decode cX10_would 127 = .ok (.invokevirtual 247, 3) := by decide +kernel
theorem dX10_would_130 : decode cX10_would 130 = .ok (.lload 6, 2) := by decide +kernel
theorem dX10_would_132 : decode cX10_would 132 = .ok (.lreturn, 1) := by decide +kernel
theorem dX10_outcomeOf_0 : decode cX10_outcomeOf 0 = .ok (.aload_n 0, 1) := by decide +kernel
theorem dX10_outcomeOf_1 : decode cX10_outcomeOf 1 = .ok (.iload_n 1, 1) := by decide +kernel
theorem dX10_outcomeOf_2 : decode cX10_outcomeOf 2 = .ok (.iconst 0, 1) := by decide +kernel
theorem dX10_outcomeOf_3 : decode cX10_outcomeOf 3 = .ok (.invokevirtual 250, 3) := by decide +kernel
theorem dX10_outcomeOf_6 : decode cX10_outcomeOf 6 = .ok (.l2i, 1) := by decide +kernel
theorem dX10_outcomeOf_7 : decode cX10_outcomeOf 7 = .ok (.ireturn, 1) := by decide +kernel
theorem dX10_needed_0 : decode cX10_needed 0 = .ok (.aload_n 0, 1) := by decide +kernel
theorem dX10_needed_1 : decode cX10_needed 1 = .ok (.iload_n 1, 1) := by decide +kernel
theorem dX10_needed_2 : decode cX10_needed 2 = .ok (.invokevirtual 216, 3) := by decide +kernel
theorem dX10_needed_5 : decode cX10_needed 5 = .ok (.ifCond .eq 11, 3) := by decide +kernel
theorem dX10_needed_8 : decode cX10_needed 8 = .ok (.aload_n 0, 1) := by decide +kernel
theorem dX10_needed_9 : decode cX10_needed 9 = .ok (.iload_n 2, 1) := by decide +kernel
theorem dX10_needed_10 : decode cX10_needed 10 = .ok (.invokevirtual 75, 3) := by decide +kernel
theorem dX10_needed_13 : decode cX10_needed 13 = .ok (.ifCond .ne 6, 3) := by decide +kernel
theorem dX10_needed_16 : decode cX10_needed 16 = .ok (.bipush (-2), 2) := by decide +kernel
theorem dX10_needed_18 : decode cX10_needed 18 = .ok (.ireturn, 1) := by decide +kernel
theorem dX10_needed_19 : decode cX10_needed 19 = .ok (.aload_n 0, 1) := by decide +kernel
theorem dX10_needed_20 : decode cX10_needed 20 = .ok (.getfield 11, 3) := by decide +kernel
theorem dX10_needed_23 : decode cX10_needed 23 = .ok (.bipush 8, 2) := by decide +kernel
theorem dX10_needed_25 : decode cX10_needed 25 = .ok (.iload_n 2, 1) := by decide +kernel
theorem dX10_needed_26 : decode cX10_needed 26 = .ok (.iadd, 1) := by decide +kernel
theorem dX10_needed_27 : decode cX10_needed 27 = .ok (.iaload, 1) := by decide +kernel
theorem dX10_needed_28 : decode cX10_needed 28 = .ok (.istore_n 3, 1) := by decide +kernel
theorem dX10_needed_29 : decode cX10_needed 29 = .ok (.iconst (-1), 1) := by decide +kernel
theorem dX10_needed_30 : decode cX10_needed 30 = .ok (.istore 4, 2) := by decide +kernel
theorem dX10_needed_32 : decode cX10_needed 32 = .ok (.iconst 0, 1) := by decide +kernel
theorem dX10_needed_33 : decode cX10_needed 33 = .ok (.istore 5, 2) := by decide +kernel
theorem dX10_needed_35 : decode cX10_needed 35 = .ok (.iload 5, 2) := by decide +kernel
theorem dX10_needed_37 : decode cX10_needed 37 = .ok (.ldc 254, 2) := by decide +kernel
theorem dX10_needed_39 : decode cX10_needed 39 = .ok (.if_icmp .gt 54, 3) := by decide +kernel
theorem dX10_needed_42 : decode cX10_needed 42 = .ok (.iload 4, 2) := by decide +kernel
theorem dX10_needed_44 : decode cX10_needed 44 = .ok (.iconst (-1), 1) := by decide +kernel
theorem dX10_needed_45 : decode cX10_needed 45 = .ok (.if_icmp .ne 48, 3) := by decide +kernel
theorem dX10_needed_48 : decode cX10_needed 48 = .ok (.aload_n 0, 1) := by decide +kernel
theorem dX10_needed_49 : decode cX10_needed 49 = .ok (.getfield 11, 3) := by decide +kernel
theorem dX10_needed_52 : decode cX10_needed 52 = .ok (.bipush 8, 2) := by decide +kernel
theorem dX10_needed_54 : decode cX10_needed 54 = .ok (.iload_n 2, 1) := by decide +kernel
theorem dX10_needed_55 : decode cX10_needed 55 = .ok (.iadd, 1) := by decide +kernel
theorem dX10_needed_56 : decode cX10_needed 56 = .ok (.iload 5, 2) := by decide +kernel
theorem dX10_needed_58 : decode cX10_needed 58 = .ok (.iastore, 1) := by decide +kernel
theorem dX10_needed_59 : decode cX10_needed 59 = .ok (.aload_n 0, 1) := by decide +kernel
theorem dX10_needed_60 : decode cX10_needed 60 = .ok (.iload_n 1, 1) := by decide +kernel
theorem dX10_needed_61 : decode cX10_needed 61 = .ok (.invokevirtual 255, 3) := by decide +kernel
theorem dX10_needed_64 : decode cX10_needed 64 = .ok (.ifCond .ne 8, 3) := by decide +kernel
theorem dX10_needed_67 : decode cX10_needed 67 = .ok (.iload 5, 2) := by decide +kernel
theorem dX10_needed_69 : decode cX10_needed 69 = .ok (.goto 4, 3) := by decide +kernel
theorem dX10_needed_72 : decode cX10_needed 72 = .ok (.iconst (-1), 1) := by decide +kernel
theorem dX10_needed_73 : decode cX10_needed 73 = .ok (.istore 4, 2) := by decide +kernel
theorem dX10_needed_75 : decode cX10_needed 75 = .ok (.iload 5, 2) := by decide +kernel
theorem dX10_needed_77 : decode cX10_needed 77 = .ok (.ifCond .ne 7, 3) := by decide +kernel
theorem dX10_needed_80 : decode cX10_needed 80 = .ok (.iconst 1, 1) := by decide +kernel
theorem dX10_needed_81 : decode cX10_needed 81 = .ok (.goto 7, 3) := by decide +kernel
theorem dX10_needed_84 : decode cX10_needed 84 = .ok (.iconst 2, 1) := by decide +kernel
theorem dX10_needed_85 : decode cX10_needed 85 = .ok (.iload 5, 2) := by decide +kernel
theorem dX10_needed_87 : decode cX10_needed 87 = .ok (.imul, 1) := by decide +kernel
theorem dX10_needed_88 : decode cX10_needed 88 = .ok (.istore 5, 2) := by decide +kernel
theorem dX10_needed_90 : decode cX10_needed 90 = .ok (.goto (-55), 3) := by decide +kernel
theorem dX10_needed_93 : decode cX10_needed 93 = .ok (.aload_n 0, 1) := by decide +kernel
theorem dX10_needed_94 : decode cX10_needed 94 = .ok (.getfield 11, 3) := by decide +kernel
theorem dX10_needed_97 : decode cX10_needed 97 = .ok (.bipush 8, 2) := by decide +kernel
theorem dX10_needed_99 : decode cX10_needed 99 = .ok (.iload_n 2, 1) := by decide +kernel
theorem dX10_needed_100 : decode cX10_needed 100 = .ok (.iadd, 1) := by decide +kernel
theorem dX10_needed_101 : decode cX10_needed 101 = .ok (.iload_n 3, 1) := by decide +kernel
theorem dX10_needed_102 : decode cX10_needed 102 = .ok (.iastore, 1) := by decide +kernel
theorem dX10_needed_103 : decode cX10_needed 103 = .ok (.iload 4, 2) := by decide +kernel
theorem dX10_needed_105 : decode cX10_needed 105 = .ok (.ireturn, 1) := by decide +kernel
theorem dX10_hinges_0 : decode cX10_hinges 0 = .ok (.aload_n 0, 1) := by decide +kernel
theorem dX10_hinges_1 : decode cX10_hinges 1 = .ok (.iload_n 1, 1) := by decide +kernel
theorem dX10_hinges_2 : decode cX10_hinges 2 = .ok (.invokevirtual 216, 3) := by decide +kernel
theorem dX10_hinges_5 : decode cX10_hinges 5 = .ok (.ifCond .ne 6, 3) := by decide +kernel
theorem dX10_hinges_8 : decode cX10_hinges 8 = .ok (.bipush (-2), 2) := by decide +kernel
theorem dX10_hinges_10 : decode cX10_hinges 10 = .ok (.ireturn, 1) := by decide +kernel
theorem dX10_hinges_11 : decode cX10_hinges 11 = .ok (.aload_n 0, 1) := by decide +kernel
theorem dX10_hinges_12 : decode cX10_hinges 12 = .ok (.iload_n 1, 1) := by decide +kernel
theorem dX10_hinges_13 : decode cX10_hinges 13 = .ok (.invokevirtual 255, 3) := by decide +kernel
theorem dX10_hinges_16 : decode cX10_hinges 16 = .ok (.istore_n 2, 1) := by decide +kernel
theorem dX10_hinges_17 : decode cX10_hinges 17 = .ok (.iconst 0, 1) := by decide +kernel
theorem dX10_hinges_18 : decode cX10_hinges 18 = .ok (.istore_n 3, 1) := by decide +kernel
theorem dX10_hinges_19 : decode cX10_hinges 19 = .ok (.iconst 0, 1) := by decide +kernel
theorem dX10_hinges_20 : decode cX10_hinges 20 = .ok (.istore 4, 2) := by decide +kernel
theorem dX10_hinges_22 : decode cX10_hinges 22 = .ok (.iload 4, 2) := by decide +kernel
theorem dX10_hinges_24 : decode cX10_hinges 24 = .ok (.aload_n 0, 1) := by decide +kernel
theorem dX10_hinges_25 : decode cX10_hinges 25 = .ok (.getfield 11, 3) := by decide +kernel
theorem dX10_hinges_28 : decode cX10_hinges 28 = .ok (.bipush 60, 2) := by decide +kernel
theorem dX10_hinges_30 : decode cX10_hinges 30 = .ok (.iaload, 1) := by decide +kernel
theorem dX10_hinges_31 : decode cX10_hinges 31 = .ok (.if_icmp .ge 73, 3) := by decide +kernel
theorem dX10_hinges_34 : decode cX10_hinges 34 = .ok (.aload_n 0, 1) := by decide +kernel
theorem dX10_hinges_35 : decode cX10_hinges 35 = .ok (.getfield 11, 3) := by decide +kernel
theorem dX10_hinges_38 : decode cX10_hinges 38 = .ok (.bipush 24, 2) := by decide +kernel
theorem dX10_hinges_40 : decode cX10_hinges 40 = .ok (.iload 4, 2) := by decide +kernel
theorem dX10_hinges_42 : decode cX10_hinges 42 = .ok (.iadd, 1) := by decide +kernel
theorem dX10_hinges_43 : decode cX10_hinges 43 = .ok (.iconst 1, 1) := by decide +kernel
theorem dX10_hinges_44 : decode cX10_hinges 44 = .ok (.aload_n 0, 1) := by decide +kernel
theorem dX10_hinges_45 : decode cX10_hinges 45 = .ok (.getfield 11, 3) := by decide +kernel
theorem dX10_hinges_48 : decode cX10_hinges 48 = .ok (.bipush 24, 2) := by decide +kernel
theorem dX10_hinges_50 : decode cX10_hinges 50 = .ok (.iload 4, 2) := by decide +kernel
theorem dX10_hinges_52 : decode cX10_hinges 52 = .ok (.iadd, 1) := by decide +kernel
theorem dX10_hinges_53 : decode cX10_hinges 53 = .ok (.iaload, 1) := by decide +kernel
theorem dX10_hinges_54 : decode cX10_hinges 54 = .ok (.isub, 1) := by decide +kernel
theorem dX10_hinges_55 : decode cX10_hinges 55 = .ok (.iastore, 1) := by decide +kernel
theorem dX10_hinges_56 : decode cX10_hinges 56 = .ok (.iload_n 3, 1) := by decide +kernel
theorem dX10_hinges_57 : decode cX10_hinges 57 = .ok (.aload_n 0, 1) := by decide +kernel
theorem dX10_hinges_58 : decode cX10_hinges 58 = .ok (.iload_n 1, 1) := by decide +kernel
theorem dX10_hinges_59 : decode cX10_hinges 59 = .ok (.invokevirtual 255, 3) := by decide +kernel
theorem dX10_hinges_62 : decode cX10_hinges 62 = .ok (.iload_n 2, 1) := by decide +kernel
theorem dX10_hinges_63 : decode cX10_hinges 63 = .ok (.if_icmp .ne 7, 3) := by decide +kernel
theorem dX10_hinges_66 : decode cX10_hinges 66 = .ok (.iconst 0, 1) := by decide +kernel
theorem dX10_hinges_67 : decode cX10_hinges 67 = .ok (.goto 7, 3) := by decide +kernel
theorem dX10_hinges_70 : decode cX10_hinges 70 = .ok (.iconst 1, 1) := by decide +kernel
theorem dX10_hinges_71 : decode cX10_hinges 71 = .ok (.iload 4, 2) := by decide +kernel
theorem dX10_hinges_73 : decode cX10_hinges 73 = .ok (.ishl, 1) := by decide +kernel
theorem dX10_hinges_74 : decode cX10_hinges 74 = .ok (.ior, 1) := by decide +kernel
theorem dX10_hinges_75 : decode cX10_hinges 75 = .ok (.istore_n 3, 1) := by decide +kernel
theorem dX10_hinges_76 : decode cX10_hinges 76 = .ok (.aload_n 0, 1) := by decide +kernel
theorem dX10_hinges_77 : decode cX10_hinges 77 = .ok (.getfield 11, 3) := by decide +kernel
theorem dX10_hinges_80 : decode cX10_hinges 80 = .ok (.bipush 24, 2) := by decide +kernel
theorem dX10_hinges_82 : decode cX10_hinges 82 = .ok (.iload 4, 2) := by decide +kernel
theorem dX10_hinges_84 : decode cX10_hinges 84 = .ok (.iadd, 1) := by decide +kernel
theorem dX10_hinges_85 : decode cX10_hinges 85 = .ok (.iconst 1, 1) := by decide +kernel
theorem dX10_hinges_86 : decode cX10_hinges 86 = .ok (.aload_n 0, 1) := by decide +kernel
theorem dX10_hinges_87 : decode cX10_hinges 87 = .ok (.getfield 11, 3) := by decide +kernel
theorem dX10_hinges_90 : decode cX10_hinges 90 = .ok (.bipush 24, 2) := by decide +kernel
theorem dX10_hinges_92 : decode cX10_hinges 92 = .ok (.iload 4, 2) := by decide +kernel
theorem dX10_hinges_94 : decode cX10_hinges 94 = .ok (.iadd, 1) := by decide +kernel
theorem dX10_hinges_95 : decode cX10_hinges 95 = .ok (.iaload, 1) := by decide +kernel
theorem dX10_hinges_96 : decode cX10_hinges 96 = .ok (.isub, 1) := by decide +kernel
theorem dX10_hinges_97 : decode cX10_hinges 97 = .ok (.iastore, 1) := by decide +kernel
theorem dX10_hinges_98 : decode cX10_hinges 98 = .ok (.iinc 4 1, 3) := by decide +kernel
theorem dX10_hinges_101 : decode cX10_hinges 101 = .ok (.goto (-79), 3) := by decide +kernel
theorem dX10_hinges_104 : decode cX10_hinges 104 = .ok (.iload_n 3, 1) := by decide +kernel
theorem dX10_hinges_105 : decode cX10_hinges 105 = .ok (.ireturn, 1) := by decide +kernel
theorem dX10_areTwo_0 : decode cX10_areTwo 0 = .ok (.aload_n 0, 1) := by decide +kernel
theorem dX10_areTwo_1 : decode cX10_areTwo 1 = .ok (.iload_n 1, 1) := by decide +kernel
theorem dX10_areTwo_2 : decode cX10_areTwo 2 = .ok (.invokevirtual 75, 3) := by decide +kernel
theorem dX10_areTwo_5 : decode cX10_areTwo 5 = .ok (.ifCond .eq 20, 3) := by decide +kernel
theorem dX10_areTwo_8 : decode cX10_areTwo 8 = .ok (.aload_n 0, 1) := by decide +kernel
theorem dX10_areTwo_9 : decode cX10_areTwo 9 = .ok (.iload_n 2, 1) := by decide +kernel
theorem dX10_areTwo_10 : decode cX10_areTwo 10 = .ok (.invokevirtual 75, 3) := by decide +kernel
theorem dX10_areTwo_13 : decode cX10_areTwo 13 = .ok (.ifCond .eq 12, 3) := by decide +kernel
theorem dX10_areTwo_16 : decode cX10_areTwo 16 = .ok (.iload_n 1, 1) := by decide +kernel
theorem dX10_areTwo_17 : decode cX10_areTwo 17 = .ok (.iload_n 2, 1) := by decide +kernel
theorem dX10_areTwo_18 : decode cX10_areTwo 18 = .ok (.if_icmp .eq 7, 3) := by decide +kernel
theorem dX10_areTwo_21 : decode cX10_areTwo 21 = .ok (.iconst 1, 1) := by decide +kernel
theorem dX10_areTwo_22 : decode cX10_areTwo 22 = .ok (.goto 4, 3) := by decide +kernel
theorem dX10_areTwo_25 : decode cX10_areTwo 25 = .ok (.iconst 0, 1) := by decide +kernel
theorem dX10_areTwo_26 : decode cX10_areTwo 26 = .ok (.ireturn, 1) := by decide +kernel
theorem dX10_owe_0 : decode cX10_owe 0 = .ok (.aload_n 0, 1) := by decide +kernel
theorem dX10_owe_1 : decode cX10_owe 1 = .ok (.iload_n 1, 1) := by decide +kernel
theorem dX10_owe_2 : decode cX10_owe 2 = .ok (.iload_n 2, 1) := by decide +kernel
theorem dX10_owe_3 : decode cX10_owe 3 = .ok (.invokevirtual 258, 3) := by decide +kernel
theorem dX10_owe_6 : decode cX10_owe 6 = .ok (.ifCond .eq 15, 3) := by decide +kernel
theorem dX10_owe_9 : decode cX10_owe 9 = .ok (.iload_n 3, 1) := by decide +kernel
theorem dX10_owe_10 : decode cX10_owe 10 = .ok (.i2l, 1) := by decide +kernel
theorem dX10_owe_11 : decode cX10_owe 11 = .ok (.lconst 0, 1) := by decide +kernel
theorem dX10_owe_12 : decode cX10_owe 12 = .ok (.ldc2_w 261, 3) := by decide +kernel
theorem dX10_owe_15 : decode cX10_owe 15 = .ok (.invokestatic 67, 3) := by decide +kernel
theorem dX10_owe_18 : decode cX10_owe 18 = .ok (.ifCond .ne 6, 3) := by decide +kernel
theorem dX10_owe_21 : decode cX10_owe 21 = .ok (.bipush (-2), 2) := by decide +kernel
theorem dX10_owe_23 : decode cX10_owe 23 = .ok (.ireturn, 1) := by decide +kernel
theorem dX10_owe_24 : decode cX10_owe 24 = .ok (.aload_n 0, 1) := by decide +kernel
theorem dX10_owe_25 : decode cX10_owe 25 = .ok (.iload_n 1, 1) := by decide +kernel
theorem dX10_owe_26 : decode cX10_owe 26 = .ok (.iload_n 2, 1) := by decide +kernel
theorem dX10_owe_27 : decode cX10_owe 27 = .ok (.invokevirtual 87, 3) := by decide +kernel
theorem dX10_owe_30 : decode cX10_owe 30 = .ok (.istore 4, 2) := by decide +kernel
theorem dX10_owe_32 : decode cX10_owe 32 = .ok (.aload_n 0, 1) := by decide +kernel
theorem dX10_owe_33 : decode cX10_owe 33 = .ok (.getfield 11, 3) := by decide +kernel
theorem dX10_owe_36 : decode cX10_owe 36 = .ok (.bipush 61, 2) := by decide +kernel
theorem dX10_owe_38 : decode cX10_owe 38 = .ok (.bipush 8, 2) := by decide +kernel
theorem dX10_owe_40 : decode cX10_owe 40 = .ok (.iload_n 1, 1) := by decide +kernel
theorem dX10_owe_41 : decode cX10_owe 41 = .ok (.imul, 1) := by decide +kernel
theorem dX10_owe_42 : decode cX10_owe 42 = .ok (.iadd, 1) := by decide +kernel
theorem dX10_owe_43 : decode cX10_owe 43 = .ok (.iload_n 2, 1) := by decide +kernel
theorem dX10_owe_44 : decode cX10_owe 44 = .ok (.iadd, 1) := by decide +kernel
theorem dX10_owe_45 : decode cX10_owe 45 = .ok (.iload_n 3, 1) := by decide +kernel
theorem dX10_owe_46 : decode cX10_owe 46 = .ok (.iastore, 1) := by decide +kernel
theorem dX10_owe_47 : decode cX10_owe 47 = .ok (.iload 4, 2) := by decide +kernel
theorem dX10_owe_49 : decode cX10_owe 49 = .ok (.ireturn, 1) := by decide +kernel
theorem dX10_owed_0 : decode cX10_owed 0 = .ok (.aload_n 0, 1) := by decide +kernel
theorem dX10_owed_1 : decode cX10_owed 1 = .ok (.iload_n 1, 1) := by decide +kernel
theorem dX10_owed_2 : decode cX10_owed 2 = .ok (.iload_n 2, 1) := by decide +kernel
theorem dX10_owed_3 : decode cX10_owed 3 = .ok (.invokevirtual 258, 3) := by decide +kernel
theorem dX10_owed_6 : decode cX10_owed 6 = .ok (.ifCond .eq 12, 3) := by decide +kernel
theorem dX10_owed_9 : decode cX10_owed 9 = .ok (.aload_n 0, 1) := by decide +kernel
theorem dX10_owed_10 : decode cX10_owed 10 = .ok (.iload_n 1, 1) := by decide +kernel
theorem dX10_owed_11 : decode cX10_owed 11 = .ok (.iload_n 2, 1) := by decide +kernel
theorem dX10_owed_12 : decode cX10_owed 12 = .ok (.invokevirtual 87, 3) := by decide +kernel
theorem dX10_owed_15 : decode cX10_owed 15 = .ok (.goto 5, 3) := by decide +kernel
theorem dX10_owed_18 : decode cX10_owed 18 = .ok (.bipush (-2), 2) := by decide +kernel
theorem dX10_owed_20 : decode cX10_owed 20 = .ok (.ireturn, 1) := by decide +kernel
theorem dX10_ringFrom_0 : decode cX10_ringFrom 0 = .ok (.aload_n 0, 1) := by decide +kernel
theorem dX10_ringFrom_1 : decode cX10_ringFrom 1 = .ok (.getfield 52, 3) := by decide +kernel
theorem dX10_ringFrom_4 : decode cX10_ringFrom 4 = .ok (.iload_n 1, 1) := by decide +kernel
theorem dX10_ringFrom_5 : decode cX10_ringFrom 5 = .ok (.iconst 1, 1) := by decide +kernel
theorem dX10_ringFrom_6 : decode cX10_ringFrom 6 = .ok (.isub, 1) := by decide +kernel
theorem dX10_ringFrom_7 : decode cX10_ringFrom 7 = .ok (.iaload, 1) := by decide +kernel
theorem dX10_ringFrom_8 : decode cX10_ringFrom 8 = .ok (.istore_n 3, 1) := by decide +kernel
theorem dX10_ringFrom_9 : decode cX10_ringFrom 9 = .ok (.iload_n 1, 1) := by decide +kernel
theorem dX10_ringFrom_10 : decode cX10_ringFrom 10 = .ok (.iconst 1, 1) := by decide +kernel
theorem dX10_ringFrom_11 : decode cX10_ringFrom 11 = .ok (.if_icmp .le 19, 3) := by decide +kernel
theorem dX10_ringFrom_14 : decode cX10_ringFrom 14 = .ok (.aload_n 0, 1) := by decide +kernel
theorem dX10_ringFrom_15 : decode cX10_ringFrom 15 = .ok (.iload_n 3, 1) := by decide +kernel
theorem dX10_ringFrom_16 : decode cX10_ringFrom 16 = .ok (.aload_n 0, 1) := by decide +kernel
theorem dX10_ringFrom_17 : decode cX10_ringFrom 17 = .ok (.getfield 52, 3) := by decide +kernel
theorem dX10_ringFrom_20 : decode cX10_ringFrom 20 = .ok (.iconst 0, 1) := by decide +kernel
theorem dX10_ringFrom_21 : decode cX10_ringFrom 21 = .ok (.iaload, 1) := by decide +kernel
theorem dX10_ringFrom_22 : decode cX10_ringFrom 22 = .ok (.invokevirtual 87, 3) := by decide +kernel
theorem dX10_ringFrom_25 : decode cX10_ringFrom 25 = .ok (.ifCond .le 5, 3) := by decide +kernel
theorem dX10_ringFrom_28 : decode cX10_ringFrom 28 = .ok (.iload_n 1, 1) := by decide +kernel
theorem dX10_ringFrom_29 : decode cX10_ringFrom 29 = .ok (.ireturn, 1) := by decide +kernel
theorem dX10_ringFrom_30 : decode cX10_ringFrom 30 = .ok (.iconst 0, 1) := by decide +kernel
theorem dX10_ringFrom_31 : decode cX10_ringFrom 31 = .ok (.istore 4, 2) := by decide +kernel
theorem dX10_ringFrom_33 : decode cX10_ringFrom 33 = .ok (.iload 4, 2) := by decide +kernel
theorem dX10_ringFrom_35 : decode cX10_ringFrom 35 = .ok (.aload_n 0, 1) := by decide +kernel
theorem dX10_ringFrom_36 : decode cX10_ringFrom 36 = .ok (.getfield 11, 3) := by decide +kernel
theorem dX10_ringFrom_39 : decode cX10_ringFrom 39 = .ok (.bipush 60, 2) := by decide +kernel
theorem dX10_ringFrom_41 : decode cX10_ringFrom 41 = .ok (.iaload, 1) := by decide +kernel
theorem dX10_ringFrom_42 : decode cX10_ringFrom 42 = .ok (.if_icmp .ge 59, 3) := by decide +kernel
theorem dX10_ringFrom_45 : decode cX10_ringFrom 45 = .ok (.iload_n 2, 1) := by decide +kernel
theorem dX10_ringFrom_46 : decode cX10_ringFrom 46 = .ok (.iload 4, 2) := by decide +kernel
theorem dX10_ringFrom_48 : decode cX10_ringFrom 48 = .ok (.ishr, 1) := by decide +kernel
theorem dX10_ringFrom_49 : decode cX10_ringFrom 49 = .ok (.iconst 1, 1) := by decide +kernel
theorem dX10_ringFrom_50 : decode cX10_ringFrom 50 = .ok (.iand, 1) := by decide +kernel
theorem dX10_ringFrom_51 : decode cX10_ringFrom 51 = .ok (.ifCond .ne 44, 3) := by decide +kernel
theorem dX10_ringFrom_54 : decode cX10_ringFrom 54 = .ok (.aload_n 0, 1) := by decide +kernel
theorem dX10_ringFrom_55 : decode cX10_ringFrom 55 = .ok (.iload_n 3, 1) := by decide +kernel
theorem dX10_ringFrom_56 : decode cX10_ringFrom 56 = .ok (.iload 4, 2) := by decide +kernel
theorem dX10_ringFrom_58 : decode cX10_ringFrom 58 = .ok (.invokevirtual 87, 3) := by decide +kernel
theorem dX10_ringFrom_61 : decode cX10_ringFrom 61 = .ok (.ifCond .le 34, 3) := by decide +kernel
theorem dX10_ringFrom_64 : decode cX10_ringFrom 64 = .ok (.aload_n 0, 1) := by decide +kernel
theorem dX10_ringFrom_65 : decode cX10_ringFrom 65 = .ok (.getfield 52, 3) := by decide +kernel
theorem dX10_ringFrom_68 : decode cX10_ringFrom 68 = .ok (.iload_n 1, 1) := by decide +kernel
theorem dX10_ringFrom_69 : decode cX10_ringFrom 69 = .ok (.iload 4, 2) := by decide +kernel
theorem dX10_ringFrom_71 : decode cX10_ringFrom 71 = .ok (.iastore, 1) := by decide +kernel
theorem dX10_ringFrom_72 : decode cX10_ringFrom 72 = .ok (.aload_n 0, 1) := by decide +kernel
theorem dX10_ringFrom_73 : decode cX10_ringFrom 73 = .ok (.iload_n 1, 1) := by decide +kernel
theorem dX10_ringFrom_74 : decode cX10_ringFrom 74 = .ok (.iconst 1, 1) := by decide +kernel
theorem dX10_ringFrom_75 : decode cX10_ringFrom 75 = .ok (.iadd, 1) := by decide +kernel
theorem dX10_ringFrom_76 : decode cX10_ringFrom 76 = .ok (.iload_n 2, 1) := by decide +kernel
theorem dX10_ringFrom_77 : decode cX10_ringFrom 77 = .ok (.iconst 1, 1) := by decide +kernel
theorem dX10_ringFrom_78 : decode cX10_ringFrom 78 = .ok (.iload 4, 2) := by decide +kernel
theorem dX10_ringFrom_80 : decode cX10_ringFrom 80 = .ok (.ishl, 1) := by decide +kernel
theorem dX10_ringFrom_81 : decode cX10_ringFrom 81 = .ok (.ior, 1) := by decide +kernel
theorem dX10_ringFrom_82 : decode cX10_ringFrom 82 = .ok (.invokevirtual 263, 3) := by decide +kernel
theorem dX10_ringFrom_85 : decode cX10_ringFrom 85 = .ok (.istore 5, 2) := by decide +kernel
theorem dX10_ringFrom_87 : decode cX10_ringFrom 87 = .ok (.iload 5, 2) := by decide +kernel
theorem dX10_ringFrom_89 : decode cX10_ringFrom 89 = .ok (.ifCond .le 6, 3) := by decide +kernel
theorem dX10_ringFrom_92 : decode cX10_ringFrom 92 = .ok (.iload 5, 2) := by decide +kernel
theorem dX10_ringFrom_94 : decode cX10_ringFrom 94 = .ok (.ireturn, 1) := by decide +kernel
theorem dX10_ringFrom_95 : decode cX10_ringFrom 95 = .ok (.iinc 4 1, 3) := by decide +kernel
theorem dX10_ringFrom_98 : decode cX10_ringFrom 98 = .ok (.goto (-65), 3) := by decide +kernel
theorem dX10_ringFrom_101 : decode cX10_ringFrom 101 = .ok (.iconst 0, 1) := by decide +kernel
theorem dX10_ringFrom_102 : decode cX10_ringFrom 102 = .ok (.ireturn, 1) := by decide +kernel
theorem dX10_firstRing_0 : decode cX10_firstRing 0 = .ok (.iconst 0, 1) := by decide +kernel
theorem dX10_firstRing_1 : decode cX10_firstRing 1 = .ok (.istore_n 1, 1) := by decide +kernel
theorem dX10_firstRing_2 : decode cX10_firstRing 2 = .ok (.iload_n 1, 1) := by decide +kernel
theorem dX10_firstRing_3 : decode cX10_firstRing 3 = .ok (.aload_n 0, 1) := by decide +kernel
theorem dX10_firstRing_4 : decode cX10_firstRing 4 = .ok (.getfield 11, 3) := by decide +kernel
theorem dX10_firstRing_7 : decode cX10_firstRing 7 = .ok (.bipush 60, 2) := by decide +kernel
theorem dX10_firstRing_9 : decode cX10_firstRing 9 = .ok (.iaload, 1) := by decide +kernel
theorem dX10_firstRing_10 : decode cX10_firstRing 10 = .ok (.if_icmp .ge 31, 3) := by decide +kernel
theorem dX10_firstRing_13 : decode cX10_firstRing 13 = .ok (.aload_n 0, 1) := by decide +kernel
theorem dX10_firstRing_14 : decode cX10_firstRing 14 = .ok (.getfield 52, 3) := by decide +kernel
theorem dX10_firstRing_17 : decode cX10_firstRing 17 = .ok (.iconst 0, 1) := by decide +kernel
theorem dX10_firstRing_18 : decode cX10_firstRing 18 = .ok (.iload_n 1, 1) := by decide +kernel
theorem dX10_firstRing_19 : decode cX10_firstRing 19 = .ok (.iastore, 1) := by decide +kernel
theorem dX10_firstRing_20 : decode cX10_firstRing 20 = .ok (.aload_n 0, 1) := by decide +kernel
theorem dX10_firstRing_21 : decode cX10_firstRing 21 = .ok (.iconst 1, 1) := by decide +kernel
theorem dX10_firstRing_22 : decode cX10_firstRing 22 = .ok (.iconst 1, 1) := by decide +kernel
theorem dX10_firstRing_23 : decode cX10_firstRing 23 = .ok (.iload_n 1, 1) := by decide +kernel
theorem dX10_firstRing_24 : decode cX10_firstRing 24 = .ok (.ishl, 1) := by decide +kernel
theorem dX10_firstRing_25 : decode cX10_firstRing 25 = .ok (.invokevirtual 263, 3) := by decide +kernel
theorem dX10_firstRing_28 : decode cX10_firstRing 28 = .ok (.istore_n 2, 1) := by decide +kernel
theorem dX10_firstRing_29 : decode cX10_firstRing 29 = .ok (.iload_n 2, 1) := by decide +kernel
theorem dX10_firstRing_30 : decode cX10_firstRing 30 = .ok (.ifCond .le 5, 3) := by decide +kernel
theorem dX10_firstRing_33 : decode cX10_firstRing 33 = .ok (.iload_n 2, 1) := by decide +kernel
theorem dX10_firstRing_34 : decode cX10_firstRing 34 = .ok (.ireturn, 1) := by decide +kernel
theorem dX10_firstRing_35 : decode cX10_firstRing 35 = .ok (.iinc 1 1, 3) := by decide +kernel
theorem dX10_firstRing_38 : decode cX10_firstRing 38 = .ok (.goto (-36), 3) := by decide +kernel
theorem dX10_firstRing_41 : decode cX10_firstRing 41 = .ok (.iconst 0, 1) := by decide +kernel
theorem dX10_firstRing_42 : decode cX10_firstRing 42 = .ok (.ireturn, 1) := by decide +kernel
theorem dX10_net_0 : decode cX10_net 0 = .ok (.iconst 0, 1) := by decide +kernel
theorem dX10_net_1 : decode cX10_net 1 = .ok (.istore_n 1, 1) := by decide +kernel
theorem dX10_net_2 : decode cX10_net 2 = .ok (.iload_n 1, 1) := by decide +kernel
theorem dX10_net_3 : decode cX10_net 3 = .ok (.aload_n 0, 1) := by decide +kernel
theorem dX10_net_4 : decode cX10_net 4 = .ok (.getfield 11, 3) := by decide +kernel
theorem dX10_net_7 : decode cX10_net 7 = .ok (.bipush 60, 2) := by decide +kernel
theorem dX10_net_9 : decode cX10_net 9 = .ok (.iaload, 1) := by decide +kernel
theorem dX10_net_10 : decode cX10_net 10 = .ok (.if_icmp .ge 24, 3) := by decide +kernel
theorem dX10_net_13 : decode cX10_net 13 = .ok (.aload_n 0, 1) := by decide +kernel
theorem dX10_net_14 : decode cX10_net 14 = .ok (.getfield 11, 3) := by decide +kernel
theorem dX10_net_17 : decode cX10_net 17 = .ok (.bipush 24, 2) := by decide +kernel
theorem dX10_net_19 : decode cX10_net 19 = .ok (.iload_n 1, 1) := by decide +kernel
theorem dX10_net_20 : decode cX10_net 20 = .ok (.iadd, 1) := by decide +kernel
theorem dX10_net_21 : decode cX10_net 21 = .ok (.iaload, 1) := by decide +kernel
theorem dX10_net_22 : decode cX10_net 22 = .ok (.ifCond .ne 6, 3) := by decide +kernel
theorem dX10_net_25 : decode cX10_net 25 = .ok (.bipush (-3), 2) := by decide +kernel
theorem dX10_net_27 : decode cX10_net 27 = .ok (.ireturn, 1) := by decide +kernel
theorem dX10_net_28 : decode cX10_net 28 = .ok (.iinc 1 1, 3) := by decide +kernel
theorem dX10_net_31 : decode cX10_net 31 = .ok (.goto (-29), 3) := by decide +kernel
theorem dX10_net_34 : decode cX10_net 34 = .ok (.iconst 0, 1) := by decide +kernel
theorem dX10_net_35 : decode cX10_net 35 = .ok (.istore_n 1, 1) := by decide +kernel
theorem dX10_net_36 : decode cX10_net 36 = .ok (.iload_n 1, 1) := by decide +kernel
theorem dX10_net_37 : decode cX10_net 37 = .ok (.aload_n 0, 1) := by decide +kernel
theorem dX10_net_38 : decode cX10_net 38 = .ok (.getfield 11, 3) := by decide +kernel
theorem dX10_net_41 : decode cX10_net 41 = .ok (.bipush 60, 2) := by decide +kernel
theorem dX10_net_43 : decode cX10_net 43 = .ok (.iaload, 1) := by decide +kernel
theorem dX10_net_44 : decode cX10_net 44 = .ok (.if_icmp .ge 35, 3) := by decide +kernel
theorem dX10_net_47 : decode cX10_net 47 = .ok (.aload_n 0, 1) := by decide +kernel
theorem dX10_net_48 : decode cX10_net 48 = .ok (.getfield 11, 3) := by decide +kernel
theorem dX10_net_51 : decode cX10_net 51 = .ok (.bipush 32, 2) := by decide +kernel
theorem dX10_net_53 : decode cX10_net 53 = .ok (.iload_n 1, 1) := by decide +kernel
theorem dX10_net_54 : decode cX10_net 54 = .ok (.iadd, 1) := by decide +kernel
theorem dX10_net_55 : decode cX10_net 55 = .ok (.dup2, 1) := by decide +kernel
theorem dX10_net_56 : decode cX10_net 56 = .ok (.iaload, 1) := by decide +kernel
theorem dX10_net_57 : decode cX10_net 57 = .ok (.iconst 1, 1) := by decide +kernel
theorem dX10_net_58 : decode cX10_net 58 = .ok (.iadd, 1) := by decide +kernel
theorem dX10_net_59 : decode cX10_net 59 = .ok (.iastore, 1) := by decide +kernel
theorem dX10_net_60 : decode cX10_net 60 = .ok (.aload_n 0, 1) := by decide +kernel
theorem dX10_net_61 : decode cX10_net 61 = .ok (.getfield 11, 3) := by decide +kernel
theorem dX10_net_64 : decode cX10_net 64 = .ok (.bipush 40, 2) := by decide +kernel
theorem dX10_net_66 : decode cX10_net 66 = .ok (.iload_n 1, 1) := by decide +kernel
theorem dX10_net_67 : decode cX10_net 67 = .ok (.iadd, 1) := by decide +kernel
theorem dX10_net_68 : decode cX10_net 68 = .ok (.dup2, 1) := by decide +kernel
theorem dX10_net_69 : decode cX10_net 69 = .ok (.iaload, 1) := by decide +kernel
theorem dX10_net_70 : decode cX10_net 70 = .ok (.iconst 1, 1) := by decide +kernel
theorem dX10_net_71 : decode cX10_net 71 = .ok (.iadd, 1) := by decide +kernel
theorem dX10_net_72 : decode cX10_net 72 = .ok (.iastore, 1) := by decide +kernel
theorem dX10_net_73 : decode cX10_net 73 = .ok (.iinc 1 1, 3) := by decide +kernel
theorem dX10_net_76 : decode cX10_net 76 = .ok (.goto (-40), 3) := by decide +kernel
theorem dX10_net_79 : decode cX10_net 79 = .ok (.iconst 0, 1) := by decide +kernel
theorem dX10_net_80 : decode cX10_net 80 = .ok (.istore_n 1, 1) := by decide +kernel
theorem dX10_net_81 : decode cX10_net 81 = .ok (.aload_n 0, 1) := by decide +kernel
theorem dX10_net_82 : decode cX10_net 82 = .ok (.invokevirtual 266, 3) := by decide +kernel
theorem dX10_net_85 : decode cX10_net 85 = .ok (.istore_n 2, 1) := by decide +kernel
theorem dX10_net_86 : decode cX10_net 86 = .ok (.iload_n 2, 1) := by decide +kernel
theorem dX10_net_87 : decode cX10_net 87 = .ok (.ifCond .le 109, 3) := by decide +kernel
theorem dX10_net_90 : decode cX10_net 90 = .ok (.ldc_w 269, 3) := by decide +kernel
theorem dX10_net_93 : decode cX10_net 93 = .ok (.istore_n 3, 1) := by decide +kernel
theorem dX10_net_94 : decode cX10_net 94 = .ok (.iconst 0, 1) := by decide +kernel
theorem dX10_net_95 : decode cX10_net 95 = .ok (.istore 4, 2) := by decide +kernel
theorem dX10_net_97 : decode cX10_net 97 = .ok (.iload 4, 2) := by decide +kernel
theorem dX10_net_99 : decode cX10_net 99 = .ok (.iload_n 2, 1) := by decide +kernel
theorem dX10_net_100 : decode cX10_net 100 = .ok (.if_icmp .ge 36, 3) := by decide +kernel
theorem dX10_net_103 : decode cX10_net 103 = .ok (.iload_n 3, 1) := by decide +kernel
theorem dX10_net_104 : decode cX10_net 104 = .ok (.aload_n 0, 1) := by decide +kernel
theorem dX10_net_105 : decode cX10_net 105 = .ok (.aload_n 0, 1) := by decide +kernel
theorem dX10_net_106 : decode cX10_net 106 = .ok (.getfield 52, 3) := by decide +kernel
theorem dX10_net_109 : decode cX10_net 109 = .ok (.iload 4, 2) := by decide +kernel
theorem dX10_net_111 : decode cX10_net 111 = .ok (.iaload, 1) := by decide +kernel
theorem dX10_net_112 : decode cX10_net 112 = .ok (.aload_n 0, 1) := by decide +kernel
theorem dX10_net_113 : decode cX10_net 113 = .ok (.getfield 52, 3) := by decide +kernel
theorem dX10_net_116 : decode cX10_net 116 = .ok (.iload 4, 2) := by decide +kernel
theorem dX10_net_118 : decode cX10_net 118 = .ok (.iconst 1, 1) := by decide +kernel
theorem dX10_net_119 : decode cX10_net 119 = .ok (.iadd, 1) := by decide +kernel
theorem dX10_net_120 : decode cX10_net 120 = .ok (.iload_n 2, 1) := by decide +kernel
theorem dX10_net_121 : decode cX10_net 121 = .ok (.irem, 1) := by decide +kernel
theorem dX10_net_122 : decode cX10_net 122 = .ok (.iaload, 1) := by decide +kernel
theorem dX10_net_123 : decode cX10_net 123 = .ok (.invokevirtual 87, 3) := by decide +kernel
theorem dX10_net_126 : decode cX10_net 126 = .ok (.invokestatic 222, 3) := by decide +kernel
theorem dX10_net_129 : decode cX10_net 129 = .ok (.istore_n 3, 1) := by decide +kernel
theorem dX10_net_130 : decode cX10_net 130 = .ok (.iinc 4 1, 3) := by decide +kernel
theorem dX10_net_133 : decode cX10_net 133 = .ok (.goto (-36), 3) := by decide +kernel
theorem dX10_net_136 : decode cX10_net 136 = .ok (.iconst 0, 1) := by decide +kernel
theorem dX10_net_137 : decode cX10_net 137 = .ok (.istore 4, 2) := by decide +kernel
theorem dX10_net_139 : decode cX10_net 139 = .ok (.iload 4, 2) := by decide +kernel
theorem dX10_net_141 : decode cX10_net 141 = .ok (.iload_n 2, 1) := by decide +kernel
theorem dX10_net_142 : decode cX10_net 142 = .ok (.if_icmp .ge 43, 3) := by decide +kernel
theorem dX10_net_145 : decode cX10_net 145 = .ok (.aload_n 0, 1) := by decide +kernel
theorem dX10_net_146 : decode cX10_net 146 = .ok (.getfield 11, 3) := by decide +kernel
theorem dX10_net_149 : decode cX10_net 149 = .ok (.bipush 61, 2) := by decide +kernel
theorem dX10_net_151 : decode cX10_net 151 = .ok (.bipush 8, 2) := by decide +kernel
theorem dX10_net_153 : decode cX10_net 153 = .ok (.aload_n 0, 1) := by decide +kernel
theorem dX10_net_154 : decode cX10_net 154 = .ok (.getfield 52, 3) := by decide +kernel
theorem dX10_net_157 : decode cX10_net 157 = .ok (.iload 4, 2) := by decide +kernel
theorem dX10_net_159 : decode cX10_net 159 = .ok (.iaload, 1) := by decide +kernel
theorem dX10_net_160 : decode cX10_net 160 = .ok (.imul, 1) := by decide +kernel
theorem dX10_net_161 : decode cX10_net 161 = .ok (.iadd, 1) := by decide +kernel
theorem dX10_net_162 : decode cX10_net 162 = .ok (.aload_n 0, 1) := by decide +kernel
theorem dX10_net_163 : decode cX10_net 163 = .ok (.getfield 52, 3) := by decide +kernel
theorem dX10_net_166 : decode cX10_net 166 = .ok (.iload 4, 2) := by decide +kernel
theorem dX10_net_168 : decode cX10_net 168 = .ok (.iconst 1, 1) := by decide +kernel
theorem dX10_net_169 : decode cX10_net 169 = .ok (.iadd, 1) := by decide +kernel
theorem dX10_net_170 : decode cX10_net 170 = .ok (.iload_n 2, 1) := by decide +kernel
theorem dX10_net_171 : decode cX10_net 171 = .ok (.irem, 1) := by decide +kernel
theorem dX10_net_172 : decode cX10_net 172 = .ok (.iaload, 1) := by decide +kernel
theorem dX10_net_173 : decode cX10_net 173 = .ok (.iadd, 1) := by decide +kernel
theorem dX10_net_174 : decode cX10_net 174 = .ok (.dup2, 1) := by decide +kernel
theorem dX10_net_175 : decode cX10_net 175 = .ok (.iaload, 1) := by decide +kernel
theorem dX10_net_176 : decode cX10_net 176 = .ok (.iload_n 3, 1) := by decide +kernel
theorem dX10_net_177 : decode cX10_net 177 = .ok (.isub, 1) := by decide +kernel
theorem dX10_net_178 : decode cX10_net 178 = .ok (.iastore, 1) := by decide +kernel
theorem dX10_net_179 : decode cX10_net 179 = .ok (.iinc 4 1, 3) := by decide +kernel
theorem dX10_net_182 : decode cX10_net 182 = .ok (.goto (-43), 3) := by decide +kernel
theorem dX10_net_185 : decode cX10_net 185 = .ok (.iinc 1 1, 3) := by decide +kernel
theorem dX10_net_188 : decode cX10_net 188 = .ok (.aload_n 0, 1) := by decide +kernel
theorem dX10_net_189 : decode cX10_net 189 = .ok (.invokevirtual 266, 3) := by decide +kernel
theorem dX10_net_192 : decode cX10_net 192 = .ok (.istore_n 2, 1) := by decide +kernel
theorem dX10_net_193 : decode cX10_net 193 = .ok (.goto (-107), 3) := by decide +kernel
theorem dX10_net_196 : decode cX10_net 196 = .ok (.iload_n 1, 1) := by decide +kernel
theorem dX10_net_197 : decode cX10_net 197 = .ok (.ireturn, 1) := by decide +kernel
theorem dX10_isSheet_0 : decode cX10_isSheet 0 = .ok (.iload_n 0, 1) := by decide +kernel
theorem dX10_isSheet_1 : decode cX10_isSheet 1 = .ok (.i2l, 1) := by decide +kernel
theorem dX10_isSheet_2 : decode cX10_isSheet 2 = .ok (.lconst 0, 1) := by decide +kernel
theorem dX10_isSheet_3 : decode cX10_isSheet 3 = .ok (.ldc2_w 236, 3) := by decide +kernel
theorem dX10_isSheet_6 : decode cX10_isSheet 6 = .ok (.invokestatic 67, 3) := by decide +kernel
theorem dX10_isSheet_9 : decode cX10_isSheet 9 = .ok (.ireturn, 1) := by decide +kernel
theorem dX10_itemOf_0 : decode cX10_itemOf 0 = .ok (.aload_n 0, 1) := by decide +kernel
theorem dX10_itemOf_1 : decode cX10_itemOf 1 = .ok (.getfield 61, 3) := by decide +kernel
theorem dX10_itemOf_4 : decode cX10_itemOf 4 = .ok (.bipush 60, 2) := by decide +kernel
theorem dX10_itemOf_6 : decode cX10_itemOf 6 = .ok (.iload_n 1, 1) := by decide +kernel
theorem dX10_itemOf_7 : decode cX10_itemOf 7 = .ok (.imul, 1) := by decide +kernel
theorem dX10_itemOf_8 : decode cX10_itemOf 8 = .ok (.iload_n 2, 1) := by decide +kernel
theorem dX10_itemOf_9 : decode cX10_itemOf 9 = .ok (.iadd, 1) := by decide +kernel
theorem dX10_itemOf_10 : decode cX10_itemOf 10 = .ok (.iaload, 1) := by decide +kernel
theorem dX10_itemOf_11 : decode cX10_itemOf 11 = .ok (.ireturn, 1) := by decide +kernel
theorem dX10_otherIn_0 : decode cX10_otherIn 0 = .ok (.aload_n 0, 1) := by decide +kernel
theorem dX10_otherIn_1 : decode cX10_otherIn 1 = .ok (.invokevirtual 244, 3) := by decide +kernel
theorem dX10_otherIn_4 : decode cX10_otherIn 4 = .ok (.aload_n 0, 1) := by decide +kernel
theorem dX10_otherIn_5 : decode cX10_otherIn 5 = .ok (.iload_n 2, 1) := by decide +kernel
theorem dX10_otherIn_6 : decode cX10_otherIn 6 = .ok (.invokevirtual 219, 3) := by decide +kernel
theorem dX10_otherIn_9 : decode cX10_otherIn 9 = .ok (.istore_n 3, 1) := by decide +kernel
theorem dX10_otherIn_10 : decode cX10_otherIn 10 = .ok (.aload_n 0, 1) := by decide +kernel
theorem dX10_otherIn_11 : decode cX10_otherIn 11 = .ok (.invokevirtual 247, 3) := by decide +kernel
theorem dX10_otherIn_14 : decode cX10_otherIn 14 = .ok (.bipush 60, 2) := by decide +kernel
theorem dX10_otherIn_16 : decode cX10_otherIn 16 = .ok (.aload_n 0, 1) := by decide +kernel
theorem dX10_otherIn_17 : decode cX10_otherIn 17 = .ok (.getfield 154, 3) := by decide +kernel
theorem dX10_otherIn_20 : decode cX10_otherIn 20 = .ok (.invokestatic 222, 3) := by decide +kernel
theorem dX10_otherIn_23 : decode cX10_otherIn 23 = .ok (.istore 4, 2) := by decide +kernel
theorem dX10_otherIn_25 : decode cX10_otherIn 25 = .ok (.iconst 0, 1) := by decide +kernel
theorem dX10_otherIn_26 : decode cX10_otherIn 26 = .ok (.istore 5, 2) := by decide +kernel
theorem dX10_otherIn_28 : decode cX10_otherIn 28 = .ok (.iload 5, 2) := by decide +kernel
theorem dX10_otherIn_30 : decode cX10_otherIn 30 = .ok (.aload_n 0, 1) := by decide +kernel
theorem dX10_otherIn_31 : decode cX10_otherIn 31 = .ok (.getfield 58, 3) := by decide +kernel
theorem dX10_otherIn_34 : decode cX10_otherIn 34 = .ok (.iload_n 1, 1) := by decide +kernel
theorem dX10_otherIn_35 : decode cX10_otherIn 35 = .ok (.iaload, 1) := by decide +kernel
theorem dX10_otherIn_36 : decode cX10_otherIn 36 = .ok (.if_icmp .ge 36, 3) := by decide +kernel
theorem dX10_otherIn_39 : decode cX10_otherIn 39 = .ok (.iload 5, 2) := by decide +kernel
theorem dX10_otherIn_41 : decode cX10_otherIn 41 = .ok (.iload 4, 2) := by decide +kernel
theorem dX10_otherIn_43 : decode cX10_otherIn 43 = .ok (.if_icmp .ge 20, 3) := by decide +kernel
theorem dX10_otherIn_46 : decode cX10_otherIn 46 = .ok (.aload_n 0, 1) := by decide +kernel
theorem dX10_otherIn_47 : decode cX10_otherIn 47 = .ok (.iload_n 1, 1) := by decide +kernel
theorem dX10_otherIn_48 : decode cX10_otherIn 48 = .ok (.iload 5, 2) := by decide +kernel
theorem dX10_otherIn_50 : decode cX10_otherIn 50 = .ok (.invokevirtual 270, 3) := by decide +kernel
theorem dX10_otherIn_53 : decode cX10_otherIn 53 = .ok (.aload_n 0, 1) := by decide +kernel
theorem dX10_otherIn_54 : decode cX10_otherIn 54 = .ok (.getfield 39, 3) := by decide +kernel
theorem dX10_otherIn_57 : decode cX10_otherIn 57 = .ok (.iload 5, 2) := by decide +kernel
theorem dX10_otherIn_59 : decode cX10_otherIn 59 = .ok (.iaload, 1) := by decide +kernel
theorem dX10_otherIn_60 : decode cX10_otherIn 60 = .ok (.if_icmp .eq 6, 3) := by decide +kernel
theorem dX10_otherIn_63 : decode cX10_otherIn 63 = .ok (.iload 5, 2) := by decide +kernel
theorem dX10_otherIn_65 : decode cX10_otherIn 65 = .ok (.ireturn, 1) := by decide +kernel
theorem dX10_otherIn_66 : decode cX10_otherIn 66 = .ok (.iinc 5 1, 3) := by decide +kernel
theorem dX10_otherIn_69 : decode cX10_otherIn 69 = .ok (.goto (-41), 3) := by decide +kernel
theorem dX10_otherIn_72 : decode cX10_otherIn 72 = .ok (.aload_n 0, 1) := by decide +kernel
theorem dX10_otherIn_73 : decode cX10_otherIn 73 = .ok (.getfield 58, 3) := by decide +kernel
theorem dX10_otherIn_76 : decode cX10_otherIn 76 = .ok (.iload_n 1, 1) := by decide +kernel
theorem dX10_otherIn_77 : decode cX10_otherIn 77 = .ok (.iaload, 1) := by decide +kernel
theorem dX10_otherIn_78 : decode cX10_otherIn 78 = .ok (.iload 4, 2) := by decide +kernel
theorem dX10_otherIn_80 : decode cX10_otherIn 80 = .ok (.if_icmp .ge 12, 3) := by decide +kernel
theorem dX10_otherIn_83 : decode cX10_otherIn 83 = .ok (.aload_n 0, 1) := by decide +kernel
theorem dX10_otherIn_84 : decode cX10_otherIn 84 = .ok (.getfield 58, 3) := by decide +kernel
theorem dX10_otherIn_87 : decode cX10_otherIn 87 = .ok (.iload_n 1, 1) := by decide +kernel
theorem dX10_otherIn_88 : decode cX10_otherIn 88 = .ok (.iaload, 1) := by decide +kernel
theorem dX10_otherIn_89 : decode cX10_otherIn 89 = .ok (.goto 4, 3) := by decide +kernel
theorem dX10_otherIn_92 : decode cX10_otherIn 92 = .ok (.iconst (-1), 1) := by decide +kernel
theorem dX10_otherIn_93 : decode cX10_otherIn 93 = .ok (.ireturn, 1) := by decide +kernel
theorem dX10_tells_0 : decode cX10_tells 0 = .ok (.iload_n 1, 1) := by decide +kernel
theorem dX10_tells_1 : decode cX10_tells 1 = .ok (.invokestatic 273, 3) := by decide +kernel
theorem dX10_tells_4 : decode cX10_tells 4 = .ok (.ifCond .eq 36, 3) := by decide +kernel
theorem dX10_tells_7 : decode cX10_tells 7 = .ok (.aload_n 0, 1) := by decide +kernel
theorem dX10_tells_8 : decode cX10_tells 8 = .ok (.iload_n 2, 1) := by decide +kernel
theorem dX10_tells_9 : decode cX10_tells 9 = .ok (.invokevirtual 216, 3) := by decide +kernel
theorem dX10_tells_12 : decode cX10_tells 12 = .ok (.ifCond .eq 28, 3) := by decide +kernel
theorem dX10_tells_15 : decode cX10_tells 15 = .ok (.iload 4, 2) := by decide +kernel
theorem dX10_tells_17 : decode cX10_tells 17 = .ok (.i2l, 1) := by decide +kernel
theorem dX10_tells_18 : decode cX10_tells 18 = .ok (.lconst 0, 1) := by decide +kernel
theorem dX10_tells_19 : decode cX10_tells 19 = .ok (.lconst 1, 1) := by decide +kernel
theorem dX10_tells_20 : decode cX10_tells 20 = .ok (.invokestatic 67, 3) := by decide +kernel
theorem dX10_tells_23 : decode cX10_tells 23 = .ok (.ifCond .eq 17, 3) := by decide +kernel
theorem dX10_tells_26 : decode cX10_tells 26 = .ok (.iload 4, 2) := by decide +kernel
theorem dX10_tells_28 : decode cX10_tells 28 = .ok (.iconst 1, 1) := by decide +kernel
theorem dX10_tells_29 : decode cX10_tells 29 = .ok (.if_icmp .ne 14, 3) := by decide +kernel
theorem dX10_tells_32 : decode cX10_tells 32 = .ok (.aload_n 0, 1) := by decide +kernel
theorem dX10_tells_33 : decode cX10_tells 33 = .ok (.iload_n 3, 1) := by decide +kernel
theorem dX10_tells_34 : decode cX10_tells 34 = .ok (.invokevirtual 75, 3) := by decide +kernel
theorem dX10_tells_37 : decode cX10_tells 37 = .ok (.ifCond .ne 6, 3) := by decide +kernel
theorem dX10_tells_40 : decode cX10_tells 40 = .ok (.bipush (-2), 2) := by decide +kernel
theorem dX10_tells_42 : decode cX10_tells 42 = .ok (.ireturn, 1) := by decide +kernel
theorem dX10_tells_43 : decode cX10_tells 43 = .ok (.aload_n 0, 1) := by decide +kernel
theorem dX10_tells_44 : decode cX10_tells 44 = .ok (.getfield 55, 3) := by decide +kernel
theorem dX10_tells_47 : decode cX10_tells 47 = .ok (.iload_n 1, 1) := by decide +kernel
theorem dX10_tells_48 : decode cX10_tells 48 = .ok (.iaload, 1) := by decide +kernel
theorem dX10_tells_49 : decode cX10_tells 49 = .ok (.iconst (-1), 1) := by decide +kernel
theorem dX10_tells_50 : decode cX10_tells 50 = .ok (.if_icmp .ne 6, 3) := by decide +kernel
theorem dX10_tells_53 : decode cX10_tells 53 = .ok (.bipush (-11), 2) := by decide +kernel
theorem dX10_tells_55 : decode cX10_tells 55 = .ok (.ireturn, 1) := by decide +kernel
theorem dX10_tells_56 : decode cX10_tells 56 = .ok (.iload 4, 2) := by decide +kernel
theorem dX10_tells_58 : decode cX10_tells 58 = .ok (.ifCond .ne 10, 3) := by decide +kernel
theorem dX10_tells_61 : decode cX10_tells 61 = .ok (.aload_n 0, 1) := by decide +kernel
theorem dX10_tells_62 : decode cX10_tells 62 = .ok (.iload_n 1, 1) := by decide +kernel
theorem dX10_tells_63 : decode cX10_tells 63 = .ok (.iload_n 2, 1) := by decide +kernel
theorem dX10_tells_64 : decode cX10_tells 64 = .ok (.invokevirtual 276, 3) := by decide +kernel
theorem dX10_tells_67 : decode cX10_tells 67 = .ok (.ireturn, 1) := by decide +kernel
theorem dX10_tells_68 : decode cX10_tells 68 = .ok (.aload_n 0, 1) := by decide +kernel
theorem dX10_tells_69 : decode cX10_tells 69 = .ok (.getfield 11, 3) := by decide +kernel
theorem dX10_tells_72 : decode cX10_tells 72 = .ok (.iconst 0, 1) := by decide +kernel
theorem dX10_tells_73 : decode cX10_tells 73 = .ok (.iload_n 3, 1) := by decide +kernel
theorem dX10_tells_74 : decode cX10_tells 74 = .ok (.iadd, 1) := by decide +kernel
theorem dX10_tells_75 : decode cX10_tells 75 = .ok (.iaload, 1) := by decide +kernel
theorem dX10_tells_76 : decode cX10_tells 76 = .ok (.istore 5, 2) := by decide +kernel
theorem dX10_tells_78 : decode cX10_tells 78 = .ok (.iconst 0, 1) := by decide +kernel
theorem dX10_tells_79 : decode cX10_tells 79 = .ok (.istore 6, 2) := by decide +kernel
theorem dX10_tells_81 : decode cX10_tells 81 = .ok (.iconst 0, 1) := by decide +kernel
theorem dX10_tells_82 : decode cX10_tells 82 = .ok (.istore 7, 2) := by decide +kernel
theorem dX10_tells_84 : decode cX10_tells 84 = .ok (.iload 7, 2) := by decide +kernel
theorem dX10_tells_86 : decode cX10_tells 86 = .ok (.iconst 5, 1) := by decide +kernel
theorem dX10_tells_87 : decode cX10_tells 87 = .ok (.if_icmp .ge 42, 3) := by decide +kernel
theorem dX10_tells_90 : decode cX10_tells 90 = .ok (.aload_n 0, 1) := by decide +kernel
theorem dX10_tells_91 : decode cX10_tells 91 = .ok (.getfield 11, 3) := by decide +kernel
theorem dX10_tells_94 : decode cX10_tells 94 = .ok (.iconst 0, 1) := by decide +kernel
theorem dX10_tells_95 : decode cX10_tells 95 = .ok (.iload_n 3, 1) := by decide +kernel
theorem dX10_tells_96 : decode cX10_tells 96 = .ok (.iadd, 1) := by decide +kernel
theorem dX10_tells_97 : decode cX10_tells 97 = .ok (.iload 7, 2) := by decide +kernel
theorem dX10_tells_99 : decode cX10_tells 99 = .ok (.iastore, 1) := by decide +kernel
theorem dX10_tells_100 : decode cX10_tells 100 = .ok (.iload 6, 2) := by decide +kernel
theorem dX10_tells_102 : decode cX10_tells 102 = .ok (.aload_n 0, 1) := by decide +kernel
theorem dX10_tells_103 : decode cX10_tells 103 = .ok (.iload_n 1, 1) := by decide +kernel
theorem dX10_tells_104 : decode cX10_tells 104 = .ok (.iload_n 2, 1) := by decide +kernel
theorem dX10_tells_105 : decode cX10_tells 105 = .ok (.invokevirtual 276, 3) := by decide +kernel
theorem dX10_tells_108 : decode cX10_tells 108 = .ok (.iconst (-1), 1) := by decide +kernel
theorem dX10_tells_109 : decode cX10_tells 109 = .ok (.if_icmp .ne 10, 3) := by decide +kernel
theorem dX10_tells_112 : decode cX10_tells 112 = .ok (.iconst 1, 1) := by decide +kernel
theorem dX10_tells_113 : decode cX10_tells 113 = .ok (.iload 7, 2) := by decide +kernel
theorem dX10_tells_115 : decode cX10_tells 115 = .ok (.ishl, 1) := by decide +kernel
theorem dX10_tells_116 : decode cX10_tells 116 = .ok (.goto 4, 3) := by decide +kernel
theorem dX10_tells_119 : decode cX10_tells 119 = .ok (.iconst 0, 1) := by decide +kernel
theorem dX10_tells_120 : decode cX10_tells 120 = .ok (.ior, 1) := by decide +kernel
theorem dX10_tells_121 : decode cX10_tells 121 = .ok (.istore 6, 2) := by decide +kernel
theorem dX10_tells_123 : decode cX10_tells 123 = .ok (.iinc 7 1, 3) := by decide +kernel
theorem dX10_tells_126 : decode cX10_tells 126 = .ok (.goto (-42), 3) := by decide +kernel
theorem dX10_tells_129 : decode cX10_tells 129 = .ok (.aload_n 0, 1) := by decide +kernel
theorem dX10_tells_130 : decode cX10_tells 130 = .ok (.getfield 11, 3) := by decide +kernel
theorem dX10_tells_133 : decode cX10_tells 133 = .ok (.iconst 0, 1) := by decide +kernel
theorem dX10_tells_134 : decode cX10_tells 134 = .ok (.iload_n 3, 1) := by decide +kernel
theorem dX10_tells_135 : decode cX10_tells 135 = .ok (.iadd, 1) := by decide +kernel
theorem dX10_tells_136 : decode cX10_tells 136 = .ok (.iload 5, 2) := by decide +kernel
theorem dX10_tells_138 : decode cX10_tells 138 = .ok (.iastore, 1) := by decide +kernel
theorem dX10_tells_139 : decode cX10_tells 139 = .ok (.iload 6, 2) := by decide +kernel
theorem dX10_tells_141 : decode cX10_tells 141 = .ok (.ireturn, 1) := by decide +kernel
theorem dX10_film_0 : decode cX10_film 0 = .ok (.iload_n 1, 1) := by decide +kernel
theorem dX10_film_1 : decode cX10_film 1 = .ok (.invokestatic 273, 3) := by decide +kernel
theorem dX10_film_4 : decode cX10_film 4 = .ok (.ifCond .eq 11, 3) := by decide +kernel
theorem dX10_film_7 : decode cX10_film 7 = .ok (.aload_n 0, 1) := by decide +kernel
theorem dX10_film_8 : decode cX10_film 8 = .ok (.iload_n 2, 1) := by decide +kernel
theorem dX10_film_9 : decode cX10_film 9 = .ok (.invokevirtual 216, 3) := by decide +kernel
theorem dX10_film_12 : decode cX10_film 12 = .ok (.ifCond .ne 6, 3) := by decide +kernel
theorem dX10_film_15 : decode cX10_film 15 = .ok (.bipush (-2), 2) := by decide +kernel
theorem dX10_film_17 : decode cX10_film 17 = .ok (.ireturn, 1) := by decide +kernel
theorem dX10_film_18 : decode cX10_film 18 = .ok (.aload_n 0, 1) := by decide +kernel
theorem dX10_film_19 : decode cX10_film 19 = .ok (.invokevirtual 244, 3) := by decide +kernel
theorem dX10_film_22 : decode cX10_film 22 = .ok (.aload_n 0, 1) := by decide +kernel
theorem dX10_film_23 : decode cX10_film 23 = .ok (.iload_n 2, 1) := by decide +kernel
theorem dX10_film_24 : decode cX10_film 24 = .ok (.invokevirtual 219, 3) := by decide +kernel
theorem dX10_film_27 : decode cX10_film 27 = .ok (.istore_n 3, 1) := by decide +kernel
theorem dX10_film_28 : decode cX10_film 28 = .ok (.aload_n 0, 1) := by decide +kernel
theorem dX10_film_29 : decode cX10_film 29 = .ok (.invokevirtual 247, 3) := by decide +kernel
theorem dX10_film_32 : decode cX10_film 32 = .ok (.bipush 60, 2) := by decide +kernel
theorem dX10_film_34 : decode cX10_film 34 = .ok (.aload_n 0, 1) := by decide +kernel
theorem dX10_film_35 : decode cX10_film 35 = .ok (.getfield 154, 3) := by decide +kernel
theorem dX10_film_38 : decode cX10_film 38 = .ok (.invokestatic 222, 3) := by decide +kernel
theorem dX10_film_41 : decode cX10_film 41 = .ok (.istore 4, 2) := by decide +kernel
theorem dX10_film_43 : decode cX10_film 43 = .ok (.aload_n 0, 1) := by decide +kernel
theorem dX10_film_44 : decode cX10_film 44 = .ok (.iload_n 1, 1) := by decide +kernel
theorem dX10_film_45 : decode cX10_film 45 = .ok (.iconst 1, 1) := by decide +kernel
theorem dX10_film_46 : decode cX10_film 46 = .ok (.iload 4, 2) := by decide +kernel
theorem dX10_film_48 : decode cX10_film 48 = .ok (.invokevirtual 279, 3) := by decide +kernel
theorem dX10_film_51 : decode cX10_film 51 = .ok (.istore_n 3, 1) := by decide +kernel
theorem dX10_film_52 : decode cX10_film 52 = .ok (.iconst 0, 1) := by decide +kernel
theorem dX10_film_53 : decode cX10_film 53 = .ok (.istore 5, 2) := by decide +kernel
theorem dX10_film_55 : decode cX10_film 55 = .ok (.iload 5, 2) := by decide +kernel
theorem dX10_film_57 : decode cX10_film 57 = .ok (.iload 4, 2) := by decide +kernel
theorem dX10_film_59 : decode cX10_film 59 = .ok (.if_icmp .ge 28, 3) := by decide +kernel
theorem dX10_film_62 : decode cX10_film 62 = .ok (.aload_n 0, 1) := by decide +kernel
theorem dX10_film_63 : decode cX10_film 63 = .ok (.getfield 61, 3) := by decide +kernel
theorem dX10_film_66 : decode cX10_film 66 = .ok (.bipush 60, 2) := by decide +kernel
theorem dX10_film_68 : decode cX10_film 68 = .ok (.iload_n 1, 1) := by decide +kernel
theorem dX10_film_69 : decode cX10_film 69 = .ok (.imul, 1) := by decide +kernel
theorem dX10_film_70 : decode cX10_film 70 = .ok (.iload 5, 2) := by decide +kernel
theorem dX10_film_72 : decode cX10_film 72 = .ok (.iadd, 1) := by decide +kernel
theorem dX10_film_73 : decode cX10_film 73 = .ok (.aload_n 0, 1) := by decide +kernel
theorem dX10_film_74 : decode cX10_film 74 = .ok (.getfield 39, 3) := by decide +kernel
theorem dX10_film_77 : decode cX10_film 77 = .ok (.iload 5, 2) := by decide +kernel
theorem dX10_film_79 : decode cX10_film 79 = .ok (.iaload, 1) := by decide +kernel
theorem dX10_film_80 : decode cX10_film 80 = .ok (.iastore, 1) := by decide +kernel
theorem dX10_film_81 : decode cX10_film 81 = .ok (.iinc 5 1, 3) := by decide +kernel
theorem dX10_film_84 : decode cX10_film 84 = .ok (.goto (-29), 3) := by decide +kernel
theorem dX10_film_87 : decode cX10_film 87 = .ok (.iload 4, 2) := by decide +kernel
theorem dX10_film_89 : decode cX10_film 89 = .ok (.ireturn, 1) := by decide +kernel
theorem dX10_image_0 : decode cX10_image 0 = .ok (.aload_n 0, 1) := by decide +kernel
theorem dX10_image_1 : decode cX10_image 1 = .ok (.getfield 11, 3) := by decide +kernel
theorem dX10_image_4 : decode cX10_image 4 = .ok (.iconst 0, 1) := by decide +kernel
theorem dX10_image_5 : decode cX10_image 5 = .ok (.aload_n 0, 1) := by decide +kernel
theorem dX10_image_6 : decode cX10_image 6 = .ok (.getfield 18, 3) := by decide +kernel
theorem dX10_image_9 : decode cX10_image 9 = .ok (.iconst 0, 1) := by decide +kernel
theorem dX10_image_10 : decode cX10_image 10 = .ok (.bipush 125, 2) := by decide +kernel
theorem dX10_image_12 : decode cX10_image 12 = .ok (.invokestatic 227, 3) := by decide +kernel
theorem dX10_image_15 : decode cX10_image 15 = .ok (.aload_n 0, 1) := by decide +kernel
theorem dX10_image_16 : decode cX10_image 16 = .ok (.getfield 24, 3) := by decide +kernel
theorem dX10_image_19 : decode cX10_image 19 = .ok (.iconst 0, 1) := by decide +kernel
theorem dX10_image_20 : decode cX10_image 20 = .ok (.aload_n 0, 1) := by decide +kernel
theorem dX10_image_21 : decode cX10_image 21 = .ok (.getfield 30, 3) := by decide +kernel
theorem dX10_image_24 : decode cX10_image 24 = .ok (.iconst 0, 1) := by decide +kernel
theorem dX10_image_25 : decode cX10_image 25 = .ok (.sipush 320, 3) := by decide +kernel
theorem dX10_image_28 : decode cX10_image 28 = .ok (.invokestatic 227, 3) := by decide +kernel
theorem dX10_image_31 : decode cX10_image 31 = .ok (.aload_n 0, 1) := by decide +kernel
theorem dX10_image_32 : decode cX10_image 32 = .ok (.getfield 27, 3) := by decide +kernel
theorem dX10_image_35 : decode cX10_image 35 = .ok (.iconst 0, 1) := by decide +kernel
theorem dX10_image_36 : decode cX10_image 36 = .ok (.aload_n 0, 1) := by decide +kernel
theorem dX10_image_37 : decode cX10_image 37 = .ok (.getfield 33, 3) := by decide +kernel
theorem dX10_image_40 : decode cX10_image 40 = .ok (.iconst 0, 1) := by decide +kernel
theorem dX10_image_41 : decode cX10_image 41 = .ok (.iconst 4, 1) := by decide +kernel
theorem dX10_image_42 : decode cX10_image 42 = .ok (.invokestatic 227, 3) := by decide +kernel
theorem dX10_image_45 : decode cX10_image 45 = .ok (.aload_n 0, 1) := by decide +kernel
theorem dX10_image_46 : decode cX10_image 46 = .ok (.aload_n 0, 1) := by decide +kernel
theorem dX10_image_47 : decode cX10_image 47 = .ok (.getfield 100, 3) := by decide +kernel
theorem dX10_image_50 : decode cX10_image 50 = .ok (.putfield 283, 3) := by decide +kernel
theorem dX10_image_53 : decode cX10_image 53 = .ok (.aload_n 0, 1) := by decide +kernel
theorem dX10_image_54 : decode cX10_image 54 = .ok (.aload_n 0, 1) := by decide +kernel
theorem dX10_image_55 : decode cX10_image 55 = .ok (.getfield 110, 3) := by decide +kernel
theorem dX10_image_58 : decode cX10_image 58 = .ok (.putfield 286, 3) := by decide +kernel
theorem dX10_image_61 : decode cX10_image 61 = .ok (.aload_n 0, 1) := by decide +kernel
theorem dX10_image_62 : decode cX10_image 62 = .ok (.iconst 1, 1) := by decide +kernel
theorem dX10_image_63 : decode cX10_image 63 = .ok (.putfield 289, 3) := by decide +kernel
theorem dX10_image_66 : decode cX10_image 66 = .ok (.aload_n 0, 1) := by decide +kernel
theorem dX10_image_67 : decode cX10_image 67 = .ok (.getfield 11, 3) := by decide +kernel
theorem dX10_image_70 : decode cX10_image 70 = .ok (.bipush 60, 2) := by decide +kernel
theorem dX10_image_72 : decode cX10_image 72 = .ok (.iaload, 1) := by decide +kernel
theorem dX10_image_73 : decode cX10_image 73 = .ok (.ireturn, 1) := by decide +kernel
theorem dX10_back_0 : decode cX10_back 0 = .ok (.aload_n 0, 1) := by decide +kernel
theorem dX10_back_1 : decode cX10_back 1 = .ok (.getfield 289, 3) := by decide +kernel
theorem dX10_back_4 : decode cX10_back 4 = .ok (.ifCond .ne 6, 3) := by decide +kernel
theorem dX10_back_7 : decode cX10_back 7 = .ok (.bipush (-3), 2) := by decide +kernel
theorem dX10_back_9 : decode cX10_back 9 = .ok (.ireturn, 1) := by decide +kernel
theorem dX10_back_10 : decode cX10_back 10 = .ok (.aload_n 0, 1) := by decide +kernel
theorem dX10_back_11 : decode cX10_back 11 = .ok (.getfield 18, 3) := by decide +kernel
theorem dX10_back_14 : decode cX10_back 14 = .ok (.iconst 0, 1) := by decide +kernel
theorem dX10_back_15 : decode cX10_back 15 = .ok (.aload_n 0, 1) := by decide +kernel
theorem dX10_back_16 : decode cX10_back 16 = .ok (.getfield 11, 3) := by decide +kernel
theorem dX10_back_19 : decode cX10_back 19 = .ok (.iconst 0, 1) := by decide +kernel
theorem dX10_back_20 : decode cX10_back 20 = .ok (.bipush 125, 2) := by decide +kernel
theorem dX10_back_22 : decode cX10_back 22 = .ok (.invokestatic 227, 3) := by decide +kernel
theorem dX10_back_25 : decode cX10_back 25 = .ok (.aload_n 0, 1) := by decide +kernel
theorem dX10_back_26 : decode cX10_back 26 = .ok (.getfield 30, 3) := by decide +kernel
theorem dX10_back_29 : decode cX10_back 29 = .ok (.iconst 0, 1) := by decide +kernel
theorem dX10_back_30 : decode cX10_back 30 = .ok (.aload_n 0, 1) := by decide +kernel
theorem dX10_back_31 : decode cX10_back 31 = .ok (.getfield 24, 3) := by decide +kernel
theorem dX10_back_34 : decode cX10_back 34 = .ok (.iconst 0, 1) := by decide +kernel
theorem dX10_back_35 : decode cX10_back 35 = .ok (.sipush 320, 3) := by decide +kernel
theorem dX10_back_38 : decode cX10_back 38 = .ok (.invokestatic 227, 3) := by decide +kernel
theorem dX10_back_41 : decode cX10_back 41 = .ok (.aload_n 0, 1) := by decide +kernel
theorem dX10_back_42 : decode cX10_back 42 = .ok (.getfield 33, 3) := by decide +kernel
theorem dX10_back_45 : decode cX10_back 45 = .ok (.iconst 0, 1) := by decide +kernel
theorem dX10_back_46 : decode cX10_back 46 = .ok (.aload_n 0, 1) := by decide +kernel
theorem dX10_back_47 : decode cX10_back 47 = .ok (.getfield 27, 3) := by decide +kernel
theorem dX10_back_50 : decode cX10_back 50 = .ok (.iconst 0, 1) := by decide +kernel
theorem dX10_back_51 : decode cX10_back 51 = .ok (.iconst 4, 1) := by decide +kernel
theorem dX10_back_52 : decode cX10_back 52 = .ok (.invokestatic 227, 3) := by decide +kernel
theorem dX10_back_55 : decode cX10_back 55 = .ok (.aload_n 0, 1) := by decide +kernel
theorem dX10_back_56 : decode cX10_back 56 = .ok (.aload_n 0, 1) := by decide +kernel
theorem dX10_back_57 : decode cX10_back 57 = .ok (.getfield 283, 3) := by decide +kernel
theorem dX10_back_60 : decode cX10_back 60 = .ok (.putfield 100, 3) := by decide +kernel
theorem dX10_back_63 : decode cX10_back 63 = .ok (.aload_n 0, 1) := by decide +kernel
theorem dX10_back_64 : decode cX10_back 64 = .ok (.aload_n 0, 1) := by decide +kernel
theorem dX10_back_65 : decode cX10_back 65 = .ok (.getfield 286, 3) := by decide +kernel
theorem dX10_back_68 : decode cX10_back 68 = .ok (.putfield 110, 3) := by decide +kernel
theorem dX10_back_71 : decode cX10_back 71 = .ok (.aload_n 0, 1) := by decide +kernel
theorem dX10_back_72 : decode cX10_back 72 = .ok (.getfield 11, 3) := by decide +kernel
theorem dX10_back_75 : decode cX10_back 75 = .ok (.bipush 60, 2) := by decide +kernel
theorem dX10_back_77 : decode cX10_back 77 = .ok (.iaload, 1) := by decide +kernel
theorem dX10_back_78 : decode cX10_back 78 = .ok (.ireturn, 1) := by decide +kernel
theorem dX10_sheet_0 : decode cX10_sheet 0 = .ok (.iload_n 1, 1) := by decide +kernel
theorem dX10_sheet_1 : decode cX10_sheet 1 = .ok (.invokestatic 273, 3) := by decide +kernel
theorem dX10_sheet_4 : decode cX10_sheet 4 = .ok (.ifCond .eq 26, 3) := by decide +kernel
theorem dX10_sheet_7 : decode cX10_sheet 7 = .ok (.iload_n 2, 1) := by decide +kernel
theorem dX10_sheet_8 : decode cX10_sheet 8 = .ok (.i2l, 1) := by decide +kernel
theorem dX10_sheet_9 : decode cX10_sheet 9 = .ok (.ldc2_w 293, 3) := by decide +kernel
theorem dX10_sheet_12 : decode cX10_sheet 12 = .ok (.lconst 1, 1) := by decide +kernel
theorem dX10_sheet_13 : decode cX10_sheet 13 = .ok (.invokestatic 67, 3) := by decide +kernel
theorem dX10_sheet_16 : decode cX10_sheet 16 = .ok (.ifCond .eq 14, 3) := by decide +kernel
theorem dX10_sheet_19 : decode cX10_sheet 19 = .ok (.iload_n 2, 1) := by decide +kernel
theorem dX10_sheet_20 : decode cX10_sheet 20 = .ok (.iconst (-1), 1) := by decide +kernel
theorem dX10_sheet_21 : decode cX10_sheet 21 = .ok (.if_icmp .eq 12, 3) := by decide +kernel
theorem dX10_sheet_24 : decode cX10_sheet 24 = .ok (.iload_n 3, 1) := by decide +kernel
theorem dX10_sheet_25 : decode cX10_sheet 25 = .ok (.bipush 60, 2) := by decide +kernel
theorem dX10_sheet_27 : decode cX10_sheet 27 = .ok (.if_icmp .le 6, 3) := by decide +kernel
theorem dX10_sheet_30 : decode cX10_sheet 30 = .ok (.bipush (-2), 2) := by decide +kernel
theorem dX10_sheet_32 : decode cX10_sheet 32 = .ok (.ireturn, 1) := by decide +kernel
theorem dX10_sheet_33 : decode cX10_sheet 33 = .ok (.iload_n 2, 1) := by decide +kernel
theorem dX10_sheet_34 : decode cX10_sheet 34 = .ok (.iconst (-1), 1) := by decide +kernel
theorem dX10_sheet_35 : decode cX10_sheet 35 = .ok (.if_icmp .eq 10, 3) := by decide +kernel
theorem dX10_sheet_38 : decode cX10_sheet 38 = .ok (.iload_n 3, 1) := by decide +kernel
theorem dX10_sheet_39 : decode cX10_sheet 39 = .ok (.ifCond .ge 6, 3) := by decide +kernel
theorem dX10_sheet_42 : decode cX10_sheet 42 = .ok (.bipush (-14), 2) := by decide +kernel
theorem dX10_sheet_44 : decode cX10_sheet 44 = .ok (.ireturn, 1) := by decide +kernel
theorem dX10_sheet_45 : decode cX10_sheet 45 = .ok (.aload_n 0, 1) := by decide +kernel
theorem dX10_sheet_46 : decode cX10_sheet 46 = .ok (.getfield 55, 3) := by decide +kernel
theorem dX10_sheet_49 : decode cX10_sheet 49 = .ok (.iload_n 1, 1) := by decide +kernel
theorem dX10_sheet_50 : decode cX10_sheet 50 = .ok (.iload_n 2, 1) := by decide +kernel
theorem dX10_sheet_51 : decode cX10_sheet 51 = .ok (.iastore, 1) := by decide +kernel
theorem dX10_sheet_52 : decode cX10_sheet 52 = .ok (.aload_n 0, 1) := by decide +kernel
theorem dX10_sheet_53 : decode cX10_sheet 53 = .ok (.getfield 58, 3) := by decide +kernel
theorem dX10_sheet_56 : decode cX10_sheet 56 = .ok (.iload_n 1, 1) := by decide +kernel
theorem dX10_sheet_57 : decode cX10_sheet 57 = .ok (.iload_n 2, 1) := by decide +kernel
theorem dX10_sheet_58 : decode cX10_sheet 58 = .ok (.iconst (-1), 1) := by decide +kernel
theorem dX10_sheet_59 : decode cX10_sheet 59 = .ok (.if_icmp .ne 7, 3) := by decide +kernel
theorem dX10_sheet_62 : decode cX10_sheet 62 = .ok (.iconst 0, 1) := by decide +kernel
theorem dX10_sheet_63 : decode cX10_sheet 63 = .ok (.goto 4, 3) := by decide +kernel
theorem dX10_sheet_66 : decode cX10_sheet 66 = .ok (.iload_n 3, 1) := by decide +kernel
theorem dX10_sheet_67 : decode cX10_sheet 67 = .ok (.iastore, 1) := by decide +kernel
theorem dX10_sheet_68 : decode cX10_sheet 68 = .ok (.iconst 0, 1) := by decide +kernel
theorem dX10_sheet_69 : decode cX10_sheet 69 = .ok (.istore 4, 2) := by decide +kernel
theorem dX10_sheet_71 : decode cX10_sheet 71 = .ok (.iload 4, 2) := by decide +kernel
theorem dX10_sheet_73 : decode cX10_sheet 73 = .ok (.bipush 60, 2) := by decide +kernel
theorem dX10_sheet_75 : decode cX10_sheet 75 = .ok (.if_icmp .ge 22, 3) := by decide +kernel
theorem dX10_sheet_78 : decode cX10_sheet 78 = .ok (.aload_n 0, 1) := by decide +kernel
theorem dX10_sheet_79 : decode cX10_sheet 79 = .ok (.getfield 61, 3) := by decide +kernel
theorem dX10_sheet_82 : decode cX10_sheet 82 = .ok (.bipush 60, 2) := by decide +kernel
theorem dX10_sheet_84 : decode cX10_sheet 84 = .ok (.iload_n 1, 1) := by decide +kernel
theorem dX10_sheet_85 : decode cX10_sheet 85 = .ok (.imul, 1) := by decide +kernel
theorem dX10_sheet_86 : decode cX10_sheet 86 = .ok (.iload 4, 2) := by decide +kernel
theorem dX10_sheet_88 : decode cX10_sheet 88 = .ok (.iadd, 1) := by decide +kernel
theorem dX10_sheet_89 : decode cX10_sheet 89 = .ok (.iconst 0, 1) := by decide +kernel
theorem dX10_sheet_90 : decode cX10_sheet 90 = .ok (.iastore, 1) := by decide +kernel
theorem dX10_sheet_91 : decode cX10_sheet 91 = .ok (.iinc 4 1, 3) := by decide +kernel
theorem dX10_sheet_94 : decode cX10_sheet 94 = .ok (.goto (-23), 3) := by decide +kernel
theorem dX10_sheet_97 : decode cX10_sheet 97 = .ok (.iconst 1, 1) := by decide +kernel
theorem dX10_sheet_98 : decode cX10_sheet 98 = .ok (.ireturn, 1) := by decide +kernel
theorem dX10_put_0 : decode cX10_put 0 = .ok (.iload_n 1, 1) := by decide +kernel
theorem dX10_put_1 : decode cX10_put 1 = .ok (.invokestatic 273, 3) := by decide +kernel
theorem dX10_put_4 : decode cX10_put 4 = .ok (.ifCond .ne 6, 3) := by decide +kernel
theorem dX10_put_7 : decode cX10_put 7 = .ok (.bipush (-2), 2) := by decide +kernel
theorem dX10_put_9 : decode cX10_put 9 = .ok (.ireturn, 1) := by decide +kernel
theorem dX10_put_10 : decode cX10_put 10 = .ok (.aload_n 0, 1) := by decide +kernel
theorem dX10_put_11 : decode cX10_put 11 = .ok (.getfield 55, 3) := by decide +kernel
theorem dX10_put_14 : decode cX10_put 14 = .ok (.iload_n 1, 1) := by decide +kernel
theorem dX10_put_15 : decode cX10_put 15 = .ok (.iaload, 1) := by decide +kernel
theorem dX10_put_16 : decode cX10_put 16 = .ok (.iconst (-1), 1) := by decide +kernel
theorem dX10_put_17 : decode cX10_put 17 = .ok (.if_icmp .ne 6, 3) := by decide +kernel
theorem dX10_put_20 : decode cX10_put 20 = .ok (.bipush (-11), 2) := by decide +kernel
theorem dX10_put_22 : decode cX10_put 22 = .ok (.ireturn, 1) := by decide +kernel
theorem dX10_put_23 : decode cX10_put 23 = .ok (.iload_n 2, 1) := by decide +kernel
theorem dX10_put_24 : decode cX10_put 24 = .ok (.i2l, 1) := by decide +kernel
theorem dX10_put_25 : decode cX10_put 25 = .ok (.lconst 0, 1) := by decide +kernel
theorem dX10_put_26 : decode cX10_put 26 = .ok (.aload_n 0, 1) := by decide +kernel
theorem dX10_put_27 : decode cX10_put 27 = .ok (.getfield 58, 3) := by decide +kernel
theorem dX10_put_30 : decode cX10_put 30 = .ok (.iload_n 1, 1) := by decide +kernel
theorem dX10_put_31 : decode cX10_put 31 = .ok (.iaload, 1) := by decide +kernel
theorem dX10_put_32 : decode cX10_put 32 = .ok (.iconst 1, 1) := by decide +kernel
theorem dX10_put_33 : decode cX10_put 33 = .ok (.isub, 1) := by decide +kernel
theorem dX10_put_34 : decode cX10_put 34 = .ok (.i2l, 1) := by decide +kernel
theorem dX10_put_35 : decode cX10_put 35 = .ok (.invokestatic 67, 3) := by decide +kernel
theorem dX10_put_38 : decode cX10_put 38 = .ok (.ifCond .ne 6, 3) := by decide +kernel
theorem dX10_put_41 : decode cX10_put 41 = .ok (.bipush (-12), 2) := by decide +kernel
theorem dX10_put_43 : decode cX10_put 43 = .ok (.ireturn, 1) := by decide +kernel
theorem dX10_put_44 : decode cX10_put 44 = .ok (.aload_n 0, 1) := by decide +kernel
theorem dX10_put_45 : decode cX10_put 45 = .ok (.getfield 61, 3) := by decide +kernel
theorem dX10_put_48 : decode cX10_put 48 = .ok (.bipush 60, 2) := by decide +kernel
theorem dX10_put_50 : decode cX10_put 50 = .ok (.iload_n 1, 1) := by decide +kernel
theorem dX10_put_51 : decode cX10_put 51 = .ok (.imul, 1) := by decide +kernel
theorem dX10_put_52 : decode cX10_put 52 = .ok (.iload_n 2, 1) := by decide +kernel
theorem dX10_put_53 : decode cX10_put 53 = .ok (.iadd, 1) := by decide +kernel
theorem dX10_put_54 : decode cX10_put 54 = .ok (.aload_n 0, 1) := by decide +kernel
theorem dX10_put_55 : decode cX10_put 55 = .ok (.getfield 55, 3) := by decide +kernel
theorem dX10_put_58 : decode cX10_put 58 = .ok (.iload_n 1, 1) := by decide +kernel
theorem dX10_put_59 : decode cX10_put 59 = .ok (.iaload, 1) := by decide +kernel
theorem dX10_put_60 : decode cX10_put 60 = .ok (.ifCond .ne 8, 3) := by decide +kernel
theorem dX10_put_63 : decode cX10_put 63 = .ok (.iload_n 3, 1) := by decide +kernel
theorem dX10_put_64 : decode cX10_put 64 = .ok (.i2b, 1) := by decide +kernel
theorem dX10_put_65 : decode cX10_put 65 = .ok (.goto 4, 3) := by decide +kernel
theorem dX10_put_68 : decode cX10_put 68 = .ok (.iload_n 3, 1) := by decide +kernel
theorem dX10_put_69 : decode cX10_put 69 = .ok (.iastore, 1) := by decide +kernel
theorem dX10_put_70 : decode cX10_put 70 = .ok (.iconst 1, 1) := by decide +kernel
theorem dX10_put_71 : decode cX10_put 71 = .ok (.ireturn, 1) := by decide +kernel
theorem dX10_copy_0 : decode cX10_copy 0 = .ok (.iload_n 1, 1) := by decide +kernel
theorem dX10_copy_1 : decode cX10_copy 1 = .ok (.invokestatic 273, 3) := by decide +kernel
theorem dX10_copy_4 : decode cX10_copy 4 = .ok (.ifCond .eq 10, 3) := by decide +kernel
theorem dX10_copy_7 : decode cX10_copy 7 = .ok (.iload_n 3, 1) := by decide +kernel
theorem dX10_copy_8 : decode cX10_copy 8 = .ok (.invokestatic 273, 3) := by decide +kernel
theorem dX10_copy_11 : decode cX10_copy 11 = .ok (.ifCond .ne 6, 3) := by decide +kernel
theorem dX10_copy_14 : decode cX10_copy 14 = .ok (.bipush (-2), 2) := by decide +kernel
theorem dX10_copy_16 : decode cX10_copy 16 = .ok (.ireturn, 1) := by decide +kernel
theorem dX10_copy_17 : decode cX10_copy 17 = .ok (.aload_n 0, 1) := by decide +kernel
theorem dX10_copy_18 : decode cX10_copy 18 = .ok (.getfield 55, 3) := by decide +kernel
theorem dX10_copy_21 : decode cX10_copy 21 = .ok (.iload_n 1, 1) := by decide +kernel
theorem dX10_copy_22 : decode cX10_copy 22 = .ok (.iaload, 1) := by decide +kernel
theorem dX10_copy_23 : decode cX10_copy 23 = .ok (.iconst (-1), 1) := by decide +kernel
theorem dX10_copy_24 : decode cX10_copy 24 = .ok (.if_icmp .eq 13, 3) := by decide +kernel
theorem dX10_copy_27 : decode cX10_copy 27 = .ok (.aload_n 0, 1) := by decide +kernel
theorem dX10_copy_28 : decode cX10_copy 28 = .ok (.getfield 55, 3) := by decide +kernel
theorem dX10_copy_31 : decode cX10_copy 31 = .ok (.iload_n 3, 1) := by decide +kernel
theorem dX10_copy_32 : decode cX10_copy 32 = .ok (.iaload, 1) := by decide +kernel
theorem dX10_copy_33 : decode cX10_copy 33 = .ok (.iconst (-1), 1) := by decide +kernel
theorem dX10_copy_34 : decode cX10_copy 34 = .ok (.if_icmp .ne 6, 3) := by decide +kernel
theorem dX10_copy_37 : decode cX10_copy 37 = .ok (.bipush (-11), 2) := by decide +kernel
theorem dX10_copy_39 : decode cX10_copy 39 = .ok (.ireturn, 1) := by decide +kernel
theorem dX10_copy_40 : decode cX10_copy 40 = .ok (.aload_n 0, 1) := by decide +kernel
theorem dX10_copy_41 : decode cX10_copy 41 = .ok (.getfield 55, 3) := by decide +kernel
theorem dX10_copy_44 : decode cX10_copy 44 = .ok (.iload_n 1, 1) := by decide +kernel
theorem dX10_copy_45 : decode cX10_copy 45 = .ok (.iaload, 1) := by decide +kernel
theorem dX10_copy_46 : decode cX10_copy 46 = .ok (.aload_n 0, 1) := by decide +kernel
theorem dX10_copy_47 : decode cX10_copy 47 = .ok (.getfield 55, 3) := by decide +kernel
theorem dX10_copy_50 : decode cX10_copy 50 = .ok (.iload_n 3, 1) := by decide +kernel
theorem dX10_copy_51 : decode cX10_copy 51 = .ok (.iaload, 1) := by decide +kernel
theorem dX10_copy_52 : decode cX10_copy 52 = .ok (.if_icmp .eq 6, 3) := by decide +kernel
theorem dX10_copy_55 : decode cX10_copy 55 = .ok (.bipush (-13), 2) := by decide +kernel
theorem dX10_copy_57 : decode cX10_copy 57 = .ok (.ireturn, 1) := by decide +kernel
theorem dX10_copy_58 : decode cX10_copy 58 = .ok (.iload 5, 2) := by decide +kernel
theorem dX10_copy_60 : decode cX10_copy 60 = .ok (.ifCond .lt 39, 3) := by decide +kernel
theorem dX10_copy_63 : decode cX10_copy 63 = .ok (.iload_n 2, 1) := by decide +kernel
theorem dX10_copy_64 : decode cX10_copy 64 = .ok (.ifCond .lt 35, 3) := by decide +kernel
theorem dX10_copy_67 : decode cX10_copy 67 = .ok (.iload 4, 2) := by decide +kernel
theorem dX10_copy_69 : decode cX10_copy 69 = .ok (.ifCond .lt 30, 3) := by decide +kernel
theorem dX10_copy_72 : decode cX10_copy 72 = .ok (.iload_n 2, 1) := by decide +kernel
theorem dX10_copy_73 : decode cX10_copy 73 = .ok (.aload_n 0, 1) := by decide +kernel
theorem dX10_copy_74 : decode cX10_copy 74 = .ok (.getfield 58, 3) := by decide +kernel
theorem dX10_copy_77 : decode cX10_copy 77 = .ok (.iload_n 1, 1) := by decide +kernel
theorem dX10_copy_78 : decode cX10_copy 78 = .ok (.iaload, 1) := by decide +kernel
theorem dX10_copy_79 : decode cX10_copy 79 = .ok (.iload 5, 2) := by decide +kernel
theorem dX10_copy_81 : decode cX10_copy 81 = .ok (.isub, 1) := by decide +kernel
theorem dX10_copy_82 : decode cX10_copy 82 = .ok (.if_icmp .gt 17, 3) := by decide +kernel
theorem dX10_copy_85 : decode cX10_copy 85 = .ok (.iload 4, 2) := by decide +kernel
theorem dX10_copy_87 : decode cX10_copy 87 = .ok (.aload_n 0, 1) := by decide +kernel
theorem dX10_copy_88 : decode cX10_copy 88 = .ok (.getfield 58, 3) := by decide +kernel
theorem dX10_copy_91 : decode cX10_copy 91 = .ok (.iload_n 3, 1) := by decide +kernel
theorem dX10_copy_92 : decode cX10_copy 92 = .ok (.iaload, 1) := by decide +kernel
theorem dX10_copy_93 : decode cX10_copy 93 = .ok (.iload 5, 2) := by decide +kernel
theorem dX10_copy_95 : decode cX10_copy 95 = .ok (.isub, 1) := by decide +kernel
theorem dX10_copy_96 : decode cX10_copy 96 = .ok (.if_icmp .le 6, 3) := by decide +kernel
theorem dX10_copy_99 : decode cX10_copy 99 = .ok (.bipush (-12), 2) := by decide +kernel
theorem dX10_copy_101 : decode cX10_copy 101 = .ok (.ireturn, 1) := by decide +kernel
theorem dX10_copy_102 : decode cX10_copy 102 = .ok (.aload_n 0, 1) := by decide +kernel
theorem dX10_copy_103 : decode cX10_copy 103 = .ok (.getfield 61, 3) := by decide +kernel
theorem dX10_copy_106 : decode cX10_copy 106 = .ok (.bipush 60, 2) := by decide +kernel
theorem dX10_copy_108 : decode cX10_copy 108 = .ok (.iload_n 1, 1) := by decide +kernel
theorem dX10_copy_109 : decode cX10_copy 109 = .ok (.imul, 1) := by decide +kernel
theorem dX10_copy_110 : decode cX10_copy 110 = .ok (.iload_n 2, 1) := by decide +kernel
theorem dX10_copy_111 : decode cX10_copy 111 = .ok (.iadd, 1) := by decide +kernel
theorem dX10_copy_112 : decode cX10_copy 112 = .ok (.aload_n 0, 1) := by decide +kernel
theorem dX10_copy_113 : decode cX10_copy 113 = .ok (.getfield 64, 3) := by decide +kernel
theorem dX10_copy_116 : decode cX10_copy 116 = .ok (.iconst 0, 1) := by decide +kernel
theorem dX10_copy_117 : decode cX10_copy 117 = .ok (.iload 5, 2) := by decide +kernel
theorem dX10_copy_119 : decode cX10_copy 119 = .ok (.invokestatic 227, 3) := by decide +kernel
theorem dX10_copy_122 : decode cX10_copy 122 = .ok (.aload_n 0, 1) := by decide +kernel
theorem dX10_copy_123 : decode cX10_copy 123 = .ok (.getfield 64, 3) := by decide +kernel
theorem dX10_copy_126 : decode cX10_copy 126 = .ok (.iconst 0, 1) := by decide +kernel
theorem dX10_copy_127 : decode cX10_copy 127 = .ok (.aload_n 0, 1) := by decide +kernel
theorem dX10_copy_128 : decode cX10_copy 128 = .ok (.getfield 61, 3) := by decide +kernel
theorem dX10_copy_131 : decode cX10_copy 131 = .ok (.bipush 60, 2) := by decide +kernel
theorem dX10_copy_133 : decode cX10_copy 133 = .ok (.iload_n 3, 1) := by decide +kernel
theorem dX10_copy_134 : decode cX10_copy 134 = .ok (.imul, 1) := by decide +kernel
theorem dX10_copy_135 : decode cX10_copy 135 = .ok (.iload 4, 2) := by decide +kernel
theorem dX10_copy_137 : decode cX10_copy 137 = .ok (.iadd, 1) := by decide +kernel
theorem dX10_copy_138 : decode cX10_copy 138 = .ok (.iload 5, 2) := by decide +kernel
theorem dX10_copy_140 : decode cX10_copy 140 = .ok (.invokestatic 227, 3) := by decide +kernel
theorem dX10_copy_143 : decode cX10_copy 143 = .ok (.iload 5, 2) := by decide +kernel
theorem dX10_copy_145 : decode cX10_copy 145 = .ok (.ireturn, 1) := by decide +kernel
theorem dX10_load_0 : decode cX10_load 0 = .ok (.iload_n 1, 1) := by decide +kernel
theorem dX10_load_1 : decode cX10_load 1 = .ok (.invokestatic 273, 3) := by decide +kernel
theorem dX10_load_4 : decode cX10_load 4 = .ok (.ifCond .eq 26, 3) := by decide +kernel
theorem dX10_load_7 : decode cX10_load 7 = .ok (.iload_n 2, 1) := by decide +kernel
theorem dX10_load_8 : decode cX10_load 8 = .ok (.i2l, 1) := by decide +kernel
theorem dX10_load_9 : decode cX10_load 9 = .ok (.lconst 0, 1) := by decide +kernel
theorem dX10_load_10 : decode cX10_load 10 = .ok (.lconst 1, 1) := by decide +kernel
theorem dX10_load_11 : decode cX10_load 11 = .ok (.invokestatic 67, 3) := by decide +kernel
theorem dX10_load_14 : decode cX10_load 14 = .ok (.ifCond .eq 16, 3) := by decide +kernel
theorem dX10_load_17 : decode cX10_load 17 = .ok (.iload 4, 2) := by decide +kernel
theorem dX10_load_19 : decode cX10_load 19 = .ok (.i2l, 1) := by decide +kernel
theorem dX10_load_20 : decode cX10_load 20 = .ok (.lconst 0, 1) := by decide +kernel
theorem dX10_load_21 : decode cX10_load 21 = .ok (.ldc2_w 295, 3) := by decide +kernel
theorem dX10_load_24 : decode cX10_load 24 = .ok (.invokestatic 67, 3) := by decide +kernel
theorem dX10_load_27 : decode cX10_load 27 = .ok (.ifCond .ne 6, 3) := by decide +kernel
theorem dX10_load_30 : decode cX10_load 30 = .ok (.bipush (-2), 2) := by decide +kernel
theorem dX10_load_32 : decode cX10_load 32 = .ok (.ireturn, 1) := by decide +kernel
theorem dX10_load_33 : decode cX10_load 33 = .ok (.aload_n 0, 1) := by decide +kernel
theorem dX10_load_34 : decode cX10_load 34 = .ok (.getfield 55, 3) := by decide +kernel
theorem dX10_load_37 : decode cX10_load 37 = .ok (.iload_n 1, 1) := by decide +kernel
theorem dX10_load_38 : decode cX10_load 38 = .ok (.iaload, 1) := by decide +kernel
theorem dX10_load_39 : decode cX10_load 39 = .ok (.iconst (-1), 1) := by decide +kernel
theorem dX10_load_40 : decode cX10_load 40 = .ok (.if_icmp .eq 16, 3) := by decide +kernel
theorem dX10_load_43 : decode cX10_load 43 = .ok (.aload_n 0, 1) := by decide +kernel
theorem dX10_load_44 : decode cX10_load 44 = .ok (.getfield 55, 3) := by decide +kernel
theorem dX10_load_47 : decode cX10_load 47 = .ok (.iload_n 1, 1) := by decide +kernel
theorem dX10_load_48 : decode cX10_load 48 = .ok (.iaload, 1) := by decide +kernel
theorem dX10_load_49 : decode cX10_load 49 = .ok (.iload_n 2, 1) := by decide +kernel
theorem dX10_load_50 : decode cX10_load 50 = .ok (.if_icmp .eq 6, 3) := by decide +kernel
theorem dX10_load_53 : decode cX10_load 53 = .ok (.bipush (-13), 2) := by decide +kernel
theorem dX10_load_55 : decode cX10_load 55 = .ok (.ireturn, 1) := by decide +kernel
theorem dX10_load_56 : decode cX10_load 56 = .ok (.aload_n 0, 1) := by decide +kernel
theorem dX10_load_57 : decode cX10_load 57 = .ok (.getfield 55, 3) := by decide +kernel
theorem dX10_load_60 : decode cX10_load 60 = .ok (.iload_n 1, 1) := by decide +kernel
theorem dX10_load_61 : decode cX10_load 61 = .ok (.iaload, 1) := by decide +kernel
theorem dX10_load_62 : decode cX10_load 62 = .ok (.iconst (-1), 1) := by decide +kernel
theorem dX10_load_63 : decode cX10_load 63 = .ok (.if_icmp .ne 6, 3) := by decide +kernel
theorem dX10_load_66 : decode cX10_load 66 = .ok (.bipush (-11), 2) := by decide +kernel
theorem dX10_load_68 : decode cX10_load 68 = .ok (.ireturn, 1) := by decide +kernel
theorem dX10_load_69 : decode cX10_load 69 = .ok (.iconst 0, 1) := by decide +kernel
theorem dX10_load_70 : decode cX10_load 70 = .ok (.istore 5, 2) := by decide +kernel
theorem dX10_load_72 : decode cX10_load 72 = .ok (.iconst 0, 1) := by decide +kernel
theorem dX10_load_73 : decode cX10_load 73 = .ok (.istore 6, 2) := by decide +kernel
theorem dX10_load_75 : decode cX10_load 75 = .ok (.iload 6, 2) := by decide +kernel
theorem dX10_load_77 : decode cX10_load 77 = .ok (.iload 4, 2) := by decide +kernel
theorem dX10_load_79 : decode cX10_load 79 = .ok (.if_icmp .ge 89, 3) := by decide +kernel
theorem dX10_load_82 : decode cX10_load 82 = .ok (.iload_n 3, 1) := by decide +kernel
theorem dX10_load_83 : decode cX10_load 83 = .ok (.i2l, 1) := by decide +kernel
theorem dX10_load_84 : decode cX10_load 84 = .ok (.ldc2_w 236, 3) := by decide +kernel
theorem dX10_load_87 : decode cX10_load 87 = .ok (.iload 6, 2) := by decide +kernel
theorem dX10_load_89 : decode cX10_load 89 = .ok (.i2l, 1) := by decide +kernel
theorem dX10_load_90 : decode cX10_load 90 = .ok (.lmul, 1) := by decide +kernel
theorem dX10_load_91 : decode cX10_load 91 = .ok (.ladd, 1) := by decide +kernel
theorem dX10_load_92 : decode cX10_load 92 = .ok (.lstore 7, 2) := by decide +kernel
theorem dX10_load_94 : decode cX10_load 94 = .ok (.lload 7, 2) := by decide +kernel
theorem dX10_load_96 : decode cX10_load 96 = .ok (.lconst 0, 1) := by decide +kernel
theorem dX10_load_97 : decode cX10_load 97 = .ok (.aload_n 0, 1) := by decide +kernel
theorem dX10_load_98 : decode cX10_load 98 = .ok (.getfield 58, 3) := by decide +kernel
theorem dX10_load_101 : decode cX10_load 101 = .ok (.iload_n 1, 1) := by decide +kernel
theorem dX10_load_102 : decode cX10_load 102 = .ok (.iaload, 1) := by decide +kernel
theorem dX10_load_103 : decode cX10_load 103 = .ok (.iconst 3, 1) := by decide +kernel
theorem dX10_load_104 : decode cX10_load 104 = .ok (.isub, 1) := by decide +kernel
theorem dX10_load_105 : decode cX10_load 105 = .ok (.i2l, 1) := by decide +kernel
theorem dX10_load_106 : decode cX10_load 106 = .ok (.invokestatic 67, 3) := by decide +kernel
theorem dX10_load_109 : decode cX10_load 109 = .ok (.ifCond .ne 6, 3) := by decide +kernel
theorem dX10_load_112 : decode cX10_load 112 = .ok (.bipush (-12), 2) := by decide +kernel
theorem dX10_load_114 : decode cX10_load 114 = .ok (.ireturn, 1) := by decide +kernel
theorem dX10_load_115 : decode cX10_load 115 = .ok (.lload 7, 2) := by decide +kernel
theorem dX10_load_117 : decode cX10_load 117 = .ok (.l2i, 1) := by decide +kernel
theorem dX10_load_118 : decode cX10_load 118 = .ok (.istore 9, 2) := by decide +kernel
theorem dX10_load_120 : decode cX10_load 120 = .ok (.iload 5, 2) := by decide +kernel
theorem dX10_load_122 : decode cX10_load 122 = .ok (.aload_n 0, 1) := by decide +kernel
theorem dX10_load_123 : decode cX10_load 123 = .ok (.aload_n 0, 1) := by decide +kernel
theorem dX10_load_124 : decode cX10_load 124 = .ok (.iload_n 1, 1) := by decide +kernel
theorem dX10_load_125 : decode cX10_load 125 = .ok (.iload 9, 2) := by decide +kernel
theorem dX10_load_127 : decode cX10_load 127 = .ok (.invokevirtual 270, 3) := by decide +kernel
theorem dX10_load_130 : decode cX10_load 130 = .ok (.aload_n 0, 1) := by decide +kernel
theorem dX10_load_131 : decode cX10_load 131 = .ok (.iload_n 1, 1) := by decide +kernel
theorem dX10_load_132 : decode cX10_load 132 = .ok (.iload 9, 2) := by decide +kernel
theorem dX10_load_134 : decode cX10_load 134 = .ok (.iconst 1, 1) := by decide +kernel
theorem dX10_load_135 : decode cX10_load 135 = .ok (.iadd, 1) := by decide +kernel
theorem dX10_load_136 : decode cX10_load 136 = .ok (.invokevirtual 270, 3) := by decide +kernel
theorem dX10_load_139 : decode cX10_load 139 = .ok (.aload_n 0, 1) := by decide +kernel
theorem dX10_load_140 : decode cX10_load 140 = .ok (.iload_n 1, 1) := by decide +kernel
theorem dX10_load_141 : decode cX10_load 141 = .ok (.iload 9, 2) := by decide +kernel
theorem dX10_load_143 : decode cX10_load 143 = .ok (.iconst 2, 1) := by decide +kernel
theorem dX10_load_144 : decode cX10_load 144 = .ok (.iadd, 1) := by decide +kernel
theorem dX10_load_145 : decode cX10_load 145 = .ok (.invokevirtual 270, 3) := by decide +kernel
theorem dX10_load_148 : decode cX10_load 148 = .ok (.invokevirtual 297, 3) := by decide +kernel
theorem dX10_load_151 : decode cX10_load 151 = .ok (.ifCond .lt 7, 3) := by decide +kernel
theorem dX10_load_154 : decode cX10_load 154 = .ok (.iconst 1, 1) := by decide +kernel
theorem dX10_load_155 : decode cX10_load 155 = .ok (.goto 4, 3) := by decide +kernel
theorem dX10_load_158 : decode cX10_load 158 = .ok (.iconst 0, 1) := by decide +kernel
theorem dX10_load_159 : decode cX10_load 159 = .ok (.iadd, 1) := by decide +kernel
theorem dX10_load_160 : decode cX10_load 160 = .ok (.istore 5, 2) := by decide +kernel
theorem dX10_load_162 : decode cX10_load 162 = .ok (.iinc 6 1, 3) := by decide +kernel
theorem dX10_load_165 : decode cX10_load 165 = .ok (.goto (-90), 3) := by decide +kernel
theorem dX10_load_168 : decode cX10_load 168 = .ok (.iload 5, 2) := by decide +kernel
theorem dX10_load_170 : decode cX10_load 170 = .ok (.ireturn, 1) := by decide +kernel
theorem dJ9_max_7cf53_0 : decode cJ9_max_7cf53 0 = .ok (.iload_n 0, 1) := by decide +kernel
theorem dJ9_max_7cf53_1 : decode cJ9_max_7cf53 1 = .ok (.iload_n 1, 1) := by decide +kernel
theorem dJ9_max_7cf53_2 : decode cJ9_max_7cf53 2 = .ok (.if_icmp .lt 7, 3) := by decide +kernel
theorem dJ9_max_7cf53_5 : decode cJ9_max_7cf53 5 = .ok (.iload_n 0, 1) := by decide +kernel
theorem dJ9_max_7cf53_6 : decode cJ9_max_7cf53 6 = .ok (.goto 4, 3) := by decide +kernel
theorem dJ9_max_7cf53_9 : decode cJ9_max_7cf53 9 = .ok (.iload_n 1, 1) := by decide +kernel
theorem dJ9_max_7cf53_10 : decode cJ9_max_7cf53 10 = .ok (.ireturn, 1) := by decide +kernel
theorem dJ9_min_7cf53_0 : decode cJ9_min_7cf53 0 = .ok (.iload_n 0, 1) := by decide +kernel
theorem dJ9_min_7cf53_1 : decode cJ9_min_7cf53 1 = .ok (.iload_n 1, 1) := by decide +kernel
theorem dJ9_min_7cf53_2 : decode cJ9_min_7cf53 2 = .ok (.if_icmp .gt 7, 3) := by decide +kernel
theorem dJ9_min_7cf53_5 : decode cJ9_min_7cf53 5 = .ok (.iload_n 0, 1) := by decide +kernel
theorem dJ9_min_7cf53_6 : decode cJ9_min_7cf53 6 = .ok (.goto 4, 3) := by decide +kernel
theorem dJ9_min_7cf53_9 : decode cJ9_min_7cf53 9 = .ok (.iload_n 1, 1) := by decide +kernel
theorem dJ9_min_7cf53_10 : decode cJ9_min_7cf53 10 = .ok (.ireturn, 1) := by decide +kernel
theorem dL_law_0 : decode cL_law 0 = .ok (.new 7, 3) := by decide +kernel
theorem dL_law_3 : decode cL_law 3 = .ok (.dup, 1) := by decide +kernel
theorem dL_law_4 : decode cL_law 4 = .ok (.invokespecial 9, 3) := by decide +kernel
theorem dL_law_7 : decode cL_law 7 = .ok (.astore_n 1, 1) := by decide +kernel
theorem dL_law_8 : decode cL_law 8 = .ok (.new 10, 3) := by decide +kernel
theorem dL_law_11 : decode cL_law 11 = .ok (.dup, 1) := by decide +kernel
theorem dL_law_12 : decode cL_law 12 = .ok (.invokespecial 12, 3) := by decide +kernel
theorem dL_law_15 : decode cL_law 15 = .ok (.astore_n 2, 1) := by decide +kernel
theorem dL_law_16 : decode cL_law 16 = .ok (.iconst 0, 1) := by decide +kernel
theorem dL_law_17 : decode cL_law 17 = .ok (.istore_n 3, 1) := by decide +kernel
theorem dL_law_18 : decode cL_law 18 = .ok (.iload_n 3, 1) := by decide +kernel
theorem dL_law_19 : decode cL_law 19 = .ok (.aload_n 0, 1) := by decide +kernel
theorem dL_law_20 : decode cL_law 20 = .ok (.arraylength, 1) := by decide +kernel
theorem dL_law_21 : decode cL_law 21 = .ok (.bipush 7, 2) := by decide +kernel
theorem dL_law_23 : decode cL_law 23 = .ok (.isub, 1) := by decide +kernel
theorem dL_law_24 : decode cL_law 24 = .ok (.if_icmp .gt 1030, 3) := by decide +kernel
theorem dL_law_27 : decode cL_law 27 = .ok (.aload_n 0, 1) := by decide +kernel
theorem dL_law_28 : decode cL_law 28 = .ok (.iload_n 3, 1) := by decide +kernel
theorem dL_law_29 : decode cL_law 29 = .ok (.iaload, 1) := by decide +kernel
theorem dL_law_30 : decode cL_law 30 = .ok (.bipush 31, 2) := by decide +kernel
theorem dL_law_32 : decode cL_law 32 = .ok (.iand, 1) := by decide +kernel
theorem dL_law_33 : decode cL_law 33 = .ok (.tableswitch 1015 0 25 #[119, 152, 195, 244, 277, 310, 333, 356, 389, 464, 477, 500, 523, 556, 589, 612, 655, 688, 701, 754, 787, 800, 813, 856, 899, 962], 119) := by decide +kernel
theorem dL_law_152 : decode cL_law 152 = .ok (.aload_n 1, 1) := by decide +kernel
theorem dL_law_153 : decode cL_law 153 = .ok (.aload_n 0, 1) := by decide +kernel
theorem dL_law_154 : decode cL_law 154 = .ok (.iload_n 3, 1) := by decide +kernel
theorem dL_law_155 : decode cL_law 155 = .ok (.iconst 1, 1) := by decide +kernel
theorem dL_law_156 : decode cL_law 156 = .ok (.iadd, 1) := by decide +kernel
theorem dL_law_157 : decode cL_law 157 = .ok (.iaload, 1) := by decide +kernel
theorem dL_law_158 : decode cL_law 158 = .ok (.aload_n 0, 1) := by decide +kernel
theorem dL_law_159 : decode cL_law 159 = .ok (.iload_n 3, 1) := by decide +kernel
theorem dL_law_160 : decode cL_law 160 = .ok (.iconst 2, 1) := by decide +kernel
theorem dL_law_161 : decode cL_law 161 = .ok (.iadd, 1) := by decide +kernel
theorem dL_law_162 : decode cL_law 162 = .ok (.iaload, 1) := by decide +kernel
theorem dL_law_163 : decode cL_law 163 = .ok (.invokevirtual 13, 3) := by decide +kernel
theorem dL_law_166 : decode cL_law 166 = .ok (.aload_n 2, 1) := by decide +kernel
theorem dL_law_167 : decode cL_law 167 = .ok (.aload_n 0, 1) := by decide +kernel
theorem dL_law_168 : decode cL_law 168 = .ok (.iload_n 3, 1) := by decide +kernel
theorem dL_law_169 : decode cL_law 169 = .ok (.iconst 1, 1) := by decide +kernel
theorem dL_law_170 : decode cL_law 170 = .ok (.iadd, 1) := by decide +kernel
theorem dL_law_171 : decode cL_law 171 = .ok (.iaload, 1) := by decide +kernel
theorem dL_law_172 : decode cL_law 172 = .ok (.aload_n 0, 1) := by decide +kernel
theorem dL_law_173 : decode cL_law 173 = .ok (.iload_n 3, 1) := by decide +kernel
theorem dL_law_174 : decode cL_law 174 = .ok (.iconst 2, 1) := by decide +kernel
theorem dL_law_175 : decode cL_law 175 = .ok (.iadd, 1) := by decide +kernel
theorem dL_law_176 : decode cL_law 176 = .ok (.iaload, 1) := by decide +kernel
theorem dL_law_177 : decode cL_law 177 = .ok (.invokevirtual 17, 3) := by decide +kernel
theorem dL_law_180 : decode cL_law 180 = .ok (.if_icmp .eq 868, 3) := by decide +kernel
theorem dL_law_183 : decode cL_law 183 = .ok (.iconst 0, 1) := by decide +kernel
theorem dL_law_184 : decode cL_law 184 = .ok (.ireturn, 1) := by decide +kernel
theorem dL_law_185 : decode cL_law 185 = .ok (.aload_n 1, 1) := by decide +kernel
theorem dL_law_186 : decode cL_law 186 = .ok (.aload_n 0, 1) := by decide +kernel
theorem dL_law_187 : decode cL_law 187 = .ok (.iload_n 3, 1) := by decide +kernel
theorem dL_law_188 : decode cL_law 188 = .ok (.iconst 1, 1) := by decide +kernel
theorem dL_law_189 : decode cL_law 189 = .ok (.iadd, 1) := by decide +kernel
theorem dL_law_190 : decode cL_law 190 = .ok (.iaload, 1) := by decide +kernel
theorem dL_law_191 : decode cL_law 191 = .ok (.aload_n 0, 1) := by decide +kernel
theorem dL_law_192 : decode cL_law 192 = .ok (.iload_n 3, 1) := by decide +kernel
theorem dL_law_193 : decode cL_law 193 = .ok (.iconst 2, 1) := by decide +kernel
theorem dL_law_194 : decode cL_law 194 = .ok (.iadd, 1) := by decide +kernel
theorem dL_law_195 : decode cL_law 195 = .ok (.iaload, 1) := by decide +kernel
theorem dL_law_196 : decode cL_law 196 = .ok (.aload_n 0, 1) := by decide +kernel
theorem dL_law_197 : decode cL_law 197 = .ok (.iload_n 3, 1) := by decide +kernel
theorem dL_law_198 : decode cL_law 198 = .ok (.iconst 3, 1) := by decide +kernel
theorem dL_law_199 : decode cL_law 199 = .ok (.iadd, 1) := by decide +kernel
theorem dL_law_200 : decode cL_law 200 = .ok (.iaload, 1) := by decide +kernel
theorem dL_law_201 : decode cL_law 201 = .ok (.invokevirtual 18, 3) := by decide +kernel
theorem dL_law_204 : decode cL_law 204 = .ok (.pop2, 1) := by decide +kernel
theorem dL_law_205 : decode cL_law 205 = .ok (.aload_n 2, 1) := by decide +kernel
theorem dL_law_206 : decode cL_law 206 = .ok (.aload_n 0, 1) := by decide +kernel
theorem dL_law_207 : decode cL_law 207 = .ok (.iload_n 3, 1) := by decide +kernel
theorem dL_law_208 : decode cL_law 208 = .ok (.iconst 1, 1) := by decide +kernel
theorem dL_law_209 : decode cL_law 209 = .ok (.iadd, 1) := by decide +kernel
theorem dL_law_210 : decode cL_law 210 = .ok (.iaload, 1) := by decide +kernel
theorem dL_law_211 : decode cL_law 211 = .ok (.aload_n 0, 1) := by decide +kernel
theorem dL_law_212 : decode cL_law 212 = .ok (.iload_n 3, 1) := by decide +kernel
theorem dL_law_213 : decode cL_law 213 = .ok (.iconst 2, 1) := by decide +kernel
theorem dL_law_214 : decode cL_law 214 = .ok (.iadd, 1) := by decide +kernel
theorem dL_law_215 : decode cL_law 215 = .ok (.iaload, 1) := by decide +kernel
theorem dL_law_216 : decode cL_law 216 = .ok (.aload_n 0, 1) := by decide +kernel
theorem dL_law_217 : decode cL_law 217 = .ok (.iload_n 3, 1) := by decide +kernel
theorem dL_law_218 : decode cL_law 218 = .ok (.iconst 3, 1) := by decide +kernel
theorem dL_law_219 : decode cL_law 219 = .ok (.iadd, 1) := by decide +kernel
theorem dL_law_220 : decode cL_law 220 = .ok (.iaload, 1) := by decide +kernel
theorem dL_law_221 : decode cL_law 221 = .ok (.invokevirtual 22, 3) := by decide +kernel
theorem dL_law_224 : decode cL_law 224 = .ok (.pop2, 1) := by decide +kernel
theorem dL_law_225 : decode cL_law 225 = .ok (.goto 823, 3) := by decide +kernel
theorem dL_law_228 : decode cL_law 228 = .ok (.aload_n 1, 1) := by decide +kernel
theorem dL_law_229 : decode cL_law 229 = .ok (.aload_n 0, 1) := by decide +kernel
theorem dL_law_230 : decode cL_law 230 = .ok (.iload_n 3, 1) := by decide +kernel
theorem dL_law_231 : decode cL_law 231 = .ok (.iconst 1, 1) := by decide +kernel
theorem dL_law_232 : decode cL_law 232 = .ok (.iadd, 1) := by decide +kernel
theorem dL_law_233 : decode cL_law 233 = .ok (.iaload, 1) := by decide +kernel
theorem dL_law_234 : decode cL_law 234 = .ok (.aload_n 0, 1) := by decide +kernel
theorem dL_law_235 : decode cL_law 235 = .ok (.iload_n 3, 1) := by decide +kernel
theorem dL_law_236 : decode cL_law 236 = .ok (.iconst 2, 1) := by decide +kernel
theorem dL_law_237 : decode cL_law 237 = .ok (.iadd, 1) := by decide +kernel
theorem dL_law_238 : decode cL_law 238 = .ok (.iaload, 1) := by decide +kernel
theorem dL_law_239 : decode cL_law 239 = .ok (.ifCond .eq 7, 3) := by decide +kernel
theorem dL_law_242 : decode cL_law 242 = .ok (.iconst 1, 1) := by decide +kernel
theorem dL_law_243 : decode cL_law 243 = .ok (.goto 4, 3) := by decide +kernel
theorem dL_law_246 : decode cL_law 246 = .ok (.iconst 0, 1) := by decide +kernel
theorem dL_law_247 : decode cL_law 247 = .ok (.invokevirtual 23, 3) := by decide +kernel
theorem dL_law_250 : decode cL_law 250 = .ok (.pop, 1) := by decide +kernel
theorem dL_law_251 : decode cL_law 251 = .ok (.aload_n 2, 1) := by decide +kernel
theorem dL_law_252 : decode cL_law 252 = .ok (.aload_n 0, 1) := by decide +kernel
theorem dL_law_253 : decode cL_law 253 = .ok (.iload_n 3, 1) := by decide +kernel
theorem dL_law_254 : decode cL_law 254 = .ok (.iconst 1, 1) := by decide +kernel
theorem dL_law_255 : decode cL_law 255 = .ok (.iadd, 1) := by decide +kernel
theorem dL_law_256 : decode cL_law 256 = .ok (.iaload, 1) := by decide +kernel
theorem dL_law_257 : decode cL_law 257 = .ok (.aload_n 0, 1) := by decide +kernel
theorem dL_law_258 : decode cL_law 258 = .ok (.iload_n 3, 1) := by decide +kernel
theorem dL_law_259 : decode cL_law 259 = .ok (.iconst 2, 1) := by decide +kernel
theorem dL_law_260 : decode cL_law 260 = .ok (.iadd, 1) := by decide +kernel
theorem dL_law_261 : decode cL_law 261 = .ok (.iaload, 1) := by decide +kernel
theorem dL_law_262 : decode cL_law 262 = .ok (.ifCond .eq 7, 3) := by decide +kernel
theorem dL_law_265 : decode cL_law 265 = .ok (.iconst 1, 1) := by decide +kernel
theorem dL_law_266 : decode cL_law 266 = .ok (.goto 4, 3) := by decide +kernel
theorem dL_law_269 : decode cL_law 269 = .ok (.iconst 0, 1) := by decide +kernel
theorem dL_law_270 : decode cL_law 270 = .ok (.invokevirtual 27, 3) := by decide +kernel
theorem dL_law_273 : decode cL_law 273 = .ok (.pop, 1) := by decide +kernel
theorem dL_law_274 : decode cL_law 274 = .ok (.goto 774, 3) := by decide +kernel
theorem dL_law_277 : decode cL_law 277 = .ok (.aload_n 1, 1) := by decide +kernel
theorem dL_law_278 : decode cL_law 278 = .ok (.aload_n 0, 1) := by decide +kernel
theorem dL_law_279 : decode cL_law 279 = .ok (.iload_n 3, 1) := by decide +kernel
theorem dL_law_280 : decode cL_law 280 = .ok (.iconst 1, 1) := by decide +kernel
theorem dL_law_281 : decode cL_law 281 = .ok (.iadd, 1) := by decide +kernel
theorem dL_law_282 : decode cL_law 282 = .ok (.iaload, 1) := by decide +kernel
theorem dL_law_283 : decode cL_law 283 = .ok (.aload_n 0, 1) := by decide +kernel
theorem dL_law_284 : decode cL_law 284 = .ok (.iload_n 3, 1) := by decide +kernel
theorem dL_law_285 : decode cL_law 285 = .ok (.iconst 2, 1) := by decide +kernel
theorem dL_law_286 : decode cL_law 286 = .ok (.iadd, 1) := by decide +kernel
theorem dL_law_287 : decode cL_law 287 = .ok (.iaload, 1) := by decide +kernel
theorem dL_law_288 : decode cL_law 288 = .ok (.invokevirtual 28, 3) := by decide +kernel
theorem dL_law_291 : decode cL_law 291 = .ok (.pop, 1) := by decide +kernel
theorem dL_law_292 : decode cL_law 292 = .ok (.aload_n 2, 1) := by decide +kernel
theorem dL_law_293 : decode cL_law 293 = .ok (.aload_n 0, 1) := by decide +kernel
theorem dL_law_294 : decode cL_law 294 = .ok (.iload_n 3, 1) := by decide +kernel
theorem dL_law_295 : decode cL_law 295 = .ok (.iconst 1, 1) := by decide +kernel
theorem dL_law_296 : decode cL_law 296 = .ok (.iadd, 1) := by decide +kernel
theorem dL_law_297 : decode cL_law 297 = .ok (.iaload, 1) := by decide +kernel
theorem dL_law_298 : decode cL_law 298 = .ok (.aload_n 0, 1) := by decide +kernel
theorem dL_law_299 : decode cL_law 299 = .ok (.iload_n 3, 1) := by decide +kernel
theorem dL_law_300 : decode cL_law 300 = .ok (.iconst 2, 1) := by decide +kernel
theorem dL_law_301 : decode cL_law 301 = .ok (.iadd, 1) := by decide +kernel
theorem dL_law_302 : decode cL_law 302 = .ok (.iaload, 1) := by decide +kernel
theorem dL_law_303 : decode cL_law 303 = .ok (.invokevirtual 31, 3) := by decide +kernel
theorem dL_law_306 : decode cL_law 306 = .ok (.pop, 1) := by decide +kernel
theorem dL_law_307 : decode cL_law 307 = .ok (.goto 741, 3) := by decide +kernel
theorem dL_law_310 : decode cL_law 310 = .ok (.aload_n 1, 1) := by decide +kernel
theorem dL_law_311 : decode cL_law 311 = .ok (.aload_n 0, 1) := by decide +kernel
theorem dL_law_312 : decode cL_law 312 = .ok (.iload_n 3, 1) := by decide +kernel
theorem dL_law_313 : decode cL_law 313 = .ok (.iconst 1, 1) := by decide +kernel
theorem dL_law_314 : decode cL_law 314 = .ok (.iadd, 1) := by decide +kernel
theorem dL_law_315 : decode cL_law 315 = .ok (.iaload, 1) := by decide +kernel
theorem dL_law_316 : decode cL_law 316 = .ok (.aload_n 0, 1) := by decide +kernel
theorem dL_law_317 : decode cL_law 317 = .ok (.iload_n 3, 1) := by decide +kernel
theorem dL_law_318 : decode cL_law 318 = .ok (.iconst 2, 1) := by decide +kernel
theorem dL_law_319 : decode cL_law 319 = .ok (.iadd, 1) := by decide +kernel
theorem dL_law_320 : decode cL_law 320 = .ok (.iaload, 1) := by decide +kernel
theorem dL_law_321 : decode cL_law 321 = .ok (.invokevirtual 32, 3) := by decide +kernel
theorem dL_law_324 : decode cL_law 324 = .ok (.pop2, 1) := by decide +kernel
theorem dL_law_325 : decode cL_law 325 = .ok (.aload_n 2, 1) := by decide +kernel
theorem dL_law_326 : decode cL_law 326 = .ok (.aload_n 0, 1) := by decide +kernel
theorem dL_law_327 : decode cL_law 327 = .ok (.iload_n 3, 1) := by decide +kernel
theorem dL_law_328 : decode cL_law 328 = .ok (.iconst 1, 1) := by decide +kernel
theorem dL_law_329 : decode cL_law 329 = .ok (.iadd, 1) := by decide +kernel
theorem dL_law_330 : decode cL_law 330 = .ok (.iaload, 1) := by decide +kernel
theorem dL_law_331 : decode cL_law 331 = .ok (.aload_n 0, 1) := by decide +kernel
theorem dL_law_332 : decode cL_law 332 = .ok (.iload_n 3, 1) := by decide +kernel
theorem dL_law_333 : decode cL_law 333 = .ok (.iconst 2, 1) := by decide +kernel
theorem dL_law_334 : decode cL_law 334 = .ok (.iadd, 1) := by decide +kernel
theorem dL_law_335 : decode cL_law 335 = .ok (.iaload, 1) := by decide +kernel
