theorem dX10_doesItem_166 : decode cX10_doesItem 166 = .ok (.invokevirtual 178, 3) := by decide +kernel
theorem dX10_doesItem_169 : decode cX10_doesItem 169 = .ok (.iconst 2, 1) := by decide +kernel
theorem dX10_doesItem_170 : decode cX10_doesItem 170 = .ok (.invokevirtual 213, 3) := by decide +kernel
theorem dX10_doesItem_173 : decode cX10_doesItem 173 = .ok (.ireturn, 1) := by decide +kernel
set_option maxRecDepth 20000 in
theorem ggX10_runs_X10_keepsBooks : GoodIn wsX10_runs wsX10_keepsBooks := goodIn_r _ [10, 11, 4, 12, 13, 14, 98, 99, 100, 101, 102, 103, 104, 105, 106, 107, 108, 109, 110, 111, 112, 113, 114, 115, 116, 117, 118, 119, 120, 121, 122, 123, 124, 125, 126, 127, 128, 129] (by decide +kernel) (by decide +kernel)
set_option maxRecDepth 20000 in
theorem gX10_runs_X10_keepsBooks : GoodIn wsX10_runs (wsV RX10 190 RX10 yX10_keepsBooks wsX10_keepsBooks) := goodIn_app (goodIn_of _ (by decide +kernel)) ggX10_runs_X10_keepsBooks
set_option maxRecDepth 20000 in
theorem ggX10_runs_X10_does : GoodIn wsX10_runs wsX10_does := goodIn_r _ [18, 19, 20, 21, 9, 22, 23, 1, 24, 25, 26, 27, 28, 29, 30, 31, 32, 33, 34, 35, 36, 37, 38, 39, 40, 41, 42, 43, 44, 45, 12, 5, 46, 47, 48, 49, 50, 51, 52, 53, 54, 55, 56, 57, 58, 59, 60, 61, 3, 62, 15, 16, 17, 63, 2, 64, 65, 66, 67, 68, 69, 70, 71, 72, 73, 74, 75, 76, 77, 14, 78, 79, 80, 81, 82, 83, 84, 85, 86, 87, 88, 89, 90, 91, 92, 93, 6, 7, 8, 10, 11, 4, 13, 94, 95, 96, 97, 98, 99, 100, 101, 102, 103, 104, 105, 106, 107, 108, 109, 110, 111, 112, 113, 114, 115, 116, 117, 118, 119, 120, 121, 122, 123, 124, 125, 126, 127, 128, 129] (by decide +kernel) (by decide +kernel)
set_option maxRecDepth 20000 in
theorem gX10_runs_X10_does : GoodIn wsX10_runs (wsV RX10 187 RX10 yX10_does wsX10_does) := goodIn_app (goodIn_of _ (by decide +kernel)) ggX10_runs_X10_does
set_option maxRecDepth 20000 in
theorem ggX10_runs_X10_forgetsBooks : GoodIn wsX10_runs wsX10_forgetsBooks := goodIn_r _ [97, 4, 12, 11, 13, 14, 98, 99, 100, 101, 102, 103, 104, 105, 106, 107, 108, 109, 110, 111, 112, 113, 114, 115, 116, 117, 118, 119, 120, 121, 122, 123, 124, 125, 126, 127, 128, 129] (by decide +kernel) (by decide +kernel)
set_option maxRecDepth 20000 in
theorem gX10_runs_X10_forgetsBooks : GoodIn wsX10_runs (wsV RX10 193 RX10 yX10_forgetsBooks wsX10_forgetsBooks) := goodIn_app (goodIn_of _ (by decide +kernel)) ggX10_runs_X10_forgetsBooks
theorem dX10_runs_0 : decode cX10_runs 0 = .ok (.aload_n 0, 1) := by decide +kernel
theorem dX10_runs_1 : decode cX10_runs 1 = .ok (.iload_n 1, 1) := by decide +kernel
theorem dX10_runs_2 : decode cX10_runs 2 = .ok (.putfield 157, 3) := by decide +kernel
theorem dX10_runs_5 : decode cX10_runs 5 = .ok (.aload_n 0, 1) := by decide +kernel
theorem dX10_runs_6 : decode cX10_runs 6 = .ok (.iconst 0, 1) := by decide +kernel
theorem dX10_runs_7 : decode cX10_runs 7 = .ok (.putfield 197, 3) := by decide +kernel
theorem dX10_runs_10 : decode cX10_runs 10 = .ok (.aload_n 0, 1) := by decide +kernel
theorem dX10_runs_11 : decode cX10_runs 11 = .ok (.iconst 0, 1) := by decide +kernel
theorem dX10_runs_12 : decode cX10_runs 12 = .ok (.putfield 154, 3) := by decide +kernel
theorem dX10_runs_15 : decode cX10_runs 15 = .ok (.aload_n 0, 1) := by decide +kernel
theorem dX10_runs_16 : decode cX10_runs 16 = .ok (.iconst 0, 1) := by decide +kernel
theorem dX10_runs_17 : decode cX10_runs 17 = .ok (.putfield 172, 3) := by decide +kernel
theorem dX10_runs_20 : decode cX10_runs 20 = .ok (.iconst 0, 1) := by decide +kernel
theorem dX10_runs_21 : decode cX10_runs 21 = .ok (.istore_n 2, 1) := by decide +kernel
theorem dX10_runs_22 : decode cX10_runs 22 = .ok (.iload_n 2, 1) := by decide +kernel
theorem dX10_runs_23 : decode cX10_runs 23 = .ok (.bipush 8, 2) := by decide +kernel
theorem dX10_runs_25 : decode cX10_runs 25 = .ok (.if_icmp .ge 16, 3) := by decide +kernel
theorem dX10_runs_28 : decode cX10_runs 28 = .ok (.aload_n 0, 1) := by decide +kernel
theorem dX10_runs_29 : decode cX10_runs 29 = .ok (.getfield 36, 3) := by decide +kernel
theorem dX10_runs_32 : decode cX10_runs 32 = .ok (.iload_n 2, 1) := by decide +kernel
theorem dX10_runs_33 : decode cX10_runs 33 = .ok (.iconst 0, 1) := by decide +kernel
theorem dX10_runs_34 : decode cX10_runs 34 = .ok (.iastore, 1) := by decide +kernel
theorem dX10_runs_35 : decode cX10_runs 35 = .ok (.iinc 2 1, 3) := by decide +kernel
theorem dX10_runs_38 : decode cX10_runs 38 = .ok (.goto (-16), 3) := by decide +kernel
theorem dX10_runs_41 : decode cX10_runs 41 = .ok (.aload_n 0, 1) := by decide +kernel
theorem dX10_runs_42 : decode cX10_runs 42 = .ok (.invokevirtual 190, 3) := by decide +kernel
theorem dX10_runs_45 : decode cX10_runs 45 = .ok (.aload_n 0, 1) := by decide +kernel
theorem dX10_runs_46 : decode cX10_runs 46 = .ok (.iconst 0, 1) := by decide +kernel
theorem dX10_runs_47 : decode cX10_runs 47 = .ok (.invokevirtual 187, 3) := by decide +kernel
theorem dX10_runs_50 : decode cX10_runs 50 = .ok (.istore_n 2, 1) := by decide +kernel
theorem dX10_runs_51 : decode cX10_runs 51 = .ok (.aload_n 0, 1) := by decide +kernel
theorem dX10_runs_52 : decode cX10_runs 52 = .ok (.iload_n 2, 1) := by decide +kernel
theorem dX10_runs_53 : decode cX10_runs 53 = .ok (.ifCond .eq 7, 3) := by decide +kernel
theorem dX10_runs_56 : decode cX10_runs 56 = .ok (.iconst 1, 1) := by decide +kernel
theorem dX10_runs_57 : decode cX10_runs 57 = .ok (.goto 4, 3) := by decide +kernel
theorem dX10_runs_60 : decode cX10_runs 60 = .ok (.iconst 0, 1) := by decide +kernel
theorem dX10_runs_61 : decode cX10_runs 61 = .ok (.invokevirtual 193, 3) := by decide +kernel
theorem dX10_runs_64 : decode cX10_runs 64 = .ok (.iload_n 2, 1) := by decide +kernel
theorem dX10_runs_65 : decode cX10_runs 65 = .ok (.ireturn, 1) := by decide +kernel
set_option maxRecDepth 20000 in
theorem ggX10_isProgram_X10_isIn : GoodIn wsX10_isProgram wsX10_isIn := goodIn_r _ [5] (by decide +kernel) (by decide +kernel)
set_option maxRecDepth 20000 in
theorem gX10_isProgram_X10_isIn : GoodIn wsX10_isProgram (va_wsS RX10 67 yX10_isIn wsX10_isIn) := goodIn_app (goodIn_of _ (by decide +kernel)) ggX10_isProgram_X10_isIn
theorem dX10_isProgram_0 : decode cX10_isProgram 0 = .ok (.iload_n 1, 1) := by decide +kernel
theorem dX10_isProgram_1 : decode cX10_isProgram 1 = .ok (.i2l, 1) := by decide +kernel
theorem dX10_isProgram_2 : decode cX10_isProgram 2 = .ok (.lconst 0, 1) := by decide +kernel
theorem dX10_isProgram_3 : decode cX10_isProgram 3 = .ok (.aload_n 0, 1) := by decide +kernel
theorem dX10_isProgram_4 : decode cX10_isProgram 4 = .ok (.getfield 100, 3) := by decide +kernel
theorem dX10_isProgram_7 : decode cX10_isProgram 7 = .ok (.iconst 1, 1) := by decide +kernel
theorem dX10_isProgram_8 : decode cX10_isProgram 8 = .ok (.isub, 1) := by decide +kernel
theorem dX10_isProgram_9 : decode cX10_isProgram 9 = .ok (.i2l, 1) := by decide +kernel
theorem dX10_isProgram_10 : decode cX10_isProgram 10 = .ok (.invokestatic 67, 3) := by decide +kernel
theorem dX10_isProgram_13 : decode cX10_isProgram 13 = .ok (.ireturn, 1) := by decide +kernel
set_option maxRecDepth 20000 in
theorem ggX10_run_X10_isProgram : GoodIn wsX10_run wsX10_isProgram := goodIn_r _ [13, 14, 15, 16, 12, 17, 113, 114, 115, 116, 117, 118, 119, 120, 121, 122, 123, 124, 125, 126, 127, 128, 129, 130, 131, 132, 133, 134, 135, 136, 137, 138, 139, 140, 141, 142, 143, 144] (by decide +kernel) (by decide +kernel)
set_option maxRecDepth 20000 in
theorem gX10_run_X10_isProgram : GoodIn wsX10_run (wsV RX10 216 RX10 yX10_isProgram wsX10_isProgram) := goodIn_app (goodIn_of _ (by decide +kernel)) ggX10_run_X10_isProgram
set_option maxRecDepth 20000 in
theorem ggX10_run_X10_runs : GoodIn wsX10_run wsX10_runs := goodIn_r _ [21, 22, 23, 1, 24, 25, 26, 27, 28, 12, 29, 30, 31, 32, 33, 34, 35, 36, 37, 38, 39, 40, 41, 42, 43, 44, 45, 46, 47, 48, 49, 50, 51, 52, 53, 54, 55, 56, 15, 16, 17, 57, 58, 59, 60, 61, 62, 63, 64, 65, 66, 67, 68, 69, 70, 71, 72, 73, 74, 75, 76, 77, 8, 78, 79, 80, 81, 82, 83, 84, 85, 86, 87, 88, 89, 90, 91, 92, 93, 94, 95, 96, 97, 98, 99, 100, 101, 102, 103, 104, 105, 106, 107, 108, 109, 110, 111, 112, 113, 114, 115, 116, 117, 118, 119, 120, 121, 122, 123, 124, 125, 126, 127, 128, 129, 130, 131, 132, 133, 134, 135, 136, 137, 138, 139, 140, 141, 142, 143, 144] (by decide +kernel) (by decide +kernel)
set_option maxRecDepth 20000 in
theorem gX10_run_X10_runs : GoodIn wsX10_run (wsV RX10 219 RX10 yX10_runs wsX10_runs) := goodIn_app (goodIn_of _ (by decide +kernel)) ggX10_run_X10_runs
theorem dX10_run_0 : decode cX10_run 0 = .ok (.aload_n 0, 1) := by decide +kernel
theorem dX10_run_1 : decode cX10_run 1 = .ok (.iload_n 1, 1) := by decide +kernel
theorem dX10_run_2 : decode cX10_run 2 = .ok (.invokevirtual 216, 3) := by decide +kernel
theorem dX10_run_5 : decode cX10_run 5 = .ok (.ifCond .ne 6, 3) := by decide +kernel
theorem dX10_run_8 : decode cX10_run 8 = .ok (.bipush (-2), 2) := by decide +kernel
theorem dX10_run_10 : decode cX10_run 10 = .ok (.ireturn, 1) := by decide +kernel
theorem dX10_run_11 : decode cX10_run 11 = .ok (.aload_n 0, 1) := by decide +kernel
theorem dX10_run_12 : decode cX10_run 12 = .ok (.iload_n 1, 1) := by decide +kernel
theorem dX10_run_13 : decode cX10_run 13 = .ok (.invokevirtual 219, 3) := by decide +kernel
theorem dX10_run_16 : decode cX10_run 16 = .ok (.istore_n 2, 1) := by decide +kernel
theorem dX10_run_17 : decode cX10_run 17 = .ok (.aload_n 0, 1) := by decide +kernel
theorem dX10_run_18 : decode cX10_run 18 = .ok (.bipush 60, 2) := by decide +kernel
theorem dX10_run_20 : decode cX10_run 20 = .ok (.aload_n 0, 1) := by decide +kernel
theorem dX10_run_21 : decode cX10_run 21 = .ok (.getfield 154, 3) := by decide +kernel
theorem dX10_run_24 : decode cX10_run 24 = .ok (.invokestatic 222, 3) := by decide +kernel
theorem dX10_run_27 : decode cX10_run 27 = .ok (.putfield 104, 3) := by decide +kernel
theorem dX10_run_30 : decode cX10_run 30 = .ok (.iconst 0, 1) := by decide +kernel
theorem dX10_run_31 : decode cX10_run 31 = .ok (.istore_n 3, 1) := by decide +kernel
theorem dX10_run_32 : decode cX10_run 32 = .ok (.iload_n 3, 1) := by decide +kernel
theorem dX10_run_33 : decode cX10_run 33 = .ok (.aload_n 0, 1) := by decide +kernel
theorem dX10_run_34 : decode cX10_run 34 = .ok (.getfield 104, 3) := by decide +kernel
theorem dX10_run_37 : decode cX10_run 37 = .ok (.if_icmp .ge 21, 3) := by decide +kernel
theorem dX10_run_40 : decode cX10_run 40 = .ok (.aload_n 0, 1) := by decide +kernel
theorem dX10_run_41 : decode cX10_run 41 = .ok (.getfield 42, 3) := by decide +kernel
theorem dX10_run_44 : decode cX10_run 44 = .ok (.iload_n 3, 1) := by decide +kernel
theorem dX10_run_45 : decode cX10_run 45 = .ok (.aload_n 0, 1) := by decide +kernel
theorem dX10_run_46 : decode cX10_run 46 = .ok (.getfield 39, 3) := by decide +kernel
theorem dX10_run_49 : decode cX10_run 49 = .ok (.iload_n 3, 1) := by decide +kernel
theorem dX10_run_50 : decode cX10_run 50 = .ok (.iaload, 1) := by decide +kernel
theorem dX10_run_51 : decode cX10_run 51 = .ok (.iastore, 1) := by decide +kernel
theorem dX10_run_52 : decode cX10_run 52 = .ok (.iinc 3 1, 3) := by decide +kernel
theorem dX10_run_55 : decode cX10_run 55 = .ok (.goto (-23), 3) := by decide +kernel
theorem dX10_run_58 : decode cX10_run 58 = .ok (.iload_n 2, 1) := by decide +kernel
theorem dX10_run_59 : decode cX10_run 59 = .ok (.ireturn, 1) := by decide +kernel
set_option maxRecDepth 20000 in
theorem ggX10_trace_X10_isIn : GoodIn wsX10_trace wsX10_isIn := goodIn_r _ [6] (by decide +kernel) (by decide +kernel)
set_option maxRecDepth 20000 in
theorem gX10_trace_X10_isIn : GoodIn wsX10_trace (va_wsS RX10 67 yX10_isIn wsX10_isIn) := goodIn_app (goodIn_of _ (by decide +kernel)) ggX10_trace_X10_isIn
theorem dX10_trace_0 : decode cX10_trace 0 = .ok (.iload_n 1, 1) := by decide +kernel
theorem dX10_trace_1 : decode cX10_trace 1 = .ok (.i2l, 1) := by decide +kernel
theorem dX10_trace_2 : decode cX10_trace 2 = .ok (.lconst 0, 1) := by decide +kernel
theorem dX10_trace_3 : decode cX10_trace 3 = .ok (.aload_n 0, 1) := by decide +kernel
theorem dX10_trace_4 : decode cX10_trace 4 = .ok (.getfield 104, 3) := by decide +kernel
theorem dX10_trace_7 : decode cX10_trace 7 = .ok (.iconst 1, 1) := by decide +kernel
theorem dX10_trace_8 : decode cX10_trace 8 = .ok (.isub, 1) := by decide +kernel
theorem dX10_trace_9 : decode cX10_trace 9 = .ok (.i2l, 1) := by decide +kernel
theorem dX10_trace_10 : decode cX10_trace 10 = .ok (.invokestatic 67, 3) := by decide +kernel
theorem dX10_trace_13 : decode cX10_trace 13 = .ok (.ifCond .eq 12, 3) := by decide +kernel
theorem dX10_trace_16 : decode cX10_trace 16 = .ok (.aload_n 0, 1) := by decide +kernel
theorem dX10_trace_17 : decode cX10_trace 17 = .ok (.getfield 42, 3) := by decide +kernel
theorem dX10_trace_20 : decode cX10_trace 20 = .ok (.iload_n 1, 1) := by decide +kernel
theorem dX10_trace_21 : decode cX10_trace 21 = .ok (.iaload, 1) := by decide +kernel
theorem dX10_trace_22 : decode cX10_trace 22 = .ok (.goto 5, 3) := by decide +kernel
theorem dX10_trace_25 : decode cX10_trace 25 = .ok (.bipush (-12), 2) := by decide +kernel
theorem dX10_trace_27 : decode cX10_trace 27 = .ok (.ireturn, 1) := by decide +kernel
theorem dX10_thinks_0 : decode cX10_thinks 0 = .ok (.aload_n 0, 1) := by decide +kernel
theorem dX10_thinks_1 : decode cX10_thinks 1 = .ok (.getfield 11, 3) := by decide +kernel
theorem dX10_thinks_4 : decode cX10_thinks 4 = .ok (.iconst 0, 1) := by decide +kernel
theorem dX10_thinks_5 : decode cX10_thinks 5 = .ok (.aload_n 0, 1) := by decide +kernel
theorem dX10_thinks_6 : decode cX10_thinks 6 = .ok (.getfield 15, 3) := by decide +kernel
theorem dX10_thinks_9 : decode cX10_thinks 9 = .ok (.iconst 0, 1) := by decide +kernel
theorem dX10_thinks_10 : decode cX10_thinks 10 = .ok (.bipush 125, 2) := by decide +kernel
theorem dX10_thinks_12 : decode cX10_thinks 12 = .ok (.invokestatic 227, 3) := by decide +kernel
theorem dX10_thinks_15 : decode cX10_thinks 15 = .ok (.aload_n 0, 1) := by decide +kernel
theorem dX10_thinks_16 : decode cX10_thinks 16 = .ok (.aload_n 0, 1) := by decide +kernel
theorem dX10_thinks_17 : decode cX10_thinks 17 = .ok (.getfield 110, 3) := by decide +kernel
theorem dX10_thinks_20 : decode cX10_thinks 20 = .ok (.putfield 233, 3) := by decide +kernel
theorem dX10_thinks_23 : decode cX10_thinks 23 = .ok (.return_, 1) := by decide +kernel
theorem dX10_wakes_0 : decode cX10_wakes 0 = .ok (.aload_n 0, 1) := by decide +kernel
theorem dX10_wakes_1 : decode cX10_wakes 1 = .ok (.getfield 15, 3) := by decide +kernel
theorem dX10_wakes_4 : decode cX10_wakes 4 = .ok (.iconst 0, 1) := by decide +kernel
theorem dX10_wakes_5 : decode cX10_wakes 5 = .ok (.aload_n 0, 1) := by decide +kernel
theorem dX10_wakes_6 : decode cX10_wakes 6 = .ok (.getfield 11, 3) := by decide +kernel
theorem dX10_wakes_9 : decode cX10_wakes 9 = .ok (.iconst 0, 1) := by decide +kernel
theorem dX10_wakes_10 : decode cX10_wakes 10 = .ok (.bipush 125, 2) := by decide +kernel
theorem dX10_wakes_12 : decode cX10_wakes 12 = .ok (.invokestatic 227, 3) := by decide +kernel
theorem dX10_wakes_15 : decode cX10_wakes 15 = .ok (.aload_n 0, 1) := by decide +kernel
theorem dX10_wakes_16 : decode cX10_wakes 16 = .ok (.aload_n 0, 1) := by decide +kernel
theorem dX10_wakes_17 : decode cX10_wakes 17 = .ok (.getfield 233, 3) := by decide +kernel
theorem dX10_wakes_20 : decode cX10_wakes 20 = .ok (.putfield 110, 3) := by decide +kernel
theorem dX10_wakes_23 : decode cX10_wakes 23 = .ok (.return_, 1) := by decide +kernel
theorem dX10_entries_0 : decode cX10_entries 0 = .ok (.lconst 0, 1) := by decide +kernel
theorem dX10_entries_1 : decode cX10_entries 1 = .ok (.lstore_n 1, 1) := by decide +kernel
theorem dX10_entries_2 : decode cX10_entries 2 = .ok (.iconst 0, 1) := by decide +kernel
theorem dX10_entries_3 : decode cX10_entries 3 = .ok (.istore_n 3, 1) := by decide +kernel
theorem dX10_entries_4 : decode cX10_entries 4 = .ok (.iload_n 3, 1) := by decide +kernel
theorem dX10_entries_5 : decode cX10_entries 5 = .ok (.aload_n 0, 1) := by decide +kernel
theorem dX10_entries_6 : decode cX10_entries 6 = .ok (.getfield 11, 3) := by decide +kernel
theorem dX10_entries_9 : decode cX10_entries 9 = .ok (.bipush 60, 2) := by decide +kernel
theorem dX10_entries_11 : decode cX10_entries 11 = .ok (.iaload, 1) := by decide +kernel
theorem dX10_entries_12 : decode cX10_entries 12 = .ok (.if_icmp .ge 22, 3) := by decide +kernel
theorem dX10_entries_15 : decode cX10_entries 15 = .ok (.lload_n 1, 1) := by decide +kernel
theorem dX10_entries_16 : decode cX10_entries 16 = .ok (.aload_n 0, 1) := by decide +kernel
theorem dX10_entries_17 : decode cX10_entries 17 = .ok (.getfield 11, 3) := by decide +kernel
theorem dX10_entries_20 : decode cX10_entries 20 = .ok (.bipush 32, 2) := by decide +kernel
theorem dX10_entries_22 : decode cX10_entries 22 = .ok (.iload_n 3, 1) := by decide +kernel
theorem dX10_entries_23 : decode cX10_entries 23 = .ok (.iadd, 1) := by decide +kernel
theorem dX10_entries_24 : decode cX10_entries 24 = .ok (.iaload, 1) := by decide +kernel
theorem dX10_entries_25 : decode cX10_entries 25 = .ok (.i2l, 1) := by decide +kernel
theorem dX10_entries_26 : decode cX10_entries 26 = .ok (.ladd, 1) := by decide +kernel
theorem dX10_entries_27 : decode cX10_entries 27 = .ok (.lstore_n 1, 1) := by decide +kernel
theorem dX10_entries_28 : decode cX10_entries 28 = .ok (.iinc 3 1, 3) := by decide +kernel
theorem dX10_entries_31 : decode cX10_entries 31 = .ok (.goto (-27), 3) := by decide +kernel
theorem dX10_entries_34 : decode cX10_entries 34 = .ok (.lload_n 1, 1) := by decide +kernel
theorem dX10_entries_35 : decode cX10_entries 35 = .ok (.lreturn, 1) := by decide +kernel
set_option maxRecDepth 20000 in
theorem ggX10_would_X10_isProgram : GoodIn wsX10_would wsX10_isProgram := goodIn_r _ [11, 12, 13, 14, 10, 15, 128, 129, 130, 131, 132, 133, 134, 135, 136, 137, 138, 139, 140, 141, 142, 143, 144, 145, 146, 147, 148, 149, 150, 151, 152, 153, 154, 155, 156, 157, 158, 159] (by decide +kernel) (by decide +kernel)
set_option maxRecDepth 20000 in
theorem gX10_would_X10_isProgram : GoodIn wsX10_would (wsV RX10 216 RX10 yX10_isProgram wsX10_isProgram) := goodIn_app (goodIn_of _ (by decide +kernel)) ggX10_would_X10_isProgram
set_option maxRecDepth 20000 in
theorem ggX10_would_X10_isIn : GoodIn wsX10_would wsX10_isIn := goodIn_r _ [15] (by decide +kernel) (by decide +kernel)
set_option maxRecDepth 20000 in
theorem gX10_would_X10_isIn : GoodIn wsX10_would (va_wsS RX10 67 yX10_isIn wsX10_isIn) := goodIn_app (goodIn_of _ (by decide +kernel)) ggX10_would_X10_isIn
set_option maxRecDepth 20000 in
theorem ggX10_would_X10_entries : GoodIn wsX10_would wsX10_entries := goodIn_r _ [19, 3, 128, 129, 130, 131, 132, 133, 134, 135, 136, 137, 138, 139, 140, 141, 142, 143, 144, 145, 146, 147, 148, 149, 150, 151, 152, 153, 154, 155, 156, 157, 158, 159] (by decide +kernel) (by decide +kernel)
set_option maxRecDepth 20000 in
theorem gX10_would_X10_entries : GoodIn wsX10_would (wsV RX10 240 RX10 yX10_entries wsX10_entries) := goodIn_app (goodIn_of _ (by decide +kernel)) ggX10_would_X10_entries
set_option maxRecDepth 20000 in
theorem ggX10_would_X10_thinks : GoodIn wsX10_would wsX10_thinks := goodIn_r _ [23, 3, 24, 25, 26, 27, 28, 5, 29, 128, 129, 130, 131, 132, 133, 134, 135, 136, 137, 138, 139, 140, 141, 142, 143, 144, 145, 146, 147, 148, 149, 150, 151, 152, 153, 154, 155, 156, 157, 158, 159] (by decide +kernel) (by decide +kernel)
set_option maxRecDepth 20000 in
theorem gX10_would_X10_thinks : GoodIn wsX10_would (wsV RX10 244 RX10 yX10_thinks wsX10_thinks) := goodIn_app (goodIn_of _ (by decide +kernel)) ggX10_would_X10_thinks
set_option maxRecDepth 20000 in
theorem ggX10_would_X10_runs : GoodIn wsX10_would wsX10_runs := goodIn_r _ [33, 34, 35, 6, 36, 37, 38, 39, 40, 10, 41, 42, 3, 43, 5, 44, 45, 46, 47, 48, 49, 50, 51, 52, 53, 54, 55, 56, 57, 58, 59, 60, 61, 62, 63, 64, 65, 66, 13, 14, 15, 67, 68, 69, 70, 71, 72, 73, 74, 75, 76, 77, 78, 79, 80, 81, 82, 83, 84, 85, 86, 87, 88, 89, 90, 91, 92, 93, 94, 95, 96, 97, 98, 99, 100, 101, 102, 103, 104, 105, 106, 107, 108, 109, 110, 111, 112, 113, 114, 115, 116, 117, 118, 119, 120, 121, 122, 123, 128, 129, 130, 131, 132, 133, 134, 135, 136, 137, 138, 139, 140, 141, 142, 143, 144, 145, 146, 147, 148, 149, 150, 151, 152, 153, 154, 155, 156, 157, 158, 159] (by decide +kernel) (by decide +kernel)
set_option maxRecDepth 20000 in
theorem gX10_would_X10_runs : GoodIn wsX10_would (wsV RX10 219 RX10 yX10_runs wsX10_runs) := goodIn_app (goodIn_of _ (by decide +kernel)) ggX10_would_X10_runs
set_option maxRecDepth 20000 in
theorem ggX10_would_X10_wakes : GoodIn wsX10_would wsX10_wakes := goodIn_r _ [127, 24, 3, 25, 26, 27, 28, 29, 5, 128, 129, 130, 131, 132, 133, 134, 135, 136, 137, 138, 139, 140, 141, 142, 143, 144, 145, 146, 147, 148, 149, 150, 151, 152, 153, 154, 155, 156, 157, 158, 159] (by decide +kernel) (by decide +kernel)
set_option maxRecDepth 20000 in
theorem gX10_would_X10_wakes : GoodIn wsX10_would (wsV RX10 247 RX10 yX10_wakes wsX10_wakes) := goodIn_app (goodIn_of _ (by decide +kernel)) ggX10_would_X10_wakes
theorem dX10_would_0 : decode cX10_would 0 = .ok (.aload_n 0, 1) := by decide +kernel
theorem dX10_would_1 : decode cX10_would 1 = .ok (.iload_n 1, 1) := by decide +kernel
theorem dX10_would_2 : decode cX10_would 2 = .ok (.invokevirtual 216, 3) := by decide +kernel
theorem dX10_would_5 : decode cX10_would 5 = .ok (.ifCond .eq 37, 3) := by decide +kernel
theorem dX10_would_8 : decode cX10_would 8 = .ok (.iload_n 2, 1) := by decide +kernel
theorem dX10_would_9 : decode cX10_would 9 = .ok (.i2l, 1) := by decide +kernel
theorem dX10_would_10 : decode cX10_would 10 = .ok (.lconst 0, 1) := by decide +kernel
theorem dX10_would_11 : decode cX10_would 11 = .ok (.ldc2_w 236, 3) := by decide +kernel
theorem dX10_would_14 : decode cX10_would 14 = .ok (.invokestatic 67, 3) := by decide +kernel
theorem dX10_would_17 : decode cX10_would 17 = .ok (.ifCond .ne 29, 3) := by decide +kernel
theorem dX10_would_20 : decode cX10_would 20 = .ok (.iload_n 2, 1) := by decide +kernel
theorem dX10_would_21 : decode cX10_would 21 = .ok (.i2l, 1) := by decide +kernel
theorem dX10_would_22 : decode cX10_would 22 = .ok (.ldc2_w 238, 3) := by decide +kernel
theorem dX10_would_25 : decode cX10_would 25 = .ok (.bipush 9, 2) := by decide +kernel
theorem dX10_would_27 : decode cX10_would 27 = .ok (.aload_n 0, 1) := by decide +kernel
theorem dX10_would_28 : decode cX10_would 28 = .ok (.getfield 11, 3) := by decide +kernel
theorem dX10_would_31 : decode cX10_would 31 = .ok (.bipush 60, 2) := by decide +kernel
theorem dX10_would_33 : decode cX10_would 33 = .ok (.iaload, 1) := by decide +kernel
theorem dX10_would_34 : decode cX10_would 34 = .ok (.iadd, 1) := by decide +kernel
theorem dX10_would_35 : decode cX10_would 35 = .ok (.i2l, 1) := by decide +kernel
theorem dX10_would_36 : decode cX10_would 36 = .ok (.invokestatic 67, 3) := by decide +kernel
theorem dX10_would_39 : decode cX10_would 39 = .ok (.ifCond .ne 7, 3) := by decide +kernel
theorem dX10_would_42 : decode cX10_would 42 = .ok (.ldc2_w 81, 3) := by decide +kernel
theorem dX10_would_45 : decode cX10_would 45 = .ok (.lreturn, 1) := by decide +kernel
theorem dX10_would_46 : decode cX10_would 46 = .ok (.aload_n 0, 1) := by decide +kernel
theorem dX10_would_47 : decode cX10_would 47 = .ok (.invokevirtual 240, 3) := by decide +kernel
theorem dX10_would_50 : decode cX10_would 50 = .ok (.lstore_n 3, 1) := by decide +kernel
theorem dX10_would_51 : decode cX10_would 51 = .ok (.aload_n 0, 1) := by decide +kernel
theorem dX10_would_52 : decode cX10_would 52 = .ok (.invokevirtual 244, 3) := by decide +kernel
theorem dX10_would_55 : decode cX10_would 55 = .ok (.aload_n 0, 1) := by decide +kernel
theorem dX10_would_56 : decode cX10_would 56 = .ok (.iload_n 1, 1) := by decide +kernel
theorem dX10_would_57 : decode cX10_would 57 = .ok (.invokevirtual 219, 3) := by decide +kernel
theorem dX10_would_60 : decode cX10_would 60 = .ok (.istore 5, 2) := by decide +kernel
theorem dX10_would_62 : decode cX10_would 62 = .ok (.iload_n 2, 1) := by decide +kernel
theorem dX10_would_63 : decode cX10_would 63 = .ok (.ifCond .ne 9, 3) := by decide +kernel
theorem dX10_would_66 : decode cX10_would 66 = .ok (.iload 5, 2) := by decide +kernel
theorem dX10_would_68 : decode cX10_would 68 = .ok (.i2l, 1) := by decide +kernel
theorem dX10_would_69 : decode cX10_would 69 = .ok (.goto 55, 3) := by decide +kernel
theorem dX10_would_72 : decode cX10_would 72 = .ok (.iload_n 2, 1) := by decide +kernel
theorem dX10_would_73 : decode cX10_would 73 = .ok (.iconst 1, 1) := by decide +kernel
theorem dX10_would_74 : decode cX10_would 74 = .ok (.if_icmp .ne 10, 3) := by decide +kernel
theorem dX10_would_77 : decode cX10_would 77 = .ok (.aload_n 0, 1) := by decide +kernel
theorem dX10_would_78 : decode cX10_would 78 = .ok (.getfield 110, 3) := by decide +kernel
theorem dX10_would_81 : decode cX10_would 81 = .ok (.goto 43, 3) := by decide +kernel
theorem dX10_would_84 : decode cX10_would 84 = .ok (.iload_n 2, 1) := by decide +kernel
theorem dX10_would_85 : decode cX10_would 85 = .ok (.iconst 2, 1) := by decide +kernel
theorem dX10_would_86 : decode cX10_would 86 = .ok (.if_icmp .ne 11, 3) := by decide +kernel
theorem dX10_would_89 : decode cX10_would 89 = .ok (.aload_n 0, 1) := by decide +kernel
theorem dX10_would_90 : decode cX10_would 90 = .ok (.getfield 154, 3) := by decide +kernel
theorem dX10_would_93 : decode cX10_would 93 = .ok (.i2l, 1) := by decide +kernel
theorem dX10_would_94 : decode cX10_would 94 = .ok (.goto 30, 3) := by decide +kernel
theorem dX10_would_97 : decode cX10_would 97 = .ok (.iload_n 2, 1) := by decide +kernel
theorem dX10_would_98 : decode cX10_would 98 = .ok (.iconst 3, 1) := by decide +kernel
theorem dX10_would_99 : decode cX10_would 99 = .ok (.if_icmp .ne 12, 3) := by decide +kernel
theorem dX10_would_102 : decode cX10_would 102 = .ok (.aload_n 0, 1) := by decide +kernel
theorem dX10_would_103 : decode cX10_would 103 = .ok (.invokevirtual 240, 3) := by decide +kernel
theorem dX10_would_106 : decode cX10_would 106 = .ok (.lload_n 3, 1) := by decide +kernel
theorem dX10_would_107 : decode cX10_would 107 = .ok (.lsub, 1) := by decide +kernel
theorem dX10_would_108 : decode cX10_would 108 = .ok (.goto 16, 3) := by decide +kernel
theorem dX10_would_111 : decode cX10_would 111 = .ok (.aload_n 0, 1) := by decide +kernel
theorem dX10_would_112 : decode cX10_would 112 = .ok (.getfield 11, 3) := by decide +kernel
theorem dX10_would_115 : decode cX10_would 115 = .ok (.bipush 8, 2) := by decide +kernel
theorem dX10_would_117 : decode cX10_would 117 = .ok (.iload_n 2, 1) := by decide +kernel
theorem dX10_would_118 : decode cX10_would 118 = .ok (.iadd, 1) := by decide +kernel
theorem dX10_would_119 : decode cX10_would 119 = .ok (.bipush 10, 2) := by decide +kernel
theorem dX10_would_121 : decode cX10_would 121 = .ok (.isub, 1) := by decide +kernel
theorem dX10_would_122 : decode cX10_would 122 = .ok (.iaload, 1) := by decide +kernel
theorem dX10_would_123 : decode cX10_would 123 = .ok (.i2l, 1) := by decide +kernel
theorem dX10_would_124 : decode cX10_would 124 = .ok (.lstore 6, 2) := by decide +kernel
theorem dX10_would_126 : decode cX10_would 126 = .ok (.aload_n 0, 1) := by decide +kernel
theorem dX10_would_127 : decode cX10_would 127 = .ok (.invokevirtual 247, 3) := by decide +kernel
theorem dX10_would_130 : decode cX10_would 130 = .ok (.lload 6, 2) := by decide +kernel
theorem dX10_would_132 : decode cX10_would 132 = .ok (.lreturn, 1) := by decide +kernel
set_option maxRecDepth 20000 in
theorem ggX10_outcomeOf_X10_would : GoodIn wsX10_outcomeOf wsX10_would := goodIn_r _ [5, 6, 7, 8, 9, 10, 11, 12, 13, 14, 4, 15, 16, 17, 18, 19, 20, 21, 22, 23, 24, 25, 26, 27, 28, 29, 30, 31, 32, 33, 34, 35, 36, 37, 38, 39, 40, 41, 42, 43, 44, 45, 46, 47, 48, 49, 50, 51, 52, 53, 54, 55, 56, 57, 58, 59, 60, 61, 62, 63, 64, 65, 66, 67, 68, 69, 70, 71, 72, 73, 74, 75, 76, 77, 78, 79, 80, 81, 82, 83, 84, 85, 86, 87, 88, 89, 90, 91, 92, 93, 94, 95, 96, 97, 98, 99, 100, 101, 102, 103, 104, 105, 106, 107, 108, 109, 110, 111, 112, 113, 114, 115, 116, 117, 118, 119, 120, 121, 122, 123, 124, 125, 126, 127, 128, 129, 130, 131, 132, 133, 134, 135, 136, 137, 138, 139, 140, 141, 142, 143, 144, 145, 146, 147, 148, 149, 150, 151, 152, 153, 154, 155, 156, 157, 158, 159, 160, 161, 162, 163] (by decide +kernel) (by decide +kernel)
set_option maxRecDepth 20000 in
theorem gX10_outcomeOf_X10_would : GoodIn wsX10_outcomeOf (wsV RX10 250 RX10 yX10_would wsX10_would) := goodIn_app (goodIn_of _ (by decide +kernel)) ggX10_outcomeOf_X10_would
theorem dX10_outcomeOf_0 : decode cX10_outcomeOf 0 = .ok (.aload_n 0, 1) := by decide +kernel
theorem dX10_outcomeOf_1 : decode cX10_outcomeOf 1 = .ok (.iload_n 1, 1) := by decide +kernel
theorem dX10_outcomeOf_2 : decode cX10_outcomeOf 2 = .ok (.iconst 0, 1) := by decide +kernel
theorem dX10_outcomeOf_3 : decode cX10_outcomeOf 3 = .ok (.invokevirtual 250, 3) := by decide +kernel
theorem dX10_outcomeOf_6 : decode cX10_outcomeOf 6 = .ok (.l2i, 1) := by decide +kernel
theorem dX10_outcomeOf_7 : decode cX10_outcomeOf 7 = .ok (.ireturn, 1) := by decide +kernel
set_option maxRecDepth 20000 in
theorem ggX10_needed_X10_isProgram : GoodIn wsX10_needed wsX10_isProgram := goodIn_r _ [7, 8, 9, 10, 6, 11, 137, 138, 139, 140, 141, 142, 143, 144, 145, 146, 147, 148, 149, 150, 151, 152, 153, 154, 155, 156, 157, 158, 159, 160, 161, 162, 163, 164, 165, 166, 167, 168] (by decide +kernel) (by decide +kernel)
set_option maxRecDepth 20000 in
theorem gX10_needed_X10_isProgram : GoodIn wsX10_needed (wsV RX10 216 RX10 yX10_isProgram wsX10_isProgram) := goodIn_app (goodIn_of _ (by decide +kernel)) ggX10_needed_X10_isProgram
set_option maxRecDepth 20000 in
theorem ggX10_needed_X10_isAccount : GoodIn wsX10_needed wsX10_isAccount := goodIn_r _ [15, 1, 9, 10, 6, 11, 137, 138, 139, 140, 141, 142, 143, 144, 145, 146, 147, 148, 149, 150, 151, 152, 153, 154, 155, 156, 157, 158, 159, 160, 161, 162, 163, 164, 165, 166, 167, 168] (by decide +kernel) (by decide +kernel)
set_option maxRecDepth 20000 in
theorem gX10_needed_X10_isAccount : GoodIn wsX10_needed (wsV RX10 75 RX10 yX10_isAccount wsX10_isAccount) := goodIn_app (goodIn_of _ (by decide +kernel)) ggX10_needed_X10_isAccount
set_option maxRecDepth 20000 in
theorem ggX10_needed_X10_outcomeOf : GoodIn wsX10_needed wsX10_outcomeOf := goodIn_r _ [19, 20, 21, 22, 6, 23, 24, 25, 1, 26, 27, 28, 3, 4, 5, 7, 8, 9, 10, 11, 29, 30, 31, 32, 33, 34, 35, 36, 37, 38, 39, 40, 41, 42, 43, 44, 45, 46, 47, 48, 49, 50, 51, 52, 53, 54, 55, 56, 57, 58, 59, 60, 61, 62, 63, 64, 65, 66, 67, 68, 69, 70, 71, 72, 73, 74, 75, 76, 77, 78, 79, 80, 81, 82, 83, 84, 85, 86, 87, 88, 89, 90, 91, 92, 12, 13, 14, 15, 93, 94, 95, 96, 97, 98, 99, 100, 101, 102, 103, 104, 105, 106, 107, 108, 109, 110, 111, 112, 113, 114, 115, 116, 117, 118, 119, 120, 121, 122, 123, 124, 125, 126, 127, 128, 129, 130, 131, 132, 133, 134, 135, 136, 137, 138, 139, 140, 141, 142, 143, 144, 145, 146, 147, 148, 149, 150, 151, 152, 153, 154, 155, 156, 157, 158, 159, 160, 161, 162, 163, 164, 165, 166, 167, 168] (by decide +kernel) (by decide +kernel)
set_option maxRecDepth 20000 in
theorem gX10_needed_X10_outcomeOf : GoodIn wsX10_needed (wsV RX10 255 RX10 yX10_outcomeOf wsX10_outcomeOf) := goodIn_app (goodIn_of _ (by decide +kernel)) ggX10_needed_X10_outcomeOf
theorem dX10_needed_0 : decode cX10_needed 0 = .ok (.aload_n 0, 1) := by decide +kernel
theorem dX10_needed_1 : decode cX10_needed 1 = .ok (.iload_n 1, 1) := by decide +kernel
theorem dX10_needed_2 : decode cX10_needed 2 = .ok (.invokevirtual 216, 3) := by decide +kernel
theorem dX10_needed_5 : decode cX10_needed 5 = .ok (.ifCond .eq 11, 3) := by decide +kernel
theorem dX10_needed_8 : decode cX10_needed 8 = .ok (.aload_n 0, 1) := by decide +kernel
theorem dX10_needed_9 : decode cX10_needed 9 = .ok (.iload_n 2, 1) := by decide +kernel
theorem dX10_needed_10 : decode cX10_needed 10 = .ok (.invokevirtual 75, 3) := by decide +kernel
theorem dX10_needed_13 : decode cX10_needed 13 = .ok (.ifCond .ne 6, 3) := by decide +kernel
theorem dX10_needed_16 : decode cX10_needed 16 = .ok (.bipush (-2), 2) := by decide +kernel
theorem dX10_needed_18 : decode cX10_needed 18 = .ok (.ireturn, 1) := by decide +kernel
theorem dX10_needed_19 : decode cX10_needed 19 = .ok (.aload_n 0, 1) := by decide +kernel
theorem dX10_needed_20 : decode cX10_needed 20 = .ok (.getfield 11, 3) := by decide +kernel
theorem dX10_needed_23 : decode cX10_needed 23 = .ok (.bipush 8, 2) := by decide +kernel
theorem dX10_needed_25 : decode cX10_needed 25 = .ok (.iload_n 2, 1) := by decide +kernel
theorem dX10_needed_26 : decode cX10_needed 26 = .ok (.iadd, 1) := by decide +kernel
theorem dX10_needed_27 : decode cX10_needed 27 = .ok (.iaload, 1) := by decide +kernel
theorem dX10_needed_28 : decode cX10_needed 28 = .ok (.istore_n 3, 1) := by decide +kernel
theorem dX10_needed_29 : decode cX10_needed 29 = .ok (.iconst (-1), 1) := by decide +kernel
theorem dX10_needed_30 : decode cX10_needed 30 = .ok (.istore 4, 2) := by decide +kernel
theorem dX10_needed_32 : decode cX10_needed 32 = .ok (.iconst 0, 1) := by decide +kernel
theorem dX10_needed_33 : decode cX10_needed 33 = .ok (.istore 5, 2) := by decide +kernel
theorem dX10_needed_35 : decode cX10_needed 35 = .ok (.iload 5, 2) := by decide +kernel
theorem dX10_needed_37 : decode cX10_needed 37 = .ok (.ldc 254, 2) := by decide +kernel
theorem dX10_needed_39 : decode cX10_needed 39 = .ok (.if_icmp .gt 54, 3) := by decide +kernel
theorem dX10_needed_42 : decode cX10_needed 42 = .ok (.iload 4, 2) := by decide +kernel
theorem dX10_needed_44 : decode cX10_needed 44 = .ok (.iconst (-1), 1) := by decide +kernel
theorem dX10_needed_45 : decode cX10_needed 45 = .ok (.if_icmp .ne 48, 3) := by decide +kernel
theorem dX10_needed_48 : decode cX10_needed 48 = .ok (.aload_n 0, 1) := by decide +kernel
theorem dX10_needed_49 : decode cX10_needed 49 = .ok (.getfield 11, 3) := by decide +kernel
theorem dX10_needed_52 : decode cX10_needed 52 = .ok (.bipush 8, 2) := by decide +kernel
theorem dX10_needed_54 : decode cX10_needed 54 = .ok (.iload_n 2, 1) := by decide +kernel
theorem dX10_needed_55 : decode cX10_needed 55 = .ok (.iadd, 1) := by decide +kernel
theorem dX10_needed_56 : decode cX10_needed 56 = .ok (.iload 5, 2) := by decide +kernel
theorem dX10_needed_58 : decode cX10_needed 58 = .ok (.iastore, 1) := by decide +kernel
theorem dX10_needed_59 : decode cX10_needed 59 = .ok (.aload_n 0, 1) := by decide +kernel
theorem dX10_needed_60 : decode cX10_needed 60 = .ok (.iload_n 1, 1) := by decide +kernel
theorem dX10_needed_61 : decode cX10_needed 61 = .ok (.invokevirtual 255, 3) := by decide +kernel
theorem dX10_needed_64 : decode cX10_needed 64 = .ok (.ifCond .ne 8, 3) := by decide +kernel
theorem dX10_needed_67 : decode cX10_needed 67 = .ok (.iload 5, 2) := by decide +kernel
theorem dX10_needed_69 : decode cX10_needed 69 = .ok (.goto 4, 3) := by decide +kernel
theorem dX10_needed_72 : decode cX10_needed 72 = .ok (.iconst (-1), 1) := by decide +kernel
theorem dX10_needed_73 : decode cX10_needed 73 = .ok (.istore 4, 2) := by decide +kernel
theorem dX10_needed_75 : decode cX10_needed 75 = .ok (.iload 5, 2) := by decide +kernel
theorem dX10_needed_77 : decode cX10_needed 77 = .ok (.ifCond .ne 7, 3) := by decide +kernel
theorem dX10_needed_80 : decode cX10_needed 80 = .ok (.iconst 1, 1) := by decide +kernel
theorem dX10_needed_81 : decode cX10_needed 81 = .ok (.goto 7, 3) := by decide +kernel
theorem dX10_needed_84 : decode cX10_needed 84 = .ok (.iconst 2, 1) := by decide +kernel
theorem dX10_needed_85 : decode cX10_needed 85 = .ok (.iload 5, 2) := by decide +kernel
theorem dX10_needed_87 : decode cX10_needed 87 = .ok (.imul, 1) := by decide +kernel
theorem dX10_needed_88 : decode cX10_needed 88 = .ok (.istore 5, 2) := by decide +kernel
theorem dX10_needed_90 : decode cX10_needed 90 = .ok (.goto (-55), 3) := by decide +kernel
theorem dX10_needed_93 : decode cX10_needed 93 = .ok (.aload_n 0, 1) := by decide +kernel
theorem dX10_needed_94 : decode cX10_needed 94 = .ok (.getfield 11, 3) := by decide +kernel
theorem dX10_needed_97 : decode cX10_needed 97 = .ok (.bipush 8, 2) := by decide +kernel
theorem dX10_needed_99 : decode cX10_needed 99 = .ok (.iload_n 2, 1) := by decide +kernel
theorem dX10_needed_100 : decode cX10_needed 100 = .ok (.iadd, 1) := by decide +kernel
theorem dX10_needed_101 : decode cX10_needed 101 = .ok (.iload_n 3, 1) := by decide +kernel
theorem dX10_needed_102 : decode cX10_needed 102 = .ok (.iastore, 1) := by decide +kernel
theorem dX10_needed_103 : decode cX10_needed 103 = .ok (.iload 4, 2) := by decide +kernel
theorem dX10_needed_105 : decode cX10_needed 105 = .ok (.ireturn, 1) := by decide +kernel
set_option maxRecDepth 20000 in
theorem ggX10_hinges_X10_isProgram : GoodIn wsX10_hinges wsX10_isProgram := goodIn_r _ [6, 7, 8, 9, 5, 10, 136, 137, 138, 139, 140, 141, 142, 143, 144, 145, 146, 147, 148, 149, 150, 151, 152, 153, 154, 155, 156, 157, 158, 159, 160, 161, 162, 163, 164, 165, 166, 167] (by decide +kernel) (by decide +kernel)
set_option maxRecDepth 20000 in
theorem gX10_hinges_X10_isProgram : GoodIn wsX10_hinges (wsV RX10 216 RX10 yX10_isProgram wsX10_isProgram) := goodIn_app (goodIn_of _ (by decide +kernel)) ggX10_hinges_X10_isProgram
set_option maxRecDepth 20000 in
theorem ggX10_hinges_X10_outcomeOf : GoodIn wsX10_hinges wsX10_outcomeOf := goodIn_r _ [14, 15, 16, 17, 5, 18, 19, 20, 1, 21, 22, 23, 2, 3, 4, 6, 7, 8, 9, 10, 24, 25, 26, 27, 28, 29, 30, 31, 32, 33, 34, 35, 36, 37, 38, 39, 40, 41, 42, 43, 44, 45, 46, 47, 48, 49, 50, 51, 52, 53, 54, 55, 56, 57, 58, 59, 60, 61, 62, 63, 64, 65, 66, 67, 68, 69, 70, 71, 72, 73, 74, 75, 76, 77, 78, 79, 80, 81, 82, 83, 84, 85, 86, 87, 88, 89, 90, 91, 92, 93, 94, 95, 96, 97, 98, 99, 100, 101, 102, 103, 104, 105, 106, 107, 108, 109, 110, 111, 112, 113, 114, 115, 116, 117, 118, 119, 120, 121, 122, 123, 124, 125, 126, 127, 128, 129, 130, 131, 132, 133, 134, 135, 136, 137, 138, 139, 140, 141, 142, 143, 144, 145, 146, 147, 148, 149, 150, 151, 152, 153, 154, 155, 156, 157, 158, 159, 160, 161, 162, 163, 164, 165, 166, 167] (by decide +kernel) (by decide +kernel)
set_option maxRecDepth 20000 in
theorem gX10_hinges_X10_outcomeOf : GoodIn wsX10_hinges (wsV RX10 255 RX10 yX10_outcomeOf wsX10_outcomeOf) := goodIn_app (goodIn_of _ (by decide +kernel)) ggX10_hinges_X10_outcomeOf
theorem dX10_hinges_0 : decode cX10_hinges 0 = .ok (.aload_n 0, 1) := by decide +kernel
theorem dX10_hinges_1 : decode cX10_hinges 1 = .ok (.iload_n 1, 1) := by decide +kernel
theorem dX10_hinges_2 : decode cX10_hinges 2 = .ok (.invokevirtual 216, 3) := by decide +kernel
theorem dX10_hinges_5 : decode cX10_hinges 5 = .ok (.ifCond .ne 6, 3) := by decide +kernel
theorem dX10_hinges_8 : decode cX10_hinges 8 = .ok (.bipush (-2), 2) := by decide +kernel
theorem dX10_hinges_10 : decode cX10_hinges 10 = .ok (.ireturn, 1) := by decide +kernel
theorem dX10_hinges_11 : decode cX10_hinges 11 = .ok (.aload_n 0, 1) := by decide +kernel
theorem dX10_hinges_12 : decode cX10_hinges 12 = .ok (.iload_n 1, 1) := by decide +kernel
theorem dX10_hinges_13 : decode cX10_hinges 13 = .ok (.invokevirtual 255, 3) := by decide +kernel
theorem dX10_hinges_16 : decode cX10_hinges 16 = .ok (.istore_n 2, 1) := by decide +kernel
theorem dX10_hinges_17 : decode cX10_hinges 17 = .ok (.iconst 0, 1) := by decide +kernel
theorem dX10_hinges_18 : decode cX10_hinges 18 = .ok (.istore_n 3, 1) := by decide +kernel
theorem dX10_hinges_19 : decode cX10_hinges 19 = .ok (.iconst 0, 1) := by decide +kernel
theorem dX10_hinges_20 : decode cX10_hinges 20 = .ok (.istore 4, 2) := by decide +kernel
theorem dX10_hinges_22 : decode cX10_hinges 22 = .ok (.iload 4, 2) := by decide +kernel
theorem dX10_hinges_24 : decode cX10_hinges 24 = .ok (.aload_n 0, 1) := by decide +kernel
theorem dX10_hinges_25 : decode cX10_hinges 25 = .ok (.getfield 11, 3) := by decide +kernel
theorem dX10_hinges_28 : decode cX10_hinges 28 = .ok (.bipush 60, 2) := by decide +kernel
theorem dX10_hinges_30 : decode cX10_hinges 30 = .ok (.iaload, 1) := by decide +kernel
theorem dX10_hinges_31 : decode cX10_hinges 31 = .ok (.if_icmp .ge 73, 3) := by decide +kernel
theorem dX10_hinges_34 : decode cX10_hinges 34 = .ok (.aload_n 0, 1) := by decide +kernel
theorem dX10_hinges_35 : decode cX10_hinges 35 = .ok (.getfield 11, 3) := by decide +kernel
theorem dX10_hinges_38 : decode cX10_hinges 38 = .ok (.bipush 24, 2) := by decide +kernel
theorem dX10_hinges_40 : decode cX10_hinges 40 = .ok (.iload 4, 2) := by decide +kernel
theorem dX10_hinges_42 : decode cX10_hinges 42 = .ok (.iadd, 1) := by decide +kernel
theorem dX10_hinges_43 : decode cX10_hinges 43 = .ok (.iconst 1, 1) := by decide +kernel
theorem dX10_hinges_44 : decode cX10_hinges 44 = .ok (.aload_n 0, 1) := by decide +kernel
theorem dX10_hinges_45 : decode cX10_hinges 45 = .ok (.getfield 11, 3) := by decide +kernel
theorem dX10_hinges_48 : decode cX10_hinges 48 = .ok (.bipush 24, 2) := by decide +kernel
theorem dX10_hinges_50 : decode cX10_hinges 50 = .ok (.iload 4, 2) := by decide +kernel
theorem dX10_hinges_52 : decode cX10_hinges 52 = .ok (.iadd, 1) := by decide +kernel
theorem dX10_hinges_53 : decode cX10_hinges 53 = .ok (.iaload, 1) := by decide +kernel
theorem dX10_hinges_54 : decode cX10_hinges 54 = .ok (.isub, 1) := by decide +kernel
theorem dX10_hinges_55 : decode cX10_hinges 55 = .ok (.iastore, 1) := by decide +kernel
theorem dX10_hinges_56 : decode cX10_hinges 56 = .ok (.iload_n 3, 1) := by decide +kernel
theorem dX10_hinges_57 : decode cX10_hinges 57 = .ok (.aload_n 0, 1) := by decide +kernel
theorem dX10_hinges_58 : decode cX10_hinges 58 = .ok (.iload_n 1, 1) := by decide +kernel
theorem dX10_hinges_59 : decode cX10_hinges 59 = .ok (.invokevirtual 255, 3) := by decide +kernel
theorem dX10_hinges_62 : decode cX10_hinges 62 = .ok (.iload_n 2, 1) := by decide +kernel
theorem dX10_hinges_63 : decode cX10_hinges 63 = .ok (.if_icmp .ne 7, 3) := by decide +kernel
theorem dX10_hinges_66 : decode cX10_hinges 66 = .ok (.iconst 0, 1) := by decide +kernel
theorem dX10_hinges_67 : decode cX10_hinges 67 = .ok (.goto 7, 3) := by decide +kernel
theorem dX10_hinges_70 : decode cX10_hinges 70 = .ok (.iconst 1, 1) := by decide +kernel
theorem dX10_hinges_71 : decode cX10_hinges 71 = .ok (.iload 4, 2) := by decide +kernel
theorem dX10_hinges_73 : decode cX10_hinges 73 = .ok (.ishl, 1) := by decide +kernel
theorem dX10_hinges_74 : decode cX10_hinges 74 = .ok (.ior, 1) := by decide +kernel
theorem dX10_hinges_75 : decode cX10_hinges 75 = .ok (.istore_n 3, 1) := by decide +kernel
theorem dX10_hinges_76 : decode cX10_hinges 76 = .ok (.aload_n 0, 1) := by decide +kernel
theorem dX10_hinges_77 : decode cX10_hinges 77 = .ok (.getfield 11, 3) := by decide +kernel
theorem dX10_hinges_80 : decode cX10_hinges 80 = .ok (.bipush 24, 2) := by decide +kernel
theorem dX10_hinges_82 : decode cX10_hinges 82 = .ok (.iload 4, 2) := by decide +kernel
theorem dX10_hinges_84 : decode cX10_hinges 84 = .ok (.iadd, 1) := by decide +kernel
theorem dX10_hinges_85 : decode cX10_hinges 85 = .ok (.iconst 1, 1) := by decide +kernel
theorem dX10_hinges_86 : decode cX10_hinges 86 = .ok (.aload_n 0, 1) := by decide +kernel
theorem dX10_hinges_87 : decode cX10_hinges 87 = .ok (.getfield 11, 3) := by decide +kernel
theorem dX10_hinges_90 : decode cX10_hinges 90 = .ok (.bipush 24, 2) := by decide +kernel
theorem dX10_hinges_92 : decode cX10_hinges 92 = .ok (.iload 4, 2) := by decide +kernel
theorem dX10_hinges_94 : decode cX10_hinges 94 = .ok (.iadd, 1) := by decide +kernel
theorem dX10_hinges_95 : decode cX10_hinges 95 = .ok (.iaload, 1) := by decide +kernel
theorem dX10_hinges_96 : decode cX10_hinges 96 = .ok (.isub, 1) := by decide +kernel
theorem dX10_hinges_97 : decode cX10_hinges 97 = .ok (.iastore, 1) := by decide +kernel
theorem dX10_hinges_98 : decode cX10_hinges 98 = .ok (.iinc 4 1, 3) := by decide +kernel
theorem dX10_hinges_101 : decode cX10_hinges 101 = .ok (.goto (-79), 3) := by decide +kernel
theorem dX10_hinges_104 : decode cX10_hinges 104 = .ok (.iload_n 3, 1) := by decide +kernel
theorem dX10_hinges_105 : decode cX10_hinges 105 = .ok (.ireturn, 1) := by decide +kernel
set_option maxRecDepth 20000 in
theorem ggX10_areTwo_X10_isAccount : GoodIn wsX10_areTwo wsX10_isAccount := goodIn_r _ [5, 6, 7, 8, 4, 9, 10, 11, 12, 13, 14, 15, 16, 17, 18, 19, 20, 21, 22, 23, 24, 25, 26, 27, 28, 29, 30, 31, 32, 33, 34, 35, 36, 37, 38, 39, 40, 41] (by decide +kernel) (by decide +kernel)
set_option maxRecDepth 20000 in
theorem gX10_areTwo_X10_isAccount : GoodIn wsX10_areTwo (wsV RX10 75 RX10 yX10_isAccount wsX10_isAccount) := goodIn_app (goodIn_of _ (by decide +kernel)) ggX10_areTwo_X10_isAccount
theorem dX10_areTwo_0 : decode cX10_areTwo 0 = .ok (.aload_n 0, 1) := by decide +kernel
theorem dX10_areTwo_1 : decode cX10_areTwo 1 = .ok (.iload_n 1, 1) := by decide +kernel
theorem dX10_areTwo_2 : decode cX10_areTwo 2 = .ok (.invokevirtual 75, 3) := by decide +kernel
theorem dX10_areTwo_5 : decode cX10_areTwo 5 = .ok (.ifCond .eq 20, 3) := by decide +kernel
theorem dX10_areTwo_8 : decode cX10_areTwo 8 = .ok (.aload_n 0, 1) := by decide +kernel
theorem dX10_areTwo_9 : decode cX10_areTwo 9 = .ok (.iload_n 2, 1) := by decide +kernel
theorem dX10_areTwo_10 : decode cX10_areTwo 10 = .ok (.invokevirtual 75, 3) := by decide +kernel
theorem dX10_areTwo_13 : decode cX10_areTwo 13 = .ok (.ifCond .eq 12, 3) := by decide +kernel
theorem dX10_areTwo_16 : decode cX10_areTwo 16 = .ok (.iload_n 1, 1) := by decide +kernel
theorem dX10_areTwo_17 : decode cX10_areTwo 17 = .ok (.iload_n 2, 1) := by decide +kernel
theorem dX10_areTwo_18 : decode cX10_areTwo 18 = .ok (.if_icmp .eq 7, 3) := by decide +kernel
theorem dX10_areTwo_21 : decode cX10_areTwo 21 = .ok (.iconst 1, 1) := by decide +kernel
theorem dX10_areTwo_22 : decode cX10_areTwo 22 = .ok (.goto 4, 3) := by decide +kernel
theorem dX10_areTwo_25 : decode cX10_areTwo 25 = .ok (.iconst 0, 1) := by decide +kernel
theorem dX10_areTwo_26 : decode cX10_areTwo 26 = .ok (.ireturn, 1) := by decide +kernel
set_option maxRecDepth 20000 in
theorem ggX10_owe_X10_areTwo : GoodIn wsX10_owe wsX10_areTwo := goodIn_r _ [7, 8, 9, 10, 6, 11, 2, 12, 13, 14, 19, 20, 21, 22, 23, 24, 25, 26, 27, 28, 29, 30, 31, 32, 33, 34, 35, 36, 37, 38, 39, 40, 41, 42, 43, 44, 45, 46, 47, 48, 49, 50] (by decide +kernel) (by decide +kernel)
set_option maxRecDepth 20000 in
theorem gX10_owe_X10_areTwo : GoodIn wsX10_owe (wsV RX10 258 RX10 yX10_areTwo wsX10_areTwo) := goodIn_app (goodIn_of _ (by decide +kernel)) ggX10_owe_X10_areTwo
set_option maxRecDepth 20000 in
theorem ggX10_owe_X10_isIn : GoodIn wsX10_owe wsX10_isIn := goodIn_r _ [14] (by decide +kernel) (by decide +kernel)
set_option maxRecDepth 20000 in
theorem gX10_owe_X10_isIn : GoodIn wsX10_owe (va_wsS RX10 67 yX10_isIn wsX10_isIn) := goodIn_app (goodIn_of _ (by decide +kernel)) ggX10_owe_X10_isIn
set_option maxRecDepth 20000 in
theorem ggX10_owe_X10_owedTo : GoodIn wsX10_owe wsX10_owedTo := goodIn_r _ [18, 2, 19, 20, 21, 22, 23, 24, 25, 26, 27, 28, 29, 30, 31, 32, 33, 34, 35, 36, 37, 38, 39, 40, 41, 42, 43, 44, 45, 46, 47, 48, 49, 50] (by decide +kernel) (by decide +kernel)
set_option maxRecDepth 20000 in
theorem gX10_owe_X10_owedTo : GoodIn wsX10_owe (wsV RX10 87 RX10 yX10_owedTo wsX10_owedTo) := goodIn_app (goodIn_of _ (by decide +kernel)) ggX10_owe_X10_owedTo
theorem dX10_owe_0 : decode cX10_owe 0 = .ok (.aload_n 0, 1) := by decide +kernel
theorem dX10_owe_1 : decode cX10_owe 1 = .ok (.iload_n 1, 1) := by decide +kernel
theorem dX10_owe_2 : decode cX10_owe 2 = .ok (.iload_n 2, 1) := by decide +kernel
theorem dX10_owe_3 : decode cX10_owe 3 = .ok (.invokevirtual 258, 3) := by decide +kernel
theorem dX10_owe_6 : decode cX10_owe 6 = .ok (.ifCond .eq 15, 3) := by decide +kernel
theorem dX10_owe_9 : decode cX10_owe 9 = .ok (.iload_n 3, 1) := by decide +kernel
theorem dX10_owe_10 : decode cX10_owe 10 = .ok (.i2l, 1) := by decide +kernel
theorem dX10_owe_11 : decode cX10_owe 11 = .ok (.lconst 0, 1) := by decide +kernel
theorem dX10_owe_12 : decode cX10_owe 12 = .ok (.ldc2_w 261, 3) := by decide +kernel
theorem dX10_owe_15 : decode cX10_owe 15 = .ok (.invokestatic 67, 3) := by decide +kernel
theorem dX10_owe_18 : decode cX10_owe 18 = .ok (.ifCond .ne 6, 3) := by decide +kernel
theorem dX10_owe_21 : decode cX10_owe 21 = .ok (.bipush (-2), 2) := by decide +kernel
theorem dX10_owe_23 : decode cX10_owe 23 = .ok (.ireturn, 1) := by decide +kernel
theorem dX10_owe_24 : decode cX10_owe 24 = .ok (.aload_n 0, 1) := by decide +kernel
theorem dX10_owe_25 : decode cX10_owe 25 = .ok (.iload_n 1, 1) := by decide +kernel
theorem dX10_owe_26 : decode cX10_owe 26 = .ok (.iload_n 2, 1) := by decide +kernel
theorem dX10_owe_27 : decode cX10_owe 27 = .ok (.invokevirtual 87, 3) := by decide +kernel
theorem dX10_owe_30 : decode cX10_owe 30 = .ok (.istore 4, 2) := by decide +kernel
theorem dX10_owe_32 : decode cX10_owe 32 = .ok (.aload_n 0, 1) := by decide +kernel
theorem dX10_owe_33 : decode cX10_owe 33 = .ok (.getfield 11, 3) := by decide +kernel
theorem dX10_owe_36 : decode cX10_owe 36 = .ok (.bipush 61, 2) := by decide +kernel
theorem dX10_owe_38 : decode cX10_owe 38 = .ok (.bipush 8, 2) := by decide +kernel
theorem dX10_owe_40 : decode cX10_owe 40 = .ok (.iload_n 1, 1) := by decide +kernel
theorem dX10_owe_41 : decode cX10_owe 41 = .ok (.imul, 1) := by decide +kernel
theorem dX10_owe_42 : decode cX10_owe 42 = .ok (.iadd, 1) := by decide +kernel
theorem dX10_owe_43 : decode cX10_owe 43 = .ok (.iload_n 2, 1) := by decide +kernel
theorem dX10_owe_44 : decode cX10_owe 44 = .ok (.iadd, 1) := by decide +kernel
theorem dX10_owe_45 : decode cX10_owe 45 = .ok (.iload_n 3, 1) := by decide +kernel
theorem dX10_owe_46 : decode cX10_owe 46 = .ok (.iastore, 1) := by decide +kernel
theorem dX10_owe_47 : decode cX10_owe 47 = .ok (.iload 4, 2) := by decide +kernel
theorem dX10_owe_49 : decode cX10_owe 49 = .ok (.ireturn, 1) := by decide +kernel
set_option maxRecDepth 20000 in
theorem ggX10_owed_X10_areTwo : GoodIn wsX10_owed wsX10_areTwo := goodIn_r _ [5, 6, 7, 8, 4, 9, 10, 11, 12, 13, 18, 19, 20, 21, 22, 23, 24, 25, 26, 27, 28, 29, 30, 31, 32, 33, 34, 35, 36, 37, 38, 39, 40, 41, 42, 43, 44, 45, 46, 47, 48, 49] (by decide +kernel) (by decide +kernel)
set_option maxRecDepth 20000 in
theorem gX10_owed_X10_areTwo : GoodIn wsX10_owed (wsV RX10 258 RX10 yX10_areTwo wsX10_areTwo) := goodIn_app (goodIn_of _ (by decide +kernel)) ggX10_owed_X10_areTwo
set_option maxRecDepth 20000 in
theorem ggX10_owed_X10_owedTo : GoodIn wsX10_owed wsX10_owedTo := goodIn_r _ [17, 10, 18, 19, 20, 21, 22, 23, 24, 25, 26, 27, 28, 29, 30, 31, 32, 33, 34, 35, 36, 37, 38, 39, 40, 41, 42, 43, 44, 45, 46, 47, 48, 49] (by decide +kernel) (by decide +kernel)
set_option maxRecDepth 20000 in
theorem gX10_owed_X10_owedTo : GoodIn wsX10_owed (wsV RX10 87 RX10 yX10_owedTo wsX10_owedTo) := goodIn_app (goodIn_of _ (by decide +kernel)) ggX10_owed_X10_owedTo
theorem dX10_owed_0 : decode cX10_owed 0 = .ok (.aload_n 0, 1) := by decide +kernel
theorem dX10_owed_1 : decode cX10_owed 1 = .ok (.iload_n 1, 1) := by decide +kernel
theorem dX10_owed_2 : decode cX10_owed 2 = .ok (.iload_n 2, 1) := by decide +kernel
theorem dX10_owed_3 : decode cX10_owed 3 = .ok (.invokevirtual 258, 3) := by decide +kernel
theorem dX10_owed_6 : decode cX10_owed 6 = .ok (.ifCond .eq 12, 3) := by decide +kernel
theorem dX10_owed_9 : decode cX10_owed 9 = .ok (.aload_n 0, 1) := by decide +kernel
theorem dX10_owed_10 : decode cX10_owed 10 = .ok (.iload_n 1, 1) := by decide +kernel
theorem dX10_owed_11 : decode cX10_owed 11 = .ok (.iload_n 2, 1) := by decide +kernel
theorem dX10_owed_12 : decode cX10_owed 12 = .ok (.invokevirtual 87, 3) := by decide +kernel
theorem dX10_owed_15 : decode cX10_owed 15 = .ok (.goto 5, 3) := by decide +kernel
theorem dX10_owed_18 : decode cX10_owed 18 = .ok (.bipush (-2), 2) := by decide +kernel
theorem dX10_owed_20 : decode cX10_owed 20 = .ok (.ireturn, 1) := by decide +kernel
set_option maxRecDepth 20000 in
theorem ggX10_ringFrom_X10_owedTo : GoodIn wsX10_ringFrom wsX10_owedTo := goodIn_r _ [7, 2, 11, 12, 13, 14, 15, 16, 17, 18, 19, 20, 21, 22, 23, 24, 25, 26, 27, 28, 29, 30, 31, 32, 33, 34, 35, 36, 37, 38, 39, 40, 41, 42] (by decide +kernel) (by decide +kernel)
set_option maxRecDepth 20000 in
theorem gX10_ringFrom_X10_owedTo : GoodIn wsX10_ringFrom (wsV RX10 87 RX10 yX10_owedTo wsX10_owedTo) := goodIn_app (goodIn_of _ (by decide +kernel)) ggX10_ringFrom_X10_owedTo
set_option maxRecDepth 20000 in
theorem ggX10_ringFrom_X10_ringFrom : GoodIn wsX10_ringFrom wsX10_ringFrom := goodIn_r _ [0, 1, 2, 3, 4, 5, 6, 7, 8, 9, 10, 11, 12, 13, 14, 15, 16, 17, 18, 19, 20, 21, 22, 23, 24, 25, 26, 27, 28, 29, 30, 31, 32, 33, 34, 35, 36, 37, 38, 39, 40, 41, 42] (by decide +kernel) (by decide +kernel)
set_option maxRecDepth 20000 in
theorem gX10_ringFrom_X10_ringFrom : GoodIn wsX10_ringFrom (wsV RX10 263 RX10 yX10_ringFrom wsX10_ringFrom) := goodIn_app (goodIn_of _ (by decide +kernel)) ggX10_ringFrom_X10_ringFrom
theorem dX10_ringFrom_0 : decode cX10_ringFrom 0 = .ok (.aload_n 0, 1) := by decide +kernel
theorem dX10_ringFrom_1 : decode cX10_ringFrom 1 = .ok (.getfield 52, 3) := by decide +kernel
theorem dX10_ringFrom_4 : decode cX10_ringFrom 4 = .ok (.iload_n 1, 1) := by decide +kernel
theorem dX10_ringFrom_5 : decode cX10_ringFrom 5 = .ok (.iconst 1, 1) := by decide +kernel
theorem dX10_ringFrom_6 : decode cX10_ringFrom 6 = .ok (.isub, 1) := by decide +kernel
theorem dX10_ringFrom_7 : decode cX10_ringFrom 7 = .ok (.iaload, 1) := by decide +kernel
theorem dX10_ringFrom_8 : decode cX10_ringFrom 8 = .ok (.istore_n 3, 1) := by decide +kernel
theorem dX10_ringFrom_9 : decode cX10_ringFrom 9 = .ok (.iload_n 1, 1) := by decide +kernel
theorem dX10_ringFrom_10 : decode cX10_ringFrom 10 = .ok (.iconst 1, 1) := by decide +kernel
theorem dX10_ringFrom_11 : decode cX10_ringFrom 11 = .ok (.if_icmp .le 19, 3) := by decide +kernel
theorem dX10_ringFrom_14 : decode cX10_ringFrom 14 = .ok (.aload_n 0, 1) := by decide +kernel
theorem dX10_ringFrom_15 : decode cX10_ringFrom 15 = .ok (.iload_n 3, 1) := by decide +kernel
theorem dX10_ringFrom_16 : decode cX10_ringFrom 16 = .ok (.aload_n 0, 1) := by decide +kernel
theorem dX10_ringFrom_17 : decode cX10_ringFrom 17 = .ok (.getfield 52, 3) := by decide +kernel
theorem dX10_ringFrom_20 : decode cX10_ringFrom 20 = .ok (.iconst 0, 1) := by decide +kernel
theorem dX10_ringFrom_21 : decode cX10_ringFrom 21 = .ok (.iaload, 1) := by decide +kernel
theorem dX10_ringFrom_22 : decode cX10_ringFrom 22 = .ok (.invokevirtual 87, 3) := by decide +kernel
theorem dX10_ringFrom_25 : decode cX10_ringFrom 25 = .ok (.ifCond .le 5, 3) := by decide +kernel
theorem dX10_ringFrom_28 : decode cX10_ringFrom 28 = .ok (.iload_n 1, 1) := by decide +kernel
theorem dX10_ringFrom_29 : decode cX10_ringFrom 29 = .ok (.ireturn, 1) := by decide +kernel
theorem dX10_ringFrom_30 : decode cX10_ringFrom 30 = .ok (.iconst 0, 1) := by decide +kernel
theorem dX10_ringFrom_31 : decode cX10_ringFrom 31 = .ok (.istore 4, 2) := by decide +kernel
theorem dX10_ringFrom_33 : decode cX10_ringFrom 33 = .ok (.iload 4, 2) := by decide +kernel
theorem dX10_ringFrom_35 : decode cX10_ringFrom 35 = .ok (.aload_n 0, 1) := by decide +kernel
theorem dX10_ringFrom_36 : decode cX10_ringFrom 36 = .ok (.getfield 11, 3) := by decide +kernel
theorem dX10_ringFrom_39 : decode cX10_ringFrom 39 = .ok (.bipush 60, 2) := by decide +kernel
theorem dX10_ringFrom_41 : decode cX10_ringFrom 41 = .ok (.iaload, 1) := by decide +kernel
theorem dX10_ringFrom_42 : decode cX10_ringFrom 42 = .ok (.if_icmp .ge 59, 3) := by decide +kernel
theorem dX10_ringFrom_45 : decode cX10_ringFrom 45 = .ok (.iload_n 2, 1) := by decide +kernel
theorem dX10_ringFrom_46 : decode cX10_ringFrom 46 = .ok (.iload 4, 2) := by decide +kernel
theorem dX10_ringFrom_48 : decode cX10_ringFrom 48 = .ok (.ishr, 1) := by decide +kernel
theorem dX10_ringFrom_49 : decode cX10_ringFrom 49 = .ok (.iconst 1, 1) := by decide +kernel
theorem dX10_ringFrom_50 : decode cX10_ringFrom 50 = .ok (.iand, 1) := by decide +kernel
theorem dX10_ringFrom_51 : decode cX10_ringFrom 51 = .ok (.ifCond .ne 44, 3) := by decide +kernel
theorem dX10_ringFrom_54 : decode cX10_ringFrom 54 = .ok (.aload_n 0, 1) := by decide +kernel
theorem dX10_ringFrom_55 : decode cX10_ringFrom 55 = .ok (.iload_n 3, 1) := by decide +kernel
theorem dX10_ringFrom_56 : decode cX10_ringFrom 56 = .ok (.iload 4, 2) := by decide +kernel
theorem dX10_ringFrom_58 : decode cX10_ringFrom 58 = .ok (.invokevirtual 87, 3) := by decide +kernel
theorem dX10_ringFrom_61 : decode cX10_ringFrom 61 = .ok (.ifCond .le 34, 3) := by decide +kernel
theorem dX10_ringFrom_64 : decode cX10_ringFrom 64 = .ok (.aload_n 0, 1) := by decide +kernel
theorem dX10_ringFrom_65 : decode cX10_ringFrom 65 = .ok (.getfield 52, 3) := by decide +kernel
theorem dX10_ringFrom_68 : decode cX10_ringFrom 68 = .ok (.iload_n 1, 1) := by decide +kernel
theorem dX10_ringFrom_69 : decode cX10_ringFrom 69 = .ok (.iload 4, 2) := by decide +kernel
theorem dX10_ringFrom_71 : decode cX10_ringFrom 71 = .ok (.iastore, 1) := by decide +kernel
theorem dX10_ringFrom_72 : decode cX10_ringFrom 72 = .ok (.aload_n 0, 1) := by decide +kernel
theorem dX10_ringFrom_73 : decode cX10_ringFrom 73 = .ok (.iload_n 1, 1) := by decide +kernel
theorem dX10_ringFrom_74 : decode cX10_ringFrom 74 = .ok (.iconst 1, 1) := by decide +kernel
theorem dX10_ringFrom_75 : decode cX10_ringFrom 75 = .ok (.iadd, 1) := by decide +kernel
theorem dX10_ringFrom_76 : decode cX10_ringFrom 76 = .ok (.iload_n 2, 1) := by decide +kernel
theorem dX10_ringFrom_77 : decode cX10_ringFrom 77 = .ok (.iconst 1, 1) := by decide +kernel
theorem dX10_ringFrom_78 : decode cX10_ringFrom 78 = .ok (.iload 4, 2) := by decide +kernel
theorem dX10_ringFrom_80 : decode cX10_ringFrom 80 = .ok (.ishl, 1) := by decide +kernel
theorem dX10_ringFrom_81 : decode cX10_ringFrom 81 = .ok (.ior, 1) := by decide +kernel
theorem dX10_ringFrom_82 : decode cX10_ringFrom 82 = .ok (.invokevirtual 263, 3) := by decide +kernel
theorem dX10_ringFrom_85 : decode cX10_ringFrom 85 = .ok (.istore 5, 2) := by decide +kernel
theorem dX10_ringFrom_87 : decode cX10_ringFrom 87 = .ok (.iload 5, 2) := by decide +kernel
theorem dX10_ringFrom_89 : decode cX10_ringFrom 89 = .ok (.ifCond .le 6, 3) := by decide +kernel
theorem dX10_ringFrom_92 : decode cX10_ringFrom 92 = .ok (.iload 5, 2) := by decide +kernel
theorem dX10_ringFrom_94 : decode cX10_ringFrom 94 = .ok (.ireturn, 1) := by decide +kernel
theorem dX10_ringFrom_95 : decode cX10_ringFrom 95 = .ok (.iinc 4 1, 3) := by decide +kernel
theorem dX10_ringFrom_98 : decode cX10_ringFrom 98 = .ok (.goto (-65), 3) := by decide +kernel
theorem dX10_ringFrom_101 : decode cX10_ringFrom 101 = .ok (.iconst 0, 1) := by decide +kernel
theorem dX10_ringFrom_102 : decode cX10_ringFrom 102 = .ok (.ireturn, 1) := by decide +kernel
set_option maxRecDepth 20000 in
theorem ggX10_firstRing_X10_ringFrom : GoodIn wsX10_firstRing wsX10_ringFrom := goodIn_r _ [7, 2, 1, 8, 9, 10, 6, 11, 3, 4, 5, 12, 13, 14, 15, 16, 17, 18, 19, 20, 21, 22, 23, 24, 25, 26, 27, 28, 29, 30, 31, 32, 33, 34, 35, 36, 37, 38, 39, 40, 41, 42, 43] (by decide +kernel) (by decide +kernel)
set_option maxRecDepth 20000 in
theorem gX10_firstRing_X10_ringFrom : GoodIn wsX10_firstRing (wsV RX10 263 RX10 yX10_ringFrom wsX10_ringFrom) := goodIn_app (goodIn_of _ (by decide +kernel)) ggX10_firstRing_X10_ringFrom
theorem dX10_firstRing_0 : decode cX10_firstRing 0 = .ok (.iconst 0, 1) := by decide +kernel
theorem dX10_firstRing_1 : decode cX10_firstRing 1 = .ok (.istore_n 1, 1) := by decide +kernel
theorem dX10_firstRing_2 : decode cX10_firstRing 2 = .ok (.iload_n 1, 1) := by decide +kernel
theorem dX10_firstRing_3 : decode cX10_firstRing 3 = .ok (.aload_n 0, 1) := by decide +kernel
theorem dX10_firstRing_4 : decode cX10_firstRing 4 = .ok (.getfield 11, 3) := by decide +kernel
theorem dX10_firstRing_7 : decode cX10_firstRing 7 = .ok (.bipush 60, 2) := by decide +kernel
theorem dX10_firstRing_9 : decode cX10_firstRing 9 = .ok (.iaload, 1) := by decide +kernel
theorem dX10_firstRing_10 : decode cX10_firstRing 10 = .ok (.if_icmp .ge 31, 3) := by decide +kernel
theorem dX10_firstRing_13 : decode cX10_firstRing 13 = .ok (.aload_n 0, 1) := by decide +kernel
theorem dX10_firstRing_14 : decode cX10_firstRing 14 = .ok (.getfield 52, 3) := by decide +kernel
theorem dX10_firstRing_17 : decode cX10_firstRing 17 = .ok (.iconst 0, 1) := by decide +kernel
theorem dX10_firstRing_18 : decode cX10_firstRing 18 = .ok (.iload_n 1, 1) := by decide +kernel
theorem dX10_firstRing_19 : decode cX10_firstRing 19 = .ok (.iastore, 1) := by decide +kernel
theorem dX10_firstRing_20 : decode cX10_firstRing 20 = .ok (.aload_n 0, 1) := by decide +kernel
theorem dX10_firstRing_21 : decode cX10_firstRing 21 = .ok (.iconst 1, 1) := by decide +kernel
theorem dX10_firstRing_22 : decode cX10_firstRing 22 = .ok (.iconst 1, 1) := by decide +kernel
theorem dX10_firstRing_23 : decode cX10_firstRing 23 = .ok (.iload_n 1, 1) := by decide +kernel
theorem dX10_firstRing_24 : decode cX10_firstRing 24 = .ok (.ishl, 1) := by decide +kernel
theorem dX10_firstRing_25 : decode cX10_firstRing 25 = .ok (.invokevirtual 263, 3) := by decide +kernel
theorem dX10_firstRing_28 : decode cX10_firstRing 28 = .ok (.istore_n 2, 1) := by decide +kernel
theorem dX10_firstRing_29 : decode cX10_firstRing 29 = .ok (.iload_n 2, 1) := by decide +kernel
theorem dX10_firstRing_30 : decode cX10_firstRing 30 = .ok (.ifCond .le 5, 3) := by decide +kernel
theorem dX10_firstRing_33 : decode cX10_firstRing 33 = .ok (.iload_n 2, 1) := by decide +kernel
theorem dX10_firstRing_34 : decode cX10_firstRing 34 = .ok (.ireturn, 1) := by decide +kernel
theorem dX10_firstRing_35 : decode cX10_firstRing 35 = .ok (.iinc 1 1, 3) := by decide +kernel
theorem dX10_firstRing_38 : decode cX10_firstRing 38 = .ok (.goto (-36), 3) := by decide +kernel
theorem dX10_firstRing_41 : decode cX10_firstRing 41 = .ok (.iconst 0, 1) := by decide +kernel
theorem dX10_firstRing_42 : decode cX10_firstRing 42 = .ok (.ireturn, 1) := by decide +kernel
set_option maxRecDepth 20000 in
theorem ggX10_net_X10_firstRing : GoodIn wsX10_net wsX10_firstRing := goodIn_r _ [12, 1, 3, 13, 14, 15, 11, 16, 17, 18, 19, 20, 21, 22, 23, 24, 25, 26, 27, 28, 29, 30, 31, 32, 33, 34, 35, 36, 37, 38, 39, 40, 41, 42, 43, 44, 45, 46, 47, 48, 49, 50, 51, 52] (by decide +kernel) (by decide +kernel)
set_option maxRecDepth 20000 in
theorem gX10_net_X10_firstRing : GoodIn wsX10_net (wsV RX10 266 RX10 yX10_firstRing wsX10_firstRing) := goodIn_app (goodIn_of _ (by decide +kernel)) ggX10_net_X10_firstRing
set_option maxRecDepth 20000 in
theorem ggX10_net_X10_owedTo : GoodIn wsX10_net wsX10_owedTo := goodIn_r _ [20, 1, 21, 22, 23, 24, 25, 26, 27, 28, 29, 30, 31, 32, 33, 34, 35, 36, 37, 38, 39, 40, 41, 42, 43, 44, 45, 46, 47, 48, 49, 50, 51, 52] (by decide +kernel) (by decide +kernel)
set_option maxRecDepth 20000 in
theorem gX10_net_X10_owedTo : GoodIn wsX10_net (wsV RX10 87 RX10 yX10_owedTo wsX10_owedTo) := goodIn_app (goodIn_of _ (by decide +kernel)) ggX10_net_X10_owedTo
theorem dX10_net_0 : decode cX10_net 0 = .ok (.iconst 0, 1) := by decide +kernel
theorem dX10_net_1 : decode cX10_net 1 = .ok (.istore_n 1, 1) := by decide +kernel
theorem dX10_net_2 : decode cX10_net 2 = .ok (.iload_n 1, 1) := by decide +kernel
theorem dX10_net_3 : decode cX10_net 3 = .ok (.aload_n 0, 1) := by decide +kernel
theorem dX10_net_4 : decode cX10_net 4 = .ok (.getfield 11, 3) := by decide +kernel
theorem dX10_net_7 : decode cX10_net 7 = .ok (.bipush 60, 2) := by decide +kernel
theorem dX10_net_9 : decode cX10_net 9 = .ok (.iaload, 1) := by decide +kernel
theorem dX10_net_10 : decode cX10_net 10 = .ok (.if_icmp .ge 24, 3) := by decide +kernel
theorem dX10_net_13 : decode cX10_net 13 = .ok (.aload_n 0, 1) := by decide +kernel
theorem dX10_net_14 : decode cX10_net 14 = .ok (.getfield 11, 3) := by decide +kernel
theorem dX10_net_17 : decode cX10_net 17 = .ok (.bipush 24, 2) := by decide +kernel
theorem dX10_net_19 : decode cX10_net 19 = .ok (.iload_n 1, 1) := by decide +kernel
theorem dX10_net_20 : decode cX10_net 20 = .ok (.iadd, 1) := by decide +kernel
theorem dX10_net_21 : decode cX10_net 21 = .ok (.iaload, 1) := by decide +kernel
theorem dX10_net_22 : decode cX10_net 22 = .ok (.ifCond .ne 6, 3) := by decide +kernel
theorem dX10_net_25 : decode cX10_net 25 = .ok (.bipush (-3), 2) := by decide +kernel
theorem dX10_net_27 : decode cX10_net 27 = .ok (.ireturn, 1) := by decide +kernel
theorem dX10_net_28 : decode cX10_net 28 = .ok (.iinc 1 1, 3) := by decide +kernel
theorem dX10_net_31 : decode cX10_net 31 = .ok (.goto (-29), 3) := by decide +kernel
theorem dX10_net_34 : decode cX10_net 34 = .ok (.iconst 0, 1) := by decide +kernel
theorem dX10_net_35 : decode cX10_net 35 = .ok (.istore_n 1, 1) := by decide +kernel
theorem dX10_net_36 : decode cX10_net 36 = .ok (.iload_n 1, 1) := by decide +kernel
theorem dX10_net_37 : decode cX10_net 37 = .ok (.aload_n 0, 1) := by decide +kernel
theorem dX10_net_38 : decode cX10_net 38 = .ok (.getfield 11, 3) := by decide +kernel
theorem dX10_net_41 : decode cX10_net 41 = .ok (.bipush 60, 2) := by decide +kernel
theorem dX10_net_43 : decode cX10_net 43 = .ok (.iaload, 1) := by decide +kernel
theorem dX10_net_44 : decode cX10_net 44 = .ok (.if_icmp .ge 35, 3) := by decide +kernel
theorem dX10_net_47 : decode cX10_net 47 = .ok (.aload_n 0, 1) := by decide +kernel
theorem dX10_net_48 : decode cX10_net 48 = .ok (.getfield 11, 3) := by decide +kernel
theorem dX10_net_51 : decode cX10_net 51 = .ok (.bipush 32, 2) := by decide +kernel
theorem dX10_net_53 : decode cX10_net 53 = .ok (.iload_n 1, 1) := by decide +kernel
theorem dX10_net_54 : decode cX10_net 54 = .ok (.iadd, 1) := by decide +kernel
theorem dX10_net_55 : decode cX10_net 55 = .ok (.dup2, 1) := by decide +kernel
theorem dX10_net_56 : decode cX10_net 56 = .ok (.iaload, 1) := by decide +kernel
theorem dX10_net_57 : decode cX10_net 57 = .ok (.iconst 1, 1) := by decide +kernel
theorem dX10_net_58 : decode cX10_net 58 = .ok (.iadd, 1) := by decide +kernel
theorem dX10_net_59 : decode cX10_net 59 = .ok (.iastore, 1) := by decide +kernel
theorem dX10_net_60 : decode cX10_net 60 = .ok (.aload_n 0, 1) := by decide +kernel
theorem dX10_net_61 : decode cX10_net 61 = .ok (.getfield 11, 3) := by decide +kernel
theorem dX10_net_64 : decode cX10_net 64 = .ok (.bipush 40, 2) := by decide +kernel
theorem dX10_net_66 : decode cX10_net 66 = .ok (.iload_n 1, 1) := by decide +kernel
theorem dX10_net_67 : decode cX10_net 67 = .ok (.iadd, 1) := by decide +kernel
theorem dX10_net_68 : decode cX10_net 68 = .ok (.dup2, 1) := by decide +kernel
theorem dX10_net_69 : decode cX10_net 69 = .ok (.iaload, 1) := by decide +kernel
theorem dX10_net_70 : decode cX10_net 70 = .ok (.iconst 1, 1) := by decide +kernel
theorem dX10_net_71 : decode cX10_net 71 = .ok (.iadd, 1) := by decide +kernel
theorem dX10_net_72 : decode cX10_net 72 = .ok (.iastore, 1) := by decide +kernel
theorem dX10_net_73 : decode cX10_net 73 = .ok (.iinc 1 1, 3) := by decide +kernel
theorem dX10_net_76 : decode cX10_net 76 = .ok (.goto (-40), 3) := by decide +kernel
theorem dX10_net_79 : decode cX10_net 79 = .ok (.iconst 0, 1) := by decide +kernel
theorem dX10_net_80 : decode cX10_net 80 = .ok (.istore_n 1, 1) := by decide +kernel
theorem dX10_net_81 : decode cX10_net 81 = .ok (.aload_n 0, 1) := by decide +kernel
theorem dX10_net_82 : decode cX10_net 82 = .ok (.invokevirtual 266, 3) := by decide +kernel
theorem dX10_net_85 : decode cX10_net 85 = .ok (.istore_n 2, 1) := by decide +kernel
theorem dX10_net_86 : decode cX10_net 86 = .ok (.iload_n 2, 1) := by decide +kernel
theorem dX10_net_87 : decode cX10_net 87 = .ok (.ifCond .le 109, 3) := by decide +kernel
theorem dX10_net_90 : decode cX10_net 90 = .ok (.ldc_w 269, 3) := by decide +kernel
theorem dX10_net_93 : decode cX10_net 93 = .ok (.istore_n 3, 1) := by decide +kernel
theorem dX10_net_94 : decode cX10_net 94 = .ok (.iconst 0, 1) := by decide +kernel
theorem dX10_net_95 : decode cX10_net 95 = .ok (.istore 4, 2) := by decide +kernel
theorem dX10_net_97 : decode cX10_net 97 = .ok (.iload 4, 2) := by decide +kernel
theorem dX10_net_99 : decode cX10_net 99 = .ok (.iload_n 2, 1) := by decide +kernel
theorem dX10_net_100 : decode cX10_net 100 = .ok (.if_icmp .ge 36, 3) := by decide +kernel
theorem dX10_net_103 : decode cX10_net 103 = .ok (.iload_n 3, 1) := by decide +kernel
theorem dX10_net_104 : decode cX10_net 104 = .ok (.aload_n 0, 1) := by decide +kernel
theorem dX10_net_105 : decode cX10_net 105 = .ok (.aload_n 0, 1) := by decide +kernel
theorem dX10_net_106 : decode cX10_net 106 = .ok (.getfield 52, 3) := by decide +kernel
theorem dX10_net_109 : decode cX10_net 109 = .ok (.iload 4, 2) := by decide +kernel
theorem dX10_net_111 : decode cX10_net 111 = .ok (.iaload, 1) := by decide +kernel
theorem dX10_net_112 : decode cX10_net 112 = .ok (.aload_n 0, 1) := by decide +kernel
theorem dX10_net_113 : decode cX10_net 113 = .ok (.getfield 52, 3) := by decide +kernel
theorem dX10_net_116 : decode cX10_net 116 = .ok (.iload 4, 2) := by decide +kernel
theorem dX10_net_118 : decode cX10_net 118 = .ok (.iconst 1, 1) := by decide +kernel
theorem dX10_net_119 : decode cX10_net 119 = .ok (.iadd, 1) := by decide +kernel
theorem dX10_net_120 : decode cX10_net 120 = .ok (.iload_n 2, 1) := by decide +kernel
theorem dX10_net_121 : decode cX10_net 121 = .ok (.irem, 1) := by decide +kernel
theorem dX10_net_122 : decode cX10_net 122 = .ok (.iaload, 1) := by decide +kernel
theorem dX10_net_123 : decode cX10_net 123 = .ok (.invokevirtual 87, 3) := by decide +kernel
theorem dX10_net_126 : decode cX10_net 126 = .ok (.invokestatic 222, 3) := by decide +kernel
theorem dX10_net_129 : decode cX10_net 129 = .ok (.istore_n 3, 1) := by decide +kernel
theorem dX10_net_130 : decode cX10_net 130 = .ok (.iinc 4 1, 3) := by decide +kernel
theorem dX10_net_133 : decode cX10_net 133 = .ok (.goto (-36), 3) := by decide +kernel
theorem dX10_net_136 : decode cX10_net 136 = .ok (.iconst 0, 1) := by decide +kernel
theorem dX10_net_137 : decode cX10_net 137 = .ok (.istore 4, 2) := by decide +kernel
theorem dX10_net_139 : decode cX10_net 139 = .ok (.iload 4, 2) := by decide +kernel
theorem dX10_net_141 : decode cX10_net 141 = .ok (.iload_n 2, 1) := by decide +kernel
theorem dX10_net_142 : decode cX10_net 142 = .ok (.if_icmp .ge 43, 3) := by decide +kernel
theorem dX10_net_145 : decode cX10_net 145 = .ok (.aload_n 0, 1) := by decide +kernel
theorem dX10_net_146 : decode cX10_net 146 = .ok (.getfield 11, 3) := by decide +kernel
theorem dX10_net_149 : decode cX10_net 149 = .ok (.bipush 61, 2) := by decide +kernel
theorem dX10_net_151 : decode cX10_net 151 = .ok (.bipush 8, 2) := by decide +kernel
theorem dX10_net_153 : decode cX10_net 153 = .ok (.aload_n 0, 1) := by decide +kernel
theorem dX10_net_154 : decode cX10_net 154 = .ok (.getfield 52, 3) := by decide +kernel
theorem dX10_net_157 : decode cX10_net 157 = .ok (.iload 4, 2) := by decide +kernel
theorem dX10_net_159 : decode cX10_net 159 = .ok (.iaload, 1) := by decide +kernel
theorem dX10_net_160 : decode cX10_net 160 = .ok (.imul, 1) := by decide +kernel
theorem dX10_net_161 : decode cX10_net 161 = .ok (.iadd, 1) := by decide +kernel
theorem dX10_net_162 : decode cX10_net 162 = .ok (.aload_n 0, 1) := by decide +kernel
theorem dX10_net_163 : decode cX10_net 163 = .ok (.getfield 52, 3) := by decide +kernel
theorem dX10_net_166 : decode cX10_net 166 = .ok (.iload 4, 2) := by decide +kernel
theorem dX10_net_168 : decode cX10_net 168 = .ok (.iconst 1, 1) := by decide +kernel
theorem dX10_net_169 : decode cX10_net 169 = .ok (.iadd, 1) := by decide +kernel
theorem dX10_net_170 : decode cX10_net 170 = .ok (.iload_n 2, 1) := by decide +kernel
theorem dX10_net_171 : decode cX10_net 171 = .ok (.irem, 1) := by decide +kernel
theorem dX10_net_172 : decode cX10_net 172 = .ok (.iaload, 1) := by decide +kernel
theorem dX10_net_173 : decode cX10_net 173 = .ok (.iadd, 1) := by decide +kernel
theorem dX10_net_174 : decode cX10_net 174 = .ok (.dup2, 1) := by decide +kernel
theorem dX10_net_175 : decode cX10_net 175 = .ok (.iaload, 1) := by decide +kernel
theorem dX10_net_176 : decode cX10_net 176 = .ok (.iload_n 3, 1) := by decide +kernel
theorem dX10_net_177 : decode cX10_net 177 = .ok (.isub, 1) := by decide +kernel
theorem dX10_net_178 : decode cX10_net 178 = .ok (.iastore, 1) := by decide +kernel
theorem dX10_net_179 : decode cX10_net 179 = .ok (.iinc 4 1, 3) := by decide +kernel
theorem dX10_net_182 : decode cX10_net 182 = .ok (.goto (-43), 3) := by decide +kernel
theorem dX10_net_185 : decode cX10_net 185 = .ok (.iinc 1 1, 3) := by decide +kernel
theorem dX10_net_188 : decode cX10_net 188 = .ok (.aload_n 0, 1) := by decide +kernel
theorem dX10_net_189 : decode cX10_net 189 = .ok (.invokevirtual 266, 3) := by decide +kernel
theorem dX10_net_192 : decode cX10_net 192 = .ok (.istore_n 2, 1) := by decide +kernel
theorem dX10_net_193 : decode cX10_net 193 = .ok (.goto (-107), 3) := by decide +kernel
theorem dX10_net_196 : decode cX10_net 196 = .ok (.iload_n 1, 1) := by decide +kernel
theorem dX10_net_197 : decode cX10_net 197 = .ok (.ireturn, 1) := by decide +kernel
set_option maxRecDepth 20000 in
theorem ggX10_isSheet_X10_isIn : GoodIn wsX10_isSheet wsX10_isIn := goodIn_r _ [5] (by decide +kernel) (by decide +kernel)
set_option maxRecDepth 20000 in
theorem gX10_isSheet_X10_isIn : GoodIn wsX10_isSheet (va_wsS RX10 67 yX10_isIn wsX10_isIn) := goodIn_app (goodIn_of _ (by decide +kernel)) ggX10_isSheet_X10_isIn
theorem dX10_isSheet_0 : decode cX10_isSheet 0 = .ok (.iload_n 0, 1) := by decide +kernel
theorem dX10_isSheet_1 : decode cX10_isSheet 1 = .ok (.i2l, 1) := by decide +kernel
theorem dX10_isSheet_2 : decode cX10_isSheet 2 = .ok (.lconst 0, 1) := by decide +kernel
theorem dX10_isSheet_3 : decode cX10_isSheet 3 = .ok (.ldc2_w 236, 3) := by decide +kernel
theorem dX10_isSheet_6 : decode cX10_isSheet 6 = .ok (.invokestatic 67, 3) := by decide +kernel
theorem dX10_isSheet_9 : decode cX10_isSheet 9 = .ok (.ireturn, 1) := by decide +kernel
theorem dX10_itemOf_0 : decode cX10_itemOf 0 = .ok (.aload_n 0, 1) := by decide +kernel
theorem dX10_itemOf_1 : decode cX10_itemOf 1 = .ok (.getfield 61, 3) := by decide +kernel
theorem dX10_itemOf_4 : decode cX10_itemOf 4 = .ok (.bipush 60, 2) := by decide +kernel
theorem dX10_itemOf_6 : decode cX10_itemOf 6 = .ok (.iload_n 1, 1) := by decide +kernel
theorem dX10_itemOf_7 : decode cX10_itemOf 7 = .ok (.imul, 1) := by decide +kernel
theorem dX10_itemOf_8 : decode cX10_itemOf 8 = .ok (.iload_n 2, 1) := by decide +kernel
theorem dX10_itemOf_9 : decode cX10_itemOf 9 = .ok (.iadd, 1) := by decide +kernel
theorem dX10_itemOf_10 : decode cX10_itemOf 10 = .ok (.iaload, 1) := by decide +kernel
theorem dX10_itemOf_11 : decode cX10_itemOf 11 = .ok (.ireturn, 1) := by decide +kernel
set_option maxRecDepth 20000 in
theorem ggX10_otherIn_X10_thinks : GoodIn wsX10_otherIn wsX10_thinks := goodIn_r _ [12, 13, 14, 15, 16, 17, 18, 19, 20, 126, 127, 128, 129, 130, 131, 132, 133, 134, 135, 136, 137, 138, 139, 140, 141, 142, 143, 144, 145, 146, 147, 148, 149, 150, 151, 152, 153, 154, 155, 156, 157] (by decide +kernel) (by decide +kernel)
set_option maxRecDepth 20000 in
theorem gX10_otherIn_X10_thinks : GoodIn wsX10_otherIn (wsV RX10 244 RX10 yX10_thinks wsX10_thinks) := goodIn_app (goodIn_of _ (by decide +kernel)) ggX10_otherIn_X10_thinks
set_option maxRecDepth 20000 in
theorem ggX10_otherIn_X10_runs : GoodIn wsX10_otherIn wsX10_runs := goodIn_r _ [24, 25, 26, 1, 27, 28, 29, 30, 31, 11, 32, 33, 13, 34, 19, 35, 36, 37, 38, 39, 40, 41, 42, 43, 44, 45, 46, 47, 48, 49, 50, 51, 52, 53, 54, 55, 56, 57, 58, 59, 60, 61, 62, 63, 64, 65, 66, 67, 68, 69, 70, 71, 72, 73, 74, 75, 76, 77, 78, 79, 80, 81, 7, 82, 83, 84, 85, 86, 87, 88, 89, 90, 91, 92, 93, 94, 95, 96, 97, 98, 99, 100, 101, 102, 103, 104, 105, 106, 107, 108, 109, 110, 111, 112, 113, 114, 115, 116, 126, 127, 128, 129, 130, 131, 132, 133, 134, 135, 136, 137, 138, 139, 140, 141, 142, 143, 144, 145, 146, 147, 148, 149, 150, 151, 152, 153, 154, 155, 156, 157] (by decide +kernel) (by decide +kernel)
set_option maxRecDepth 20000 in
theorem gX10_otherIn_X10_runs : GoodIn wsX10_otherIn (wsV RX10 219 RX10 yX10_runs wsX10_runs) := goodIn_app (goodIn_of _ (by decide +kernel)) ggX10_otherIn_X10_runs
set_option maxRecDepth 20000 in
theorem ggX10_otherIn_X10_wakes : GoodIn wsX10_otherIn wsX10_wakes := goodIn_r _ [120, 14, 13, 15, 16, 17, 18, 20, 19, 126, 127, 128, 129, 130, 131, 132, 133, 134, 135, 136, 137, 138, 139, 140, 141, 142, 143, 144, 145, 146, 147, 148, 149, 150, 151, 152, 153, 154, 155, 156, 157] (by decide +kernel) (by decide +kernel)
set_option maxRecDepth 20000 in
theorem gX10_otherIn_X10_wakes : GoodIn wsX10_otherIn (wsV RX10 247 RX10 yX10_wakes wsX10_wakes) := goodIn_app (goodIn_of _ (by decide +kernel)) ggX10_otherIn_X10_wakes
set_option maxRecDepth 20000 in
theorem ggX10_otherIn_X10_itemOf : GoodIn wsX10_otherIn wsX10_itemOf := goodIn_r _ [124, 125, 126, 127, 128, 129, 130, 131, 132, 133, 134, 135, 136, 137, 138, 139, 140, 141, 142, 143, 144, 145, 146, 147, 148, 149, 150, 151, 152, 153, 154, 155, 156, 157] (by decide +kernel) (by decide +kernel)
set_option maxRecDepth 20000 in
theorem gX10_otherIn_X10_itemOf : GoodIn wsX10_otherIn (wsV RX10 270 RX10 yX10_itemOf wsX10_itemOf) := goodIn_app (goodIn_of _ (by decide +kernel)) ggX10_otherIn_X10_itemOf
theorem dX10_otherIn_0 : decode cX10_otherIn 0 = .ok (.aload_n 0, 1) := by decide +kernel
theorem dX10_otherIn_1 : decode cX10_otherIn 1 = .ok (.invokevirtual 244, 3) := by decide +kernel
theorem dX10_otherIn_4 : decode cX10_otherIn 4 = .ok (.aload_n 0, 1) := by decide +kernel
theorem dX10_otherIn_5 : decode cX10_otherIn 5 = .ok (.iload_n 2, 1) := by decide +kernel
theorem dX10_otherIn_6 : decode cX10_otherIn 6 = .ok (.invokevirtual 219, 3) := by decide +kernel
theorem dX10_otherIn_9 : decode cX10_otherIn 9 = .ok (.istore_n 3, 1) := by decide +kernel
theorem dX10_otherIn_10 : decode cX10_otherIn 10 = .ok (.aload_n 0, 1) := by decide +kernel
theorem dX10_otherIn_11 : decode cX10_otherIn 11 = .ok (.invokevirtual 247, 3) := by decide +kernel
theorem dX10_otherIn_14 : decode cX10_otherIn 14 = .ok (.bipush 60, 2) := by decide +kernel
theorem dX10_otherIn_16 : decode cX10_otherIn 16 = .ok (.aload_n 0, 1) := by decide +kernel
theorem dX10_otherIn_17 : decode cX10_otherIn 17 = .ok (.getfield 154, 3) := by decide +kernel
theorem dX10_otherIn_20 : decode cX10_otherIn 20 = .ok (.invokestatic 222, 3) := by decide +kernel
theorem dX10_otherIn_23 : decode cX10_otherIn 23 = .ok (.istore 4, 2) := by decide +kernel
theorem dX10_otherIn_25 : decode cX10_otherIn 25 = .ok (.iconst 0, 1) := by decide +kernel
theorem dX10_otherIn_26 : decode cX10_otherIn 26 = .ok (.istore 5, 2) := by decide +kernel
theorem dX10_otherIn_28 : decode cX10_otherIn 28 = .ok (.iload 5, 2) := by decide +kernel
theorem dX10_otherIn_30 : decode cX10_otherIn 30 = .ok (.aload_n 0, 1) := by decide +kernel
theorem dX10_otherIn_31 : decode cX10_otherIn 31 = .ok (.getfield 58, 3) := by decide +kernel
theorem dX10_otherIn_34 : decode cX10_otherIn 34 = .ok (.iload_n 1, 1) := by decide +kernel
theorem dX10_otherIn_35 : decode cX10_otherIn 35 = .ok (.iaload, 1) := by decide +kernel
theorem dX10_otherIn_36 : decode cX10_otherIn 36 = .ok (.if_icmp .ge 36, 3) := by decide +kernel
theorem dX10_otherIn_39 : decode cX10_otherIn 39 = .ok (.iload 5, 2) := by decide +kernel
theorem dX10_otherIn_41 : decode cX10_otherIn 41 = .ok (.iload 4, 2) := by decide +kernel
theorem dX10_otherIn_43 : decode cX10_otherIn 43 = .ok (.if_icmp .ge 20, 3) := by decide +kernel
theorem dX10_otherIn_46 : decode cX10_otherIn 46 = .ok (.aload_n 0, 1) := by decide +kernel
theorem dX10_otherIn_47 : decode cX10_otherIn 47 = .ok (.iload_n 1, 1) := by decide +kernel
theorem dX10_otherIn_48 : decode cX10_otherIn 48 = .ok (.iload 5, 2) := by decide +kernel
theorem dX10_otherIn_50 : decode cX10_otherIn 50 = .ok (.invokevirtual 270, 3) := by decide +kernel
theorem dX10_otherIn_53 : decode cX10_otherIn 53 = .ok (.aload_n 0, 1) := by decide +kernel
theorem dX10_otherIn_54 : decode cX10_otherIn 54 = .ok (.getfield 39, 3) := by decide +kernel
theorem dX10_otherIn_57 : decode cX10_otherIn 57 = .ok (.iload 5, 2) := by decide +kernel
theorem dX10_otherIn_59 : decode cX10_otherIn 59 = .ok (.iaload, 1) := by decide +kernel
theorem dX10_otherIn_60 : decode cX10_otherIn 60 = .ok (.if_icmp .eq 6, 3) := by decide +kernel
theorem dX10_otherIn_63 : decode cX10_otherIn 63 = .ok (.iload 5, 2) := by decide +kernel
theorem dX10_otherIn_65 : decode cX10_otherIn 65 = .ok (.ireturn, 1) := by decide +kernel
theorem dX10_otherIn_66 : decode cX10_otherIn 66 = .ok (.iinc 5 1, 3) := by decide +kernel
theorem dX10_otherIn_69 : decode cX10_otherIn 69 = .ok (.goto (-41), 3) := by decide +kernel
theorem dX10_otherIn_72 : decode cX10_otherIn 72 = .ok (.aload_n 0, 1) := by decide +kernel
theorem dX10_otherIn_73 : decode cX10_otherIn 73 = .ok (.getfield 58, 3) := by decide +kernel
theorem dX10_otherIn_76 : decode cX10_otherIn 76 = .ok (.iload_n 1, 1) := by decide +kernel
theorem dX10_otherIn_77 : decode cX10_otherIn 77 = .ok (.iaload, 1) := by decide +kernel
theorem dX10_otherIn_78 : decode cX10_otherIn 78 = .ok (.iload 4, 2) := by decide +kernel
theorem dX10_otherIn_80 : decode cX10_otherIn 80 = .ok (.if_icmp .ge 12, 3) := by decide +kernel
theorem dX10_otherIn_83 : decode cX10_otherIn 83 = .ok (.aload_n 0, 1) := by decide +kernel
theorem dX10_otherIn_84 : decode cX10_otherIn 84 = .ok (.getfield 58, 3) := by decide +kernel
theorem dX10_otherIn_87 : decode cX10_otherIn 87 = .ok (.iload_n 1, 1) := by decide +kernel
theorem dX10_otherIn_88 : decode cX10_otherIn 88 = .ok (.iaload, 1) := by decide +kernel
theorem dX10_otherIn_89 : decode cX10_otherIn 89 = .ok (.goto 4, 3) := by decide +kernel
theorem dX10_otherIn_92 : decode cX10_otherIn 92 = .ok (.iconst (-1), 1) := by decide +kernel
theorem dX10_otherIn_93 : decode cX10_otherIn 93 = .ok (.ireturn, 1) := by decide +kernel
set_option maxRecDepth 20000 in
theorem ggX10_tells_X10_isSheet : GoodIn wsX10_tells wsX10_isSheet := goodIn_r _ [6, 7, 8, 9, 5, 10] (by decide +kernel) (by decide +kernel)
set_option maxRecDepth 20000 in
theorem gX10_tells_X10_isSheet : GoodIn wsX10_tells (va_wsS RX10 273 yX10_isSheet wsX10_isSheet) := goodIn_app (goodIn_of _ (by decide +kernel)) ggX10_tells_X10_isSheet
set_option maxRecDepth 20000 in
theorem ggX10_tells_X10_isProgram : GoodIn wsX10_tells wsX10_isProgram := goodIn_r _ [14, 15, 8, 9, 5, 10, 140, 141, 142, 143, 144, 145, 146, 147, 148, 149, 150, 151, 152, 153, 154, 155, 156, 157, 158, 159, 160, 161, 162, 163, 164, 165, 166, 167, 168, 169, 170, 171] (by decide +kernel) (by decide +kernel)
set_option maxRecDepth 20000 in
theorem gX10_tells_X10_isProgram : GoodIn wsX10_tells (wsV RX10 216 RX10 yX10_isProgram wsX10_isProgram) := goodIn_app (goodIn_of _ (by decide +kernel)) ggX10_tells_X10_isProgram
set_option maxRecDepth 20000 in
theorem ggX10_tells_X10_isIn : GoodIn wsX10_tells wsX10_isIn := goodIn_r _ [10] (by decide +kernel) (by decide +kernel)
set_option maxRecDepth 20000 in
theorem gX10_tells_X10_isIn : GoodIn wsX10_tells (va_wsS RX10 67 yX10_isIn wsX10_isIn) := goodIn_app (goodIn_of _ (by decide +kernel)) ggX10_tells_X10_isIn
set_option maxRecDepth 20000 in
theorem ggX10_tells_X10_isAccount : GoodIn wsX10_tells wsX10_isAccount := goodIn_r _ [19, 2, 8, 9, 5, 10, 140, 141, 142, 143, 144, 145, 146, 147, 148, 149, 150, 151, 152, 153, 154, 155, 156, 157, 158, 159, 160, 161, 162, 163, 164, 165, 166, 167, 168, 169, 170, 171] (by decide +kernel) (by decide +kernel)
set_option maxRecDepth 20000 in
theorem gX10_tells_X10_isAccount : GoodIn wsX10_tells (wsV RX10 75 RX10 yX10_isAccount wsX10_isAccount) := goodIn_app (goodIn_of _ (by decide +kernel)) ggX10_tells_X10_isAccount
set_option maxRecDepth 20000 in
theorem ggX10_tells_X10_otherIn : GoodIn wsX10_tells wsX10_otherIn := goodIn_r _ [23, 24, 25, 26, 27, 28, 29, 30, 31, 32, 33, 5, 34, 2, 35, 36, 37, 38, 39, 40, 41, 42, 43, 44, 45, 46, 47, 48, 49, 50, 51, 52, 53, 54, 55, 56, 57, 58, 59, 60, 61, 62, 63, 64, 65, 66, 67, 68, 69, 70, 71, 72, 73, 74, 75, 76, 77, 78, 8, 9, 10, 79, 80, 81, 82, 83, 84, 85, 86, 87, 88, 89, 90, 91, 16, 17, 18, 19, 92, 93, 94, 95, 96, 97, 98, 99, 100, 101, 102, 103, 104, 105, 106, 107, 108, 109, 110, 111, 112, 113, 114, 115, 116, 117, 118, 119, 120, 121, 122, 123, 124, 125, 126, 127, 128, 129, 130, 131, 132, 133, 134, 135, 136, 137, 138, 139, 140, 141, 142, 143, 144, 145, 146, 147, 148, 149, 150, 151, 152, 153, 154, 155, 156, 157, 158, 159, 160, 161, 162, 163, 164, 165, 166, 167, 168, 169, 170, 171] (by decide +kernel) (by decide +kernel)
set_option maxRecDepth 20000 in
theorem gX10_tells_X10_otherIn : GoodIn wsX10_tells (wsV RX10 276 RX10 yX10_otherIn wsX10_otherIn) := goodIn_app (goodIn_of _ (by decide +kernel)) ggX10_tells_X10_otherIn
theorem dX10_tells_0 : decode cX10_tells 0 = .ok (.iload_n 1, 1) := by decide +kernel
theorem dX10_tells_1 : decode cX10_tells 1 = .ok (.invokestatic 273, 3) := by decide +kernel
theorem dX10_tells_4 : decode cX10_tells 4 = .ok (.ifCond .eq 36, 3) := by decide +kernel
theorem dX10_tells_7 : decode cX10_tells 7 = .ok (.aload_n 0, 1) := by decide +kernel
theorem dX10_tells_8 : decode cX10_tells 8 = .ok (.iload_n 2, 1) := by decide +kernel
theorem dX10_tells_9 : decode cX10_tells 9 = .ok (.invokevirtual 216, 3) := by decide +kernel
theorem dX10_tells_12 : decode cX10_tells 12 = .ok (.ifCond .eq 28, 3) := by decide +kernel
theorem dX10_tells_15 : decode cX10_tells 15 = .ok (.iload 4, 2) := by decide +kernel
theorem dX10_tells_17 : decode cX10_tells 17 = .ok (.i2l, 1) := by decide +kernel
theorem dX10_tells_18 : decode cX10_tells 18 = .ok (.lconst 0, 1) := by decide +kernel
theorem dX10_tells_19 : decode cX10_tells 19 = .ok (.lconst 1, 1) := by decide +kernel
theorem dX10_tells_20 : decode cX10_tells 20 = .ok (.invokestatic 67, 3) := by decide +kernel
theorem dX10_tells_23 : decode cX10_tells 23 = .ok (.ifCond .eq 17, 3) := by decide +kernel
theorem dX10_tells_26 : decode cX10_tells 26 = .ok (.iload 4, 2) := by decide +kernel
theorem dX10_tells_28 : decode cX10_tells 28 = .ok (.iconst 1, 1) := by decide +kernel
theorem dX10_tells_29 : decode cX10_tells 29 = .ok (.if_icmp .ne 14, 3) := by decide +kernel
theorem dX10_tells_32 : decode cX10_tells 32 = .ok (.aload_n 0, 1) := by decide +kernel
theorem dX10_tells_33 : decode cX10_tells 33 = .ok (.iload_n 3, 1) := by decide +kernel
theorem dX10_tells_34 : decode cX10_tells 34 = .ok (.invokevirtual 75, 3) := by decide +kernel
theorem dX10_tells_37 : decode cX10_tells 37 = .ok (.ifCond .ne 6, 3) := by decide +kernel
theorem dX10_tells_40 : decode cX10_tells 40 = .ok (.bipush (-2), 2) := by decide +kernel
theorem dX10_tells_42 : decode cX10_tells 42 = .ok (.ireturn, 1) := by decide +kernel
theorem dX10_tells_43 : decode cX10_tells 43 = .ok (.aload_n 0, 1) := by decide +kernel
theorem dX10_tells_44 : decode cX10_tells 44 = .ok (.getfield 55, 3) := by decide +kernel
theorem dX10_tells_47 : decode cX10_tells 47 = .ok (.iload_n 1, 1) := by decide +kernel
theorem dX10_tells_48 : decode cX10_tells 48 = .ok (.iaload, 1) := by decide +kernel
theorem dX10_tells_49 : decode cX10_tells 49 = .ok (.iconst (-1), 1) := by decide +kernel
theorem dX10_tells_50 : decode cX10_tells 50 = .ok (.if_icmp .ne 6, 3) := by decide +kernel
theorem dX10_tells_53 : decode cX10_tells 53 = .ok (.bipush (-11), 2) := by decide +kernel
theorem dX10_tells_55 : decode cX10_tells 55 = .ok (.ireturn, 1) := by decide +kernel
theorem dX10_tells_56 : decode cX10_tells 56 = .ok (.iload 4, 2) := by decide +kernel
theorem dX10_tells_58 : decode cX10_tells 58 = .ok (.ifCond .ne 10, 3) := by decide +kernel
theorem dX10_tells_61 : decode cX10_tells 61 = .ok (.aload_n 0, 1) := by decide +kernel
theorem dX10_tells_62 : decode cX10_tells 62 = .ok (.iload_n 1, 1) := by decide +kernel
theorem dX10_tells_63 : decode cX10_tells 63 = .ok (.iload_n 2, 1) := by decide +kernel
theorem dX10_tells_64 : decode cX10_tells 64 = .ok (.invokevirtual 276, 3) := by decide +kernel
theorem dX10_tells_67 : decode cX10_tells 67 = .ok (.ireturn, 1) := by decide +kernel
theorem dX10_tells_68 : decode cX10_tells 68 = .ok (.aload_n 0, 1) := by decide +kernel
theorem dX10_tells_69 : decode cX10_tells 69 = .ok (.getfield 11, 3) := by decide +kernel
theorem dX10_tells_72 : decode cX10_tells 72 = .ok (.iconst 0, 1) := by decide +kernel
theorem dX10_tells_73 : decode cX10_tells 73 = .ok (.iload_n 3, 1) := by decide +kernel
theorem dX10_tells_74 : decode cX10_tells 74 = .ok (.iadd, 1) := by decide +kernel
theorem dX10_tells_75 : decode cX10_tells 75 = .ok (.iaload, 1) := by decide +kernel
theorem dX10_tells_76 : decode cX10_tells 76 = .ok (.istore 5, 2) := by decide +kernel
theorem dX10_tells_78 : decode cX10_tells 78 = .ok (.iconst 0, 1) := by decide +kernel
theorem dX10_tells_79 : decode cX10_tells 79 = .ok (.istore 6, 2) := by decide +kernel
theorem dX10_tells_81 : decode cX10_tells 81 = .ok (.iconst 0, 1) := by decide +kernel
theorem dX10_tells_82 : decode cX10_tells 82 = .ok (.istore 7, 2) := by decide +kernel
theorem dX10_tells_84 : decode cX10_tells 84 = .ok (.iload 7, 2) := by decide +kernel
theorem dX10_tells_86 : decode cX10_tells 86 = .ok (.iconst 5, 1) := by decide +kernel
theorem dX10_tells_87 : decode cX10_tells 87 = .ok (.if_icmp .ge 42, 3) := by decide +kernel
theorem dX10_tells_90 : decode cX10_tells 90 = .ok (.aload_n 0, 1) := by decide +kernel
theorem dX10_tells_91 : decode cX10_tells 91 = .ok (.getfield 11, 3) := by decide +kernel
theorem dX10_tells_94 : decode cX10_tells 94 = .ok (.iconst 0, 1) := by decide +kernel
theorem dX10_tells_95 : decode cX10_tells 95 = .ok (.iload_n 3, 1) := by decide +kernel
theorem dX10_tells_96 : decode cX10_tells 96 = .ok (.iadd, 1) := by decide +kernel
theorem dX10_tells_97 : decode cX10_tells 97 = .ok (.iload 7, 2) := by decide +kernel
theorem dX10_tells_99 : decode cX10_tells 99 = .ok (.iastore, 1) := by decide +kernel
theorem dX10_tells_100 : decode cX10_tells 100 = .ok (.iload 6, 2) := by decide +kernel
theorem dX10_tells_102 : decode cX10_tells 102 = .ok (.aload_n 0, 1) := by decide +kernel
theorem dX10_tells_103 : decode cX10_tells 103 = .ok (.iload_n 1, 1) := by decide +kernel
theorem dX10_tells_104 : decode cX10_tells 104 = .ok (.iload_n 2, 1) := by decide +kernel
theorem dX10_tells_105 : decode cX10_tells 105 = .ok (.invokevirtual 276, 3) := by decide +kernel
theorem dX10_tells_108 : decode cX10_tells 108 = .ok (.iconst (-1), 1) := by decide +kernel
theorem dX10_tells_109 : decode cX10_tells 109 = .ok (.if_icmp .ne 10, 3) := by decide +kernel
theorem dX10_tells_112 : decode cX10_tells 112 = .ok (.iconst 1, 1) := by decide +kernel
theorem dX10_tells_113 : decode cX10_tells 113 = .ok (.iload 7, 2) := by decide +kernel
theorem dX10_tells_115 : decode cX10_tells 115 = .ok (.ishl, 1) := by decide +kernel
theorem dX10_tells_116 : decode cX10_tells 116 = .ok (.goto 4, 3) := by decide +kernel
theorem dX10_tells_119 : decode cX10_tells 119 = .ok (.iconst 0, 1) := by decide +kernel
theorem dX10_tells_120 : decode cX10_tells 120 = .ok (.ior, 1) := by decide +kernel
theorem dX10_tells_121 : decode cX10_tells 121 = .ok (.istore 6, 2) := by decide +kernel
theorem dX10_tells_123 : decode cX10_tells 123 = .ok (.iinc 7 1, 3) := by decide +kernel
theorem dX10_tells_126 : decode cX10_tells 126 = .ok (.goto (-42), 3) := by decide +kernel
theorem dX10_tells_129 : decode cX10_tells 129 = .ok (.aload_n 0, 1) := by decide +kernel
theorem dX10_tells_130 : decode cX10_tells 130 = .ok (.getfield 11, 3) := by decide +kernel
theorem dX10_tells_133 : decode cX10_tells 133 = .ok (.iconst 0, 1) := by decide +kernel
theorem dX10_tells_134 : decode cX10_tells 134 = .ok (.iload_n 3, 1) := by decide +kernel
theorem dX10_tells_135 : decode cX10_tells 135 = .ok (.iadd, 1) := by decide +kernel
theorem dX10_tells_136 : decode cX10_tells 136 = .ok (.iload 5, 2) := by decide +kernel
theorem dX10_tells_138 : decode cX10_tells 138 = .ok (.iastore, 1) := by decide +kernel
theorem dX10_tells_139 : decode cX10_tells 139 = .ok (.iload 6, 2) := by decide +kernel
theorem dX10_tells_141 : decode cX10_tells 141 = .ok (.ireturn, 1) := by decide +kernel
set_option maxRecDepth 20000 in
theorem ggX10_film_X10_isSheet : GoodIn wsX10_film wsX10_isSheet := goodIn_r _ [11, 12, 13, 14, 10, 15] (by decide +kernel) (by decide +kernel)
set_option maxRecDepth 20000 in
theorem gX10_film_X10_isSheet : GoodIn wsX10_film (va_wsS RX10 273 yX10_isSheet wsX10_isSheet) := goodIn_app (goodIn_of _ (by decide +kernel)) ggX10_film_X10_isSheet
set_option maxRecDepth 20000 in
theorem ggX10_film_X10_isProgram : GoodIn wsX10_film wsX10_isProgram := goodIn_r _ [19, 20, 13, 14, 10, 15, 137, 138, 139, 140, 141, 142, 143, 144, 145, 146, 147, 148, 149, 150, 151, 152, 153, 154, 155, 156, 157, 158, 159, 160, 161, 162, 163, 164, 165, 166, 167, 168] (by decide +kernel) (by decide +kernel)
set_option maxRecDepth 20000 in
theorem gX10_film_X10_isProgram : GoodIn wsX10_film (wsV RX10 216 RX10 yX10_isProgram wsX10_isProgram) := goodIn_app (goodIn_of _ (by decide +kernel)) ggX10_film_X10_isProgram
set_option maxRecDepth 20000 in
theorem ggX10_film_X10_thinks : GoodIn wsX10_film wsX10_thinks := goodIn_r _ [24, 25, 26, 27, 28, 29, 30, 31, 32, 137, 138, 139, 140, 141, 142, 143, 144, 145, 146, 147, 148, 149, 150, 151, 152, 153, 154, 155, 156, 157, 158, 159, 160, 161, 162, 163, 164, 165, 166, 167, 168] (by decide +kernel) (by decide +kernel)
set_option maxRecDepth 20000 in
theorem gX10_film_X10_thinks : GoodIn wsX10_film (wsV RX10 244 RX10 yX10_thinks wsX10_thinks) := goodIn_app (goodIn_of _ (by decide +kernel)) ggX10_film_X10_thinks
set_option maxRecDepth 20000 in
theorem ggX10_film_X10_runs : GoodIn wsX10_film wsX10_runs := goodIn_r _ [36, 37, 38, 1, 39, 40, 41, 42, 43, 10, 44, 45, 25, 46, 31, 47, 48, 49, 50, 51, 52, 53, 54, 55, 56, 57, 58, 59, 60, 61, 62, 63, 64, 65, 66, 67, 68, 69, 13, 14, 15, 70, 71, 72, 73, 74, 75, 76, 77, 78, 79, 80, 81, 82, 83, 84, 85, 86, 87, 88, 89, 90, 7, 91, 92, 93, 94, 95, 96, 97, 98, 99, 100, 101, 102, 103, 104, 105, 106, 107, 108, 109, 110, 111, 112, 113, 114, 115, 116, 117, 118, 119, 120, 121, 122, 123, 124, 125, 137, 138, 139, 140, 141, 142, 143, 144, 145, 146, 147, 148, 149, 150, 151, 152, 153, 154, 155, 156, 157, 158, 159, 160, 161, 162, 163, 164, 165, 166, 167, 168] (by decide +kernel) (by decide +kernel)
set_option maxRecDepth 20000 in
theorem gX10_film_X10_runs : GoodIn wsX10_film (wsV RX10 219 RX10 yX10_runs wsX10_runs) := goodIn_app (goodIn_of _ (by decide +kernel)) ggX10_film_X10_runs
set_option maxRecDepth 20000 in
theorem ggX10_film_X10_wakes : GoodIn wsX10_film wsX10_wakes := goodIn_r _ [129, 26, 25, 27, 28, 29, 30, 32, 31, 137, 138, 139, 140, 141, 142, 143, 144, 145, 146, 147, 148, 149, 150, 151, 152, 153, 154, 155, 156, 157, 158, 159, 160, 161, 162, 163, 164, 165, 166, 167, 168] (by decide +kernel) (by decide +kernel)
set_option maxRecDepth 20000 in
theorem gX10_film_X10_wakes : GoodIn wsX10_film (wsV RX10 247 RX10 yX10_wakes wsX10_wakes) := goodIn_app (goodIn_of _ (by decide +kernel)) ggX10_film_X10_wakes
set_option maxRecDepth 20000 in
theorem ggX10_film_X10_sheet : GoodIn wsX10_film wsX10_sheet := goodIn_r _ [133, 134, 135, 136, 6, 8, 9, 10, 11, 12, 13, 14, 15, 137, 138, 139, 140, 141, 142, 143, 144, 145, 146, 147, 148, 149, 150, 151, 152, 153, 154, 155, 156, 157, 158, 159, 160, 161, 162, 163, 164, 165, 166, 167, 168] (by decide +kernel) (by decide +kernel)
set_option maxRecDepth 20000 in
theorem gX10_film_X10_sheet : GoodIn wsX10_film (wsV RX10 279 RX10 yX10_sheet wsX10_sheet) := goodIn_app (goodIn_of _ (by decide +kernel)) ggX10_film_X10_sheet
theorem dX10_film_0 : decode cX10_film 0 = .ok (.iload_n 1, 1) := by decide +kernel
theorem dX10_film_1 : decode cX10_film 1 = .ok (.invokestatic 273, 3) := by decide +kernel
theorem dX10_film_4 : decode cX10_film 4 = .ok (.ifCond .eq 11, 3) := by decide +kernel
theorem dX10_film_7 : decode cX10_film 7 = .ok (.aload_n 0, 1) := by decide +kernel
theorem dX10_film_8 : decode cX10_film 8 = .ok (.iload_n 2, 1) := by decide +kernel
theorem dX10_film_9 : decode cX10_film 9 = .ok (.invokevirtual 216, 3) := by decide +kernel
theorem dX10_film_12 : decode cX10_film 12 = .ok (.ifCond .ne 6, 3) := by decide +kernel
theorem dX10_film_15 : decode cX10_film 15 = .ok (.bipush (-2), 2) := by decide +kernel
theorem dX10_film_17 : decode cX10_film 17 = .ok (.ireturn, 1) := by decide +kernel
theorem dX10_film_18 : decode cX10_film 18 = .ok (.aload_n 0, 1) := by decide +kernel
theorem dX10_film_19 : decode cX10_film 19 = .ok (.invokevirtual 244, 3) := by decide +kernel
theorem dX10_film_22 : decode cX10_film 22 = .ok (.aload_n 0, 1) := by decide +kernel
theorem dX10_film_23 : decode cX10_film 23 = .ok (.iload_n 2, 1) := by decide +kernel
theorem dX10_film_24 : decode cX10_film 24 = .ok (.invokevirtual 219, 3) := by decide +kernel
theorem dX10_film_27 : decode cX10_film 27 = .ok (.istore_n 3, 1) := by decide +kernel
theorem dX10_film_28 : decode cX10_film 28 = .ok (.aload_n 0, 1) := by decide +kernel
theorem dX10_film_29 : decode cX10_film 29 = .ok (.invokevirtual 247, 3) := by decide +kernel
theorem dX10_film_32 : decode cX10_film 32 = .ok (.bipush 60, 2) := by decide +kernel
theorem dX10_film_34 : decode cX10_film 34 = .ok (.aload_n 0, 1) := by decide +kernel
theorem dX10_film_35 : decode cX10_film 35 = .ok (.getfield 154, 3) := by decide +kernel
theorem dX10_film_38 : decode cX10_film 38 = .ok (.invokestatic 222, 3) := by decide +kernel
theorem dX10_film_41 : decode cX10_film 41 = .ok (.istore 4, 2) := by decide +kernel
theorem dX10_film_43 : decode cX10_film 43 = .ok (.aload_n 0, 1) := by decide +kernel
theorem dX10_film_44 : decode cX10_film 44 = .ok (.iload_n 1, 1) := by decide +kernel
theorem dX10_film_45 : decode cX10_film 45 = .ok (.iconst 1, 1) := by decide +kernel
theorem dX10_film_46 : decode cX10_film 46 = .ok (.iload 4, 2) := by decide +kernel
theorem dX10_film_48 : decode cX10_film 48 = .ok (.invokevirtual 279, 3) := by decide +kernel
theorem dX10_film_51 : decode cX10_film 51 = .ok (.istore_n 3, 1) := by decide +kernel
theorem dX10_film_52 : decode cX10_film 52 = .ok (.iconst 0, 1) := by decide +kernel
theorem dX10_film_53 : decode cX10_film 53 = .ok (.istore 5, 2) := by decide +kernel
theorem dX10_film_55 : decode cX10_film 55 = .ok (.iload 5, 2) := by decide +kernel
theorem dX10_film_57 : decode cX10_film 57 = .ok (.iload 4, 2) := by decide +kernel
theorem dX10_film_59 : decode cX10_film 59 = .ok (.if_icmp .ge 28, 3) := by decide +kernel
theorem dX10_film_62 : decode cX10_film 62 = .ok (.aload_n 0, 1) := by decide +kernel
theorem dX10_film_63 : decode cX10_film 63 = .ok (.getfield 61, 3) := by decide +kernel
theorem dX10_film_66 : decode cX10_film 66 = .ok (.bipush 60, 2) := by decide +kernel
theorem dX10_film_68 : decode cX10_film 68 = .ok (.iload_n 1, 1) := by decide +kernel
theorem dX10_film_69 : decode cX10_film 69 = .ok (.imul, 1) := by decide +kernel
theorem dX10_film_70 : decode cX10_film 70 = .ok (.iload 5, 2) := by decide +kernel
theorem dX10_film_72 : decode cX10_film 72 = .ok (.iadd, 1) := by decide +kernel
theorem dX10_film_73 : decode cX10_film 73 = .ok (.aload_n 0, 1) := by decide +kernel
theorem dX10_film_74 : decode cX10_film 74 = .ok (.getfield 39, 3) := by decide +kernel
theorem dX10_film_77 : decode cX10_film 77 = .ok (.iload 5, 2) := by decide +kernel
theorem dX10_film_79 : decode cX10_film 79 = .ok (.iaload, 1) := by decide +kernel
theorem dX10_film_80 : decode cX10_film 80 = .ok (.iastore, 1) := by decide +kernel
theorem dX10_film_81 : decode cX10_film 81 = .ok (.iinc 5 1, 3) := by decide +kernel
theorem dX10_film_84 : decode cX10_film 84 = .ok (.goto (-29), 3) := by decide +kernel
theorem dX10_film_87 : decode cX10_film 87 = .ok (.iload 4, 2) := by decide +kernel
theorem dX10_film_89 : decode cX10_film 89 = .ok (.ireturn, 1) := by decide +kernel
theorem dX10_image_0 : decode cX10_image 0 = .ok (.aload_n 0, 1) := by decide +kernel
theorem dX10_image_1 : decode cX10_image 1 = .ok (.getfield 11, 3) := by decide +kernel
theorem dX10_image_4 : decode cX10_image 4 = .ok (.iconst 0, 1) := by decide +kernel
theorem dX10_image_5 : decode cX10_image 5 = .ok (.aload_n 0, 1) := by decide +kernel
theorem dX10_image_6 : decode cX10_image 6 = .ok (.getfield 18, 3) := by decide +kernel
theorem dX10_image_9 : decode cX10_image 9 = .ok (.iconst 0, 1) := by decide +kernel
theorem dX10_image_10 : decode cX10_image 10 = .ok (.bipush 125, 2) := by decide +kernel
theorem dX10_image_12 : decode cX10_image 12 = .ok (.invokestatic 227, 3) := by decide +kernel
theorem dX10_image_15 : decode cX10_image 15 = .ok (.aload_n 0, 1) := by decide +kernel
theorem dX10_image_16 : decode cX10_image 16 = .ok (.getfield 24, 3) := by decide +kernel
theorem dX10_image_19 : decode cX10_image 19 = .ok (.iconst 0, 1) := by decide +kernel
theorem dX10_image_20 : decode cX10_image 20 = .ok (.aload_n 0, 1) := by decide +kernel
theorem dX10_image_21 : decode cX10_image 21 = .ok (.getfield 30, 3) := by decide +kernel
theorem dX10_image_24 : decode cX10_image 24 = .ok (.iconst 0, 1) := by decide +kernel
theorem dX10_image_25 : decode cX10_image 25 = .ok (.sipush 320, 3) := by decide +kernel
theorem dX10_image_28 : decode cX10_image 28 = .ok (.invokestatic 227, 3) := by decide +kernel
theorem dX10_image_31 : decode cX10_image 31 = .ok (.aload_n 0, 1) := by decide +kernel
theorem dX10_image_32 : decode cX10_image 32 = .ok (.getfield 27, 3) := by decide +kernel
theorem dX10_image_35 : decode cX10_image 35 = .ok (.iconst 0, 1) := by decide +kernel
theorem dX10_image_36 : decode cX10_image 36 = .ok (.aload_n 0, 1) := by decide +kernel
theorem dX10_image_37 : decode cX10_image 37 = .ok (.getfield 33, 3) := by decide +kernel
theorem dX10_image_40 : decode cX10_image 40 = .ok (.iconst 0, 1) := by decide +kernel
theorem dX10_image_41 : decode cX10_image 41 = .ok (.iconst 4, 1) := by decide +kernel
theorem dX10_image_42 : decode cX10_image 42 = .ok (.invokestatic 227, 3) := by decide +kernel
theorem dX10_image_45 : decode cX10_image 45 = .ok (.aload_n 0, 1) := by decide +kernel
theorem dX10_image_46 : decode cX10_image 46 = .ok (.aload_n 0, 1) := by decide +kernel
theorem dX10_image_47 : decode cX10_image 47 = .ok (.getfield 100, 3) := by decide +kernel
theorem dX10_image_50 : decode cX10_image 50 = .ok (.putfield 283, 3) := by decide +kernel
theorem dX10_image_53 : decode cX10_image 53 = .ok (.aload_n 0, 1) := by decide +kernel
theorem dX10_image_54 : decode cX10_image 54 = .ok (.aload_n 0, 1) := by decide +kernel
theorem dX10_image_55 : decode cX10_image 55 = .ok (.getfield 110, 3) := by decide +kernel
theorem dX10_image_58 : decode cX10_image 58 = .ok (.putfield 286, 3) := by decide +kernel
theorem dX10_image_61 : decode cX10_image 61 = .ok (.aload_n 0, 1) := by decide +kernel
theorem dX10_image_62 : decode cX10_image 62 = .ok (.iconst 1, 1) := by decide +kernel
theorem dX10_image_63 : decode cX10_image 63 = .ok (.putfield 289, 3) := by decide +kernel
theorem dX10_image_66 : decode cX10_image 66 = .ok (.aload_n 0, 1) := by decide +kernel
theorem dX10_image_67 : decode cX10_image 67 = .ok (.getfield 11, 3) := by decide +kernel
theorem dX10_image_70 : decode cX10_image 70 = .ok (.bipush 60, 2) := by decide +kernel
theorem dX10_image_72 : decode cX10_image 72 = .ok (.iaload, 1) := by decide +kernel
theorem dX10_image_73 : decode cX10_image 73 = .ok (.ireturn, 1) := by decide +kernel
theorem dX10_back_0 : decode cX10_back 0 = .ok (.aload_n 0, 1) := by decide +kernel
theorem dX10_back_1 : decode cX10_back 1 = .ok (.getfield 289, 3) := by decide +kernel
theorem dX10_back_4 : decode cX10_back 4 = .ok (.ifCond .ne 6, 3) := by decide +kernel
theorem dX10_back_7 : decode cX10_back 7 = .ok (.bipush (-3), 2) := by decide +kernel
theorem dX10_back_9 : decode cX10_back 9 = .ok (.ireturn, 1) := by decide +kernel
theorem dX10_back_10 : decode cX10_back 10 = .ok (.aload_n 0, 1) := by decide +kernel
theorem dX10_back_11 : decode cX10_back 11 = .ok (.getfield 18, 3) := by decide +kernel
theorem dX10_back_14 : decode cX10_back 14 = .ok (.iconst 0, 1) := by decide +kernel
theorem dX10_back_15 : decode cX10_back 15 = .ok (.aload_n 0, 1) := by decide +kernel
theorem dX10_back_16 : decode cX10_back 16 = .ok (.getfield 11, 3) := by decide +kernel
theorem dX10_back_19 : decode cX10_back 19 = .ok (.iconst 0, 1) := by decide +kernel
theorem dX10_back_20 : decode cX10_back 20 = .ok (.bipush 125, 2) := by decide +kernel
theorem dX10_back_22 : decode cX10_back 22 = .ok (.invokestatic 227, 3) := by decide +kernel
theorem dX10_back_25 : decode cX10_back 25 = .ok (.aload_n 0, 1) := by decide +kernel
theorem dX10_back_26 : decode cX10_back 26 = .ok (.getfield 30, 3) := by decide +kernel
theorem dX10_back_29 : decode cX10_back 29 = .ok (.iconst 0, 1) := by decide +kernel
theorem dX10_back_30 : decode cX10_back 30 = .ok (.aload_n 0, 1) := by decide +kernel
theorem dX10_back_31 : decode cX10_back 31 = .ok (.getfield 24, 3) := by decide +kernel
theorem dX10_back_34 : decode cX10_back 34 = .ok (.iconst 0, 1) := by decide +kernel
theorem dX10_back_35 : decode cX10_back 35 = .ok (.sipush 320, 3) := by decide +kernel
theorem dX10_back_38 : decode cX10_back 38 = .ok (.invokestatic 227, 3) := by decide +kernel
theorem dX10_back_41 : decode cX10_back 41 = .ok (.aload_n 0, 1) := by decide +kernel
theorem dX10_back_42 : decode cX10_back 42 = .ok (.getfield 33, 3) := by decide +kernel
theorem dX10_back_45 : decode cX10_back 45 = .ok (.iconst 0, 1) := by decide +kernel
theorem dX10_back_46 : decode cX10_back 46 = .ok (.aload_n 0, 1) := by decide +kernel
theorem dX10_back_47 : decode cX10_back 47 = .ok (.getfield 27, 3) := by decide +kernel
theorem dX10_back_50 : decode cX10_back 50 = .ok (.iconst 0, 1) := by decide +kernel
theorem dX10_back_51 : decode cX10_back 51 = .ok (.iconst 4, 1) := by decide +kernel
theorem dX10_back_52 : decode cX10_back 52 = .ok (.invokestatic 227, 3) := by decide +kernel
theorem dX10_back_55 : decode cX10_back 55 = .ok (.aload_n 0, 1) := by decide +kernel
theorem dX10_back_56 : decode cX10_back 56 = .ok (.aload_n 0, 1) := by decide +kernel
theorem dX10_back_57 : decode cX10_back 57 = .ok (.getfield 283, 3) := by decide +kernel
theorem dX10_back_60 : decode cX10_back 60 = .ok (.putfield 100, 3) := by decide +kernel
theorem dX10_back_63 : decode cX10_back 63 = .ok (.aload_n 0, 1) := by decide +kernel
theorem dX10_back_64 : decode cX10_back 64 = .ok (.aload_n 0, 1) := by decide +kernel
theorem dX10_back_65 : decode cX10_back 65 = .ok (.getfield 286, 3) := by decide +kernel
theorem dX10_back_68 : decode cX10_back 68 = .ok (.putfield 110, 3) := by decide +kernel
theorem dX10_back_71 : decode cX10_back 71 = .ok (.aload_n 0, 1) := by decide +kernel
theorem dX10_back_72 : decode cX10_back 72 = .ok (.getfield 11, 3) := by decide +kernel
theorem dX10_back_75 : decode cX10_back 75 = .ok (.bipush 60, 2) := by decide +kernel
theorem dX10_back_77 : decode cX10_back 77 = .ok (.iaload, 1) := by decide +kernel
theorem dX10_back_78 : decode cX10_back 78 = .ok (.ireturn, 1) := by decide +kernel
set_option maxRecDepth 20000 in
theorem ggX10_sheet_X10_isSheet : GoodIn wsX10_sheet wsX10_isSheet := goodIn_r _ [8, 9, 10, 11, 7, 12] (by decide +kernel) (by decide +kernel)
set_option maxRecDepth 20000 in
theorem gX10_sheet_X10_isSheet : GoodIn wsX10_sheet (va_wsS RX10 273 yX10_isSheet wsX10_isSheet) := goodIn_app (goodIn_of _ (by decide +kernel)) ggX10_sheet_X10_isSheet
set_option maxRecDepth 20000 in
theorem ggX10_sheet_X10_isIn : GoodIn wsX10_sheet wsX10_isIn := goodIn_r _ [12] (by decide +kernel) (by decide +kernel)
set_option maxRecDepth 20000 in
theorem gX10_sheet_X10_isIn : GoodIn wsX10_sheet (va_wsS RX10 67 yX10_isIn wsX10_isIn) := goodIn_app (goodIn_of _ (by decide +kernel)) ggX10_sheet_X10_isIn
theorem dX10_sheet_0 : decode cX10_sheet 0 = .ok (.iload_n 1, 1) := by decide +kernel
theorem dX10_sheet_1 : decode cX10_sheet 1 = .ok (.invokestatic 273, 3) := by decide +kernel
theorem dX10_sheet_4 : decode cX10_sheet 4 = .ok (.ifCond .eq 26, 3) := by decide +kernel
theorem dX10_sheet_7 : decode cX10_sheet 7 = .ok (.iload_n 2, 1) := by decide +kernel
theorem dX10_sheet_8 : decode cX10_sheet 8 = .ok (.i2l, 1) := by decide +kernel
theorem dX10_sheet_9 : decode cX10_sheet 9 = .ok (.ldc2_w 293, 3) := by decide +kernel
theorem dX10_sheet_12 : decode cX10_sheet 12 = .ok (.lconst 1, 1) := by decide +kernel
theorem dX10_sheet_13 : decode cX10_sheet 13 = .ok (.invokestatic 67, 3) := by decide +kernel
theorem dX10_sheet_16 : decode cX10_sheet 16 = .ok (.ifCond .eq 14, 3) := by decide +kernel
theorem dX10_sheet_19 : decode cX10_sheet 19 = .ok (.iload_n 2, 1) := by decide +kernel
theorem dX10_sheet_20 : decode cX10_sheet 20 = .ok (.iconst (-1), 1) := by decide +kernel
theorem dX10_sheet_21 : decode cX10_sheet 21 = .ok (.if_icmp .eq 12, 3) := by decide +kernel
theorem dX10_sheet_24 : decode cX10_sheet 24 = .ok (.iload_n 3, 1) := by decide +kernel
theorem dX10_sheet_25 : decode cX10_sheet 25 = .ok (.bipush 60, 2) := by decide +kernel
theorem dX10_sheet_27 : decode cX10_sheet 27 = .ok (.if_icmp .le 6, 3) := by decide +kernel
theorem dX10_sheet_30 : decode cX10_sheet 30 = .ok (.bipush (-2), 2) := by decide +kernel
theorem dX10_sheet_32 : decode cX10_sheet 32 = .ok (.ireturn, 1) := by decide +kernel
theorem dX10_sheet_33 : decode cX10_sheet 33 = .ok (.iload_n 2, 1) := by decide +kernel
theorem dX10_sheet_34 : decode cX10_sheet 34 = .ok (.iconst (-1), 1) := by decide +kernel
theorem dX10_sheet_35 : decode cX10_sheet 35 = .ok (.if_icmp .eq 10, 3) := by decide +kernel
theorem dX10_sheet_38 : decode cX10_sheet 38 = .ok (.iload_n 3, 1) := by decide +kernel
theorem dX10_sheet_39 : decode cX10_sheet 39 = .ok (.ifCond .ge 6, 3) := by decide +kernel
theorem dX10_sheet_42 : decode cX10_sheet 42 = .ok (.bipush (-14), 2) := by decide +kernel
theorem dX10_sheet_44 : decode cX10_sheet 44 = .ok (.ireturn, 1) := by decide +kernel
theorem dX10_sheet_45 : decode cX10_sheet 45 = .ok (.aload_n 0, 1) := by decide +kernel
theorem dX10_sheet_46 : decode cX10_sheet 46 = .ok (.getfield 55, 3) := by decide +kernel
theorem dX10_sheet_49 : decode cX10_sheet 49 = .ok (.iload_n 1, 1) := by decide +kernel
theorem dX10_sheet_50 : decode cX10_sheet 50 = .ok (.iload_n 2, 1) := by decide +kernel
theorem dX10_sheet_51 : decode cX10_sheet 51 = .ok (.iastore, 1) := by decide +kernel
theorem dX10_sheet_52 : decode cX10_sheet 52 = .ok (.aload_n 0, 1) := by decide +kernel
theorem dX10_sheet_53 : decode cX10_sheet 53 = .ok (.getfield 58, 3) := by decide +kernel
theorem dX10_sheet_56 : decode cX10_sheet 56 = .ok (.iload_n 1, 1) := by decide +kernel
theorem dX10_sheet_57 : decode cX10_sheet 57 = .ok (.iload_n 2, 1) := by decide +kernel
theorem dX10_sheet_58 : decode cX10_sheet 58 = .ok (.iconst (-1), 1) := by decide +kernel
theorem dX10_sheet_59 : decode cX10_sheet 59 = .ok (.if_icmp .ne 7, 3) := by decide +kernel
theorem dX10_sheet_62 : decode cX10_sheet 62 = .ok (.iconst 0, 1) := by decide +kernel
theorem dX10_sheet_63 : decode cX10_sheet 63 = .ok (.goto 4, 3) := by decide +kernel
theorem dX10_sheet_66 : decode cX10_sheet 66 = .ok (.iload_n 3, 1) := by decide +kernel
theorem dX10_sheet_67 : decode cX10_sheet 67 = .ok (.iastore, 1) := by decide +kernel
theorem dX10_sheet_68 : decode cX10_sheet 68 = .ok (.iconst 0, 1) := by decide +kernel
theorem dX10_sheet_69 : decode cX10_sheet 69 = .ok (.istore 4, 2) := by decide +kernel
theorem dX10_sheet_71 : decode cX10_sheet 71 = .ok (.iload 4, 2) := by decide +kernel
theorem dX10_sheet_73 : decode cX10_sheet 73 = .ok (.bipush 60, 2) := by decide +kernel
theorem dX10_sheet_75 : decode cX10_sheet 75 = .ok (.if_icmp .ge 22, 3) := by decide +kernel
theorem dX10_sheet_78 : decode cX10_sheet 78 = .ok (.aload_n 0, 1) := by decide +kernel
theorem dX10_sheet_79 : decode cX10_sheet 79 = .ok (.getfield 61, 3) := by decide +kernel
theorem dX10_sheet_82 : decode cX10_sheet 82 = .ok (.bipush 60, 2) := by decide +kernel
theorem dX10_sheet_84 : decode cX10_sheet 84 = .ok (.iload_n 1, 1) := by decide +kernel
theorem dX10_sheet_85 : decode cX10_sheet 85 = .ok (.imul, 1) := by decide +kernel
theorem dX10_sheet_86 : decode cX10_sheet 86 = .ok (.iload 4, 2) := by decide +kernel
theorem dX10_sheet_88 : decode cX10_sheet 88 = .ok (.iadd, 1) := by decide +kernel
theorem dX10_sheet_89 : decode cX10_sheet 89 = .ok (.iconst 0, 1) := by decide +kernel
theorem dX10_sheet_90 : decode cX10_sheet 90 = .ok (.iastore, 1) := by decide +kernel
theorem dX10_sheet_91 : decode cX10_sheet 91 = .ok (.iinc 4 1, 3) := by decide +kernel
theorem dX10_sheet_94 : decode cX10_sheet 94 = .ok (.goto (-23), 3) := by decide +kernel
theorem dX10_sheet_97 : decode cX10_sheet 97 = .ok (.iconst 1, 1) := by decide +kernel
theorem dX10_sheet_98 : decode cX10_sheet 98 = .ok (.ireturn, 1) := by decide +kernel
set_option maxRecDepth 20000 in
theorem ggX10_put_X10_isSheet : GoodIn wsX10_put wsX10_isSheet := goodIn_r _ [7, 8, 9, 10, 6, 11] (by decide +kernel) (by decide +kernel)
set_option maxRecDepth 20000 in
theorem gX10_put_X10_isSheet : GoodIn wsX10_put (va_wsS RX10 273 yX10_isSheet wsX10_isSheet) := goodIn_app (goodIn_of _ (by decide +kernel)) ggX10_put_X10_isSheet
set_option maxRecDepth 20000 in
theorem ggX10_put_X10_isIn : GoodIn wsX10_put wsX10_isIn := goodIn_r _ [11] (by decide +kernel) (by decide +kernel)
set_option maxRecDepth 20000 in
theorem gX10_put_X10_isIn : GoodIn wsX10_put (va_wsS RX10 67 yX10_isIn wsX10_isIn) := goodIn_app (goodIn_of _ (by decide +kernel)) ggX10_put_X10_isIn
theorem dX10_put_0 : decode cX10_put 0 = .ok (.iload_n 1, 1) := by decide +kernel
theorem dX10_put_1 : decode cX10_put 1 = .ok (.invokestatic 273, 3) := by decide +kernel
theorem dX10_put_4 : decode cX10_put 4 = .ok (.ifCond .ne 6, 3) := by decide +kernel
theorem dX10_put_7 : decode cX10_put 7 = .ok (.bipush (-2), 2) := by decide +kernel
theorem dX10_put_9 : decode cX10_put 9 = .ok (.ireturn, 1) := by decide +kernel
theorem dX10_put_10 : decode cX10_put 10 = .ok (.aload_n 0, 1) := by decide +kernel
theorem dX10_put_11 : decode cX10_put 11 = .ok (.getfield 55, 3) := by decide +kernel
theorem dX10_put_14 : decode cX10_put 14 = .ok (.iload_n 1, 1) := by decide +kernel
theorem dX10_put_15 : decode cX10_put 15 = .ok (.iaload, 1) := by decide +kernel
theorem dX10_put_16 : decode cX10_put 16 = .ok (.iconst (-1), 1) := by decide +kernel
theorem dX10_put_17 : decode cX10_put 17 = .ok (.if_icmp .ne 6, 3) := by decide +kernel
theorem dX10_put_20 : decode cX10_put 20 = .ok (.bipush (-11), 2) := by decide +kernel
theorem dX10_put_22 : decode cX10_put 22 = .ok (.ireturn, 1) := by decide +kernel
theorem dX10_put_23 : decode cX10_put 23 = .ok (.iload_n 2, 1) := by decide +kernel
theorem dX10_put_24 : decode cX10_put 24 = .ok (.i2l, 1) := by decide +kernel
theorem dX10_put_25 : decode cX10_put 25 = .ok (.lconst 0, 1) := by decide +kernel
theorem dX10_put_26 : decode cX10_put 26 = .ok (.aload_n 0, 1) := by decide +kernel
theorem dX10_put_27 : decode cX10_put 27 = .ok (.getfield 58, 3) := by decide +kernel
theorem dX10_put_30 : decode cX10_put 30 = .ok (.iload_n 1, 1) := by decide +kernel
theorem dX10_put_31 : decode cX10_put 31 = .ok (.iaload, 1) := by decide +kernel
theorem dX10_put_32 : decode cX10_put 32 = .ok (.iconst 1, 1) := by decide +kernel
theorem dX10_put_33 : decode cX10_put 33 = .ok (.isub, 1) := by decide +kernel
theorem dX10_put_34 : decode cX10_put 34 = .ok (.i2l, 1) := by decide +kernel
theorem dX10_put_35 : decode cX10_put 35 = .ok (.invokestatic 67, 3) := by decide +kernel
theorem dX10_put_38 : decode cX10_put 38 = .ok (.ifCond .ne 6, 3) := by decide +kernel
theorem dX10_put_41 : decode cX10_put 41 = .ok (.bipush (-12), 2) := by decide +kernel
theorem dX10_put_43 : decode cX10_put 43 = .ok (.ireturn, 1) := by decide +kernel
theorem dX10_put_44 : decode cX10_put 44 = .ok (.aload_n 0, 1) := by decide +kernel
theorem dX10_put_45 : decode cX10_put 45 = .ok (.getfield 61, 3) := by decide +kernel
theorem dX10_put_48 : decode cX10_put 48 = .ok (.bipush 60, 2) := by decide +kernel
theorem dX10_put_50 : decode cX10_put 50 = .ok (.iload_n 1, 1) := by decide +kernel
theorem dX10_put_51 : decode cX10_put 51 = .ok (.imul, 1) := by decide +kernel
theorem dX10_put_52 : decode cX10_put 52 = .ok (.iload_n 2, 1) := by decide +kernel
theorem dX10_put_53 : decode cX10_put 53 = .ok (.iadd, 1) := by decide +kernel
theorem dX10_put_54 : decode cX10_put 54 = .ok (.aload_n 0, 1) := by decide +kernel
theorem dX10_put_55 : decode cX10_put 55 = .ok (.getfield 55, 3) := by decide +kernel
theorem dX10_put_58 : decode cX10_put 58 = .ok (.iload_n 1, 1) := by decide +kernel
theorem dX10_put_59 : decode cX10_put 59 = .ok (.iaload, 1) := by decide +kernel
theorem dX10_put_60 : decode cX10_put 60 = .ok (.ifCond .ne 8, 3) := by decide +kernel
theorem dX10_put_63 : decode cX10_put 63 = .ok (.iload_n 3, 1) := by decide +kernel
theorem dX10_put_64 : decode cX10_put 64 = .ok (.i2b, 1) := by decide +kernel
theorem dX10_put_65 : decode cX10_put 65 = .ok (.goto 4, 3) := by decide +kernel
theorem dX10_put_68 : decode cX10_put 68 = .ok (.iload_n 3, 1) := by decide +kernel
theorem dX10_put_69 : decode cX10_put 69 = .ok (.iastore, 1) := by decide +kernel
theorem dX10_put_70 : decode cX10_put 70 = .ok (.iconst 1, 1) := by decide +kernel
theorem dX10_put_71 : decode cX10_put 71 = .ok (.ireturn, 1) := by decide +kernel
set_option maxRecDepth 20000 in
theorem ggX10_copy_X10_isSheet : GoodIn wsX10_copy wsX10_isSheet := goodIn_r _ [12, 13, 14, 15, 11, 16] (by decide +kernel) (by decide +kernel)
set_option maxRecDepth 20000 in
theorem gX10_copy_X10_isSheet : GoodIn wsX10_copy (va_wsS RX10 273 yX10_isSheet wsX10_isSheet) := goodIn_app (goodIn_of _ (by decide +kernel)) ggX10_copy_X10_isSheet
theorem dX10_copy_0 : decode cX10_copy 0 = .ok (.iload_n 1, 1) := by decide +kernel
theorem dX10_copy_1 : decode cX10_copy 1 = .ok (.invokestatic 273, 3) := by decide +kernel
theorem dX10_copy_4 : decode cX10_copy 4 = .ok (.ifCond .eq 10, 3) := by decide +kernel
theorem dX10_copy_7 : decode cX10_copy 7 = .ok (.iload_n 3, 1) := by decide +kernel
theorem dX10_copy_8 : decode cX10_copy 8 = .ok (.invokestatic 273, 3) := by decide +kernel
theorem dX10_copy_11 : decode cX10_copy 11 = .ok (.ifCond .ne 6, 3) := by decide +kernel
theorem dX10_copy_14 : decode cX10_copy 14 = .ok (.bipush (-2), 2) := by decide +kernel
theorem dX10_copy_16 : decode cX10_copy 16 = .ok (.ireturn, 1) := by decide +kernel
theorem dX10_copy_17 : decode cX10_copy 17 = .ok (.aload_n 0, 1) := by decide +kernel
theorem dX10_copy_18 : decode cX10_copy 18 = .ok (.getfield 55, 3) := by decide +kernel
theorem dX10_copy_21 : decode cX10_copy 21 = .ok (.iload_n 1, 1) := by decide +kernel
theorem dX10_copy_22 : decode cX10_copy 22 = .ok (.iaload, 1) := by decide +kernel
theorem dX10_copy_23 : decode cX10_copy 23 = .ok (.iconst (-1), 1) := by decide +kernel
theorem dX10_copy_24 : decode cX10_copy 24 = .ok (.if_icmp .eq 13, 3) := by decide +kernel
theorem dX10_copy_27 : decode cX10_copy 27 = .ok (.aload_n 0, 1) := by decide +kernel
theorem dX10_copy_28 : decode cX10_copy 28 = .ok (.getfield 55, 3) := by decide +kernel
theorem dX10_copy_31 : decode cX10_copy 31 = .ok (.iload_n 3, 1) := by decide +kernel
theorem dX10_copy_32 : decode cX10_copy 32 = .ok (.iaload, 1) := by decide +kernel
theorem dX10_copy_33 : decode cX10_copy 33 = .ok (.iconst (-1), 1) := by decide +kernel
theorem dX10_copy_34 : decode cX10_copy 34 = .ok (.if_icmp .ne 6, 3) := by decide +kernel
theorem dX10_copy_37 : decode cX10_copy 37 = .ok (.bipush (-11), 2) := by decide +kernel
theorem dX10_copy_39 : decode cX10_copy 39 = .ok (.ireturn, 1) := by decide +kernel
theorem dX10_copy_40 : decode cX10_copy 40 = .ok (.aload_n 0, 1) := by decide +kernel
theorem dX10_copy_41 : decode cX10_copy 41 = .ok (.getfield 55, 3) := by decide +kernel
theorem dX10_copy_44 : decode cX10_copy 44 = .ok (.iload_n 1, 1) := by decide +kernel
theorem dX10_copy_45 : decode cX10_copy 45 = .ok (.iaload, 1) := by decide +kernel
theorem dX10_copy_46 : decode cX10_copy 46 = .ok (.aload_n 0, 1) := by decide +kernel
theorem dX10_copy_47 : decode cX10_copy 47 = .ok (.getfield 55, 3) := by decide +kernel
theorem dX10_copy_50 : decode cX10_copy 50 = .ok (.iload_n 3, 1) := by decide +kernel
theorem dX10_copy_51 : decode cX10_copy 51 = .ok (.iaload, 1) := by decide +kernel
theorem dX10_copy_52 : decode cX10_copy 52 = .ok (.if_icmp .eq 6, 3) := by decide +kernel
theorem dX10_copy_55 : decode cX10_copy 55 = .ok (.bipush (-13), 2) := by decide +kernel
theorem dX10_copy_57 : decode cX10_copy 57 = .ok (.ireturn, 1) := by decide +kernel
theorem dX10_copy_58 : decode cX10_copy 58 = .ok (.iload 5, 2) := by decide +kernel
theorem dX10_copy_60 : decode cX10_copy 60 = .ok (.ifCond .lt 39, 3) := by decide +kernel
theorem dX10_copy_63 : decode cX10_copy 63 = .ok (.iload_n 2, 1) := by decide +kernel
theorem dX10_copy_64 : decode cX10_copy 64 = .ok (.ifCond .lt 35, 3) := by decide +kernel
theorem dX10_copy_67 : decode cX10_copy 67 = .ok (.iload 4, 2) := by decide +kernel
theorem dX10_copy_69 : decode cX10_copy 69 = .ok (.ifCond .lt 30, 3) := by decide +kernel
theorem dX10_copy_72 : decode cX10_copy 72 = .ok (.iload_n 2, 1) := by decide +kernel
theorem dX10_copy_73 : decode cX10_copy 73 = .ok (.aload_n 0, 1) := by decide +kernel
theorem dX10_copy_74 : decode cX10_copy 74 = .ok (.getfield 58, 3) := by decide +kernel
theorem dX10_copy_77 : decode cX10_copy 77 = .ok (.iload_n 1, 1) := by decide +kernel
theorem dX10_copy_78 : decode cX10_copy 78 = .ok (.iaload, 1) := by decide +kernel
theorem dX10_copy_79 : decode cX10_copy 79 = .ok (.iload 5, 2) := by decide +kernel
theorem dX10_copy_81 : decode cX10_copy 81 = .ok (.isub, 1) := by decide +kernel
theorem dX10_copy_82 : decode cX10_copy 82 = .ok (.if_icmp .gt 17, 3) := by decide +kernel
theorem dX10_copy_85 : decode cX10_copy 85 = .ok (.iload 4, 2) := by decide +kernel
theorem dX10_copy_87 : decode cX10_copy 87 = .ok (.aload_n 0, 1) := by decide +kernel
theorem dX10_copy_88 : decode cX10_copy 88 = .ok (.getfield 58, 3) := by decide +kernel
theorem dX10_copy_91 : decode cX10_copy 91 = .ok (.iload_n 3, 1) := by decide +kernel
theorem dX10_copy_92 : decode cX10_copy 92 = .ok (.iaload, 1) := by decide +kernel
theorem dX10_copy_93 : decode cX10_copy 93 = .ok (.iload 5, 2) := by decide +kernel
theorem dX10_copy_95 : decode cX10_copy 95 = .ok (.isub, 1) := by decide +kernel
theorem dX10_copy_96 : decode cX10_copy 96 = .ok (.if_icmp .le 6, 3) := by decide +kernel
theorem dX10_copy_99 : decode cX10_copy 99 = .ok (.bipush (-12), 2) := by decide +kernel
theorem dX10_copy_101 : decode cX10_copy 101 = .ok (.ireturn, 1) := by decide +kernel
theorem dX10_copy_102 : decode cX10_copy 102 = .ok (.aload_n 0, 1) := by decide +kernel
theorem dX10_copy_103 : decode cX10_copy 103 = .ok (.getfield 61, 3) := by decide +kernel
theorem dX10_copy_106 : decode cX10_copy 106 = .ok (.bipush 60, 2) := by decide +kernel
theorem dX10_copy_108 : decode cX10_copy 108 = .ok (.iload_n 1, 1) := by decide +kernel
theorem dX10_copy_109 : decode cX10_copy 109 = .ok (.imul, 1) := by decide +kernel
theorem dX10_copy_110 : decode cX10_copy 110 = .ok (.iload_n 2, 1) := by decide +kernel
theorem dX10_copy_111 : decode cX10_copy 111 = .ok (.iadd, 1) := by decide +kernel
theorem dX10_copy_112 : decode cX10_copy 112 = .ok (.aload_n 0, 1) := by decide +kernel
theorem dX10_copy_113 : decode cX10_copy 113 = .ok (.getfield 64, 3) := by decide +kernel
theorem dX10_copy_116 : decode cX10_copy 116 = .ok (.iconst 0, 1) := by decide +kernel
theorem dX10_copy_117 : decode cX10_copy 117 = .ok (.iload 5, 2) := by decide +kernel
theorem dX10_copy_119 : decode cX10_copy 119 = .ok (.invokestatic 227, 3) := by decide +kernel
theorem dX10_copy_122 : decode cX10_copy 122 = .ok (.aload_n 0, 1) := by decide +kernel
theorem dX10_copy_123 : decode cX10_copy 123 = .ok (.getfield 64, 3) := by decide +kernel
theorem dX10_copy_126 : decode cX10_copy 126 = .ok (.iconst 0, 1) := by decide +kernel
theorem dX10_copy_127 : decode cX10_copy 127 = .ok (.aload_n 0, 1) := by decide +kernel
theorem dX10_copy_128 : decode cX10_copy 128 = .ok (.getfield 61, 3) := by decide +kernel
theorem dX10_copy_131 : decode cX10_copy 131 = .ok (.bipush 60, 2) := by decide +kernel
theorem dX10_copy_133 : decode cX10_copy 133 = .ok (.iload_n 3, 1) := by decide +kernel
theorem dX10_copy_134 : decode cX10_copy 134 = .ok (.imul, 1) := by decide +kernel
theorem dX10_copy_135 : decode cX10_copy 135 = .ok (.iload 4, 2) := by decide +kernel
theorem dX10_copy_137 : decode cX10_copy 137 = .ok (.iadd, 1) := by decide +kernel
theorem dX10_copy_138 : decode cX10_copy 138 = .ok (.iload 5, 2) := by decide +kernel
theorem dX10_copy_140 : decode cX10_copy 140 = .ok (.invokestatic 227, 3) := by decide +kernel
theorem dX10_copy_143 : decode cX10_copy 143 = .ok (.iload 5, 2) := by decide +kernel
theorem dX10_copy_145 : decode cX10_copy 145 = .ok (.ireturn, 1) := by decide +kernel
set_option maxRecDepth 20000 in
theorem ggX10_load_X10_isSheet : GoodIn wsX10_load wsX10_isSheet := goodIn_r _ [8, 3, 9, 10, 7, 11] (by decide +kernel) (by decide +kernel)
set_option maxRecDepth 20000 in
theorem gX10_load_X10_isSheet : GoodIn wsX10_load (va_wsS RX10 273 yX10_isSheet wsX10_isSheet) := goodIn_app (goodIn_of _ (by decide +kernel)) ggX10_load_X10_isSheet
set_option maxRecDepth 20000 in
theorem ggX10_load_X10_isIn : GoodIn wsX10_load wsX10_isIn := goodIn_r _ [11] (by decide +kernel) (by decide +kernel)
set_option maxRecDepth 20000 in
theorem gX10_load_X10_isIn : GoodIn wsX10_load (va_wsS RX10 67 yX10_isIn wsX10_isIn) := goodIn_app (goodIn_of _ (by decide +kernel)) ggX10_load_X10_isIn
set_option maxRecDepth 20000 in
theorem ggX10_load_X10_itemOf : GoodIn wsX10_load wsX10_itemOf := goodIn_r _ [15, 16, 35, 36, 37, 38, 39, 40, 41, 42, 43, 44, 45, 46, 47, 48, 49, 50, 51, 52, 53, 54, 55, 56, 57, 58, 59, 60, 61, 62, 63, 64, 65, 66] (by decide +kernel) (by decide +kernel)
set_option maxRecDepth 20000 in
theorem gX10_load_X10_itemOf : GoodIn wsX10_load (wsV RX10 270 RX10 yX10_itemOf wsX10_itemOf) := goodIn_app (goodIn_of _ (by decide +kernel)) ggX10_load_X10_itemOf
