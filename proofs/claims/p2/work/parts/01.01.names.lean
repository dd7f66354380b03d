theorem dX0_init_0 : decode cX0_init 0 = .ok (.aload_n 0, 1) := by decide +kernel
theorem dX0_init_1 : decode cX0_init 1 = .ok (.invokespecial 3, 3) := by decide +kernel
theorem dX0_init_4 : decode cX0_init 4 = .ok (.aload_n 0, 1) := by decide +kernel
theorem dX0_init_5 : decode cX0_init 5 = .ok (.bipush 8, 2) := by decide +kernel
theorem dX0_init_7 : decode cX0_init 7 = .ok (.newarray .int, 2) := by decide +kernel
theorem dX0_init_9 : decode cX0_init 9 = .ok (.putfield 9, 3) := by decide +kernel
theorem dX0_init_12 : decode cX0_init 12 = .ok (.aload_n 0, 1) := by decide +kernel
theorem dX0_init_13 : decode cX0_init 13 = .ok (.bipush 8, 2) := by decide +kernel
theorem dX0_init_15 : decode cX0_init 15 = .ok (.newarray .int, 2) := by decide +kernel
theorem dX0_init_17 : decode cX0_init 17 = .ok (.putfield 15, 3) := by decide +kernel
theorem dX0_init_20 : decode cX0_init 20 = .ok (.aload_n 0, 1) := by decide +kernel
theorem dX0_init_21 : decode cX0_init 21 = .ok (.bipush 8, 2) := by decide +kernel
theorem dX0_init_23 : decode cX0_init 23 = .ok (.newarray .int, 2) := by decide +kernel
theorem dX0_init_25 : decode cX0_init 25 = .ok (.putfield 18, 3) := by decide +kernel
theorem dX0_init_28 : decode cX0_init 28 = .ok (.aload_n 0, 1) := by decide +kernel
theorem dX0_init_29 : decode cX0_init 29 = .ok (.bipush 8, 2) := by decide +kernel
theorem dX0_init_31 : decode cX0_init 31 = .ok (.newarray .boolean, 2) := by decide +kernel
theorem dX0_init_33 : decode cX0_init 33 = .ok (.putfield 21, 3) := by decide +kernel
theorem dX0_init_36 : decode cX0_init 36 = .ok (.aload_n 0, 1) := by decide +kernel
theorem dX0_init_37 : decode cX0_init 37 = .ok (.bipush 8, 2) := by decide +kernel
theorem dX0_init_39 : decode cX0_init 39 = .ok (.newarray .int, 2) := by decide +kernel
theorem dX0_init_41 : decode cX0_init 41 = .ok (.putfield 25, 3) := by decide +kernel
theorem dX0_init_44 : decode cX0_init 44 = .ok (.aload_n 0, 1) := by decide +kernel
theorem dX0_init_45 : decode cX0_init 45 = .ok (.bipush 8, 2) := by decide +kernel
theorem dX0_init_47 : decode cX0_init 47 = .ok (.newarray .int, 2) := by decide +kernel
theorem dX0_init_49 : decode cX0_init 49 = .ok (.putfield 28, 3) := by decide +kernel
theorem dX0_init_52 : decode cX0_init 52 = .ok (.aload_n 0, 1) := by decide +kernel
theorem dX0_init_53 : decode cX0_init 53 = .ok (.bipush 8, 2) := by decide +kernel
theorem dX0_init_55 : decode cX0_init 55 = .ok (.newarray .int, 2) := by decide +kernel
theorem dX0_init_57 : decode cX0_init 57 = .ok (.putfield 31, 3) := by decide +kernel
theorem dX0_init_60 : decode cX0_init 60 = .ok (.return_, 1) := by decide +kernel
theorem dX0_has_0 : decode cX0_has 0 = .ok (.iload_n 1, 1) := by decide +kernel
theorem dX0_has_1 : decode cX0_has 1 = .ok (.ifCond .lt 15, 3) := by decide +kernel
theorem dX0_has_4 : decode cX0_has 4 = .ok (.iload_n 1, 1) := by decide +kernel
theorem dX0_has_5 : decode cX0_has 5 = .ok (.aload_n 0, 1) := by decide +kernel
theorem dX0_has_6 : decode cX0_has 6 = .ok (.getfield 34, 3) := by decide +kernel
theorem dX0_has_9 : decode cX0_has 9 = .ok (.if_icmp .ge 7, 3) := by decide +kernel
theorem dX0_has_12 : decode cX0_has 12 = .ok (.iconst 1, 1) := by decide +kernel
theorem dX0_has_13 : decode cX0_has 13 = .ok (.goto 4, 3) := by decide +kernel
theorem dX0_has_16 : decode cX0_has 16 = .ok (.iconst 0, 1) := by decide +kernel
theorem dX0_has_17 : decode cX0_has 17 = .ok (.ireturn, 1) := by decide +kernel
theorem dX0_hasGate_0 : decode cX0_hasGate 0 = .ok (.aload_n 0, 1) := by decide +kernel
theorem dX0_hasGate_1 : decode cX0_hasGate 1 = .ok (.iload_n 1, 1) := by decide +kernel
theorem dX0_hasGate_2 : decode cX0_hasGate 2 = .ok (.invokevirtual 38, 3) := by decide +kernel
theorem dX0_hasGate_5 : decode cX0_hasGate 5 = .ok (.ifCond .eq 16, 3) := by decide +kernel
theorem dX0_hasGate_8 : decode cX0_hasGate 8 = .ok (.aload_n 0, 1) := by decide +kernel
theorem dX0_hasGate_9 : decode cX0_hasGate 9 = .ok (.getfield 21, 3) := by decide +kernel
theorem dX0_hasGate_12 : decode cX0_hasGate 12 = .ok (.iload_n 1, 1) := by decide +kernel
theorem dX0_hasGate_13 : decode cX0_hasGate 13 = .ok (.baload, 1) := by decide +kernel
theorem dX0_hasGate_14 : decode cX0_hasGate 14 = .ok (.ifCond .eq 7, 3) := by decide +kernel
theorem dX0_hasGate_17 : decode cX0_hasGate 17 = .ok (.iconst 1, 1) := by decide +kernel
theorem dX0_hasGate_18 : decode cX0_hasGate 18 = .ok (.goto 4, 3) := by decide +kernel
theorem dX0_hasGate_21 : decode cX0_hasGate 21 = .ok (.iconst 0, 1) := by decide +kernel
theorem dX0_hasGate_22 : decode cX0_hasGate 22 = .ok (.ireturn, 1) := by decide +kernel
theorem dX0_hasAllGates_0 : decode cX0_hasAllGates 0 = .ok (.iconst 0, 1) := by decide +kernel
theorem dX0_hasAllGates_1 : decode cX0_hasAllGates 1 = .ok (.istore_n 1, 1) := by decide +kernel
theorem dX0_hasAllGates_2 : decode cX0_hasAllGates 2 = .ok (.iload_n 1, 1) := by decide +kernel
theorem dX0_hasAllGates_3 : decode cX0_hasAllGates 3 = .ok (.aload_n 0, 1) := by decide +kernel
theorem dX0_hasAllGates_4 : decode cX0_hasAllGates 4 = .ok (.getfield 34, 3) := by decide +kernel
theorem dX0_hasAllGates_7 : decode cX0_hasAllGates 7 = .ok (.if_icmp .ge 20, 3) := by decide +kernel
theorem dX0_hasAllGates_10 : decode cX0_hasAllGates 10 = .ok (.aload_n 0, 1) := by decide +kernel
theorem dX0_hasAllGates_11 : decode cX0_hasAllGates 11 = .ok (.getfield 21, 3) := by decide +kernel
theorem dX0_hasAllGates_14 : decode cX0_hasAllGates 14 = .ok (.iload_n 1, 1) := by decide +kernel
theorem dX0_hasAllGates_15 : decode cX0_hasAllGates 15 = .ok (.baload, 1) := by decide +kernel
theorem dX0_hasAllGates_16 : decode cX0_hasAllGates 16 = .ok (.ifCond .ne 5, 3) := by decide +kernel
theorem dX0_hasAllGates_19 : decode cX0_hasAllGates 19 = .ok (.iconst 0, 1) := by decide +kernel
theorem dX0_hasAllGates_20 : decode cX0_hasAllGates 20 = .ok (.ireturn, 1) := by decide +kernel
theorem dX0_hasAllGates_21 : decode cX0_hasAllGates 21 = .ok (.iinc 1 1, 3) := by decide +kernel
theorem dX0_hasAllGates_24 : decode cX0_hasAllGates 24 = .ok (.goto (-22), 3) := by decide +kernel
theorem dX0_hasAllGates_27 : decode cX0_hasAllGates 27 = .ok (.iconst 1, 1) := by decide +kernel
theorem dX0_hasAllGates_28 : decode cX0_hasAllGates 28 = .ok (.ireturn, 1) := by decide +kernel
theorem dX0_open_0 : decode cX0_open 0 = .ok (.aload_n 0, 1) := by decide +kernel
theorem dX0_open_1 : decode cX0_open 1 = .ok (.getfield 34, 3) := by decide +kernel
theorem dX0_open_4 : decode cX0_open 4 = .ok (.istore_n 3, 1) := by decide +kernel
theorem dX0_open_5 : decode cX0_open 5 = .ok (.aload_n 0, 1) := by decide +kernel
theorem dX0_open_6 : decode cX0_open 6 = .ok (.getfield 9, 3) := by decide +kernel
theorem dX0_open_9 : decode cX0_open 9 = .ok (.iload_n 3, 1) := by decide +kernel
theorem dX0_open_10 : decode cX0_open 10 = .ok (.iload_n 1, 1) := by decide +kernel
theorem dX0_open_11 : decode cX0_open 11 = .ok (.iastore, 1) := by decide +kernel
theorem dX0_open_12 : decode cX0_open 12 = .ok (.aload_n 0, 1) := by decide +kernel
theorem dX0_open_13 : decode cX0_open 13 = .ok (.getfield 15, 3) := by decide +kernel
theorem dX0_open_16 : decode cX0_open 16 = .ok (.iload_n 3, 1) := by decide +kernel
theorem dX0_open_17 : decode cX0_open 17 = .ok (.iload_n 2, 1) := by decide +kernel
theorem dX0_open_18 : decode cX0_open 18 = .ok (.iastore, 1) := by decide +kernel
theorem dX0_open_19 : decode cX0_open 19 = .ok (.aload_n 0, 1) := by decide +kernel
theorem dX0_open_20 : decode cX0_open 20 = .ok (.getfield 18, 3) := by decide +kernel
theorem dX0_open_23 : decode cX0_open 23 = .ok (.iload_n 3, 1) := by decide +kernel
theorem dX0_open_24 : decode cX0_open 24 = .ok (.iconst 0, 1) := by decide +kernel
theorem dX0_open_25 : decode cX0_open 25 = .ok (.iastore, 1) := by decide +kernel
theorem dX0_open_26 : decode cX0_open 26 = .ok (.aload_n 0, 1) := by decide +kernel
theorem dX0_open_27 : decode cX0_open 27 = .ok (.getfield 21, 3) := by decide +kernel
theorem dX0_open_30 : decode cX0_open 30 = .ok (.iload_n 3, 1) := by decide +kernel
theorem dX0_open_31 : decode cX0_open 31 = .ok (.iconst 1, 1) := by decide +kernel
theorem dX0_open_32 : decode cX0_open 32 = .ok (.bastore, 1) := by decide +kernel
theorem dX0_open_33 : decode cX0_open 33 = .ok (.aload_n 0, 1) := by decide +kernel
theorem dX0_open_34 : decode cX0_open 34 = .ok (.getfield 25, 3) := by decide +kernel
theorem dX0_open_37 : decode cX0_open 37 = .ok (.iload_n 3, 1) := by decide +kernel
theorem dX0_open_38 : decode cX0_open 38 = .ok (.iconst 0, 1) := by decide +kernel
theorem dX0_open_39 : decode cX0_open 39 = .ok (.iastore, 1) := by decide +kernel
theorem dX0_open_40 : decode cX0_open 40 = .ok (.aload_n 0, 1) := by decide +kernel
theorem dX0_open_41 : decode cX0_open 41 = .ok (.getfield 28, 3) := by decide +kernel
theorem dX0_open_44 : decode cX0_open 44 = .ok (.iload_n 3, 1) := by decide +kernel
theorem dX0_open_45 : decode cX0_open 45 = .ok (.iconst 0, 1) := by decide +kernel
theorem dX0_open_46 : decode cX0_open 46 = .ok (.iastore, 1) := by decide +kernel
theorem dX0_open_47 : decode cX0_open 47 = .ok (.aload_n 0, 1) := by decide +kernel
theorem dX0_open_48 : decode cX0_open 48 = .ok (.getfield 31, 3) := by decide +kernel
theorem dX0_open_51 : decode cX0_open 51 = .ok (.iload_n 3, 1) := by decide +kernel
theorem dX0_open_52 : decode cX0_open 52 = .ok (.iconst 0, 1) := by decide +kernel
theorem dX0_open_53 : decode cX0_open 53 = .ok (.iastore, 1) := by decide +kernel
theorem dX0_open_54 : decode cX0_open 54 = .ok (.aload_n 0, 1) := by decide +kernel
theorem dX0_open_55 : decode cX0_open 55 = .ok (.dup, 1) := by decide +kernel
theorem dX0_open_56 : decode cX0_open 56 = .ok (.getfield 34, 3) := by decide +kernel
theorem dX0_open_59 : decode cX0_open 59 = .ok (.iconst 1, 1) := by decide +kernel
theorem dX0_open_60 : decode cX0_open 60 = .ok (.iadd, 1) := by decide +kernel
theorem dX0_open_61 : decode cX0_open 61 = .ok (.putfield 34, 3) := by decide +kernel
theorem dX0_open_64 : decode cX0_open 64 = .ok (.iload_n 3, 1) := by decide +kernel
theorem dX0_open_65 : decode cX0_open 65 = .ok (.ireturn, 1) := by decide +kernel
theorem dX0_feeOf_0 : decode cX0_feeOf 0 = .ok (.aload_n 0, 1) := by decide +kernel
theorem dX0_feeOf_1 : decode cX0_feeOf 1 = .ok (.getfield 9, 3) := by decide +kernel
theorem dX0_feeOf_4 : decode cX0_feeOf 4 = .ok (.iload_n 1, 1) := by decide +kernel
theorem dX0_feeOf_5 : decode cX0_feeOf 5 = .ok (.iaload, 1) := by decide +kernel
theorem dX0_feeOf_6 : decode cX0_feeOf 6 = .ok (.iload_n 2, 1) := by decide +kernel
theorem dX0_feeOf_7 : decode cX0_feeOf 7 = .ok (.invokestatic 42, 3) := by decide +kernel
theorem dX0_feeOf_10 : decode cX0_feeOf 10 = .ok (.ireturn, 1) := by decide +kernel
theorem dX0_floorOf_0 : decode cX0_floorOf 0 = .ok (.aload_n 0, 1) := by decide +kernel
theorem dX0_floorOf_1 : decode cX0_floorOf 1 = .ok (.getfield 9, 3) := by decide +kernel
theorem dX0_floorOf_4 : decode cX0_floorOf 4 = .ok (.iload_n 1, 1) := by decide +kernel
theorem dX0_floorOf_5 : decode cX0_floorOf 5 = .ok (.iaload, 1) := by decide +kernel
theorem dX0_floorOf_6 : decode cX0_floorOf 6 = .ok (.aload_n 0, 1) := by decide +kernel
theorem dX0_floorOf_7 : decode cX0_floorOf 7 = .ok (.getfield 18, 3) := by decide +kernel
theorem dX0_floorOf_10 : decode cX0_floorOf 10 = .ok (.iload_n 1, 1) := by decide +kernel
theorem dX0_floorOf_11 : decode cX0_floorOf 11 = .ok (.iaload, 1) := by decide +kernel
theorem dX0_floorOf_12 : decode cX0_floorOf 12 = .ok (.invokestatic 48, 3) := by decide +kernel
theorem dX0_floorOf_15 : decode cX0_floorOf 15 = .ok (.ireturn, 1) := by decide +kernel
theorem dX0_allMoney_0 : decode cX0_allMoney 0 = .ok (.aload_n 0, 1) := by decide +kernel
theorem dX0_allMoney_1 : decode cX0_allMoney 1 = .ok (.getfield 51, 3) := by decide +kernel
theorem dX0_allMoney_4 : decode cX0_allMoney 4 = .ok (.lstore_n 1, 1) := by decide +kernel
theorem dX0_allMoney_5 : decode cX0_allMoney 5 = .ok (.iconst 0, 1) := by decide +kernel
theorem dX0_allMoney_6 : decode cX0_allMoney 6 = .ok (.istore_n 3, 1) := by decide +kernel
theorem dX0_allMoney_7 : decode cX0_allMoney 7 = .ok (.iload_n 3, 1) := by decide +kernel
theorem dX0_allMoney_8 : decode cX0_allMoney 8 = .ok (.aload_n 0, 1) := by decide +kernel
theorem dX0_allMoney_9 : decode cX0_allMoney 9 = .ok (.getfield 34, 3) := by decide +kernel
theorem dX0_allMoney_12 : decode cX0_allMoney 12 = .ok (.if_icmp .ge 19, 3) := by decide +kernel
theorem dX0_allMoney_15 : decode cX0_allMoney 15 = .ok (.lload_n 1, 1) := by decide +kernel
theorem dX0_allMoney_16 : decode cX0_allMoney 16 = .ok (.aload_n 0, 1) := by decide +kernel
theorem dX0_allMoney_17 : decode cX0_allMoney 17 = .ok (.getfield 15, 3) := by decide +kernel
theorem dX0_allMoney_20 : decode cX0_allMoney 20 = .ok (.iload_n 3, 1) := by decide +kernel
theorem dX0_allMoney_21 : decode cX0_allMoney 21 = .ok (.iaload, 1) := by decide +kernel
theorem dX0_allMoney_22 : decode cX0_allMoney 22 = .ok (.i2l, 1) := by decide +kernel
theorem dX0_allMoney_23 : decode cX0_allMoney 23 = .ok (.ladd, 1) := by decide +kernel
theorem dX0_allMoney_24 : decode cX0_allMoney 24 = .ok (.lstore_n 1, 1) := by decide +kernel
theorem dX0_allMoney_25 : decode cX0_allMoney 25 = .ok (.iinc 3 1, 3) := by decide +kernel
theorem dX0_allMoney_28 : decode cX0_allMoney 28 = .ok (.goto (-21), 3) := by decide +kernel
theorem dX0_allMoney_31 : decode cX0_allMoney 31 = .ok (.lload_n 1, 1) := by decide +kernel
theorem dX0_allMoney_32 : decode cX0_allMoney 32 = .ok (.lreturn, 1) := by decide +kernel
theorem dX0_allEntries_0 : decode cX0_allEntries 0 = .ok (.iconst 0, 1) := by decide +kernel
theorem dX0_allEntries_1 : decode cX0_allEntries 1 = .ok (.istore_n 1, 1) := by decide +kernel
theorem dX0_allEntries_2 : decode cX0_allEntries 2 = .ok (.iconst 0, 1) := by decide +kernel
theorem dX0_allEntries_3 : decode cX0_allEntries 3 = .ok (.istore_n 2, 1) := by decide +kernel
theorem dX0_allEntries_4 : decode cX0_allEntries 4 = .ok (.iload_n 2, 1) := by decide +kernel
theorem dX0_allEntries_5 : decode cX0_allEntries 5 = .ok (.aload_n 0, 1) := by decide +kernel
theorem dX0_allEntries_6 : decode cX0_allEntries 6 = .ok (.getfield 34, 3) := by decide +kernel
theorem dX0_allEntries_9 : decode cX0_allEntries 9 = .ok (.if_icmp .ge 18, 3) := by decide +kernel
theorem dX0_allEntries_12 : decode cX0_allEntries 12 = .ok (.iload_n 1, 1) := by decide +kernel
theorem dX0_allEntries_13 : decode cX0_allEntries 13 = .ok (.aload_n 0, 1) := by decide +kernel
theorem dX0_allEntries_14 : decode cX0_allEntries 14 = .ok (.getfield 25, 3) := by decide +kernel
theorem dX0_allEntries_17 : decode cX0_allEntries 17 = .ok (.iload_n 2, 1) := by decide +kernel
theorem dX0_allEntries_18 : decode cX0_allEntries 18 = .ok (.iaload, 1) := by decide +kernel
theorem dX0_allEntries_19 : decode cX0_allEntries 19 = .ok (.iadd, 1) := by decide +kernel
theorem dX0_allEntries_20 : decode cX0_allEntries 20 = .ok (.istore_n 1, 1) := by decide +kernel
theorem dX0_allEntries_21 : decode cX0_allEntries 21 = .ok (.iinc 2 1, 3) := by decide +kernel
theorem dX0_allEntries_24 : decode cX0_allEntries 24 = .ok (.goto (-20), 3) := by decide +kernel
theorem dX0_allEntries_27 : decode cX0_allEntries 27 = .ok (.iload_n 1, 1) := by decide +kernel
theorem dX0_allEntries_28 : decode cX0_allEntries 28 = .ok (.ireturn, 1) := by decide +kernel
theorem dX0_enterAll_0 : decode cX0_enterAll 0 = .ok (.iconst 0, 1) := by decide +kernel
theorem dX0_enterAll_1 : decode cX0_enterAll 1 = .ok (.istore_n 1, 1) := by decide +kernel
theorem dX0_enterAll_2 : decode cX0_enterAll 2 = .ok (.iload_n 1, 1) := by decide +kernel
theorem dX0_enterAll_3 : decode cX0_enterAll 3 = .ok (.aload_n 0, 1) := by decide +kernel
theorem dX0_enterAll_4 : decode cX0_enterAll 4 = .ok (.getfield 34, 3) := by decide +kernel
theorem dX0_enterAll_7 : decode cX0_enterAll 7 = .ok (.if_icmp .ge 19, 3) := by decide +kernel
theorem dX0_enterAll_10 : decode cX0_enterAll 10 = .ok (.aload_n 0, 1) := by decide +kernel
theorem dX0_enterAll_11 : decode cX0_enterAll 11 = .ok (.getfield 25, 3) := by decide +kernel
theorem dX0_enterAll_14 : decode cX0_enterAll 14 = .ok (.iload_n 1, 1) := by decide +kernel
theorem dX0_enterAll_15 : decode cX0_enterAll 15 = .ok (.dup2, 1) := by decide +kernel
theorem dX0_enterAll_16 : decode cX0_enterAll 16 = .ok (.iaload, 1) := by decide +kernel
theorem dX0_enterAll_17 : decode cX0_enterAll 17 = .ok (.iconst 1, 1) := by decide +kernel
theorem dX0_enterAll_18 : decode cX0_enterAll 18 = .ok (.iadd, 1) := by decide +kernel
theorem dX0_enterAll_19 : decode cX0_enterAll 19 = .ok (.iastore, 1) := by decide +kernel
theorem dX0_enterAll_20 : decode cX0_enterAll 20 = .ok (.iinc 1 1, 3) := by decide +kernel
theorem dX0_enterAll_23 : decode cX0_enterAll 23 = .ok (.goto (-21), 3) := by decide +kernel
theorem dX0_enterAll_26 : decode cX0_enterAll 26 = .ok (.return_, 1) := by decide +kernel
theorem dX0_leaveAll_0 : decode cX0_leaveAll 0 = .ok (.aload_n 0, 1) := by decide +kernel
theorem dX0_leaveAll_1 : decode cX0_leaveAll 1 = .ok (.getfield 34, 3) := by decide +kernel
theorem dX0_leaveAll_4 : decode cX0_leaveAll 4 = .ok (.iconst 1, 1) := by decide +kernel
theorem dX0_leaveAll_5 : decode cX0_leaveAll 5 = .ok (.isub, 1) := by decide +kernel
theorem dX0_leaveAll_6 : decode cX0_leaveAll 6 = .ok (.istore_n 1, 1) := by decide +kernel
theorem dX0_leaveAll_7 : decode cX0_leaveAll 7 = .ok (.iload_n 1, 1) := by decide +kernel
theorem dX0_leaveAll_8 : decode cX0_leaveAll 8 = .ok (.ifCond .lt 19, 3) := by decide +kernel
theorem dX0_leaveAll_11 : decode cX0_leaveAll 11 = .ok (.aload_n 0, 1) := by decide +kernel
theorem dX0_leaveAll_12 : decode cX0_leaveAll 12 = .ok (.getfield 28, 3) := by decide +kernel
theorem dX0_leaveAll_15 : decode cX0_leaveAll 15 = .ok (.iload_n 1, 1) := by decide +kernel
theorem dX0_leaveAll_16 : decode cX0_leaveAll 16 = .ok (.dup2, 1) := by decide +kernel
theorem dX0_leaveAll_17 : decode cX0_leaveAll 17 = .ok (.iaload, 1) := by decide +kernel
theorem dX0_leaveAll_18 : decode cX0_leaveAll 18 = .ok (.iconst 1, 1) := by decide +kernel
theorem dX0_leaveAll_19 : decode cX0_leaveAll 19 = .ok (.iadd, 1) := by decide +kernel
theorem dX0_leaveAll_20 : decode cX0_leaveAll 20 = .ok (.iastore, 1) := by decide +kernel
theorem dX0_leaveAll_21 : decode cX0_leaveAll 21 = .ok (.iinc 1 (-1), 3) := by decide +kernel
theorem dX0_leaveAll_24 : decode cX0_leaveAll 24 = .ok (.goto (-17), 3) := by decide +kernel
theorem dX0_leaveAll_27 : decode cX0_leaveAll 27 = .ok (.return_, 1) := by decide +kernel
theorem dX0_becomeAs_0 : decode cX0_becomeAs 0 = .ok (.aload_n 1, 1) := by decide +kernel
theorem dX0_becomeAs_1 : decode cX0_becomeAs 1 = .ok (.getfield 9, 3) := by decide +kernel
theorem dX0_becomeAs_4 : decode cX0_becomeAs 4 = .ok (.iconst 0, 1) := by decide +kernel
theorem dX0_becomeAs_5 : decode cX0_becomeAs 5 = .ok (.aload_n 0, 1) := by decide +kernel
theorem dX0_becomeAs_6 : decode cX0_becomeAs 6 = .ok (.getfield 9, 3) := by decide +kernel
theorem dX0_becomeAs_9 : decode cX0_becomeAs 9 = .ok (.iconst 0, 1) := by decide +kernel
theorem dX0_becomeAs_10 : decode cX0_becomeAs 10 = .ok (.bipush 8, 2) := by decide +kernel
theorem dX0_becomeAs_12 : decode cX0_becomeAs 12 = .ok (.invokestatic 55, 3) := by decide +kernel
theorem dX0_becomeAs_15 : decode cX0_becomeAs 15 = .ok (.aload_n 1, 1) := by decide +kernel
theorem dX0_becomeAs_16 : decode cX0_becomeAs 16 = .ok (.getfield 15, 3) := by decide +kernel
theorem dX0_becomeAs_19 : decode cX0_becomeAs 19 = .ok (.iconst 0, 1) := by decide +kernel
theorem dX0_becomeAs_20 : decode cX0_becomeAs 20 = .ok (.aload_n 0, 1) := by decide +kernel
theorem dX0_becomeAs_21 : decode cX0_becomeAs 21 = .ok (.getfield 15, 3) := by decide +kernel
theorem dX0_becomeAs_24 : decode cX0_becomeAs 24 = .ok (.iconst 0, 1) := by decide +kernel
theorem dX0_becomeAs_25 : decode cX0_becomeAs 25 = .ok (.bipush 8, 2) := by decide +kernel
theorem dX0_becomeAs_27 : decode cX0_becomeAs 27 = .ok (.invokestatic 55, 3) := by decide +kernel
theorem dX0_becomeAs_30 : decode cX0_becomeAs 30 = .ok (.aload_n 1, 1) := by decide +kernel
theorem dX0_becomeAs_31 : decode cX0_becomeAs 31 = .ok (.getfield 18, 3) := by decide +kernel
theorem dX0_becomeAs_34 : decode cX0_becomeAs 34 = .ok (.iconst 0, 1) := by decide +kernel
theorem dX0_becomeAs_35 : decode cX0_becomeAs 35 = .ok (.aload_n 0, 1) := by decide +kernel
theorem dX0_becomeAs_36 : decode cX0_becomeAs 36 = .ok (.getfield 18, 3) := by decide +kernel
theorem dX0_becomeAs_39 : decode cX0_becomeAs 39 = .ok (.iconst 0, 1) := by decide +kernel
theorem dX0_becomeAs_40 : decode cX0_becomeAs 40 = .ok (.bipush 8, 2) := by decide +kernel
theorem dX0_becomeAs_42 : decode cX0_becomeAs 42 = .ok (.invokestatic 55, 3) := by decide +kernel
theorem dX0_becomeAs_45 : decode cX0_becomeAs 45 = .ok (.aload_n 1, 1) := by decide +kernel
theorem dX0_becomeAs_46 : decode cX0_becomeAs 46 = .ok (.getfield 25, 3) := by decide +kernel
theorem dX0_becomeAs_49 : decode cX0_becomeAs 49 = .ok (.iconst 0, 1) := by decide +kernel
theorem dX0_becomeAs_50 : decode cX0_becomeAs 50 = .ok (.aload_n 0, 1) := by decide +kernel
theorem dX0_becomeAs_51 : decode cX0_becomeAs 51 = .ok (.getfield 25, 3) := by decide +kernel
theorem dX0_becomeAs_54 : decode cX0_becomeAs 54 = .ok (.iconst 0, 1) := by decide +kernel
theorem dX0_becomeAs_55 : decode cX0_becomeAs 55 = .ok (.bipush 8, 2) := by decide +kernel
theorem dX0_becomeAs_57 : decode cX0_becomeAs 57 = .ok (.invokestatic 55, 3) := by decide +kernel
theorem dX0_becomeAs_60 : decode cX0_becomeAs 60 = .ok (.aload_n 1, 1) := by decide +kernel
theorem dX0_becomeAs_61 : decode cX0_becomeAs 61 = .ok (.getfield 28, 3) := by decide +kernel
theorem dX0_becomeAs_64 : decode cX0_becomeAs 64 = .ok (.iconst 0, 1) := by decide +kernel
theorem dX0_becomeAs_65 : decode cX0_becomeAs 65 = .ok (.aload_n 0, 1) := by decide +kernel
theorem dX0_becomeAs_66 : decode cX0_becomeAs 66 = .ok (.getfield 28, 3) := by decide +kernel
theorem dX0_becomeAs_69 : decode cX0_becomeAs 69 = .ok (.iconst 0, 1) := by decide +kernel
theorem dX0_becomeAs_70 : decode cX0_becomeAs 70 = .ok (.bipush 8, 2) := by decide +kernel
theorem dX0_becomeAs_72 : decode cX0_becomeAs 72 = .ok (.invokestatic 55, 3) := by decide +kernel
theorem dX0_becomeAs_75 : decode cX0_becomeAs 75 = .ok (.aload_n 1, 1) := by decide +kernel
theorem dX0_becomeAs_76 : decode cX0_becomeAs 76 = .ok (.getfield 31, 3) := by decide +kernel
theorem dX0_becomeAs_79 : decode cX0_becomeAs 79 = .ok (.iconst 0, 1) := by decide +kernel
theorem dX0_becomeAs_80 : decode cX0_becomeAs 80 = .ok (.aload_n 0, 1) := by decide +kernel
theorem dX0_becomeAs_81 : decode cX0_becomeAs 81 = .ok (.getfield 31, 3) := by decide +kernel
theorem dX0_becomeAs_84 : decode cX0_becomeAs 84 = .ok (.iconst 0, 1) := by decide +kernel
theorem dX0_becomeAs_85 : decode cX0_becomeAs 85 = .ok (.bipush 8, 2) := by decide +kernel
theorem dX0_becomeAs_87 : decode cX0_becomeAs 87 = .ok (.invokestatic 55, 3) := by decide +kernel
theorem dX0_becomeAs_90 : decode cX0_becomeAs 90 = .ok (.iconst 0, 1) := by decide +kernel
theorem dX0_becomeAs_91 : decode cX0_becomeAs 91 = .ok (.istore_n 2, 1) := by decide +kernel
theorem dX0_becomeAs_92 : decode cX0_becomeAs 92 = .ok (.iload_n 2, 1) := by decide +kernel
theorem dX0_becomeAs_93 : decode cX0_becomeAs 93 = .ok (.bipush 8, 2) := by decide +kernel
theorem dX0_becomeAs_95 : decode cX0_becomeAs 95 = .ok (.if_icmp .ge 21, 3) := by decide +kernel
theorem dX0_becomeAs_98 : decode cX0_becomeAs 98 = .ok (.aload_n 0, 1) := by decide +kernel
theorem dX0_becomeAs_99 : decode cX0_becomeAs 99 = .ok (.getfield 21, 3) := by decide +kernel
theorem dX0_becomeAs_102 : decode cX0_becomeAs 102 = .ok (.iload_n 2, 1) := by decide +kernel
theorem dX0_becomeAs_103 : decode cX0_becomeAs 103 = .ok (.aload_n 1, 1) := by decide +kernel
theorem dX0_becomeAs_104 : decode cX0_becomeAs 104 = .ok (.getfield 21, 3) := by decide +kernel
theorem dX0_becomeAs_107 : decode cX0_becomeAs 107 = .ok (.iload_n 2, 1) := by decide +kernel
theorem dX0_becomeAs_108 : decode cX0_becomeAs 108 = .ok (.baload, 1) := by decide +kernel
theorem dX0_becomeAs_109 : decode cX0_becomeAs 109 = .ok (.bastore, 1) := by decide +kernel
theorem dX0_becomeAs_110 : decode cX0_becomeAs 110 = .ok (.iinc 2 1, 3) := by decide +kernel
theorem dX0_becomeAs_113 : decode cX0_becomeAs 113 = .ok (.goto (-21), 3) := by decide +kernel
theorem dX0_becomeAs_116 : decode cX0_becomeAs 116 = .ok (.aload_n 0, 1) := by decide +kernel
theorem dX0_becomeAs_117 : decode cX0_becomeAs 117 = .ok (.aload_n 1, 1) := by decide +kernel
theorem dX0_becomeAs_118 : decode cX0_becomeAs 118 = .ok (.getfield 34, 3) := by decide +kernel
theorem dX0_becomeAs_121 : decode cX0_becomeAs 121 = .ok (.putfield 34, 3) := by decide +kernel
theorem dX0_becomeAs_124 : decode cX0_becomeAs 124 = .ok (.aload_n 0, 1) := by decide +kernel
theorem dX0_becomeAs_125 : decode cX0_becomeAs 125 = .ok (.aload_n 1, 1) := by decide +kernel
theorem dX0_becomeAs_126 : decode cX0_becomeAs 126 = .ok (.getfield 51, 3) := by decide +kernel
theorem dX0_becomeAs_129 : decode cX0_becomeAs 129 = .ok (.putfield 51, 3) := by decide +kernel
theorem dX0_becomeAs_132 : decode cX0_becomeAs 132 = .ok (.aload_n 0, 1) := by decide +kernel
theorem dX0_becomeAs_133 : decode cX0_becomeAs 133 = .ok (.aload_n 1, 1) := by decide +kernel
theorem dX0_becomeAs_134 : decode cX0_becomeAs 134 = .ok (.getfield 61, 3) := by decide +kernel
theorem dX0_becomeAs_137 : decode cX0_becomeAs 137 = .ok (.putfield 61, 3) := by decide +kernel
theorem dX0_becomeAs_140 : decode cX0_becomeAs 140 = .ok (.aload_n 0, 1) := by decide +kernel
theorem dX0_becomeAs_141 : decode cX0_becomeAs 141 = .ok (.aload_n 1, 1) := by decide +kernel
theorem dX0_becomeAs_142 : decode cX0_becomeAs 142 = .ok (.getfield 64, 3) := by decide +kernel
theorem dX0_becomeAs_145 : decode cX0_becomeAs 145 = .ok (.putfield 64, 3) := by decide +kernel
theorem dX0_becomeAs_148 : decode cX0_becomeAs 148 = .ok (.aload_n 0, 1) := by decide +kernel
theorem dX0_becomeAs_149 : decode cX0_becomeAs 149 = .ok (.aload_n 1, 1) := by decide +kernel
theorem dX0_becomeAs_150 : decode cX0_becomeAs 150 = .ok (.getfield 67, 3) := by decide +kernel
theorem dX0_becomeAs_153 : decode cX0_becomeAs 153 = .ok (.putfield 67, 3) := by decide +kernel
theorem dX0_becomeAs_156 : decode cX0_becomeAs 156 = .ok (.aload_n 0, 1) := by decide +kernel
theorem dX0_becomeAs_157 : decode cX0_becomeAs 157 = .ok (.aload_n 1, 1) := by decide +kernel
theorem dX0_becomeAs_158 : decode cX0_becomeAs 158 = .ok (.getfield 70, 3) := by decide +kernel
theorem dX0_becomeAs_161 : decode cX0_becomeAs 161 = .ok (.putfield 70, 3) := by decide +kernel
theorem dX0_becomeAs_164 : decode cX0_becomeAs 164 = .ok (.return_, 1) := by decide +kernel
theorem dX1_init_0 : decode cX1_init 0 = .ok (.aload_n 0, 1) := by decide +kernel
theorem dX1_init_1 : decode cX1_init 1 = .ok (.invokespecial 3, 3) := by decide +kernel
theorem dX1_init_4 : decode cX1_init 4 = .ok (.aload_n 0, 1) := by decide +kernel
theorem dX1_init_5 : decode cX1_init 5 = .ok (.bipush 64, 2) := by decide +kernel
theorem dX1_init_7 : decode cX1_init 7 = .ok (.newarray .int, 2) := by decide +kernel
theorem dX1_init_9 : decode cX1_init 9 = .ok (.putfield 9, 3) := by decide +kernel
theorem dX1_init_12 : decode cX1_init 12 = .ok (.return_, 1) := by decide +kernel
theorem dX1_between_0 : decode cX1_between 0 = .ok (.aload_n 0, 1) := by decide +kernel
theorem dX1_between_1 : decode cX1_between 1 = .ok (.getfield 9, 3) := by decide +kernel
theorem dX1_between_4 : decode cX1_between 4 = .ok (.iload_n 1, 1) := by decide +kernel
theorem dX1_between_5 : decode cX1_between 5 = .ok (.bipush 8, 2) := by decide +kernel
theorem dX1_between_7 : decode cX1_between 7 = .ok (.imul, 1) := by decide +kernel
theorem dX1_between_8 : decode cX1_between 8 = .ok (.iload_n 2, 1) := by decide +kernel
theorem dX1_between_9 : decode cX1_between 9 = .ok (.iadd, 1) := by decide +kernel
theorem dX1_between_10 : decode cX1_between 10 = .ok (.iaload, 1) := by decide +kernel
theorem dX1_between_11 : decode cX1_between 11 = .ok (.ireturn, 1) := by decide +kernel
theorem dX1_become_0 : decode cX1_become 0 = .ok (.aload_n 0, 1) := by decide +kernel
theorem dX1_become_1 : decode cX1_become 1 = .ok (.getfield 9, 3) := by decide +kernel
theorem dX1_become_4 : decode cX1_become 4 = .ok (.iload_n 1, 1) := by decide +kernel
theorem dX1_become_5 : decode cX1_become 5 = .ok (.bipush 8, 2) := by decide +kernel
theorem dX1_become_7 : decode cX1_become 7 = .ok (.imul, 1) := by decide +kernel
theorem dX1_become_8 : decode cX1_become 8 = .ok (.iload_n 2, 1) := by decide +kernel
theorem dX1_become_9 : decode cX1_become 9 = .ok (.iadd, 1) := by decide +kernel
theorem dX1_become_10 : decode cX1_become 10 = .ok (.iload_n 3, 1) := by decide +kernel
theorem dX1_become_11 : decode cX1_become 11 = .ok (.iastore, 1) := by decide +kernel
theorem dX1_become_12 : decode cX1_become 12 = .ok (.return_, 1) := by decide +kernel
theorem dX1_total_0 : decode cX1_total 0 = .ok (.lconst 0, 1) := by decide +kernel
theorem dX1_total_1 : decode cX1_total 1 = .ok (.lstore_n 1, 1) := by decide +kernel
theorem dX1_total_2 : decode cX1_total 2 = .ok (.iconst 0, 1) := by decide +kernel
theorem dX1_total_3 : decode cX1_total 3 = .ok (.istore_n 3, 1) := by decide +kernel
theorem dX1_total_4 : decode cX1_total 4 = .ok (.iload_n 3, 1) := by decide +kernel
theorem dX1_total_5 : decode cX1_total 5 = .ok (.aload_n 0, 1) := by decide +kernel
theorem dX1_total_6 : decode cX1_total 6 = .ok (.getfield 9, 3) := by decide +kernel
theorem dX1_total_9 : decode cX1_total 9 = .ok (.arraylength, 1) := by decide +kernel
theorem dX1_total_10 : decode cX1_total 10 = .ok (.if_icmp .ge 19, 3) := by decide +kernel
theorem dX1_total_13 : decode cX1_total 13 = .ok (.lload_n 1, 1) := by decide +kernel
theorem dX1_total_14 : decode cX1_total 14 = .ok (.aload_n 0, 1) := by decide +kernel
theorem dX1_total_15 : decode cX1_total 15 = .ok (.getfield 9, 3) := by decide +kernel
theorem dX1_total_18 : decode cX1_total 18 = .ok (.iload_n 3, 1) := by decide +kernel
theorem dX1_total_19 : decode cX1_total 19 = .ok (.iaload, 1) := by decide +kernel
theorem dX1_total_20 : decode cX1_total 20 = .ok (.i2l, 1) := by decide +kernel
theorem dX1_total_21 : decode cX1_total 21 = .ok (.ladd, 1) := by decide +kernel
theorem dX1_total_22 : decode cX1_total 22 = .ok (.lstore_n 1, 1) := by decide +kernel
theorem dX1_total_23 : decode cX1_total 23 = .ok (.iinc 3 1, 3) := by decide +kernel
theorem dX1_total_26 : decode cX1_total 26 = .ok (.goto (-22), 3) := by decide +kernel
theorem dX1_total_29 : decode cX1_total 29 = .ok (.lload_n 1, 1) := by decide +kernel
theorem dX1_total_30 : decode cX1_total 30 = .ok (.lreturn, 1) := by decide +kernel
theorem dX1_positionOf_0 : decode cX1_positionOf 0 = .ok (.lconst 0, 1) := by decide +kernel
theorem dX1_positionOf_1 : decode cX1_positionOf 1 = .ok (.lstore_n 2, 1) := by decide +kernel
theorem dX1_positionOf_2 : decode cX1_positionOf 2 = .ok (.iconst 0, 1) := by decide +kernel
theorem dX1_positionOf_3 : decode cX1_positionOf 3 = .ok (.istore 4, 2) := by decide +kernel
theorem dX1_positionOf_5 : decode cX1_positionOf 5 = .ok (.iload 4, 2) := by decide +kernel
theorem dX1_positionOf_7 : decode cX1_positionOf 7 = .ok (.bipush 8, 2) := by decide +kernel
theorem dX1_positionOf_9 : decode cX1_positionOf 9 = .ok (.if_icmp .ge 28, 3) := by decide +kernel
theorem dX1_positionOf_12 : decode cX1_positionOf 12 = .ok (.lload_n 2, 1) := by decide +kernel
theorem dX1_positionOf_13 : decode cX1_positionOf 13 = .ok (.aload_n 0, 1) := by decide +kernel
theorem dX1_positionOf_14 : decode cX1_positionOf 14 = .ok (.iload 4, 2) := by decide +kernel
theorem dX1_positionOf_16 : decode cX1_positionOf 16 = .ok (.iload_n 1, 1) := by decide +kernel
theorem dX1_positionOf_17 : decode cX1_positionOf 17 = .ok (.invokevirtual 15, 3) := by decide +kernel
theorem dX1_positionOf_20 : decode cX1_positionOf 20 = .ok (.aload_n 0, 1) := by decide +kernel
theorem dX1_positionOf_21 : decode cX1_positionOf 21 = .ok (.iload_n 1, 1) := by decide +kernel
theorem dX1_positionOf_22 : decode cX1_positionOf 22 = .ok (.iload 4, 2) := by decide +kernel
theorem dX1_positionOf_24 : decode cX1_positionOf 24 = .ok (.invokevirtual 15, 3) := by decide +kernel
theorem dX1_positionOf_27 : decode cX1_positionOf 27 = .ok (.isub, 1) := by decide +kernel
theorem dX1_positionOf_28 : decode cX1_positionOf 28 = .ok (.i2l, 1) := by decide +kernel
theorem dX1_positionOf_29 : decode cX1_positionOf 29 = .ok (.ladd, 1) := by decide +kernel
theorem dX1_positionOf_30 : decode cX1_positionOf 30 = .ok (.lstore_n 2, 1) := by decide +kernel
theorem dX1_positionOf_31 : decode cX1_positionOf 31 = .ok (.iinc 4 1, 3) := by decide +kernel
theorem dX1_positionOf_34 : decode cX1_positionOf 34 = .ok (.goto (-29), 3) := by decide +kernel
theorem dX1_positionOf_37 : decode cX1_positionOf 37 = .ok (.lload_n 2, 1) := by decide +kernel
theorem dX1_positionOf_38 : decode cX1_positionOf 38 = .ok (.lreturn, 1) := by decide +kernel
theorem dX1_becomeAs_0 : decode cX1_becomeAs 0 = .ok (.aload_n 1, 1) := by decide +kernel
theorem dX1_becomeAs_1 : decode cX1_becomeAs 1 = .ok (.getfield 9, 3) := by decide +kernel
theorem dX1_becomeAs_4 : decode cX1_becomeAs 4 = .ok (.iconst 0, 1) := by decide +kernel
theorem dX1_becomeAs_5 : decode cX1_becomeAs 5 = .ok (.aload_n 0, 1) := by decide +kernel
theorem dX1_becomeAs_6 : decode cX1_becomeAs 6 = .ok (.getfield 9, 3) := by decide +kernel
theorem dX1_becomeAs_9 : decode cX1_becomeAs 9 = .ok (.iconst 0, 1) := by decide +kernel
theorem dX1_becomeAs_10 : decode cX1_becomeAs 10 = .ok (.aload_n 0, 1) := by decide +kernel
theorem dX1_becomeAs_11 : decode cX1_becomeAs 11 = .ok (.getfield 9, 3) := by decide +kernel
theorem dX1_becomeAs_14 : decode cX1_becomeAs 14 = .ok (.arraylength, 1) := by decide +kernel
theorem dX1_becomeAs_15 : decode cX1_becomeAs 15 = .ok (.invokestatic 19, 3) := by decide +kernel
theorem dX1_becomeAs_18 : decode cX1_becomeAs 18 = .ok (.return_, 1) := by decide +kernel
theorem dX2_isKind_0 : decode cX2_isKind 0 = .ok (.iload_n 0, 1) := by decide +kernel
theorem dX2_isKind_1 : decode cX2_isKind 1 = .ok (.ifCond .lt 12, 3) := by decide +kernel
theorem dX2_isKind_4 : decode cX2_isKind 4 = .ok (.iload_n 0, 1) := by decide +kernel
theorem dX2_isKind_5 : decode cX2_isKind 5 = .ok (.iconst 5, 1) := by decide +kernel
theorem dX2_isKind_6 : decode cX2_isKind 6 = .ok (.if_icmp .ge 7, 3) := by decide +kernel
theorem dX2_isKind_9 : decode cX2_isKind 9 = .ok (.iconst 1, 1) := by decide +kernel
theorem dX2_isKind_10 : decode cX2_isKind 10 = .ok (.goto 4, 3) := by decide +kernel
theorem dX2_isKind_13 : decode cX2_isKind 13 = .ok (.iconst 0, 1) := by decide +kernel
theorem dX2_isKind_14 : decode cX2_isKind 14 = .ok (.ireturn, 1) := by decide +kernel
theorem dX2_feeOf_0 : decode cX2_feeOf 0 = .ok (.iload_n 0, 1) := by decide +kernel
theorem dX2_feeOf_1 : decode cX2_feeOf 1 = .ok (.lookupswitch 36 #[(1, 27), (4, 29)], 27) := by decide +kernel
theorem dX2_feeOf_28 : decode cX2_feeOf 28 = .ok (.iconst 1, 1) := by decide +kernel
theorem dX2_feeOf_29 : decode cX2_feeOf 29 = .ok (.ireturn, 1) := by decide +kernel
theorem dX2_feeOf_30 : decode cX2_feeOf 30 = .ok (.iload_n 1, 1) := by decide +kernel
theorem dX2_feeOf_31 : decode cX2_feeOf 31 = .ok (.bipush 10, 2) := by decide +kernel
theorem dX2_feeOf_33 : decode cX2_feeOf 33 = .ok (.idiv, 1) := by decide +kernel
theorem dX2_feeOf_34 : decode cX2_feeOf 34 = .ok (.iconst 1, 1) := by decide +kernel
theorem dX2_feeOf_35 : decode cX2_feeOf 35 = .ok (.iadd, 1) := by decide +kernel
theorem dX2_feeOf_36 : decode cX2_feeOf 36 = .ok (.ireturn, 1) := by decide +kernel
theorem dX2_feeOf_37 : decode cX2_feeOf 37 = .ok (.iconst 0, 1) := by decide +kernel
theorem dX2_feeOf_38 : decode cX2_feeOf 38 = .ok (.ireturn, 1) := by decide +kernel
theorem dX2_floorOf_0 : decode cX2_floorOf 0 = .ok (.iload_n 0, 1) := by decide +kernel
theorem dX2_floorOf_1 : decode cX2_floorOf 1 = .ok (.tableswitch 38 1 3 #[27, 30, 33], 27) := by decide +kernel
theorem dX2_floorOf_28 : decode cX2_floorOf 28 = .ok (.bipush 10, 2) := by decide +kernel
theorem dX2_floorOf_30 : decode cX2_floorOf 30 = .ok (.ireturn, 1) := by decide +kernel
theorem dX2_floorOf_31 : decode cX2_floorOf 31 = .ok (.iload_n 1, 1) := by decide +kernel
theorem dX2_floorOf_32 : decode cX2_floorOf 32 = .ok (.ineg, 1) := by decide +kernel
theorem dX2_floorOf_33 : decode cX2_floorOf 33 = .ok (.ireturn, 1) := by decide +kernel
theorem dX2_floorOf_34 : decode cX2_floorOf 34 = .ok (.iload_n 1, 1) := by decide +kernel
theorem dX2_floorOf_35 : decode cX2_floorOf 35 = .ok (.ineg, 1) := by decide +kernel
theorem dX2_floorOf_36 : decode cX2_floorOf 36 = .ok (.iload_n 1, 1) := by decide +kernel
theorem dX2_floorOf_37 : decode cX2_floorOf 37 = .ok (.isub, 1) := by decide +kernel
theorem dX2_floorOf_38 : decode cX2_floorOf 38 = .ok (.ireturn, 1) := by decide +kernel
theorem dX2_floorOf_39 : decode cX2_floorOf 39 = .ok (.iconst 0, 1) := by decide +kernel
theorem dX2_floorOf_40 : decode cX2_floorOf 40 = .ok (.ireturn, 1) := by decide +kernel
theorem dX2_isOrIsUnder_0 : decode cX2_isOrIsUnder 0 = .ok (.iload_n 0, 1) := by decide +kernel
theorem dX2_isOrIsUnder_1 : decode cX2_isOrIsUnder 1 = .ok (.iload_n 1, 1) := by decide +kernel
theorem dX2_isOrIsUnder_2 : decode cX2_isOrIsUnder 2 = .ok (.if_icmp .eq 7, 3) := by decide +kernel
theorem dX2_isOrIsUnder_5 : decode cX2_isOrIsUnder 5 = .ok (.iload_n 1, 1) := by decide +kernel
theorem dX2_isOrIsUnder_6 : decode cX2_isOrIsUnder 6 = .ok (.ifCond .ne 5, 3) := by decide +kernel
theorem dX2_isOrIsUnder_9 : decode cX2_isOrIsUnder 9 = .ok (.iconst 1, 1) := by decide +kernel
theorem dX2_isOrIsUnder_10 : decode cX2_isOrIsUnder 10 = .ok (.ireturn, 1) := by decide +kernel
theorem dX2_isOrIsUnder_11 : decode cX2_isOrIsUnder 11 = .ok (.iload_n 0, 1) := by decide +kernel
theorem dX2_isOrIsUnder_12 : decode cX2_isOrIsUnder 12 = .ok (.iconst 3, 1) := by decide +kernel
theorem dX2_isOrIsUnder_13 : decode cX2_isOrIsUnder 13 = .ok (.if_icmp .ne 8, 3) := by decide +kernel
theorem dX2_isOrIsUnder_16 : decode cX2_isOrIsUnder 16 = .ok (.iload_n 1, 1) := by decide +kernel
theorem dX2_isOrIsUnder_17 : decode cX2_isOrIsUnder 17 = .ok (.iconst 2, 1) := by decide +kernel
theorem dX2_isOrIsUnder_18 : decode cX2_isOrIsUnder 18 = .ok (.if_icmp .eq 13, 3) := by decide +kernel
theorem dX2_isOrIsUnder_21 : decode cX2_isOrIsUnder 21 = .ok (.iload_n 0, 1) := by decide +kernel
theorem dX2_isOrIsUnder_22 : decode cX2_isOrIsUnder 22 = .ok (.iconst 4, 1) := by decide +kernel
theorem dX2_isOrIsUnder_23 : decode cX2_isOrIsUnder 23 = .ok (.if_icmp .ne 12, 3) := by decide +kernel
theorem dX2_isOrIsUnder_26 : decode cX2_isOrIsUnder 26 = .ok (.iload_n 1, 1) := by decide +kernel
theorem dX2_isOrIsUnder_27 : decode cX2_isOrIsUnder 27 = .ok (.iconst 1, 1) := by decide +kernel
theorem dX2_isOrIsUnder_28 : decode cX2_isOrIsUnder 28 = .ok (.if_icmp .ne 7, 3) := by decide +kernel
theorem dX2_isOrIsUnder_31 : decode cX2_isOrIsUnder 31 = .ok (.iconst 1, 1) := by decide +kernel
theorem dX2_isOrIsUnder_32 : decode cX2_isOrIsUnder 32 = .ok (.goto 4, 3) := by decide +kernel
theorem dX2_isOrIsUnder_35 : decode cX2_isOrIsUnder 35 = .ok (.iconst 0, 1) := by decide +kernel
theorem dX2_isOrIsUnder_36 : decode cX2_isOrIsUnder 36 = .ok (.ireturn, 1) := by decide +kernel
theorem dX3_init_0 : decode cX3_init 0 = .ok (.aload_n 0, 1) := by decide +kernel
theorem dX3_init_1 : decode cX3_init 1 = .ok (.invokespecial 3, 3) := by decide +kernel
theorem dX3_init_4 : decode cX3_init 4 = .ok (.aload_n 0, 1) := by decide +kernel
theorem dX3_init_5 : decode cX3_init 5 = .ok (.bipush 80, 2) := by decide +kernel
theorem dX3_init_7 : decode cX3_init 7 = .ok (.newarray .int, 2) := by decide +kernel
theorem dX3_init_9 : decode cX3_init 9 = .ok (.putfield 9, 3) := by decide +kernel
theorem dX3_init_12 : decode cX3_init 12 = .ok (.aload_n 0, 1) := by decide +kernel
theorem dX3_init_13 : decode cX3_init 13 = .ok (.bipush 80, 2) := by decide +kernel
theorem dX3_init_15 : decode cX3_init 15 = .ok (.newarray .int, 2) := by decide +kernel
theorem dX3_init_17 : decode cX3_init 17 = .ok (.putfield 15, 3) := by decide +kernel
theorem dX3_init_20 : decode cX3_init 20 = .ok (.return_, 1) := by decide +kernel
theorem dX3_takeOver_0 : decode cX3_takeOver 0 = .ok (.aload_n 1, 1) := by decide +kernel
theorem dX3_takeOver_1 : decode cX3_takeOver 1 = .ok (.getfield 18, 3) := by decide +kernel
theorem dX3_takeOver_4 : decode cX3_takeOver 4 = .ok (.iconst 0, 1) := by decide +kernel
theorem dX3_takeOver_5 : decode cX3_takeOver 5 = .ok (.aload_n 0, 1) := by decide +kernel
theorem dX3_takeOver_6 : decode cX3_takeOver 6 = .ok (.getfield 9, 3) := by decide +kernel
theorem dX3_takeOver_9 : decode cX3_takeOver 9 = .ok (.iconst 0, 1) := by decide +kernel
theorem dX3_takeOver_10 : decode cX3_takeOver 10 = .ok (.bipush 80, 2) := by decide +kernel
theorem dX3_takeOver_12 : decode cX3_takeOver 12 = .ok (.invokestatic 21, 3) := by decide +kernel
theorem dX3_takeOver_15 : decode cX3_takeOver 15 = .ok (.aload_n 0, 1) := by decide +kernel
theorem dX3_takeOver_16 : decode cX3_takeOver 16 = .ok (.aload_n 1, 1) := by decide +kernel
theorem dX3_takeOver_17 : decode cX3_takeOver 17 = .ok (.getfield 27, 3) := by decide +kernel
theorem dX3_takeOver_20 : decode cX3_takeOver 20 = .ok (.putfield 31, 3) := by decide +kernel
theorem dX3_takeOver_23 : decode cX3_takeOver 23 = .ok (.return_, 1) := by decide +kernel
theorem dX3_byteAt_0 : decode cX3_byteAt 0 = .ok (.iload_n 1, 1) := by decide +kernel
theorem dX3_byteAt_1 : decode cX3_byteAt 1 = .ok (.ifCond .lt 20, 3) := by decide +kernel
theorem dX3_byteAt_4 : decode cX3_byteAt 4 = .ok (.iload_n 1, 1) := by decide +kernel
theorem dX3_byteAt_5 : decode cX3_byteAt 5 = .ok (.aload_n 0, 1) := by decide +kernel
theorem dX3_byteAt_6 : decode cX3_byteAt 6 = .ok (.getfield 31, 3) := by decide +kernel
theorem dX3_byteAt_9 : decode cX3_byteAt 9 = .ok (.if_icmp .ge 12, 3) := by decide +kernel
theorem dX3_byteAt_12 : decode cX3_byteAt 12 = .ok (.aload_n 0, 1) := by decide +kernel
theorem dX3_byteAt_13 : decode cX3_byteAt 13 = .ok (.getfield 9, 3) := by decide +kernel
theorem dX3_byteAt_16 : decode cX3_byteAt 16 = .ok (.iload_n 1, 1) := by decide +kernel
theorem dX3_byteAt_17 : decode cX3_byteAt 17 = .ok (.iaload, 1) := by decide +kernel
theorem dX3_byteAt_18 : decode cX3_byteAt 18 = .ok (.goto 4, 3) := by decide +kernel
theorem dX3_byteAt_21 : decode cX3_byteAt 21 = .ok (.iconst (-1), 1) := by decide +kernel
theorem dX3_byteAt_22 : decode cX3_byteAt 22 = .ok (.ireturn, 1) := by decide +kernel
theorem dX3_behindItem_0 : decode cX3_behindItem 0 = .ok (.iload_n 1, 1) := by decide +kernel
theorem dX3_behindItem_1 : decode cX3_behindItem 1 = .ok (.ifCond .lt 20, 3) := by decide +kernel
theorem dX3_behindItem_4 : decode cX3_behindItem 4 = .ok (.iload_n 1, 1) := by decide +kernel
theorem dX3_behindItem_5 : decode cX3_behindItem 5 = .ok (.aload_n 0, 1) := by decide +kernel
theorem dX3_behindItem_6 : decode cX3_behindItem 6 = .ok (.getfield 31, 3) := by decide +kernel
theorem dX3_behindItem_9 : decode cX3_behindItem 9 = .ok (.if_icmp .ge 12, 3) := by decide +kernel
theorem dX3_behindItem_12 : decode cX3_behindItem 12 = .ok (.aload_n 0, 1) := by decide +kernel
theorem dX3_behindItem_13 : decode cX3_behindItem 13 = .ok (.getfield 15, 3) := by decide +kernel
theorem dX3_behindItem_16 : decode cX3_behindItem 16 = .ok (.iload_n 1, 1) := by decide +kernel
theorem dX3_behindItem_17 : decode cX3_behindItem 17 = .ok (.iaload, 1) := by decide +kernel
theorem dX3_behindItem_18 : decode cX3_behindItem 18 = .ok (.goto 7, 3) := by decide +kernel
theorem dX3_behindItem_21 : decode cX3_behindItem 21 = .ok (.aload_n 0, 1) := by decide +kernel
theorem dX3_behindItem_22 : decode cX3_behindItem 22 = .ok (.getfield 31, 3) := by decide +kernel
theorem dX3_behindItem_25 : decode cX3_behindItem 25 = .ok (.ireturn, 1) := by decide +kernel
theorem dX3_figureAt_0 : decode cX3_figureAt 0 = .ok (.aload_n 0, 1) := by decide +kernel
theorem dX3_figureAt_1 : decode cX3_figureAt 1 = .ok (.iload_n 1, 1) := by decide +kernel
theorem dX3_figureAt_2 : decode cX3_figureAt 2 = .ok (.invokevirtual 32, 3) := by decide +kernel
theorem dX3_figureAt_5 : decode cX3_figureAt 5 = .ok (.bipush 48, 2) := by decide +kernel
theorem dX3_figureAt_7 : decode cX3_figureAt 7 = .ok (.isub, 1) := by decide +kernel
theorem dX3_figureAt_8 : decode cX3_figureAt 8 = .ok (.ireturn, 1) := by decide +kernel
theorem dX3_numberBetween_0 : decode cX3_numberBetween 0 = .ok (.iconst 0, 1) := by decide +kernel
theorem dX3_numberBetween_1 : decode cX3_numberBetween 1 = .ok (.istore_n 3, 1) := by decide +kernel
theorem dX3_numberBetween_2 : decode cX3_numberBetween 2 = .ok (.iload_n 1, 1) := by decide +kernel
theorem dX3_numberBetween_3 : decode cX3_numberBetween 3 = .ok (.istore 4, 2) := by decide +kernel
theorem dX3_numberBetween_5 : decode cX3_numberBetween 5 = .ok (.iload 4, 2) := by decide +kernel
theorem dX3_numberBetween_7 : decode cX3_numberBetween 7 = .ok (.iload_n 2, 1) := by decide +kernel
theorem dX3_numberBetween_8 : decode cX3_numberBetween 8 = .ok (.if_icmp .ge 24, 3) := by decide +kernel
theorem dX3_numberBetween_11 : decode cX3_numberBetween 11 = .ok (.iload_n 3, 1) := by decide +kernel
theorem dX3_numberBetween_12 : decode cX3_numberBetween 12 = .ok (.bipush 10, 2) := by decide +kernel
theorem dX3_numberBetween_14 : decode cX3_numberBetween 14 = .ok (.imul, 1) := by decide +kernel
theorem dX3_numberBetween_15 : decode cX3_numberBetween 15 = .ok (.aload_n 0, 1) := by decide +kernel
theorem dX3_numberBetween_16 : decode cX3_numberBetween 16 = .ok (.iload 4, 2) := by decide +kernel
theorem dX3_numberBetween_18 : decode cX3_numberBetween 18 = .ok (.invokevirtual 32, 3) := by decide +kernel
theorem dX3_numberBetween_21 : decode cX3_numberBetween 21 = .ok (.iadd, 1) := by decide +kernel
theorem dX3_numberBetween_22 : decode cX3_numberBetween 22 = .ok (.bipush 48, 2) := by decide +kernel
theorem dX3_numberBetween_24 : decode cX3_numberBetween 24 = .ok (.isub, 1) := by decide +kernel
theorem dX3_numberBetween_25 : decode cX3_numberBetween 25 = .ok (.istore_n 3, 1) := by decide +kernel
theorem dX3_numberBetween_26 : decode cX3_numberBetween 26 = .ok (.iinc 4 1, 3) := by decide +kernel
theorem dX3_numberBetween_29 : decode cX3_numberBetween 29 = .ok (.goto (-24), 3) := by decide +kernel
theorem dX3_numberBetween_32 : decode cX3_numberBetween 32 = .ok (.iload_n 3, 1) := by decide +kernel
theorem dX3_numberBetween_33 : decode cX3_numberBetween 33 = .ok (.ireturn, 1) := by decide +kernel
theorem dX4_init_0 : decode cX4_init 0 = .ok (.aload_n 0, 1) := by decide +kernel
theorem dX4_init_1 : decode cX4_init 1 = .ok (.invokespecial 3, 3) := by decide +kernel
theorem dX4_init_4 : decode cX4_init 4 = .ok (.aload_n 0, 1) := by decide +kernel
theorem dX4_init_5 : decode cX4_init 5 = .ok (.bipush 8, 2) := by decide +kernel
theorem dX4_init_7 : decode cX4_init 7 = .ok (.newarray .int, 2) := by decide +kernel
theorem dX4_init_9 : decode cX4_init 9 = .ok (.putfield 9, 3) := by decide +kernel
theorem dX4_init_12 : decode cX4_init 12 = .ok (.return_, 1) := by decide +kernel
theorem dX4_faultOf_0 : decode cX4_faultOf 0 = .ok (.aload_n 0, 1) := by decide +kernel
theorem dX4_faultOf_1 : decode cX4_faultOf 1 = .ok (.aload_n 1, 1) := by decide +kernel
theorem dX4_faultOf_2 : decode cX4_faultOf 2 = .ok (.putfield 15, 3) := by decide +kernel
theorem dX4_faultOf_5 : decode cX4_faultOf 5 = .ok (.aload_n 0, 1) := by decide +kernel
theorem dX4_faultOf_6 : decode cX4_faultOf 6 = .ok (.iconst 0, 1) := by decide +kernel
theorem dX4_faultOf_7 : decode cX4_faultOf 7 = .ok (.putfield 19, 3) := by decide +kernel
theorem dX4_faultOf_10 : decode cX4_faultOf 10 = .ok (.aload_n 0, 1) := by decide +kernel
theorem dX4_faultOf_11 : decode cX4_faultOf 11 = .ok (.iconst 0, 1) := by decide +kernel
theorem dX4_faultOf_12 : decode cX4_faultOf 12 = .ok (.putfield 23, 3) := by decide +kernel
theorem dX4_faultOf_15 : decode cX4_faultOf 15 = .ok (.aload_n 0, 1) := by decide +kernel
theorem dX4_faultOf_16 : decode cX4_faultOf 16 = .ok (.iconst (-1), 1) := by decide +kernel
theorem dX4_faultOf_17 : decode cX4_faultOf 17 = .ok (.putfield 26, 3) := by decide +kernel
theorem dX4_faultOf_20 : decode cX4_faultOf 20 = .ok (.iconst 0, 1) := by decide +kernel
theorem dX4_faultOf_21 : decode cX4_faultOf 21 = .ok (.istore_n 2, 1) := by decide +kernel
theorem dX4_faultOf_22 : decode cX4_faultOf 22 = .ok (.iconst 0, 1) := by decide +kernel
theorem dX4_faultOf_23 : decode cX4_faultOf 23 = .ok (.istore_n 3, 1) := by decide +kernel
theorem dX4_faultOf_24 : decode cX4_faultOf 24 = .ok (.iload_n 3, 1) := by decide +kernel
theorem dX4_faultOf_25 : decode cX4_faultOf 25 = .ok (.aload_n 1, 1) := by decide +kernel
theorem dX4_faultOf_26 : decode cX4_faultOf 26 = .ok (.getfield 29, 3) := by decide +kernel
theorem dX4_faultOf_29 : decode cX4_faultOf 29 = .ok (.if_icmp .ge 31, 3) := by decide +kernel
theorem dX4_faultOf_32 : decode cX4_faultOf 32 = .ok (.iload_n 2, 1) := by decide +kernel
theorem dX4_faultOf_33 : decode cX4_faultOf 33 = .ok (.aload_n 1, 1) := by decide +kernel
theorem dX4_faultOf_34 : decode cX4_faultOf 34 = .ok (.getfield 29, 3) := by decide +kernel
theorem dX4_faultOf_37 : decode cX4_faultOf 37 = .ok (.if_icmp .ge 23, 3) := by decide +kernel
theorem dX4_faultOf_40 : decode cX4_faultOf 40 = .ok (.aload_n 0, 1) := by decide +kernel
theorem dX4_faultOf_41 : decode cX4_faultOf 41 = .ok (.getfield 26, 3) := by decide +kernel
theorem dX4_faultOf_44 : decode cX4_faultOf 44 = .ok (.iconst (-1), 1) := by decide +kernel
theorem dX4_faultOf_45 : decode cX4_faultOf 45 = .ok (.if_icmp .ne 15, 3) := by decide +kernel
theorem dX4_faultOf_48 : decode cX4_faultOf 48 = .ok (.aload_n 0, 1) := by decide +kernel
theorem dX4_faultOf_49 : decode cX4_faultOf 49 = .ok (.iload_n 2, 1) := by decide +kernel
theorem dX4_faultOf_50 : decode cX4_faultOf 50 = .ok (.invokevirtual 34, 3) := by decide +kernel
theorem dX4_faultOf_53 : decode cX4_faultOf 53 = .ok (.istore_n 2, 1) := by decide +kernel
theorem dX4_faultOf_54 : decode cX4_faultOf 54 = .ok (.iinc 3 1, 3) := by decide +kernel
theorem dX4_faultOf_57 : decode cX4_faultOf 57 = .ok (.goto (-33), 3) := by decide +kernel
theorem dX4_faultOf_60 : decode cX4_faultOf 60 = .ok (.aload_n 0, 1) := by decide +kernel
theorem dX4_faultOf_61 : decode cX4_faultOf 61 = .ok (.getfield 26, 3) := by decide +kernel
theorem dX4_faultOf_64 : decode cX4_faultOf 64 = .ok (.iconst (-1), 1) := by decide +kernel
theorem dX4_faultOf_65 : decode cX4_faultOf 65 = .ok (.if_icmp .ne 25, 3) := by decide +kernel
theorem dX4_faultOf_68 : decode cX4_faultOf 68 = .ok (.aload_n 0, 1) := by decide +kernel
theorem dX4_faultOf_69 : decode cX4_faultOf 69 = .ok (.getfield 19, 3) := by decide +kernel
theorem dX4_faultOf_72 : decode cX4_faultOf 72 = .ok (.ifCond .gt 10, 3) := by decide +kernel
theorem dX4_faultOf_75 : decode cX4_faultOf 75 = .ok (.aload_n 1, 1) := by decide +kernel
theorem dX4_faultOf_76 : decode cX4_faultOf 76 = .ok (.getfield 29, 3) := by decide +kernel
theorem dX4_faultOf_79 : decode cX4_faultOf 79 = .ok (.ifCond .ne 11, 3) := by decide +kernel
theorem dX4_faultOf_82 : decode cX4_faultOf 82 = .ok (.aload_n 0, 1) := by decide +kernel
theorem dX4_faultOf_83 : decode cX4_faultOf 83 = .ok (.aload_n 1, 1) := by decide +kernel
theorem dX4_faultOf_84 : decode cX4_faultOf 84 = .ok (.getfield 29, 3) := by decide +kernel
theorem dX4_faultOf_87 : decode cX4_faultOf 87 = .ok (.putfield 26, 3) := by decide +kernel
theorem dX4_faultOf_90 : decode cX4_faultOf 90 = .ok (.aload_n 0, 1) := by decide +kernel
theorem dX4_faultOf_91 : decode cX4_faultOf 91 = .ok (.getfield 26, 3) := by decide +kernel
theorem dX4_faultOf_94 : decode cX4_faultOf 94 = .ok (.ireturn, 1) := by decide +kernel
theorem dX4_step_0 : decode cX4_step 0 = .ok (.aload_n 0, 1) := by decide +kernel
theorem dX4_step_1 : decode cX4_step 1 = .ok (.getfield 15, 3) := by decide +kernel
theorem dX4_step_4 : decode cX4_step 4 = .ok (.iload_n 1, 1) := by decide +kernel
theorem dX4_step_5 : decode cX4_step 5 = .ok (.invokevirtual 38, 3) := by decide +kernel
theorem dX4_step_8 : decode cX4_step 8 = .ok (.lookupswitch 227 #[(40, 124), (41, 150), (60, 144), (62, 174), (91, 144), (93, 166), (97, 188), (98, 194), (99, 194), (110, 188), (112, 182), (120, 218), (123, 134), (125, 158)], 124) := by decide +kernel
theorem dX4_step_132 : decode cX4_step 132 = .ok (.aload_n 0, 1) := by decide +kernel
theorem dX4_step_133 : decode cX4_step 133 = .ok (.iload_n 1, 1) := by decide +kernel
theorem dX4_step_134 : decode cX4_step 134 = .ok (.bipush 48, 2) := by decide +kernel
theorem dX4_step_136 : decode cX4_step 136 = .ok (.bipush 55, 2) := by decide +kernel
theorem dX4_step_138 : decode cX4_step 138 = .ok (.invokevirtual 41, 3) := by decide +kernel
theorem dX4_step_141 : decode cX4_step 141 = .ok (.ireturn, 1) := by decide +kernel
theorem dX4_step_142 : decode cX4_step 142 = .ok (.aload_n 0, 1) := by decide +kernel
theorem dX4_step_143 : decode cX4_step 143 = .ok (.iload_n 1, 1) := by decide +kernel
theorem dX4_step_144 : decode cX4_step 144 = .ok (.bipush 49, 2) := by decide +kernel
theorem dX4_step_146 : decode cX4_step 146 = .ok (.bipush 57, 2) := by decide +kernel
theorem dX4_step_148 : decode cX4_step 148 = .ok (.invokevirtual 41, 3) := by decide +kernel
theorem dX4_step_151 : decode cX4_step 151 = .ok (.ireturn, 1) := by decide +kernel
theorem dX4_step_152 : decode cX4_step 152 = .ok (.aload_n 0, 1) := by decide +kernel
theorem dX4_step_153 : decode cX4_step 153 = .ok (.iload_n 1, 1) := by decide +kernel
theorem dX4_step_154 : decode cX4_step 154 = .ok (.invokevirtual 45, 3) := by decide +kernel
theorem dX4_step_157 : decode cX4_step 157 = .ok (.ireturn, 1) := by decide +kernel
theorem dX4_step_158 : decode cX4_step 158 = .ok (.aload_n 0, 1) := by decide +kernel
theorem dX4_step_159 : decode cX4_step 159 = .ok (.iload_n 1, 1) := by decide +kernel
theorem dX4_step_160 : decode cX4_step 160 = .ok (.bipush 40, 2) := by decide +kernel
theorem dX4_step_162 : decode cX4_step 162 = .ok (.invokevirtual 48, 3) := by decide +kernel
theorem dX4_step_165 : decode cX4_step 165 = .ok (.ireturn, 1) := by decide +kernel
theorem dX4_step_166 : decode cX4_step 166 = .ok (.aload_n 0, 1) := by decide +kernel
theorem dX4_step_167 : decode cX4_step 167 = .ok (.iload_n 1, 1) := by decide +kernel
theorem dX4_step_168 : decode cX4_step 168 = .ok (.bipush 123, 2) := by decide +kernel
theorem dX4_step_170 : decode cX4_step 170 = .ok (.invokevirtual 48, 3) := by decide +kernel
theorem dX4_step_173 : decode cX4_step 173 = .ok (.ireturn, 1) := by decide +kernel
theorem dX4_step_174 : decode cX4_step 174 = .ok (.aload_n 0, 1) := by decide +kernel
theorem dX4_step_175 : decode cX4_step 175 = .ok (.iload_n 1, 1) := by decide +kernel
theorem dX4_step_176 : decode cX4_step 176 = .ok (.bipush 91, 2) := by decide +kernel
theorem dX4_step_178 : decode cX4_step 178 = .ok (.invokevirtual 48, 3) := by decide +kernel
theorem dX4_step_181 : decode cX4_step 181 = .ok (.ireturn, 1) := by decide +kernel
theorem dX4_step_182 : decode cX4_step 182 = .ok (.aload_n 0, 1) := by decide +kernel
theorem dX4_step_183 : decode cX4_step 183 = .ok (.iload_n 1, 1) := by decide +kernel
theorem dX4_step_184 : decode cX4_step 184 = .ok (.bipush 60, 2) := by decide +kernel
theorem dX4_step_186 : decode cX4_step 186 = .ok (.invokevirtual 48, 3) := by decide +kernel
theorem dX4_step_189 : decode cX4_step 189 = .ok (.ireturn, 1) := by decide +kernel
theorem dX4_step_190 : decode cX4_step 190 = .ok (.aload_n 0, 1) := by decide +kernel
theorem dX4_step_191 : decode cX4_step 191 = .ok (.iload_n 1, 1) := by decide +kernel
theorem dX4_step_192 : decode cX4_step 192 = .ok (.invokevirtual 52, 3) := by decide +kernel
theorem dX4_step_195 : decode cX4_step 195 = .ok (.ireturn, 1) := by decide +kernel
theorem dX4_step_196 : decode cX4_step 196 = .ok (.aload_n 0, 1) := by decide +kernel
theorem dX4_step_197 : decode cX4_step 197 = .ok (.iload_n 1, 1) := by decide +kernel
theorem dX4_step_198 : decode cX4_step 198 = .ok (.invokevirtual 55, 3) := by decide +kernel
theorem dX4_step_201 : decode cX4_step 201 = .ok (.ireturn, 1) := by decide +kernel
theorem dX4_step_202 : decode cX4_step 202 = .ok (.aload_n 0, 1) := by decide +kernel
theorem dX4_step_203 : decode cX4_step 203 = .ok (.getfield 23, 3) := by decide +kernel
theorem dX4_step_206 : decode cX4_step 206 = .ok (.ifCond .le 14, 3) := by decide +kernel
theorem dX4_step_209 : decode cX4_step 209 = .ok (.aload_n 0, 1) := by decide +kernel
theorem dX4_step_210 : decode cX4_step 210 = .ok (.iload_n 1, 1) := by decide +kernel
theorem dX4_step_211 : decode cX4_step 211 = .ok (.iload_n 1, 1) := by decide +kernel
theorem dX4_step_212 : decode cX4_step 212 = .ok (.iconst 1, 1) := by decide +kernel
theorem dX4_step_213 : decode cX4_step 213 = .ok (.iadd, 1) := by decide +kernel
theorem dX4_step_214 : decode cX4_step 214 = .ok (.invokevirtual 58, 3) := by decide +kernel
theorem dX4_step_217 : decode cX4_step 217 = .ok (.goto 8, 3) := by decide +kernel
theorem dX4_step_220 : decode cX4_step 220 = .ok (.aload_n 0, 1) := by decide +kernel
theorem dX4_step_221 : decode cX4_step 221 = .ok (.iload_n 1, 1) := by decide +kernel
theorem dX4_step_222 : decode cX4_step 222 = .ok (.invokevirtual 61, 3) := by decide +kernel
theorem dX4_step_225 : decode cX4_step 225 = .ok (.ireturn, 1) := by decide +kernel
theorem dX4_step_226 : decode cX4_step 226 = .ok (.aload_n 0, 1) := by decide +kernel
theorem dX4_step_227 : decode cX4_step 227 = .ok (.iload_n 1, 1) := by decide +kernel
theorem dX4_step_228 : decode cX4_step 228 = .ok (.iload_n 1, 1) := by decide +kernel
theorem dX4_step_229 : decode cX4_step 229 = .ok (.iconst 1, 1) := by decide +kernel
theorem dX4_step_230 : decode cX4_step 230 = .ok (.iadd, 1) := by decide +kernel
theorem dX4_step_231 : decode cX4_step 231 = .ok (.invokevirtual 58, 3) := by decide +kernel
theorem dX4_step_234 : decode cX4_step 234 = .ok (.ireturn, 1) := by decide +kernel
theorem dX4_step_235 : decode cX4_step 235 = .ok (.aload_n 0, 1) := by decide +kernel
theorem dX4_step_236 : decode cX4_step 236 = .ok (.iload_n 1, 1) := by decide +kernel
theorem dX4_step_237 : decode cX4_step 237 = .ok (.invokevirtual 61, 3) := by decide +kernel
theorem dX4_step_240 : decode cX4_step 240 = .ok (.ireturn, 1) := by decide +kernel
theorem dX4_openingWithFigure_0 : decode cX4_openingWithFigure 0 = .ok (.aload_n 0, 1) := by decide +kernel
theorem dX4_openingWithFigure_1 : decode cX4_openingWithFigure 1 = .ok (.iload_n 1, 1) := by decide +kernel
theorem dX4_openingWithFigure_2 : decode cX4_openingWithFigure 2 = .ok (.invokevirtual 45, 3) := by decide +kernel
theorem dX4_openingWithFigure_5 : decode cX4_openingWithFigure 5 = .ok (.istore 4, 2) := by decide +kernel
theorem dX4_openingWithFigure_7 : decode cX4_openingWithFigure 7 = .ok (.aload_n 0, 1) := by decide +kernel
theorem dX4_openingWithFigure_8 : decode cX4_openingWithFigure 8 = .ok (.getfield 26, 3) := by decide +kernel
theorem dX4_openingWithFigure_11 : decode cX4_openingWithFigure 11 = .ok (.iconst (-1), 1) := by decide +kernel
theorem dX4_openingWithFigure_12 : decode cX4_openingWithFigure 12 = .ok (.if_icmp .ne 21, 3) := by decide +kernel
theorem dX4_openingWithFigure_15 : decode cX4_openingWithFigure 15 = .ok (.aload_n 0, 1) := by decide +kernel
theorem dX4_openingWithFigure_16 : decode cX4_openingWithFigure 16 = .ok (.iload 4, 2) := by decide +kernel
theorem dX4_openingWithFigure_18 : decode cX4_openingWithFigure 18 = .ok (.iload_n 2, 1) := by decide +kernel
theorem dX4_openingWithFigure_19 : decode cX4_openingWithFigure 19 = .ok (.iload_n 3, 1) := by decide +kernel
theorem dX4_openingWithFigure_20 : decode cX4_openingWithFigure 20 = .ok (.invokevirtual 64, 3) := by decide +kernel
theorem dX4_openingWithFigure_23 : decode cX4_openingWithFigure 23 = .ok (.ifCond .ne 10, 3) := by decide +kernel
theorem dX4_openingWithFigure_26 : decode cX4_openingWithFigure 26 = .ok (.aload_n 0, 1) := by decide +kernel
theorem dX4_openingWithFigure_27 : decode cX4_openingWithFigure 27 = .ok (.iload 4, 2) := by decide +kernel
theorem dX4_openingWithFigure_29 : decode cX4_openingWithFigure 29 = .ok (.invokevirtual 61, 3) := by decide +kernel
theorem dX4_openingWithFigure_32 : decode cX4_openingWithFigure 32 = .ok (.ireturn, 1) := by decide +kernel
theorem dX4_openingWithFigure_33 : decode cX4_openingWithFigure 33 = .ok (.iload 4, 2) := by decide +kernel
theorem dX4_openingWithFigure_35 : decode cX4_openingWithFigure 35 = .ok (.iconst 1, 1) := by decide +kernel
theorem dX4_openingWithFigure_36 : decode cX4_openingWithFigure 36 = .ok (.iadd, 1) := by decide +kernel
theorem dX4_openingWithFigure_37 : decode cX4_openingWithFigure 37 = .ok (.ireturn, 1) := by decide +kernel
theorem dX4_opening_0 : decode cX4_opening 0 = .ok (.aload_n 0, 1) := by decide +kernel
theorem dX4_opening_1 : decode cX4_opening 1 = .ok (.getfield 19, 3) := by decide +kernel
theorem dX4_opening_4 : decode cX4_opening 4 = .ok (.bipush 8, 2) := by decide +kernel
theorem dX4_opening_6 : decode cX4_opening 6 = .ok (.if_icmp .lt 9, 3) := by decide +kernel
theorem dX4_opening_9 : decode cX4_opening 9 = .ok (.aload_n 0, 1) := by decide +kernel
theorem dX4_opening_10 : decode cX4_opening 10 = .ok (.iload_n 1, 1) := by decide +kernel
theorem dX4_opening_11 : decode cX4_opening 11 = .ok (.invokevirtual 61, 3) := by decide +kernel
theorem dX4_opening_14 : decode cX4_opening 14 = .ok (.ireturn, 1) := by decide +kernel
theorem dX4_opening_15 : decode cX4_opening 15 = .ok (.aload_n 0, 1) := by decide +kernel
theorem dX4_opening_16 : decode cX4_opening 16 = .ok (.getfield 9, 3) := by decide +kernel
theorem dX4_opening_19 : decode cX4_opening 19 = .ok (.aload_n 0, 1) := by decide +kernel
theorem dX4_opening_20 : decode cX4_opening 20 = .ok (.getfield 19, 3) := by decide +kernel
theorem dX4_opening_23 : decode cX4_opening 23 = .ok (.iload_n 1, 1) := by decide +kernel
theorem dX4_opening_24 : decode cX4_opening 24 = .ok (.iastore, 1) := by decide +kernel
theorem dX4_opening_25 : decode cX4_opening 25 = .ok (.aload_n 0, 1) := by decide +kernel
theorem dX4_opening_26 : decode cX4_opening 26 = .ok (.dup, 1) := by decide +kernel
theorem dX4_opening_27 : decode cX4_opening 27 = .ok (.getfield 19, 3) := by decide +kernel
theorem dX4_opening_30 : decode cX4_opening 30 = .ok (.iconst 1, 1) := by decide +kernel
theorem dX4_opening_31 : decode cX4_opening 31 = .ok (.iadd, 1) := by decide +kernel
theorem dX4_opening_32 : decode cX4_opening 32 = .ok (.putfield 19, 3) := by decide +kernel
theorem dX4_opening_35 : decode cX4_opening 35 = .ok (.aload_n 0, 1) := by decide +kernel
theorem dX4_opening_36 : decode cX4_opening 36 = .ok (.getfield 15, 3) := by decide +kernel
theorem dX4_opening_39 : decode cX4_opening 39 = .ok (.iload_n 1, 1) := by decide +kernel
theorem dX4_opening_40 : decode cX4_opening 40 = .ok (.invokevirtual 38, 3) := by decide +kernel
theorem dX4_opening_43 : decode cX4_opening 43 = .ok (.bipush 123, 2) := by decide +kernel
theorem dX4_opening_45 : decode cX4_opening 45 = .ok (.if_icmp .ne 13, 3) := by decide +kernel
theorem dX4_opening_48 : decode cX4_opening 48 = .ok (.aload_n 0, 1) := by decide +kernel
theorem dX4_opening_49 : decode cX4_opening 49 = .ok (.dup, 1) := by decide +kernel
theorem dX4_opening_50 : decode cX4_opening 50 = .ok (.getfield 23, 3) := by decide +kernel
theorem dX4_opening_53 : decode cX4_opening 53 = .ok (.iconst 1, 1) := by decide +kernel
theorem dX4_opening_54 : decode cX4_opening 54 = .ok (.iadd, 1) := by decide +kernel
theorem dX4_opening_55 : decode cX4_opening 55 = .ok (.putfield 23, 3) := by decide +kernel
theorem dX4_opening_58 : decode cX4_opening 58 = .ok (.iload_n 1, 1) := by decide +kernel
theorem dX4_opening_59 : decode cX4_opening 59 = .ok (.iconst 1, 1) := by decide +kernel
theorem dX4_opening_60 : decode cX4_opening 60 = .ok (.iadd, 1) := by decide +kernel
theorem dX4_opening_61 : decode cX4_opening 61 = .ok (.ireturn, 1) := by decide +kernel
theorem dX4_closing_0 : decode cX4_closing 0 = .ok (.aload_n 0, 1) := by decide +kernel
theorem dX4_closing_1 : decode cX4_closing 1 = .ok (.getfield 19, 3) := by decide +kernel
theorem dX4_closing_4 : decode cX4_closing 4 = .ok (.ifCond .eq 25, 3) := by decide +kernel
theorem dX4_closing_7 : decode cX4_closing 7 = .ok (.aload_n 0, 1) := by decide +kernel
theorem dX4_closing_8 : decode cX4_closing 8 = .ok (.getfield 15, 3) := by decide +kernel
theorem dX4_closing_11 : decode cX4_closing 11 = .ok (.aload_n 0, 1) := by decide +kernel
theorem dX4_closing_12 : decode cX4_closing 12 = .ok (.getfield 9, 3) := by decide +kernel
theorem dX4_closing_15 : decode cX4_closing 15 = .ok (.aload_n 0, 1) := by decide +kernel
theorem dX4_closing_16 : decode cX4_closing 16 = .ok (.getfield 19, 3) := by decide +kernel
theorem dX4_closing_19 : decode cX4_closing 19 = .ok (.iconst 1, 1) := by decide +kernel
theorem dX4_closing_20 : decode cX4_closing 20 = .ok (.isub, 1) := by decide +kernel
theorem dX4_closing_21 : decode cX4_closing 21 = .ok (.iaload, 1) := by decide +kernel
theorem dX4_closing_22 : decode cX4_closing 22 = .ok (.invokevirtual 38, 3) := by decide +kernel
theorem dX4_closing_25 : decode cX4_closing 25 = .ok (.iload_n 2, 1) := by decide +kernel
theorem dX4_closing_26 : decode cX4_closing 26 = .ok (.if_icmp .eq 9, 3) := by decide +kernel
theorem dX4_closing_29 : decode cX4_closing 29 = .ok (.aload_n 0, 1) := by decide +kernel
theorem dX4_closing_30 : decode cX4_closing 30 = .ok (.iload_n 1, 1) := by decide +kernel
theorem dX4_closing_31 : decode cX4_closing 31 = .ok (.invokevirtual 61, 3) := by decide +kernel
theorem dX4_closing_34 : decode cX4_closing 34 = .ok (.ireturn, 1) := by decide +kernel
theorem dX4_closing_35 : decode cX4_closing 35 = .ok (.aload_n 0, 1) := by decide +kernel
theorem dX4_closing_36 : decode cX4_closing 36 = .ok (.dup, 1) := by decide +kernel
theorem dX4_closing_37 : decode cX4_closing 37 = .ok (.getfield 19, 3) := by decide +kernel
theorem dX4_closing_40 : decode cX4_closing 40 = .ok (.iconst 1, 1) := by decide +kernel
theorem dX4_closing_41 : decode cX4_closing 41 = .ok (.isub, 1) := by decide +kernel
theorem dX4_closing_42 : decode cX4_closing 42 = .ok (.putfield 19, 3) := by decide +kernel
theorem dX4_closing_45 : decode cX4_closing 45 = .ok (.iload_n 2, 1) := by decide +kernel
theorem dX4_closing_46 : decode cX4_closing 46 = .ok (.bipush 123, 2) := by decide +kernel
theorem dX4_closing_48 : decode cX4_closing 48 = .ok (.if_icmp .ne 13, 3) := by decide +kernel
theorem dX4_closing_51 : decode cX4_closing 51 = .ok (.aload_n 0, 1) := by decide +kernel
theorem dX4_closing_52 : decode cX4_closing 52 = .ok (.dup, 1) := by decide +kernel
theorem dX4_closing_53 : decode cX4_closing 53 = .ok (.getfield 23, 3) := by decide +kernel
theorem dX4_closing_56 : decode cX4_closing 56 = .ok (.iconst 1, 1) := by decide +kernel
theorem dX4_closing_57 : decode cX4_closing 57 = .ok (.isub, 1) := by decide +kernel
theorem dX4_closing_58 : decode cX4_closing 58 = .ok (.putfield 23, 3) := by decide +kernel
theorem dX4_closing_61 : decode cX4_closing 61 = .ok (.aload_n 0, 1) := by decide +kernel
theorem dX4_closing_62 : decode cX4_closing 62 = .ok (.aload_n 0, 1) := by decide +kernel
theorem dX4_closing_63 : decode cX4_closing 63 = .ok (.getfield 9, 3) := by decide +kernel
theorem dX4_closing_66 : decode cX4_closing 66 = .ok (.aload_n 0, 1) := by decide +kernel
theorem dX4_closing_67 : decode cX4_closing 67 = .ok (.getfield 19, 3) := by decide +kernel
theorem dX4_closing_70 : decode cX4_closing 70 = .ok (.iaload, 1) := by decide +kernel
theorem dX4_closing_71 : decode cX4_closing 71 = .ok (.iload_n 1, 1) := by decide +kernel
theorem dX4_closing_72 : decode cX4_closing 72 = .ok (.iconst 1, 1) := by decide +kernel
theorem dX4_closing_73 : decode cX4_closing 73 = .ok (.iadd, 1) := by decide +kernel
theorem dX4_closing_74 : decode cX4_closing 74 = .ok (.invokevirtual 58, 3) := by decide +kernel
theorem dX4_closing_77 : decode cX4_closing 77 = .ok (.ireturn, 1) := by decide +kernel
theorem dX4_payment_0 : decode cX4_payment 0 = .ok (.iload_n 1, 1) := by decide +kernel
theorem dX4_payment_1 : decode cX4_payment 1 = .ok (.iconst 3, 1) := by decide +kernel
theorem dX4_payment_2 : decode cX4_payment 2 = .ok (.iadd, 1) := by decide +kernel
theorem dX4_payment_3 : decode cX4_payment 3 = .ok (.istore_n 2, 1) := by decide +kernel
theorem dX4_payment_4 : decode cX4_payment 4 = .ok (.iload_n 1, 1) := by decide +kernel
theorem dX4_payment_5 : decode cX4_payment 5 = .ok (.iconst 1, 1) := by decide +kernel
theorem dX4_payment_6 : decode cX4_payment 6 = .ok (.iadd, 1) := by decide +kernel
theorem dX4_payment_7 : decode cX4_payment 7 = .ok (.istore_n 3, 1) := by decide +kernel
theorem dX4_payment_8 : decode cX4_payment 8 = .ok (.iload_n 3, 1) := by decide +kernel
theorem dX4_payment_9 : decode cX4_payment 9 = .ok (.iload_n 2, 1) := by decide +kernel
theorem dX4_payment_10 : decode cX4_payment 10 = .ok (.if_icmp .ge 27, 3) := by decide +kernel
theorem dX4_payment_13 : decode cX4_payment 13 = .ok (.aload_n 0, 1) := by decide +kernel
theorem dX4_payment_14 : decode cX4_payment 14 = .ok (.iload_n 3, 1) := by decide +kernel
theorem dX4_payment_15 : decode cX4_payment 15 = .ok (.bipush 48, 2) := by decide +kernel
theorem dX4_payment_17 : decode cX4_payment 17 = .ok (.bipush 55, 2) := by decide +kernel
theorem dX4_payment_19 : decode cX4_payment 19 = .ok (.invokevirtual 64, 3) := by decide +kernel
theorem dX4_payment_22 : decode cX4_payment 22 = .ok (.ifCond .ne 9, 3) := by decide +kernel
theorem dX4_payment_25 : decode cX4_payment 25 = .ok (.aload_n 0, 1) := by decide +kernel
theorem dX4_payment_26 : decode cX4_payment 26 = .ok (.iload_n 3, 1) := by decide +kernel
theorem dX4_payment_27 : decode cX4_payment 27 = .ok (.invokevirtual 61, 3) := by decide +kernel
theorem dX4_payment_30 : decode cX4_payment 30 = .ok (.ireturn, 1) := by decide +kernel
theorem dX4_payment_31 : decode cX4_payment 31 = .ok (.iinc 3 1, 3) := by decide +kernel
theorem dX4_payment_34 : decode cX4_payment 34 = .ok (.goto (-26), 3) := by decide +kernel
theorem dX4_payment_37 : decode cX4_payment 37 = .ok (.aload_n 0, 1) := by decide +kernel
theorem dX4_payment_38 : decode cX4_payment 38 = .ok (.iload_n 2, 1) := by decide +kernel
theorem dX4_payment_39 : decode cX4_payment 39 = .ok (.bipush 48, 2) := by decide +kernel
theorem dX4_payment_41 : decode cX4_payment 41 = .ok (.bipush 57, 2) := by decide +kernel
theorem dX4_payment_43 : decode cX4_payment 43 = .ok (.invokevirtual 64, 3) := by decide +kernel
theorem dX4_payment_46 : decode cX4_payment 46 = .ok (.ifCond .ne 9, 3) := by decide +kernel
theorem dX4_payment_49 : decode cX4_payment 49 = .ok (.aload_n 0, 1) := by decide +kernel
theorem dX4_payment_50 : decode cX4_payment 50 = .ok (.iload_n 2, 1) := by decide +kernel
theorem dX4_payment_51 : decode cX4_payment 51 = .ok (.invokevirtual 61, 3) := by decide +kernel
theorem dX4_payment_54 : decode cX4_payment 54 = .ok (.ireturn, 1) := by decide +kernel
theorem dX4_payment_55 : decode cX4_payment 55 = .ok (.iload_n 2, 1) := by decide +kernel
theorem dX4_payment_56 : decode cX4_payment 56 = .ok (.iconst 1, 1) := by decide +kernel
theorem dX4_payment_57 : decode cX4_payment 57 = .ok (.iadd, 1) := by decide +kernel
theorem dX4_payment_58 : decode cX4_payment 58 = .ok (.istore_n 3, 1) := by decide +kernel
theorem dX4_payment_59 : decode cX4_payment 59 = .ok (.iload_n 3, 1) := by decide +kernel
theorem dX4_payment_60 : decode cX4_payment 60 = .ok (.iload_n 2, 1) := by decide +kernel
theorem dX4_payment_61 : decode cX4_payment 61 = .ok (.iconst 4, 1) := by decide +kernel
theorem dX4_payment_62 : decode cX4_payment 62 = .ok (.iadd, 1) := by decide +kernel
theorem dX4_payment_63 : decode cX4_payment 63 = .ok (.if_icmp .ge 21, 3) := by decide +kernel
theorem dX4_payment_66 : decode cX4_payment 66 = .ok (.aload_n 0, 1) := by decide +kernel
theorem dX4_payment_67 : decode cX4_payment 67 = .ok (.iload_n 3, 1) := by decide +kernel
theorem dX4_payment_68 : decode cX4_payment 68 = .ok (.bipush 48, 2) := by decide +kernel
theorem dX4_payment_70 : decode cX4_payment 70 = .ok (.bipush 57, 2) := by decide +kernel
theorem dX4_payment_72 : decode cX4_payment 72 = .ok (.invokevirtual 64, 3) := by decide +kernel
theorem dX4_payment_75 : decode cX4_payment 75 = .ok (.ifCond .eq 9, 3) := by decide +kernel
theorem dX4_payment_78 : decode cX4_payment 78 = .ok (.iinc 3 1, 3) := by decide +kernel
theorem dX4_payment_81 : decode cX4_payment 81 = .ok (.goto (-22), 3) := by decide +kernel
theorem dX4_payment_84 : decode cX4_payment 84 = .ok (.aload_n 0, 1) := by decide +kernel
theorem dX4_payment_85 : decode cX4_payment 85 = .ok (.iload_n 1, 1) := by decide +kernel
theorem dX4_payment_86 : decode cX4_payment 86 = .ok (.iload_n 3, 1) := by decide +kernel
theorem dX4_payment_87 : decode cX4_payment 87 = .ok (.invokevirtual 58, 3) := by decide +kernel
theorem dX4_payment_90 : decode cX4_payment 90 = .ok (.ireturn, 1) := by decide +kernel
theorem dX4_bell_0 : decode cX4_bell 0 = .ok (.aload_n 0, 1) := by decide +kernel
theorem dX4_bell_1 : decode cX4_bell 1 = .ok (.iload_n 1, 1) := by decide +kernel
theorem dX4_bell_2 : decode cX4_bell 2 = .ok (.iconst 1, 1) := by decide +kernel
theorem dX4_bell_3 : decode cX4_bell 3 = .ok (.iadd, 1) := by decide +kernel
theorem dX4_bell_4 : decode cX4_bell 4 = .ok (.bipush 48, 2) := by decide +kernel
theorem dX4_bell_6 : decode cX4_bell 6 = .ok (.bipush 55, 2) := by decide +kernel
theorem dX4_bell_8 : decode cX4_bell 8 = .ok (.invokevirtual 64, 3) := by decide +kernel
theorem dX4_bell_11 : decode cX4_bell 11 = .ok (.ifCond .eq 14, 3) := by decide +kernel
theorem dX4_bell_14 : decode cX4_bell 14 = .ok (.aload_n 0, 1) := by decide +kernel
theorem dX4_bell_15 : decode cX4_bell 15 = .ok (.iload_n 1, 1) := by decide +kernel
theorem dX4_bell_16 : decode cX4_bell 16 = .ok (.iload_n 1, 1) := by decide +kernel
theorem dX4_bell_17 : decode cX4_bell 17 = .ok (.iconst 2, 1) := by decide +kernel
theorem dX4_bell_18 : decode cX4_bell 18 = .ok (.iadd, 1) := by decide +kernel
theorem dX4_bell_19 : decode cX4_bell 19 = .ok (.invokevirtual 58, 3) := by decide +kernel
theorem dX4_bell_22 : decode cX4_bell 22 = .ok (.goto 10, 3) := by decide +kernel
theorem dX4_bell_25 : decode cX4_bell 25 = .ok (.aload_n 0, 1) := by decide +kernel
theorem dX4_bell_26 : decode cX4_bell 26 = .ok (.iload_n 1, 1) := by decide +kernel
theorem dX4_bell_27 : decode cX4_bell 27 = .ok (.iconst 1, 1) := by decide +kernel
theorem dX4_bell_28 : decode cX4_bell 28 = .ok (.iadd, 1) := by decide +kernel
theorem dX4_bell_29 : decode cX4_bell 29 = .ok (.invokevirtual 61, 3) := by decide +kernel
theorem dX4_bell_32 : decode cX4_bell 32 = .ok (.ireturn, 1) := by decide +kernel
theorem dX4_isFigure_0 : decode cX4_isFigure 0 = .ok (.aload_n 0, 1) := by decide +kernel
theorem dX4_isFigure_1 : decode cX4_isFigure 1 = .ok (.getfield 15, 3) := by decide +kernel
theorem dX4_isFigure_4 : decode cX4_isFigure 4 = .ok (.iload_n 1, 1) := by decide +kernel
theorem dX4_isFigure_5 : decode cX4_isFigure 5 = .ok (.invokevirtual 38, 3) := by decide +kernel
theorem dX4_isFigure_8 : decode cX4_isFigure 8 = .ok (.iload_n 2, 1) := by decide +kernel
theorem dX4_isFigure_9 : decode cX4_isFigure 9 = .ok (.if_icmp .lt 19, 3) := by decide +kernel
theorem dX4_isFigure_12 : decode cX4_isFigure 12 = .ok (.aload_n 0, 1) := by decide +kernel
theorem dX4_isFigure_13 : decode cX4_isFigure 13 = .ok (.getfield 15, 3) := by decide +kernel
theorem dX4_isFigure_16 : decode cX4_isFigure 16 = .ok (.iload_n 1, 1) := by decide +kernel
theorem dX4_isFigure_17 : decode cX4_isFigure 17 = .ok (.invokevirtual 38, 3) := by decide +kernel
theorem dX4_isFigure_20 : decode cX4_isFigure 20 = .ok (.iload_n 3, 1) := by decide +kernel
theorem dX4_isFigure_21 : decode cX4_isFigure 21 = .ok (.if_icmp .gt 7, 3) := by decide +kernel
theorem dX4_isFigure_24 : decode cX4_isFigure 24 = .ok (.iconst 1, 1) := by decide +kernel
theorem dX4_isFigure_25 : decode cX4_isFigure 25 = .ok (.goto 4, 3) := by decide +kernel
theorem dX4_isFigure_28 : decode cX4_isFigure 28 = .ok (.iconst 0, 1) := by decide +kernel
theorem dX4_isFigure_29 : decode cX4_isFigure 29 = .ok (.ireturn, 1) := by decide +kernel
theorem dX4_ends_0 : decode cX4_ends 0 = .ok (.aload_n 0, 1) := by decide +kernel
theorem dX4_ends_1 : decode cX4_ends 1 = .ok (.getfield 15, 3) := by decide +kernel
theorem dX4_ends_4 : decode cX4_ends 4 = .ok (.getfield 68, 3) := by decide +kernel
theorem dX4_ends_7 : decode cX4_ends 7 = .ok (.iload_n 1, 1) := by decide +kernel
theorem dX4_ends_8 : decode cX4_ends 8 = .ok (.iload_n 2, 1) := by decide +kernel
theorem dX4_ends_9 : decode cX4_ends 9 = .ok (.iastore, 1) := by decide +kernel
theorem dX4_ends_10 : decode cX4_ends 10 = .ok (.iload_n 2, 1) := by decide +kernel
theorem dX4_ends_11 : decode cX4_ends 11 = .ok (.ireturn, 1) := by decide +kernel
theorem dX4_faultAt_0 : decode cX4_faultAt 0 = .ok (.aload_n 0, 1) := by decide +kernel
theorem dX4_faultAt_1 : decode cX4_faultAt 1 = .ok (.iload_n 1, 1) := by decide +kernel
theorem dX4_faultAt_2 : decode cX4_faultAt 2 = .ok (.putfield 26, 3) := by decide +kernel
theorem dX4_faultAt_5 : decode cX4_faultAt 5 = .ok (.iload_n 1, 1) := by decide +kernel
theorem dX4_faultAt_6 : decode cX4_faultAt 6 = .ok (.iconst 1, 1) := by decide +kernel
theorem dX4_faultAt_7 : decode cX4_faultAt 7 = .ok (.iadd, 1) := by decide +kernel
theorem dX4_faultAt_8 : decode cX4_faultAt 8 = .ok (.ireturn, 1) := by decide +kernel
theorem dX5_init_0 : decode cX5_init 0 = .ok (.aload_n 0, 1) := by decide +kernel
theorem dX5_init_1 : decode cX5_init 1 = .ok (.invokespecial 3, 3) := by decide +kernel
theorem dX5_init_4 : decode cX5_init 4 = .ok (.aload_n 0, 1) := by decide +kernel
theorem dX5_init_5 : decode cX5_init 5 = .ok (.bipush 8, 2) := by decide +kernel
theorem dX5_init_7 : decode cX5_init 7 = .ok (.newarray .int, 2) := by decide +kernel
theorem dX5_init_9 : decode cX5_init 9 = .ok (.putfield 9, 3) := by decide +kernel
theorem dX5_init_12 : decode cX5_init 12 = .ok (.aload_n 0, 1) := by decide +kernel
theorem dX5_init_13 : decode cX5_init 13 = .ok (.bipush 8, 2) := by decide +kernel
theorem dX5_init_15 : decode cX5_init 15 = .ok (.newarray .boolean, 2) := by decide +kernel
theorem dX5_init_17 : decode cX5_init 17 = .ok (.putfield 15, 3) := by decide +kernel
theorem dX5_init_20 : decode cX5_init 20 = .ok (.aload_n 0, 1) := by decide +kernel
theorem dX5_init_21 : decode cX5_init 21 = .ok (.aload_n 1, 1) := by decide +kernel
theorem dX5_init_22 : decode cX5_init 22 = .ok (.putfield 19, 3) := by decide +kernel
theorem dX5_init_25 : decode cX5_init 25 = .ok (.return_, 1) := by decide +kernel
theorem dX5_cutAll_0 : decode cX5_cutAll 0 = .ok (.iconst 0, 1) := by decide +kernel
theorem dX5_cutAll_1 : decode cX5_cutAll 1 = .ok (.istore_n 2, 1) := by decide +kernel
theorem dX5_cutAll_2 : decode cX5_cutAll 2 = .ok (.iload_n 2, 1) := by decide +kernel
theorem dX5_cutAll_3 : decode cX5_cutAll 3 = .ok (.bipush 64, 2) := by decide +kernel
theorem dX5_cutAll_5 : decode cX5_cutAll 5 = .ok (.if_icmp .ge 23, 3) := by decide +kernel
theorem dX5_cutAll_8 : decode cX5_cutAll 8 = .ok (.aload_n 0, 1) := by decide +kernel
theorem dX5_cutAll_9 : decode cX5_cutAll 9 = .ok (.iload_n 1, 1) := by decide +kernel
theorem dX5_cutAll_10 : decode cX5_cutAll 10 = .ok (.invokevirtual 23, 3) := by decide +kernel
theorem dX5_cutAll_13 : decode cX5_cutAll 13 = .ok (.ifCond .ne 5, 3) := by decide +kernel
theorem dX5_cutAll_16 : decode cX5_cutAll 16 = .ok (.iload_n 2, 1) := by decide +kernel
theorem dX5_cutAll_17 : decode cX5_cutAll 17 = .ok (.ireturn, 1) := by decide +kernel
theorem dX5_cutAll_18 : decode cX5_cutAll 18 = .ok (.aload_n 0, 1) := by decide +kernel
theorem dX5_cutAll_19 : decode cX5_cutAll 19 = .ok (.invokevirtual 27, 3) := by decide +kernel
theorem dX5_cutAll_22 : decode cX5_cutAll 22 = .ok (.iinc 2 1, 3) := by decide +kernel
theorem dX5_cutAll_25 : decode cX5_cutAll 25 = .ok (.goto (-23), 3) := by decide +kernel
theorem dX5_cutAll_28 : decode cX5_cutAll 28 = .ok (.bipush 64, 2) := by decide +kernel
theorem dX5_cutAll_30 : decode cX5_cutAll 30 = .ok (.ireturn, 1) := by decide +kernel
theorem dX5_findsFirst_0 : decode cX5_findsFirst 0 = .ok (.iconst 0, 1) := by decide +kernel
theorem dX5_findsFirst_1 : decode cX5_findsFirst 1 = .ok (.istore_n 2, 1) := by decide +kernel
theorem dX5_findsFirst_2 : decode cX5_findsFirst 2 = .ok (.iload_n 2, 1) := by decide +kernel
theorem dX5_findsFirst_3 : decode cX5_findsFirst 3 = .ok (.iload_n 1, 1) := by decide +kernel
theorem dX5_findsFirst_4 : decode cX5_findsFirst 4 = .ok (.if_icmp .ge 42, 3) := by decide +kernel
theorem dX5_findsFirst_7 : decode cX5_findsFirst 7 = .ok (.iconst 0, 1) := by decide +kernel
theorem dX5_findsFirst_8 : decode cX5_findsFirst 8 = .ok (.istore_n 3, 1) := by decide +kernel
theorem dX5_findsFirst_9 : decode cX5_findsFirst 9 = .ok (.iload_n 3, 1) := by decide +kernel
theorem dX5_findsFirst_10 : decode cX5_findsFirst 10 = .ok (.iload_n 1, 1) := by decide +kernel
theorem dX5_findsFirst_11 : decode cX5_findsFirst 11 = .ok (.if_icmp .ge 16, 3) := by decide +kernel
theorem dX5_findsFirst_14 : decode cX5_findsFirst 14 = .ok (.aload_n 0, 1) := by decide +kernel
theorem dX5_findsFirst_15 : decode cX5_findsFirst 15 = .ok (.getfield 15, 3) := by decide +kernel
theorem dX5_findsFirst_18 : decode cX5_findsFirst 18 = .ok (.iload_n 3, 1) := by decide +kernel
theorem dX5_findsFirst_19 : decode cX5_findsFirst 19 = .ok (.iconst 0, 1) := by decide +kernel
theorem dX5_findsFirst_20 : decode cX5_findsFirst 20 = .ok (.bastore, 1) := by decide +kernel
theorem dX5_findsFirst_21 : decode cX5_findsFirst 21 = .ok (.iinc 3 1, 3) := by decide +kernel
theorem dX5_findsFirst_24 : decode cX5_findsFirst 24 = .ok (.goto (-15), 3) := by decide +kernel
theorem dX5_findsFirst_27 : decode cX5_findsFirst 27 = .ok (.aload_n 0, 1) := by decide +kernel
theorem dX5_findsFirst_28 : decode cX5_findsFirst 28 = .ok (.iload_n 2, 1) := by decide +kernel
theorem dX5_findsFirst_29 : decode cX5_findsFirst 29 = .ok (.iload_n 2, 1) := by decide +kernel
theorem dX5_findsFirst_30 : decode cX5_findsFirst 30 = .ok (.iconst 0, 1) := by decide +kernel
theorem dX5_findsFirst_31 : decode cX5_findsFirst 31 = .ok (.iload_n 1, 1) := by decide +kernel
theorem dX5_findsFirst_32 : decode cX5_findsFirst 32 = .ok (.invokevirtual 30, 3) := by decide +kernel
theorem dX5_findsFirst_35 : decode cX5_findsFirst 35 = .ok (.ifCond .eq 5, 3) := by decide +kernel
theorem dX5_findsFirst_38 : decode cX5_findsFirst 38 = .ok (.iconst 1, 1) := by decide +kernel
theorem dX5_findsFirst_39 : decode cX5_findsFirst 39 = .ok (.ireturn, 1) := by decide +kernel
theorem dX5_findsFirst_40 : decode cX5_findsFirst 40 = .ok (.iinc 2 1, 3) := by decide +kernel
theorem dX5_findsFirst_43 : decode cX5_findsFirst 43 = .ok (.goto (-41), 3) := by decide +kernel
theorem dX5_findsFirst_46 : decode cX5_findsFirst 46 = .ok (.iconst 0, 1) := by decide +kernel
theorem dX5_findsFirst_47 : decode cX5_findsFirst 47 = .ok (.ireturn, 1) := by decide +kernel
theorem dX5_leadsBack_0 : decode cX5_leadsBack 0 = .ok (.iload_n 3, 1) := by decide +kernel
theorem dX5_leadsBack_1 : decode cX5_leadsBack 1 = .ok (.bipush 8, 2) := by decide +kernel
theorem dX5_leadsBack_3 : decode cX5_leadsBack 3 = .ok (.if_icmp .lt 5, 3) := by decide +kernel
theorem dX5_leadsBack_6 : decode cX5_leadsBack 6 = .ok (.iconst 0, 1) := by decide +kernel
theorem dX5_leadsBack_7 : decode cX5_leadsBack 7 = .ok (.ireturn, 1) := by decide +kernel
theorem dX5_leadsBack_8 : decode cX5_leadsBack 8 = .ok (.aload_n 0, 1) := by decide +kernel
theorem dX5_leadsBack_9 : decode cX5_leadsBack 9 = .ok (.getfield 9, 3) := by decide +kernel
theorem dX5_leadsBack_12 : decode cX5_leadsBack 12 = .ok (.iload_n 3, 1) := by decide +kernel
theorem dX5_leadsBack_13 : decode cX5_leadsBack 13 = .ok (.iload_n 1, 1) := by decide +kernel
theorem dX5_leadsBack_14 : decode cX5_leadsBack 14 = .ok (.iastore, 1) := by decide +kernel
theorem dX5_leadsBack_15 : decode cX5_leadsBack 15 = .ok (.aload_n 0, 1) := by decide +kernel
theorem dX5_leadsBack_16 : decode cX5_leadsBack 16 = .ok (.getfield 15, 3) := by decide +kernel
theorem dX5_leadsBack_19 : decode cX5_leadsBack 19 = .ok (.iload_n 1, 1) := by decide +kernel
theorem dX5_leadsBack_20 : decode cX5_leadsBack 20 = .ok (.iconst 1, 1) := by decide +kernel
theorem dX5_leadsBack_21 : decode cX5_leadsBack 21 = .ok (.bastore, 1) := by decide +kernel
theorem dX5_leadsBack_22 : decode cX5_leadsBack 22 = .ok (.iload_n 3, 1) := by decide +kernel
theorem dX5_leadsBack_23 : decode cX5_leadsBack 23 = .ok (.ifCond .le 24, 3) := by decide +kernel
theorem dX5_leadsBack_26 : decode cX5_leadsBack 26 = .ok (.aload_n 0, 1) := by decide +kernel
theorem dX5_leadsBack_27 : decode cX5_leadsBack 27 = .ok (.getfield 19, 3) := by decide +kernel
theorem dX5_leadsBack_30 : decode cX5_leadsBack 30 = .ok (.iload_n 1, 1) := by decide +kernel
theorem dX5_leadsBack_31 : decode cX5_leadsBack 31 = .ok (.iload_n 2, 1) := by decide +kernel
theorem dX5_leadsBack_32 : decode cX5_leadsBack 32 = .ok (.invokevirtual 34, 3) := by decide +kernel
theorem dX5_leadsBack_35 : decode cX5_leadsBack 35 = .ok (.ifCond .le 12, 3) := by decide +kernel
theorem dX5_leadsBack_38 : decode cX5_leadsBack 38 = .ok (.aload_n 0, 1) := by decide +kernel
theorem dX5_leadsBack_39 : decode cX5_leadsBack 39 = .ok (.iload_n 3, 1) := by decide +kernel
theorem dX5_leadsBack_40 : decode cX5_leadsBack 40 = .ok (.iconst 1, 1) := by decide +kernel
theorem dX5_leadsBack_41 : decode cX5_leadsBack 41 = .ok (.iadd, 1) := by decide +kernel
theorem dX5_leadsBack_42 : decode cX5_leadsBack 42 = .ok (.putfield 40, 3) := by decide +kernel
theorem dX5_leadsBack_45 : decode cX5_leadsBack 45 = .ok (.iconst 1, 1) := by decide +kernel
theorem dX5_leadsBack_46 : decode cX5_leadsBack 46 = .ok (.ireturn, 1) := by decide +kernel
theorem dX5_leadsBack_47 : decode cX5_leadsBack 47 = .ok (.iconst 0, 1) := by decide +kernel
theorem dX5_leadsBack_48 : decode cX5_leadsBack 48 = .ok (.istore 5, 2) := by decide +kernel
theorem dX5_leadsBack_50 : decode cX5_leadsBack 50 = .ok (.iload 5, 2) := by decide +kernel
theorem dX5_leadsBack_52 : decode cX5_leadsBack 52 = .ok (.iload 4, 2) := by decide +kernel
theorem dX5_leadsBack_54 : decode cX5_leadsBack 54 = .ok (.if_icmp .ge 49, 3) := by decide +kernel
theorem dX5_leadsBack_57 : decode cX5_leadsBack 57 = .ok (.aload_n 0, 1) := by decide +kernel
theorem dX5_leadsBack_58 : decode cX5_leadsBack 58 = .ok (.getfield 15, 3) := by decide +kernel
theorem dX5_leadsBack_61 : decode cX5_leadsBack 61 = .ok (.iload 5, 2) := by decide +kernel
theorem dX5_leadsBack_63 : decode cX5_leadsBack 63 = .ok (.baload, 1) := by decide +kernel
theorem dX5_leadsBack_64 : decode cX5_leadsBack 64 = .ok (.ifCond .ne 33, 3) := by decide +kernel
theorem dX5_leadsBack_67 : decode cX5_leadsBack 67 = .ok (.aload_n 0, 1) := by decide +kernel
theorem dX5_leadsBack_68 : decode cX5_leadsBack 68 = .ok (.getfield 19, 3) := by decide +kernel
theorem dX5_leadsBack_71 : decode cX5_leadsBack 71 = .ok (.iload_n 1, 1) := by decide +kernel
theorem dX5_leadsBack_72 : decode cX5_leadsBack 72 = .ok (.iload 5, 2) := by decide +kernel
theorem dX5_leadsBack_74 : decode cX5_leadsBack 74 = .ok (.invokevirtual 34, 3) := by decide +kernel
theorem dX5_leadsBack_77 : decode cX5_leadsBack 77 = .ok (.ifCond .le 20, 3) := by decide +kernel
theorem dX5_leadsBack_80 : decode cX5_leadsBack 80 = .ok (.aload_n 0, 1) := by decide +kernel
theorem dX5_leadsBack_81 : decode cX5_leadsBack 81 = .ok (.iload 5, 2) := by decide +kernel
theorem dX5_leadsBack_83 : decode cX5_leadsBack 83 = .ok (.iload_n 2, 1) := by decide +kernel
theorem dX5_leadsBack_84 : decode cX5_leadsBack 84 = .ok (.iload_n 3, 1) := by decide +kernel
theorem dX5_leadsBack_85 : decode cX5_leadsBack 85 = .ok (.iconst 1, 1) := by decide +kernel
theorem dX5_leadsBack_86 : decode cX5_leadsBack 86 = .ok (.iadd, 1) := by decide +kernel
theorem dX5_leadsBack_87 : decode cX5_leadsBack 87 = .ok (.iload 4, 2) := by decide +kernel
theorem dX5_leadsBack_89 : decode cX5_leadsBack 89 = .ok (.invokevirtual 30, 3) := by decide +kernel
theorem dX5_leadsBack_92 : decode cX5_leadsBack 92 = .ok (.ifCond .eq 5, 3) := by decide +kernel
theorem dX5_leadsBack_95 : decode cX5_leadsBack 95 = .ok (.iconst 1, 1) := by decide +kernel
theorem dX5_leadsBack_96 : decode cX5_leadsBack 96 = .ok (.ireturn, 1) := by decide +kernel
theorem dX5_leadsBack_97 : decode cX5_leadsBack 97 = .ok (.iinc 5 1, 3) := by decide +kernel
theorem dX5_leadsBack_100 : decode cX5_leadsBack 100 = .ok (.goto (-50), 3) := by decide +kernel
theorem dX5_leadsBack_103 : decode cX5_leadsBack 103 = .ok (.iconst 0, 1) := by decide +kernel
theorem dX5_leadsBack_104 : decode cX5_leadsBack 104 = .ok (.ireturn, 1) := by decide +kernel
theorem dX5_cutFound_0 : decode cX5_cutFound 0 = .ok (.ldc 44, 2) := by decide +kernel
theorem dX5_cutFound_2 : decode cX5_cutFound 2 = .ok (.istore_n 1, 1) := by decide +kernel
theorem dX5_cutFound_3 : decode cX5_cutFound 3 = .ok (.iconst 0, 1) := by decide +kernel
theorem dX5_cutFound_4 : decode cX5_cutFound 4 = .ok (.istore_n 2, 1) := by decide +kernel
theorem dX5_cutFound_5 : decode cX5_cutFound 5 = .ok (.iload_n 2, 1) := by decide +kernel
theorem dX5_cutFound_6 : decode cX5_cutFound 6 = .ok (.aload_n 0, 1) := by decide +kernel
theorem dX5_cutFound_7 : decode cX5_cutFound 7 = .ok (.getfield 40, 3) := by decide +kernel
theorem dX5_cutFound_10 : decode cX5_cutFound 10 = .ok (.if_icmp .ge 32, 3) := by decide +kernel
theorem dX5_cutFound_13 : decode cX5_cutFound 13 = .ok (.iload_n 1, 1) := by decide +kernel
theorem dX5_cutFound_14 : decode cX5_cutFound 14 = .ok (.aload_n 0, 1) := by decide +kernel
theorem dX5_cutFound_15 : decode cX5_cutFound 15 = .ok (.getfield 19, 3) := by decide +kernel
theorem dX5_cutFound_18 : decode cX5_cutFound 18 = .ok (.aload_n 0, 1) := by decide +kernel
theorem dX5_cutFound_19 : decode cX5_cutFound 19 = .ok (.getfield 9, 3) := by decide +kernel
theorem dX5_cutFound_22 : decode cX5_cutFound 22 = .ok (.iload_n 2, 1) := by decide +kernel
theorem dX5_cutFound_23 : decode cX5_cutFound 23 = .ok (.iaload, 1) := by decide +kernel
theorem dX5_cutFound_24 : decode cX5_cutFound 24 = .ok (.aload_n 0, 1) := by decide +kernel
theorem dX5_cutFound_25 : decode cX5_cutFound 25 = .ok (.iload_n 2, 1) := by decide +kernel
theorem dX5_cutFound_26 : decode cX5_cutFound 26 = .ok (.invokevirtual 45, 3) := by decide +kernel
theorem dX5_cutFound_29 : decode cX5_cutFound 29 = .ok (.invokevirtual 34, 3) := by decide +kernel
theorem dX5_cutFound_32 : decode cX5_cutFound 32 = .ok (.invokestatic 49, 3) := by decide +kernel
theorem dX5_cutFound_35 : decode cX5_cutFound 35 = .ok (.istore_n 1, 1) := by decide +kernel
theorem dX5_cutFound_36 : decode cX5_cutFound 36 = .ok (.iinc 2 1, 3) := by decide +kernel
theorem dX5_cutFound_39 : decode cX5_cutFound 39 = .ok (.goto (-34), 3) := by decide +kernel
theorem dX5_cutFound_42 : decode cX5_cutFound 42 = .ok (.iconst 0, 1) := by decide +kernel
theorem dX5_cutFound_43 : decode cX5_cutFound 43 = .ok (.istore_n 2, 1) := by decide +kernel
theorem dX5_cutFound_44 : decode cX5_cutFound 44 = .ok (.iload_n 2, 1) := by decide +kernel
theorem dX5_cutFound_45 : decode cX5_cutFound 45 = .ok (.aload_n 0, 1) := by decide +kernel
theorem dX5_cutFound_46 : decode cX5_cutFound 46 = .ok (.getfield 40, 3) := by decide +kernel
theorem dX5_cutFound_49 : decode cX5_cutFound 49 = .ok (.if_icmp .ge 49, 3) := by decide +kernel
theorem dX5_cutFound_52 : decode cX5_cutFound 52 = .ok (.aload_n 0, 1) := by decide +kernel
theorem dX5_cutFound_53 : decode cX5_cutFound 53 = .ok (.getfield 19, 3) := by decide +kernel
theorem dX5_cutFound_56 : decode cX5_cutFound 56 = .ok (.aload_n 0, 1) := by decide +kernel
theorem dX5_cutFound_57 : decode cX5_cutFound 57 = .ok (.getfield 9, 3) := by decide +kernel
theorem dX5_cutFound_60 : decode cX5_cutFound 60 = .ok (.iload_n 2, 1) := by decide +kernel
theorem dX5_cutFound_61 : decode cX5_cutFound 61 = .ok (.iaload, 1) := by decide +kernel
theorem dX5_cutFound_62 : decode cX5_cutFound 62 = .ok (.aload_n 0, 1) := by decide +kernel
theorem dX5_cutFound_63 : decode cX5_cutFound 63 = .ok (.iload_n 2, 1) := by decide +kernel
theorem dX5_cutFound_64 : decode cX5_cutFound 64 = .ok (.invokevirtual 45, 3) := by decide +kernel
theorem dX5_cutFound_67 : decode cX5_cutFound 67 = .ok (.invokevirtual 34, 3) := by decide +kernel
theorem dX5_cutFound_70 : decode cX5_cutFound 70 = .ok (.istore_n 3, 1) := by decide +kernel
theorem dX5_cutFound_71 : decode cX5_cutFound 71 = .ok (.aload_n 0, 1) := by decide +kernel
theorem dX5_cutFound_72 : decode cX5_cutFound 72 = .ok (.getfield 19, 3) := by decide +kernel
theorem dX5_cutFound_75 : decode cX5_cutFound 75 = .ok (.aload_n 0, 1) := by decide +kernel
theorem dX5_cutFound_76 : decode cX5_cutFound 76 = .ok (.getfield 9, 3) := by decide +kernel
theorem dX5_cutFound_79 : decode cX5_cutFound 79 = .ok (.iload_n 2, 1) := by decide +kernel
theorem dX5_cutFound_80 : decode cX5_cutFound 80 = .ok (.iaload, 1) := by decide +kernel
theorem dX5_cutFound_81 : decode cX5_cutFound 81 = .ok (.aload_n 0, 1) := by decide +kernel
theorem dX5_cutFound_82 : decode cX5_cutFound 82 = .ok (.iload_n 2, 1) := by decide +kernel
theorem dX5_cutFound_83 : decode cX5_cutFound 83 = .ok (.invokevirtual 45, 3) := by decide +kernel
theorem dX5_cutFound_86 : decode cX5_cutFound 86 = .ok (.iload_n 3, 1) := by decide +kernel
theorem dX5_cutFound_87 : decode cX5_cutFound 87 = .ok (.iload_n 1, 1) := by decide +kernel
theorem dX5_cutFound_88 : decode cX5_cutFound 88 = .ok (.isub, 1) := by decide +kernel
theorem dX5_cutFound_89 : decode cX5_cutFound 89 = .ok (.invokevirtual 54, 3) := by decide +kernel
theorem dX5_cutFound_92 : decode cX5_cutFound 92 = .ok (.iinc 2 1, 3) := by decide +kernel
theorem dX5_cutFound_95 : decode cX5_cutFound 95 = .ok (.goto (-51), 3) := by decide +kernel
theorem dX5_cutFound_98 : decode cX5_cutFound 98 = .ok (.return_, 1) := by decide +kernel
theorem dX5_behind_0 : decode cX5_behind 0 = .ok (.iload_n 1, 1) := by decide +kernel
theorem dX5_behind_1 : decode cX5_behind 1 = .ok (.iconst 1, 1) := by decide +kernel
theorem dX5_behind_2 : decode cX5_behind 2 = .ok (.iadd, 1) := by decide +kernel
theorem dX5_behind_3 : decode cX5_behind 3 = .ok (.aload_n 0, 1) := by decide +kernel
theorem dX5_behind_4 : decode cX5_behind 4 = .ok (.getfield 40, 3) := by decide +kernel
theorem dX5_behind_7 : decode cX5_behind 7 = .ok (.if_icmp .ge 14, 3) := by decide +kernel
theorem dX5_behind_10 : decode cX5_behind 10 = .ok (.aload_n 0, 1) := by decide +kernel
theorem dX5_behind_11 : decode cX5_behind 11 = .ok (.getfield 9, 3) := by decide +kernel
theorem dX5_behind_14 : decode cX5_behind 14 = .ok (.iload_n 1, 1) := by decide +kernel
theorem dX5_behind_15 : decode cX5_behind 15 = .ok (.iconst 1, 1) := by decide +kernel
theorem dX5_behind_16 : decode cX5_behind 16 = .ok (.iadd, 1) := by decide +kernel
theorem dX5_behind_17 : decode cX5_behind 17 = .ok (.iaload, 1) := by decide +kernel
theorem dX5_behind_18 : decode cX5_behind 18 = .ok (.goto 9, 3) := by decide +kernel
theorem dX5_behind_21 : decode cX5_behind 21 = .ok (.aload_n 0, 1) := by decide +kernel
theorem dX5_behind_22 : decode cX5_behind 22 = .ok (.getfield 9, 3) := by decide +kernel
theorem dX5_behind_25 : decode cX5_behind 25 = .ok (.iconst 0, 1) := by decide +kernel
theorem dX5_behind_26 : decode cX5_behind 26 = .ok (.iaload, 1) := by decide +kernel
theorem dX5_behind_27 : decode cX5_behind 27 = .ok (.ireturn, 1) := by decide +kernel
theorem dX6_init_0 : decode cX6_init 0 = .ok (.aload_n 0, 1) := by decide +kernel
theorem dX6_init_1 : decode cX6_init 1 = .ok (.invokespecial 3, 3) := by decide +kernel
theorem dX6_init_4 : decode cX6_init 4 = .ok (.aload_n 0, 1) := by decide +kernel
theorem dX6_init_5 : decode cX6_init 5 = .ok (.bipush 60, 2) := by decide +kernel
theorem dX6_init_7 : decode cX6_init 7 = .ok (.newarray .int, 2) := by decide +kernel
theorem dX6_init_9 : decode cX6_init 9 = .ok (.putfield 9, 3) := by decide +kernel
theorem dX6_init_12 : decode cX6_init 12 = .ok (.aload_n 0, 1) := by decide +kernel
theorem dX6_init_13 : decode cX6_init 13 = .ok (.bipush 8, 2) := by decide +kernel
theorem dX6_init_15 : decode cX6_init 15 = .ok (.newarray .int, 2) := by decide +kernel
theorem dX6_init_17 : decode cX6_init 17 = .ok (.putfield 15, 3) := by decide +kernel
theorem dX6_init_20 : decode cX6_init 20 = .ok (.aload_n 0, 1) := by decide +kernel
theorem dX6_init_21 : decode cX6_init 21 = .ok (.bipush 9, 2) := by decide +kernel
theorem dX6_init_23 : decode cX6_init 23 = .ok (.bipush 8, 2) := by decide +kernel
theorem dX6_init_25 : decode cX6_init 25 = .ok (.multianewarray 18 2, 4) := by decide +kernel
theorem dX6_init_29 : decode cX6_init 29 = .ok (.putfield 20, 3) := by decide +kernel
theorem dX6_init_32 : decode cX6_init 32 = .ok (.aload_n 0, 1) := by decide +kernel
theorem dX6_init_33 : decode cX6_init 33 = .ok (.bipush 9, 2) := by decide +kernel
theorem dX6_init_35 : decode cX6_init 35 = .ok (.newarray .long, 2) := by decide +kernel
theorem dX6_init_37 : decode cX6_init 37 = .ok (.putfield 23, 3) := by decide +kernel
theorem dX6_init_40 : decode cX6_init 40 = .ok (.aload_n 0, 1) := by decide +kernel
theorem dX6_init_41 : decode cX6_init 41 = .ok (.aload_n 1, 1) := by decide +kernel
theorem dX6_init_42 : decode cX6_init 42 = .ok (.putfield 27, 3) := by decide +kernel
theorem dX6_init_45 : decode cX6_init 45 = .ok (.return_, 1) := by decide +kernel
theorem dX6_keptMarks_0 : decode cX6_keptMarks 0 = .ok (.aload_n 0, 1) := by decide +kernel
theorem dX6_keptMarks_1 : decode cX6_keptMarks 1 = .ok (.getfield 31, 3) := by decide +kernel
theorem dX6_keptMarks_4 : decode cX6_keptMarks 4 = .ok (.bipush 60, 2) := by decide +kernel
theorem dX6_keptMarks_6 : decode cX6_keptMarks 6 = .ok (.invokestatic 35, 3) := by decide +kernel
theorem dX6_keptMarks_9 : decode cX6_keptMarks 9 = .ok (.ireturn, 1) := by decide +kernel
theorem dX6_outcomeOf_0 : decode cX6_outcomeOf 0 = .ok (.aload_n 0, 1) := by decide +kernel
theorem dX6_outcomeOf_1 : decode cX6_outcomeOf 1 = .ok (.aload_n 1, 1) := by decide +kernel
theorem dX6_outcomeOf_2 : decode cX6_outcomeOf 2 = .ok (.putfield 41, 3) := by decide +kernel
theorem dX6_outcomeOf_5 : decode cX6_outcomeOf 5 = .ok (.aload_n 0, 1) := by decide +kernel
theorem dX6_outcomeOf_6 : decode cX6_outcomeOf 6 = .ok (.iconst 0, 1) := by decide +kernel
theorem dX6_outcomeOf_7 : decode cX6_outcomeOf 7 = .ok (.putfield 31, 3) := by decide +kernel
theorem dX6_outcomeOf_10 : decode cX6_outcomeOf 10 = .ok (.aload_n 0, 1) := by decide +kernel
theorem dX6_outcomeOf_11 : decode cX6_outcomeOf 11 = .ok (.iconst 0, 1) := by decide +kernel
theorem dX6_outcomeOf_12 : decode cX6_outcomeOf 12 = .ok (.putfield 45, 3) := by decide +kernel
theorem dX6_outcomeOf_15 : decode cX6_outcomeOf 15 = .ok (.aload_n 0, 1) := by decide +kernel
theorem dX6_outcomeOf_16 : decode cX6_outcomeOf 16 = .ok (.iconst 0, 1) := by decide +kernel
theorem dX6_outcomeOf_17 : decode cX6_outcomeOf 17 = .ok (.invokevirtual 48, 3) := by decide +kernel
theorem dX6_outcomeOf_20 : decode cX6_outcomeOf 20 = .ok (.aload_n 0, 1) := by decide +kernel
theorem dX6_outcomeOf_21 : decode cX6_outcomeOf 21 = .ok (.iconst 0, 1) := by decide +kernel
theorem dX6_outcomeOf_22 : decode cX6_outcomeOf 22 = .ok (.aload_n 1, 1) := by decide +kernel
theorem dX6_outcomeOf_23 : decode cX6_outcomeOf 23 = .ok (.getfield 52, 3) := by decide +kernel
theorem dX6_outcomeOf_26 : decode cX6_outcomeOf 26 = .ok (.iconst 0, 1) := by decide +kernel
theorem dX6_outcomeOf_27 : decode cX6_outcomeOf 27 = .ok (.invokevirtual 57, 3) := by decide +kernel
theorem dX6_outcomeOf_30 : decode cX6_outcomeOf 30 = .ok (.istore_n 2, 1) := by decide +kernel
theorem dX6_outcomeOf_31 : decode cX6_outcomeOf 31 = .ok (.iload_n 2, 1) := by decide +kernel
theorem dX6_outcomeOf_32 : decode cX6_outcomeOf 32 = .ok (.ifCond .eq 8, 3) := by decide +kernel
theorem dX6_outcomeOf_35 : decode cX6_outcomeOf 35 = .ok (.aload_n 0, 1) := by decide +kernel
theorem dX6_outcomeOf_36 : decode cX6_outcomeOf 36 = .ok (.iconst 0, 1) := by decide +kernel
theorem dX6_outcomeOf_37 : decode cX6_outcomeOf 37 = .ok (.invokevirtual 61, 3) := by decide +kernel
theorem dX6_outcomeOf_40 : decode cX6_outcomeOf 40 = .ok (.iload_n 2, 1) := by decide +kernel
theorem dX6_outcomeOf_41 : decode cX6_outcomeOf 41 = .ok (.ireturn, 1) := by decide +kernel
theorem dX6_items_0 : decode cX6_items 0 = .ok (.iload_n 1, 1) := by decide +kernel
theorem dX6_items_1 : decode cX6_items 1 = .ok (.istore 4, 2) := by decide +kernel
theorem dX6_items_3 : decode cX6_items 3 = .ok (.iconst 0, 1) := by decide +kernel
theorem dX6_items_4 : decode cX6_items 4 = .ok (.istore 5, 2) := by decide +kernel
theorem dX6_items_6 : decode cX6_items 6 = .ok (.iload 4, 2) := by decide +kernel
theorem dX6_items_8 : decode cX6_items 8 = .ok (.iload_n 2, 1) := by decide +kernel
theorem dX6_items_9 : decode cX6_items 9 = .ok (.if_icmp .ge 38, 3) := by decide +kernel
theorem dX6_items_12 : decode cX6_items 12 = .ok (.iload 5, 2) := by decide +kernel
theorem dX6_items_14 : decode cX6_items 14 = .ok (.ifCond .ne 33, 3) := by decide +kernel
theorem dX6_items_17 : decode cX6_items 17 = .ok (.aload_n 0, 1) := by decide +kernel
theorem dX6_items_18 : decode cX6_items 18 = .ok (.iload 4, 2) := by decide +kernel
theorem dX6_items_20 : decode cX6_items 20 = .ok (.iload_n 3, 1) := by decide +kernel
theorem dX6_items_21 : decode cX6_items 21 = .ok (.invokevirtual 64, 3) := by decide +kernel
theorem dX6_items_24 : decode cX6_items 24 = .ok (.istore 5, 2) := by decide +kernel
theorem dX6_items_26 : decode cX6_items 26 = .ok (.iload 4, 2) := by decide +kernel
theorem dX6_items_28 : decode cX6_items 28 = .ok (.iconst 1, 1) := by decide +kernel
theorem dX6_items_29 : decode cX6_items 29 = .ok (.iadd, 1) := by decide +kernel
theorem dX6_items_30 : decode cX6_items 30 = .ok (.aload_n 0, 1) := by decide +kernel
theorem dX6_items_31 : decode cX6_items 31 = .ok (.getfield 41, 3) := by decide +kernel
theorem dX6_items_34 : decode cX6_items 34 = .ok (.iload 4, 2) := by decide +kernel
theorem dX6_items_36 : decode cX6_items 36 = .ok (.invokevirtual 67, 3) := by decide +kernel
theorem dX6_items_39 : decode cX6_items 39 = .ok (.invokestatic 71, 3) := by decide +kernel
theorem dX6_items_42 : decode cX6_items 42 = .ok (.istore 4, 2) := by decide +kernel
theorem dX6_items_44 : decode cX6_items 44 = .ok (.goto (-38), 3) := by decide +kernel
theorem dX6_items_47 : decode cX6_items 47 = .ok (.iload 5, 2) := by decide +kernel
theorem dX6_items_49 : decode cX6_items 49 = .ok (.ireturn, 1) := by decide +kernel
theorem dX6_item_0 : decode cX6_item 0 = .ok (.aload_n 0, 1) := by decide +kernel
theorem dX6_item_1 : decode cX6_item 1 = .ok (.getfield 45, 3) := by decide +kernel
theorem dX6_item_4 : decode cX6_item 4 = .ok (.sipush 500, 3) := by decide +kernel
theorem dX6_item_7 : decode cX6_item 7 = .ok (.if_icmp .lt 5, 3) := by decide +kernel
theorem dX6_item_10 : decode cX6_item 10 = .ok (.iconst 5, 1) := by decide +kernel
theorem dX6_item_11 : decode cX6_item 11 = .ok (.ireturn, 1) := by decide +kernel
theorem dX6_item_12 : decode cX6_item 12 = .ok (.aload_n 0, 1) := by decide +kernel
theorem dX6_item_13 : decode cX6_item 13 = .ok (.dup, 1) := by decide +kernel
theorem dX6_item_14 : decode cX6_item 14 = .ok (.getfield 45, 3) := by decide +kernel
theorem dX6_item_17 : decode cX6_item 17 = .ok (.iconst 1, 1) := by decide +kernel
theorem dX6_item_18 : decode cX6_item 18 = .ok (.iadd, 1) := by decide +kernel
theorem dX6_item_19 : decode cX6_item 19 = .ok (.putfield 45, 3) := by decide +kernel
theorem dX6_item_22 : decode cX6_item 22 = .ok (.aload_n 0, 1) := by decide +kernel
theorem dX6_item_23 : decode cX6_item 23 = .ok (.getfield 41, 3) := by decide +kernel
theorem dX6_item_26 : decode cX6_item 26 = .ok (.iload_n 1, 1) := by decide +kernel
theorem dX6_item_27 : decode cX6_item 27 = .ok (.invokevirtual 74, 3) := by decide +kernel
theorem dX6_item_30 : decode cX6_item 30 = .ok (.lookupswitch 166 #[(40, 90), (60, 105), (91, 97), (97, 150), (98, 128), (99, 131), (110, 134), (112, 120), (120, 126), (123, 113)], 90) := by decide +kernel
theorem dX6_item_120 : decode cX6_item 120 = .ok (.aload_n 0, 1) := by decide +kernel
theorem dX6_item_121 : decode cX6_item 121 = .ok (.iload_n 1, 1) := by decide +kernel
theorem dX6_item_122 : decode cX6_item 122 = .ok (.iload_n 2, 1) := by decide +kernel
theorem dX6_item_123 : decode cX6_item 123 = .ok (.invokevirtual 77, 3) := by decide +kernel
theorem dX6_item_126 : decode cX6_item 126 = .ok (.ireturn, 1) := by decide +kernel
theorem dX6_item_127 : decode cX6_item 127 = .ok (.aload_n 0, 1) := by decide +kernel
theorem dX6_item_128 : decode cX6_item 128 = .ok (.iload_n 1, 1) := by decide +kernel
theorem dX6_item_129 : decode cX6_item 129 = .ok (.iload_n 2, 1) := by decide +kernel
theorem dX6_item_130 : decode cX6_item 130 = .ok (.iconst 4, 1) := by decide +kernel
theorem dX6_item_131 : decode cX6_item 131 = .ok (.invokevirtual 80, 3) := by decide +kernel
theorem dX6_item_134 : decode cX6_item 134 = .ok (.ireturn, 1) := by decide +kernel
theorem dX6_item_135 : decode cX6_item 135 = .ok (.aload_n 0, 1) := by decide +kernel
theorem dX6_item_136 : decode cX6_item 136 = .ok (.iload_n 1, 1) := by decide +kernel
theorem dX6_item_137 : decode cX6_item 137 = .ok (.iload_n 2, 1) := by decide +kernel
theorem dX6_item_138 : decode cX6_item 138 = .ok (.iconst 2, 1) := by decide +kernel
theorem dX6_item_139 : decode cX6_item 139 = .ok (.invokevirtual 80, 3) := by decide +kernel
theorem dX6_item_142 : decode cX6_item 142 = .ok (.ireturn, 1) := by decide +kernel
theorem dX6_item_143 : decode cX6_item 143 = .ok (.aload_n 0, 1) := by decide +kernel
theorem dX6_item_144 : decode cX6_item 144 = .ok (.iload_n 1, 1) := by decide +kernel
theorem dX6_item_145 : decode cX6_item 145 = .ok (.iload_n 2, 1) := by decide +kernel
theorem dX6_item_146 : decode cX6_item 146 = .ok (.invokevirtual 83, 3) := by decide +kernel
theorem dX6_item_149 : decode cX6_item 149 = .ok (.ireturn, 1) := by decide +kernel
theorem dX6_item_150 : decode cX6_item 150 = .ok (.aload_n 0, 1) := by decide +kernel
theorem dX6_item_151 : decode cX6_item 151 = .ok (.iload_n 1, 1) := by decide +kernel
theorem dX6_item_152 : decode cX6_item 152 = .ok (.invokevirtual 86, 3) := by decide +kernel
theorem dX6_item_155 : decode cX6_item 155 = .ok (.ireturn, 1) := by decide +kernel
theorem dX6_item_156 : decode cX6_item 156 = .ok (.iconst 4, 1) := by decide +kernel
theorem dX6_item_157 : decode cX6_item 157 = .ok (.ireturn, 1) := by decide +kernel
theorem dX6_item_158 : decode cX6_item 158 = .ok (.bipush 6, 2) := by decide +kernel
theorem dX6_item_160 : decode cX6_item 160 = .ok (.ireturn, 1) := by decide +kernel
theorem dX6_item_161 : decode cX6_item 161 = .ok (.bipush 7, 2) := by decide +kernel
theorem dX6_item_163 : decode cX6_item 163 = .ok (.ireturn, 1) := by decide +kernel
theorem dX6_item_164 : decode cX6_item 164 = .ok (.aload_n 0, 1) := by decide +kernel
theorem dX6_item_165 : decode cX6_item 165 = .ok (.aload_n 0, 1) := by decide +kernel
theorem dX6_item_166 : decode cX6_item 166 = .ok (.getfield 41, 3) := by decide +kernel
theorem dX6_item_169 : decode cX6_item 169 = .ok (.iload_n 1, 1) := by decide +kernel
theorem dX6_item_170 : decode cX6_item 170 = .ok (.iconst 1, 1) := by decide +kernel
theorem dX6_item_171 : decode cX6_item 171 = .ok (.iadd, 1) := by decide +kernel
theorem dX6_item_172 : decode cX6_item 172 = .ok (.invokevirtual 89, 3) := by decide +kernel
theorem dX6_item_175 : decode cX6_item 175 = .ok (.iconst 1, 1) := by decide +kernel
theorem dX6_item_176 : decode cX6_item 176 = .ok (.invokevirtual 92, 3) := by decide +kernel
theorem dX6_item_179 : decode cX6_item 179 = .ok (.ireturn, 1) := by decide +kernel
theorem dX6_item_180 : decode cX6_item 180 = .ok (.aload_n 0, 1) := by decide +kernel
theorem dX6_item_181 : decode cX6_item 181 = .ok (.aload_n 0, 1) := by decide +kernel
theorem dX6_item_182 : decode cX6_item 182 = .ok (.getfield 41, 3) := by decide +kernel
theorem dX6_item_185 : decode cX6_item 185 = .ok (.iload_n 1, 1) := by decide +kernel
theorem dX6_item_186 : decode cX6_item 186 = .ok (.iconst 1, 1) := by decide +kernel
theorem dX6_item_187 : decode cX6_item 187 = .ok (.iadd, 1) := by decide +kernel
theorem dX6_item_188 : decode cX6_item 188 = .ok (.invokevirtual 89, 3) := by decide +kernel
theorem dX6_item_191 : decode cX6_item 191 = .ok (.iconst 2, 1) := by decide +kernel
theorem dX6_item_192 : decode cX6_item 192 = .ok (.invokevirtual 92, 3) := by decide +kernel
theorem dX6_item_195 : decode cX6_item 195 = .ok (.ireturn, 1) := by decide +kernel
theorem dX6_item_196 : decode cX6_item 196 = .ok (.iconst 0, 1) := by decide +kernel
theorem dX6_item_197 : decode cX6_item 197 = .ok (.ireturn, 1) := by decide +kernel
theorem dX6_inside_0 : decode cX6_inside 0 = .ok (.iload_n 3, 1) := by decide +kernel
theorem dX6_inside_1 : decode cX6_inside 1 = .ok (.bipush 8, 2) := by decide +kernel
theorem dX6_inside_3 : decode cX6_inside 3 = .ok (.if_icmp .lt 5, 3) := by decide +kernel
theorem dX6_inside_6 : decode cX6_inside 6 = .ok (.iconst 5, 1) := by decide +kernel
theorem dX6_inside_7 : decode cX6_inside 7 = .ok (.ireturn, 1) := by decide +kernel
theorem dX6_inside_8 : decode cX6_inside 8 = .ok (.aload_n 0, 1) := by decide +kernel
theorem dX6_inside_9 : decode cX6_inside 9 = .ok (.iload_n 2, 1) := by decide +kernel
theorem dX6_inside_10 : decode cX6_inside 10 = .ok (.aload_n 0, 1) := by decide +kernel
theorem dX6_inside_11 : decode cX6_inside 11 = .ok (.getfield 41, 3) := by decide +kernel
theorem dX6_inside_14 : decode cX6_inside 14 = .ok (.iload_n 1, 1) := by decide +kernel
theorem dX6_inside_15 : decode cX6_inside 15 = .ok (.invokevirtual 67, 3) := by decide +kernel
theorem dX6_inside_18 : decode cX6_inside 18 = .ok (.iconst 1, 1) := by decide +kernel
theorem dX6_inside_19 : decode cX6_inside 19 = .ok (.isub, 1) := by decide +kernel
theorem dX6_inside_20 : decode cX6_inside 20 = .ok (.iload_n 3, 1) := by decide +kernel
theorem dX6_inside_21 : decode cX6_inside 21 = .ok (.iconst 1, 1) := by decide +kernel
theorem dX6_inside_22 : decode cX6_inside 22 = .ok (.iadd, 1) := by decide +kernel
theorem dX6_inside_23 : decode cX6_inside 23 = .ok (.invokevirtual 57, 3) := by decide +kernel
theorem dX6_inside_26 : decode cX6_inside 26 = .ok (.ireturn, 1) := by decide +kernel
theorem dX6_block_0 : decode cX6_block 0 = .ok (.aload_n 0, 1) := by decide +kernel
theorem dX6_block_1 : decode cX6_block 1 = .ok (.getfield 41, 3) := by decide +kernel
theorem dX6_block_4 : decode cX6_block 4 = .ok (.iload_n 1, 1) := by decide +kernel
theorem dX6_block_5 : decode cX6_block 5 = .ok (.iconst 1, 1) := by decide +kernel
theorem dX6_block_6 : decode cX6_block 6 = .ok (.iadd, 1) := by decide +kernel
theorem dX6_block_7 : decode cX6_block 7 = .ok (.invokevirtual 89, 3) := by decide +kernel
theorem dX6_block_10 : decode cX6_block 10 = .ok (.istore_n 3, 1) := by decide +kernel
theorem dX6_block_11 : decode cX6_block 11 = .ok (.aload_n 0, 1) := by decide +kernel
theorem dX6_block_12 : decode cX6_block 12 = .ok (.getfield 27, 3) := by decide +kernel
theorem dX6_block_15 : decode cX6_block 15 = .ok (.iload_n 3, 1) := by decide +kernel
theorem dX6_block_16 : decode cX6_block 16 = .ok (.invokevirtual 95, 3) := by decide +kernel
theorem dX6_block_19 : decode cX6_block 19 = .ok (.ifCond .ne 18, 3) := by decide +kernel
theorem dX6_block_22 : decode cX6_block 22 = .ok (.aload_n 0, 1) := by decide +kernel
theorem dX6_block_23 : decode cX6_block 23 = .ok (.getfield 27, 3) := by decide +kernel
theorem dX6_block_26 : decode cX6_block 26 = .ok (.dup, 1) := by decide +kernel
theorem dX6_block_27 : decode cX6_block 27 = .ok (.getfield 101, 3) := by decide +kernel
theorem dX6_block_30 : decode cX6_block 30 = .ok (.iconst 1, 1) := by decide +kernel
theorem dX6_block_31 : decode cX6_block 31 = .ok (.iadd, 1) := by decide +kernel
theorem dX6_block_32 : decode cX6_block 32 = .ok (.putfield 101, 3) := by decide +kernel
theorem dX6_block_35 : decode cX6_block 35 = .ok (.iconst 0, 1) := by decide +kernel
theorem dX6_block_36 : decode cX6_block 36 = .ok (.ireturn, 1) := by decide +kernel
theorem dX6_block_37 : decode cX6_block 37 = .ok (.aload_n 0, 1) := by decide +kernel
theorem dX6_block_38 : decode cX6_block 38 = .ok (.getfield 15, 3) := by decide +kernel
theorem dX6_block_41 : decode cX6_block 41 = .ok (.iload_n 3, 1) := by decide +kernel
theorem dX6_block_42 : decode cX6_block 42 = .ok (.iaload, 1) := by decide +kernel
theorem dX6_block_43 : decode cX6_block 43 = .ok (.ifCond .ne 13, 3) := by decide +kernel
theorem dX6_block_46 : decode cX6_block 46 = .ok (.aload_n 0, 1) := by decide +kernel
theorem dX6_block_47 : decode cX6_block 47 = .ok (.iload_n 3, 1) := by decide +kernel
theorem dX6_block_48 : decode cX6_block 48 = .ok (.invokevirtual 104, 3) := by decide +kernel
theorem dX6_block_51 : decode cX6_block 51 = .ok (.ifCond .eq 5, 3) := by decide +kernel
theorem dX6_block_54 : decode cX6_block 54 = .ok (.iconst 3, 1) := by decide +kernel
theorem dX6_block_55 : decode cX6_block 55 = .ok (.ireturn, 1) := by decide +kernel
theorem dX6_block_56 : decode cX6_block 56 = .ok (.aload_n 0, 1) := by decide +kernel
theorem dX6_block_57 : decode cX6_block 57 = .ok (.getfield 27, 3) := by decide +kernel
theorem dX6_block_60 : decode cX6_block 60 = .ok (.getfield 107, 3) := by decide +kernel
theorem dX6_block_63 : decode cX6_block 63 = .ok (.iload_n 3, 1) := by decide +kernel
theorem dX6_block_64 : decode cX6_block 64 = .ok (.dup2, 1) := by decide +kernel
theorem dX6_block_65 : decode cX6_block 65 = .ok (.iaload, 1) := by decide +kernel
theorem dX6_block_66 : decode cX6_block 66 = .ok (.iconst 1, 1) := by decide +kernel
theorem dX6_block_67 : decode cX6_block 67 = .ok (.iadd, 1) := by decide +kernel
theorem dX6_block_68 : decode cX6_block 68 = .ok (.iastore, 1) := by decide +kernel
theorem dX6_block_69 : decode cX6_block 69 = .ok (.aload_n 0, 1) := by decide +kernel
theorem dX6_block_70 : decode cX6_block 70 = .ok (.getfield 15, 3) := by decide +kernel
theorem dX6_block_73 : decode cX6_block 73 = .ok (.iload_n 3, 1) := by decide +kernel
theorem dX6_block_74 : decode cX6_block 74 = .ok (.iaload, 1) := by decide +kernel
theorem dX6_block_75 : decode cX6_block 75 = .ok (.ifCond .le 16, 3) := by decide +kernel
theorem dX6_block_78 : decode cX6_block 78 = .ok (.aload_n 0, 1) := by decide +kernel
theorem dX6_block_79 : decode cX6_block 79 = .ok (.getfield 27, 3) := by decide +kernel
theorem dX6_block_82 : decode cX6_block 82 = .ok (.getfield 110, 3) := by decide +kernel
theorem dX6_block_85 : decode cX6_block 85 = .ok (.iload_n 3, 1) := by decide +kernel
theorem dX6_block_86 : decode cX6_block 86 = .ok (.dup2, 1) := by decide +kernel
theorem dX6_block_87 : decode cX6_block 87 = .ok (.iaload, 1) := by decide +kernel
theorem dX6_block_88 : decode cX6_block 88 = .ok (.iconst 1, 1) := by decide +kernel
theorem dX6_block_89 : decode cX6_block 89 = .ok (.iadd, 1) := by decide +kernel
theorem dX6_block_90 : decode cX6_block 90 = .ok (.iastore, 1) := by decide +kernel
theorem dX6_block_91 : decode cX6_block 91 = .ok (.aload_n 0, 1) := by decide +kernel
theorem dX6_block_92 : decode cX6_block 92 = .ok (.getfield 15, 3) := by decide +kernel
theorem dX6_block_95 : decode cX6_block 95 = .ok (.iload_n 3, 1) := by decide +kernel
theorem dX6_block_96 : decode cX6_block 96 = .ok (.dup2, 1) := by decide +kernel
theorem dX6_block_97 : decode cX6_block 97 = .ok (.iaload, 1) := by decide +kernel
theorem dX6_block_98 : decode cX6_block 98 = .ok (.iconst 1, 1) := by decide +kernel
theorem dX6_block_99 : decode cX6_block 99 = .ok (.iadd, 1) := by decide +kernel
theorem dX6_block_100 : decode cX6_block 100 = .ok (.iastore, 1) := by decide +kernel
theorem dX6_block_101 : decode cX6_block 101 = .ok (.aload_n 0, 1) := by decide +kernel
theorem dX6_block_102 : decode cX6_block 102 = .ok (.bipush 10, 2) := by decide +kernel
theorem dX6_block_104 : decode cX6_block 104 = .ok (.iload_n 3, 1) := by decide +kernel
theorem dX6_block_105 : decode cX6_block 105 = .ok (.iadd, 1) := by decide +kernel
theorem dX6_block_106 : decode cX6_block 106 = .ok (.invokevirtual 113, 3) := by decide +kernel
theorem dX6_block_109 : decode cX6_block 109 = .ok (.aload_n 0, 1) := by decide +kernel
theorem dX6_block_110 : decode cX6_block 110 = .ok (.iload_n 1, 1) := by decide +kernel
theorem dX6_block_111 : decode cX6_block 111 = .ok (.iload_n 1, 1) := by decide +kernel
theorem dX6_block_112 : decode cX6_block 112 = .ok (.iconst 2, 1) := by decide +kernel
theorem dX6_block_113 : decode cX6_block 113 = .ok (.iadd, 1) := by decide +kernel
theorem dX6_block_114 : decode cX6_block 114 = .ok (.iload_n 2, 1) := by decide +kernel
theorem dX6_block_115 : decode cX6_block 115 = .ok (.invokevirtual 116, 3) := by decide +kernel
theorem dX6_block_118 : decode cX6_block 118 = .ok (.istore 4, 2) := by decide +kernel
theorem dX6_block_120 : decode cX6_block 120 = .ok (.aload_n 0, 1) := by decide +kernel
theorem dX6_block_121 : decode cX6_block 121 = .ok (.getfield 15, 3) := by decide +kernel
theorem dX6_block_124 : decode cX6_block 124 = .ok (.iload_n 3, 1) := by decide +kernel
theorem dX6_block_125 : decode cX6_block 125 = .ok (.dup2, 1) := by decide +kernel
theorem dX6_block_126 : decode cX6_block 126 = .ok (.iaload, 1) := by decide +kernel
theorem dX6_block_127 : decode cX6_block 127 = .ok (.iconst 1, 1) := by decide +kernel
theorem dX6_block_128 : decode cX6_block 128 = .ok (.isub, 1) := by decide +kernel
theorem dX6_block_129 : decode cX6_block 129 = .ok (.iastore, 1) := by decide +kernel
theorem dX6_block_130 : decode cX6_block 130 = .ok (.aload_n 0, 1) := by decide +kernel
theorem dX6_block_131 : decode cX6_block 131 = .ok (.getfield 27, 3) := by decide +kernel
theorem dX6_block_134 : decode cX6_block 134 = .ok (.getfield 119, 3) := by decide +kernel
theorem dX6_block_137 : decode cX6_block 137 = .ok (.iload_n 3, 1) := by decide +kernel
theorem dX6_block_138 : decode cX6_block 138 = .ok (.dup2, 1) := by decide +kernel
theorem dX6_block_139 : decode cX6_block 139 = .ok (.iaload, 1) := by decide +kernel
theorem dX6_block_140 : decode cX6_block 140 = .ok (.iconst 1, 1) := by decide +kernel
theorem dX6_block_141 : decode cX6_block 141 = .ok (.iadd, 1) := by decide +kernel
theorem dX6_block_142 : decode cX6_block 142 = .ok (.iastore, 1) := by decide +kernel
theorem dX6_block_143 : decode cX6_block 143 = .ok (.aload_n 0, 1) := by decide +kernel
theorem dX6_block_144 : decode cX6_block 144 = .ok (.bipush 20, 2) := by decide +kernel
theorem dX6_block_146 : decode cX6_block 146 = .ok (.iload_n 3, 1) := by decide +kernel
theorem dX6_block_147 : decode cX6_block 147 = .ok (.iadd, 1) := by decide +kernel
theorem dX6_block_148 : decode cX6_block 148 = .ok (.invokevirtual 113, 3) := by decide +kernel
theorem dX6_block_151 : decode cX6_block 151 = .ok (.iload 4, 2) := by decide +kernel
theorem dX6_block_153 : decode cX6_block 153 = .ok (.ireturn, 1) := by decide +kernel
theorem dX6_attempt_0 : decode cX6_attempt 0 = .ok (.aload_n 0, 1) := by decide +kernel
theorem dX6_attempt_1 : decode cX6_attempt 1 = .ok (.iload_n 2, 1) := by decide +kernel
theorem dX6_attempt_2 : decode cX6_attempt 2 = .ok (.iconst 1, 1) := by decide +kernel
theorem dX6_attempt_3 : decode cX6_attempt 3 = .ok (.iadd, 1) := by decide +kernel
theorem dX6_attempt_4 : decode cX6_attempt 4 = .ok (.invokevirtual 48, 3) := by decide +kernel
theorem dX6_attempt_7 : decode cX6_attempt 7 = .ok (.aload_n 0, 1) := by decide +kernel
theorem dX6_attempt_8 : decode cX6_attempt 8 = .ok (.iload_n 1, 1) := by decide +kernel
theorem dX6_attempt_9 : decode cX6_attempt 9 = .ok (.iload_n 1, 1) := by decide +kernel
theorem dX6_attempt_10 : decode cX6_attempt 10 = .ok (.iconst 1, 1) := by decide +kernel
theorem dX6_attempt_11 : decode cX6_attempt 11 = .ok (.iadd, 1) := by decide +kernel
theorem dX6_attempt_12 : decode cX6_attempt 12 = .ok (.iload_n 2, 1) := by decide +kernel
theorem dX6_attempt_13 : decode cX6_attempt 13 = .ok (.invokevirtual 116, 3) := by decide +kernel
theorem dX6_attempt_16 : decode cX6_attempt 16 = .ok (.istore 4, 2) := by decide +kernel
theorem dX6_attempt_18 : decode cX6_attempt 18 = .ok (.iload 4, 2) := by decide +kernel
theorem dX6_attempt_20 : decode cX6_attempt 20 = .ok (.iconst 1, 1) := by decide +kernel
theorem dX6_attempt_21 : decode cX6_attempt 21 = .ok (.if_icmp .lt 9, 3) := by decide +kernel
theorem dX6_attempt_24 : decode cX6_attempt 24 = .ok (.iload 4, 2) := by decide +kernel
theorem dX6_attempt_26 : decode cX6_attempt 26 = .ok (.iload_n 3, 1) := by decide +kernel
theorem dX6_attempt_27 : decode cX6_attempt 27 = .ok (.if_icmp .le 6, 3) := by decide +kernel
theorem dX6_attempt_30 : decode cX6_attempt 30 = .ok (.iload 4, 2) := by decide +kernel
theorem dX6_attempt_32 : decode cX6_attempt 32 = .ok (.ireturn, 1) := by decide +kernel
theorem dX6_attempt_33 : decode cX6_attempt 33 = .ok (.aload_n 0, 1) := by decide +kernel
theorem dX6_attempt_34 : decode cX6_attempt 34 = .ok (.iload_n 2, 1) := by decide +kernel
theorem dX6_attempt_35 : decode cX6_attempt 35 = .ok (.iconst 1, 1) := by decide +kernel
theorem dX6_attempt_36 : decode cX6_attempt 36 = .ok (.iadd, 1) := by decide +kernel
theorem dX6_attempt_37 : decode cX6_attempt 37 = .ok (.invokevirtual 61, 3) := by decide +kernel
theorem dX6_attempt_40 : decode cX6_attempt 40 = .ok (.aload_n 0, 1) := by decide +kernel
theorem dX6_attempt_41 : decode cX6_attempt 41 = .ok (.getfield 27, 3) := by decide +kernel
theorem dX6_attempt_44 : decode cX6_attempt 44 = .ok (.dup, 1) := by decide +kernel
theorem dX6_attempt_45 : decode cX6_attempt 45 = .ok (.getfield 122, 3) := by decide +kernel
theorem dX6_attempt_48 : decode cX6_attempt 48 = .ok (.iconst 1, 1) := by decide +kernel
theorem dX6_attempt_49 : decode cX6_attempt 49 = .ok (.iadd, 1) := by decide +kernel
theorem dX6_attempt_50 : decode cX6_attempt 50 = .ok (.putfield 122, 3) := by decide +kernel
theorem dX6_attempt_53 : decode cX6_attempt 53 = .ok (.aload_n 0, 1) := by decide +kernel
theorem dX6_attempt_54 : decode cX6_attempt 54 = .ok (.bipush 50, 2) := by decide +kernel
theorem dX6_attempt_56 : decode cX6_attempt 56 = .ok (.iload 4, 2) := by decide +kernel
theorem dX6_attempt_58 : decode cX6_attempt 58 = .ok (.iadd, 1) := by decide +kernel
theorem dX6_attempt_59 : decode cX6_attempt 59 = .ok (.invokevirtual 113, 3) := by decide +kernel
theorem dX6_attempt_62 : decode cX6_attempt 62 = .ok (.iconst 0, 1) := by decide +kernel
theorem dX6_attempt_63 : decode cX6_attempt 63 = .ok (.ireturn, 1) := by decide +kernel
theorem dX6_loop_0 : decode cX6_loop 0 = .ok (.aload_n 0, 1) := by decide +kernel
theorem dX6_loop_1 : decode cX6_loop 1 = .ok (.getfield 41, 3) := by decide +kernel
theorem dX6_loop_4 : decode cX6_loop 4 = .ok (.iload_n 1, 1) := by decide +kernel
theorem dX6_loop_5 : decode cX6_loop 5 = .ok (.iconst 1, 1) := by decide +kernel
theorem dX6_loop_6 : decode cX6_loop 6 = .ok (.iadd, 1) := by decide +kernel
theorem dX6_loop_7 : decode cX6_loop 7 = .ok (.invokevirtual 89, 3) := by decide +kernel
theorem dX6_loop_10 : decode cX6_loop 10 = .ok (.istore_n 3, 1) := by decide +kernel
theorem dX6_loop_11 : decode cX6_loop 11 = .ok (.iconst 0, 1) := by decide +kernel
theorem dX6_loop_12 : decode cX6_loop 12 = .ok (.istore 4, 2) := by decide +kernel
theorem dX6_loop_14 : decode cX6_loop 14 = .ok (.iload 4, 2) := by decide +kernel
theorem dX6_loop_16 : decode cX6_loop 16 = .ok (.iload_n 3, 1) := by decide +kernel
theorem dX6_loop_17 : decode cX6_loop 17 = .ok (.if_icmp .ge 44, 3) := by decide +kernel
theorem dX6_loop_20 : decode cX6_loop 20 = .ok (.aload_n 0, 1) := by decide +kernel
theorem dX6_loop_21 : decode cX6_loop 21 = .ok (.iload_n 1, 1) := by decide +kernel
theorem dX6_loop_22 : decode cX6_loop 22 = .ok (.iload_n 1, 1) := by decide +kernel
theorem dX6_loop_23 : decode cX6_loop 23 = .ok (.iconst 2, 1) := by decide +kernel
theorem dX6_loop_24 : decode cX6_loop 24 = .ok (.iadd, 1) := by decide +kernel
theorem dX6_loop_25 : decode cX6_loop 25 = .ok (.iload_n 2, 1) := by decide +kernel
theorem dX6_loop_26 : decode cX6_loop 26 = .ok (.invokevirtual 116, 3) := by decide +kernel
theorem dX6_loop_29 : decode cX6_loop 29 = .ok (.istore 5, 2) := by decide +kernel
theorem dX6_loop_31 : decode cX6_loop 31 = .ok (.iload 5, 2) := by decide +kernel
theorem dX6_loop_33 : decode cX6_loop 33 = .ok (.bipush 6, 2) := by decide +kernel
theorem dX6_loop_35 : decode cX6_loop 35 = .ok (.if_icmp .ne 5, 3) := by decide +kernel
theorem dX6_loop_38 : decode cX6_loop 38 = .ok (.iconst 0, 1) := by decide +kernel
theorem dX6_loop_39 : decode cX6_loop 39 = .ok (.ireturn, 1) := by decide +kernel
theorem dX6_loop_40 : decode cX6_loop 40 = .ok (.iload 5, 2) := by decide +kernel
theorem dX6_loop_42 : decode cX6_loop 42 = .ok (.ifCond .eq 13, 3) := by decide +kernel
theorem dX6_loop_45 : decode cX6_loop 45 = .ok (.iload 5, 2) := by decide +kernel
theorem dX6_loop_47 : decode cX6_loop 47 = .ok (.bipush 7, 2) := by decide +kernel
theorem dX6_loop_49 : decode cX6_loop 49 = .ok (.if_icmp .eq 6, 3) := by decide +kernel
theorem dX6_loop_52 : decode cX6_loop 52 = .ok (.iload 5, 2) := by decide +kernel
theorem dX6_loop_54 : decode cX6_loop 54 = .ok (.ireturn, 1) := by decide +kernel
theorem dX6_loop_55 : decode cX6_loop 55 = .ok (.iinc 4 1, 3) := by decide +kernel
theorem dX6_loop_58 : decode cX6_loop 58 = .ok (.goto (-44), 3) := by decide +kernel
theorem dX6_loop_61 : decode cX6_loop 61 = .ok (.iconst 0, 1) := by decide +kernel
theorem dX6_loop_62 : decode cX6_loop 62 = .ok (.ireturn, 1) := by decide +kernel
theorem dX6_payment_0 : decode cX6_payment 0 = .ok (.aload_n 0, 1) := by decide +kernel
theorem dX6_payment_1 : decode cX6_payment 1 = .ok (.getfield 41, 3) := by decide +kernel
theorem dX6_payment_4 : decode cX6_payment 4 = .ok (.iload_n 1, 1) := by decide +kernel
theorem dX6_payment_5 : decode cX6_payment 5 = .ok (.iconst 1, 1) := by decide +kernel
theorem dX6_payment_6 : decode cX6_payment 6 = .ok (.iadd, 1) := by decide +kernel
theorem dX6_payment_7 : decode cX6_payment 7 = .ok (.invokevirtual 89, 3) := by decide +kernel
theorem dX6_payment_10 : decode cX6_payment 10 = .ok (.istore_n 2, 1) := by decide +kernel
theorem dX6_payment_11 : decode cX6_payment 11 = .ok (.aload_n 0, 1) := by decide +kernel
theorem dX6_payment_12 : decode cX6_payment 12 = .ok (.getfield 41, 3) := by decide +kernel
theorem dX6_payment_15 : decode cX6_payment 15 = .ok (.iload_n 1, 1) := by decide +kernel
theorem dX6_payment_16 : decode cX6_payment 16 = .ok (.iconst 2, 1) := by decide +kernel
theorem dX6_payment_17 : decode cX6_payment 17 = .ok (.iadd, 1) := by decide +kernel
theorem dX6_payment_18 : decode cX6_payment 18 = .ok (.invokevirtual 89, 3) := by decide +kernel
theorem dX6_payment_21 : decode cX6_payment 21 = .ok (.istore_n 3, 1) := by decide +kernel
theorem dX6_payment_22 : decode cX6_payment 22 = .ok (.iload_n 2, 1) := by decide +kernel
theorem dX6_payment_23 : decode cX6_payment 23 = .ok (.iload_n 3, 1) := by decide +kernel
theorem dX6_payment_24 : decode cX6_payment 24 = .ok (.if_icmp .eq 19, 3) := by decide +kernel
theorem dX6_payment_27 : decode cX6_payment 27 = .ok (.aload_n 0, 1) := by decide +kernel
theorem dX6_payment_28 : decode cX6_payment 28 = .ok (.iload_n 2, 1) := by decide +kernel
theorem dX6_payment_29 : decode cX6_payment 29 = .ok (.invokevirtual 125, 3) := by decide +kernel
theorem dX6_payment_32 : decode cX6_payment 32 = .ok (.ifCond .eq 11, 3) := by decide +kernel
theorem dX6_payment_35 : decode cX6_payment 35 = .ok (.aload_n 0, 1) := by decide +kernel
theorem dX6_payment_36 : decode cX6_payment 36 = .ok (.iload_n 3, 1) := by decide +kernel
theorem dX6_payment_37 : decode cX6_payment 37 = .ok (.invokevirtual 125, 3) := by decide +kernel
theorem dX6_payment_40 : decode cX6_payment 40 = .ok (.ifCond .ne 5, 3) := by decide +kernel
theorem dX6_payment_43 : decode cX6_payment 43 = .ok (.iconst 2, 1) := by decide +kernel
theorem dX6_payment_44 : decode cX6_payment 44 = .ok (.ireturn, 1) := by decide +kernel
theorem dX6_payment_45 : decode cX6_payment 45 = .ok (.aload_n 0, 1) := by decide +kernel
theorem dX6_payment_46 : decode cX6_payment 46 = .ok (.getfield 41, 3) := by decide +kernel
theorem dX6_payment_49 : decode cX6_payment 49 = .ok (.iload_n 1, 1) := by decide +kernel
theorem dX6_payment_50 : decode cX6_payment 50 = .ok (.iconst 3, 1) := by decide +kernel
theorem dX6_payment_51 : decode cX6_payment 51 = .ok (.iadd, 1) := by decide +kernel
theorem dX6_payment_52 : decode cX6_payment 52 = .ok (.aload_n 0, 1) := by decide +kernel
theorem dX6_payment_53 : decode cX6_payment 53 = .ok (.getfield 41, 3) := by decide +kernel
theorem dX6_payment_56 : decode cX6_payment 56 = .ok (.iload_n 1, 1) := by decide +kernel
theorem dX6_payment_57 : decode cX6_payment 57 = .ok (.invokevirtual 67, 3) := by decide +kernel
theorem dX6_payment_60 : decode cX6_payment 60 = .ok (.invokevirtual 128, 3) := by decide +kernel
theorem dX6_payment_63 : decode cX6_payment 63 = .ok (.istore 4, 2) := by decide +kernel
theorem dX6_payment_65 : decode cX6_payment 65 = .ok (.aload_n 0, 1) := by decide +kernel
theorem dX6_payment_66 : decode cX6_payment 66 = .ok (.getfield 27, 3) := by decide +kernel
theorem dX6_payment_69 : decode cX6_payment 69 = .ok (.iload_n 2, 1) := by decide +kernel
theorem dX6_payment_70 : decode cX6_payment 70 = .ok (.iload 4, 2) := by decide +kernel
theorem dX6_payment_72 : decode cX6_payment 72 = .ok (.invokevirtual 131, 3) := by decide +kernel
theorem dX6_payment_75 : decode cX6_payment 75 = .ok (.istore 5, 2) := by decide +kernel
theorem dX6_payment_77 : decode cX6_payment 77 = .ok (.aload_n 0, 1) := by decide +kernel
theorem dX6_payment_78 : decode cX6_payment 78 = .ok (.getfield 27, 3) := by decide +kernel
theorem dX6_payment_81 : decode cX6_payment 81 = .ok (.getfield 134, 3) := by decide +kernel
theorem dX6_payment_84 : decode cX6_payment 84 = .ok (.iload_n 2, 1) := by decide +kernel
theorem dX6_payment_85 : decode cX6_payment 85 = .ok (.iaload, 1) := by decide +kernel
theorem dX6_payment_86 : decode cX6_payment 86 = .ok (.iload 4, 2) := by decide +kernel
theorem dX6_payment_88 : decode cX6_payment 88 = .ok (.isub, 1) := by decide +kernel
theorem dX6_payment_89 : decode cX6_payment 89 = .ok (.iload 5, 2) := by decide +kernel
theorem dX6_payment_91 : decode cX6_payment 91 = .ok (.isub, 1) := by decide +kernel
theorem dX6_payment_92 : decode cX6_payment 92 = .ok (.istore 6, 2) := by decide +kernel
theorem dX6_payment_94 : decode cX6_payment 94 = .ok (.iload 6, 2) := by decide +kernel
theorem dX6_payment_96 : decode cX6_payment 96 = .ok (.aload_n 0, 1) := by decide +kernel
theorem dX6_payment_97 : decode cX6_payment 97 = .ok (.getfield 27, 3) := by decide +kernel
theorem dX6_payment_100 : decode cX6_payment 100 = .ok (.iload_n 2, 1) := by decide +kernel
theorem dX6_payment_101 : decode cX6_payment 101 = .ok (.invokevirtual 137, 3) := by decide +kernel
theorem dX6_payment_104 : decode cX6_payment 104 = .ok (.if_icmp .lt 20, 3) := by decide +kernel
theorem dX6_payment_107 : decode cX6_payment 107 = .ok (.aload_n 0, 1) := by decide +kernel
theorem dX6_payment_108 : decode cX6_payment 108 = .ok (.getfield 27, 3) := by decide +kernel
theorem dX6_payment_111 : decode cX6_payment 111 = .ok (.getfield 134, 3) := by decide +kernel
theorem dX6_payment_114 : decode cX6_payment 114 = .ok (.iload_n 3, 1) := by decide +kernel
theorem dX6_payment_115 : decode cX6_payment 115 = .ok (.iaload, 1) := by decide +kernel
theorem dX6_payment_116 : decode cX6_payment 116 = .ok (.iload 4, 2) := by decide +kernel
theorem dX6_payment_118 : decode cX6_payment 118 = .ok (.iadd, 1) := by decide +kernel
theorem dX6_payment_119 : decode cX6_payment 119 = .ok (.ldc 140, 2) := by decide +kernel
theorem dX6_payment_121 : decode cX6_payment 121 = .ok (.if_icmp .le 5, 3) := by decide +kernel
theorem dX6_payment_124 : decode cX6_payment 124 = .ok (.iconst 1, 1) := by decide +kernel
theorem dX6_payment_125 : decode cX6_payment 125 = .ok (.ireturn, 1) := by decide +kernel
theorem dX6_payment_126 : decode cX6_payment 126 = .ok (.aload_n 0, 1) := by decide +kernel
theorem dX6_payment_127 : decode cX6_payment 127 = .ok (.getfield 27, 3) := by decide +kernel
theorem dX6_payment_130 : decode cX6_payment 130 = .ok (.getfield 134, 3) := by decide +kernel
theorem dX6_payment_133 : decode cX6_payment 133 = .ok (.iload_n 2, 1) := by decide +kernel
theorem dX6_payment_134 : decode cX6_payment 134 = .ok (.iload 6, 2) := by decide +kernel
theorem dX6_payment_136 : decode cX6_payment 136 = .ok (.iastore, 1) := by decide +kernel
theorem dX6_payment_137 : decode cX6_payment 137 = .ok (.aload_n 0, 1) := by decide +kernel
theorem dX6_payment_138 : decode cX6_payment 138 = .ok (.getfield 27, 3) := by decide +kernel
theorem dX6_payment_141 : decode cX6_payment 141 = .ok (.getfield 134, 3) := by decide +kernel
theorem dX6_payment_144 : decode cX6_payment 144 = .ok (.iload_n 3, 1) := by decide +kernel
theorem dX6_payment_145 : decode cX6_payment 145 = .ok (.dup2, 1) := by decide +kernel
theorem dX6_payment_146 : decode cX6_payment 146 = .ok (.iaload, 1) := by decide +kernel
theorem dX6_payment_147 : decode cX6_payment 147 = .ok (.iload 4, 2) := by decide +kernel
theorem dX6_payment_149 : decode cX6_payment 149 = .ok (.iadd, 1) := by decide +kernel
theorem dX6_payment_150 : decode cX6_payment 150 = .ok (.iastore, 1) := by decide +kernel
theorem dX6_payment_151 : decode cX6_payment 151 = .ok (.aload_n 0, 1) := by decide +kernel
theorem dX6_payment_152 : decode cX6_payment 152 = .ok (.getfield 27, 3) := by decide +kernel
theorem dX6_payment_155 : decode cX6_payment 155 = .ok (.dup, 1) := by decide +kernel
theorem dX6_payment_156 : decode cX6_payment 156 = .ok (.getfield 141, 3) := by decide +kernel
theorem dX6_payment_159 : decode cX6_payment 159 = .ok (.iload 5, 2) := by decide +kernel
theorem dX6_payment_161 : decode cX6_payment 161 = .ok (.i2l, 1) := by decide +kernel
theorem dX6_payment_162 : decode cX6_payment 162 = .ok (.ladd, 1) := by decide +kernel
theorem dX6_payment_163 : decode cX6_payment 163 = .ok (.putfield 141, 3) := by decide +kernel
theorem dX6_payment_166 : decode cX6_payment 166 = .ok (.aload_n 0, 1) := by decide +kernel
theorem dX6_payment_167 : decode cX6_payment 167 = .ok (.bipush 100, 2) := by decide +kernel
theorem dX6_payment_169 : decode cX6_payment 169 = .ok (.bipush 10, 2) := by decide +kernel
theorem dX6_payment_171 : decode cX6_payment 171 = .ok (.iload_n 2, 1) := by decide +kernel
theorem dX6_payment_172 : decode cX6_payment 172 = .ok (.imul, 1) := by decide +kernel
theorem dX6_payment_173 : decode cX6_payment 173 = .ok (.iadd, 1) := by decide +kernel
theorem dX6_payment_174 : decode cX6_payment 174 = .ok (.iload_n 3, 1) := by decide +kernel
theorem dX6_payment_175 : decode cX6_payment 175 = .ok (.iadd, 1) := by decide +kernel
