theorem dX6_payment_176 : decode cX6_payment 176 = .ok (.invokevirtual 113, 3) := by decide +kernel
theorem dX6_payment_179 : decode cX6_payment 179 = .ok (.iconst 0, 1) := by decide +kernel
theorem dX6_payment_180 : decode cX6_payment 180 = .ok (.ireturn, 1) := by decide +kernel
theorem dX6_bell_0 : decode cX6_bell 0 = .ok (.aload_n 0, 1) := by decide +kernel
theorem dX6_bell_1 : decode cX6_bell 1 = .ok (.getfield 27, 3) := by decide +kernel
theorem dX6_bell_4 : decode cX6_bell 4 = .ok (.iload_n 1, 1) := by decide +kernel
theorem dX6_bell_5 : decode cX6_bell 5 = .ok (.invokevirtual 95, 3) := by decide +kernel
theorem dX6_bell_8 : decode cX6_bell 8 = .ok (.ifCond .ne 19, 3) := by decide +kernel
theorem dX6_bell_11 : decode cX6_bell 11 = .ok (.aload_n 0, 1) := by decide +kernel
theorem dX6_bell_12 : decode cX6_bell 12 = .ok (.getfield 27, 3) := by decide +kernel
theorem dX6_bell_15 : decode cX6_bell 15 = .ok (.dup, 1) := by decide +kernel
theorem dX6_bell_16 : decode cX6_bell 16 = .ok (.getfield 101, 3) := by decide +kernel
theorem dX6_bell_19 : decode cX6_bell 19 = .ok (.iconst 1, 1) := by decide +kernel
theorem dX6_bell_20 : decode cX6_bell 20 = .ok (.iadd, 1) := by decide +kernel
theorem dX6_bell_21 : decode cX6_bell 21 = .ok (.putfield 101, 3) := by decide +kernel
theorem dX6_bell_24 : decode cX6_bell 24 = .ok (.goto 56, 3) := by decide +kernel
theorem dX6_bell_27 : decode cX6_bell 27 = .ok (.aload_n 0, 1) := by decide +kernel
theorem dX6_bell_28 : decode cX6_bell 28 = .ok (.iload_n 1, 1) := by decide +kernel
theorem dX6_bell_29 : decode cX6_bell 29 = .ok (.invokevirtual 125, 3) := by decide +kernel
theorem dX6_bell_32 : decode cX6_bell 32 = .ok (.ifCond .eq 27, 3) := by decide +kernel
theorem dX6_bell_35 : decode cX6_bell 35 = .ok (.aload_n 0, 1) := by decide +kernel
theorem dX6_bell_36 : decode cX6_bell 36 = .ok (.getfield 27, 3) := by decide +kernel
theorem dX6_bell_39 : decode cX6_bell 39 = .ok (.dup, 1) := by decide +kernel
theorem dX6_bell_40 : decode cX6_bell 40 = .ok (.getfield 145, 3) := by decide +kernel
theorem dX6_bell_43 : decode cX6_bell 43 = .ok (.iload_n 2, 1) := by decide +kernel
theorem dX6_bell_44 : decode cX6_bell 44 = .ok (.iadd, 1) := by decide +kernel
theorem dX6_bell_45 : decode cX6_bell 45 = .ok (.putfield 145, 3) := by decide +kernel
theorem dX6_bell_48 : decode cX6_bell 48 = .ok (.aload_n 0, 1) := by decide +kernel
theorem dX6_bell_49 : decode cX6_bell 49 = .ok (.bipush 30, 2) := by decide +kernel
theorem dX6_bell_51 : decode cX6_bell 51 = .ok (.iload_n 1, 1) := by decide +kernel
theorem dX6_bell_52 : decode cX6_bell 52 = .ok (.iadd, 1) := by decide +kernel
theorem dX6_bell_53 : decode cX6_bell 53 = .ok (.invokevirtual 113, 3) := by decide +kernel
theorem dX6_bell_56 : decode cX6_bell 56 = .ok (.goto 24, 3) := by decide +kernel
theorem dX6_bell_59 : decode cX6_bell 59 = .ok (.aload_n 0, 1) := by decide +kernel
theorem dX6_bell_60 : decode cX6_bell 60 = .ok (.getfield 27, 3) := by decide +kernel
theorem dX6_bell_63 : decode cX6_bell 63 = .ok (.dup, 1) := by decide +kernel
theorem dX6_bell_64 : decode cX6_bell 64 = .ok (.getfield 148, 3) := by decide +kernel
theorem dX6_bell_67 : decode cX6_bell 67 = .ok (.iconst 1, 1) := by decide +kernel
theorem dX6_bell_68 : decode cX6_bell 68 = .ok (.iadd, 1) := by decide +kernel
theorem dX6_bell_69 : decode cX6_bell 69 = .ok (.putfield 148, 3) := by decide +kernel
theorem dX6_bell_72 : decode cX6_bell 72 = .ok (.aload_n 0, 1) := by decide +kernel
theorem dX6_bell_73 : decode cX6_bell 73 = .ok (.bipush 40, 2) := by decide +kernel
theorem dX6_bell_75 : decode cX6_bell 75 = .ok (.iload_n 1, 1) := by decide +kernel
theorem dX6_bell_76 : decode cX6_bell 76 = .ok (.iadd, 1) := by decide +kernel
theorem dX6_bell_77 : decode cX6_bell 77 = .ok (.invokevirtual 113, 3) := by decide +kernel
theorem dX6_bell_80 : decode cX6_bell 80 = .ok (.iconst 0, 1) := by decide +kernel
theorem dX6_bell_81 : decode cX6_bell 81 = .ok (.ireturn, 1) := by decide +kernel
theorem dX6_isHeld_0 : decode cX6_isHeld 0 = .ok (.aload_n 0, 1) := by decide +kernel
theorem dX6_isHeld_1 : decode cX6_isHeld 1 = .ok (.getfield 27, 3) := by decide +kernel
theorem dX6_isHeld_4 : decode cX6_isHeld 4 = .ok (.iload_n 1, 1) := by decide +kernel
theorem dX6_isHeld_5 : decode cX6_isHeld 5 = .ok (.invokevirtual 151, 3) := by decide +kernel
theorem dX6_isHeld_8 : decode cX6_isHeld 8 = .ok (.ifCond .eq 16, 3) := by decide +kernel
theorem dX6_isHeld_11 : decode cX6_isHeld 11 = .ok (.aload_n 0, 1) := by decide +kernel
theorem dX6_isHeld_12 : decode cX6_isHeld 12 = .ok (.getfield 15, 3) := by decide +kernel
theorem dX6_isHeld_15 : decode cX6_isHeld 15 = .ok (.iload_n 1, 1) := by decide +kernel
theorem dX6_isHeld_16 : decode cX6_isHeld 16 = .ok (.iaload, 1) := by decide +kernel
theorem dX6_isHeld_17 : decode cX6_isHeld 17 = .ok (.ifCond .le 7, 3) := by decide +kernel
theorem dX6_isHeld_20 : decode cX6_isHeld 20 = .ok (.iconst 1, 1) := by decide +kernel
theorem dX6_isHeld_21 : decode cX6_isHeld 21 = .ok (.goto 4, 3) := by decide +kernel
theorem dX6_isHeld_24 : decode cX6_isHeld 24 = .ok (.iconst 0, 1) := by decide +kernel
theorem dX6_isHeld_25 : decode cX6_isHeld 25 = .ok (.ireturn, 1) := by decide +kernel
theorem dX6_isGreaterHeld_0 : decode cX6_isGreaterHeld 0 = .ok (.iload_n 1, 1) := by decide +kernel
theorem dX6_isGreaterHeld_1 : decode cX6_isGreaterHeld 1 = .ok (.iconst 1, 1) := by decide +kernel
theorem dX6_isGreaterHeld_2 : decode cX6_isGreaterHeld 2 = .ok (.iadd, 1) := by decide +kernel
theorem dX6_isGreaterHeld_3 : decode cX6_isGreaterHeld 3 = .ok (.istore_n 2, 1) := by decide +kernel
theorem dX6_isGreaterHeld_4 : decode cX6_isGreaterHeld 4 = .ok (.iload_n 2, 1) := by decide +kernel
theorem dX6_isGreaterHeld_5 : decode cX6_isGreaterHeld 5 = .ok (.bipush 8, 2) := by decide +kernel
theorem dX6_isGreaterHeld_7 : decode cX6_isGreaterHeld 7 = .ok (.if_icmp .ge 20, 3) := by decide +kernel
theorem dX6_isGreaterHeld_10 : decode cX6_isGreaterHeld 10 = .ok (.aload_n 0, 1) := by decide +kernel
theorem dX6_isGreaterHeld_11 : decode cX6_isGreaterHeld 11 = .ok (.getfield 15, 3) := by decide +kernel
theorem dX6_isGreaterHeld_14 : decode cX6_isGreaterHeld 14 = .ok (.iload_n 2, 1) := by decide +kernel
theorem dX6_isGreaterHeld_15 : decode cX6_isGreaterHeld 15 = .ok (.iaload, 1) := by decide +kernel
theorem dX6_isGreaterHeld_16 : decode cX6_isGreaterHeld 16 = .ok (.ifCond .le 5, 3) := by decide +kernel
theorem dX6_isGreaterHeld_19 : decode cX6_isGreaterHeld 19 = .ok (.iconst 1, 1) := by decide +kernel
theorem dX6_isGreaterHeld_20 : decode cX6_isGreaterHeld 20 = .ok (.ireturn, 1) := by decide +kernel
theorem dX6_isGreaterHeld_21 : decode cX6_isGreaterHeld 21 = .ok (.iinc 2 1, 3) := by decide +kernel
theorem dX6_isGreaterHeld_24 : decode cX6_isGreaterHeld 24 = .ok (.goto (-20), 3) := by decide +kernel
theorem dX6_isGreaterHeld_27 : decode cX6_isGreaterHeld 27 = .ok (.iconst 0, 1) := by decide +kernel
theorem dX6_isGreaterHeld_28 : decode cX6_isGreaterHeld 28 = .ok (.ireturn, 1) := by decide +kernel
theorem dX6_mark_0 : decode cX6_mark 0 = .ok (.aload_n 0, 1) := by decide +kernel
theorem dX6_mark_1 : decode cX6_mark 1 = .ok (.getfield 31, 3) := by decide +kernel
theorem dX6_mark_4 : decode cX6_mark 4 = .ok (.bipush 60, 2) := by decide +kernel
theorem dX6_mark_6 : decode cX6_mark 6 = .ok (.if_icmp .ge 13, 3) := by decide +kernel
theorem dX6_mark_9 : decode cX6_mark 9 = .ok (.aload_n 0, 1) := by decide +kernel
theorem dX6_mark_10 : decode cX6_mark 10 = .ok (.getfield 9, 3) := by decide +kernel
theorem dX6_mark_13 : decode cX6_mark 13 = .ok (.aload_n 0, 1) := by decide +kernel
theorem dX6_mark_14 : decode cX6_mark 14 = .ok (.getfield 31, 3) := by decide +kernel
theorem dX6_mark_17 : decode cX6_mark 17 = .ok (.iload_n 1, 1) := by decide +kernel
theorem dX6_mark_18 : decode cX6_mark 18 = .ok (.iastore, 1) := by decide +kernel
theorem dX6_mark_19 : decode cX6_mark 19 = .ok (.aload_n 0, 1) := by decide +kernel
theorem dX6_mark_20 : decode cX6_mark 20 = .ok (.dup, 1) := by decide +kernel
theorem dX6_mark_21 : decode cX6_mark 21 = .ok (.getfield 31, 3) := by decide +kernel
theorem dX6_mark_24 : decode cX6_mark 24 = .ok (.iconst 1, 1) := by decide +kernel
theorem dX6_mark_25 : decode cX6_mark 25 = .ok (.iadd, 1) := by decide +kernel
theorem dX6_mark_26 : decode cX6_mark 26 = .ok (.putfield 31, 3) := by decide +kernel
theorem dX6_mark_29 : decode cX6_mark 29 = .ok (.return_, 1) := by decide +kernel
theorem dX6_keep_0 : decode cX6_keep 0 = .ok (.iload_n 1, 1) := by decide +kernel
theorem dX6_keep_1 : decode cX6_keep 1 = .ok (.bipush 8, 2) := by decide +kernel
theorem dX6_keep_3 : decode cX6_keep 3 = .ok (.if_icmp .le 4, 3) := by decide +kernel
theorem dX6_keep_6 : decode cX6_keep 6 = .ok (.return_, 1) := by decide +kernel
theorem dX6_keep_7 : decode cX6_keep 7 = .ok (.aload_n 0, 1) := by decide +kernel
theorem dX6_keep_8 : decode cX6_keep 8 = .ok (.getfield 27, 3) := by decide +kernel
theorem dX6_keep_11 : decode cX6_keep 11 = .ok (.getfield 134, 3) := by decide +kernel
theorem dX6_keep_14 : decode cX6_keep 14 = .ok (.iconst 0, 1) := by decide +kernel
theorem dX6_keep_15 : decode cX6_keep 15 = .ok (.aload_n 0, 1) := by decide +kernel
theorem dX6_keep_16 : decode cX6_keep 16 = .ok (.getfield 20, 3) := by decide +kernel
theorem dX6_keep_19 : decode cX6_keep 19 = .ok (.iload_n 1, 1) := by decide +kernel
theorem dX6_keep_20 : decode cX6_keep 20 = .ok (.aaload, 1) := by decide +kernel
theorem dX6_keep_21 : decode cX6_keep 21 = .ok (.iconst 0, 1) := by decide +kernel
theorem dX6_keep_22 : decode cX6_keep 22 = .ok (.bipush 8, 2) := by decide +kernel
theorem dX6_keep_24 : decode cX6_keep 24 = .ok (.invokestatic 154, 3) := by decide +kernel
theorem dX6_keep_27 : decode cX6_keep 27 = .ok (.aload_n 0, 1) := by decide +kernel
theorem dX6_keep_28 : decode cX6_keep 28 = .ok (.getfield 23, 3) := by decide +kernel
theorem dX6_keep_31 : decode cX6_keep 31 = .ok (.iload_n 1, 1) := by decide +kernel
theorem dX6_keep_32 : decode cX6_keep 32 = .ok (.aload_n 0, 1) := by decide +kernel
theorem dX6_keep_33 : decode cX6_keep 33 = .ok (.getfield 27, 3) := by decide +kernel
theorem dX6_keep_36 : decode cX6_keep 36 = .ok (.getfield 141, 3) := by decide +kernel
theorem dX6_keep_39 : decode cX6_keep 39 = .ok (.lastore, 1) := by decide +kernel
theorem dX6_keep_40 : decode cX6_keep 40 = .ok (.return_, 1) := by decide +kernel
theorem dX6_undo_0 : decode cX6_undo 0 = .ok (.iload_n 1, 1) := by decide +kernel
theorem dX6_undo_1 : decode cX6_undo 1 = .ok (.bipush 8, 2) := by decide +kernel
theorem dX6_undo_3 : decode cX6_undo 3 = .ok (.if_icmp .le 4, 3) := by decide +kernel
theorem dX6_undo_6 : decode cX6_undo 6 = .ok (.return_, 1) := by decide +kernel
theorem dX6_undo_7 : decode cX6_undo 7 = .ok (.aload_n 0, 1) := by decide +kernel
theorem dX6_undo_8 : decode cX6_undo 8 = .ok (.getfield 20, 3) := by decide +kernel
theorem dX6_undo_11 : decode cX6_undo 11 = .ok (.iload_n 1, 1) := by decide +kernel
theorem dX6_undo_12 : decode cX6_undo 12 = .ok (.aaload, 1) := by decide +kernel
theorem dX6_undo_13 : decode cX6_undo 13 = .ok (.iconst 0, 1) := by decide +kernel
theorem dX6_undo_14 : decode cX6_undo 14 = .ok (.aload_n 0, 1) := by decide +kernel
theorem dX6_undo_15 : decode cX6_undo 15 = .ok (.getfield 27, 3) := by decide +kernel
theorem dX6_undo_18 : decode cX6_undo 18 = .ok (.getfield 134, 3) := by decide +kernel
theorem dX6_undo_21 : decode cX6_undo 21 = .ok (.iconst 0, 1) := by decide +kernel
theorem dX6_undo_22 : decode cX6_undo 22 = .ok (.bipush 8, 2) := by decide +kernel
theorem dX6_undo_24 : decode cX6_undo 24 = .ok (.invokestatic 154, 3) := by decide +kernel
theorem dX6_undo_27 : decode cX6_undo 27 = .ok (.aload_n 0, 1) := by decide +kernel
theorem dX6_undo_28 : decode cX6_undo 28 = .ok (.getfield 27, 3) := by decide +kernel
theorem dX6_undo_31 : decode cX6_undo 31 = .ok (.aload_n 0, 1) := by decide +kernel
theorem dX6_undo_32 : decode cX6_undo 32 = .ok (.getfield 23, 3) := by decide +kernel
theorem dX6_undo_35 : decode cX6_undo 35 = .ok (.iload_n 1, 1) := by decide +kernel
theorem dX6_undo_36 : decode cX6_undo 36 = .ok (.laload, 1) := by decide +kernel
theorem dX6_undo_37 : decode cX6_undo 37 = .ok (.putfield 141, 3) := by decide +kernel
theorem dX6_undo_40 : decode cX6_undo 40 = .ok (.return_, 1) := by decide +kernel
theorem dX7_init_0 : decode cX7_init 0 = .ok (.aload_n 0, 1) := by decide +kernel
theorem dX7_init_1 : decode cX7_init 1 = .ok (.invokespecial 3, 3) := by decide +kernel
theorem dX7_init_4 : decode cX7_init 4 = .ok (.aload_n 0, 1) := by decide +kernel
theorem dX7_init_5 : decode cX7_init 5 = .ok (.iconst (-1), 1) := by decide +kernel
theorem dX7_init_6 : decode cX7_init 6 = .ok (.putfield 11, 3) := by decide +kernel
theorem dX7_init_9 : decode cX7_init 9 = .ok (.aload_n 0, 1) := by decide +kernel
theorem dX7_init_10 : decode cX7_init 10 = .ok (.bipush 60, 2) := by decide +kernel
theorem dX7_init_12 : decode cX7_init 12 = .ok (.newarray .int, 2) := by decide +kernel
theorem dX7_init_14 : decode cX7_init 14 = .ok (.putfield 15, 3) := by decide +kernel
theorem dX7_init_17 : decode cX7_init 17 = .ok (.return_, 1) := by decide +kernel
theorem dX7_isMissing_0 : decode cX7_isMissing 0 = .ok (.aload_n 0, 1) := by decide +kernel
theorem dX7_isMissing_1 : decode cX7_isMissing 1 = .ok (.getfield 11, 3) := by decide +kernel
theorem dX7_isMissing_4 : decode cX7_isMissing 4 = .ok (.iconst (-1), 1) := by decide +kernel
theorem dX7_isMissing_5 : decode cX7_isMissing 5 = .ok (.if_icmp .ne 7, 3) := by decide +kernel
theorem dX7_isMissing_8 : decode cX7_isMissing 8 = .ok (.iconst 1, 1) := by decide +kernel
theorem dX7_isMissing_9 : decode cX7_isMissing 9 = .ok (.goto 4, 3) := by decide +kernel
theorem dX7_isMissing_12 : decode cX7_isMissing 12 = .ok (.iconst 0, 1) := by decide +kernel
theorem dX7_isMissing_13 : decode cX7_isMissing 13 = .ok (.ireturn, 1) := by decide +kernel
theorem dX7_hasPlace_0 : decode cX7_hasPlace 0 = .ok (.iload_n 1, 1) := by decide +kernel
theorem dX7_hasPlace_1 : decode cX7_hasPlace 1 = .ok (.ifCond .lt 15, 3) := by decide +kernel
theorem dX7_hasPlace_4 : decode cX7_hasPlace 4 = .ok (.iload_n 1, 1) := by decide +kernel
theorem dX7_hasPlace_5 : decode cX7_hasPlace 5 = .ok (.aload_n 0, 1) := by decide +kernel
theorem dX7_hasPlace_6 : decode cX7_hasPlace 6 = .ok (.getfield 19, 3) := by decide +kernel
theorem dX7_hasPlace_9 : decode cX7_hasPlace 9 = .ok (.if_icmp .ge 7, 3) := by decide +kernel
theorem dX7_hasPlace_12 : decode cX7_hasPlace 12 = .ok (.iconst 1, 1) := by decide +kernel
theorem dX7_hasPlace_13 : decode cX7_hasPlace 13 = .ok (.goto 4, 3) := by decide +kernel
theorem dX7_hasPlace_16 : decode cX7_hasPlace 16 = .ok (.iconst 0, 1) := by decide +kernel
theorem dX7_hasPlace_17 : decode cX7_hasPlace 17 = .ok (.ireturn, 1) := by decide +kernel
theorem dX7_hasStretch_0 : decode cX7_hasStretch 0 = .ok (.iload_n 2, 1) := by decide +kernel
theorem dX7_hasStretch_1 : decode cX7_hasStretch 1 = .ok (.ifCond .lt 29, 3) := by decide +kernel
theorem dX7_hasStretch_4 : decode cX7_hasStretch 4 = .ok (.iload_n 1, 1) := by decide +kernel
theorem dX7_hasStretch_5 : decode cX7_hasStretch 5 = .ok (.ifCond .lt 25, 3) := by decide +kernel
theorem dX7_hasStretch_8 : decode cX7_hasStretch 8 = .ok (.iload_n 1, 1) := by decide +kernel
theorem dX7_hasStretch_9 : decode cX7_hasStretch 9 = .ok (.aload_n 0, 1) := by decide +kernel
theorem dX7_hasStretch_10 : decode cX7_hasStretch 10 = .ok (.getfield 19, 3) := by decide +kernel
theorem dX7_hasStretch_13 : decode cX7_hasStretch 13 = .ok (.if_icmp .gt 17, 3) := by decide +kernel
theorem dX7_hasStretch_16 : decode cX7_hasStretch 16 = .ok (.iload_n 2, 1) := by decide +kernel
theorem dX7_hasStretch_17 : decode cX7_hasStretch 17 = .ok (.aload_n 0, 1) := by decide +kernel
theorem dX7_hasStretch_18 : decode cX7_hasStretch 18 = .ok (.getfield 19, 3) := by decide +kernel
theorem dX7_hasStretch_21 : decode cX7_hasStretch 21 = .ok (.iload_n 1, 1) := by decide +kernel
theorem dX7_hasStretch_22 : decode cX7_hasStretch 22 = .ok (.isub, 1) := by decide +kernel
theorem dX7_hasStretch_23 : decode cX7_hasStretch 23 = .ok (.if_icmp .gt 7, 3) := by decide +kernel
theorem dX7_hasStretch_26 : decode cX7_hasStretch 26 = .ok (.iconst 1, 1) := by decide +kernel
theorem dX7_hasStretch_27 : decode cX7_hasStretch 27 = .ok (.goto 4, 3) := by decide +kernel
theorem dX7_hasStretch_30 : decode cX7_hasStretch 30 = .ok (.iconst 0, 1) := by decide +kernel
theorem dX7_hasStretch_31 : decode cX7_hasStretch 31 = .ok (.ireturn, 1) := by decide +kernel
theorem dX7_become_0 : decode cX7_become 0 = .ok (.aload_n 0, 1) := by decide +kernel
theorem dX7_become_1 : decode cX7_become 1 = .ok (.iload_n 1, 1) := by decide +kernel
theorem dX7_become_2 : decode cX7_become 2 = .ok (.putfield 11, 3) := by decide +kernel
theorem dX7_become_5 : decode cX7_become 5 = .ok (.aload_n 0, 1) := by decide +kernel
theorem dX7_become_6 : decode cX7_become 6 = .ok (.iload_n 2, 1) := by decide +kernel
theorem dX7_become_7 : decode cX7_become 7 = .ok (.putfield 19, 3) := by decide +kernel
theorem dX7_become_10 : decode cX7_become 10 = .ok (.iconst 0, 1) := by decide +kernel
theorem dX7_become_11 : decode cX7_become 11 = .ok (.istore_n 3, 1) := by decide +kernel
theorem dX7_become_12 : decode cX7_become 12 = .ok (.iload_n 3, 1) := by decide +kernel
theorem dX7_become_13 : decode cX7_become 13 = .ok (.bipush 60, 2) := by decide +kernel
theorem dX7_become_15 : decode cX7_become 15 = .ok (.if_icmp .ge 16, 3) := by decide +kernel
theorem dX7_become_18 : decode cX7_become 18 = .ok (.aload_n 0, 1) := by decide +kernel
theorem dX7_become_19 : decode cX7_become 19 = .ok (.getfield 15, 3) := by decide +kernel
theorem dX7_become_22 : decode cX7_become 22 = .ok (.iload_n 3, 1) := by decide +kernel
theorem dX7_become_23 : decode cX7_become 23 = .ok (.iconst 0, 1) := by decide +kernel
theorem dX7_become_24 : decode cX7_become 24 = .ok (.iastore, 1) := by decide +kernel
theorem dX7_become_25 : decode cX7_become 25 = .ok (.iinc 3 1, 3) := by decide +kernel
theorem dX7_become_28 : decode cX7_become 28 = .ok (.goto (-16), 3) := by decide +kernel
theorem dX7_become_31 : decode cX7_become 31 = .ok (.return_, 1) := by decide +kernel
theorem dX7_write_0 : decode cX7_write 0 = .ok (.aload_n 0, 1) := by decide +kernel
theorem dX7_write_1 : decode cX7_write 1 = .ok (.getfield 15, 3) := by decide +kernel
theorem dX7_write_4 : decode cX7_write 4 = .ok (.iload_n 1, 1) := by decide +kernel
theorem dX7_write_5 : decode cX7_write 5 = .ok (.aload_n 0, 1) := by decide +kernel
theorem dX7_write_6 : decode cX7_write 6 = .ok (.getfield 11, 3) := by decide +kernel
theorem dX7_write_9 : decode cX7_write 9 = .ok (.ifCond .ne 11, 3) := by decide +kernel
theorem dX7_write_12 : decode cX7_write 12 = .ok (.iload_n 2, 1) := by decide +kernel
theorem dX7_write_13 : decode cX7_write 13 = .ok (.sipush 255, 3) := by decide +kernel
theorem dX7_write_16 : decode cX7_write 16 = .ok (.iand, 1) := by decide +kernel
theorem dX7_write_17 : decode cX7_write 17 = .ok (.goto 4, 3) := by decide +kernel
theorem dX7_write_20 : decode cX7_write 20 = .ok (.iload_n 2, 1) := by decide +kernel
theorem dX7_write_21 : decode cX7_write 21 = .ok (.iastore, 1) := by decide +kernel
theorem dX7_write_22 : decode cX7_write 22 = .ok (.return_, 1) := by decide +kernel
theorem dX7_takeOver_0 : decode cX7_takeOver 0 = .ok (.aload_n 0, 1) := by decide +kernel
theorem dX7_takeOver_1 : decode cX7_takeOver 1 = .ok (.iconst 1, 1) := by decide +kernel
theorem dX7_takeOver_2 : decode cX7_takeOver 2 = .ok (.iload_n 2, 1) := by decide +kernel
theorem dX7_takeOver_3 : decode cX7_takeOver 3 = .ok (.invokevirtual 22, 3) := by decide +kernel
theorem dX7_takeOver_6 : decode cX7_takeOver 6 = .ok (.aload_n 1, 1) := by decide +kernel
theorem dX7_takeOver_7 : decode cX7_takeOver 7 = .ok (.iconst 0, 1) := by decide +kernel
theorem dX7_takeOver_8 : decode cX7_takeOver 8 = .ok (.aload_n 0, 1) := by decide +kernel
theorem dX7_takeOver_9 : decode cX7_takeOver 9 = .ok (.getfield 15, 3) := by decide +kernel
theorem dX7_takeOver_12 : decode cX7_takeOver 12 = .ok (.iconst 0, 1) := by decide +kernel
theorem dX7_takeOver_13 : decode cX7_takeOver 13 = .ok (.iload_n 2, 1) := by decide +kernel
theorem dX7_takeOver_14 : decode cX7_takeOver 14 = .ok (.invokestatic 26, 3) := by decide +kernel
theorem dX7_takeOver_17 : decode cX7_takeOver 17 = .ok (.return_, 1) := by decide +kernel
theorem dX7_firstUnlike_0 : decode cX7_firstUnlike 0 = .ok (.aload_n 0, 1) := by decide +kernel
theorem dX7_firstUnlike_1 : decode cX7_firstUnlike 1 = .ok (.getfield 19, 3) := by decide +kernel
theorem dX7_firstUnlike_4 : decode cX7_firstUnlike 4 = .ok (.iload_n 2, 1) := by decide +kernel
theorem dX7_firstUnlike_5 : decode cX7_firstUnlike 5 = .ok (.invokestatic 32, 3) := by decide +kernel
theorem dX7_firstUnlike_8 : decode cX7_firstUnlike 8 = .ok (.istore_n 3, 1) := by decide +kernel
theorem dX7_firstUnlike_9 : decode cX7_firstUnlike 9 = .ok (.iconst 0, 1) := by decide +kernel
theorem dX7_firstUnlike_10 : decode cX7_firstUnlike 10 = .ok (.istore 4, 2) := by decide +kernel
theorem dX7_firstUnlike_12 : decode cX7_firstUnlike 12 = .ok (.iload 4, 2) := by decide +kernel
theorem dX7_firstUnlike_14 : decode cX7_firstUnlike 14 = .ok (.iload_n 3, 1) := by decide +kernel
theorem dX7_firstUnlike_15 : decode cX7_firstUnlike 15 = .ok (.if_icmp .ge 26, 3) := by decide +kernel
theorem dX7_firstUnlike_18 : decode cX7_firstUnlike 18 = .ok (.aload_n 0, 1) := by decide +kernel
theorem dX7_firstUnlike_19 : decode cX7_firstUnlike 19 = .ok (.getfield 15, 3) := by decide +kernel
theorem dX7_firstUnlike_22 : decode cX7_firstUnlike 22 = .ok (.iload 4, 2) := by decide +kernel
theorem dX7_firstUnlike_24 : decode cX7_firstUnlike 24 = .ok (.iaload, 1) := by decide +kernel
theorem dX7_firstUnlike_25 : decode cX7_firstUnlike 25 = .ok (.aload_n 1, 1) := by decide +kernel
theorem dX7_firstUnlike_26 : decode cX7_firstUnlike 26 = .ok (.iload 4, 2) := by decide +kernel
theorem dX7_firstUnlike_28 : decode cX7_firstUnlike 28 = .ok (.iaload, 1) := by decide +kernel
theorem dX7_firstUnlike_29 : decode cX7_firstUnlike 29 = .ok (.if_icmp .eq 6, 3) := by decide +kernel
theorem dX7_firstUnlike_32 : decode cX7_firstUnlike 32 = .ok (.iload 4, 2) := by decide +kernel
theorem dX7_firstUnlike_34 : decode cX7_firstUnlike 34 = .ok (.ireturn, 1) := by decide +kernel
theorem dX7_firstUnlike_35 : decode cX7_firstUnlike 35 = .ok (.iinc 4 1, 3) := by decide +kernel
theorem dX7_firstUnlike_38 : decode cX7_firstUnlike 38 = .ok (.goto (-26), 3) := by decide +kernel
theorem dX7_firstUnlike_41 : decode cX7_firstUnlike 41 = .ok (.aload_n 0, 1) := by decide +kernel
theorem dX7_firstUnlike_42 : decode cX7_firstUnlike 42 = .ok (.getfield 19, 3) := by decide +kernel
theorem dX7_firstUnlike_45 : decode cX7_firstUnlike 45 = .ok (.iload_n 2, 1) := by decide +kernel
theorem dX7_firstUnlike_46 : decode cX7_firstUnlike 46 = .ok (.if_icmp .ne 7, 3) := by decide +kernel
theorem dX7_firstUnlike_49 : decode cX7_firstUnlike 49 = .ok (.iconst (-1), 1) := by decide +kernel
theorem dX7_firstUnlike_50 : decode cX7_firstUnlike 50 = .ok (.goto 4, 3) := by decide +kernel
theorem dX7_firstUnlike_53 : decode cX7_firstUnlike 53 = .ok (.iload_n 3, 1) := by decide +kernel
theorem dX7_firstUnlike_54 : decode cX7_firstUnlike 54 = .ok (.ireturn, 1) := by decide +kernel
theorem dX8_init_0 : decode cX8_init 0 = .ok (.aload_n 0, 1) := by decide +kernel
theorem dX8_init_1 : decode cX8_init 1 = .ok (.invokespecial 3, 3) := by decide +kernel
theorem dX8_init_4 : decode cX8_init 4 = .ok (.aload_n 0, 1) := by decide +kernel
theorem dX8_init_5 : decode cX8_init 5 = .ok (.bipush 80, 2) := by decide +kernel
theorem dX8_init_7 : decode cX8_init 7 = .ok (.newarray .int, 2) := by decide +kernel
theorem dX8_init_9 : decode cX8_init 9 = .ok (.putfield 9, 3) := by decide +kernel
theorem dX8_init_12 : decode cX8_init 12 = .ok (.return_, 1) := by decide +kernel
theorem dX8_add_0 : decode cX8_add 0 = .ok (.aload_n 0, 1) := by decide +kernel
theorem dX8_add_1 : decode cX8_add 1 = .ok (.getfield 15, 3) := by decide +kernel
theorem dX8_add_4 : decode cX8_add 4 = .ok (.bipush 80, 2) := by decide +kernel
theorem dX8_add_6 : decode cX8_add 6 = .ok (.if_icmp .ge 23, 3) := by decide +kernel
theorem dX8_add_9 : decode cX8_add 9 = .ok (.aload_n 0, 1) := by decide +kernel
theorem dX8_add_10 : decode cX8_add 10 = .ok (.getfield 9, 3) := by decide +kernel
theorem dX8_add_13 : decode cX8_add 13 = .ok (.aload_n 0, 1) := by decide +kernel
theorem dX8_add_14 : decode cX8_add 14 = .ok (.getfield 15, 3) := by decide +kernel
theorem dX8_add_17 : decode cX8_add 17 = .ok (.iload_n 1, 1) := by decide +kernel
theorem dX8_add_18 : decode cX8_add 18 = .ok (.iastore, 1) := by decide +kernel
theorem dX8_add_19 : decode cX8_add 19 = .ok (.aload_n 0, 1) := by decide +kernel
theorem dX8_add_20 : decode cX8_add 20 = .ok (.dup, 1) := by decide +kernel
theorem dX8_add_21 : decode cX8_add 21 = .ok (.getfield 15, 3) := by decide +kernel
theorem dX8_add_24 : decode cX8_add 24 = .ok (.iconst 1, 1) := by decide +kernel
theorem dX8_add_25 : decode cX8_add 25 = .ok (.iadd, 1) := by decide +kernel
theorem dX8_add_26 : decode cX8_add 26 = .ok (.putfield 15, 3) := by decide +kernel
theorem dX8_add_29 : decode cX8_add 29 = .ok (.return_, 1) := by decide +kernel
theorem dX9_init_0 : decode cX9_init 0 = .ok (.aload_n 0, 1) := by decide +kernel
theorem dX9_init_1 : decode cX9_init 1 = .ok (.invokespecial 3, 3) := by decide +kernel
theorem dX9_init_4 : decode cX9_init 4 = .ok (.aload_n 0, 1) := by decide +kernel
theorem dX9_init_5 : decode cX9_init 5 = .ok (.new 9, 3) := by decide +kernel
theorem dX9_init_8 : decode cX9_init 8 = .ok (.dup, 1) := by decide +kernel
theorem dX9_init_9 : decode cX9_init 9 = .ok (.invokespecial 11, 3) := by decide +kernel
theorem dX9_init_12 : decode cX9_init 12 = .ok (.putfield 12, 3) := by decide +kernel
theorem dX9_init_15 : decode cX9_init 15 = .ok (.aload_n 0, 1) := by decide +kernel
theorem dX9_init_16 : decode cX9_init 16 = .ok (.new 9, 3) := by decide +kernel
theorem dX9_init_19 : decode cX9_init 19 = .ok (.dup, 1) := by decide +kernel
theorem dX9_init_20 : decode cX9_init 20 = .ok (.invokespecial 11, 3) := by decide +kernel
theorem dX9_init_23 : decode cX9_init 23 = .ok (.putfield 18, 3) := by decide +kernel
theorem dX9_init_26 : decode cX9_init 26 = .ok (.aload_n 0, 1) := by decide +kernel
theorem dX9_init_27 : decode cX9_init 27 = .ok (.new 21, 3) := by decide +kernel
theorem dX9_init_30 : decode cX9_init 30 = .ok (.dup, 1) := by decide +kernel
theorem dX9_init_31 : decode cX9_init 31 = .ok (.invokespecial 23, 3) := by decide +kernel
theorem dX9_init_34 : decode cX9_init 34 = .ok (.putfield 24, 3) := by decide +kernel
theorem dX9_init_37 : decode cX9_init 37 = .ok (.aload_n 0, 1) := by decide +kernel
theorem dX9_init_38 : decode cX9_init 38 = .ok (.new 21, 3) := by decide +kernel
theorem dX9_init_41 : decode cX9_init 41 = .ok (.dup, 1) := by decide +kernel
theorem dX9_init_42 : decode cX9_init 42 = .ok (.invokespecial 23, 3) := by decide +kernel
theorem dX9_init_45 : decode cX9_init 45 = .ok (.putfield 28, 3) := by decide +kernel
theorem dX9_init_48 : decode cX9_init 48 = .ok (.aload_n 0, 1) := by decide +kernel
theorem dX9_init_49 : decode cX9_init 49 = .ok (.new 31, 3) := by decide +kernel
theorem dX9_init_52 : decode cX9_init 52 = .ok (.dup, 1) := by decide +kernel
theorem dX9_init_53 : decode cX9_init 53 = .ok (.aload_n 0, 1) := by decide +kernel
theorem dX9_init_54 : decode cX9_init 54 = .ok (.getfield 24, 3) := by decide +kernel
theorem dX9_init_57 : decode cX9_init 57 = .ok (.invokespecial 33, 3) := by decide +kernel
theorem dX9_init_60 : decode cX9_init 60 = .ok (.putfield 36, 3) := by decide +kernel
theorem dX9_init_63 : decode cX9_init 63 = .ok (.aload_n 0, 1) := by decide +kernel
theorem dX9_init_64 : decode cX9_init 64 = .ok (.iconst 4, 1) := by decide +kernel
theorem dX9_init_65 : decode cX9_init 65 = .ok (.anewarray 40, 3) := by decide +kernel
theorem dX9_init_68 : decode cX9_init 68 = .ok (.putfield 42, 3) := by decide +kernel
theorem dX9_init_71 : decode cX9_init 71 = .ok (.iconst 0, 1) := by decide +kernel
theorem dX9_init_72 : decode cX9_init 72 = .ok (.istore_n 1, 1) := by decide +kernel
theorem dX9_init_73 : decode cX9_init 73 = .ok (.iload_n 1, 1) := by decide +kernel
theorem dX9_init_74 : decode cX9_init 74 = .ok (.iconst 4, 1) := by decide +kernel
theorem dX9_init_75 : decode cX9_init 75 = .ok (.if_icmp .ge 22, 3) := by decide +kernel
theorem dX9_init_78 : decode cX9_init 78 = .ok (.aload_n 0, 1) := by decide +kernel
theorem dX9_init_79 : decode cX9_init 79 = .ok (.getfield 42, 3) := by decide +kernel
theorem dX9_init_82 : decode cX9_init 82 = .ok (.iload_n 1, 1) := by decide +kernel
theorem dX9_init_83 : decode cX9_init 83 = .ok (.new 40, 3) := by decide +kernel
theorem dX9_init_86 : decode cX9_init 86 = .ok (.dup, 1) := by decide +kernel
theorem dX9_init_87 : decode cX9_init 87 = .ok (.invokespecial 46, 3) := by decide +kernel
theorem dX9_init_90 : decode cX9_init 90 = .ok (.aastore, 1) := by decide +kernel
theorem dX9_init_91 : decode cX9_init 91 = .ok (.iinc 1 1, 3) := by decide +kernel
theorem dX9_init_94 : decode cX9_init 94 = .ok (.goto (-21), 3) := by decide +kernel
theorem dX9_init_97 : decode cX9_init 97 = .ok (.aload_n 0, 1) := by decide +kernel
theorem dX9_init_98 : decode cX9_init 98 = .ok (.iconst (-1), 1) := by decide +kernel
theorem dX9_init_99 : decode cX9_init 99 = .ok (.putfield 47, 3) := by decide +kernel
theorem dX9_init_102 : decode cX9_init 102 = .ok (.aload_n 0, 1) := by decide +kernel
theorem dX9_init_103 : decode cX9_init 103 = .ok (.new 51, 3) := by decide +kernel
theorem dX9_init_106 : decode cX9_init 106 = .ok (.dup, 1) := by decide +kernel
theorem dX9_init_107 : decode cX9_init 107 = .ok (.invokespecial 53, 3) := by decide +kernel
theorem dX9_init_110 : decode cX9_init 110 = .ok (.putfield 54, 3) := by decide +kernel
theorem dX9_init_113 : decode cX9_init 113 = .ok (.aload_n 0, 1) := by decide +kernel
theorem dX9_init_114 : decode cX9_init 114 = .ok (.new 58, 3) := by decide +kernel
theorem dX9_init_117 : decode cX9_init 117 = .ok (.dup, 1) := by decide +kernel
theorem dX9_init_118 : decode cX9_init 118 = .ok (.invokespecial 60, 3) := by decide +kernel
theorem dX9_init_121 : decode cX9_init 121 = .ok (.putfield 61, 3) := by decide +kernel
theorem dX9_init_124 : decode cX9_init 124 = .ok (.aload_n 0, 1) := by decide +kernel
theorem dX9_init_125 : decode cX9_init 125 = .ok (.new 65, 3) := by decide +kernel
theorem dX9_init_128 : decode cX9_init 128 = .ok (.dup, 1) := by decide +kernel
theorem dX9_init_129 : decode cX9_init 129 = .ok (.aload_n 0, 1) := by decide +kernel
theorem dX9_init_130 : decode cX9_init 130 = .ok (.getfield 12, 3) := by decide +kernel
theorem dX9_init_133 : decode cX9_init 133 = .ok (.invokespecial 67, 3) := by decide +kernel
theorem dX9_init_136 : decode cX9_init 136 = .ok (.putfield 70, 3) := by decide +kernel
theorem dX9_init_139 : decode cX9_init 139 = .ok (.aload_n 0, 1) := by decide +kernel
theorem dX9_init_140 : decode cX9_init 140 = .ok (.new 65, 3) := by decide +kernel
theorem dX9_init_143 : decode cX9_init 143 = .ok (.dup, 1) := by decide +kernel
theorem dX9_init_144 : decode cX9_init 144 = .ok (.new 9, 3) := by decide +kernel
theorem dX9_init_147 : decode cX9_init 147 = .ok (.dup, 1) := by decide +kernel
theorem dX9_init_148 : decode cX9_init 148 = .ok (.invokespecial 11, 3) := by decide +kernel
theorem dX9_init_151 : decode cX9_init 151 = .ok (.invokespecial 67, 3) := by decide +kernel
theorem dX9_init_154 : decode cX9_init 154 = .ok (.putfield 74, 3) := by decide +kernel
theorem dX9_init_157 : decode cX9_init 157 = .ok (.aload_n 0, 1) := by decide +kernel
theorem dX9_init_158 : decode cX9_init 158 = .ok (.iconst 4, 1) := by decide +kernel
theorem dX9_init_159 : decode cX9_init 159 = .ok (.anewarray 77, 3) := by decide +kernel
theorem dX9_init_162 : decode cX9_init 162 = .ok (.putfield 79, 3) := by decide +kernel
theorem dX9_init_165 : decode cX9_init 165 = .ok (.iconst 0, 1) := by decide +kernel
theorem dX9_init_166 : decode cX9_init 166 = .ok (.istore_n 1, 1) := by decide +kernel
theorem dX9_init_167 : decode cX9_init 167 = .ok (.iload_n 1, 1) := by decide +kernel
theorem dX9_init_168 : decode cX9_init 168 = .ok (.iconst 4, 1) := by decide +kernel
theorem dX9_init_169 : decode cX9_init 169 = .ok (.if_icmp .ge 22, 3) := by decide +kernel
theorem dX9_init_172 : decode cX9_init 172 = .ok (.aload_n 0, 1) := by decide +kernel
theorem dX9_init_173 : decode cX9_init 173 = .ok (.getfield 79, 3) := by decide +kernel
theorem dX9_init_176 : decode cX9_init 176 = .ok (.iload_n 1, 1) := by decide +kernel
theorem dX9_init_177 : decode cX9_init 177 = .ok (.new 77, 3) := by decide +kernel
theorem dX9_init_180 : decode cX9_init 180 = .ok (.dup, 1) := by decide +kernel
theorem dX9_init_181 : decode cX9_init 181 = .ok (.invokespecial 83, 3) := by decide +kernel
theorem dX9_init_184 : decode cX9_init 184 = .ok (.aastore, 1) := by decide +kernel
theorem dX9_init_185 : decode cX9_init 185 = .ok (.iinc 1 1, 3) := by decide +kernel
theorem dX9_init_188 : decode cX9_init 188 = .ok (.goto (-21), 3) := by decide +kernel
theorem dX9_init_191 : decode cX9_init 191 = .ok (.return_, 1) := by decide +kernel
theorem dX9_account_0 : decode cX9_account 0 = .ok (.iload_n 1, 1) := by decide +kernel
theorem dX9_account_1 : decode cX9_account 1 = .ok (.invokestatic 84, 3) := by decide +kernel
theorem dX9_account_4 : decode cX9_account 4 = .ok (.ifCond .eq 12, 3) := by decide +kernel
theorem dX9_account_7 : decode cX9_account 7 = .ok (.iload_n 2, 1) := by decide +kernel
theorem dX9_account_8 : decode cX9_account 8 = .ok (.ldc 90, 2) := by decide +kernel
theorem dX9_account_10 : decode cX9_account 10 = .ok (.invokestatic 91, 3) := by decide +kernel
theorem dX9_account_13 : decode cX9_account 13 = .ok (.ifCond .ne 6, 3) := by decide +kernel
theorem dX9_account_16 : decode cX9_account 16 = .ok (.bipush (-2), 2) := by decide +kernel
theorem dX9_account_18 : decode cX9_account 18 = .ok (.ireturn, 1) := by decide +kernel
theorem dX9_account_19 : decode cX9_account 19 = .ok (.aload_n 0, 1) := by decide +kernel
theorem dX9_account_20 : decode cX9_account 20 = .ok (.getfield 12, 3) := by decide +kernel
theorem dX9_account_23 : decode cX9_account 23 = .ok (.getfield 95, 3) := by decide +kernel
theorem dX9_account_26 : decode cX9_account 26 = .ok (.bipush 8, 2) := by decide +kernel
theorem dX9_account_28 : decode cX9_account 28 = .ok (.if_icmp .lt 6, 3) := by decide +kernel
theorem dX9_account_31 : decode cX9_account 31 = .ok (.bipush (-4), 2) := by decide +kernel
theorem dX9_account_33 : decode cX9_account 33 = .ok (.ireturn, 1) := by decide +kernel
theorem dX9_account_34 : decode cX9_account 34 = .ok (.aload_n 0, 1) := by decide +kernel
theorem dX9_account_35 : decode cX9_account 35 = .ok (.getfield 12, 3) := by decide +kernel
theorem dX9_account_38 : decode cX9_account 38 = .ok (.iload_n 1, 1) := by decide +kernel
theorem dX9_account_39 : decode cX9_account 39 = .ok (.iload_n 2, 1) := by decide +kernel
theorem dX9_account_40 : decode cX9_account 40 = .ok (.invokevirtual 98, 3) := by decide +kernel
theorem dX9_account_43 : decode cX9_account 43 = .ok (.ireturn, 1) := by decide +kernel
theorem dX9_set_0 : decode cX9_set 0 = .ok (.aload_n 0, 1) := by decide +kernel
theorem dX9_set_1 : decode cX9_set 1 = .ok (.getfield 12, 3) := by decide +kernel
theorem dX9_set_4 : decode cX9_set 4 = .ok (.iload_n 1, 1) := by decide +kernel
theorem dX9_set_5 : decode cX9_set 5 = .ok (.invokevirtual 102, 3) := by decide +kernel
theorem dX9_set_8 : decode cX9_set 8 = .ok (.ifCond .ne 7, 3) := by decide +kernel
theorem dX9_set_11 : decode cX9_set 11 = .ok (.ldc2_w 105, 3) := by decide +kernel
theorem dX9_set_14 : decode cX9_set 14 = .ok (.lreturn, 1) := by decide +kernel
theorem dX9_set_15 : decode cX9_set 15 = .ok (.iload_n 2, 1) := by decide +kernel
theorem dX9_set_16 : decode cX9_set 16 = .ok (.ifCond .ne 37, 3) := by decide +kernel
theorem dX9_set_19 : decode cX9_set 19 = .ok (.iload_n 3, 1) := by decide +kernel
theorem dX9_set_20 : decode cX9_set 20 = .ok (.ldc 90, 2) := by decide +kernel
theorem dX9_set_22 : decode cX9_set 22 = .ok (.invokestatic 91, 3) := by decide +kernel
theorem dX9_set_25 : decode cX9_set 25 = .ok (.ifCond .eq 28, 3) := by decide +kernel
theorem dX9_set_28 : decode cX9_set 28 = .ok (.aload_n 0, 1) := by decide +kernel
theorem dX9_set_29 : decode cX9_set 29 = .ok (.getfield 12, 3) := by decide +kernel
theorem dX9_set_32 : decode cX9_set 32 = .ok (.getfield 107, 3) := by decide +kernel
theorem dX9_set_35 : decode cX9_set 35 = .ok (.iload_n 1, 1) := by decide +kernel
theorem dX9_set_36 : decode cX9_set 36 = .ok (.iaload, 1) := by decide +kernel
theorem dX9_set_37 : decode cX9_set 37 = .ok (.istore 4, 2) := by decide +kernel
theorem dX9_set_39 : decode cX9_set 39 = .ok (.aload_n 0, 1) := by decide +kernel
theorem dX9_set_40 : decode cX9_set 40 = .ok (.getfield 12, 3) := by decide +kernel
theorem dX9_set_43 : decode cX9_set 43 = .ok (.getfield 107, 3) := by decide +kernel
theorem dX9_set_46 : decode cX9_set 46 = .ok (.iload_n 1, 1) := by decide +kernel
theorem dX9_set_47 : decode cX9_set 47 = .ok (.iload_n 3, 1) := by decide +kernel
theorem dX9_set_48 : decode cX9_set 48 = .ok (.iastore, 1) := by decide +kernel
theorem dX9_set_49 : decode cX9_set 49 = .ok (.iload 4, 2) := by decide +kernel
theorem dX9_set_51 : decode cX9_set 51 = .ok (.i2l, 1) := by decide +kernel
theorem dX9_set_52 : decode cX9_set 52 = .ok (.lreturn, 1) := by decide +kernel
theorem dX9_set_53 : decode cX9_set 53 = .ok (.iload_n 2, 1) := by decide +kernel
theorem dX9_set_54 : decode cX9_set 54 = .ok (.iconst 1, 1) := by decide +kernel
theorem dX9_set_55 : decode cX9_set 55 = .ok (.if_icmp .ne 38, 3) := by decide +kernel
theorem dX9_set_58 : decode cX9_set 58 = .ok (.iload_n 3, 1) := by decide +kernel
theorem dX9_set_59 : decode cX9_set 59 = .ok (.sipush 9999, 3) := by decide +kernel
theorem dX9_set_62 : decode cX9_set 62 = .ok (.invokestatic 91, 3) := by decide +kernel
theorem dX9_set_65 : decode cX9_set 65 = .ok (.ifCond .eq 28, 3) := by decide +kernel
theorem dX9_set_68 : decode cX9_set 68 = .ok (.aload_n 0, 1) := by decide +kernel
theorem dX9_set_69 : decode cX9_set 69 = .ok (.getfield 12, 3) := by decide +kernel
theorem dX9_set_72 : decode cX9_set 72 = .ok (.getfield 111, 3) := by decide +kernel
theorem dX9_set_75 : decode cX9_set 75 = .ok (.iload_n 1, 1) := by decide +kernel
theorem dX9_set_76 : decode cX9_set 76 = .ok (.iaload, 1) := by decide +kernel
theorem dX9_set_77 : decode cX9_set 77 = .ok (.istore 4, 2) := by decide +kernel
theorem dX9_set_79 : decode cX9_set 79 = .ok (.aload_n 0, 1) := by decide +kernel
theorem dX9_set_80 : decode cX9_set 80 = .ok (.getfield 12, 3) := by decide +kernel
theorem dX9_set_83 : decode cX9_set 83 = .ok (.getfield 111, 3) := by decide +kernel
theorem dX9_set_86 : decode cX9_set 86 = .ok (.iload_n 1, 1) := by decide +kernel
theorem dX9_set_87 : decode cX9_set 87 = .ok (.iload_n 3, 1) := by decide +kernel
theorem dX9_set_88 : decode cX9_set 88 = .ok (.iastore, 1) := by decide +kernel
theorem dX9_set_89 : decode cX9_set 89 = .ok (.iload 4, 2) := by decide +kernel
theorem dX9_set_91 : decode cX9_set 91 = .ok (.i2l, 1) := by decide +kernel
theorem dX9_set_92 : decode cX9_set 92 = .ok (.lreturn, 1) := by decide +kernel
theorem dX9_set_93 : decode cX9_set 93 = .ok (.ldc2_w 105, 3) := by decide +kernel
theorem dX9_set_96 : decode cX9_set 96 = .ok (.lreturn, 1) := by decide +kernel
theorem dX9_gate_0 : decode cX9_gate 0 = .ok (.aload_n 0, 1) := by decide +kernel
theorem dX9_gate_1 : decode cX9_gate 1 = .ok (.getfield 12, 3) := by decide +kernel
theorem dX9_gate_4 : decode cX9_gate 4 = .ok (.iload_n 1, 1) := by decide +kernel
theorem dX9_gate_5 : decode cX9_gate 5 = .ok (.invokevirtual 102, 3) := by decide +kernel
theorem dX9_gate_8 : decode cX9_gate 8 = .ok (.ifCond .ne 6, 3) := by decide +kernel
theorem dX9_gate_11 : decode cX9_gate 11 = .ok (.bipush (-2), 2) := by decide +kernel
theorem dX9_gate_13 : decode cX9_gate 13 = .ok (.ireturn, 1) := by decide +kernel
theorem dX9_gate_14 : decode cX9_gate 14 = .ok (.aload_n 0, 1) := by decide +kernel
theorem dX9_gate_15 : decode cX9_gate 15 = .ok (.getfield 12, 3) := by decide +kernel
theorem dX9_gate_18 : decode cX9_gate 18 = .ok (.getfield 114, 3) := by decide +kernel
theorem dX9_gate_21 : decode cX9_gate 21 = .ok (.iload_n 1, 1) := by decide +kernel
theorem dX9_gate_22 : decode cX9_gate 22 = .ok (.baload, 1) := by decide +kernel
theorem dX9_gate_23 : decode cX9_gate 23 = .ok (.istore_n 3, 1) := by decide +kernel
theorem dX9_gate_24 : decode cX9_gate 24 = .ok (.aload_n 0, 1) := by decide +kernel
theorem dX9_gate_25 : decode cX9_gate 25 = .ok (.getfield 12, 3) := by decide +kernel
theorem dX9_gate_28 : decode cX9_gate 28 = .ok (.getfield 114, 3) := by decide +kernel
theorem dX9_gate_31 : decode cX9_gate 31 = .ok (.iload_n 1, 1) := by decide +kernel
theorem dX9_gate_32 : decode cX9_gate 32 = .ok (.iload_n 2, 1) := by decide +kernel
theorem dX9_gate_33 : decode cX9_gate 33 = .ok (.bastore, 1) := by decide +kernel
theorem dX9_gate_34 : decode cX9_gate 34 = .ok (.iload_n 3, 1) := by decide +kernel
theorem dX9_gate_35 : decode cX9_gate 35 = .ok (.ifCond .eq 7, 3) := by decide +kernel
theorem dX9_gate_38 : decode cX9_gate 38 = .ok (.iconst 1, 1) := by decide +kernel
theorem dX9_gate_39 : decode cX9_gate 39 = .ok (.goto 4, 3) := by decide +kernel
theorem dX9_gate_42 : decode cX9_gate 42 = .ok (.iconst 0, 1) := by decide +kernel
theorem dX9_gate_43 : decode cX9_gate 43 = .ok (.ireturn, 1) := by decide +kernel
theorem dX9_told_0 : decode cX9_told 0 = .ok (.aload_n 0, 1) := by decide +kernel
theorem dX9_told_1 : decode cX9_told 1 = .ok (.getfield 12, 3) := by decide +kernel
theorem dX9_told_4 : decode cX9_told 4 = .ok (.iload_n 1, 1) := by decide +kernel
theorem dX9_told_5 : decode cX9_told 5 = .ok (.invokevirtual 102, 3) := by decide +kernel
theorem dX9_told_8 : decode cX9_told 8 = .ok (.ifCond .ne 6, 3) := by decide +kernel
theorem dX9_told_11 : decode cX9_told 11 = .ok (.bipush (-2), 2) := by decide +kernel
theorem dX9_told_13 : decode cX9_told 13 = .ok (.ireturn, 1) := by decide +kernel
theorem dX9_told_14 : decode cX9_told 14 = .ok (.iload_n 2, 1) := by decide +kernel
theorem dX9_told_15 : decode cX9_told 15 = .ok (.tableswitch 120 0 6 #[41, 51, 61, 79, 89, 99, 109], 41) := by decide +kernel
theorem dX9_told_56 : decode cX9_told 56 = .ok (.aload_n 0, 1) := by decide +kernel
theorem dX9_told_57 : decode cX9_told 57 = .ok (.getfield 12, 3) := by decide +kernel
theorem dX9_told_60 : decode cX9_told 60 = .ok (.getfield 118, 3) := by decide +kernel
theorem dX9_told_63 : decode cX9_told 63 = .ok (.iload_n 1, 1) := by decide +kernel
theorem dX9_told_64 : decode cX9_told 64 = .ok (.iaload, 1) := by decide +kernel
theorem dX9_told_65 : decode cX9_told 65 = .ok (.ireturn, 1) := by decide +kernel
theorem dX9_told_66 : decode cX9_told 66 = .ok (.aload_n 0, 1) := by decide +kernel
theorem dX9_told_67 : decode cX9_told 67 = .ok (.getfield 12, 3) := by decide +kernel
theorem dX9_told_70 : decode cX9_told 70 = .ok (.getfield 111, 3) := by decide +kernel
theorem dX9_told_73 : decode cX9_told 73 = .ok (.iload_n 1, 1) := by decide +kernel
theorem dX9_told_74 : decode cX9_told 74 = .ok (.iaload, 1) := by decide +kernel
theorem dX9_told_75 : decode cX9_told 75 = .ok (.ireturn, 1) := by decide +kernel
theorem dX9_told_76 : decode cX9_told 76 = .ok (.aload_n 0, 1) := by decide +kernel
theorem dX9_told_77 : decode cX9_told 77 = .ok (.getfield 12, 3) := by decide +kernel
theorem dX9_told_80 : decode cX9_told 80 = .ok (.getfield 114, 3) := by decide +kernel
theorem dX9_told_83 : decode cX9_told 83 = .ok (.iload_n 1, 1) := by decide +kernel
theorem dX9_told_84 : decode cX9_told 84 = .ok (.baload, 1) := by decide +kernel
theorem dX9_told_85 : decode cX9_told 85 = .ok (.ifCond .eq 7, 3) := by decide +kernel
theorem dX9_told_88 : decode cX9_told 88 = .ok (.iconst 1, 1) := by decide +kernel
theorem dX9_told_89 : decode cX9_told 89 = .ok (.goto 4, 3) := by decide +kernel
theorem dX9_told_92 : decode cX9_told 92 = .ok (.iconst 0, 1) := by decide +kernel
theorem dX9_told_93 : decode cX9_told 93 = .ok (.ireturn, 1) := by decide +kernel
theorem dX9_told_94 : decode cX9_told 94 = .ok (.aload_n 0, 1) := by decide +kernel
theorem dX9_told_95 : decode cX9_told 95 = .ok (.getfield 12, 3) := by decide +kernel
theorem dX9_told_98 : decode cX9_told 98 = .ok (.getfield 121, 3) := by decide +kernel
theorem dX9_told_101 : decode cX9_told 101 = .ok (.iload_n 1, 1) := by decide +kernel
theorem dX9_told_102 : decode cX9_told 102 = .ok (.iaload, 1) := by decide +kernel
theorem dX9_told_103 : decode cX9_told 103 = .ok (.ireturn, 1) := by decide +kernel
theorem dX9_told_104 : decode cX9_told 104 = .ok (.aload_n 0, 1) := by decide +kernel
theorem dX9_told_105 : decode cX9_told 105 = .ok (.getfield 12, 3) := by decide +kernel
theorem dX9_told_108 : decode cX9_told 108 = .ok (.getfield 124, 3) := by decide +kernel
theorem dX9_told_111 : decode cX9_told 111 = .ok (.iload_n 1, 1) := by decide +kernel
theorem dX9_told_112 : decode cX9_told 112 = .ok (.iaload, 1) := by decide +kernel
theorem dX9_told_113 : decode cX9_told 113 = .ok (.ireturn, 1) := by decide +kernel
theorem dX9_told_114 : decode cX9_told 114 = .ok (.aload_n 0, 1) := by decide +kernel
theorem dX9_told_115 : decode cX9_told 115 = .ok (.getfield 12, 3) := by decide +kernel
theorem dX9_told_118 : decode cX9_told 118 = .ok (.getfield 127, 3) := by decide +kernel
theorem dX9_told_121 : decode cX9_told 121 = .ok (.iload_n 1, 1) := by decide +kernel
theorem dX9_told_122 : decode cX9_told 122 = .ok (.iaload, 1) := by decide +kernel
theorem dX9_told_123 : decode cX9_told 123 = .ok (.ireturn, 1) := by decide +kernel
theorem dX9_told_124 : decode cX9_told 124 = .ok (.aload_n 0, 1) := by decide +kernel
theorem dX9_told_125 : decode cX9_told 125 = .ok (.getfield 12, 3) := by decide +kernel
theorem dX9_told_128 : decode cX9_told 128 = .ok (.iload_n 1, 1) := by decide +kernel
theorem dX9_told_129 : decode cX9_told 129 = .ok (.bipush 100, 2) := by decide +kernel
theorem dX9_told_131 : decode cX9_told 131 = .ok (.invokevirtual 130, 3) := by decide +kernel
theorem dX9_told_134 : decode cX9_told 134 = .ok (.ireturn, 1) := by decide +kernel
theorem dX9_told_135 : decode cX9_told 135 = .ok (.bipush (-2), 2) := by decide +kernel
theorem dX9_told_137 : decode cX9_told 137 = .ok (.ireturn, 1) := by decide +kernel
theorem dX9_of_0 : decode cX9_of 0 = .ok (.aload_n 0, 1) := by decide +kernel
theorem dX9_of_1 : decode cX9_of 1 = .ok (.getfield 12, 3) := by decide +kernel
theorem dX9_of_4 : decode cX9_of 4 = .ok (.iload_n 1, 1) := by decide +kernel
theorem dX9_of_5 : decode cX9_of 5 = .ok (.invokevirtual 102, 3) := by decide +kernel
theorem dX9_of_8 : decode cX9_of 8 = .ok (.ifCond .ne 7, 3) := by decide +kernel
theorem dX9_of_11 : decode cX9_of 11 = .ok (.ldc2_w 105, 3) := by decide +kernel
theorem dX9_of_14 : decode cX9_of 14 = .ok (.lreturn, 1) := by decide +kernel
theorem dX9_of_15 : decode cX9_of 15 = .ok (.iload_n 2, 1) := by decide +kernel
theorem dX9_of_16 : decode cX9_of 16 = .ok (.tableswitch 58 0 2 #[28, 39, 49], 28) := by decide +kernel
theorem dX9_of_44 : decode cX9_of 44 = .ok (.aload_n 0, 1) := by decide +kernel
theorem dX9_of_45 : decode cX9_of 45 = .ok (.getfield 12, 3) := by decide +kernel
theorem dX9_of_48 : decode cX9_of 48 = .ok (.getfield 107, 3) := by decide +kernel
theorem dX9_of_51 : decode cX9_of 51 = .ok (.iload_n 1, 1) := by decide +kernel
theorem dX9_of_52 : decode cX9_of 52 = .ok (.iaload, 1) := by decide +kernel
theorem dX9_of_53 : decode cX9_of 53 = .ok (.i2l, 1) := by decide +kernel
theorem dX9_of_54 : decode cX9_of 54 = .ok (.lreturn, 1) := by decide +kernel
theorem dX9_of_55 : decode cX9_of 55 = .ok (.aload_n 0, 1) := by decide +kernel
theorem dX9_of_56 : decode cX9_of 56 = .ok (.getfield 12, 3) := by decide +kernel
theorem dX9_of_59 : decode cX9_of 59 = .ok (.iload_n 1, 1) := by decide +kernel
theorem dX9_of_60 : decode cX9_of 60 = .ok (.invokevirtual 133, 3) := by decide +kernel
theorem dX9_of_63 : decode cX9_of 63 = .ok (.i2l, 1) := by decide +kernel
theorem dX9_of_64 : decode cX9_of 64 = .ok (.lreturn, 1) := by decide +kernel
theorem dX9_of_65 : decode cX9_of 65 = .ok (.aload_n 0, 1) := by decide +kernel
theorem dX9_of_66 : decode cX9_of 66 = .ok (.getfield 24, 3) := by decide +kernel
theorem dX9_of_69 : decode cX9_of 69 = .ok (.iload_n 1, 1) := by decide +kernel
theorem dX9_of_70 : decode cX9_of 70 = .ok (.invokevirtual 137, 3) := by decide +kernel
theorem dX9_of_73 : decode cX9_of 73 = .ok (.lreturn, 1) := by decide +kernel
theorem dX9_of_74 : decode cX9_of 74 = .ok (.ldc2_w 105, 3) := by decide +kernel
theorem dX9_of_77 : decode cX9_of 77 = .ok (.lreturn, 1) := by decide +kernel
theorem dX9_count_0 : decode cX9_count 0 = .ok (.iload_n 1, 1) := by decide +kernel
theorem dX9_count_1 : decode cX9_count 1 = .ok (.tableswitch 108 0 7 #[47, 55, 60, 68, 76, 84, 92, 100], 47) := by decide +kernel
theorem dX9_count_48 : decode cX9_count 48 = .ok (.aload_n 0, 1) := by decide +kernel
theorem dX9_count_49 : decode cX9_count 49 = .ok (.getfield 12, 3) := by decide +kernel
theorem dX9_count_52 : decode cX9_count 52 = .ok (.getfield 95, 3) := by decide +kernel
theorem dX9_count_55 : decode cX9_count 55 = .ok (.ireturn, 1) := by decide +kernel
theorem dX9_count_56 : decode cX9_count 56 = .ok (.aload_n 0, 1) := by decide +kernel
theorem dX9_count_57 : decode cX9_count 57 = .ok (.getfield 141, 3) := by decide +kernel
theorem dX9_count_60 : decode cX9_count 60 = .ok (.ireturn, 1) := by decide +kernel
theorem dX9_count_61 : decode cX9_count 61 = .ok (.aload_n 0, 1) := by decide +kernel
theorem dX9_count_62 : decode cX9_count 62 = .ok (.getfield 12, 3) := by decide +kernel
theorem dX9_count_65 : decode cX9_count 65 = .ok (.getfield 144, 3) := by decide +kernel
theorem dX9_count_68 : decode cX9_count 68 = .ok (.ireturn, 1) := by decide +kernel
theorem dX9_count_69 : decode cX9_count 69 = .ok (.aload_n 0, 1) := by decide +kernel
theorem dX9_count_70 : decode cX9_count 70 = .ok (.getfield 12, 3) := by decide +kernel
theorem dX9_count_73 : decode cX9_count 73 = .ok (.getfield 147, 3) := by decide +kernel
theorem dX9_count_76 : decode cX9_count 76 = .ok (.ireturn, 1) := by decide +kernel
theorem dX9_count_77 : decode cX9_count 77 = .ok (.aload_n 0, 1) := by decide +kernel
theorem dX9_count_78 : decode cX9_count 78 = .ok (.getfield 12, 3) := by decide +kernel
theorem dX9_count_81 : decode cX9_count 81 = .ok (.getfield 150, 3) := by decide +kernel
theorem dX9_count_84 : decode cX9_count 84 = .ok (.ireturn, 1) := by decide +kernel
theorem dX9_count_85 : decode cX9_count 85 = .ok (.aload_n 0, 1) := by decide +kernel
theorem dX9_count_86 : decode cX9_count 86 = .ok (.getfield 12, 3) := by decide +kernel
theorem dX9_count_89 : decode cX9_count 89 = .ok (.getfield 153, 3) := by decide +kernel
theorem dX9_count_92 : decode cX9_count 92 = .ok (.ireturn, 1) := by decide +kernel
theorem dX9_count_93 : decode cX9_count 93 = .ok (.aload_n 0, 1) := by decide +kernel
theorem dX9_count_94 : decode cX9_count 94 = .ok (.getfield 70, 3) := by decide +kernel
theorem dX9_count_97 : decode cX9_count 97 = .ok (.invokevirtual 156, 3) := by decide +kernel
theorem dX9_count_100 : decode cX9_count 100 = .ok (.ireturn, 1) := by decide +kernel
theorem dX9_count_101 : decode cX9_count 101 = .ok (.aload_n 0, 1) := by decide +kernel
theorem dX9_count_102 : decode cX9_count 102 = .ok (.getfield 54, 3) := by decide +kernel
theorem dX9_count_105 : decode cX9_count 105 = .ok (.getfield 160, 3) := by decide +kernel
theorem dX9_count_108 : decode cX9_count 108 = .ok (.ireturn, 1) := by decide +kernel
theorem dX9_count_109 : decode cX9_count 109 = .ok (.bipush (-2), 2) := by decide +kernel
theorem dX9_count_111 : decode cX9_count 111 = .ok (.ireturn, 1) := by decide +kernel
theorem dX9_sum_0 : decode cX9_sum 0 = .ok (.iload_n 1, 1) := by decide +kernel
theorem dX9_sum_1 : decode cX9_sum 1 = .ok (.tableswitch 51 0 2 #[27, 35, 43], 27) := by decide +kernel
theorem dX9_sum_28 : decode cX9_sum 28 = .ok (.aload_n 0, 1) := by decide +kernel
theorem dX9_sum_29 : decode cX9_sum 29 = .ok (.getfield 12, 3) := by decide +kernel
theorem dX9_sum_32 : decode cX9_sum 32 = .ok (.getfield 163, 3) := by decide +kernel
theorem dX9_sum_35 : decode cX9_sum 35 = .ok (.lreturn, 1) := by decide +kernel
theorem dX9_sum_36 : decode cX9_sum 36 = .ok (.aload_n 0, 1) := by decide +kernel
theorem dX9_sum_37 : decode cX9_sum 37 = .ok (.getfield 12, 3) := by decide +kernel
theorem dX9_sum_40 : decode cX9_sum 40 = .ok (.invokevirtual 167, 3) := by decide +kernel
theorem dX9_sum_43 : decode cX9_sum 43 = .ok (.lreturn, 1) := by decide +kernel
theorem dX9_sum_44 : decode cX9_sum 44 = .ok (.aload_n 0, 1) := by decide +kernel
theorem dX9_sum_45 : decode cX9_sum 45 = .ok (.getfield 24, 3) := by decide +kernel
theorem dX9_sum_48 : decode cX9_sum 48 = .ok (.invokevirtual 171, 3) := by decide +kernel
theorem dX9_sum_51 : decode cX9_sum 51 = .ok (.lreturn, 1) := by decide +kernel
theorem dX9_sum_52 : decode cX9_sum 52 = .ok (.ldc2_w 105, 3) := by decide +kernel
theorem dX9_sum_55 : decode cX9_sum 55 = .ok (.lreturn, 1) := by decide +kernel
theorem dX9_taken_0 : decode cX9_taken 0 = .ok (.aload_n 0, 1) := by decide +kernel
theorem dX9_taken_1 : decode cX9_taken 1 = .ok (.getfield 12, 3) := by decide +kernel
theorem dX9_taken_4 : decode cX9_taken 4 = .ok (.iload_n 1, 1) := by decide +kernel
theorem dX9_taken_5 : decode cX9_taken 5 = .ok (.invokevirtual 102, 3) := by decide +kernel
theorem dX9_taken_8 : decode cX9_taken 8 = .ok (.ifCond .eq 10, 3) := by decide +kernel
theorem dX9_taken_11 : decode cX9_taken 11 = .ok (.iload_n 2, 1) := by decide +kernel
theorem dX9_taken_12 : decode cX9_taken 12 = .ok (.invokestatic 84, 3) := by decide +kernel
theorem dX9_taken_15 : decode cX9_taken 15 = .ok (.ifCond .ne 6, 3) := by decide +kernel
theorem dX9_taken_18 : decode cX9_taken 18 = .ok (.bipush (-2), 2) := by decide +kernel
theorem dX9_taken_20 : decode cX9_taken 20 = .ok (.ireturn, 1) := by decide +kernel
theorem dX9_taken_21 : decode cX9_taken 21 = .ok (.aload_n 0, 1) := by decide +kernel
theorem dX9_taken_22 : decode cX9_taken 22 = .ok (.getfield 12, 3) := by decide +kernel
theorem dX9_taken_25 : decode cX9_taken 25 = .ok (.getfield 118, 3) := by decide +kernel
theorem dX9_taken_28 : decode cX9_taken 28 = .ok (.iload_n 1, 1) := by decide +kernel
theorem dX9_taken_29 : decode cX9_taken 29 = .ok (.iaload, 1) := by decide +kernel
theorem dX9_taken_30 : decode cX9_taken 30 = .ok (.iload_n 2, 1) := by decide +kernel
theorem dX9_taken_31 : decode cX9_taken 31 = .ok (.invokestatic 174, 3) := by decide +kernel
theorem dX9_taken_34 : decode cX9_taken 34 = .ok (.ifCond .eq 15, 3) := by decide +kernel
theorem dX9_taken_37 : decode cX9_taken 37 = .ok (.aload_n 0, 1) := by decide +kernel
theorem dX9_taken_38 : decode cX9_taken 38 = .ok (.getfield 12, 3) := by decide +kernel
theorem dX9_taken_41 : decode cX9_taken 41 = .ok (.getfield 111, 3) := by decide +kernel
theorem dX9_taken_44 : decode cX9_taken 44 = .ok (.iload_n 1, 1) := by decide +kernel
theorem dX9_taken_45 : decode cX9_taken 45 = .ok (.iaload, 1) := by decide +kernel
theorem dX9_taken_46 : decode cX9_taken 46 = .ok (.goto 5, 3) := by decide +kernel
theorem dX9_taken_49 : decode cX9_taken 49 = .ok (.bipush (-13), 2) := by decide +kernel
theorem dX9_taken_51 : decode cX9_taken 51 = .ok (.ireturn, 1) := by decide +kernel
theorem dX9_feed_0 : decode cX9_feed 0 = .ok (.iload_n 1, 1) := by decide +kernel
theorem dX9_feed_1 : decode cX9_feed 1 = .ok (.iconst 1, 1) := by decide +kernel
theorem dX9_feed_2 : decode cX9_feed 2 = .ok (.if_icmp .lt 8, 3) := by decide +kernel
theorem dX9_feed_5 : decode cX9_feed 5 = .ok (.iload_n 1, 1) := by decide +kernel
theorem dX9_feed_6 : decode cX9_feed 6 = .ok (.iconst 5, 1) := by decide +kernel
theorem dX9_feed_7 : decode cX9_feed 7 = .ok (.if_icmp .le 6, 3) := by decide +kernel
theorem dX9_feed_10 : decode cX9_feed 10 = .ok (.bipush (-2), 2) := by decide +kernel
theorem dX9_feed_12 : decode cX9_feed 12 = .ok (.ireturn, 1) := by decide +kernel
theorem dX9_feed_13 : decode cX9_feed 13 = .ok (.iload_n 2, 1) := by decide +kernel
theorem dX9_feed_14 : decode cX9_feed 14 = .ok (.invokestatic 177, 3) := by decide +kernel
theorem dX9_feed_17 : decode cX9_feed 17 = .ok (.ifCond .eq 34, 3) := by decide +kernel
theorem dX9_feed_20 : decode cX9_feed 20 = .ok (.iload_n 3, 1) := by decide +kernel
theorem dX9_feed_21 : decode cX9_feed 21 = .ok (.invokestatic 177, 3) := by decide +kernel
theorem dX9_feed_24 : decode cX9_feed 24 = .ok (.ifCond .eq 27, 3) := by decide +kernel
theorem dX9_feed_27 : decode cX9_feed 27 = .ok (.iload 4, 2) := by decide +kernel
theorem dX9_feed_29 : decode cX9_feed 29 = .ok (.invokestatic 177, 3) := by decide +kernel
theorem dX9_feed_32 : decode cX9_feed 32 = .ok (.ifCond .eq 19, 3) := by decide +kernel
theorem dX9_feed_35 : decode cX9_feed 35 = .ok (.iload 5, 2) := by decide +kernel
theorem dX9_feed_37 : decode cX9_feed 37 = .ok (.invokestatic 177, 3) := by decide +kernel
theorem dX9_feed_40 : decode cX9_feed 40 = .ok (.ifCond .eq 11, 3) := by decide +kernel
theorem dX9_feed_43 : decode cX9_feed 43 = .ok (.iload 6, 2) := by decide +kernel
theorem dX9_feed_45 : decode cX9_feed 45 = .ok (.invokestatic 177, 3) := by decide +kernel
theorem dX9_feed_48 : decode cX9_feed 48 = .ok (.ifCond .ne 6, 3) := by decide +kernel
theorem dX9_feed_51 : decode cX9_feed 51 = .ok (.bipush (-2), 2) := by decide +kernel
theorem dX9_feed_53 : decode cX9_feed 53 = .ok (.ireturn, 1) := by decide +kernel
theorem dX9_feed_54 : decode cX9_feed 54 = .ok (.aload_n 0, 1) := by decide +kernel
theorem dX9_feed_55 : decode cX9_feed 55 = .ok (.getfield 54, 3) := by decide +kernel
theorem dX9_feed_58 : decode cX9_feed 58 = .ok (.getfield 160, 3) := by decide +kernel
theorem dX9_feed_61 : decode cX9_feed 61 = .ok (.iload_n 1, 1) := by decide +kernel
theorem dX9_feed_62 : decode cX9_feed 62 = .ok (.iadd, 1) := by decide +kernel
theorem dX9_feed_63 : decode cX9_feed 63 = .ok (.bipush 80, 2) := by decide +kernel
theorem dX9_feed_65 : decode cX9_feed 65 = .ok (.if_icmp .le 6, 3) := by decide +kernel
theorem dX9_feed_68 : decode cX9_feed 68 = .ok (.bipush (-4), 2) := by decide +kernel
theorem dX9_feed_70 : decode cX9_feed 70 = .ok (.ireturn, 1) := by decide +kernel
theorem dX9_feed_71 : decode cX9_feed 71 = .ok (.aload_n 0, 1) := by decide +kernel
theorem dX9_feed_72 : decode cX9_feed 72 = .ok (.getfield 54, 3) := by decide +kernel
theorem dX9_feed_75 : decode cX9_feed 75 = .ok (.iload_n 2, 1) := by decide +kernel
theorem dX9_feed_76 : decode cX9_feed 76 = .ok (.invokevirtual 180, 3) := by decide +kernel
theorem dX9_feed_79 : decode cX9_feed 79 = .ok (.iload_n 1, 1) := by decide +kernel
theorem dX9_feed_80 : decode cX9_feed 80 = .ok (.iconst 1, 1) := by decide +kernel
theorem dX9_feed_81 : decode cX9_feed 81 = .ok (.if_icmp .le 11, 3) := by decide +kernel
theorem dX9_feed_84 : decode cX9_feed 84 = .ok (.aload_n 0, 1) := by decide +kernel
theorem dX9_feed_85 : decode cX9_feed 85 = .ok (.getfield 54, 3) := by decide +kernel
theorem dX9_feed_88 : decode cX9_feed 88 = .ok (.iload_n 3, 1) := by decide +kernel
theorem dX9_feed_89 : decode cX9_feed 89 = .ok (.invokevirtual 180, 3) := by decide +kernel
theorem dX9_feed_92 : decode cX9_feed 92 = .ok (.iload_n 1, 1) := by decide +kernel
theorem dX9_feed_93 : decode cX9_feed 93 = .ok (.iconst 2, 1) := by decide +kernel
theorem dX9_feed_94 : decode cX9_feed 94 = .ok (.if_icmp .le 12, 3) := by decide +kernel
theorem dX9_feed_97 : decode cX9_feed 97 = .ok (.aload_n 0, 1) := by decide +kernel
theorem dX9_feed_98 : decode cX9_feed 98 = .ok (.getfield 54, 3) := by decide +kernel
theorem dX9_feed_101 : decode cX9_feed 101 = .ok (.iload 4, 2) := by decide +kernel
theorem dX9_feed_103 : decode cX9_feed 103 = .ok (.invokevirtual 180, 3) := by decide +kernel
theorem dX9_feed_106 : decode cX9_feed 106 = .ok (.iload_n 1, 1) := by decide +kernel
theorem dX9_feed_107 : decode cX9_feed 107 = .ok (.iconst 3, 1) := by decide +kernel
theorem dX9_feed_108 : decode cX9_feed 108 = .ok (.if_icmp .le 12, 3) := by decide +kernel
theorem dX9_feed_111 : decode cX9_feed 111 = .ok (.aload_n 0, 1) := by decide +kernel
theorem dX9_feed_112 : decode cX9_feed 112 = .ok (.getfield 54, 3) := by decide +kernel
theorem dX9_feed_115 : decode cX9_feed 115 = .ok (.iload 5, 2) := by decide +kernel
theorem dX9_feed_117 : decode cX9_feed 117 = .ok (.invokevirtual 180, 3) := by decide +kernel
theorem dX9_feed_120 : decode cX9_feed 120 = .ok (.iload_n 1, 1) := by decide +kernel
theorem dX9_feed_121 : decode cX9_feed 121 = .ok (.iconst 4, 1) := by decide +kernel
theorem dX9_feed_122 : decode cX9_feed 122 = .ok (.if_icmp .le 12, 3) := by decide +kernel
theorem dX9_feed_125 : decode cX9_feed 125 = .ok (.aload_n 0, 1) := by decide +kernel
theorem dX9_feed_126 : decode cX9_feed 126 = .ok (.getfield 54, 3) := by decide +kernel
theorem dX9_feed_129 : decode cX9_feed 129 = .ok (.iload 6, 2) := by decide +kernel
theorem dX9_feed_131 : decode cX9_feed 131 = .ok (.invokevirtual 180, 3) := by decide +kernel
theorem dX9_feed_134 : decode cX9_feed 134 = .ok (.aload_n 0, 1) := by decide +kernel
theorem dX9_feed_135 : decode cX9_feed 135 = .ok (.getfield 54, 3) := by decide +kernel
theorem dX9_feed_138 : decode cX9_feed 138 = .ok (.getfield 160, 3) := by decide +kernel
theorem dX9_feed_141 : decode cX9_feed 141 = .ok (.ireturn, 1) := by decide +kernel
theorem dX9_program_0 : decode cX9_program 0 = .ok (.aload_n 0, 1) := by decide +kernel
theorem dX9_program_1 : decode cX9_program 1 = .ok (.getfield 141, 3) := by decide +kernel
theorem dX9_program_4 : decode cX9_program 4 = .ok (.iconst 4, 1) := by decide +kernel
theorem dX9_program_5 : decode cX9_program 5 = .ok (.if_icmp .lt 6, 3) := by decide +kernel
theorem dX9_program_8 : decode cX9_program 8 = .ok (.bipush (-4), 2) := by decide +kernel
theorem dX9_program_10 : decode cX9_program 10 = .ok (.ireturn, 1) := by decide +kernel
theorem dX9_program_11 : decode cX9_program 11 = .ok (.aload_n 0, 1) := by decide +kernel
theorem dX9_program_12 : decode cX9_program 12 = .ok (.getfield 42, 3) := by decide +kernel
theorem dX9_program_15 : decode cX9_program 15 = .ok (.aload_n 0, 1) := by decide +kernel
theorem dX9_program_16 : decode cX9_program 16 = .ok (.getfield 141, 3) := by decide +kernel
theorem dX9_program_19 : decode cX9_program 19 = .ok (.aaload, 1) := by decide +kernel
theorem dX9_program_20 : decode cX9_program 20 = .ok (.astore_n 1, 1) := by decide +kernel
theorem dX9_program_21 : decode cX9_program 21 = .ok (.aload_n 1, 1) := by decide +kernel
theorem dX9_program_22 : decode cX9_program 22 = .ok (.aload_n 0, 1) := by decide +kernel
theorem dX9_program_23 : decode cX9_program 23 = .ok (.getfield 54, 3) := by decide +kernel
theorem dX9_program_26 : decode cX9_program 26 = .ok (.invokevirtual 184, 3) := by decide +kernel
theorem dX9_program_29 : decode cX9_program 29 = .ok (.aload_n 0, 1) := by decide +kernel
theorem dX9_program_30 : decode cX9_program 30 = .ok (.getfield 54, 3) := by decide +kernel
theorem dX9_program_33 : decode cX9_program 33 = .ok (.iconst 0, 1) := by decide +kernel
theorem dX9_program_34 : decode cX9_program 34 = .ok (.putfield 160, 3) := by decide +kernel
theorem dX9_program_37 : decode cX9_program 37 = .ok (.aload_n 0, 1) := by decide +kernel
theorem dX9_program_38 : decode cX9_program 38 = .ok (.getfield 61, 3) := by decide +kernel
theorem dX9_program_41 : decode cX9_program 41 = .ok (.aload_n 1, 1) := by decide +kernel
theorem dX9_program_42 : decode cX9_program 42 = .ok (.invokevirtual 188, 3) := by decide +kernel
theorem dX9_program_45 : decode cX9_program 45 = .ok (.istore_n 2, 1) := by decide +kernel
theorem dX9_program_46 : decode cX9_program 46 = .ok (.iload_n 2, 1) := by decide +kernel
theorem dX9_program_47 : decode cX9_program 47 = .ok (.iconst (-1), 1) := by decide +kernel
theorem dX9_program_48 : decode cX9_program 48 = .ok (.if_icmp .eq 8, 3) := by decide +kernel
theorem dX9_program_51 : decode cX9_program 51 = .ok (.bipush (-100), 2) := by decide +kernel
theorem dX9_program_53 : decode cX9_program 53 = .ok (.iload_n 2, 1) := by decide +kernel
theorem dX9_program_54 : decode cX9_program 54 = .ok (.isub, 1) := by decide +kernel
theorem dX9_program_55 : decode cX9_program 55 = .ok (.ireturn, 1) := by decide +kernel
theorem dX9_program_56 : decode cX9_program 56 = .ok (.aload_n 0, 1) := by decide +kernel
theorem dX9_program_57 : decode cX9_program 57 = .ok (.dup, 1) := by decide +kernel
theorem dX9_program_58 : decode cX9_program 58 = .ok (.getfield 141, 3) := by decide +kernel
theorem dX9_program_61 : decode cX9_program 61 = .ok (.iconst 1, 1) := by decide +kernel
theorem dX9_program_62 : decode cX9_program 62 = .ok (.iadd, 1) := by decide +kernel
theorem dX9_program_63 : decode cX9_program 63 = .ok (.putfield 141, 3) := by decide +kernel
theorem dX9_program_66 : decode cX9_program 66 = .ok (.aload_n 0, 1) := by decide +kernel
theorem dX9_program_67 : decode cX9_program 67 = .ok (.getfield 141, 3) := by decide +kernel
theorem dX9_program_70 : decode cX9_program 70 = .ok (.iconst 1, 1) := by decide +kernel
theorem dX9_program_71 : decode cX9_program 71 = .ok (.isub, 1) := by decide +kernel
theorem dX9_program_72 : decode cX9_program 72 = .ok (.ireturn, 1) := by decide +kernel
theorem dX9_run_0 : decode cX9_run 0 = .ok (.aload_n 0, 1) := by decide +kernel
theorem dX9_run_1 : decode cX9_run 1 = .ok (.iload_n 1, 1) := by decide +kernel
theorem dX9_run_2 : decode cX9_run 2 = .ok (.invokevirtual 192, 3) := by decide +kernel
theorem dX9_run_5 : decode cX9_run 5 = .ok (.ifCond .ne 6, 3) := by decide +kernel
theorem dX9_run_8 : decode cX9_run 8 = .ok (.bipush (-2), 2) := by decide +kernel
theorem dX9_run_10 : decode cX9_run 10 = .ok (.ireturn, 1) := by decide +kernel
theorem dX9_run_11 : decode cX9_run 11 = .ok (.aload_n 0, 1) := by decide +kernel
theorem dX9_run_12 : decode cX9_run 12 = .ok (.getfield 70, 3) := by decide +kernel
theorem dX9_run_15 : decode cX9_run 15 = .ok (.aload_n 0, 1) := by decide +kernel
theorem dX9_run_16 : decode cX9_run 16 = .ok (.getfield 42, 3) := by decide +kernel
theorem dX9_run_19 : decode cX9_run 19 = .ok (.iload_n 1, 1) := by decide +kernel
theorem dX9_run_20 : decode cX9_run 20 = .ok (.aaload, 1) := by decide +kernel
theorem dX9_run_21 : decode cX9_run 21 = .ok (.invokevirtual 195, 3) := by decide +kernel
theorem dX9_run_24 : decode cX9_run 24 = .ok (.ireturn, 1) := by decide +kernel
theorem dX9_trace_0 : decode cX9_trace 0 = .ok (.iload_n 1, 1) := by decide +kernel
theorem dX9_trace_1 : decode cX9_trace 1 = .ok (.ifCond .lt 14, 3) := by decide +kernel
theorem dX9_trace_4 : decode cX9_trace 4 = .ok (.iload_n 1, 1) := by decide +kernel
theorem dX9_trace_5 : decode cX9_trace 5 = .ok (.aload_n 0, 1) := by decide +kernel
theorem dX9_trace_6 : decode cX9_trace 6 = .ok (.getfield 70, 3) := by decide +kernel
theorem dX9_trace_9 : decode cX9_trace 9 = .ok (.invokevirtual 156, 3) := by decide +kernel
theorem dX9_trace_12 : decode cX9_trace 12 = .ok (.if_icmp .lt 6, 3) := by decide +kernel
theorem dX9_trace_15 : decode cX9_trace 15 = .ok (.bipush (-12), 2) := by decide +kernel
theorem dX9_trace_17 : decode cX9_trace 17 = .ok (.ireturn, 1) := by decide +kernel
theorem dX9_trace_18 : decode cX9_trace 18 = .ok (.aload_n 0, 1) := by decide +kernel
theorem dX9_trace_19 : decode cX9_trace 19 = .ok (.getfield 70, 3) := by decide +kernel
theorem dX9_trace_22 : decode cX9_trace 22 = .ok (.getfield 198, 3) := by decide +kernel
theorem dX9_trace_25 : decode cX9_trace 25 = .ok (.iload_n 1, 1) := by decide +kernel
theorem dX9_trace_26 : decode cX9_trace 26 = .ok (.iaload, 1) := by decide +kernel
theorem dX9_trace_27 : decode cX9_trace 27 = .ok (.ireturn, 1) := by decide +kernel
theorem dX9_would_0 : decode cX9_would 0 = .ok (.aload_n 0, 1) := by decide +kernel
theorem dX9_would_1 : decode cX9_would 1 = .ok (.iload_n 1, 1) := by decide +kernel
theorem dX9_would_2 : decode cX9_would 2 = .ok (.invokevirtual 192, 3) := by decide +kernel
theorem dX9_would_5 : decode cX9_would 5 = .ok (.ifCond .eq 11, 3) := by decide +kernel
theorem dX9_would_8 : decode cX9_would 8 = .ok (.aload_n 0, 1) := by decide +kernel
theorem dX9_would_9 : decode cX9_would 9 = .ok (.iload_n 2, 1) := by decide +kernel
theorem dX9_would_10 : decode cX9_would 10 = .ok (.invokevirtual 201, 3) := by decide +kernel
theorem dX9_would_13 : decode cX9_would 13 = .ok (.ifCond .ne 7, 3) := by decide +kernel
theorem dX9_would_16 : decode cX9_would 16 = .ok (.ldc2_w 105, 3) := by decide +kernel
theorem dX9_would_19 : decode cX9_would 19 = .ok (.lreturn, 1) := by decide +kernel
theorem dX9_would_20 : decode cX9_would 20 = .ok (.aload_n 0, 1) := by decide +kernel
theorem dX9_would_21 : decode cX9_would 21 = .ok (.iload_n 1, 1) := by decide +kernel
theorem dX9_would_22 : decode cX9_would 22 = .ok (.invokevirtual 204, 3) := by decide +kernel
theorem dX9_would_25 : decode cX9_would 25 = .ok (.istore_n 3, 1) := by decide +kernel
theorem dX9_would_26 : decode cX9_would 26 = .ok (.iload_n 2, 1) := by decide +kernel
theorem dX9_would_27 : decode cX9_would 27 = .ok (.tableswitch 72 0 3 #[29, 32, 43, 52], 29) := by decide +kernel
theorem dX9_would_56 : decode cX9_would 56 = .ok (.iload_n 3, 1) := by decide +kernel
theorem dX9_would_57 : decode cX9_would 57 = .ok (.i2l, 1) := by decide +kernel
theorem dX9_would_58 : decode cX9_would 58 = .ok (.lreturn, 1) := by decide +kernel
theorem dX9_would_59 : decode cX9_would 59 = .ok (.aload_n 0, 1) := by decide +kernel
theorem dX9_would_60 : decode cX9_would 60 = .ok (.getfield 74, 3) := by decide +kernel
theorem dX9_would_63 : decode cX9_would 63 = .ok (.getfield 207, 3) := by decide +kernel
theorem dX9_would_66 : decode cX9_would 66 = .ok (.getfield 163, 3) := by decide +kernel
theorem dX9_would_69 : decode cX9_would 69 = .ok (.lreturn, 1) := by decide +kernel
theorem dX9_would_70 : decode cX9_would 70 = .ok (.aload_n 0, 1) := by decide +kernel
theorem dX9_would_71 : decode cX9_would 71 = .ok (.getfield 74, 3) := by decide +kernel
theorem dX9_would_74 : decode cX9_would 74 = .ok (.getfield 208, 3) := by decide +kernel
theorem dX9_would_77 : decode cX9_would 77 = .ok (.i2l, 1) := by decide +kernel
theorem dX9_would_78 : decode cX9_would 78 = .ok (.lreturn, 1) := by decide +kernel
theorem dX9_would_79 : decode cX9_would 79 = .ok (.aload_n 0, 1) := by decide +kernel
theorem dX9_would_80 : decode cX9_would 80 = .ok (.getfield 74, 3) := by decide +kernel
theorem dX9_would_83 : decode cX9_would 83 = .ok (.getfield 207, 3) := by decide +kernel
theorem dX9_would_86 : decode cX9_would 86 = .ok (.invokevirtual 211, 3) := by decide +kernel
theorem dX9_would_89 : decode cX9_would 89 = .ok (.aload_n 0, 1) := by decide +kernel
theorem dX9_would_90 : decode cX9_would 90 = .ok (.getfield 12, 3) := by decide +kernel
theorem dX9_would_93 : decode cX9_would 93 = .ok (.invokevirtual 211, 3) := by decide +kernel
theorem dX9_would_96 : decode cX9_would 96 = .ok (.isub, 1) := by decide +kernel
theorem dX9_would_97 : decode cX9_would 97 = .ok (.i2l, 1) := by decide +kernel
theorem dX9_would_98 : decode cX9_would 98 = .ok (.lreturn, 1) := by decide +kernel
theorem dX9_would_99 : decode cX9_would 99 = .ok (.aload_n 0, 1) := by decide +kernel
theorem dX9_would_100 : decode cX9_would 100 = .ok (.getfield 74, 3) := by decide +kernel
theorem dX9_would_103 : decode cX9_would 103 = .ok (.getfield 207, 3) := by decide +kernel
theorem dX9_would_106 : decode cX9_would 106 = .ok (.getfield 107, 3) := by decide +kernel
theorem dX9_would_109 : decode cX9_would 109 = .ok (.iload_n 2, 1) := by decide +kernel
theorem dX9_would_110 : decode cX9_would 110 = .ok (.bipush 10, 2) := by decide +kernel
theorem dX9_would_112 : decode cX9_would 112 = .ok (.isub, 1) := by decide +kernel
theorem dX9_would_113 : decode cX9_would 113 = .ok (.iaload, 1) := by decide +kernel
theorem dX9_would_114 : decode cX9_would 114 = .ok (.i2l, 1) := by decide +kernel
theorem dX9_would_115 : decode cX9_would 115 = .ok (.lreturn, 1) := by decide +kernel
theorem dX9_needed_0 : decode cX9_needed 0 = .ok (.aload_n 0, 1) := by decide +kernel
theorem dX9_needed_1 : decode cX9_needed 1 = .ok (.iload_n 1, 1) := by decide +kernel
theorem dX9_needed_2 : decode cX9_needed 2 = .ok (.invokevirtual 192, 3) := by decide +kernel
theorem dX9_needed_5 : decode cX9_needed 5 = .ok (.ifCond .eq 14, 3) := by decide +kernel
theorem dX9_needed_8 : decode cX9_needed 8 = .ok (.aload_n 0, 1) := by decide +kernel
theorem dX9_needed_9 : decode cX9_needed 9 = .ok (.getfield 12, 3) := by decide +kernel
theorem dX9_needed_12 : decode cX9_needed 12 = .ok (.iload_n 2, 1) := by decide +kernel
theorem dX9_needed_13 : decode cX9_needed 13 = .ok (.invokevirtual 102, 3) := by decide +kernel
theorem dX9_needed_16 : decode cX9_needed 16 = .ok (.ifCond .ne 6, 3) := by decide +kernel
theorem dX9_needed_19 : decode cX9_needed 19 = .ok (.bipush (-2), 2) := by decide +kernel
theorem dX9_needed_21 : decode cX9_needed 21 = .ok (.ireturn, 1) := by decide +kernel
theorem dX9_needed_22 : decode cX9_needed 22 = .ok (.iconst 0, 1) := by decide +kernel
theorem dX9_needed_23 : decode cX9_needed 23 = .ok (.istore_n 3, 1) := by decide +kernel
theorem dX9_needed_24 : decode cX9_needed 24 = .ok (.iload_n 3, 1) := by decide +kernel
theorem dX9_needed_25 : decode cX9_needed 25 = .ok (.bipush 22, 2) := by decide +kernel
theorem dX9_needed_27 : decode cX9_needed 27 = .ok (.if_icmp .ge 71, 3) := by decide +kernel
theorem dX9_needed_30 : decode cX9_needed 30 = .ok (.iload_n 3, 1) := by decide +kernel
theorem dX9_needed_31 : decode cX9_needed 31 = .ok (.ifCond .ne 7, 3) := by decide +kernel
theorem dX9_needed_34 : decode cX9_needed 34 = .ok (.iconst 0, 1) := by decide +kernel
theorem dX9_needed_35 : decode cX9_needed 35 = .ok (.goto 8, 3) := by decide +kernel
theorem dX9_needed_38 : decode cX9_needed 38 = .ok (.iconst 1, 1) := by decide +kernel
theorem dX9_needed_39 : decode cX9_needed 39 = .ok (.iload_n 3, 1) := by decide +kernel
theorem dX9_needed_40 : decode cX9_needed 40 = .ok (.iconst 1, 1) := by decide +kernel
theorem dX9_needed_41 : decode cX9_needed 41 = .ok (.isub, 1) := by decide +kernel
theorem dX9_needed_42 : decode cX9_needed 42 = .ok (.ishl, 1) := by decide +kernel
theorem dX9_needed_43 : decode cX9_needed 43 = .ok (.istore 4, 2) := by decide +kernel
theorem dX9_needed_45 : decode cX9_needed 45 = .ok (.aload_n 0, 1) := by decide +kernel
theorem dX9_needed_46 : decode cX9_needed 46 = .ok (.getfield 74, 3) := by decide +kernel
theorem dX9_needed_49 : decode cX9_needed 49 = .ok (.getfield 207, 3) := by decide +kernel
theorem dX9_needed_52 : decode cX9_needed 52 = .ok (.aload_n 0, 1) := by decide +kernel
theorem dX9_needed_53 : decode cX9_needed 53 = .ok (.getfield 12, 3) := by decide +kernel
theorem dX9_needed_56 : decode cX9_needed 56 = .ok (.invokevirtual 214, 3) := by decide +kernel
theorem dX9_needed_59 : decode cX9_needed 59 = .ok (.aload_n 0, 1) := by decide +kernel
theorem dX9_needed_60 : decode cX9_needed 60 = .ok (.getfield 74, 3) := by decide +kernel
theorem dX9_needed_63 : decode cX9_needed 63 = .ok (.getfield 207, 3) := by decide +kernel
theorem dX9_needed_66 : decode cX9_needed 66 = .ok (.getfield 107, 3) := by decide +kernel
theorem dX9_needed_69 : decode cX9_needed 69 = .ok (.iload_n 2, 1) := by decide +kernel
theorem dX9_needed_70 : decode cX9_needed 70 = .ok (.iload 4, 2) := by decide +kernel
theorem dX9_needed_72 : decode cX9_needed 72 = .ok (.iastore, 1) := by decide +kernel
theorem dX9_needed_73 : decode cX9_needed 73 = .ok (.aload_n 0, 1) := by decide +kernel
theorem dX9_needed_74 : decode cX9_needed 74 = .ok (.getfield 74, 3) := by decide +kernel
theorem dX9_needed_77 : decode cX9_needed 77 = .ok (.aload_n 0, 1) := by decide +kernel
theorem dX9_needed_78 : decode cX9_needed 78 = .ok (.getfield 42, 3) := by decide +kernel
theorem dX9_needed_81 : decode cX9_needed 81 = .ok (.iload_n 1, 1) := by decide +kernel
theorem dX9_needed_82 : decode cX9_needed 82 = .ok (.aaload, 1) := by decide +kernel
theorem dX9_needed_83 : decode cX9_needed 83 = .ok (.invokevirtual 195, 3) := by decide +kernel
theorem dX9_needed_86 : decode cX9_needed 86 = .ok (.ifCond .ne 6, 3) := by decide +kernel
theorem dX9_needed_89 : decode cX9_needed 89 = .ok (.iload 4, 2) := by decide +kernel
theorem dX9_needed_91 : decode cX9_needed 91 = .ok (.ireturn, 1) := by decide +kernel
theorem dX9_needed_92 : decode cX9_needed 92 = .ok (.iinc 3 1, 3) := by decide +kernel
theorem dX9_needed_95 : decode cX9_needed 95 = .ok (.goto (-71), 3) := by decide +kernel
theorem dX9_needed_98 : decode cX9_needed 98 = .ok (.iconst (-1), 1) := by decide +kernel
theorem dX9_needed_99 : decode cX9_needed 99 = .ok (.ireturn, 1) := by decide +kernel
theorem dX9_hinges_0 : decode cX9_hinges 0 = .ok (.aload_n 0, 1) := by decide +kernel
theorem dX9_hinges_1 : decode cX9_hinges 1 = .ok (.iload_n 1, 1) := by decide +kernel
theorem dX9_hinges_2 : decode cX9_hinges 2 = .ok (.invokevirtual 192, 3) := by decide +kernel
theorem dX9_hinges_5 : decode cX9_hinges 5 = .ok (.ifCond .ne 6, 3) := by decide +kernel
theorem dX9_hinges_8 : decode cX9_hinges 8 = .ok (.bipush (-2), 2) := by decide +kernel
theorem dX9_hinges_10 : decode cX9_hinges 10 = .ok (.ireturn, 1) := by decide +kernel
theorem dX9_hinges_11 : decode cX9_hinges 11 = .ok (.aload_n 0, 1) := by decide +kernel
theorem dX9_hinges_12 : decode cX9_hinges 12 = .ok (.iload_n 1, 1) := by decide +kernel
theorem dX9_hinges_13 : decode cX9_hinges 13 = .ok (.invokevirtual 204, 3) := by decide +kernel
theorem dX9_hinges_16 : decode cX9_hinges 16 = .ok (.istore_n 2, 1) := by decide +kernel
theorem dX9_hinges_17 : decode cX9_hinges 17 = .ok (.iconst 0, 1) := by decide +kernel
theorem dX9_hinges_18 : decode cX9_hinges 18 = .ok (.istore_n 3, 1) := by decide +kernel
theorem dX9_hinges_19 : decode cX9_hinges 19 = .ok (.iconst 0, 1) := by decide +kernel
theorem dX9_hinges_20 : decode cX9_hinges 20 = .ok (.istore 4, 2) := by decide +kernel
theorem dX9_hinges_22 : decode cX9_hinges 22 = .ok (.iload 4, 2) := by decide +kernel
theorem dX9_hinges_24 : decode cX9_hinges 24 = .ok (.aload_n 0, 1) := by decide +kernel
theorem dX9_hinges_25 : decode cX9_hinges 25 = .ok (.getfield 12, 3) := by decide +kernel
theorem dX9_hinges_28 : decode cX9_hinges 28 = .ok (.getfield 95, 3) := by decide +kernel
theorem dX9_hinges_31 : decode cX9_hinges 31 = .ok (.if_icmp .ge 78, 3) := by decide +kernel
theorem dX9_hinges_34 : decode cX9_hinges 34 = .ok (.aload_n 0, 1) := by decide +kernel
theorem dX9_hinges_35 : decode cX9_hinges 35 = .ok (.getfield 74, 3) := by decide +kernel
theorem dX9_hinges_38 : decode cX9_hinges 38 = .ok (.getfield 207, 3) := by decide +kernel
theorem dX9_hinges_41 : decode cX9_hinges 41 = .ok (.aload_n 0, 1) := by decide +kernel
theorem dX9_hinges_42 : decode cX9_hinges 42 = .ok (.getfield 12, 3) := by decide +kernel
theorem dX9_hinges_45 : decode cX9_hinges 45 = .ok (.invokevirtual 214, 3) := by decide +kernel
theorem dX9_hinges_48 : decode cX9_hinges 48 = .ok (.aload_n 0, 1) := by decide +kernel
theorem dX9_hinges_49 : decode cX9_hinges 49 = .ok (.getfield 74, 3) := by decide +kernel
theorem dX9_hinges_52 : decode cX9_hinges 52 = .ok (.getfield 207, 3) := by decide +kernel
theorem dX9_hinges_55 : decode cX9_hinges 55 = .ok (.getfield 114, 3) := by decide +kernel
theorem dX9_hinges_58 : decode cX9_hinges 58 = .ok (.iload 4, 2) := by decide +kernel
theorem dX9_hinges_60 : decode cX9_hinges 60 = .ok (.aload_n 0, 1) := by decide +kernel
theorem dX9_hinges_61 : decode cX9_hinges 61 = .ok (.getfield 12, 3) := by decide +kernel
theorem dX9_hinges_64 : decode cX9_hinges 64 = .ok (.getfield 114, 3) := by decide +kernel
theorem dX9_hinges_67 : decode cX9_hinges 67 = .ok (.iload 4, 2) := by decide +kernel
theorem dX9_hinges_69 : decode cX9_hinges 69 = .ok (.baload, 1) := by decide +kernel
theorem dX9_hinges_70 : decode cX9_hinges 70 = .ok (.ifCond .ne 7, 3) := by decide +kernel
theorem dX9_hinges_73 : decode cX9_hinges 73 = .ok (.iconst 1, 1) := by decide +kernel
theorem dX9_hinges_74 : decode cX9_hinges 74 = .ok (.goto 4, 3) := by decide +kernel
theorem dX9_hinges_77 : decode cX9_hinges 77 = .ok (.iconst 0, 1) := by decide +kernel
theorem dX9_hinges_78 : decode cX9_hinges 78 = .ok (.bastore, 1) := by decide +kernel
theorem dX9_hinges_79 : decode cX9_hinges 79 = .ok (.aload_n 0, 1) := by decide +kernel
theorem dX9_hinges_80 : decode cX9_hinges 80 = .ok (.getfield 74, 3) := by decide +kernel
theorem dX9_hinges_83 : decode cX9_hinges 83 = .ok (.aload_n 0, 1) := by decide +kernel
theorem dX9_hinges_84 : decode cX9_hinges 84 = .ok (.getfield 42, 3) := by decide +kernel
theorem dX9_hinges_87 : decode cX9_hinges 87 = .ok (.iload_n 1, 1) := by decide +kernel
theorem dX9_hinges_88 : decode cX9_hinges 88 = .ok (.aaload, 1) := by decide +kernel
theorem dX9_hinges_89 : decode cX9_hinges 89 = .ok (.invokevirtual 195, 3) := by decide +kernel
theorem dX9_hinges_92 : decode cX9_hinges 92 = .ok (.iload_n 2, 1) := by decide +kernel
theorem dX9_hinges_93 : decode cX9_hinges 93 = .ok (.if_icmp .eq 10, 3) := by decide +kernel
theorem dX9_hinges_96 : decode cX9_hinges 96 = .ok (.iload_n 3, 1) := by decide +kernel
theorem dX9_hinges_97 : decode cX9_hinges 97 = .ok (.iconst 1, 1) := by decide +kernel
theorem dX9_hinges_98 : decode cX9_hinges 98 = .ok (.iload 4, 2) := by decide +kernel
theorem dX9_hinges_100 : decode cX9_hinges 100 = .ok (.ishl, 1) := by decide +kernel
theorem dX9_hinges_101 : decode cX9_hinges 101 = .ok (.ior, 1) := by decide +kernel
theorem dX9_hinges_102 : decode cX9_hinges 102 = .ok (.istore_n 3, 1) := by decide +kernel
theorem dX9_hinges_103 : decode cX9_hinges 103 = .ok (.iinc 4 1, 3) := by decide +kernel
theorem dX9_hinges_106 : decode cX9_hinges 106 = .ok (.goto (-84), 3) := by decide +kernel
theorem dX9_hinges_109 : decode cX9_hinges 109 = .ok (.iload_n 3, 1) := by decide +kernel
theorem dX9_hinges_110 : decode cX9_hinges 110 = .ok (.ireturn, 1) := by decide +kernel
theorem dX9_owe_0 : decode cX9_owe 0 = .ok (.aload_n 0, 1) := by decide +kernel
theorem dX9_owe_1 : decode cX9_owe 1 = .ok (.iload_n 1, 1) := by decide +kernel
theorem dX9_owe_2 : decode cX9_owe 2 = .ok (.iload_n 2, 1) := by decide +kernel
theorem dX9_owe_3 : decode cX9_owe 3 = .ok (.invokevirtual 217, 3) := by decide +kernel
theorem dX9_owe_6 : decode cX9_owe 6 = .ok (.ifCond .eq 12, 3) := by decide +kernel
theorem dX9_owe_9 : decode cX9_owe 9 = .ok (.iload_n 3, 1) := by decide +kernel
theorem dX9_owe_10 : decode cX9_owe 10 = .ok (.ldc 220, 2) := by decide +kernel
theorem dX9_owe_12 : decode cX9_owe 12 = .ok (.invokestatic 91, 3) := by decide +kernel
theorem dX9_owe_15 : decode cX9_owe 15 = .ok (.ifCond .ne 6, 3) := by decide +kernel
theorem dX9_owe_18 : decode cX9_owe 18 = .ok (.bipush (-2), 2) := by decide +kernel
theorem dX9_owe_20 : decode cX9_owe 20 = .ok (.ireturn, 1) := by decide +kernel
theorem dX9_owe_21 : decode cX9_owe 21 = .ok (.aload_n 0, 1) := by decide +kernel
theorem dX9_owe_22 : decode cX9_owe 22 = .ok (.getfield 24, 3) := by decide +kernel
theorem dX9_owe_25 : decode cX9_owe 25 = .ok (.iload_n 1, 1) := by decide +kernel
theorem dX9_owe_26 : decode cX9_owe 26 = .ok (.iload_n 2, 1) := by decide +kernel
theorem dX9_owe_27 : decode cX9_owe 27 = .ok (.invokevirtual 221, 3) := by decide +kernel
theorem dX9_owe_30 : decode cX9_owe 30 = .ok (.istore 4, 2) := by decide +kernel
theorem dX9_owe_32 : decode cX9_owe 32 = .ok (.aload_n 0, 1) := by decide +kernel
theorem dX9_owe_33 : decode cX9_owe 33 = .ok (.getfield 24, 3) := by decide +kernel
theorem dX9_owe_36 : decode cX9_owe 36 = .ok (.iload_n 1, 1) := by decide +kernel
theorem dX9_owe_37 : decode cX9_owe 37 = .ok (.iload_n 2, 1) := by decide +kernel
theorem dX9_owe_38 : decode cX9_owe 38 = .ok (.iload_n 3, 1) := by decide +kernel
theorem dX9_owe_39 : decode cX9_owe 39 = .ok (.invokevirtual 224, 3) := by decide +kernel
theorem dX9_owe_42 : decode cX9_owe 42 = .ok (.iload 4, 2) := by decide +kernel
theorem dX9_owe_44 : decode cX9_owe 44 = .ok (.ireturn, 1) := by decide +kernel
theorem dX9_owed_0 : decode cX9_owed 0 = .ok (.aload_n 0, 1) := by decide +kernel
theorem dX9_owed_1 : decode cX9_owed 1 = .ok (.iload_n 1, 1) := by decide +kernel
theorem dX9_owed_2 : decode cX9_owed 2 = .ok (.iload_n 2, 1) := by decide +kernel
theorem dX9_owed_3 : decode cX9_owed 3 = .ok (.invokevirtual 217, 3) := by decide +kernel
theorem dX9_owed_6 : decode cX9_owed 6 = .ok (.ifCond .ne 6, 3) := by decide +kernel
theorem dX9_owed_9 : decode cX9_owed 9 = .ok (.bipush (-2), 2) := by decide +kernel
theorem dX9_owed_11 : decode cX9_owed 11 = .ok (.ireturn, 1) := by decide +kernel
theorem dX9_owed_12 : decode cX9_owed 12 = .ok (.aload_n 0, 1) := by decide +kernel
theorem dX9_owed_13 : decode cX9_owed 13 = .ok (.getfield 24, 3) := by decide +kernel
theorem dX9_owed_16 : decode cX9_owed 16 = .ok (.iload_n 1, 1) := by decide +kernel
theorem dX9_owed_17 : decode cX9_owed 17 = .ok (.iload_n 2, 1) := by decide +kernel
theorem dX9_owed_18 : decode cX9_owed 18 = .ok (.invokevirtual 221, 3) := by decide +kernel
theorem dX9_owed_21 : decode cX9_owed 21 = .ok (.ireturn, 1) := by decide +kernel
theorem dX9_net_0 : decode cX9_net 0 = .ok (.aload_n 0, 1) := by decide +kernel
theorem dX9_net_1 : decode cX9_net 1 = .ok (.getfield 12, 3) := by decide +kernel
theorem dX9_net_4 : decode cX9_net 4 = .ok (.invokevirtual 228, 3) := by decide +kernel
theorem dX9_net_7 : decode cX9_net 7 = .ok (.ifCond .ne 6, 3) := by decide +kernel
theorem dX9_net_10 : decode cX9_net 10 = .ok (.bipush (-3), 2) := by decide +kernel
theorem dX9_net_12 : decode cX9_net 12 = .ok (.ireturn, 1) := by decide +kernel
theorem dX9_net_13 : decode cX9_net 13 = .ok (.aload_n 0, 1) := by decide +kernel
theorem dX9_net_14 : decode cX9_net 14 = .ok (.getfield 12, 3) := by decide +kernel
theorem dX9_net_17 : decode cX9_net 17 = .ok (.invokevirtual 232, 3) := by decide +kernel
theorem dX9_net_20 : decode cX9_net 20 = .ok (.aload_n 0, 1) := by decide +kernel
theorem dX9_net_21 : decode cX9_net 21 = .ok (.getfield 36, 3) := by decide +kernel
theorem dX9_net_24 : decode cX9_net 24 = .ok (.aload_n 0, 1) := by decide +kernel
theorem dX9_net_25 : decode cX9_net 25 = .ok (.getfield 12, 3) := by decide +kernel
theorem dX9_net_28 : decode cX9_net 28 = .ok (.getfield 95, 3) := by decide +kernel
theorem dX9_net_31 : decode cX9_net 31 = .ok (.invokevirtual 235, 3) := by decide +kernel
theorem dX9_net_34 : decode cX9_net 34 = .ok (.istore_n 1, 1) := by decide +kernel
theorem dX9_net_35 : decode cX9_net 35 = .ok (.aload_n 0, 1) := by decide +kernel
theorem dX9_net_36 : decode cX9_net 36 = .ok (.getfield 12, 3) := by decide +kernel
theorem dX9_net_39 : decode cX9_net 39 = .ok (.invokevirtual 238, 3) := by decide +kernel
theorem dX9_net_42 : decode cX9_net 42 = .ok (.iload_n 1, 1) := by decide +kernel
theorem dX9_net_43 : decode cX9_net 43 = .ok (.ireturn, 1) := by decide +kernel
theorem dX9_tells_0 : decode cX9_tells 0 = .ok (.iload_n 1, 1) := by decide +kernel
theorem dX9_tells_1 : decode cX9_tells 1 = .ok (.invokestatic 241, 3) := by decide +kernel
theorem dX9_tells_4 : decode cX9_tells 4 = .ok (.ifCond .eq 22, 3) := by decide +kernel
theorem dX9_tells_7 : decode cX9_tells 7 = .ok (.aload_n 0, 1) := by decide +kernel
theorem dX9_tells_8 : decode cX9_tells 8 = .ok (.iload_n 2, 1) := by decide +kernel
theorem dX9_tells_9 : decode cX9_tells 9 = .ok (.invokevirtual 192, 3) := by decide +kernel
theorem dX9_tells_12 : decode cX9_tells 12 = .ok (.ifCond .eq 14, 3) := by decide +kernel
theorem dX9_tells_15 : decode cX9_tells 15 = .ok (.iload 4, 2) := by decide +kernel
theorem dX9_tells_17 : decode cX9_tells 17 = .ok (.ifCond .lt 9, 3) := by decide +kernel
theorem dX9_tells_20 : decode cX9_tells 20 = .ok (.iload 4, 2) := by decide +kernel
theorem dX9_tells_22 : decode cX9_tells 22 = .ok (.iconst 1, 1) := by decide +kernel
theorem dX9_tells_23 : decode cX9_tells 23 = .ok (.if_icmp .le 6, 3) := by decide +kernel
theorem dX9_tells_26 : decode cX9_tells 26 = .ok (.bipush (-2), 2) := by decide +kernel
theorem dX9_tells_28 : decode cX9_tells 28 = .ok (.ireturn, 1) := by decide +kernel
theorem dX9_tells_29 : decode cX9_tells 29 = .ok (.iload 4, 2) := by decide +kernel
theorem dX9_tells_31 : decode cX9_tells 31 = .ok (.iconst 1, 1) := by decide +kernel
theorem dX9_tells_32 : decode cX9_tells 32 = .ok (.if_icmp .ne 17, 3) := by decide +kernel
theorem dX9_tells_35 : decode cX9_tells 35 = .ok (.aload_n 0, 1) := by decide +kernel
theorem dX9_tells_36 : decode cX9_tells 36 = .ok (.getfield 12, 3) := by decide +kernel
theorem dX9_tells_39 : decode cX9_tells 39 = .ok (.iload_n 3, 1) := by decide +kernel
theorem dX9_tells_40 : decode cX9_tells 40 = .ok (.invokevirtual 102, 3) := by decide +kernel
theorem dX9_tells_43 : decode cX9_tells 43 = .ok (.ifCond .ne 6, 3) := by decide +kernel
theorem dX9_tells_46 : decode cX9_tells 46 = .ok (.bipush (-2), 2) := by decide +kernel
theorem dX9_tells_48 : decode cX9_tells 48 = .ok (.ireturn, 1) := by decide +kernel
theorem dX9_tells_49 : decode cX9_tells 49 = .ok (.aload_n 0, 1) := by decide +kernel
theorem dX9_tells_50 : decode cX9_tells 50 = .ok (.getfield 79, 3) := by decide +kernel
theorem dX9_tells_53 : decode cX9_tells 53 = .ok (.iload_n 1, 1) := by decide +kernel
theorem dX9_tells_54 : decode cX9_tells 54 = .ok (.aaload, 1) := by decide +kernel
theorem dX9_tells_55 : decode cX9_tells 55 = .ok (.astore 5, 2) := by decide +kernel
theorem dX9_tells_57 : decode cX9_tells 57 = .ok (.aload 5, 2) := by decide +kernel
theorem dX9_tells_59 : decode cX9_tells 59 = .ok (.invokevirtual 244, 3) := by decide +kernel
theorem dX9_tells_62 : decode cX9_tells 62 = .ok (.ifCond .eq 6, 3) := by decide +kernel
theorem dX9_tells_65 : decode cX9_tells 65 = .ok (.bipush (-11), 2) := by decide +kernel
theorem dX9_tells_67 : decode cX9_tells 67 = .ok (.ireturn, 1) := by decide +kernel
theorem dX9_tells_68 : decode cX9_tells 68 = .ok (.aload 5, 2) := by decide +kernel
theorem dX9_tells_70 : decode cX9_tells 70 = .ok (.getfield 247, 3) := by decide +kernel
theorem dX9_tells_73 : decode cX9_tells 73 = .ok (.bipush 60, 2) := by decide +kernel
theorem dX9_tells_75 : decode cX9_tells 75 = .ok (.if_icmp .le 6, 3) := by decide +kernel
theorem dX9_tells_78 : decode cX9_tells 78 = .ok (.bipush (-2), 2) := by decide +kernel
theorem dX9_tells_80 : decode cX9_tells 80 = .ok (.ireturn, 1) := by decide +kernel
theorem dX9_tells_81 : decode cX9_tells 81 = .ok (.iload 4, 2) := by decide +kernel
theorem dX9_tells_83 : decode cX9_tells 83 = .ok (.iconst 1, 1) := by decide +kernel
theorem dX9_tells_84 : decode cX9_tells 84 = .ok (.if_icmp .ne 12, 3) := by decide +kernel
theorem dX9_tells_87 : decode cX9_tells 87 = .ok (.aload_n 0, 1) := by decide +kernel
theorem dX9_tells_88 : decode cX9_tells 88 = .ok (.aload 5, 2) := by decide +kernel
theorem dX9_tells_90 : decode cX9_tells 90 = .ok (.iload_n 2, 1) := by decide +kernel
theorem dX9_tells_91 : decode cX9_tells 91 = .ok (.iload_n 3, 1) := by decide +kernel
theorem dX9_tells_92 : decode cX9_tells 92 = .ok (.invokevirtual 248, 3) := by decide +kernel
theorem dX9_tells_95 : decode cX9_tells 95 = .ok (.ireturn, 1) := by decide +kernel
theorem dX9_tells_96 : decode cX9_tells 96 = .ok (.aload_n 0, 1) := by decide +kernel
theorem dX9_tells_97 : decode cX9_tells 97 = .ok (.iload_n 2, 1) := by decide +kernel
theorem dX9_tells_98 : decode cX9_tells 98 = .ok (.invokevirtual 204, 3) := by decide +kernel
theorem dX9_tells_101 : decode cX9_tells 101 = .ok (.pop, 1) := by decide +kernel
theorem dX9_tells_102 : decode cX9_tells 102 = .ok (.aload 5, 2) := by decide +kernel
theorem dX9_tells_104 : decode cX9_tells 104 = .ok (.aload_n 0, 1) := by decide +kernel
theorem dX9_tells_105 : decode cX9_tells 105 = .ok (.getfield 74, 3) := by decide +kernel
theorem dX9_tells_108 : decode cX9_tells 108 = .ok (.getfield 198, 3) := by decide +kernel
theorem dX9_tells_111 : decode cX9_tells 111 = .ok (.aload_n 0, 1) := by decide +kernel
theorem dX9_tells_112 : decode cX9_tells 112 = .ok (.getfield 74, 3) := by decide +kernel
theorem dX9_tells_115 : decode cX9_tells 115 = .ok (.invokevirtual 156, 3) := by decide +kernel
theorem dX9_tells_118 : decode cX9_tells 118 = .ok (.invokevirtual 252, 3) := by decide +kernel
theorem dX9_tells_121 : decode cX9_tells 121 = .ok (.ireturn, 1) := by decide +kernel
theorem dX9_film_0 : decode cX9_film 0 = .ok (.iload_n 1, 1) := by decide +kernel
theorem dX9_film_1 : decode cX9_film 1 = .ok (.invokestatic 241, 3) := by decide +kernel
theorem dX9_film_4 : decode cX9_film 4 = .ok (.ifCond .eq 11, 3) := by decide +kernel
theorem dX9_film_7 : decode cX9_film 7 = .ok (.aload_n 0, 1) := by decide +kernel
theorem dX9_film_8 : decode cX9_film 8 = .ok (.iload_n 2, 1) := by decide +kernel
theorem dX9_film_9 : decode cX9_film 9 = .ok (.invokevirtual 192, 3) := by decide +kernel
theorem dX9_film_12 : decode cX9_film 12 = .ok (.ifCond .ne 6, 3) := by decide +kernel
theorem dX9_film_15 : decode cX9_film 15 = .ok (.bipush (-2), 2) := by decide +kernel
theorem dX9_film_17 : decode cX9_film 17 = .ok (.ireturn, 1) := by decide +kernel
theorem dX9_film_18 : decode cX9_film 18 = .ok (.aload_n 0, 1) := by decide +kernel
theorem dX9_film_19 : decode cX9_film 19 = .ok (.iload_n 2, 1) := by decide +kernel
theorem dX9_film_20 : decode cX9_film 20 = .ok (.invokevirtual 204, 3) := by decide +kernel
theorem dX9_film_23 : decode cX9_film 23 = .ok (.pop, 1) := by decide +kernel
theorem dX9_film_24 : decode cX9_film 24 = .ok (.aload_n 0, 1) := by decide +kernel
theorem dX9_film_25 : decode cX9_film 25 = .ok (.getfield 79, 3) := by decide +kernel
theorem dX9_film_28 : decode cX9_film 28 = .ok (.iload_n 1, 1) := by decide +kernel
theorem dX9_film_29 : decode cX9_film 29 = .ok (.aaload, 1) := by decide +kernel
theorem dX9_film_30 : decode cX9_film 30 = .ok (.aload_n 0, 1) := by decide +kernel
theorem dX9_film_31 : decode cX9_film 31 = .ok (.getfield 74, 3) := by decide +kernel
theorem dX9_film_34 : decode cX9_film 34 = .ok (.getfield 198, 3) := by decide +kernel
theorem dX9_film_37 : decode cX9_film 37 = .ok (.aload_n 0, 1) := by decide +kernel
theorem dX9_film_38 : decode cX9_film 38 = .ok (.getfield 74, 3) := by decide +kernel
theorem dX9_film_41 : decode cX9_film 41 = .ok (.invokevirtual 156, 3) := by decide +kernel
theorem dX9_film_44 : decode cX9_film 44 = .ok (.invokevirtual 256, 3) := by decide +kernel
theorem dX9_film_47 : decode cX9_film 47 = .ok (.aload_n 0, 1) := by decide +kernel
theorem dX9_film_48 : decode cX9_film 48 = .ok (.getfield 74, 3) := by decide +kernel
theorem dX9_film_51 : decode cX9_film 51 = .ok (.invokevirtual 156, 3) := by decide +kernel
theorem dX9_film_54 : decode cX9_film 54 = .ok (.ireturn, 1) := by decide +kernel
theorem dX9_image_0 : decode cX9_image 0 = .ok (.aload_n 0, 1) := by decide +kernel
theorem dX9_image_1 : decode cX9_image 1 = .ok (.getfield 18, 3) := by decide +kernel
theorem dX9_image_4 : decode cX9_image 4 = .ok (.aload_n 0, 1) := by decide +kernel
theorem dX9_image_5 : decode cX9_image 5 = .ok (.getfield 12, 3) := by decide +kernel
theorem dX9_image_8 : decode cX9_image 8 = .ok (.invokevirtual 214, 3) := by decide +kernel
theorem dX9_image_11 : decode cX9_image 11 = .ok (.aload_n 0, 1) := by decide +kernel
theorem dX9_image_12 : decode cX9_image 12 = .ok (.getfield 28, 3) := by decide +kernel
theorem dX9_image_15 : decode cX9_image 15 = .ok (.aload_n 0, 1) := by decide +kernel
theorem dX9_image_16 : decode cX9_image 16 = .ok (.getfield 24, 3) := by decide +kernel
theorem dX9_image_19 : decode cX9_image 19 = .ok (.invokevirtual 259, 3) := by decide +kernel
theorem dX9_image_22 : decode cX9_image 22 = .ok (.aload_n 0, 1) := by decide +kernel
theorem dX9_image_23 : decode cX9_image 23 = .ok (.aload_n 0, 1) := by decide +kernel
theorem dX9_image_24 : decode cX9_image 24 = .ok (.getfield 141, 3) := by decide +kernel
theorem dX9_image_27 : decode cX9_image 27 = .ok (.putfield 47, 3) := by decide +kernel
theorem dX9_image_30 : decode cX9_image 30 = .ok (.aload_n 0, 1) := by decide +kernel
theorem dX9_image_31 : decode cX9_image 31 = .ok (.getfield 12, 3) := by decide +kernel
theorem dX9_image_34 : decode cX9_image 34 = .ok (.getfield 95, 3) := by decide +kernel
theorem dX9_image_37 : decode cX9_image 37 = .ok (.ireturn, 1) := by decide +kernel
theorem dX9_back_0 : decode cX9_back 0 = .ok (.aload_n 0, 1) := by decide +kernel
theorem dX9_back_1 : decode cX9_back 1 = .ok (.getfield 47, 3) := by decide +kernel
theorem dX9_back_4 : decode cX9_back 4 = .ok (.iconst (-1), 1) := by decide +kernel
theorem dX9_back_5 : decode cX9_back 5 = .ok (.if_icmp .ne 6, 3) := by decide +kernel
theorem dX9_back_8 : decode cX9_back 8 = .ok (.bipush (-3), 2) := by decide +kernel
theorem dX9_back_10 : decode cX9_back 10 = .ok (.ireturn, 1) := by decide +kernel
theorem dX9_back_11 : decode cX9_back 11 = .ok (.aload_n 0, 1) := by decide +kernel
theorem dX9_back_12 : decode cX9_back 12 = .ok (.getfield 12, 3) := by decide +kernel
theorem dX9_back_15 : decode cX9_back 15 = .ok (.aload_n 0, 1) := by decide +kernel
theorem dX9_back_16 : decode cX9_back 16 = .ok (.getfield 18, 3) := by decide +kernel
theorem dX9_back_19 : decode cX9_back 19 = .ok (.invokevirtual 214, 3) := by decide +kernel
theorem dX9_back_22 : decode cX9_back 22 = .ok (.aload_n 0, 1) := by decide +kernel
theorem dX9_back_23 : decode cX9_back 23 = .ok (.getfield 24, 3) := by decide +kernel
theorem dX9_back_26 : decode cX9_back 26 = .ok (.aload_n 0, 1) := by decide +kernel
theorem dX9_back_27 : decode cX9_back 27 = .ok (.getfield 28, 3) := by decide +kernel
theorem dX9_back_30 : decode cX9_back 30 = .ok (.invokevirtual 259, 3) := by decide +kernel
theorem dX9_back_33 : decode cX9_back 33 = .ok (.aload_n 0, 1) := by decide +kernel
theorem dX9_back_34 : decode cX9_back 34 = .ok (.aload_n 0, 1) := by decide +kernel
theorem dX9_back_35 : decode cX9_back 35 = .ok (.getfield 47, 3) := by decide +kernel
theorem dX9_back_38 : decode cX9_back 38 = .ok (.putfield 141, 3) := by decide +kernel
theorem dX9_back_41 : decode cX9_back 41 = .ok (.aload_n 0, 1) := by decide +kernel
theorem dX9_back_42 : decode cX9_back 42 = .ok (.getfield 12, 3) := by decide +kernel
theorem dX9_back_45 : decode cX9_back 45 = .ok (.getfield 95, 3) := by decide +kernel
theorem dX9_back_48 : decode cX9_back 48 = .ok (.ireturn, 1) := by decide +kernel
theorem dX9_sheet_0 : decode cX9_sheet 0 = .ok (.iload_n 1, 1) := by decide +kernel
theorem dX9_sheet_1 : decode cX9_sheet 1 = .ok (.invokestatic 241, 3) := by decide +kernel
theorem dX9_sheet_4 : decode cX9_sheet 4 = .ok (.ifCond .eq 13, 3) := by decide +kernel
theorem dX9_sheet_7 : decode cX9_sheet 7 = .ok (.iload_n 2, 1) := by decide +kernel
theorem dX9_sheet_8 : decode cX9_sheet 8 = .ok (.iconst (-1), 1) := by decide +kernel
theorem dX9_sheet_9 : decode cX9_sheet 9 = .ok (.if_icmp .lt 8, 3) := by decide +kernel
theorem dX9_sheet_12 : decode cX9_sheet 12 = .ok (.iload_n 2, 1) := by decide +kernel
theorem dX9_sheet_13 : decode cX9_sheet 13 = .ok (.iconst 1, 1) := by decide +kernel
theorem dX9_sheet_14 : decode cX9_sheet 14 = .ok (.if_icmp .le 6, 3) := by decide +kernel
theorem dX9_sheet_17 : decode cX9_sheet 17 = .ok (.bipush (-2), 2) := by decide +kernel
theorem dX9_sheet_19 : decode cX9_sheet 19 = .ok (.ireturn, 1) := by decide +kernel
theorem dX9_sheet_20 : decode cX9_sheet 20 = .ok (.iload_n 2, 1) := by decide +kernel
theorem dX9_sheet_21 : decode cX9_sheet 21 = .ok (.iconst (-1), 1) := by decide +kernel
theorem dX9_sheet_22 : decode cX9_sheet 22 = .ok (.if_icmp .ne 16, 3) := by decide +kernel
theorem dX9_sheet_25 : decode cX9_sheet 25 = .ok (.aload_n 0, 1) := by decide +kernel
theorem dX9_sheet_26 : decode cX9_sheet 26 = .ok (.getfield 79, 3) := by decide +kernel
theorem dX9_sheet_29 : decode cX9_sheet 29 = .ok (.iload_n 1, 1) := by decide +kernel
theorem dX9_sheet_30 : decode cX9_sheet 30 = .ok (.aaload, 1) := by decide +kernel
theorem dX9_sheet_31 : decode cX9_sheet 31 = .ok (.iconst (-1), 1) := by decide +kernel
theorem dX9_sheet_32 : decode cX9_sheet 32 = .ok (.iconst 0, 1) := by decide +kernel
theorem dX9_sheet_33 : decode cX9_sheet 33 = .ok (.invokevirtual 261, 3) := by decide +kernel
theorem dX9_sheet_36 : decode cX9_sheet 36 = .ok (.iconst 1, 1) := by decide +kernel
theorem dX9_sheet_37 : decode cX9_sheet 37 = .ok (.ireturn, 1) := by decide +kernel
theorem dX9_sheet_38 : decode cX9_sheet 38 = .ok (.iload_n 3, 1) := by decide +kernel
theorem dX9_sheet_39 : decode cX9_sheet 39 = .ok (.bipush 60, 2) := by decide +kernel
theorem dX9_sheet_41 : decode cX9_sheet 41 = .ok (.if_icmp .le 6, 3) := by decide +kernel
theorem dX9_sheet_44 : decode cX9_sheet 44 = .ok (.bipush (-2), 2) := by decide +kernel
theorem dX9_sheet_46 : decode cX9_sheet 46 = .ok (.ireturn, 1) := by decide +kernel
theorem dX9_sheet_47 : decode cX9_sheet 47 = .ok (.iload_n 3, 1) := by decide +kernel
theorem dX9_sheet_48 : decode cX9_sheet 48 = .ok (.ifCond .ge 6, 3) := by decide +kernel
theorem dX9_sheet_51 : decode cX9_sheet 51 = .ok (.bipush (-14), 2) := by decide +kernel
theorem dX9_sheet_53 : decode cX9_sheet 53 = .ok (.ireturn, 1) := by decide +kernel
theorem dX9_sheet_54 : decode cX9_sheet 54 = .ok (.aload_n 0, 1) := by decide +kernel
theorem dX9_sheet_55 : decode cX9_sheet 55 = .ok (.getfield 79, 3) := by decide +kernel
theorem dX9_sheet_58 : decode cX9_sheet 58 = .ok (.iload_n 1, 1) := by decide +kernel
theorem dX9_sheet_59 : decode cX9_sheet 59 = .ok (.aaload, 1) := by decide +kernel
theorem dX9_sheet_60 : decode cX9_sheet 60 = .ok (.iload_n 2, 1) := by decide +kernel
theorem dX9_sheet_61 : decode cX9_sheet 61 = .ok (.iload_n 3, 1) := by decide +kernel
theorem dX9_sheet_62 : decode cX9_sheet 62 = .ok (.invokevirtual 261, 3) := by decide +kernel
theorem dX9_sheet_65 : decode cX9_sheet 65 = .ok (.iconst 1, 1) := by decide +kernel
theorem dX9_sheet_66 : decode cX9_sheet 66 = .ok (.ireturn, 1) := by decide +kernel
theorem dX9_put_0 : decode cX9_put 0 = .ok (.iload_n 1, 1) := by decide +kernel
theorem dX9_put_1 : decode cX9_put 1 = .ok (.invokestatic 241, 3) := by decide +kernel
theorem dX9_put_4 : decode cX9_put 4 = .ok (.ifCond .ne 6, 3) := by decide +kernel
theorem dX9_put_7 : decode cX9_put 7 = .ok (.bipush (-2), 2) := by decide +kernel
theorem dX9_put_9 : decode cX9_put 9 = .ok (.ireturn, 1) := by decide +kernel
theorem dX9_put_10 : decode cX9_put 10 = .ok (.aload_n 0, 1) := by decide +kernel
theorem dX9_put_11 : decode cX9_put 11 = .ok (.getfield 79, 3) := by decide +kernel
theorem dX9_put_14 : decode cX9_put 14 = .ok (.iload_n 1, 1) := by decide +kernel
theorem dX9_put_15 : decode cX9_put 15 = .ok (.aaload, 1) := by decide +kernel
theorem dX9_put_16 : decode cX9_put 16 = .ok (.astore 4, 2) := by decide +kernel
theorem dX9_put_18 : decode cX9_put 18 = .ok (.aload 4, 2) := by decide +kernel
theorem dX9_put_20 : decode cX9_put 20 = .ok (.invokevirtual 244, 3) := by decide +kernel
theorem dX9_put_23 : decode cX9_put 23 = .ok (.ifCond .eq 6, 3) := by decide +kernel
theorem dX9_put_26 : decode cX9_put 26 = .ok (.bipush (-11), 2) := by decide +kernel
theorem dX9_put_28 : decode cX9_put 28 = .ok (.ireturn, 1) := by decide +kernel
theorem dX9_put_29 : decode cX9_put 29 = .ok (.aload 4, 2) := by decide +kernel
theorem dX9_put_31 : decode cX9_put 31 = .ok (.iload_n 2, 1) := by decide +kernel
theorem dX9_put_32 : decode cX9_put 32 = .ok (.invokevirtual 264, 3) := by decide +kernel
theorem dX9_put_35 : decode cX9_put 35 = .ok (.ifCond .ne 6, 3) := by decide +kernel
theorem dX9_put_38 : decode cX9_put 38 = .ok (.bipush (-12), 2) := by decide +kernel
theorem dX9_put_40 : decode cX9_put 40 = .ok (.ireturn, 1) := by decide +kernel
theorem dX9_put_41 : decode cX9_put 41 = .ok (.aload 4, 2) := by decide +kernel
theorem dX9_put_43 : decode cX9_put 43 = .ok (.iload_n 2, 1) := by decide +kernel
theorem dX9_put_44 : decode cX9_put 44 = .ok (.iload_n 3, 1) := by decide +kernel
theorem dX9_put_45 : decode cX9_put 45 = .ok (.invokevirtual 267, 3) := by decide +kernel
theorem dX9_put_48 : decode cX9_put 48 = .ok (.iconst 1, 1) := by decide +kernel
theorem dX9_put_49 : decode cX9_put 49 = .ok (.ireturn, 1) := by decide +kernel
theorem dX9_copy_0 : decode cX9_copy 0 = .ok (.iload_n 1, 1) := by decide +kernel
theorem dX9_copy_1 : decode cX9_copy 1 = .ok (.invokestatic 241, 3) := by decide +kernel
theorem dX9_copy_4 : decode cX9_copy 4 = .ok (.ifCond .eq 10, 3) := by decide +kernel
theorem dX9_copy_7 : decode cX9_copy 7 = .ok (.iload_n 3, 1) := by decide +kernel
theorem dX9_copy_8 : decode cX9_copy 8 = .ok (.invokestatic 241, 3) := by decide +kernel
theorem dX9_copy_11 : decode cX9_copy 11 = .ok (.ifCond .ne 6, 3) := by decide +kernel
theorem dX9_copy_14 : decode cX9_copy 14 = .ok (.bipush (-2), 2) := by decide +kernel
theorem dX9_copy_16 : decode cX9_copy 16 = .ok (.ireturn, 1) := by decide +kernel
theorem dX9_copy_17 : decode cX9_copy 17 = .ok (.aload_n 0, 1) := by decide +kernel
theorem dX9_copy_18 : decode cX9_copy 18 = .ok (.getfield 79, 3) := by decide +kernel
theorem dX9_copy_21 : decode cX9_copy 21 = .ok (.iload_n 1, 1) := by decide +kernel
theorem dX9_copy_22 : decode cX9_copy 22 = .ok (.aaload, 1) := by decide +kernel
theorem dX9_copy_23 : decode cX9_copy 23 = .ok (.astore 6, 2) := by decide +kernel
theorem dX9_copy_25 : decode cX9_copy 25 = .ok (.aload_n 0, 1) := by decide +kernel
theorem dX9_copy_26 : decode cX9_copy 26 = .ok (.getfield 79, 3) := by decide +kernel
theorem dX9_copy_29 : decode cX9_copy 29 = .ok (.iload_n 3, 1) := by decide +kernel
theorem dX9_copy_30 : decode cX9_copy 30 = .ok (.aaload, 1) := by decide +kernel
theorem dX9_copy_31 : decode cX9_copy 31 = .ok (.astore 7, 2) := by decide +kernel
theorem dX9_copy_33 : decode cX9_copy 33 = .ok (.aload 6, 2) := by decide +kernel
theorem dX9_copy_35 : decode cX9_copy 35 = .ok (.invokevirtual 244, 3) := by decide +kernel
theorem dX9_copy_38 : decode cX9_copy 38 = .ok (.ifCond .ne 11, 3) := by decide +kernel
theorem dX9_copy_41 : decode cX9_copy 41 = .ok (.aload 7, 2) := by decide +kernel
theorem dX9_copy_43 : decode cX9_copy 43 = .ok (.invokevirtual 244, 3) := by decide +kernel
theorem dX9_copy_46 : decode cX9_copy 46 = .ok (.ifCond .eq 6, 3) := by decide +kernel
theorem dX9_copy_49 : decode cX9_copy 49 = .ok (.bipush (-11), 2) := by decide +kernel
theorem dX9_copy_51 : decode cX9_copy 51 = .ok (.ireturn, 1) := by decide +kernel
theorem dX9_copy_52 : decode cX9_copy 52 = .ok (.aload 6, 2) := by decide +kernel
theorem dX9_copy_54 : decode cX9_copy 54 = .ok (.getfield 270, 3) := by decide +kernel
theorem dX9_copy_57 : decode cX9_copy 57 = .ok (.aload 7, 2) := by decide +kernel
theorem dX9_copy_59 : decode cX9_copy 59 = .ok (.getfield 270, 3) := by decide +kernel
theorem dX9_copy_62 : decode cX9_copy 62 = .ok (.if_icmp .eq 6, 3) := by decide +kernel
theorem dX9_copy_65 : decode cX9_copy 65 = .ok (.bipush (-13), 2) := by decide +kernel
theorem dX9_copy_67 : decode cX9_copy 67 = .ok (.ireturn, 1) := by decide +kernel
theorem dX9_copy_68 : decode cX9_copy 68 = .ok (.aload 6, 2) := by decide +kernel
theorem dX9_copy_70 : decode cX9_copy 70 = .ok (.iload_n 2, 1) := by decide +kernel
theorem dX9_copy_71 : decode cX9_copy 71 = .ok (.iload 5, 2) := by decide +kernel
theorem dX9_copy_73 : decode cX9_copy 73 = .ok (.invokevirtual 273, 3) := by decide +kernel
theorem dX9_copy_76 : decode cX9_copy 76 = .ok (.ifCond .eq 15, 3) := by decide +kernel
theorem dX9_copy_79 : decode cX9_copy 79 = .ok (.aload 7, 2) := by decide +kernel
theorem dX9_copy_81 : decode cX9_copy 81 = .ok (.iload 4, 2) := by decide +kernel
theorem dX9_copy_83 : decode cX9_copy 83 = .ok (.iload 5, 2) := by decide +kernel
theorem dX9_copy_85 : decode cX9_copy 85 = .ok (.invokevirtual 273, 3) := by decide +kernel
theorem dX9_copy_88 : decode cX9_copy 88 = .ok (.ifCond .ne 6, 3) := by decide +kernel
theorem dX9_copy_91 : decode cX9_copy 91 = .ok (.bipush (-12), 2) := by decide +kernel
theorem dX9_copy_93 : decode cX9_copy 93 = .ok (.ireturn, 1) := by decide +kernel
theorem dX9_copy_94 : decode cX9_copy 94 = .ok (.aload 6, 2) := by decide +kernel
theorem dX9_copy_96 : decode cX9_copy 96 = .ok (.getfield 276, 3) := by decide +kernel
theorem dX9_copy_99 : decode cX9_copy 99 = .ok (.iload_n 2, 1) := by decide +kernel
theorem dX9_copy_100 : decode cX9_copy 100 = .ok (.aload 7, 2) := by decide +kernel
theorem dX9_copy_102 : decode cX9_copy 102 = .ok (.getfield 276, 3) := by decide +kernel
theorem dX9_copy_105 : decode cX9_copy 105 = .ok (.iload 4, 2) := by decide +kernel
theorem dX9_copy_107 : decode cX9_copy 107 = .ok (.iload 5, 2) := by decide +kernel
theorem dX9_copy_109 : decode cX9_copy 109 = .ok (.invokestatic 279, 3) := by decide +kernel
theorem dX9_copy_112 : decode cX9_copy 112 = .ok (.iload 5, 2) := by decide +kernel
theorem dX9_copy_114 : decode cX9_copy 114 = .ok (.ireturn, 1) := by decide +kernel
theorem dX9_load_0 : decode cX9_load 0 = .ok (.iload_n 1, 1) := by decide +kernel
theorem dX9_load_1 : decode cX9_load 1 = .ok (.invokestatic 241, 3) := by decide +kernel
theorem dX9_load_4 : decode cX9_load 4 = .ok (.ifCond .eq 22, 3) := by decide +kernel
theorem dX9_load_7 : decode cX9_load 7 = .ok (.iload_n 2, 1) := by decide +kernel
theorem dX9_load_8 : decode cX9_load 8 = .ok (.ifCond .lt 18, 3) := by decide +kernel
theorem dX9_load_11 : decode cX9_load 11 = .ok (.iload_n 2, 1) := by decide +kernel
theorem dX9_load_12 : decode cX9_load 12 = .ok (.iconst 1, 1) := by decide +kernel
theorem dX9_load_13 : decode cX9_load 13 = .ok (.if_icmp .gt 13, 3) := by decide +kernel
theorem dX9_load_16 : decode cX9_load 16 = .ok (.iload 4, 2) := by decide +kernel
theorem dX9_load_18 : decode cX9_load 18 = .ok (.bipush 20, 2) := by decide +kernel
theorem dX9_load_20 : decode cX9_load 20 = .ok (.invokestatic 91, 3) := by decide +kernel
theorem dX9_load_23 : decode cX9_load 23 = .ok (.ifCond .ne 6, 3) := by decide +kernel
theorem dX9_load_26 : decode cX9_load 26 = .ok (.bipush (-2), 2) := by decide +kernel
theorem dX9_load_28 : decode cX9_load 28 = .ok (.ireturn, 1) := by decide +kernel
theorem dX9_load_29 : decode cX9_load 29 = .ok (.aload_n 0, 1) := by decide +kernel
theorem dX9_load_30 : decode cX9_load 30 = .ok (.getfield 79, 3) := by decide +kernel
theorem dX9_load_33 : decode cX9_load 33 = .ok (.iload_n 1, 1) := by decide +kernel
theorem dX9_load_34 : decode cX9_load 34 = .ok (.aaload, 1) := by decide +kernel
theorem dX9_load_35 : decode cX9_load 35 = .ok (.astore 5, 2) := by decide +kernel
theorem dX9_load_37 : decode cX9_load 37 = .ok (.aload 5, 2) := by decide +kernel
theorem dX9_load_39 : decode cX9_load 39 = .ok (.invokevirtual 244, 3) := by decide +kernel
theorem dX9_load_42 : decode cX9_load 42 = .ok (.ifCond .eq 6, 3) := by decide +kernel
theorem dX9_load_45 : decode cX9_load 45 = .ok (.bipush (-11), 2) := by decide +kernel
theorem dX9_load_47 : decode cX9_load 47 = .ok (.ireturn, 1) := by decide +kernel
theorem dX9_load_48 : decode cX9_load 48 = .ok (.aload 5, 2) := by decide +kernel
theorem dX9_load_50 : decode cX9_load 50 = .ok (.getfield 270, 3) := by decide +kernel
theorem dX9_load_53 : decode cX9_load 53 = .ok (.iload_n 2, 1) := by decide +kernel
theorem dX9_load_54 : decode cX9_load 54 = .ok (.if_icmp .eq 6, 3) := by decide +kernel
theorem dX9_load_57 : decode cX9_load 57 = .ok (.bipush (-13), 2) := by decide +kernel
theorem dX9_load_59 : decode cX9_load 59 = .ok (.ireturn, 1) := by decide +kernel
theorem dX9_load_60 : decode cX9_load 60 = .ok (.iconst 0, 1) := by decide +kernel
theorem dX9_load_61 : decode cX9_load 61 = .ok (.istore 6, 2) := by decide +kernel
theorem dX9_load_63 : decode cX9_load 63 = .ok (.iconst 0, 1) := by decide +kernel
theorem dX9_load_64 : decode cX9_load 64 = .ok (.istore 7, 2) := by decide +kernel
theorem dX9_load_66 : decode cX9_load 66 = .ok (.iload 7, 2) := by decide +kernel
theorem dX9_load_68 : decode cX9_load 68 = .ok (.iload 4, 2) := by decide +kernel
theorem dX9_load_70 : decode cX9_load 70 = .ok (.if_icmp .ge 71, 3) := by decide +kernel
theorem dX9_load_73 : decode cX9_load 73 = .ok (.iload_n 3, 1) := by decide +kernel
theorem dX9_load_74 : decode cX9_load 74 = .ok (.iconst 3, 1) := by decide +kernel
theorem dX9_load_75 : decode cX9_load 75 = .ok (.iload 7, 2) := by decide +kernel
theorem dX9_load_77 : decode cX9_load 77 = .ok (.imul, 1) := by decide +kernel
theorem dX9_load_78 : decode cX9_load 78 = .ok (.iadd, 1) := by decide +kernel
theorem dX9_load_79 : decode cX9_load 79 = .ok (.istore 8, 2) := by decide +kernel
theorem dX9_load_81 : decode cX9_load 81 = .ok (.aload 5, 2) := by decide +kernel
theorem dX9_load_83 : decode cX9_load 83 = .ok (.iload 8, 2) := by decide +kernel
theorem dX9_load_85 : decode cX9_load 85 = .ok (.iconst 3, 1) := by decide +kernel
theorem dX9_load_86 : decode cX9_load 86 = .ok (.invokevirtual 273, 3) := by decide +kernel
theorem dX9_load_89 : decode cX9_load 89 = .ok (.ifCond .ne 6, 3) := by decide +kernel
theorem dX9_load_92 : decode cX9_load 92 = .ok (.bipush (-12), 2) := by decide +kernel
theorem dX9_load_94 : decode cX9_load 94 = .ok (.ireturn, 1) := by decide +kernel
theorem dX9_load_95 : decode cX9_load 95 = .ok (.aload_n 0, 1) := by decide +kernel
theorem dX9_load_96 : decode cX9_load 96 = .ok (.aload 5, 2) := by decide +kernel
theorem dX9_load_98 : decode cX9_load 98 = .ok (.getfield 276, 3) := by decide +kernel
theorem dX9_load_101 : decode cX9_load 101 = .ok (.iload 8, 2) := by decide +kernel
theorem dX9_load_103 : decode cX9_load 103 = .ok (.iaload, 1) := by decide +kernel
theorem dX9_load_104 : decode cX9_load 104 = .ok (.aload 5, 2) := by decide +kernel
theorem dX9_load_106 : decode cX9_load 106 = .ok (.getfield 276, 3) := by decide +kernel
theorem dX9_load_109 : decode cX9_load 109 = .ok (.iload 8, 2) := by decide +kernel
theorem dX9_load_111 : decode cX9_load 111 = .ok (.iconst 1, 1) := by decide +kernel
theorem dX9_load_112 : decode cX9_load 112 = .ok (.iadd, 1) := by decide +kernel
theorem dX9_load_113 : decode cX9_load 113 = .ok (.iaload, 1) := by decide +kernel
theorem dX9_load_114 : decode cX9_load 114 = .ok (.aload 5, 2) := by decide +kernel
theorem dX9_load_116 : decode cX9_load 116 = .ok (.getfield 276, 3) := by decide +kernel
theorem dX9_load_119 : decode cX9_load 119 = .ok (.iload 8, 2) := by decide +kernel
theorem dX9_load_121 : decode cX9_load 121 = .ok (.iconst 2, 1) := by decide +kernel
theorem dX9_load_122 : decode cX9_load 122 = .ok (.iadd, 1) := by decide +kernel
theorem dX9_load_123 : decode cX9_load 123 = .ok (.iaload, 1) := by decide +kernel
theorem dX9_load_124 : decode cX9_load 124 = .ok (.invokevirtual 285, 3) := by decide +kernel
theorem dX9_load_127 : decode cX9_load 127 = .ok (.bipush (-2), 2) := by decide +kernel
theorem dX9_load_129 : decode cX9_load 129 = .ok (.if_icmp .eq 6, 3) := by decide +kernel
theorem dX9_load_132 : decode cX9_load 132 = .ok (.iinc 6 1, 3) := by decide +kernel
theorem dX9_load_135 : decode cX9_load 135 = .ok (.iinc 7 1, 3) := by decide +kernel
theorem dX9_load_138 : decode cX9_load 138 = .ok (.goto (-72), 3) := by decide +kernel
theorem dX9_load_141 : decode cX9_load 141 = .ok (.iload 6, 2) := by decide +kernel
theorem dX9_load_143 : decode cX9_load 143 = .ok (.ireturn, 1) := by decide +kernel
theorem dX9_isWithin_0 : decode cX9_isWithin 0 = .ok (.iload_n 0, 1) := by decide +kernel
theorem dX9_isWithin_1 : decode cX9_isWithin 1 = .ok (.ifCond .lt 12, 3) := by decide +kernel
theorem dX9_isWithin_4 : decode cX9_isWithin 4 = .ok (.iload_n 0, 1) := by decide +kernel
theorem dX9_isWithin_5 : decode cX9_isWithin 5 = .ok (.iload_n 1, 1) := by decide +kernel
theorem dX9_isWithin_6 : decode cX9_isWithin 6 = .ok (.if_icmp .gt 7, 3) := by decide +kernel
theorem dX9_isWithin_9 : decode cX9_isWithin 9 = .ok (.iconst 1, 1) := by decide +kernel
theorem dX9_isWithin_10 : decode cX9_isWithin 10 = .ok (.goto 4, 3) := by decide +kernel
theorem dX9_isWithin_13 : decode cX9_isWithin 13 = .ok (.iconst 0, 1) := by decide +kernel
theorem dX9_isWithin_14 : decode cX9_isWithin 14 = .ok (.ireturn, 1) := by decide +kernel
theorem dX9_isByte_0 : decode cX9_isByte 0 = .ok (.iload_n 0, 1) := by decide +kernel
theorem dX9_isByte_1 : decode cX9_isByte 1 = .ok (.sipush 255, 3) := by decide +kernel
theorem dX9_isByte_4 : decode cX9_isByte 4 = .ok (.invokestatic 91, 3) := by decide +kernel
theorem dX9_isByte_7 : decode cX9_isByte 7 = .ok (.ireturn, 1) := by decide +kernel
theorem dX9_isSheet_0 : decode cX9_isSheet 0 = .ok (.iload_n 0, 1) := by decide +kernel
theorem dX9_isSheet_1 : decode cX9_isSheet 1 = .ok (.ifCond .lt 12, 3) := by decide +kernel
theorem dX9_isSheet_4 : decode cX9_isSheet 4 = .ok (.iload_n 0, 1) := by decide +kernel
theorem dX9_isSheet_5 : decode cX9_isSheet 5 = .ok (.iconst 4, 1) := by decide +kernel
theorem dX9_isSheet_6 : decode cX9_isSheet 6 = .ok (.if_icmp .ge 7, 3) := by decide +kernel
theorem dX9_isSheet_9 : decode cX9_isSheet 9 = .ok (.iconst 1, 1) := by decide +kernel
theorem dX9_isSheet_10 : decode cX9_isSheet 10 = .ok (.goto 4, 3) := by decide +kernel
theorem dX9_isSheet_13 : decode cX9_isSheet 13 = .ok (.iconst 0, 1) := by decide +kernel
theorem dX9_isSheet_14 : decode cX9_isSheet 14 = .ok (.ireturn, 1) := by decide +kernel
theorem dX9_isProgram_0 : decode cX9_isProgram 0 = .ok (.iload_n 1, 1) := by decide +kernel
theorem dX9_isProgram_1 : decode cX9_isProgram 1 = .ok (.ifCond .lt 15, 3) := by decide +kernel
theorem dX9_isProgram_4 : decode cX9_isProgram 4 = .ok (.iload_n 1, 1) := by decide +kernel
theorem dX9_isProgram_5 : decode cX9_isProgram 5 = .ok (.aload_n 0, 1) := by decide +kernel
theorem dX9_isProgram_6 : decode cX9_isProgram 6 = .ok (.getfield 141, 3) := by decide +kernel
theorem dX9_isProgram_9 : decode cX9_isProgram 9 = .ok (.if_icmp .ge 7, 3) := by decide +kernel
theorem dX9_isProgram_12 : decode cX9_isProgram 12 = .ok (.iconst 1, 1) := by decide +kernel
theorem dX9_isProgram_13 : decode cX9_isProgram 13 = .ok (.goto 4, 3) := by decide +kernel
theorem dX9_isProgram_16 : decode cX9_isProgram 16 = .ok (.iconst 0, 1) := by decide +kernel
theorem dX9_isProgram_17 : decode cX9_isProgram 17 = .ok (.ireturn, 1) := by decide +kernel
theorem dX9_isPair_0 : decode cX9_isPair 0 = .ok (.aload_n 0, 1) := by decide +kernel
theorem dX9_isPair_1 : decode cX9_isPair 1 = .ok (.getfield 12, 3) := by decide +kernel
theorem dX9_isPair_4 : decode cX9_isPair 4 = .ok (.iload_n 1, 1) := by decide +kernel
theorem dX9_isPair_5 : decode cX9_isPair 5 = .ok (.invokevirtual 102, 3) := by decide +kernel
theorem dX9_isPair_8 : decode cX9_isPair 8 = .ok (.ifCond .eq 23, 3) := by decide +kernel
theorem dX9_isPair_11 : decode cX9_isPair 11 = .ok (.aload_n 0, 1) := by decide +kernel
theorem dX9_isPair_12 : decode cX9_isPair 12 = .ok (.getfield 12, 3) := by decide +kernel
theorem dX9_isPair_15 : decode cX9_isPair 15 = .ok (.iload_n 2, 1) := by decide +kernel
theorem dX9_isPair_16 : decode cX9_isPair 16 = .ok (.invokevirtual 102, 3) := by decide +kernel
theorem dX9_isPair_19 : decode cX9_isPair 19 = .ok (.ifCond .eq 12, 3) := by decide +kernel
theorem dX9_isPair_22 : decode cX9_isPair 22 = .ok (.iload_n 1, 1) := by decide +kernel
theorem dX9_isPair_23 : decode cX9_isPair 23 = .ok (.iload_n 2, 1) := by decide +kernel
theorem dX9_isPair_24 : decode cX9_isPair 24 = .ok (.if_icmp .eq 7, 3) := by decide +kernel
theorem dX9_isPair_27 : decode cX9_isPair 27 = .ok (.iconst 1, 1) := by decide +kernel
theorem dX9_isPair_28 : decode cX9_isPair 28 = .ok (.goto 4, 3) := by decide +kernel
theorem dX9_isPair_31 : decode cX9_isPair 31 = .ok (.iconst 0, 1) := by decide +kernel
theorem dX9_isPair_32 : decode cX9_isPair 32 = .ok (.ireturn, 1) := by decide +kernel
theorem dX9_isOfWould_0 : decode cX9_isOfWould 0 = .ok (.iload_n 1, 1) := by decide +kernel
theorem dX9_isOfWould_1 : decode cX9_isOfWould 1 = .ok (.bipush 10, 2) := by decide +kernel
theorem dX9_isOfWould_3 : decode cX9_isOfWould 3 = .ok (.if_icmp .lt 15, 3) := by decide +kernel
theorem dX9_isOfWould_6 : decode cX9_isOfWould 6 = .ok (.aload_n 0, 1) := by decide +kernel
theorem dX9_isOfWould_7 : decode cX9_isOfWould 7 = .ok (.getfield 12, 3) := by decide +kernel
theorem dX9_isOfWould_10 : decode cX9_isOfWould 10 = .ok (.iload_n 1, 1) := by decide +kernel
theorem dX9_isOfWould_11 : decode cX9_isOfWould 11 = .ok (.bipush 10, 2) := by decide +kernel
theorem dX9_isOfWould_13 : decode cX9_isOfWould 13 = .ok (.isub, 1) := by decide +kernel
theorem dX9_isOfWould_14 : decode cX9_isOfWould 14 = .ok (.invokevirtual 102, 3) := by decide +kernel
theorem dX9_isOfWould_17 : decode cX9_isOfWould 17 = .ok (.ireturn, 1) := by decide +kernel
theorem dX9_isOfWould_18 : decode cX9_isOfWould 18 = .ok (.iload_n 1, 1) := by decide +kernel
theorem dX9_isOfWould_19 : decode cX9_isOfWould 19 = .ok (.iconst 3, 1) := by decide +kernel
theorem dX9_isOfWould_20 : decode cX9_isOfWould 20 = .ok (.invokestatic 91, 3) := by decide +kernel
theorem dX9_isOfWould_23 : decode cX9_isOfWould 23 = .ok (.ireturn, 1) := by decide +kernel
theorem dX9_outcomeInThought_0 : decode cX9_outcomeInThought 0 = .ok (.aload_n 0, 1) := by decide +kernel
theorem dX9_outcomeInThought_1 : decode cX9_outcomeInThought 1 = .ok (.getfield 74, 3) := by decide +kernel
theorem dX9_outcomeInThought_4 : decode cX9_outcomeInThought 4 = .ok (.getfield 207, 3) := by decide +kernel
theorem dX9_outcomeInThought_7 : decode cX9_outcomeInThought 7 = .ok (.aload_n 0, 1) := by decide +kernel
theorem dX9_outcomeInThought_8 : decode cX9_outcomeInThought 8 = .ok (.getfield 12, 3) := by decide +kernel
theorem dX9_outcomeInThought_11 : decode cX9_outcomeInThought 11 = .ok (.invokevirtual 214, 3) := by decide +kernel
theorem dX9_outcomeInThought_14 : decode cX9_outcomeInThought 14 = .ok (.aload_n 0, 1) := by decide +kernel
theorem dX9_outcomeInThought_15 : decode cX9_outcomeInThought 15 = .ok (.getfield 74, 3) := by decide +kernel
theorem dX9_outcomeInThought_18 : decode cX9_outcomeInThought 18 = .ok (.aload_n 0, 1) := by decide +kernel
theorem dX9_outcomeInThought_19 : decode cX9_outcomeInThought 19 = .ok (.getfield 42, 3) := by decide +kernel
theorem dX9_outcomeInThought_22 : decode cX9_outcomeInThought 22 = .ok (.iload_n 1, 1) := by decide +kernel
theorem dX9_outcomeInThought_23 : decode cX9_outcomeInThought 23 = .ok (.aaload, 1) := by decide +kernel
theorem dX9_outcomeInThought_24 : decode cX9_outcomeInThought 24 = .ok (.invokevirtual 195, 3) := by decide +kernel
theorem dX9_outcomeInThought_27 : decode cX9_outcomeInThought 27 = .ok (.ireturn, 1) := by decide +kernel
theorem dX9_kindsToldBy_0 : decode cX9_kindsToldBy 0 = .ok (.iconst 0, 1) := by decide +kernel
theorem dX9_kindsToldBy_1 : decode cX9_kindsToldBy 1 = .ok (.istore 4, 2) := by decide +kernel
theorem dX9_kindsToldBy_3 : decode cX9_kindsToldBy 3 = .ok (.iconst 0, 1) := by decide +kernel
theorem dX9_kindsToldBy_4 : decode cX9_kindsToldBy 4 = .ok (.istore 5, 2) := by decide +kernel
theorem dX9_kindsToldBy_6 : decode cX9_kindsToldBy 6 = .ok (.iload 5, 2) := by decide +kernel
theorem dX9_kindsToldBy_8 : decode cX9_kindsToldBy 8 = .ok (.iconst 5, 1) := by decide +kernel
theorem dX9_kindsToldBy_9 : decode cX9_kindsToldBy 9 = .ok (.if_icmp .ge 82, 3) := by decide +kernel
theorem dX9_kindsToldBy_12 : decode cX9_kindsToldBy 12 = .ok (.aload_n 0, 1) := by decide +kernel
theorem dX9_kindsToldBy_13 : decode cX9_kindsToldBy 13 = .ok (.getfield 74, 3) := by decide +kernel
theorem dX9_kindsToldBy_16 : decode cX9_kindsToldBy 16 = .ok (.getfield 207, 3) := by decide +kernel
theorem dX9_kindsToldBy_19 : decode cX9_kindsToldBy 19 = .ok (.aload_n 0, 1) := by decide +kernel
theorem dX9_kindsToldBy_20 : decode cX9_kindsToldBy 20 = .ok (.getfield 12, 3) := by decide +kernel
theorem dX9_kindsToldBy_23 : decode cX9_kindsToldBy 23 = .ok (.invokevirtual 214, 3) := by decide +kernel
theorem dX9_kindsToldBy_26 : decode cX9_kindsToldBy 26 = .ok (.aload_n 0, 1) := by decide +kernel
theorem dX9_kindsToldBy_27 : decode cX9_kindsToldBy 27 = .ok (.getfield 74, 3) := by decide +kernel
theorem dX9_kindsToldBy_30 : decode cX9_kindsToldBy 30 = .ok (.getfield 207, 3) := by decide +kernel
theorem dX9_kindsToldBy_33 : decode cX9_kindsToldBy 33 = .ok (.getfield 118, 3) := by decide +kernel
theorem dX9_kindsToldBy_36 : decode cX9_kindsToldBy 36 = .ok (.iload_n 3, 1) := by decide +kernel
theorem dX9_kindsToldBy_37 : decode cX9_kindsToldBy 37 = .ok (.iload 5, 2) := by decide +kernel
theorem dX9_kindsToldBy_39 : decode cX9_kindsToldBy 39 = .ok (.iastore, 1) := by decide +kernel
theorem dX9_kindsToldBy_40 : decode cX9_kindsToldBy 40 = .ok (.aload_n 0, 1) := by decide +kernel
theorem dX9_kindsToldBy_41 : decode cX9_kindsToldBy 41 = .ok (.getfield 74, 3) := by decide +kernel
theorem dX9_kindsToldBy_44 : decode cX9_kindsToldBy 44 = .ok (.aload_n 0, 1) := by decide +kernel
theorem dX9_kindsToldBy_45 : decode cX9_kindsToldBy 45 = .ok (.getfield 42, 3) := by decide +kernel
theorem dX9_kindsToldBy_48 : decode cX9_kindsToldBy 48 = .ok (.iload_n 2, 1) := by decide +kernel
theorem dX9_kindsToldBy_49 : decode cX9_kindsToldBy 49 = .ok (.aaload, 1) := by decide +kernel
theorem dX9_kindsToldBy_50 : decode cX9_kindsToldBy 50 = .ok (.invokevirtual 195, 3) := by decide +kernel
theorem dX9_kindsToldBy_53 : decode cX9_kindsToldBy 53 = .ok (.pop, 1) := by decide +kernel
theorem dX9_kindsToldBy_54 : decode cX9_kindsToldBy 54 = .ok (.aload_n 1, 1) := by decide +kernel
theorem dX9_kindsToldBy_55 : decode cX9_kindsToldBy 55 = .ok (.aload_n 0, 1) := by decide +kernel
theorem dX9_kindsToldBy_56 : decode cX9_kindsToldBy 56 = .ok (.getfield 74, 3) := by decide +kernel
theorem dX9_kindsToldBy_59 : decode cX9_kindsToldBy 59 = .ok (.getfield 198, 3) := by decide +kernel
theorem dX9_kindsToldBy_62 : decode cX9_kindsToldBy 62 = .ok (.aload_n 0, 1) := by decide +kernel
theorem dX9_kindsToldBy_63 : decode cX9_kindsToldBy 63 = .ok (.getfield 74, 3) := by decide +kernel
theorem dX9_kindsToldBy_66 : decode cX9_kindsToldBy 66 = .ok (.invokevirtual 156, 3) := by decide +kernel
theorem dX9_kindsToldBy_69 : decode cX9_kindsToldBy 69 = .ok (.invokevirtual 252, 3) := by decide +kernel
theorem dX9_kindsToldBy_72 : decode cX9_kindsToldBy 72 = .ok (.iconst (-1), 1) := by decide +kernel
theorem dX9_kindsToldBy_73 : decode cX9_kindsToldBy 73 = .ok (.if_icmp .ne 12, 3) := by decide +kernel
theorem dX9_kindsToldBy_76 : decode cX9_kindsToldBy 76 = .ok (.iload 4, 2) := by decide +kernel
theorem dX9_kindsToldBy_78 : decode cX9_kindsToldBy 78 = .ok (.iconst 1, 1) := by decide +kernel
theorem dX9_kindsToldBy_79 : decode cX9_kindsToldBy 79 = .ok (.iload 5, 2) := by decide +kernel
theorem dX9_kindsToldBy_81 : decode cX9_kindsToldBy 81 = .ok (.ishl, 1) := by decide +kernel
theorem dX9_kindsToldBy_82 : decode cX9_kindsToldBy 82 = .ok (.ior, 1) := by decide +kernel
theorem dX9_kindsToldBy_83 : decode cX9_kindsToldBy 83 = .ok (.istore 4, 2) := by decide +kernel
theorem dX9_kindsToldBy_85 : decode cX9_kindsToldBy 85 = .ok (.iinc 5 1, 3) := by decide +kernel
theorem dX9_kindsToldBy_88 : decode cX9_kindsToldBy 88 = .ok (.goto (-82), 3) := by decide +kernel
theorem dX9_kindsToldBy_91 : decode cX9_kindsToldBy 91 = .ok (.iload 4, 2) := by decide +kernel
theorem dX9_kindsToldBy_93 : decode cX9_kindsToldBy 93 = .ok (.ireturn, 1) := by decide +kernel
theorem dX10_init_0 : decode cX10_init 0 = .ok (.aload_n 0, 1) := by decide +kernel
theorem dX10_init_1 : decode cX10_init 1 = .ok (.invokespecial 5, 3) := by decide +kernel
theorem dX10_init_4 : decode cX10_init 4 = .ok (.aload_n 0, 1) := by decide +kernel
theorem dX10_init_5 : decode cX10_init 5 = .ok (.bipush 125, 2) := by decide +kernel
theorem dX10_init_7 : decode cX10_init 7 = .ok (.newarray .int, 2) := by decide +kernel
theorem dX10_init_9 : decode cX10_init 9 = .ok (.putfield 11, 3) := by decide +kernel
theorem dX10_init_12 : decode cX10_init 12 = .ok (.aload_n 0, 1) := by decide +kernel
theorem dX10_init_13 : decode cX10_init 13 = .ok (.bipush 125, 2) := by decide +kernel
theorem dX10_init_15 : decode cX10_init 15 = .ok (.newarray .int, 2) := by decide +kernel
theorem dX10_init_17 : decode cX10_init 17 = .ok (.putfield 15, 3) := by decide +kernel
theorem dX10_init_20 : decode cX10_init 20 = .ok (.aload_n 0, 1) := by decide +kernel
theorem dX10_init_21 : decode cX10_init 21 = .ok (.bipush 125, 2) := by decide +kernel
theorem dX10_init_23 : decode cX10_init 23 = .ok (.newarray .int, 2) := by decide +kernel
theorem dX10_init_25 : decode cX10_init 25 = .ok (.putfield 18, 3) := by decide +kernel
theorem dX10_init_28 : decode cX10_init 28 = .ok (.aload_n 0, 1) := by decide +kernel
theorem dX10_init_29 : decode cX10_init 29 = .ok (.bipush 80, 2) := by decide +kernel
theorem dX10_init_31 : decode cX10_init 31 = .ok (.newarray .int, 2) := by decide +kernel
theorem dX10_init_33 : decode cX10_init 33 = .ok (.putfield 21, 3) := by decide +kernel
theorem dX10_init_36 : decode cX10_init 36 = .ok (.aload_n 0, 1) := by decide +kernel
theorem dX10_init_37 : decode cX10_init 37 = .ok (.sipush 320, 3) := by decide +kernel
theorem dX10_init_40 : decode cX10_init 40 = .ok (.newarray .int, 2) := by decide +kernel
theorem dX10_init_42 : decode cX10_init 42 = .ok (.putfield 24, 3) := by decide +kernel
theorem dX10_init_45 : decode cX10_init 45 = .ok (.aload_n 0, 1) := by decide +kernel
theorem dX10_init_46 : decode cX10_init 46 = .ok (.iconst 4, 1) := by decide +kernel
theorem dX10_init_47 : decode cX10_init 47 = .ok (.newarray .int, 2) := by decide +kernel
theorem dX10_init_49 : decode cX10_init 49 = .ok (.putfield 27, 3) := by decide +kernel
theorem dX10_init_52 : decode cX10_init 52 = .ok (.aload_n 0, 1) := by decide +kernel
theorem dX10_init_53 : decode cX10_init 53 = .ok (.sipush 320, 3) := by decide +kernel
theorem dX10_init_56 : decode cX10_init 56 = .ok (.newarray .int, 2) := by decide +kernel
theorem dX10_init_58 : decode cX10_init 58 = .ok (.putfield 30, 3) := by decide +kernel
theorem dX10_init_61 : decode cX10_init 61 = .ok (.aload_n 0, 1) := by decide +kernel
theorem dX10_init_62 : decode cX10_init 62 = .ok (.iconst 4, 1) := by decide +kernel
theorem dX10_init_63 : decode cX10_init 63 = .ok (.newarray .int, 2) := by decide +kernel
theorem dX10_init_65 : decode cX10_init 65 = .ok (.putfield 33, 3) := by decide +kernel
theorem dX10_init_68 : decode cX10_init 68 = .ok (.aload_n 0, 1) := by decide +kernel
theorem dX10_init_69 : decode cX10_init 69 = .ok (.bipush 8, 2) := by decide +kernel
theorem dX10_init_71 : decode cX10_init 71 = .ok (.newarray .int, 2) := by decide +kernel
theorem dX10_init_73 : decode cX10_init 73 = .ok (.putfield 36, 3) := by decide +kernel
theorem dX10_init_76 : decode cX10_init 76 = .ok (.aload_n 0, 1) := by decide +kernel
theorem dX10_init_77 : decode cX10_init 77 = .ok (.bipush 60, 2) := by decide +kernel
theorem dX10_init_79 : decode cX10_init 79 = .ok (.newarray .int, 2) := by decide +kernel
