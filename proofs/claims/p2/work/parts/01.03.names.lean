theorem dX10_init_81 : decode cX10_init 81 = .ok (.putfield 39, 3) := by decide +kernel
theorem dX10_init_84 : decode cX10_init 84 = .ok (.aload_n 0, 1) := by decide +kernel
theorem dX10_init_85 : decode cX10_init 85 = .ok (.bipush 60, 2) := by decide +kernel
theorem dX10_init_87 : decode cX10_init 87 = .ok (.newarray .int, 2) := by decide +kernel
theorem dX10_init_89 : decode cX10_init 89 = .ok (.putfield 42, 3) := by decide +kernel
theorem dX10_init_92 : decode cX10_init 92 = .ok (.aload_n 0, 1) := by decide +kernel
theorem dX10_init_93 : decode cX10_init 93 = .ok (.bipush 80, 2) := by decide +kernel
theorem dX10_init_95 : decode cX10_init 95 = .ok (.newarray .int, 2) := by decide +kernel
theorem dX10_init_97 : decode cX10_init 97 = .ok (.putfield 45, 3) := by decide +kernel
theorem dX10_init_100 : decode cX10_init 100 = .ok (.aload_n 0, 1) := by decide +kernel
theorem dX10_init_101 : decode cX10_init 101 = .ok (.bipush 10, 2) := by decide +kernel
theorem dX10_init_103 : decode cX10_init 103 = .ok (.newarray .long, 2) := by decide +kernel
theorem dX10_init_105 : decode cX10_init 105 = .ok (.putfield 48, 3) := by decide +kernel
theorem dX10_init_108 : decode cX10_init 108 = .ok (.aload_n 0, 1) := by decide +kernel
theorem dX10_init_109 : decode cX10_init 109 = .ok (.bipush 8, 2) := by decide +kernel
theorem dX10_init_111 : decode cX10_init 111 = .ok (.newarray .int, 2) := by decide +kernel
theorem dX10_init_113 : decode cX10_init 113 = .ok (.putfield 52, 3) := by decide +kernel
theorem dX10_init_116 : decode cX10_init 116 = .ok (.aload_n 0, 1) := by decide +kernel
theorem dX10_init_117 : decode cX10_init 117 = .ok (.iconst 4, 1) := by decide +kernel
theorem dX10_init_118 : decode cX10_init 118 = .ok (.newarray .int, 2) := by decide +kernel
theorem dX10_init_120 : decode cX10_init 120 = .ok (.dup, 1) := by decide +kernel
theorem dX10_init_121 : decode cX10_init 121 = .ok (.iconst 0, 1) := by decide +kernel
theorem dX10_init_122 : decode cX10_init 122 = .ok (.iconst (-1), 1) := by decide +kernel
theorem dX10_init_123 : decode cX10_init 123 = .ok (.iastore, 1) := by decide +kernel
theorem dX10_init_124 : decode cX10_init 124 = .ok (.dup, 1) := by decide +kernel
theorem dX10_init_125 : decode cX10_init 125 = .ok (.iconst 1, 1) := by decide +kernel
theorem dX10_init_126 : decode cX10_init 126 = .ok (.iconst (-1), 1) := by decide +kernel
theorem dX10_init_127 : decode cX10_init 127 = .ok (.iastore, 1) := by decide +kernel
theorem dX10_init_128 : decode cX10_init 128 = .ok (.dup, 1) := by decide +kernel
theorem dX10_init_129 : decode cX10_init 129 = .ok (.iconst 2, 1) := by decide +kernel
theorem dX10_init_130 : decode cX10_init 130 = .ok (.iconst (-1), 1) := by decide +kernel
theorem dX10_init_131 : decode cX10_init 131 = .ok (.iastore, 1) := by decide +kernel
theorem dX10_init_132 : decode cX10_init 132 = .ok (.dup, 1) := by decide +kernel
theorem dX10_init_133 : decode cX10_init 133 = .ok (.iconst 3, 1) := by decide +kernel
theorem dX10_init_134 : decode cX10_init 134 = .ok (.iconst (-1), 1) := by decide +kernel
theorem dX10_init_135 : decode cX10_init 135 = .ok (.iastore, 1) := by decide +kernel
theorem dX10_init_136 : decode cX10_init 136 = .ok (.putfield 55, 3) := by decide +kernel
theorem dX10_init_139 : decode cX10_init 139 = .ok (.aload_n 0, 1) := by decide +kernel
theorem dX10_init_140 : decode cX10_init 140 = .ok (.iconst 4, 1) := by decide +kernel
theorem dX10_init_141 : decode cX10_init 141 = .ok (.newarray .int, 2) := by decide +kernel
theorem dX10_init_143 : decode cX10_init 143 = .ok (.putfield 58, 3) := by decide +kernel
theorem dX10_init_146 : decode cX10_init 146 = .ok (.aload_n 0, 1) := by decide +kernel
theorem dX10_init_147 : decode cX10_init 147 = .ok (.sipush 240, 3) := by decide +kernel
theorem dX10_init_150 : decode cX10_init 150 = .ok (.newarray .int, 2) := by decide +kernel
theorem dX10_init_152 : decode cX10_init 152 = .ok (.putfield 61, 3) := by decide +kernel
theorem dX10_init_155 : decode cX10_init 155 = .ok (.aload_n 0, 1) := by decide +kernel
theorem dX10_init_156 : decode cX10_init 156 = .ok (.bipush 60, 2) := by decide +kernel
theorem dX10_init_158 : decode cX10_init 158 = .ok (.newarray .int, 2) := by decide +kernel
theorem dX10_init_160 : decode cX10_init 160 = .ok (.putfield 64, 3) := by decide +kernel
theorem dX10_init_163 : decode cX10_init 163 = .ok (.return_, 1) := by decide +kernel
theorem dX10_isIn_0 : decode cX10_isIn 0 = .ok (.lload_n 0, 1) := by decide +kernel
theorem dX10_isIn_1 : decode cX10_isIn 1 = .ok (.lload_n 2, 1) := by decide +kernel
theorem dX10_isIn_2 : decode cX10_isIn 2 = .ok (.lcmp, 1) := by decide +kernel
theorem dX10_isIn_3 : decode cX10_isIn 3 = .ok (.ifCond .lt 14, 3) := by decide +kernel
theorem dX10_isIn_6 : decode cX10_isIn 6 = .ok (.lload_n 0, 1) := by decide +kernel
theorem dX10_isIn_7 : decode cX10_isIn 7 = .ok (.lload 4, 2) := by decide +kernel
theorem dX10_isIn_9 : decode cX10_isIn 9 = .ok (.lcmp, 1) := by decide +kernel
theorem dX10_isIn_10 : decode cX10_isIn 10 = .ok (.ifCond .gt 7, 3) := by decide +kernel
theorem dX10_isIn_13 : decode cX10_isIn 13 = .ok (.iconst 1, 1) := by decide +kernel
theorem dX10_isIn_14 : decode cX10_isIn 14 = .ok (.goto 4, 3) := by decide +kernel
theorem dX10_isIn_17 : decode cX10_isIn 17 = .ok (.iconst 0, 1) := by decide +kernel
theorem dX10_isIn_18 : decode cX10_isIn 18 = .ok (.ireturn, 1) := by decide +kernel
theorem dX10_isAccount_0 : decode cX10_isAccount 0 = .ok (.iload_n 1, 1) := by decide +kernel
theorem dX10_isAccount_1 : decode cX10_isAccount 1 = .ok (.i2l, 1) := by decide +kernel
theorem dX10_isAccount_2 : decode cX10_isAccount 2 = .ok (.lconst 0, 1) := by decide +kernel
theorem dX10_isAccount_3 : decode cX10_isAccount 3 = .ok (.aload_n 0, 1) := by decide +kernel
theorem dX10_isAccount_4 : decode cX10_isAccount 4 = .ok (.getfield 11, 3) := by decide +kernel
theorem dX10_isAccount_7 : decode cX10_isAccount 7 = .ok (.bipush 60, 2) := by decide +kernel
theorem dX10_isAccount_9 : decode cX10_isAccount 9 = .ok (.iaload, 1) := by decide +kernel
theorem dX10_isAccount_10 : decode cX10_isAccount 10 = .ok (.iconst 1, 1) := by decide +kernel
theorem dX10_isAccount_11 : decode cX10_isAccount 11 = .ok (.isub, 1) := by decide +kernel
theorem dX10_isAccount_12 : decode cX10_isAccount 12 = .ok (.i2l, 1) := by decide +kernel
theorem dX10_isAccount_13 : decode cX10_isAccount 13 = .ok (.invokestatic 67, 3) := by decide +kernel
theorem dX10_isAccount_16 : decode cX10_isAccount 16 = .ok (.ireturn, 1) := by decide +kernel
theorem dX10_account_0 : decode cX10_account 0 = .ok (.iload_n 1, 1) := by decide +kernel
theorem dX10_account_1 : decode cX10_account 1 = .ok (.i2l, 1) := by decide +kernel
theorem dX10_account_2 : decode cX10_account 2 = .ok (.lconst 0, 1) := by decide +kernel
theorem dX10_account_3 : decode cX10_account 3 = .ok (.ldc2_w 71, 3) := by decide +kernel
theorem dX10_account_6 : decode cX10_account 6 = .ok (.invokestatic 67, 3) := by decide +kernel
theorem dX10_account_9 : decode cX10_account 9 = .ok (.ifCond .eq 15, 3) := by decide +kernel
theorem dX10_account_12 : decode cX10_account 12 = .ok (.iload_n 2, 1) := by decide +kernel
theorem dX10_account_13 : decode cX10_account 13 = .ok (.i2l, 1) := by decide +kernel
theorem dX10_account_14 : decode cX10_account 14 = .ok (.lconst 0, 1) := by decide +kernel
theorem dX10_account_15 : decode cX10_account 15 = .ok (.ldc2_w 73, 3) := by decide +kernel
theorem dX10_account_18 : decode cX10_account 18 = .ok (.invokestatic 67, 3) := by decide +kernel
theorem dX10_account_21 : decode cX10_account 21 = .ok (.ifCond .ne 6, 3) := by decide +kernel
theorem dX10_account_24 : decode cX10_account 24 = .ok (.bipush (-2), 2) := by decide +kernel
theorem dX10_account_26 : decode cX10_account 26 = .ok (.ireturn, 1) := by decide +kernel
theorem dX10_account_27 : decode cX10_account 27 = .ok (.aload_n 0, 1) := by decide +kernel
theorem dX10_account_28 : decode cX10_account 28 = .ok (.getfield 11, 3) := by decide +kernel
theorem dX10_account_31 : decode cX10_account 31 = .ok (.bipush 60, 2) := by decide +kernel
theorem dX10_account_33 : decode cX10_account 33 = .ok (.iaload, 1) := by decide +kernel
theorem dX10_account_34 : decode cX10_account 34 = .ok (.bipush 8, 2) := by decide +kernel
theorem dX10_account_36 : decode cX10_account 36 = .ok (.if_icmp .ne 6, 3) := by decide +kernel
theorem dX10_account_39 : decode cX10_account 39 = .ok (.bipush (-4), 2) := by decide +kernel
theorem dX10_account_41 : decode cX10_account 41 = .ok (.ireturn, 1) := by decide +kernel
theorem dX10_account_42 : decode cX10_account 42 = .ok (.aload_n 0, 1) := by decide +kernel
theorem dX10_account_43 : decode cX10_account 43 = .ok (.getfield 11, 3) := by decide +kernel
theorem dX10_account_46 : decode cX10_account 46 = .ok (.bipush 60, 2) := by decide +kernel
theorem dX10_account_48 : decode cX10_account 48 = .ok (.iaload, 1) := by decide +kernel
theorem dX10_account_49 : decode cX10_account 49 = .ok (.istore_n 3, 1) := by decide +kernel
theorem dX10_account_50 : decode cX10_account 50 = .ok (.aload_n 0, 1) := by decide +kernel
theorem dX10_account_51 : decode cX10_account 51 = .ok (.getfield 11, 3) := by decide +kernel
theorem dX10_account_54 : decode cX10_account 54 = .ok (.iconst 0, 1) := by decide +kernel
theorem dX10_account_55 : decode cX10_account 55 = .ok (.iload_n 3, 1) := by decide +kernel
theorem dX10_account_56 : decode cX10_account 56 = .ok (.iadd, 1) := by decide +kernel
theorem dX10_account_57 : decode cX10_account 57 = .ok (.iload_n 1, 1) := by decide +kernel
theorem dX10_account_58 : decode cX10_account 58 = .ok (.iastore, 1) := by decide +kernel
theorem dX10_account_59 : decode cX10_account 59 = .ok (.aload_n 0, 1) := by decide +kernel
theorem dX10_account_60 : decode cX10_account 60 = .ok (.getfield 11, 3) := by decide +kernel
theorem dX10_account_63 : decode cX10_account 63 = .ok (.bipush 8, 2) := by decide +kernel
theorem dX10_account_65 : decode cX10_account 65 = .ok (.iload_n 3, 1) := by decide +kernel
theorem dX10_account_66 : decode cX10_account 66 = .ok (.iadd, 1) := by decide +kernel
theorem dX10_account_67 : decode cX10_account 67 = .ok (.iload_n 2, 1) := by decide +kernel
theorem dX10_account_68 : decode cX10_account 68 = .ok (.iastore, 1) := by decide +kernel
theorem dX10_account_69 : decode cX10_account 69 = .ok (.aload_n 0, 1) := by decide +kernel
theorem dX10_account_70 : decode cX10_account 70 = .ok (.getfield 11, 3) := by decide +kernel
theorem dX10_account_73 : decode cX10_account 73 = .ok (.bipush 16, 2) := by decide +kernel
theorem dX10_account_75 : decode cX10_account 75 = .ok (.iload_n 3, 1) := by decide +kernel
theorem dX10_account_76 : decode cX10_account 76 = .ok (.iadd, 1) := by decide +kernel
theorem dX10_account_77 : decode cX10_account 77 = .ok (.iconst 0, 1) := by decide +kernel
theorem dX10_account_78 : decode cX10_account 78 = .ok (.iastore, 1) := by decide +kernel
theorem dX10_account_79 : decode cX10_account 79 = .ok (.aload_n 0, 1) := by decide +kernel
theorem dX10_account_80 : decode cX10_account 80 = .ok (.getfield 11, 3) := by decide +kernel
theorem dX10_account_83 : decode cX10_account 83 = .ok (.bipush 24, 2) := by decide +kernel
theorem dX10_account_85 : decode cX10_account 85 = .ok (.iload_n 3, 1) := by decide +kernel
theorem dX10_account_86 : decode cX10_account 86 = .ok (.iadd, 1) := by decide +kernel
theorem dX10_account_87 : decode cX10_account 87 = .ok (.iconst 1, 1) := by decide +kernel
theorem dX10_account_88 : decode cX10_account 88 = .ok (.iastore, 1) := by decide +kernel
theorem dX10_account_89 : decode cX10_account 89 = .ok (.aload_n 0, 1) := by decide +kernel
theorem dX10_account_90 : decode cX10_account 90 = .ok (.getfield 11, 3) := by decide +kernel
theorem dX10_account_93 : decode cX10_account 93 = .ok (.bipush 60, 2) := by decide +kernel
theorem dX10_account_95 : decode cX10_account 95 = .ok (.dup2, 1) := by decide +kernel
theorem dX10_account_96 : decode cX10_account 96 = .ok (.iaload, 1) := by decide +kernel
theorem dX10_account_97 : decode cX10_account 97 = .ok (.iconst 1, 1) := by decide +kernel
theorem dX10_account_98 : decode cX10_account 98 = .ok (.iadd, 1) := by decide +kernel
theorem dX10_account_99 : decode cX10_account 99 = .ok (.iastore, 1) := by decide +kernel
theorem dX10_account_100 : decode cX10_account 100 = .ok (.iload_n 3, 1) := by decide +kernel
theorem dX10_account_101 : decode cX10_account 101 = .ok (.ireturn, 1) := by decide +kernel
theorem dX10_set_0 : decode cX10_set 0 = .ok (.aload_n 0, 1) := by decide +kernel
theorem dX10_set_1 : decode cX10_set 1 = .ok (.iload_n 1, 1) := by decide +kernel
theorem dX10_set_2 : decode cX10_set 2 = .ok (.invokevirtual 75, 3) := by decide +kernel
theorem dX10_set_5 : decode cX10_set 5 = .ok (.ifCond .eq 35, 3) := by decide +kernel
theorem dX10_set_8 : decode cX10_set 8 = .ok (.iload_n 2, 1) := by decide +kernel
theorem dX10_set_9 : decode cX10_set 9 = .ok (.i2l, 1) := by decide +kernel
theorem dX10_set_10 : decode cX10_set 10 = .ok (.lconst 0, 1) := by decide +kernel
theorem dX10_set_11 : decode cX10_set 11 = .ok (.lconst 1, 1) := by decide +kernel
theorem dX10_set_12 : decode cX10_set 12 = .ok (.invokestatic 67, 3) := by decide +kernel
theorem dX10_set_15 : decode cX10_set 15 = .ok (.ifCond .eq 25, 3) := by decide +kernel
theorem dX10_set_18 : decode cX10_set 18 = .ok (.iload_n 3, 1) := by decide +kernel
theorem dX10_set_19 : decode cX10_set 19 = .ok (.i2l, 1) := by decide +kernel
theorem dX10_set_20 : decode cX10_set 20 = .ok (.lconst 0, 1) := by decide +kernel
theorem dX10_set_21 : decode cX10_set 21 = .ok (.iload_n 2, 1) := by decide +kernel
theorem dX10_set_22 : decode cX10_set 22 = .ok (.ifCond .ne 9, 3) := by decide +kernel
theorem dX10_set_25 : decode cX10_set 25 = .ok (.ldc2_w 73, 3) := by decide +kernel
theorem dX10_set_28 : decode cX10_set 28 = .ok (.goto 6, 3) := by decide +kernel
theorem dX10_set_31 : decode cX10_set 31 = .ok (.ldc2_w 79, 3) := by decide +kernel
theorem dX10_set_34 : decode cX10_set 34 = .ok (.invokestatic 67, 3) := by decide +kernel
theorem dX10_set_37 : decode cX10_set 37 = .ok (.ifCond .ne 7, 3) := by decide +kernel
theorem dX10_set_40 : decode cX10_set 40 = .ok (.ldc2_w 81, 3) := by decide +kernel
theorem dX10_set_43 : decode cX10_set 43 = .ok (.lreturn, 1) := by decide +kernel
theorem dX10_set_44 : decode cX10_set 44 = .ok (.iload_n 2, 1) := by decide +kernel
theorem dX10_set_45 : decode cX10_set 45 = .ok (.ifCond .ne 8, 3) := by decide +kernel
theorem dX10_set_48 : decode cX10_set 48 = .ok (.bipush 8, 2) := by decide +kernel
theorem dX10_set_50 : decode cX10_set 50 = .ok (.goto 5, 3) := by decide +kernel
theorem dX10_set_53 : decode cX10_set 53 = .ok (.bipush 16, 2) := by decide +kernel
theorem dX10_set_55 : decode cX10_set 55 = .ok (.iload_n 1, 1) := by decide +kernel
theorem dX10_set_56 : decode cX10_set 56 = .ok (.iadd, 1) := by decide +kernel
theorem dX10_set_57 : decode cX10_set 57 = .ok (.istore 4, 2) := by decide +kernel
theorem dX10_set_59 : decode cX10_set 59 = .ok (.aload_n 0, 1) := by decide +kernel
theorem dX10_set_60 : decode cX10_set 60 = .ok (.getfield 11, 3) := by decide +kernel
theorem dX10_set_63 : decode cX10_set 63 = .ok (.iload 4, 2) := by decide +kernel
theorem dX10_set_65 : decode cX10_set 65 = .ok (.iaload, 1) := by decide +kernel
theorem dX10_set_66 : decode cX10_set 66 = .ok (.istore 5, 2) := by decide +kernel
theorem dX10_set_68 : decode cX10_set 68 = .ok (.aload_n 0, 1) := by decide +kernel
theorem dX10_set_69 : decode cX10_set 69 = .ok (.getfield 11, 3) := by decide +kernel
theorem dX10_set_72 : decode cX10_set 72 = .ok (.iload 4, 2) := by decide +kernel
theorem dX10_set_74 : decode cX10_set 74 = .ok (.iload_n 3, 1) := by decide +kernel
theorem dX10_set_75 : decode cX10_set 75 = .ok (.iastore, 1) := by decide +kernel
theorem dX10_set_76 : decode cX10_set 76 = .ok (.iload 5, 2) := by decide +kernel
theorem dX10_set_78 : decode cX10_set 78 = .ok (.i2l, 1) := by decide +kernel
theorem dX10_set_79 : decode cX10_set 79 = .ok (.lreturn, 1) := by decide +kernel
theorem dX10_gate_0 : decode cX10_gate 0 = .ok (.aload_n 0, 1) := by decide +kernel
theorem dX10_gate_1 : decode cX10_gate 1 = .ok (.iload_n 1, 1) := by decide +kernel
theorem dX10_gate_2 : decode cX10_gate 2 = .ok (.invokevirtual 75, 3) := by decide +kernel
theorem dX10_gate_5 : decode cX10_gate 5 = .ok (.ifCond .ne 6, 3) := by decide +kernel
theorem dX10_gate_8 : decode cX10_gate 8 = .ok (.bipush (-2), 2) := by decide +kernel
theorem dX10_gate_10 : decode cX10_gate 10 = .ok (.ireturn, 1) := by decide +kernel
theorem dX10_gate_11 : decode cX10_gate 11 = .ok (.aload_n 0, 1) := by decide +kernel
theorem dX10_gate_12 : decode cX10_gate 12 = .ok (.getfield 11, 3) := by decide +kernel
theorem dX10_gate_15 : decode cX10_gate 15 = .ok (.bipush 24, 2) := by decide +kernel
theorem dX10_gate_17 : decode cX10_gate 17 = .ok (.iload_n 1, 1) := by decide +kernel
theorem dX10_gate_18 : decode cX10_gate 18 = .ok (.iadd, 1) := by decide +kernel
theorem dX10_gate_19 : decode cX10_gate 19 = .ok (.iaload, 1) := by decide +kernel
theorem dX10_gate_20 : decode cX10_gate 20 = .ok (.istore_n 3, 1) := by decide +kernel
theorem dX10_gate_21 : decode cX10_gate 21 = .ok (.aload_n 0, 1) := by decide +kernel
theorem dX10_gate_22 : decode cX10_gate 22 = .ok (.getfield 11, 3) := by decide +kernel
theorem dX10_gate_25 : decode cX10_gate 25 = .ok (.bipush 24, 2) := by decide +kernel
theorem dX10_gate_27 : decode cX10_gate 27 = .ok (.iload_n 1, 1) := by decide +kernel
theorem dX10_gate_28 : decode cX10_gate 28 = .ok (.iadd, 1) := by decide +kernel
theorem dX10_gate_29 : decode cX10_gate 29 = .ok (.iload_n 2, 1) := by decide +kernel
theorem dX10_gate_30 : decode cX10_gate 30 = .ok (.ifCond .eq 7, 3) := by decide +kernel
theorem dX10_gate_33 : decode cX10_gate 33 = .ok (.iconst 1, 1) := by decide +kernel
theorem dX10_gate_34 : decode cX10_gate 34 = .ok (.goto 4, 3) := by decide +kernel
theorem dX10_gate_37 : decode cX10_gate 37 = .ok (.iconst 0, 1) := by decide +kernel
theorem dX10_gate_38 : decode cX10_gate 38 = .ok (.iastore, 1) := by decide +kernel
theorem dX10_gate_39 : decode cX10_gate 39 = .ok (.iload_n 3, 1) := by decide +kernel
theorem dX10_gate_40 : decode cX10_gate 40 = .ok (.ireturn, 1) := by decide +kernel
theorem dX10_feeOf_0 : decode cX10_feeOf 0 = .ok (.aload_n 0, 1) := by decide +kernel
theorem dX10_feeOf_1 : decode cX10_feeOf 1 = .ok (.getfield 11, 3) := by decide +kernel
theorem dX10_feeOf_4 : decode cX10_feeOf 4 = .ok (.iconst 0, 1) := by decide +kernel
theorem dX10_feeOf_5 : decode cX10_feeOf 5 = .ok (.iload_n 1, 1) := by decide +kernel
theorem dX10_feeOf_6 : decode cX10_feeOf 6 = .ok (.iadd, 1) := by decide +kernel
theorem dX10_feeOf_7 : decode cX10_feeOf 7 = .ok (.iaload, 1) := by decide +kernel
theorem dX10_feeOf_8 : decode cX10_feeOf 8 = .ok (.istore_n 3, 1) := by decide +kernel
theorem dX10_feeOf_9 : decode cX10_feeOf 9 = .ok (.iload_n 3, 1) := by decide +kernel
theorem dX10_feeOf_10 : decode cX10_feeOf 10 = .ok (.iconst 1, 1) := by decide +kernel
theorem dX10_feeOf_11 : decode cX10_feeOf 11 = .ok (.if_icmp .ne 7, 3) := by decide +kernel
theorem dX10_feeOf_14 : decode cX10_feeOf 14 = .ok (.iconst 1, 1) := by decide +kernel
theorem dX10_feeOf_15 : decode cX10_feeOf 15 = .ok (.goto 18, 3) := by decide +kernel
theorem dX10_feeOf_18 : decode cX10_feeOf 18 = .ok (.iload_n 3, 1) := by decide +kernel
theorem dX10_feeOf_19 : decode cX10_feeOf 19 = .ok (.iconst 4, 1) := by decide +kernel
theorem dX10_feeOf_20 : decode cX10_feeOf 20 = .ok (.if_icmp .ne 12, 3) := by decide +kernel
theorem dX10_feeOf_23 : decode cX10_feeOf 23 = .ok (.iconst 1, 1) := by decide +kernel
theorem dX10_feeOf_24 : decode cX10_feeOf 24 = .ok (.iload_n 2, 1) := by decide +kernel
theorem dX10_feeOf_25 : decode cX10_feeOf 25 = .ok (.bipush 10, 2) := by decide +kernel
theorem dX10_feeOf_27 : decode cX10_feeOf 27 = .ok (.idiv, 1) := by decide +kernel
theorem dX10_feeOf_28 : decode cX10_feeOf 28 = .ok (.iadd, 1) := by decide +kernel
theorem dX10_feeOf_29 : decode cX10_feeOf 29 = .ok (.goto 4, 3) := by decide +kernel
theorem dX10_feeOf_32 : decode cX10_feeOf 32 = .ok (.iconst 0, 1) := by decide +kernel
theorem dX10_feeOf_33 : decode cX10_feeOf 33 = .ok (.ireturn, 1) := by decide +kernel
theorem dX10_floorOf_0 : decode cX10_floorOf 0 = .ok (.aload_n 0, 1) := by decide +kernel
theorem dX10_floorOf_1 : decode cX10_floorOf 1 = .ok (.getfield 11, 3) := by decide +kernel
theorem dX10_floorOf_4 : decode cX10_floorOf 4 = .ok (.iconst 0, 1) := by decide +kernel
theorem dX10_floorOf_5 : decode cX10_floorOf 5 = .ok (.iload_n 1, 1) := by decide +kernel
theorem dX10_floorOf_6 : decode cX10_floorOf 6 = .ok (.iadd, 1) := by decide +kernel
theorem dX10_floorOf_7 : decode cX10_floorOf 7 = .ok (.iaload, 1) := by decide +kernel
theorem dX10_floorOf_8 : decode cX10_floorOf 8 = .ok (.tableswitch 55 1 3 #[28, 31, 42], 28) := by decide +kernel
theorem dX10_floorOf_36 : decode cX10_floorOf 36 = .ok (.bipush 10, 2) := by decide +kernel
theorem dX10_floorOf_38 : decode cX10_floorOf 38 = .ok (.ireturn, 1) := by decide +kernel
theorem dX10_floorOf_39 : decode cX10_floorOf 39 = .ok (.aload_n 0, 1) := by decide +kernel
theorem dX10_floorOf_40 : decode cX10_floorOf 40 = .ok (.getfield 11, 3) := by decide +kernel
theorem dX10_floorOf_43 : decode cX10_floorOf 43 = .ok (.bipush 16, 2) := by decide +kernel
theorem dX10_floorOf_45 : decode cX10_floorOf 45 = .ok (.iload_n 1, 1) := by decide +kernel
theorem dX10_floorOf_46 : decode cX10_floorOf 46 = .ok (.iadd, 1) := by decide +kernel
theorem dX10_floorOf_47 : decode cX10_floorOf 47 = .ok (.iaload, 1) := by decide +kernel
theorem dX10_floorOf_48 : decode cX10_floorOf 48 = .ok (.ineg, 1) := by decide +kernel
theorem dX10_floorOf_49 : decode cX10_floorOf 49 = .ok (.ireturn, 1) := by decide +kernel
theorem dX10_floorOf_50 : decode cX10_floorOf 50 = .ok (.bipush (-2), 2) := by decide +kernel
theorem dX10_floorOf_52 : decode cX10_floorOf 52 = .ok (.aload_n 0, 1) := by decide +kernel
theorem dX10_floorOf_53 : decode cX10_floorOf 53 = .ok (.getfield 11, 3) := by decide +kernel
theorem dX10_floorOf_56 : decode cX10_floorOf 56 = .ok (.bipush 16, 2) := by decide +kernel
theorem dX10_floorOf_58 : decode cX10_floorOf 58 = .ok (.iload_n 1, 1) := by decide +kernel
theorem dX10_floorOf_59 : decode cX10_floorOf 59 = .ok (.iadd, 1) := by decide +kernel
theorem dX10_floorOf_60 : decode cX10_floorOf 60 = .ok (.iaload, 1) := by decide +kernel
theorem dX10_floorOf_61 : decode cX10_floorOf 61 = .ok (.imul, 1) := by decide +kernel
theorem dX10_floorOf_62 : decode cX10_floorOf 62 = .ok (.ireturn, 1) := by decide +kernel
theorem dX10_floorOf_63 : decode cX10_floorOf 63 = .ok (.iconst 0, 1) := by decide +kernel
theorem dX10_floorOf_64 : decode cX10_floorOf 64 = .ok (.ireturn, 1) := by decide +kernel
theorem dX10_told_0 : decode cX10_told 0 = .ok (.aload_n 0, 1) := by decide +kernel
theorem dX10_told_1 : decode cX10_told 1 = .ok (.iload_n 1, 1) := by decide +kernel
theorem dX10_told_2 : decode cX10_told 2 = .ok (.invokevirtual 75, 3) := by decide +kernel
theorem dX10_told_5 : decode cX10_told 5 = .ok (.ifCond .ne 6, 3) := by decide +kernel
theorem dX10_told_8 : decode cX10_told 8 = .ok (.bipush (-2), 2) := by decide +kernel
theorem dX10_told_10 : decode cX10_told 10 = .ok (.ireturn, 1) := by decide +kernel
theorem dX10_told_11 : decode cX10_told 11 = .ok (.iload_n 2, 1) := by decide +kernel
theorem dX10_told_12 : decode cX10_told 12 = .ok (.tableswitch 111 0 6 #[44, 53, 63, 73, 83, 93, 103], 44) := by decide +kernel
theorem dX10_told_56 : decode cX10_told 56 = .ok (.aload_n 0, 1) := by decide +kernel
theorem dX10_told_57 : decode cX10_told 57 = .ok (.getfield 11, 3) := by decide +kernel
theorem dX10_told_60 : decode cX10_told 60 = .ok (.iconst 0, 1) := by decide +kernel
theorem dX10_told_61 : decode cX10_told 61 = .ok (.iload_n 1, 1) := by decide +kernel
theorem dX10_told_62 : decode cX10_told 62 = .ok (.iadd, 1) := by decide +kernel
theorem dX10_told_63 : decode cX10_told 63 = .ok (.iaload, 1) := by decide +kernel
theorem dX10_told_64 : decode cX10_told 64 = .ok (.ireturn, 1) := by decide +kernel
theorem dX10_told_65 : decode cX10_told 65 = .ok (.aload_n 0, 1) := by decide +kernel
theorem dX10_told_66 : decode cX10_told 66 = .ok (.getfield 11, 3) := by decide +kernel
theorem dX10_told_69 : decode cX10_told 69 = .ok (.bipush 16, 2) := by decide +kernel
theorem dX10_told_71 : decode cX10_told 71 = .ok (.iload_n 1, 1) := by decide +kernel
theorem dX10_told_72 : decode cX10_told 72 = .ok (.iadd, 1) := by decide +kernel
theorem dX10_told_73 : decode cX10_told 73 = .ok (.iaload, 1) := by decide +kernel
theorem dX10_told_74 : decode cX10_told 74 = .ok (.ireturn, 1) := by decide +kernel
theorem dX10_told_75 : decode cX10_told 75 = .ok (.aload_n 0, 1) := by decide +kernel
theorem dX10_told_76 : decode cX10_told 76 = .ok (.getfield 11, 3) := by decide +kernel
theorem dX10_told_79 : decode cX10_told 79 = .ok (.bipush 24, 2) := by decide +kernel
theorem dX10_told_81 : decode cX10_told 81 = .ok (.iload_n 1, 1) := by decide +kernel
theorem dX10_told_82 : decode cX10_told 82 = .ok (.iadd, 1) := by decide +kernel
theorem dX10_told_83 : decode cX10_told 83 = .ok (.iaload, 1) := by decide +kernel
theorem dX10_told_84 : decode cX10_told 84 = .ok (.ireturn, 1) := by decide +kernel
theorem dX10_told_85 : decode cX10_told 85 = .ok (.aload_n 0, 1) := by decide +kernel
theorem dX10_told_86 : decode cX10_told 86 = .ok (.getfield 11, 3) := by decide +kernel
theorem dX10_told_89 : decode cX10_told 89 = .ok (.bipush 32, 2) := by decide +kernel
theorem dX10_told_91 : decode cX10_told 91 = .ok (.iload_n 1, 1) := by decide +kernel
theorem dX10_told_92 : decode cX10_told 92 = .ok (.iadd, 1) := by decide +kernel
theorem dX10_told_93 : decode cX10_told 93 = .ok (.iaload, 1) := by decide +kernel
theorem dX10_told_94 : decode cX10_told 94 = .ok (.ireturn, 1) := by decide +kernel
theorem dX10_told_95 : decode cX10_told 95 = .ok (.aload_n 0, 1) := by decide +kernel
theorem dX10_told_96 : decode cX10_told 96 = .ok (.getfield 11, 3) := by decide +kernel
theorem dX10_told_99 : decode cX10_told 99 = .ok (.bipush 40, 2) := by decide +kernel
theorem dX10_told_101 : decode cX10_told 101 = .ok (.iload_n 1, 1) := by decide +kernel
theorem dX10_told_102 : decode cX10_told 102 = .ok (.iadd, 1) := by decide +kernel
theorem dX10_told_103 : decode cX10_told 103 = .ok (.iaload, 1) := by decide +kernel
theorem dX10_told_104 : decode cX10_told 104 = .ok (.ireturn, 1) := by decide +kernel
theorem dX10_told_105 : decode cX10_told 105 = .ok (.aload_n 0, 1) := by decide +kernel
theorem dX10_told_106 : decode cX10_told 106 = .ok (.getfield 11, 3) := by decide +kernel
theorem dX10_told_109 : decode cX10_told 109 = .ok (.bipush 48, 2) := by decide +kernel
theorem dX10_told_111 : decode cX10_told 111 = .ok (.iload_n 1, 1) := by decide +kernel
theorem dX10_told_112 : decode cX10_told 112 = .ok (.iadd, 1) := by decide +kernel
theorem dX10_told_113 : decode cX10_told 113 = .ok (.iaload, 1) := by decide +kernel
theorem dX10_told_114 : decode cX10_told 114 = .ok (.ireturn, 1) := by decide +kernel
theorem dX10_told_115 : decode cX10_told 115 = .ok (.aload_n 0, 1) := by decide +kernel
theorem dX10_told_116 : decode cX10_told 116 = .ok (.iload_n 1, 1) := by decide +kernel
theorem dX10_told_117 : decode cX10_told 117 = .ok (.bipush 100, 2) := by decide +kernel
theorem dX10_told_119 : decode cX10_told 119 = .ok (.invokevirtual 83, 3) := by decide +kernel
theorem dX10_told_122 : decode cX10_told 122 = .ok (.ireturn, 1) := by decide +kernel
theorem dX10_told_123 : decode cX10_told 123 = .ok (.bipush (-2), 2) := by decide +kernel
theorem dX10_told_125 : decode cX10_told 125 = .ok (.ireturn, 1) := by decide +kernel
theorem dX10_owedTo_0 : decode cX10_owedTo 0 = .ok (.aload_n 0, 1) := by decide +kernel
theorem dX10_owedTo_1 : decode cX10_owedTo 1 = .ok (.getfield 11, 3) := by decide +kernel
theorem dX10_owedTo_4 : decode cX10_owedTo 4 = .ok (.bipush 61, 2) := by decide +kernel
theorem dX10_owedTo_6 : decode cX10_owedTo 6 = .ok (.bipush 8, 2) := by decide +kernel
theorem dX10_owedTo_8 : decode cX10_owedTo 8 = .ok (.iload_n 1, 1) := by decide +kernel
theorem dX10_owedTo_9 : decode cX10_owedTo 9 = .ok (.imul, 1) := by decide +kernel
theorem dX10_owedTo_10 : decode cX10_owedTo 10 = .ok (.iadd, 1) := by decide +kernel
theorem dX10_owedTo_11 : decode cX10_owedTo 11 = .ok (.iload_n 2, 1) := by decide +kernel
theorem dX10_owedTo_12 : decode cX10_owedTo 12 = .ok (.iadd, 1) := by decide +kernel
theorem dX10_owedTo_13 : decode cX10_owedTo 13 = .ok (.iaload, 1) := by decide +kernel
theorem dX10_owedTo_14 : decode cX10_owedTo 14 = .ok (.ireturn, 1) := by decide +kernel
theorem dX10_positionOf_0 : decode cX10_positionOf 0 = .ok (.lconst 0, 1) := by decide +kernel
theorem dX10_positionOf_1 : decode cX10_positionOf 1 = .ok (.lstore_n 2, 1) := by decide +kernel
theorem dX10_positionOf_2 : decode cX10_positionOf 2 = .ok (.iconst 0, 1) := by decide +kernel
theorem dX10_positionOf_3 : decode cX10_positionOf 3 = .ok (.istore 4, 2) := by decide +kernel
theorem dX10_positionOf_5 : decode cX10_positionOf 5 = .ok (.iload 4, 2) := by decide +kernel
theorem dX10_positionOf_7 : decode cX10_positionOf 7 = .ok (.aload_n 0, 1) := by decide +kernel
theorem dX10_positionOf_8 : decode cX10_positionOf 8 = .ok (.getfield 11, 3) := by decide +kernel
theorem dX10_positionOf_11 : decode cX10_positionOf 11 = .ok (.bipush 60, 2) := by decide +kernel
theorem dX10_positionOf_13 : decode cX10_positionOf 13 = .ok (.iaload, 1) := by decide +kernel
theorem dX10_positionOf_14 : decode cX10_positionOf 14 = .ok (.if_icmp .ge 28, 3) := by decide +kernel
theorem dX10_positionOf_17 : decode cX10_positionOf 17 = .ok (.lload_n 2, 1) := by decide +kernel
theorem dX10_positionOf_18 : decode cX10_positionOf 18 = .ok (.aload_n 0, 1) := by decide +kernel
theorem dX10_positionOf_19 : decode cX10_positionOf 19 = .ok (.iload 4, 2) := by decide +kernel
theorem dX10_positionOf_21 : decode cX10_positionOf 21 = .ok (.iload_n 1, 1) := by decide +kernel
theorem dX10_positionOf_22 : decode cX10_positionOf 22 = .ok (.invokevirtual 87, 3) := by decide +kernel
theorem dX10_positionOf_25 : decode cX10_positionOf 25 = .ok (.aload_n 0, 1) := by decide +kernel
theorem dX10_positionOf_26 : decode cX10_positionOf 26 = .ok (.iload_n 1, 1) := by decide +kernel
theorem dX10_positionOf_27 : decode cX10_positionOf 27 = .ok (.iload 4, 2) := by decide +kernel
theorem dX10_positionOf_29 : decode cX10_positionOf 29 = .ok (.invokevirtual 87, 3) := by decide +kernel
theorem dX10_positionOf_32 : decode cX10_positionOf 32 = .ok (.isub, 1) := by decide +kernel
theorem dX10_positionOf_33 : decode cX10_positionOf 33 = .ok (.i2l, 1) := by decide +kernel
theorem dX10_positionOf_34 : decode cX10_positionOf 34 = .ok (.ladd, 1) := by decide +kernel
theorem dX10_positionOf_35 : decode cX10_positionOf 35 = .ok (.lstore_n 2, 1) := by decide +kernel
theorem dX10_positionOf_36 : decode cX10_positionOf 36 = .ok (.iinc 4 1, 3) := by decide +kernel
theorem dX10_positionOf_39 : decode cX10_positionOf 39 = .ok (.goto (-34), 3) := by decide +kernel
theorem dX10_positionOf_42 : decode cX10_positionOf 42 = .ok (.lload_n 2, 1) := by decide +kernel
theorem dX10_positionOf_43 : decode cX10_positionOf 43 = .ok (.lreturn, 1) := by decide +kernel
theorem dX10_of_0 : decode cX10_of 0 = .ok (.aload_n 0, 1) := by decide +kernel
theorem dX10_of_1 : decode cX10_of 1 = .ok (.iload_n 1, 1) := by decide +kernel
theorem dX10_of_2 : decode cX10_of 2 = .ok (.invokevirtual 75, 3) := by decide +kernel
theorem dX10_of_5 : decode cX10_of 5 = .ok (.ifCond .eq 15, 3) := by decide +kernel
theorem dX10_of_8 : decode cX10_of 8 = .ok (.iload_n 2, 1) := by decide +kernel
theorem dX10_of_9 : decode cX10_of 9 = .ok (.i2l, 1) := by decide +kernel
theorem dX10_of_10 : decode cX10_of 10 = .ok (.lconst 0, 1) := by decide +kernel
theorem dX10_of_11 : decode cX10_of 11 = .ok (.ldc2_w 90, 3) := by decide +kernel
theorem dX10_of_14 : decode cX10_of 14 = .ok (.invokestatic 67, 3) := by decide +kernel
theorem dX10_of_17 : decode cX10_of 17 = .ok (.ifCond .ne 7, 3) := by decide +kernel
theorem dX10_of_20 : decode cX10_of 20 = .ok (.ldc2_w 81, 3) := by decide +kernel
theorem dX10_of_23 : decode cX10_of 23 = .ok (.lreturn, 1) := by decide +kernel
theorem dX10_of_24 : decode cX10_of 24 = .ok (.iload_n 2, 1) := by decide +kernel
theorem dX10_of_25 : decode cX10_of 25 = .ok (.ifCond .ne 16, 3) := by decide +kernel
theorem dX10_of_28 : decode cX10_of 28 = .ok (.aload_n 0, 1) := by decide +kernel
theorem dX10_of_29 : decode cX10_of 29 = .ok (.getfield 11, 3) := by decide +kernel
theorem dX10_of_32 : decode cX10_of 32 = .ok (.bipush 8, 2) := by decide +kernel
theorem dX10_of_34 : decode cX10_of 34 = .ok (.iload_n 1, 1) := by decide +kernel
theorem dX10_of_35 : decode cX10_of 35 = .ok (.iadd, 1) := by decide +kernel
theorem dX10_of_36 : decode cX10_of 36 = .ok (.iaload, 1) := by decide +kernel
theorem dX10_of_37 : decode cX10_of 37 = .ok (.i2l, 1) := by decide +kernel
theorem dX10_of_38 : decode cX10_of 38 = .ok (.goto 22, 3) := by decide +kernel
theorem dX10_of_41 : decode cX10_of 41 = .ok (.iload_n 2, 1) := by decide +kernel
theorem dX10_of_42 : decode cX10_of 42 = .ok (.iconst 1, 1) := by decide +kernel
theorem dX10_of_43 : decode cX10_of 43 = .ok (.if_icmp .ne 12, 3) := by decide +kernel
theorem dX10_of_46 : decode cX10_of 46 = .ok (.aload_n 0, 1) := by decide +kernel
theorem dX10_of_47 : decode cX10_of 47 = .ok (.iload_n 1, 1) := by decide +kernel
theorem dX10_of_48 : decode cX10_of 48 = .ok (.invokevirtual 92, 3) := by decide +kernel
theorem dX10_of_51 : decode cX10_of 51 = .ok (.i2l, 1) := by decide +kernel
theorem dX10_of_52 : decode cX10_of 52 = .ok (.goto 8, 3) := by decide +kernel
theorem dX10_of_55 : decode cX10_of 55 = .ok (.aload_n 0, 1) := by decide +kernel
theorem dX10_of_56 : decode cX10_of 56 = .ok (.iload_n 1, 1) := by decide +kernel
theorem dX10_of_57 : decode cX10_of 57 = .ok (.invokevirtual 96, 3) := by decide +kernel
theorem dX10_of_60 : decode cX10_of 60 = .ok (.lreturn, 1) := by decide +kernel
theorem dX10_count_0 : decode cX10_count 0 = .ok (.iload_n 1, 1) := by decide +kernel
theorem dX10_count_1 : decode cX10_count 1 = .ok (.tableswitch 102 0 7 #[47, 55, 60, 68, 76, 84, 92, 97], 47) := by decide +kernel
theorem dX10_count_48 : decode cX10_count 48 = .ok (.aload_n 0, 1) := by decide +kernel
theorem dX10_count_49 : decode cX10_count 49 = .ok (.getfield 11, 3) := by decide +kernel
theorem dX10_count_52 : decode cX10_count 52 = .ok (.bipush 60, 2) := by decide +kernel
theorem dX10_count_54 : decode cX10_count 54 = .ok (.iaload, 1) := by decide +kernel
theorem dX10_count_55 : decode cX10_count 55 = .ok (.ireturn, 1) := by decide +kernel
theorem dX10_count_56 : decode cX10_count 56 = .ok (.aload_n 0, 1) := by decide +kernel
theorem dX10_count_57 : decode cX10_count 57 = .ok (.getfield 100, 3) := by decide +kernel
theorem dX10_count_60 : decode cX10_count 60 = .ok (.ireturn, 1) := by decide +kernel
theorem dX10_count_61 : decode cX10_count 61 = .ok (.aload_n 0, 1) := by decide +kernel
theorem dX10_count_62 : decode cX10_count 62 = .ok (.getfield 11, 3) := by decide +kernel
theorem dX10_count_65 : decode cX10_count 65 = .ok (.bipush 56, 2) := by decide +kernel
theorem dX10_count_67 : decode cX10_count 67 = .ok (.iaload, 1) := by decide +kernel
theorem dX10_count_68 : decode cX10_count 68 = .ok (.ireturn, 1) := by decide +kernel
theorem dX10_count_69 : decode cX10_count 69 = .ok (.aload_n 0, 1) := by decide +kernel
theorem dX10_count_70 : decode cX10_count 70 = .ok (.getfield 11, 3) := by decide +kernel
theorem dX10_count_73 : decode cX10_count 73 = .ok (.bipush 57, 2) := by decide +kernel
theorem dX10_count_75 : decode cX10_count 75 = .ok (.iaload, 1) := by decide +kernel
theorem dX10_count_76 : decode cX10_count 76 = .ok (.ireturn, 1) := by decide +kernel
theorem dX10_count_77 : decode cX10_count 77 = .ok (.aload_n 0, 1) := by decide +kernel
theorem dX10_count_78 : decode cX10_count 78 = .ok (.getfield 11, 3) := by decide +kernel
theorem dX10_count_81 : decode cX10_count 81 = .ok (.bipush 58, 2) := by decide +kernel
theorem dX10_count_83 : decode cX10_count 83 = .ok (.iaload, 1) := by decide +kernel
theorem dX10_count_84 : decode cX10_count 84 = .ok (.ireturn, 1) := by decide +kernel
theorem dX10_count_85 : decode cX10_count 85 = .ok (.aload_n 0, 1) := by decide +kernel
theorem dX10_count_86 : decode cX10_count 86 = .ok (.getfield 11, 3) := by decide +kernel
theorem dX10_count_89 : decode cX10_count 89 = .ok (.bipush 59, 2) := by decide +kernel
theorem dX10_count_91 : decode cX10_count 91 = .ok (.iaload, 1) := by decide +kernel
theorem dX10_count_92 : decode cX10_count 92 = .ok (.ireturn, 1) := by decide +kernel
theorem dX10_count_93 : decode cX10_count 93 = .ok (.aload_n 0, 1) := by decide +kernel
theorem dX10_count_94 : decode cX10_count 94 = .ok (.getfield 104, 3) := by decide +kernel
theorem dX10_count_97 : decode cX10_count 97 = .ok (.ireturn, 1) := by decide +kernel
theorem dX10_count_98 : decode cX10_count 98 = .ok (.aload_n 0, 1) := by decide +kernel
theorem dX10_count_99 : decode cX10_count 99 = .ok (.getfield 107, 3) := by decide +kernel
theorem dX10_count_102 : decode cX10_count 102 = .ok (.ireturn, 1) := by decide +kernel
theorem dX10_count_103 : decode cX10_count 103 = .ok (.bipush (-2), 2) := by decide +kernel
theorem dX10_count_105 : decode cX10_count 105 = .ok (.ireturn, 1) := by decide +kernel
theorem dX10_sum_0 : decode cX10_sum 0 = .ok (.iload_n 1, 1) := by decide +kernel
theorem dX10_sum_1 : decode cX10_sum 1 = .ok (.i2l, 1) := by decide +kernel
theorem dX10_sum_2 : decode cX10_sum 2 = .ok (.lconst 0, 1) := by decide +kernel
theorem dX10_sum_3 : decode cX10_sum 3 = .ok (.ldc2_w 90, 3) := by decide +kernel
theorem dX10_sum_6 : decode cX10_sum 6 = .ok (.invokestatic 67, 3) := by decide +kernel
theorem dX10_sum_9 : decode cX10_sum 9 = .ok (.ifCond .ne 7, 3) := by decide +kernel
theorem dX10_sum_12 : decode cX10_sum 12 = .ok (.ldc2_w 81, 3) := by decide +kernel
theorem dX10_sum_15 : decode cX10_sum 15 = .ok (.lreturn, 1) := by decide +kernel
theorem dX10_sum_16 : decode cX10_sum 16 = .ok (.iload_n 1, 1) := by decide +kernel
theorem dX10_sum_17 : decode cX10_sum 17 = .ok (.iconst 2, 1) := by decide +kernel
theorem dX10_sum_18 : decode cX10_sum 18 = .ok (.if_icmp .ne 7, 3) := by decide +kernel
theorem dX10_sum_21 : decode cX10_sum 21 = .ok (.lconst 0, 1) := by decide +kernel
theorem dX10_sum_22 : decode cX10_sum 22 = .ok (.goto 7, 3) := by decide +kernel
theorem dX10_sum_25 : decode cX10_sum 25 = .ok (.aload_n 0, 1) := by decide +kernel
theorem dX10_sum_26 : decode cX10_sum 26 = .ok (.getfield 110, 3) := by decide +kernel
theorem dX10_sum_29 : decode cX10_sum 29 = .ok (.lstore_n 2, 1) := by decide +kernel
theorem dX10_sum_30 : decode cX10_sum 30 = .ok (.iconst 0, 1) := by decide +kernel
theorem dX10_sum_31 : decode cX10_sum 31 = .ok (.istore 4, 2) := by decide +kernel
theorem dX10_sum_33 : decode cX10_sum 33 = .ok (.iload 4, 2) := by decide +kernel
theorem dX10_sum_35 : decode cX10_sum 35 = .ok (.aload_n 0, 1) := by decide +kernel
theorem dX10_sum_36 : decode cX10_sum 36 = .ok (.getfield 11, 3) := by decide +kernel
theorem dX10_sum_39 : decode cX10_sum 39 = .ok (.bipush 60, 2) := by decide +kernel
theorem dX10_sum_41 : decode cX10_sum 41 = .ok (.iaload, 1) := by decide +kernel
theorem dX10_sum_42 : decode cX10_sum 42 = .ok (.if_icmp .ge 28, 3) := by decide +kernel
theorem dX10_sum_45 : decode cX10_sum 45 = .ok (.iload_n 1, 1) := by decide +kernel
theorem dX10_sum_46 : decode cX10_sum 46 = .ok (.iconst 1, 1) := by decide +kernel
theorem dX10_sum_47 : decode cX10_sum 47 = .ok (.if_icmp .ne 23, 3) := by decide +kernel
theorem dX10_sum_50 : decode cX10_sum 50 = .ok (.lload_n 2, 1) := by decide +kernel
theorem dX10_sum_51 : decode cX10_sum 51 = .ok (.aload_n 0, 1) := by decide +kernel
theorem dX10_sum_52 : decode cX10_sum 52 = .ok (.getfield 11, 3) := by decide +kernel
theorem dX10_sum_55 : decode cX10_sum 55 = .ok (.bipush 8, 2) := by decide +kernel
theorem dX10_sum_57 : decode cX10_sum 57 = .ok (.iload 4, 2) := by decide +kernel
theorem dX10_sum_59 : decode cX10_sum 59 = .ok (.iadd, 1) := by decide +kernel
theorem dX10_sum_60 : decode cX10_sum 60 = .ok (.iaload, 1) := by decide +kernel
theorem dX10_sum_61 : decode cX10_sum 61 = .ok (.i2l, 1) := by decide +kernel
theorem dX10_sum_62 : decode cX10_sum 62 = .ok (.ladd, 1) := by decide +kernel
theorem dX10_sum_63 : decode cX10_sum 63 = .ok (.lstore_n 2, 1) := by decide +kernel
theorem dX10_sum_64 : decode cX10_sum 64 = .ok (.iinc 4 1, 3) := by decide +kernel
theorem dX10_sum_67 : decode cX10_sum 67 = .ok (.goto (-34), 3) := by decide +kernel
theorem dX10_sum_70 : decode cX10_sum 70 = .ok (.iconst 0, 1) := by decide +kernel
theorem dX10_sum_71 : decode cX10_sum 71 = .ok (.istore 4, 2) := by decide +kernel
theorem dX10_sum_73 : decode cX10_sum 73 = .ok (.iload 4, 2) := by decide +kernel
theorem dX10_sum_75 : decode cX10_sum 75 = .ok (.bipush 64, 2) := by decide +kernel
theorem dX10_sum_77 : decode cX10_sum 77 = .ok (.if_icmp .ge 28, 3) := by decide +kernel
theorem dX10_sum_80 : decode cX10_sum 80 = .ok (.iload_n 1, 1) := by decide +kernel
theorem dX10_sum_81 : decode cX10_sum 81 = .ok (.iconst 2, 1) := by decide +kernel
theorem dX10_sum_82 : decode cX10_sum 82 = .ok (.if_icmp .ne 23, 3) := by decide +kernel
theorem dX10_sum_85 : decode cX10_sum 85 = .ok (.lload_n 2, 1) := by decide +kernel
theorem dX10_sum_86 : decode cX10_sum 86 = .ok (.aload_n 0, 1) := by decide +kernel
theorem dX10_sum_87 : decode cX10_sum 87 = .ok (.getfield 11, 3) := by decide +kernel
theorem dX10_sum_90 : decode cX10_sum 90 = .ok (.bipush 61, 2) := by decide +kernel
theorem dX10_sum_92 : decode cX10_sum 92 = .ok (.iload 4, 2) := by decide +kernel
theorem dX10_sum_94 : decode cX10_sum 94 = .ok (.iadd, 1) := by decide +kernel
theorem dX10_sum_95 : decode cX10_sum 95 = .ok (.iaload, 1) := by decide +kernel
theorem dX10_sum_96 : decode cX10_sum 96 = .ok (.i2l, 1) := by decide +kernel
theorem dX10_sum_97 : decode cX10_sum 97 = .ok (.ladd, 1) := by decide +kernel
theorem dX10_sum_98 : decode cX10_sum 98 = .ok (.lstore_n 2, 1) := by decide +kernel
theorem dX10_sum_99 : decode cX10_sum 99 = .ok (.iinc 4 1, 3) := by decide +kernel
theorem dX10_sum_102 : decode cX10_sum 102 = .ok (.goto (-29), 3) := by decide +kernel
theorem dX10_sum_105 : decode cX10_sum 105 = .ok (.lload_n 2, 1) := by decide +kernel
theorem dX10_sum_106 : decode cX10_sum 106 = .ok (.lreturn, 1) := by decide +kernel
theorem dX10_above_0 : decode cX10_above 0 = .ok (.iload_n 0, 1) := by decide +kernel
theorem dX10_above_1 : decode cX10_above 1 = .ok (.iconst 3, 1) := by decide +kernel
theorem dX10_above_2 : decode cX10_above 2 = .ok (.if_icmp .ne 7, 3) := by decide +kernel
theorem dX10_above_5 : decode cX10_above 5 = .ok (.iconst 2, 1) := by decide +kernel
theorem dX10_above_6 : decode cX10_above 6 = .ok (.goto 13, 3) := by decide +kernel
theorem dX10_above_9 : decode cX10_above 9 = .ok (.iload_n 0, 1) := by decide +kernel
theorem dX10_above_10 : decode cX10_above 10 = .ok (.iconst 4, 1) := by decide +kernel
theorem dX10_above_11 : decode cX10_above 11 = .ok (.if_icmp .ne 7, 3) := by decide +kernel
theorem dX10_above_14 : decode cX10_above 14 = .ok (.iconst 1, 1) := by decide +kernel
theorem dX10_above_15 : decode cX10_above 15 = .ok (.goto 4, 3) := by decide +kernel
theorem dX10_above_18 : decode cX10_above 18 = .ok (.iconst 0, 1) := by decide +kernel
theorem dX10_above_19 : decode cX10_above 19 = .ok (.ireturn, 1) := by decide +kernel
theorem dX10_taken_0 : decode cX10_taken 0 = .ok (.aload_n 0, 1) := by decide +kernel
theorem dX10_taken_1 : decode cX10_taken 1 = .ok (.iload_n 1, 1) := by decide +kernel
theorem dX10_taken_2 : decode cX10_taken 2 = .ok (.invokevirtual 75, 3) := by decide +kernel
theorem dX10_taken_5 : decode cX10_taken 5 = .ok (.ifCond .eq 15, 3) := by decide +kernel
theorem dX10_taken_8 : decode cX10_taken 8 = .ok (.iload_n 2, 1) := by decide +kernel
theorem dX10_taken_9 : decode cX10_taken 9 = .ok (.i2l, 1) := by decide +kernel
theorem dX10_taken_10 : decode cX10_taken 10 = .ok (.lconst 0, 1) := by decide +kernel
theorem dX10_taken_11 : decode cX10_taken 11 = .ok (.ldc2_w 71, 3) := by decide +kernel
theorem dX10_taken_14 : decode cX10_taken 14 = .ok (.invokestatic 67, 3) := by decide +kernel
theorem dX10_taken_17 : decode cX10_taken 17 = .ok (.ifCond .ne 6, 3) := by decide +kernel
theorem dX10_taken_20 : decode cX10_taken 20 = .ok (.bipush (-2), 2) := by decide +kernel
theorem dX10_taken_22 : decode cX10_taken 22 = .ok (.ireturn, 1) := by decide +kernel
theorem dX10_taken_23 : decode cX10_taken 23 = .ok (.aload_n 0, 1) := by decide +kernel
theorem dX10_taken_24 : decode cX10_taken 24 = .ok (.getfield 11, 3) := by decide +kernel
theorem dX10_taken_27 : decode cX10_taken 27 = .ok (.iconst 0, 1) := by decide +kernel
theorem dX10_taken_28 : decode cX10_taken 28 = .ok (.iload_n 1, 1) := by decide +kernel
theorem dX10_taken_29 : decode cX10_taken 29 = .ok (.iadd, 1) := by decide +kernel
theorem dX10_taken_30 : decode cX10_taken 30 = .ok (.iaload, 1) := by decide +kernel
theorem dX10_taken_31 : decode cX10_taken 31 = .ok (.istore_n 3, 1) := by decide +kernel
theorem dX10_taken_32 : decode cX10_taken 32 = .ok (.iload_n 3, 1) := by decide +kernel
theorem dX10_taken_33 : decode cX10_taken 33 = .ok (.iload_n 2, 1) := by decide +kernel
theorem dX10_taken_34 : decode cX10_taken 34 = .ok (.if_icmp .eq 15, 3) := by decide +kernel
theorem dX10_taken_37 : decode cX10_taken 37 = .ok (.iload_n 3, 1) := by decide +kernel
theorem dX10_taken_38 : decode cX10_taken 38 = .ok (.ifCond .eq 11, 3) := by decide +kernel
theorem dX10_taken_41 : decode cX10_taken 41 = .ok (.iload_n 3, 1) := by decide +kernel
theorem dX10_taken_42 : decode cX10_taken 42 = .ok (.invokestatic 114, 3) := by decide +kernel
theorem dX10_taken_45 : decode cX10_taken 45 = .ok (.istore_n 3, 1) := by decide +kernel
theorem dX10_taken_46 : decode cX10_taken 46 = .ok (.goto (-14), 3) := by decide +kernel
theorem dX10_taken_49 : decode cX10_taken 49 = .ok (.iload_n 3, 1) := by decide +kernel
theorem dX10_taken_50 : decode cX10_taken 50 = .ok (.iload_n 2, 1) := by decide +kernel
theorem dX10_taken_51 : decode cX10_taken 51 = .ok (.if_icmp .ne 15, 3) := by decide +kernel
theorem dX10_taken_54 : decode cX10_taken 54 = .ok (.aload_n 0, 1) := by decide +kernel
theorem dX10_taken_55 : decode cX10_taken 55 = .ok (.getfield 11, 3) := by decide +kernel
theorem dX10_taken_58 : decode cX10_taken 58 = .ok (.bipush 16, 2) := by decide +kernel
theorem dX10_taken_60 : decode cX10_taken 60 = .ok (.iload_n 1, 1) := by decide +kernel
theorem dX10_taken_61 : decode cX10_taken 61 = .ok (.iadd, 1) := by decide +kernel
theorem dX10_taken_62 : decode cX10_taken 62 = .ok (.iaload, 1) := by decide +kernel
theorem dX10_taken_63 : decode cX10_taken 63 = .ok (.goto 5, 3) := by decide +kernel
theorem dX10_taken_66 : decode cX10_taken 66 = .ok (.bipush (-13), 2) := by decide +kernel
theorem dX10_taken_68 : decode cX10_taken 68 = .ok (.ireturn, 1) := by decide +kernel
theorem dX10_isByte_0 : decode cX10_isByte 0 = .ok (.iload_n 0, 1) := by decide +kernel
theorem dX10_isByte_1 : decode cX10_isByte 1 = .ok (.i2l, 1) := by decide +kernel
theorem dX10_isByte_2 : decode cX10_isByte 2 = .ok (.lconst 0, 1) := by decide +kernel
theorem dX10_isByte_3 : decode cX10_isByte 3 = .ok (.ldc2_w 117, 3) := by decide +kernel
theorem dX10_isByte_6 : decode cX10_isByte 6 = .ok (.invokestatic 67, 3) := by decide +kernel
theorem dX10_isByte_9 : decode cX10_isByte 9 = .ok (.ireturn, 1) := by decide +kernel
theorem dX10_feed_0 : decode cX10_feed 0 = .ok (.iload_n 1, 1) := by decide +kernel
theorem dX10_feed_1 : decode cX10_feed 1 = .ok (.i2l, 1) := by decide +kernel
theorem dX10_feed_2 : decode cX10_feed 2 = .ok (.lconst 1, 1) := by decide +kernel
theorem dX10_feed_3 : decode cX10_feed 3 = .ok (.ldc2_w 119, 3) := by decide +kernel
theorem dX10_feed_6 : decode cX10_feed 6 = .ok (.invokestatic 67, 3) := by decide +kernel
theorem dX10_feed_9 : decode cX10_feed 9 = .ok (.ifCond .eq 41, 3) := by decide +kernel
theorem dX10_feed_12 : decode cX10_feed 12 = .ok (.iload_n 2, 1) := by decide +kernel
theorem dX10_feed_13 : decode cX10_feed 13 = .ok (.invokestatic 121, 3) := by decide +kernel
theorem dX10_feed_16 : decode cX10_feed 16 = .ok (.ifCond .eq 34, 3) := by decide +kernel
theorem dX10_feed_19 : decode cX10_feed 19 = .ok (.iload_n 3, 1) := by decide +kernel
theorem dX10_feed_20 : decode cX10_feed 20 = .ok (.invokestatic 121, 3) := by decide +kernel
theorem dX10_feed_23 : decode cX10_feed 23 = .ok (.ifCond .eq 27, 3) := by decide +kernel
theorem dX10_feed_26 : decode cX10_feed 26 = .ok (.iload 4, 2) := by decide +kernel
theorem dX10_feed_28 : decode cX10_feed 28 = .ok (.invokestatic 121, 3) := by decide +kernel
theorem dX10_feed_31 : decode cX10_feed 31 = .ok (.ifCond .eq 19, 3) := by decide +kernel
theorem dX10_feed_34 : decode cX10_feed 34 = .ok (.iload 5, 2) := by decide +kernel
theorem dX10_feed_36 : decode cX10_feed 36 = .ok (.invokestatic 121, 3) := by decide +kernel
theorem dX10_feed_39 : decode cX10_feed 39 = .ok (.ifCond .eq 11, 3) := by decide +kernel
theorem dX10_feed_42 : decode cX10_feed 42 = .ok (.iload 6, 2) := by decide +kernel
theorem dX10_feed_44 : decode cX10_feed 44 = .ok (.invokestatic 121, 3) := by decide +kernel
theorem dX10_feed_47 : decode cX10_feed 47 = .ok (.ifCond .ne 6, 3) := by decide +kernel
theorem dX10_feed_50 : decode cX10_feed 50 = .ok (.bipush (-2), 2) := by decide +kernel
theorem dX10_feed_52 : decode cX10_feed 52 = .ok (.ireturn, 1) := by decide +kernel
theorem dX10_feed_53 : decode cX10_feed 53 = .ok (.aload_n 0, 1) := by decide +kernel
theorem dX10_feed_54 : decode cX10_feed 54 = .ok (.getfield 107, 3) := by decide +kernel
theorem dX10_feed_57 : decode cX10_feed 57 = .ok (.iload_n 1, 1) := by decide +kernel
theorem dX10_feed_58 : decode cX10_feed 58 = .ok (.iadd, 1) := by decide +kernel
theorem dX10_feed_59 : decode cX10_feed 59 = .ok (.bipush 80, 2) := by decide +kernel
theorem dX10_feed_61 : decode cX10_feed 61 = .ok (.if_icmp .le 6, 3) := by decide +kernel
theorem dX10_feed_64 : decode cX10_feed 64 = .ok (.bipush (-4), 2) := by decide +kernel
theorem dX10_feed_66 : decode cX10_feed 66 = .ok (.ireturn, 1) := by decide +kernel
theorem dX10_feed_67 : decode cX10_feed 67 = .ok (.iconst 0, 1) := by decide +kernel
theorem dX10_feed_68 : decode cX10_feed 68 = .ok (.istore 7, 2) := by decide +kernel
theorem dX10_feed_70 : decode cX10_feed 70 = .ok (.iload 7, 2) := by decide +kernel
theorem dX10_feed_72 : decode cX10_feed 72 = .ok (.iload_n 1, 1) := by decide +kernel
theorem dX10_feed_73 : decode cX10_feed 73 = .ok (.if_icmp .ge 71, 3) := by decide +kernel
theorem dX10_feed_76 : decode cX10_feed 76 = .ok (.aload_n 0, 1) := by decide +kernel
theorem dX10_feed_77 : decode cX10_feed 77 = .ok (.getfield 21, 3) := by decide +kernel
theorem dX10_feed_80 : decode cX10_feed 80 = .ok (.aload_n 0, 1) := by decide +kernel
theorem dX10_feed_81 : decode cX10_feed 81 = .ok (.getfield 107, 3) := by decide +kernel
theorem dX10_feed_84 : decode cX10_feed 84 = .ok (.iload 7, 2) := by decide +kernel
theorem dX10_feed_86 : decode cX10_feed 86 = .ok (.ifCond .ne 7, 3) := by decide +kernel
theorem dX10_feed_89 : decode cX10_feed 89 = .ok (.iload_n 2, 1) := by decide +kernel
theorem dX10_feed_90 : decode cX10_feed 90 = .ok (.goto 37, 3) := by decide +kernel
theorem dX10_feed_93 : decode cX10_feed 93 = .ok (.iload 7, 2) := by decide +kernel
theorem dX10_feed_95 : decode cX10_feed 95 = .ok (.iconst 1, 1) := by decide +kernel
theorem dX10_feed_96 : decode cX10_feed 96 = .ok (.if_icmp .ne 7, 3) := by decide +kernel
theorem dX10_feed_99 : decode cX10_feed 99 = .ok (.iload_n 3, 1) := by decide +kernel
theorem dX10_feed_100 : decode cX10_feed 100 = .ok (.goto 27, 3) := by decide +kernel
theorem dX10_feed_103 : decode cX10_feed 103 = .ok (.iload 7, 2) := by decide +kernel
theorem dX10_feed_105 : decode cX10_feed 105 = .ok (.iconst 2, 1) := by decide +kernel
theorem dX10_feed_106 : decode cX10_feed 106 = .ok (.if_icmp .ne 8, 3) := by decide +kernel
theorem dX10_feed_109 : decode cX10_feed 109 = .ok (.iload 4, 2) := by decide +kernel
theorem dX10_feed_111 : decode cX10_feed 111 = .ok (.goto 16, 3) := by decide +kernel
theorem dX10_feed_114 : decode cX10_feed 114 = .ok (.iload 7, 2) := by decide +kernel
theorem dX10_feed_116 : decode cX10_feed 116 = .ok (.iconst 3, 1) := by decide +kernel
theorem dX10_feed_117 : decode cX10_feed 117 = .ok (.if_icmp .ne 8, 3) := by decide +kernel
theorem dX10_feed_120 : decode cX10_feed 120 = .ok (.iload 5, 2) := by decide +kernel
theorem dX10_feed_122 : decode cX10_feed 122 = .ok (.goto 5, 3) := by decide +kernel
theorem dX10_feed_125 : decode cX10_feed 125 = .ok (.iload 6, 2) := by decide +kernel
theorem dX10_feed_127 : decode cX10_feed 127 = .ok (.iastore, 1) := by decide +kernel
theorem dX10_feed_128 : decode cX10_feed 128 = .ok (.aload_n 0, 1) := by decide +kernel
theorem dX10_feed_129 : decode cX10_feed 129 = .ok (.dup, 1) := by decide +kernel
theorem dX10_feed_130 : decode cX10_feed 130 = .ok (.getfield 107, 3) := by decide +kernel
theorem dX10_feed_133 : decode cX10_feed 133 = .ok (.iconst 1, 1) := by decide +kernel
theorem dX10_feed_134 : decode cX10_feed 134 = .ok (.iadd, 1) := by decide +kernel
theorem dX10_feed_135 : decode cX10_feed 135 = .ok (.putfield 107, 3) := by decide +kernel
theorem dX10_feed_138 : decode cX10_feed 138 = .ok (.iinc 7 1, 3) := by decide +kernel
theorem dX10_feed_141 : decode cX10_feed 141 = .ok (.goto (-71), 3) := by decide +kernel
theorem dX10_feed_144 : decode cX10_feed 144 = .ok (.aload_n 0, 1) := by decide +kernel
theorem dX10_feed_145 : decode cX10_feed 145 = .ok (.getfield 107, 3) := by decide +kernel
theorem dX10_feed_148 : decode cX10_feed 148 = .ok (.ireturn, 1) := by decide +kernel
theorem dX10_byteAt_0 : decode cX10_byteAt 0 = .ok (.aload_n 0, 1) := by decide +kernel
theorem dX10_byteAt_1 : decode cX10_byteAt 1 = .ok (.getfield 124, 3) := by decide +kernel
theorem dX10_byteAt_4 : decode cX10_byteAt 4 = .ok (.aload_n 0, 1) := by decide +kernel
theorem dX10_byteAt_5 : decode cX10_byteAt 5 = .ok (.getfield 107, 3) := by decide +kernel
theorem dX10_byteAt_8 : decode cX10_byteAt 8 = .ok (.if_icmp .ge 15, 3) := by decide +kernel
theorem dX10_byteAt_11 : decode cX10_byteAt 11 = .ok (.aload_n 0, 1) := by decide +kernel
theorem dX10_byteAt_12 : decode cX10_byteAt 12 = .ok (.getfield 21, 3) := by decide +kernel
theorem dX10_byteAt_15 : decode cX10_byteAt 15 = .ok (.aload_n 0, 1) := by decide +kernel
theorem dX10_byteAt_16 : decode cX10_byteAt 16 = .ok (.getfield 124, 3) := by decide +kernel
theorem dX10_byteAt_19 : decode cX10_byteAt 19 = .ok (.iaload, 1) := by decide +kernel
theorem dX10_byteAt_20 : decode cX10_byteAt 20 = .ok (.goto 4, 3) := by decide +kernel
theorem dX10_byteAt_23 : decode cX10_byteAt 23 = .ok (.iconst (-1), 1) := by decide +kernel
theorem dX10_byteAt_24 : decode cX10_byteAt 24 = .ok (.ireturn, 1) := by decide +kernel
theorem dX10_takesFigure_0 : decode cX10_takesFigure 0 = .ok (.aload_n 0, 1) := by decide +kernel
theorem dX10_takesFigure_1 : decode cX10_takesFigure 1 = .ok (.invokevirtual 127, 3) := by decide +kernel
theorem dX10_takesFigure_4 : decode cX10_takesFigure 4 = .ok (.i2l, 1) := by decide +kernel
theorem dX10_takesFigure_5 : decode cX10_takesFigure 5 = .ok (.bipush 48, 2) := by decide +kernel
theorem dX10_takesFigure_7 : decode cX10_takesFigure 7 = .ok (.iload_n 1, 1) := by decide +kernel
theorem dX10_takesFigure_8 : decode cX10_takesFigure 8 = .ok (.iadd, 1) := by decide +kernel
theorem dX10_takesFigure_9 : decode cX10_takesFigure 9 = .ok (.i2l, 1) := by decide +kernel
theorem dX10_takesFigure_10 : decode cX10_takesFigure 10 = .ok (.bipush 48, 2) := by decide +kernel
theorem dX10_takesFigure_12 : decode cX10_takesFigure 12 = .ok (.iload_n 2, 1) := by decide +kernel
theorem dX10_takesFigure_13 : decode cX10_takesFigure 13 = .ok (.iadd, 1) := by decide +kernel
theorem dX10_takesFigure_14 : decode cX10_takesFigure 14 = .ok (.i2l, 1) := by decide +kernel
theorem dX10_takesFigure_15 : decode cX10_takesFigure 15 = .ok (.invokestatic 67, 3) := by decide +kernel
theorem dX10_takesFigure_18 : decode cX10_takesFigure 18 = .ok (.ifCond .ne 5, 3) := by decide +kernel
theorem dX10_takesFigure_21 : decode cX10_takesFigure 21 = .ok (.iconst 0, 1) := by decide +kernel
theorem dX10_takesFigure_22 : decode cX10_takesFigure 22 = .ok (.ireturn, 1) := by decide +kernel
theorem dX10_takesFigure_23 : decode cX10_takesFigure 23 = .ok (.aload_n 0, 1) := by decide +kernel
theorem dX10_takesFigure_24 : decode cX10_takesFigure 24 = .ok (.dup, 1) := by decide +kernel
theorem dX10_takesFigure_25 : decode cX10_takesFigure 25 = .ok (.getfield 124, 3) := by decide +kernel
theorem dX10_takesFigure_28 : decode cX10_takesFigure 28 = .ok (.iconst 1, 1) := by decide +kernel
theorem dX10_takesFigure_29 : decode cX10_takesFigure 29 = .ok (.iadd, 1) := by decide +kernel
theorem dX10_takesFigure_30 : decode cX10_takesFigure 30 = .ok (.putfield 124, 3) := by decide +kernel
theorem dX10_takesFigure_33 : decode cX10_takesFigure 33 = .ok (.iconst 1, 1) := by decide +kernel
theorem dX10_takesFigure_34 : decode cX10_takesFigure 34 = .ok (.ireturn, 1) := by decide +kernel
theorem dX10_takesBracket_0 : decode cX10_takesBracket 0 = .ok (.aload_n 0, 1) := by decide +kernel
theorem dX10_takesBracket_1 : decode cX10_takesBracket 1 = .ok (.getfield 131, 3) := by decide +kernel
theorem dX10_takesBracket_4 : decode cX10_takesBracket 4 = .ok (.bipush 8, 2) := by decide +kernel
theorem dX10_takesBracket_6 : decode cX10_takesBracket 6 = .ok (.if_icmp .ne 5, 3) := by decide +kernel
theorem dX10_takesBracket_9 : decode cX10_takesBracket 9 = .ok (.iconst 0, 1) := by decide +kernel
theorem dX10_takesBracket_10 : decode cX10_takesBracket 10 = .ok (.ireturn, 1) := by decide +kernel
theorem dX10_takesBracket_11 : decode cX10_takesBracket 11 = .ok (.aload_n 0, 1) := by decide +kernel
theorem dX10_takesBracket_12 : decode cX10_takesBracket 12 = .ok (.dup, 1) := by decide +kernel
theorem dX10_takesBracket_13 : decode cX10_takesBracket 13 = .ok (.getfield 131, 3) := by decide +kernel
theorem dX10_takesBracket_16 : decode cX10_takesBracket 16 = .ok (.iconst 1, 1) := by decide +kernel
theorem dX10_takesBracket_17 : decode cX10_takesBracket 17 = .ok (.iadd, 1) := by decide +kernel
theorem dX10_takesBracket_18 : decode cX10_takesBracket 18 = .ok (.putfield 131, 3) := by decide +kernel
theorem dX10_takesBracket_21 : decode cX10_takesBracket 21 = .ok (.aload_n 0, 1) := by decide +kernel
theorem dX10_takesBracket_22 : decode cX10_takesBracket 22 = .ok (.dup, 1) := by decide +kernel
theorem dX10_takesBracket_23 : decode cX10_takesBracket 23 = .ok (.getfield 124, 3) := by decide +kernel
theorem dX10_takesBracket_26 : decode cX10_takesBracket 26 = .ok (.iconst 1, 1) := by decide +kernel
theorem dX10_takesBracket_27 : decode cX10_takesBracket 27 = .ok (.iadd, 1) := by decide +kernel
theorem dX10_takesBracket_28 : decode cX10_takesBracket 28 = .ok (.putfield 124, 3) := by decide +kernel
theorem dX10_takesBracket_31 : decode cX10_takesBracket 31 = .ok (.iload_n 1, 1) := by decide +kernel
theorem dX10_takesBracket_32 : decode cX10_takesBracket 32 = .ok (.bipush 40, 2) := by decide +kernel
theorem dX10_takesBracket_34 : decode cX10_takesBracket 34 = .ok (.if_icmp .ne 13, 3) := by decide +kernel
theorem dX10_takesBracket_37 : decode cX10_takesBracket 37 = .ok (.aload_n 0, 1) := by decide +kernel
theorem dX10_takesBracket_38 : decode cX10_takesBracket 38 = .ok (.iconst 0, 1) := by decide +kernel
theorem dX10_takesBracket_39 : decode cX10_takesBracket 39 = .ok (.bipush 7, 2) := by decide +kernel
theorem dX10_takesBracket_41 : decode cX10_takesBracket 41 = .ok (.invokevirtual 134, 3) := by decide +kernel
theorem dX10_takesBracket_44 : decode cX10_takesBracket 44 = .ok (.ifCond .eq 19, 3) := by decide +kernel
theorem dX10_takesBracket_47 : decode cX10_takesBracket 47 = .ok (.iload_n 1, 1) := by decide +kernel
theorem dX10_takesBracket_48 : decode cX10_takesBracket 48 = .ok (.bipush 123, 2) := by decide +kernel
theorem dX10_takesBracket_50 : decode cX10_takesBracket 50 = .ok (.if_icmp .ne 15, 3) := by decide +kernel
theorem dX10_takesBracket_53 : decode cX10_takesBracket 53 = .ok (.aload_n 0, 1) := by decide +kernel
theorem dX10_takesBracket_54 : decode cX10_takesBracket 54 = .ok (.iconst 1, 1) := by decide +kernel
theorem dX10_takesBracket_55 : decode cX10_takesBracket 55 = .ok (.bipush 9, 2) := by decide +kernel
theorem dX10_takesBracket_57 : decode cX10_takesBracket 57 = .ok (.invokevirtual 134, 3) := by decide +kernel
theorem dX10_takesBracket_60 : decode cX10_takesBracket 60 = .ok (.ifCond .ne 5, 3) := by decide +kernel
theorem dX10_takesBracket_63 : decode cX10_takesBracket 63 = .ok (.iconst 0, 1) := by decide +kernel
theorem dX10_takesBracket_64 : decode cX10_takesBracket 64 = .ok (.ireturn, 1) := by decide +kernel
theorem dX10_takesBracket_65 : decode cX10_takesBracket 65 = .ok (.iload_n 1, 1) := by decide +kernel
theorem dX10_takesBracket_66 : decode cX10_takesBracket 66 = .ok (.bipush 40, 2) := by decide +kernel
theorem dX10_takesBracket_68 : decode cX10_takesBracket 68 = .ok (.if_icmp .ne 8, 3) := by decide +kernel
theorem dX10_takesBracket_71 : decode cX10_takesBracket 71 = .ok (.bipush 41, 2) := by decide +kernel
theorem dX10_takesBracket_73 : decode cX10_takesBracket 73 = .ok (.goto 27, 3) := by decide +kernel
theorem dX10_takesBracket_76 : decode cX10_takesBracket 76 = .ok (.iload_n 1, 1) := by decide +kernel
theorem dX10_takesBracket_77 : decode cX10_takesBracket 77 = .ok (.bipush 91, 2) := by decide +kernel
theorem dX10_takesBracket_79 : decode cX10_takesBracket 79 = .ok (.if_icmp .ne 8, 3) := by decide +kernel
theorem dX10_takesBracket_82 : decode cX10_takesBracket 82 = .ok (.bipush 93, 2) := by decide +kernel
theorem dX10_takesBracket_84 : decode cX10_takesBracket 84 = .ok (.goto 16, 3) := by decide +kernel
theorem dX10_takesBracket_87 : decode cX10_takesBracket 87 = .ok (.iload_n 1, 1) := by decide +kernel
theorem dX10_takesBracket_88 : decode cX10_takesBracket 88 = .ok (.bipush 60, 2) := by decide +kernel
theorem dX10_takesBracket_90 : decode cX10_takesBracket 90 = .ok (.if_icmp .ne 8, 3) := by decide +kernel
theorem dX10_takesBracket_93 : decode cX10_takesBracket 93 = .ok (.bipush 62, 2) := by decide +kernel
theorem dX10_takesBracket_95 : decode cX10_takesBracket 95 = .ok (.goto 5, 3) := by decide +kernel
theorem dX10_takesBracket_98 : decode cX10_takesBracket 98 = .ok (.bipush 125, 2) := by decide +kernel
theorem dX10_takesBracket_100 : decode cX10_takesBracket 100 = .ok (.istore_n 3, 1) := by decide +kernel
theorem dX10_takesBracket_101 : decode cX10_takesBracket 101 = .ok (.iload_n 2, 1) := by decide +kernel
theorem dX10_takesBracket_102 : decode cX10_takesBracket 102 = .ok (.ifCond .ne 9, 3) := by decide +kernel
theorem dX10_takesBracket_105 : decode cX10_takesBracket 105 = .ok (.iload_n 1, 1) := by decide +kernel
theorem dX10_takesBracket_106 : decode cX10_takesBracket 106 = .ok (.bipush 123, 2) := by decide +kernel
theorem dX10_takesBracket_108 : decode cX10_takesBracket 108 = .ok (.if_icmp .ne 7, 3) := by decide +kernel
theorem dX10_takesBracket_111 : decode cX10_takesBracket 111 = .ok (.iconst 1, 1) := by decide +kernel
theorem dX10_takesBracket_112 : decode cX10_takesBracket 112 = .ok (.goto 4, 3) := by decide +kernel
theorem dX10_takesBracket_115 : decode cX10_takesBracket 115 = .ok (.iconst 0, 1) := by decide +kernel
theorem dX10_takesBracket_116 : decode cX10_takesBracket 116 = .ok (.istore 4, 2) := by decide +kernel
theorem dX10_takesBracket_118 : decode cX10_takesBracket 118 = .ok (.aload_n 0, 1) := by decide +kernel
theorem dX10_takesBracket_119 : decode cX10_takesBracket 119 = .ok (.invokevirtual 127, 3) := by decide +kernel
theorem dX10_takesBracket_122 : decode cX10_takesBracket 122 = .ok (.iload_n 3, 1) := by decide +kernel
theorem dX10_takesBracket_123 : decode cX10_takesBracket 123 = .ok (.if_icmp .eq 14, 3) := by decide +kernel
theorem dX10_takesBracket_126 : decode cX10_takesBracket 126 = .ok (.aload_n 0, 1) := by decide +kernel
theorem dX10_takesBracket_127 : decode cX10_takesBracket 127 = .ok (.iload 4, 2) := by decide +kernel
theorem dX10_takesBracket_129 : decode cX10_takesBracket 129 = .ok (.invokevirtual 138, 3) := by decide +kernel
theorem dX10_takesBracket_132 : decode cX10_takesBracket 132 = .ok (.ifCond .ne (-14), 3) := by decide +kernel
theorem dX10_takesBracket_135 : decode cX10_takesBracket 135 = .ok (.iconst 0, 1) := by decide +kernel
theorem dX10_takesBracket_136 : decode cX10_takesBracket 136 = .ok (.ireturn, 1) := by decide +kernel
theorem dX10_takesBracket_137 : decode cX10_takesBracket 137 = .ok (.aload_n 0, 1) := by decide +kernel
theorem dX10_takesBracket_138 : decode cX10_takesBracket 138 = .ok (.dup, 1) := by decide +kernel
theorem dX10_takesBracket_139 : decode cX10_takesBracket 139 = .ok (.getfield 124, 3) := by decide +kernel
theorem dX10_takesBracket_142 : decode cX10_takesBracket 142 = .ok (.iconst 1, 1) := by decide +kernel
theorem dX10_takesBracket_143 : decode cX10_takesBracket 143 = .ok (.iadd, 1) := by decide +kernel
theorem dX10_takesBracket_144 : decode cX10_takesBracket 144 = .ok (.putfield 124, 3) := by decide +kernel
theorem dX10_takesBracket_147 : decode cX10_takesBracket 147 = .ok (.aload_n 0, 1) := by decide +kernel
theorem dX10_takesBracket_148 : decode cX10_takesBracket 148 = .ok (.dup, 1) := by decide +kernel
theorem dX10_takesBracket_149 : decode cX10_takesBracket 149 = .ok (.getfield 131, 3) := by decide +kernel
theorem dX10_takesBracket_152 : decode cX10_takesBracket 152 = .ok (.iconst 1, 1) := by decide +kernel
theorem dX10_takesBracket_153 : decode cX10_takesBracket 153 = .ok (.isub, 1) := by decide +kernel
theorem dX10_takesBracket_154 : decode cX10_takesBracket 154 = .ok (.putfield 131, 3) := by decide +kernel
theorem dX10_takesBracket_157 : decode cX10_takesBracket 157 = .ok (.iconst 1, 1) := by decide +kernel
theorem dX10_takesBracket_158 : decode cX10_takesBracket 158 = .ok (.ireturn, 1) := by decide +kernel
theorem dX10_takesPayment_0 : decode cX10_takesPayment 0 = .ok (.aload_n 0, 1) := by decide +kernel
theorem dX10_takesPayment_1 : decode cX10_takesPayment 1 = .ok (.dup, 1) := by decide +kernel
theorem dX10_takesPayment_2 : decode cX10_takesPayment 2 = .ok (.getfield 124, 3) := by decide +kernel
theorem dX10_takesPayment_5 : decode cX10_takesPayment 5 = .ok (.iconst 1, 1) := by decide +kernel
theorem dX10_takesPayment_6 : decode cX10_takesPayment 6 = .ok (.iadd, 1) := by decide +kernel
theorem dX10_takesPayment_7 : decode cX10_takesPayment 7 = .ok (.putfield 124, 3) := by decide +kernel
theorem dX10_takesPayment_10 : decode cX10_takesPayment 10 = .ok (.aload_n 0, 1) := by decide +kernel
theorem dX10_takesPayment_11 : decode cX10_takesPayment 11 = .ok (.iconst 0, 1) := by decide +kernel
theorem dX10_takesPayment_12 : decode cX10_takesPayment 12 = .ok (.bipush 7, 2) := by decide +kernel
theorem dX10_takesPayment_14 : decode cX10_takesPayment 14 = .ok (.invokevirtual 134, 3) := by decide +kernel
theorem dX10_takesPayment_17 : decode cX10_takesPayment 17 = .ok (.ifCond .eq 23, 3) := by decide +kernel
theorem dX10_takesPayment_20 : decode cX10_takesPayment 20 = .ok (.aload_n 0, 1) := by decide +kernel
theorem dX10_takesPayment_21 : decode cX10_takesPayment 21 = .ok (.iconst 0, 1) := by decide +kernel
theorem dX10_takesPayment_22 : decode cX10_takesPayment 22 = .ok (.bipush 7, 2) := by decide +kernel
theorem dX10_takesPayment_24 : decode cX10_takesPayment 24 = .ok (.invokevirtual 134, 3) := by decide +kernel
theorem dX10_takesPayment_27 : decode cX10_takesPayment 27 = .ok (.ifCond .eq 13, 3) := by decide +kernel
theorem dX10_takesPayment_30 : decode cX10_takesPayment 30 = .ok (.aload_n 0, 1) := by decide +kernel
theorem dX10_takesPayment_31 : decode cX10_takesPayment 31 = .ok (.iconst 0, 1) := by decide +kernel
theorem dX10_takesPayment_32 : decode cX10_takesPayment 32 = .ok (.bipush 9, 2) := by decide +kernel
theorem dX10_takesPayment_34 : decode cX10_takesPayment 34 = .ok (.invokevirtual 134, 3) := by decide +kernel
theorem dX10_takesPayment_37 : decode cX10_takesPayment 37 = .ok (.ifCond .ne 5, 3) := by decide +kernel
theorem dX10_takesPayment_40 : decode cX10_takesPayment 40 = .ok (.iconst 0, 1) := by decide +kernel
theorem dX10_takesPayment_41 : decode cX10_takesPayment 41 = .ok (.ireturn, 1) := by decide +kernel
theorem dX10_takesPayment_42 : decode cX10_takesPayment 42 = .ok (.iconst 0, 1) := by decide +kernel
theorem dX10_takesPayment_43 : decode cX10_takesPayment 43 = .ok (.istore_n 1, 1) := by decide +kernel
theorem dX10_takesPayment_44 : decode cX10_takesPayment 44 = .ok (.iload_n 1, 1) := by decide +kernel
theorem dX10_takesPayment_45 : decode cX10_takesPayment 45 = .ok (.iconst 3, 1) := by decide +kernel
theorem dX10_takesPayment_46 : decode cX10_takesPayment 46 = .ok (.if_icmp .ge 36, 3) := by decide +kernel
theorem dX10_takesPayment_49 : decode cX10_takesPayment 49 = .ok (.aload_n 0, 1) := by decide +kernel
theorem dX10_takesPayment_50 : decode cX10_takesPayment 50 = .ok (.invokevirtual 127, 3) := by decide +kernel
theorem dX10_takesPayment_53 : decode cX10_takesPayment 53 = .ok (.i2l, 1) := by decide +kernel
theorem dX10_takesPayment_54 : decode cX10_takesPayment 54 = .ok (.ldc2_w 142, 3) := by decide +kernel
theorem dX10_takesPayment_57 : decode cX10_takesPayment 57 = .ok (.ldc2_w 144, 3) := by decide +kernel
theorem dX10_takesPayment_60 : decode cX10_takesPayment 60 = .ok (.invokestatic 67, 3) := by decide +kernel
theorem dX10_takesPayment_63 : decode cX10_takesPayment 63 = .ok (.ifCond .eq 19, 3) := by decide +kernel
theorem dX10_takesPayment_66 : decode cX10_takesPayment 66 = .ok (.aload_n 0, 1) := by decide +kernel
theorem dX10_takesPayment_67 : decode cX10_takesPayment 67 = .ok (.dup, 1) := by decide +kernel
theorem dX10_takesPayment_68 : decode cX10_takesPayment 68 = .ok (.getfield 124, 3) := by decide +kernel
theorem dX10_takesPayment_71 : decode cX10_takesPayment 71 = .ok (.iconst 1, 1) := by decide +kernel
theorem dX10_takesPayment_72 : decode cX10_takesPayment 72 = .ok (.iadd, 1) := by decide +kernel
theorem dX10_takesPayment_73 : decode cX10_takesPayment 73 = .ok (.putfield 124, 3) := by decide +kernel
theorem dX10_takesPayment_76 : decode cX10_takesPayment 76 = .ok (.iinc 1 1, 3) := by decide +kernel
theorem dX10_takesPayment_79 : decode cX10_takesPayment 79 = .ok (.goto (-35), 3) := by decide +kernel
theorem dX10_takesPayment_82 : decode cX10_takesPayment 82 = .ok (.iconst 1, 1) := by decide +kernel
theorem dX10_takesPayment_83 : decode cX10_takesPayment 83 = .ok (.ireturn, 1) := by decide +kernel
theorem dX10_takesItem_0 : decode cX10_takesItem 0 = .ok (.aload_n 0, 1) := by decide +kernel
theorem dX10_takesItem_1 : decode cX10_takesItem 1 = .ok (.invokevirtual 127, 3) := by decide +kernel
theorem dX10_takesItem_4 : decode cX10_takesItem 4 = .ok (.istore_n 2, 1) := by decide +kernel
theorem dX10_takesItem_5 : decode cX10_takesItem 5 = .ok (.iload_n 2, 1) := by decide +kernel
theorem dX10_takesItem_6 : decode cX10_takesItem 6 = .ok (.bipush 40, 2) := by decide +kernel
theorem dX10_takesItem_8 : decode cX10_takesItem 8 = .ok (.if_icmp .eq 21, 3) := by decide +kernel
theorem dX10_takesItem_11 : decode cX10_takesItem 11 = .ok (.iload_n 2, 1) := by decide +kernel
theorem dX10_takesItem_12 : decode cX10_takesItem 12 = .ok (.bipush 91, 2) := by decide +kernel
theorem dX10_takesItem_14 : decode cX10_takesItem 14 = .ok (.if_icmp .eq 15, 3) := by decide +kernel
theorem dX10_takesItem_17 : decode cX10_takesItem 17 = .ok (.iload_n 2, 1) := by decide +kernel
theorem dX10_takesItem_18 : decode cX10_takesItem 18 = .ok (.bipush 60, 2) := by decide +kernel
theorem dX10_takesItem_20 : decode cX10_takesItem 20 = .ok (.if_icmp .eq 9, 3) := by decide +kernel
theorem dX10_takesItem_23 : decode cX10_takesItem 23 = .ok (.iload_n 2, 1) := by decide +kernel
theorem dX10_takesItem_24 : decode cX10_takesItem 24 = .ok (.bipush 123, 2) := by decide +kernel
theorem dX10_takesItem_26 : decode cX10_takesItem 26 = .ok (.if_icmp .ne 10, 3) := by decide +kernel
theorem dX10_takesItem_29 : decode cX10_takesItem 29 = .ok (.aload_n 0, 1) := by decide +kernel
theorem dX10_takesItem_30 : decode cX10_takesItem 30 = .ok (.iload_n 2, 1) := by decide +kernel
theorem dX10_takesItem_31 : decode cX10_takesItem 31 = .ok (.iload_n 1, 1) := by decide +kernel
theorem dX10_takesItem_32 : decode cX10_takesItem 32 = .ok (.invokevirtual 146, 3) := by decide +kernel
theorem dX10_takesItem_35 : decode cX10_takesItem 35 = .ok (.ireturn, 1) := by decide +kernel
theorem dX10_takesItem_36 : decode cX10_takesItem 36 = .ok (.iload_n 2, 1) := by decide +kernel
theorem dX10_takesItem_37 : decode cX10_takesItem 37 = .ok (.bipush 112, 2) := by decide +kernel
theorem dX10_takesItem_39 : decode cX10_takesItem 39 = .ok (.if_icmp .ne 8, 3) := by decide +kernel
theorem dX10_takesItem_42 : decode cX10_takesItem 42 = .ok (.aload_n 0, 1) := by decide +kernel
theorem dX10_takesItem_43 : decode cX10_takesItem 43 = .ok (.invokevirtual 150, 3) := by decide +kernel
theorem dX10_takesItem_46 : decode cX10_takesItem 46 = .ok (.ireturn, 1) := by decide +kernel
theorem dX10_takesItem_47 : decode cX10_takesItem 47 = .ok (.iload_n 2, 1) := by decide +kernel
theorem dX10_takesItem_48 : decode cX10_takesItem 48 = .ok (.bipush 120, 2) := by decide +kernel
theorem dX10_takesItem_50 : decode cX10_takesItem 50 = .ok (.if_icmp .eq 19, 3) := by decide +kernel
theorem dX10_takesItem_53 : decode cX10_takesItem 53 = .ok (.iload_n 1, 1) := by decide +kernel
theorem dX10_takesItem_54 : decode cX10_takesItem 54 = .ok (.ifCond .eq 27, 3) := by decide +kernel
theorem dX10_takesItem_57 : decode cX10_takesItem 57 = .ok (.iload_n 2, 1) := by decide +kernel
theorem dX10_takesItem_58 : decode cX10_takesItem 58 = .ok (.bipush 98, 2) := by decide +kernel
theorem dX10_takesItem_60 : decode cX10_takesItem 60 = .ok (.if_icmp .eq 9, 3) := by decide +kernel
theorem dX10_takesItem_63 : decode cX10_takesItem 63 = .ok (.iload_n 2, 1) := by decide +kernel
theorem dX10_takesItem_64 : decode cX10_takesItem 64 = .ok (.bipush 99, 2) := by decide +kernel
theorem dX10_takesItem_66 : decode cX10_takesItem 66 = .ok (.if_icmp .ne 15, 3) := by decide +kernel
theorem dX10_takesItem_69 : decode cX10_takesItem 69 = .ok (.aload_n 0, 1) := by decide +kernel
theorem dX10_takesItem_70 : decode cX10_takesItem 70 = .ok (.dup, 1) := by decide +kernel
theorem dX10_takesItem_71 : decode cX10_takesItem 71 = .ok (.getfield 124, 3) := by decide +kernel
theorem dX10_takesItem_74 : decode cX10_takesItem 74 = .ok (.iconst 1, 1) := by decide +kernel
theorem dX10_takesItem_75 : decode cX10_takesItem 75 = .ok (.iadd, 1) := by decide +kernel
theorem dX10_takesItem_76 : decode cX10_takesItem 76 = .ok (.putfield 124, 3) := by decide +kernel
theorem dX10_takesItem_79 : decode cX10_takesItem 79 = .ok (.iconst 1, 1) := by decide +kernel
theorem dX10_takesItem_80 : decode cX10_takesItem 80 = .ok (.ireturn, 1) := by decide +kernel
theorem dX10_takesItem_81 : decode cX10_takesItem 81 = .ok (.iload_n 2, 1) := by decide +kernel
theorem dX10_takesItem_82 : decode cX10_takesItem 82 = .ok (.bipush 110, 2) := by decide +kernel
theorem dX10_takesItem_84 : decode cX10_takesItem 84 = .ok (.if_icmp .eq 9, 3) := by decide +kernel
theorem dX10_takesItem_87 : decode cX10_takesItem 87 = .ok (.iload_n 2, 1) := by decide +kernel
theorem dX10_takesItem_88 : decode cX10_takesItem 88 = .ok (.bipush 97, 2) := by decide +kernel
theorem dX10_takesItem_90 : decode cX10_takesItem 90 = .ok (.if_icmp .ne 21, 3) := by decide +kernel
theorem dX10_takesItem_93 : decode cX10_takesItem 93 = .ok (.aload_n 0, 1) := by decide +kernel
theorem dX10_takesItem_94 : decode cX10_takesItem 94 = .ok (.dup, 1) := by decide +kernel
theorem dX10_takesItem_95 : decode cX10_takesItem 95 = .ok (.getfield 124, 3) := by decide +kernel
theorem dX10_takesItem_98 : decode cX10_takesItem 98 = .ok (.iconst 1, 1) := by decide +kernel
theorem dX10_takesItem_99 : decode cX10_takesItem 99 = .ok (.iadd, 1) := by decide +kernel
theorem dX10_takesItem_100 : decode cX10_takesItem 100 = .ok (.putfield 124, 3) := by decide +kernel
theorem dX10_takesItem_103 : decode cX10_takesItem 103 = .ok (.aload_n 0, 1) := by decide +kernel
theorem dX10_takesItem_104 : decode cX10_takesItem 104 = .ok (.iconst 0, 1) := by decide +kernel
theorem dX10_takesItem_105 : decode cX10_takesItem 105 = .ok (.bipush 7, 2) := by decide +kernel
theorem dX10_takesItem_107 : decode cX10_takesItem 107 = .ok (.invokevirtual 134, 3) := by decide +kernel
theorem dX10_takesItem_110 : decode cX10_takesItem 110 = .ok (.ireturn, 1) := by decide +kernel
theorem dX10_takesItem_111 : decode cX10_takesItem 111 = .ok (.iconst 0, 1) := by decide +kernel
theorem dX10_takesItem_112 : decode cX10_takesItem 112 = .ok (.ireturn, 1) := by decide +kernel
theorem dX10_program_0 : decode cX10_program 0 = .ok (.aload_n 0, 1) := by decide +kernel
theorem dX10_program_1 : decode cX10_program 1 = .ok (.getfield 100, 3) := by decide +kernel
theorem dX10_program_4 : decode cX10_program 4 = .ok (.iconst 4, 1) := by decide +kernel
theorem dX10_program_5 : decode cX10_program 5 = .ok (.if_icmp .ne 6, 3) := by decide +kernel
theorem dX10_program_8 : decode cX10_program 8 = .ok (.bipush (-4), 2) := by decide +kernel
theorem dX10_program_10 : decode cX10_program 10 = .ok (.ireturn, 1) := by decide +kernel
theorem dX10_program_11 : decode cX10_program 11 = .ok (.aload_n 0, 1) := by decide +kernel
theorem dX10_program_12 : decode cX10_program 12 = .ok (.iconst 0, 1) := by decide +kernel
theorem dX10_program_13 : decode cX10_program 13 = .ok (.putfield 124, 3) := by decide +kernel
theorem dX10_program_16 : decode cX10_program 16 = .ok (.aload_n 0, 1) := by decide +kernel
theorem dX10_program_17 : decode cX10_program 17 = .ok (.iconst 0, 1) := by decide +kernel
theorem dX10_program_18 : decode cX10_program 18 = .ok (.putfield 131, 3) := by decide +kernel
theorem dX10_program_21 : decode cX10_program 21 = .ok (.aload_n 0, 1) := by decide +kernel
theorem dX10_program_22 : decode cX10_program 22 = .ok (.iconst 0, 1) := by decide +kernel
theorem dX10_program_23 : decode cX10_program 23 = .ok (.invokevirtual 138, 3) := by decide +kernel
theorem dX10_program_26 : decode cX10_program 26 = .ok (.istore_n 1, 1) := by decide +kernel
theorem dX10_program_27 : decode cX10_program 27 = .ok (.iload_n 1, 1) := by decide +kernel
theorem dX10_program_28 : decode cX10_program 28 = .ok (.ifCond .eq 23, 3) := by decide +kernel
theorem dX10_program_31 : decode cX10_program 31 = .ok (.aload_n 0, 1) := by decide +kernel
theorem dX10_program_32 : decode cX10_program 32 = .ok (.getfield 124, 3) := by decide +kernel
theorem dX10_program_35 : decode cX10_program 35 = .ok (.aload_n 0, 1) := by decide +kernel
theorem dX10_program_36 : decode cX10_program 36 = .ok (.getfield 107, 3) := by decide +kernel
theorem dX10_program_39 : decode cX10_program 39 = .ok (.if_icmp .ge 12, 3) := by decide +kernel
theorem dX10_program_42 : decode cX10_program 42 = .ok (.aload_n 0, 1) := by decide +kernel
theorem dX10_program_43 : decode cX10_program 43 = .ok (.iconst 0, 1) := by decide +kernel
theorem dX10_program_44 : decode cX10_program 44 = .ok (.invokevirtual 138, 3) := by decide +kernel
theorem dX10_program_47 : decode cX10_program 47 = .ok (.istore_n 1, 1) := by decide +kernel
theorem dX10_program_48 : decode cX10_program 48 = .ok (.goto (-21), 3) := by decide +kernel
theorem dX10_program_51 : decode cX10_program 51 = .ok (.aload_n 0, 1) := by decide +kernel
theorem dX10_program_52 : decode cX10_program 52 = .ok (.getfield 107, 3) := by decide +kernel
theorem dX10_program_55 : decode cX10_program 55 = .ok (.istore_n 2, 1) := by decide +kernel
theorem dX10_program_56 : decode cX10_program 56 = .ok (.aload_n 0, 1) := by decide +kernel
theorem dX10_program_57 : decode cX10_program 57 = .ok (.iconst 0, 1) := by decide +kernel
theorem dX10_program_58 : decode cX10_program 58 = .ok (.putfield 107, 3) := by decide +kernel
theorem dX10_program_61 : decode cX10_program 61 = .ok (.iload_n 1, 1) := by decide +kernel
theorem dX10_program_62 : decode cX10_program 62 = .ok (.ifCond .ne 11, 3) := by decide +kernel
theorem dX10_program_65 : decode cX10_program 65 = .ok (.bipush (-100), 2) := by decide +kernel
theorem dX10_program_67 : decode cX10_program 67 = .ok (.aload_n 0, 1) := by decide +kernel
theorem dX10_program_68 : decode cX10_program 68 = .ok (.getfield 124, 3) := by decide +kernel
theorem dX10_program_71 : decode cX10_program 71 = .ok (.isub, 1) := by decide +kernel
theorem dX10_program_72 : decode cX10_program 72 = .ok (.ireturn, 1) := by decide +kernel
theorem dX10_program_73 : decode cX10_program 73 = .ok (.iconst 0, 1) := by decide +kernel
theorem dX10_program_74 : decode cX10_program 74 = .ok (.istore_n 3, 1) := by decide +kernel
theorem dX10_program_75 : decode cX10_program 75 = .ok (.iload_n 3, 1) := by decide +kernel
theorem dX10_program_76 : decode cX10_program 76 = .ok (.iload_n 2, 1) := by decide +kernel
theorem dX10_program_77 : decode cX10_program 77 = .ok (.if_icmp .ge 29, 3) := by decide +kernel
theorem dX10_program_80 : decode cX10_program 80 = .ok (.aload_n 0, 1) := by decide +kernel
theorem dX10_program_81 : decode cX10_program 81 = .ok (.getfield 24, 3) := by decide +kernel
theorem dX10_program_84 : decode cX10_program 84 = .ok (.bipush 80, 2) := by decide +kernel
theorem dX10_program_86 : decode cX10_program 86 = .ok (.aload_n 0, 1) := by decide +kernel
theorem dX10_program_87 : decode cX10_program 87 = .ok (.getfield 100, 3) := by decide +kernel
theorem dX10_program_90 : decode cX10_program 90 = .ok (.imul, 1) := by decide +kernel
theorem dX10_program_91 : decode cX10_program 91 = .ok (.iload_n 3, 1) := by decide +kernel
theorem dX10_program_92 : decode cX10_program 92 = .ok (.iadd, 1) := by decide +kernel
theorem dX10_program_93 : decode cX10_program 93 = .ok (.aload_n 0, 1) := by decide +kernel
theorem dX10_program_94 : decode cX10_program 94 = .ok (.getfield 21, 3) := by decide +kernel
theorem dX10_program_97 : decode cX10_program 97 = .ok (.iload_n 3, 1) := by decide +kernel
theorem dX10_program_98 : decode cX10_program 98 = .ok (.iaload, 1) := by decide +kernel
theorem dX10_program_99 : decode cX10_program 99 = .ok (.iastore, 1) := by decide +kernel
theorem dX10_program_100 : decode cX10_program 100 = .ok (.iinc 3 1, 3) := by decide +kernel
theorem dX10_program_103 : decode cX10_program 103 = .ok (.goto (-28), 3) := by decide +kernel
theorem dX10_program_106 : decode cX10_program 106 = .ok (.aload_n 0, 1) := by decide +kernel
theorem dX10_program_107 : decode cX10_program 107 = .ok (.getfield 27, 3) := by decide +kernel
theorem dX10_program_110 : decode cX10_program 110 = .ok (.aload_n 0, 1) := by decide +kernel
theorem dX10_program_111 : decode cX10_program 111 = .ok (.getfield 100, 3) := by decide +kernel
theorem dX10_program_114 : decode cX10_program 114 = .ok (.iload_n 2, 1) := by decide +kernel
theorem dX10_program_115 : decode cX10_program 115 = .ok (.iastore, 1) := by decide +kernel
theorem dX10_program_116 : decode cX10_program 116 = .ok (.aload_n 0, 1) := by decide +kernel
theorem dX10_program_117 : decode cX10_program 117 = .ok (.dup, 1) := by decide +kernel
theorem dX10_program_118 : decode cX10_program 118 = .ok (.getfield 100, 3) := by decide +kernel
theorem dX10_program_121 : decode cX10_program 121 = .ok (.iconst 1, 1) := by decide +kernel
theorem dX10_program_122 : decode cX10_program 122 = .ok (.iadd, 1) := by decide +kernel
theorem dX10_program_123 : decode cX10_program 123 = .ok (.putfield 100, 3) := by decide +kernel
theorem dX10_program_126 : decode cX10_program 126 = .ok (.aload_n 0, 1) := by decide +kernel
theorem dX10_program_127 : decode cX10_program 127 = .ok (.getfield 100, 3) := by decide +kernel
theorem dX10_program_130 : decode cX10_program 130 = .ok (.iconst 1, 1) := by decide +kernel
theorem dX10_program_131 : decode cX10_program 131 = .ok (.isub, 1) := by decide +kernel
theorem dX10_program_132 : decode cX10_program 132 = .ok (.ireturn, 1) := by decide +kernel
theorem dX10_marks_0 : decode cX10_marks 0 = .ok (.aload_n 0, 1) := by decide +kernel
theorem dX10_marks_1 : decode cX10_marks 1 = .ok (.getfield 154, 3) := by decide +kernel
theorem dX10_marks_4 : decode cX10_marks 4 = .ok (.bipush 60, 2) := by decide +kernel
theorem dX10_marks_6 : decode cX10_marks 6 = .ok (.if_icmp .ge 13, 3) := by decide +kernel
theorem dX10_marks_9 : decode cX10_marks 9 = .ok (.aload_n 0, 1) := by decide +kernel
theorem dX10_marks_10 : decode cX10_marks 10 = .ok (.getfield 39, 3) := by decide +kernel
theorem dX10_marks_13 : decode cX10_marks 13 = .ok (.aload_n 0, 1) := by decide +kernel
theorem dX10_marks_14 : decode cX10_marks 14 = .ok (.getfield 154, 3) := by decide +kernel
theorem dX10_marks_17 : decode cX10_marks 17 = .ok (.iload_n 1, 1) := by decide +kernel
theorem dX10_marks_18 : decode cX10_marks 18 = .ok (.iastore, 1) := by decide +kernel
theorem dX10_marks_19 : decode cX10_marks 19 = .ok (.aload_n 0, 1) := by decide +kernel
theorem dX10_marks_20 : decode cX10_marks 20 = .ok (.dup, 1) := by decide +kernel
theorem dX10_marks_21 : decode cX10_marks 21 = .ok (.getfield 154, 3) := by decide +kernel
theorem dX10_marks_24 : decode cX10_marks 24 = .ok (.iconst 1, 1) := by decide +kernel
theorem dX10_marks_25 : decode cX10_marks 25 = .ok (.iadd, 1) := by decide +kernel
theorem dX10_marks_26 : decode cX10_marks 26 = .ok (.putfield 154, 3) := by decide +kernel
theorem dX10_marks_29 : decode cX10_marks 29 = .ok (.return_, 1) := by decide +kernel
theorem dX10_signAt_0 : decode cX10_signAt 0 = .ok (.aload_n 0, 1) := by decide +kernel
theorem dX10_signAt_1 : decode cX10_signAt 1 = .ok (.getfield 24, 3) := by decide +kernel
theorem dX10_signAt_4 : decode cX10_signAt 4 = .ok (.bipush 80, 2) := by decide +kernel
theorem dX10_signAt_6 : decode cX10_signAt 6 = .ok (.aload_n 0, 1) := by decide +kernel
theorem dX10_signAt_7 : decode cX10_signAt 7 = .ok (.getfield 157, 3) := by decide +kernel
theorem dX10_signAt_10 : decode cX10_signAt 10 = .ok (.imul, 1) := by decide +kernel
theorem dX10_signAt_11 : decode cX10_signAt 11 = .ok (.iload_n 1, 1) := by decide +kernel
theorem dX10_signAt_12 : decode cX10_signAt 12 = .ok (.iadd, 1) := by decide +kernel
theorem dX10_signAt_13 : decode cX10_signAt 13 = .ok (.iaload, 1) := by decide +kernel
theorem dX10_signAt_14 : decode cX10_signAt 14 = .ok (.ireturn, 1) := by decide +kernel
theorem dX10_figureAt_0 : decode cX10_figureAt 0 = .ok (.aload_n 0, 1) := by decide +kernel
theorem dX10_figureAt_1 : decode cX10_figureAt 1 = .ok (.iload_n 1, 1) := by decide +kernel
theorem dX10_figureAt_2 : decode cX10_figureAt 2 = .ok (.invokevirtual 160, 3) := by decide +kernel
theorem dX10_figureAt_5 : decode cX10_figureAt 5 = .ok (.bipush 48, 2) := by decide +kernel
theorem dX10_figureAt_7 : decode cX10_figureAt 7 = .ok (.isub, 1) := by decide +kernel
theorem dX10_figureAt_8 : decode cX10_figureAt 8 = .ok (.ireturn, 1) := by decide +kernel
theorem dX10_hasGate_0 : decode cX10_hasGate 0 = .ok (.aload_n 0, 1) := by decide +kernel
theorem dX10_hasGate_1 : decode cX10_hasGate 1 = .ok (.iload_n 1, 1) := by decide +kernel
theorem dX10_hasGate_2 : decode cX10_hasGate 2 = .ok (.invokevirtual 75, 3) := by decide +kernel
theorem dX10_hasGate_5 : decode cX10_hasGate 5 = .ok (.ifCond .eq 20, 3) := by decide +kernel
theorem dX10_hasGate_8 : decode cX10_hasGate 8 = .ok (.aload_n 0, 1) := by decide +kernel
theorem dX10_hasGate_9 : decode cX10_hasGate 9 = .ok (.getfield 11, 3) := by decide +kernel
theorem dX10_hasGate_12 : decode cX10_hasGate 12 = .ok (.bipush 24, 2) := by decide +kernel
theorem dX10_hasGate_14 : decode cX10_hasGate 14 = .ok (.iload_n 1, 1) := by decide +kernel
theorem dX10_hasGate_15 : decode cX10_hasGate 15 = .ok (.iadd, 1) := by decide +kernel
theorem dX10_hasGate_16 : decode cX10_hasGate 16 = .ok (.iaload, 1) := by decide +kernel
theorem dX10_hasGate_17 : decode cX10_hasGate 17 = .ok (.iconst 1, 1) := by decide +kernel
theorem dX10_hasGate_18 : decode cX10_hasGate 18 = .ok (.if_icmp .ne 7, 3) := by decide +kernel
theorem dX10_hasGate_21 : decode cX10_hasGate 21 = .ok (.iconst 1, 1) := by decide +kernel
theorem dX10_hasGate_22 : decode cX10_hasGate 22 = .ok (.goto 4, 3) := by decide +kernel
theorem dX10_hasGate_25 : decode cX10_hasGate 25 = .ok (.iconst 0, 1) := by decide +kernel
theorem dX10_hasGate_26 : decode cX10_hasGate 26 = .ok (.ireturn, 1) := by decide +kernel
theorem dX10_behind_0 : decode cX10_behind 0 = .ok (.aload_n 0, 1) := by decide +kernel
theorem dX10_behind_1 : decode cX10_behind 1 = .ok (.iload_n 1, 1) := by decide +kernel
theorem dX10_behind_2 : decode cX10_behind 2 = .ok (.invokevirtual 160, 3) := by decide +kernel
theorem dX10_behind_5 : decode cX10_behind 5 = .ok (.istore_n 2, 1) := by decide +kernel
theorem dX10_behind_6 : decode cX10_behind 6 = .ok (.iload_n 2, 1) := by decide +kernel
theorem dX10_behind_7 : decode cX10_behind 7 = .ok (.bipush 112, 2) := by decide +kernel
theorem dX10_behind_9 : decode cX10_behind 9 = .ok (.if_icmp .ne 54, 3) := by decide +kernel
theorem dX10_behind_12 : decode cX10_behind 12 = .ok (.iload_n 1, 1) := by decide +kernel
theorem dX10_behind_13 : decode cX10_behind 13 = .ok (.iconst 4, 1) := by decide +kernel
theorem dX10_behind_14 : decode cX10_behind 14 = .ok (.iadd, 1) := by decide +kernel
theorem dX10_behind_15 : decode cX10_behind 15 = .ok (.istore_n 3, 1) := by decide +kernel
theorem dX10_behind_16 : decode cX10_behind 16 = .ok (.iload_n 3, 1) := by decide +kernel
theorem dX10_behind_17 : decode cX10_behind 17 = .ok (.aload_n 0, 1) := by decide +kernel
theorem dX10_behind_18 : decode cX10_behind 18 = .ok (.getfield 27, 3) := by decide +kernel
theorem dX10_behind_21 : decode cX10_behind 21 = .ok (.aload_n 0, 1) := by decide +kernel
theorem dX10_behind_22 : decode cX10_behind 22 = .ok (.getfield 157, 3) := by decide +kernel
theorem dX10_behind_25 : decode cX10_behind 25 = .ok (.iaload, 1) := by decide +kernel
theorem dX10_behind_26 : decode cX10_behind 26 = .ok (.if_icmp .ge 35, 3) := by decide +kernel
theorem dX10_behind_29 : decode cX10_behind 29 = .ok (.iload_n 3, 1) := by decide +kernel
theorem dX10_behind_30 : decode cX10_behind 30 = .ok (.iload_n 1, 1) := by decide +kernel
theorem dX10_behind_31 : decode cX10_behind 31 = .ok (.bipush 7, 2) := by decide +kernel
theorem dX10_behind_33 : decode cX10_behind 33 = .ok (.iadd, 1) := by decide +kernel
theorem dX10_behind_34 : decode cX10_behind 34 = .ok (.if_icmp .ge 27, 3) := by decide +kernel
theorem dX10_behind_37 : decode cX10_behind 37 = .ok (.aload_n 0, 1) := by decide +kernel
theorem dX10_behind_38 : decode cX10_behind 38 = .ok (.iload_n 3, 1) := by decide +kernel
theorem dX10_behind_39 : decode cX10_behind 39 = .ok (.invokevirtual 160, 3) := by decide +kernel
theorem dX10_behind_42 : decode cX10_behind 42 = .ok (.i2l, 1) := by decide +kernel
theorem dX10_behind_43 : decode cX10_behind 43 = .ok (.ldc2_w 142, 3) := by decide +kernel
theorem dX10_behind_46 : decode cX10_behind 46 = .ok (.ldc2_w 144, 3) := by decide +kernel
theorem dX10_behind_49 : decode cX10_behind 49 = .ok (.invokestatic 67, 3) := by decide +kernel
theorem dX10_behind_52 : decode cX10_behind 52 = .ok (.ifCond .eq 9, 3) := by decide +kernel
theorem dX10_behind_55 : decode cX10_behind 55 = .ok (.iinc 3 1, 3) := by decide +kernel
theorem dX10_behind_58 : decode cX10_behind 58 = .ok (.goto (-42), 3) := by decide +kernel
theorem dX10_behind_61 : decode cX10_behind 61 = .ok (.iload_n 3, 1) := by decide +kernel
theorem dX10_behind_62 : decode cX10_behind 62 = .ok (.ireturn, 1) := by decide +kernel
theorem dX10_behind_63 : decode cX10_behind 63 = .ok (.iload_n 2, 1) := by decide +kernel
theorem dX10_behind_64 : decode cX10_behind 64 = .ok (.bipush 110, 2) := by decide +kernel
theorem dX10_behind_66 : decode cX10_behind 66 = .ok (.if_icmp .eq 9, 3) := by decide +kernel
theorem dX10_behind_69 : decode cX10_behind 69 = .ok (.iload_n 2, 1) := by decide +kernel
theorem dX10_behind_70 : decode cX10_behind 70 = .ok (.bipush 97, 2) := by decide +kernel
theorem dX10_behind_72 : decode cX10_behind 72 = .ok (.if_icmp .ne 7, 3) := by decide +kernel
theorem dX10_behind_75 : decode cX10_behind 75 = .ok (.iload_n 1, 1) := by decide +kernel
theorem dX10_behind_76 : decode cX10_behind 76 = .ok (.iconst 2, 1) := by decide +kernel
theorem dX10_behind_77 : decode cX10_behind 77 = .ok (.iadd, 1) := by decide +kernel
theorem dX10_behind_78 : decode cX10_behind 78 = .ok (.ireturn, 1) := by decide +kernel
theorem dX10_behind_79 : decode cX10_behind 79 = .ok (.iload_n 2, 1) := by decide +kernel
theorem dX10_behind_80 : decode cX10_behind 80 = .ok (.bipush 120, 2) := by decide +kernel
theorem dX10_behind_82 : decode cX10_behind 82 = .ok (.if_icmp .eq 15, 3) := by decide +kernel
theorem dX10_behind_85 : decode cX10_behind 85 = .ok (.iload_n 2, 1) := by decide +kernel
theorem dX10_behind_86 : decode cX10_behind 86 = .ok (.bipush 98, 2) := by decide +kernel
theorem dX10_behind_88 : decode cX10_behind 88 = .ok (.if_icmp .eq 9, 3) := by decide +kernel
theorem dX10_behind_91 : decode cX10_behind 91 = .ok (.iload_n 2, 1) := by decide +kernel
theorem dX10_behind_92 : decode cX10_behind 92 = .ok (.bipush 99, 2) := by decide +kernel
theorem dX10_behind_94 : decode cX10_behind 94 = .ok (.if_icmp .ne 7, 3) := by decide +kernel
theorem dX10_behind_97 : decode cX10_behind 97 = .ok (.iload_n 1, 1) := by decide +kernel
theorem dX10_behind_98 : decode cX10_behind 98 = .ok (.iconst 1, 1) := by decide +kernel
theorem dX10_behind_99 : decode cX10_behind 99 = .ok (.iadd, 1) := by decide +kernel
theorem dX10_behind_100 : decode cX10_behind 100 = .ok (.ireturn, 1) := by decide +kernel
theorem dX10_behind_101 : decode cX10_behind 101 = .ok (.aload_n 0, 1) := by decide +kernel
theorem dX10_behind_102 : decode cX10_behind 102 = .ok (.iload_n 1, 1) := by decide +kernel
theorem dX10_behind_103 : decode cX10_behind 103 = .ok (.invokevirtual 163, 3) := by decide +kernel
theorem dX10_behind_106 : decode cX10_behind 106 = .ok (.istore_n 3, 1) := by decide +kernel
theorem dX10_behind_107 : decode cX10_behind 107 = .ok (.aload_n 0, 1) := by decide +kernel
theorem dX10_behind_108 : decode cX10_behind 108 = .ok (.iload_n 3, 1) := by decide +kernel
theorem dX10_behind_109 : decode cX10_behind 109 = .ok (.invokevirtual 166, 3) := by decide +kernel
theorem dX10_behind_112 : decode cX10_behind 112 = .ok (.ifCond .ne 12, 3) := by decide +kernel
theorem dX10_behind_115 : decode cX10_behind 115 = .ok (.aload_n 0, 1) := by decide +kernel
theorem dX10_behind_116 : decode cX10_behind 116 = .ok (.iload_n 3, 1) := by decide +kernel
theorem dX10_behind_117 : decode cX10_behind 117 = .ok (.invokevirtual 169, 3) := by decide +kernel
theorem dX10_behind_120 : decode cX10_behind 120 = .ok (.istore_n 3, 1) := by decide +kernel
theorem dX10_behind_121 : decode cX10_behind 121 = .ok (.goto (-14), 3) := by decide +kernel
theorem dX10_behind_124 : decode cX10_behind 124 = .ok (.iload_n 3, 1) := by decide +kernel
theorem dX10_behind_125 : decode cX10_behind 125 = .ok (.iconst 1, 1) := by decide +kernel
theorem dX10_behind_126 : decode cX10_behind 126 = .ok (.iadd, 1) := by decide +kernel
theorem dX10_behind_127 : decode cX10_behind 127 = .ok (.ireturn, 1) := by decide +kernel
theorem dX10_insideOf_0 : decode cX10_insideOf 0 = .ok (.iload_n 1, 1) := by decide +kernel
theorem dX10_insideOf_1 : decode cX10_insideOf 1 = .ok (.aload_n 0, 1) := by decide +kernel
theorem dX10_insideOf_2 : decode cX10_insideOf 2 = .ok (.iload_n 1, 1) := by decide +kernel
theorem dX10_insideOf_3 : decode cX10_insideOf 3 = .ok (.invokevirtual 160, 3) := by decide +kernel
theorem dX10_insideOf_6 : decode cX10_insideOf 6 = .ok (.bipush 40, 2) := by decide +kernel
theorem dX10_insideOf_8 : decode cX10_insideOf 8 = .ok (.if_icmp .eq 13, 3) := by decide +kernel
theorem dX10_insideOf_11 : decode cX10_insideOf 11 = .ok (.aload_n 0, 1) := by decide +kernel
theorem dX10_insideOf_12 : decode cX10_insideOf 12 = .ok (.iload_n 1, 1) := by decide +kernel
theorem dX10_insideOf_13 : decode cX10_insideOf 13 = .ok (.invokevirtual 160, 3) := by decide +kernel
theorem dX10_insideOf_16 : decode cX10_insideOf 16 = .ok (.bipush 123, 2) := by decide +kernel
theorem dX10_insideOf_18 : decode cX10_insideOf 18 = .ok (.if_icmp .ne 7, 3) := by decide +kernel
theorem dX10_insideOf_21 : decode cX10_insideOf 21 = .ok (.iconst 2, 1) := by decide +kernel
theorem dX10_insideOf_22 : decode cX10_insideOf 22 = .ok (.goto 4, 3) := by decide +kernel
theorem dX10_insideOf_25 : decode cX10_insideOf 25 = .ok (.iconst 1, 1) := by decide +kernel
theorem dX10_insideOf_26 : decode cX10_insideOf 26 = .ok (.iadd, 1) := by decide +kernel
theorem dX10_insideOf_27 : decode cX10_insideOf 27 = .ok (.ireturn, 1) := by decide +kernel
theorem dX10_isClosed_0 : decode cX10_isClosed 0 = .ok (.iload_n 1, 1) := by decide +kernel
theorem dX10_isClosed_1 : decode cX10_isClosed 1 = .ok (.aload_n 0, 1) := by decide +kernel
theorem dX10_isClosed_2 : decode cX10_isClosed 2 = .ok (.getfield 27, 3) := by decide +kernel
theorem dX10_isClosed_5 : decode cX10_isClosed 5 = .ok (.aload_n 0, 1) := by decide +kernel
theorem dX10_isClosed_6 : decode cX10_isClosed 6 = .ok (.getfield 157, 3) := by decide +kernel
theorem dX10_isClosed_9 : decode cX10_isClosed 9 = .ok (.iaload, 1) := by decide +kernel
theorem dX10_isClosed_10 : decode cX10_isClosed 10 = .ok (.if_icmp .ge 43, 3) := by decide +kernel
theorem dX10_isClosed_13 : decode cX10_isClosed 13 = .ok (.aload_n 0, 1) := by decide +kernel
theorem dX10_isClosed_14 : decode cX10_isClosed 14 = .ok (.iload_n 1, 1) := by decide +kernel
theorem dX10_isClosed_15 : decode cX10_isClosed 15 = .ok (.invokevirtual 160, 3) := by decide +kernel
theorem dX10_isClosed_18 : decode cX10_isClosed 18 = .ok (.bipush 41, 2) := by decide +kernel
theorem dX10_isClosed_20 : decode cX10_isClosed 20 = .ok (.if_icmp .eq 33, 3) := by decide +kernel
theorem dX10_isClosed_23 : decode cX10_isClosed 23 = .ok (.aload_n 0, 1) := by decide +kernel
theorem dX10_isClosed_24 : decode cX10_isClosed 24 = .ok (.iload_n 1, 1) := by decide +kernel
theorem dX10_isClosed_25 : decode cX10_isClosed 25 = .ok (.invokevirtual 160, 3) := by decide +kernel
theorem dX10_isClosed_28 : decode cX10_isClosed 28 = .ok (.bipush 93, 2) := by decide +kernel
theorem dX10_isClosed_30 : decode cX10_isClosed 30 = .ok (.if_icmp .eq 23, 3) := by decide +kernel
theorem dX10_isClosed_33 : decode cX10_isClosed 33 = .ok (.aload_n 0, 1) := by decide +kernel
theorem dX10_isClosed_34 : decode cX10_isClosed 34 = .ok (.iload_n 1, 1) := by decide +kernel
theorem dX10_isClosed_35 : decode cX10_isClosed 35 = .ok (.invokevirtual 160, 3) := by decide +kernel
theorem dX10_isClosed_38 : decode cX10_isClosed 38 = .ok (.bipush 62, 2) := by decide +kernel
theorem dX10_isClosed_40 : decode cX10_isClosed 40 = .ok (.if_icmp .eq 13, 3) := by decide +kernel
theorem dX10_isClosed_43 : decode cX10_isClosed 43 = .ok (.aload_n 0, 1) := by decide +kernel
theorem dX10_isClosed_44 : decode cX10_isClosed 44 = .ok (.iload_n 1, 1) := by decide +kernel
theorem dX10_isClosed_45 : decode cX10_isClosed 45 = .ok (.invokevirtual 160, 3) := by decide +kernel
theorem dX10_isClosed_48 : decode cX10_isClosed 48 = .ok (.bipush 125, 2) := by decide +kernel
theorem dX10_isClosed_50 : decode cX10_isClosed 50 = .ok (.if_icmp .ne 7, 3) := by decide +kernel
theorem dX10_isClosed_53 : decode cX10_isClosed 53 = .ok (.iconst 1, 1) := by decide +kernel
theorem dX10_isClosed_54 : decode cX10_isClosed 54 = .ok (.goto 4, 3) := by decide +kernel
theorem dX10_isClosed_57 : decode cX10_isClosed 57 = .ok (.iconst 0, 1) := by decide +kernel
theorem dX10_isClosed_58 : decode cX10_isClosed 58 = .ok (.ireturn, 1) := by decide +kernel
theorem dX10_keepsBooks_0 : decode cX10_keepsBooks 0 = .ok (.iconst 0, 1) := by decide +kernel
theorem dX10_keepsBooks_1 : decode cX10_keepsBooks 1 = .ok (.istore_n 1, 1) := by decide +kernel
theorem dX10_keepsBooks_2 : decode cX10_keepsBooks 2 = .ok (.iload_n 1, 1) := by decide +kernel
theorem dX10_keepsBooks_3 : decode cX10_keepsBooks 3 = .ok (.bipush 8, 2) := by decide +kernel
theorem dX10_keepsBooks_5 : decode cX10_keepsBooks 5 = .ok (.if_icmp .ge 32, 3) := by decide +kernel
theorem dX10_keepsBooks_8 : decode cX10_keepsBooks 8 = .ok (.aload_n 0, 1) := by decide +kernel
theorem dX10_keepsBooks_9 : decode cX10_keepsBooks 9 = .ok (.getfield 45, 3) := by decide +kernel
theorem dX10_keepsBooks_12 : decode cX10_keepsBooks 12 = .ok (.bipush 8, 2) := by decide +kernel
theorem dX10_keepsBooks_14 : decode cX10_keepsBooks 14 = .ok (.aload_n 0, 1) := by decide +kernel
theorem dX10_keepsBooks_15 : decode cX10_keepsBooks 15 = .ok (.getfield 172, 3) := by decide +kernel
theorem dX10_keepsBooks_18 : decode cX10_keepsBooks 18 = .ok (.imul, 1) := by decide +kernel
theorem dX10_keepsBooks_19 : decode cX10_keepsBooks 19 = .ok (.iload_n 1, 1) := by decide +kernel
theorem dX10_keepsBooks_20 : decode cX10_keepsBooks 20 = .ok (.iadd, 1) := by decide +kernel
theorem dX10_keepsBooks_21 : decode cX10_keepsBooks 21 = .ok (.aload_n 0, 1) := by decide +kernel
theorem dX10_keepsBooks_22 : decode cX10_keepsBooks 22 = .ok (.getfield 11, 3) := by decide +kernel
theorem dX10_keepsBooks_25 : decode cX10_keepsBooks 25 = .ok (.bipush 8, 2) := by decide +kernel
theorem dX10_keepsBooks_27 : decode cX10_keepsBooks 27 = .ok (.iload_n 1, 1) := by decide +kernel
theorem dX10_keepsBooks_28 : decode cX10_keepsBooks 28 = .ok (.iadd, 1) := by decide +kernel
theorem dX10_keepsBooks_29 : decode cX10_keepsBooks 29 = .ok (.iaload, 1) := by decide +kernel
theorem dX10_keepsBooks_30 : decode cX10_keepsBooks 30 = .ok (.iastore, 1) := by decide +kernel
theorem dX10_keepsBooks_31 : decode cX10_keepsBooks 31 = .ok (.iinc 1 1, 3) := by decide +kernel
theorem dX10_keepsBooks_34 : decode cX10_keepsBooks 34 = .ok (.goto (-32), 3) := by decide +kernel
theorem dX10_keepsBooks_37 : decode cX10_keepsBooks 37 = .ok (.aload_n 0, 1) := by decide +kernel
theorem dX10_keepsBooks_38 : decode cX10_keepsBooks 38 = .ok (.getfield 48, 3) := by decide +kernel
theorem dX10_keepsBooks_41 : decode cX10_keepsBooks 41 = .ok (.aload_n 0, 1) := by decide +kernel
theorem dX10_keepsBooks_42 : decode cX10_keepsBooks 42 = .ok (.getfield 172, 3) := by decide +kernel
theorem dX10_keepsBooks_45 : decode cX10_keepsBooks 45 = .ok (.aload_n 0, 1) := by decide +kernel
theorem dX10_keepsBooks_46 : decode cX10_keepsBooks 46 = .ok (.getfield 110, 3) := by decide +kernel
theorem dX10_keepsBooks_49 : decode cX10_keepsBooks 49 = .ok (.lastore, 1) := by decide +kernel
theorem dX10_keepsBooks_50 : decode cX10_keepsBooks 50 = .ok (.aload_n 0, 1) := by decide +kernel
theorem dX10_keepsBooks_51 : decode cX10_keepsBooks 51 = .ok (.dup, 1) := by decide +kernel
theorem dX10_keepsBooks_52 : decode cX10_keepsBooks 52 = .ok (.getfield 172, 3) := by decide +kernel
theorem dX10_keepsBooks_55 : decode cX10_keepsBooks 55 = .ok (.iconst 1, 1) := by decide +kernel
theorem dX10_keepsBooks_56 : decode cX10_keepsBooks 56 = .ok (.iadd, 1) := by decide +kernel
theorem dX10_keepsBooks_57 : decode cX10_keepsBooks 57 = .ok (.putfield 172, 3) := by decide +kernel
theorem dX10_keepsBooks_60 : decode cX10_keepsBooks 60 = .ok (.return_, 1) := by decide +kernel
theorem dX10_forgetsBooks_0 : decode cX10_forgetsBooks 0 = .ok (.aload_n 0, 1) := by decide +kernel
theorem dX10_forgetsBooks_1 : decode cX10_forgetsBooks 1 = .ok (.dup, 1) := by decide +kernel
theorem dX10_forgetsBooks_2 : decode cX10_forgetsBooks 2 = .ok (.getfield 172, 3) := by decide +kernel
theorem dX10_forgetsBooks_5 : decode cX10_forgetsBooks 5 = .ok (.iconst 1, 1) := by decide +kernel
theorem dX10_forgetsBooks_6 : decode cX10_forgetsBooks 6 = .ok (.isub, 1) := by decide +kernel
theorem dX10_forgetsBooks_7 : decode cX10_forgetsBooks 7 = .ok (.putfield 172, 3) := by decide +kernel
theorem dX10_forgetsBooks_10 : decode cX10_forgetsBooks 10 = .ok (.iconst 0, 1) := by decide +kernel
theorem dX10_forgetsBooks_11 : decode cX10_forgetsBooks 11 = .ok (.istore_n 2, 1) := by decide +kernel
theorem dX10_forgetsBooks_12 : decode cX10_forgetsBooks 12 = .ok (.iload_n 2, 1) := by decide +kernel
theorem dX10_forgetsBooks_13 : decode cX10_forgetsBooks 13 = .ok (.bipush 8, 2) := by decide +kernel
theorem dX10_forgetsBooks_15 : decode cX10_forgetsBooks 15 = .ok (.if_icmp .ge 36, 3) := by decide +kernel
theorem dX10_forgetsBooks_18 : decode cX10_forgetsBooks 18 = .ok (.iload_n 1, 1) := by decide +kernel
theorem dX10_forgetsBooks_19 : decode cX10_forgetsBooks 19 = .ok (.ifCond .eq 32, 3) := by decide +kernel
theorem dX10_forgetsBooks_22 : decode cX10_forgetsBooks 22 = .ok (.aload_n 0, 1) := by decide +kernel
theorem dX10_forgetsBooks_23 : decode cX10_forgetsBooks 23 = .ok (.getfield 11, 3) := by decide +kernel
theorem dX10_forgetsBooks_26 : decode cX10_forgetsBooks 26 = .ok (.bipush 8, 2) := by decide +kernel
theorem dX10_forgetsBooks_28 : decode cX10_forgetsBooks 28 = .ok (.iload_n 2, 1) := by decide +kernel
theorem dX10_forgetsBooks_29 : decode cX10_forgetsBooks 29 = .ok (.iadd, 1) := by decide +kernel
theorem dX10_forgetsBooks_30 : decode cX10_forgetsBooks 30 = .ok (.aload_n 0, 1) := by decide +kernel
theorem dX10_forgetsBooks_31 : decode cX10_forgetsBooks 31 = .ok (.getfield 45, 3) := by decide +kernel
theorem dX10_forgetsBooks_34 : decode cX10_forgetsBooks 34 = .ok (.bipush 8, 2) := by decide +kernel
theorem dX10_forgetsBooks_36 : decode cX10_forgetsBooks 36 = .ok (.aload_n 0, 1) := by decide +kernel
theorem dX10_forgetsBooks_37 : decode cX10_forgetsBooks 37 = .ok (.getfield 172, 3) := by decide +kernel
theorem dX10_forgetsBooks_40 : decode cX10_forgetsBooks 40 = .ok (.imul, 1) := by decide +kernel
theorem dX10_forgetsBooks_41 : decode cX10_forgetsBooks 41 = .ok (.iload_n 2, 1) := by decide +kernel
theorem dX10_forgetsBooks_42 : decode cX10_forgetsBooks 42 = .ok (.iadd, 1) := by decide +kernel
theorem dX10_forgetsBooks_43 : decode cX10_forgetsBooks 43 = .ok (.iaload, 1) := by decide +kernel
theorem dX10_forgetsBooks_44 : decode cX10_forgetsBooks 44 = .ok (.iastore, 1) := by decide +kernel
theorem dX10_forgetsBooks_45 : decode cX10_forgetsBooks 45 = .ok (.iinc 2 1, 3) := by decide +kernel
theorem dX10_forgetsBooks_48 : decode cX10_forgetsBooks 48 = .ok (.goto (-36), 3) := by decide +kernel
theorem dX10_forgetsBooks_51 : decode cX10_forgetsBooks 51 = .ok (.aload_n 0, 1) := by decide +kernel
theorem dX10_forgetsBooks_52 : decode cX10_forgetsBooks 52 = .ok (.iload_n 1, 1) := by decide +kernel
theorem dX10_forgetsBooks_53 : decode cX10_forgetsBooks 53 = .ok (.ifCond .eq 15, 3) := by decide +kernel
theorem dX10_forgetsBooks_56 : decode cX10_forgetsBooks 56 = .ok (.aload_n 0, 1) := by decide +kernel
theorem dX10_forgetsBooks_57 : decode cX10_forgetsBooks 57 = .ok (.getfield 48, 3) := by decide +kernel
theorem dX10_forgetsBooks_60 : decode cX10_forgetsBooks 60 = .ok (.aload_n 0, 1) := by decide +kernel
theorem dX10_forgetsBooks_61 : decode cX10_forgetsBooks 61 = .ok (.getfield 172, 3) := by decide +kernel
theorem dX10_forgetsBooks_64 : decode cX10_forgetsBooks 64 = .ok (.laload, 1) := by decide +kernel
theorem dX10_forgetsBooks_65 : decode cX10_forgetsBooks 65 = .ok (.goto 7, 3) := by decide +kernel
theorem dX10_forgetsBooks_68 : decode cX10_forgetsBooks 68 = .ok (.aload_n 0, 1) := by decide +kernel
theorem dX10_forgetsBooks_69 : decode cX10_forgetsBooks 69 = .ok (.getfield 110, 3) := by decide +kernel
theorem dX10_forgetsBooks_72 : decode cX10_forgetsBooks 72 = .ok (.putfield 110, 3) := by decide +kernel
theorem dX10_forgetsBooks_75 : decode cX10_forgetsBooks 75 = .ok (.return_, 1) := by decide +kernel
theorem dX10_does_0 : decode cX10_does 0 = .ok (.iload_n 1, 1) := by decide +kernel
theorem dX10_does_1 : decode cX10_does 1 = .ok (.istore_n 2, 1) := by decide +kernel
theorem dX10_does_2 : decode cX10_does 2 = .ok (.iconst 0, 1) := by decide +kernel
theorem dX10_does_3 : decode cX10_does 3 = .ok (.istore_n 3, 1) := by decide +kernel
theorem dX10_does_4 : decode cX10_does 4 = .ok (.iload_n 3, 1) := by decide +kernel
theorem dX10_does_5 : decode cX10_does 5 = .ok (.ifCond .ne 26, 3) := by decide +kernel
theorem dX10_does_8 : decode cX10_does 8 = .ok (.aload_n 0, 1) := by decide +kernel
theorem dX10_does_9 : decode cX10_does 9 = .ok (.iload_n 2, 1) := by decide +kernel
theorem dX10_does_10 : decode cX10_does 10 = .ok (.invokevirtual 166, 3) := by decide +kernel
theorem dX10_does_13 : decode cX10_does 13 = .ok (.ifCond .ne 18, 3) := by decide +kernel
theorem dX10_does_16 : decode cX10_does 16 = .ok (.aload_n 0, 1) := by decide +kernel
theorem dX10_does_17 : decode cX10_does 17 = .ok (.iload_n 2, 1) := by decide +kernel
theorem dX10_does_18 : decode cX10_does 18 = .ok (.invokevirtual 175, 3) := by decide +kernel
theorem dX10_does_21 : decode cX10_does 21 = .ok (.istore_n 3, 1) := by decide +kernel
theorem dX10_does_22 : decode cX10_does 22 = .ok (.aload_n 0, 1) := by decide +kernel
theorem dX10_does_23 : decode cX10_does 23 = .ok (.iload_n 2, 1) := by decide +kernel
theorem dX10_does_24 : decode cX10_does 24 = .ok (.invokevirtual 169, 3) := by decide +kernel
theorem dX10_does_27 : decode cX10_does 27 = .ok (.istore_n 2, 1) := by decide +kernel
theorem dX10_does_28 : decode cX10_does 28 = .ok (.goto (-24), 3) := by decide +kernel
theorem dX10_does_31 : decode cX10_does 31 = .ok (.iload_n 3, 1) := by decide +kernel
theorem dX10_does_32 : decode cX10_does 32 = .ok (.ireturn, 1) := by decide +kernel
theorem dX10_block_0 : decode cX10_block 0 = .ok (.aload_n 0, 1) := by decide +kernel
theorem dX10_block_1 : decode cX10_block 1 = .ok (.iload_n 1, 1) := by decide +kernel
theorem dX10_block_2 : decode cX10_block 2 = .ok (.iconst 1, 1) := by decide +kernel
theorem dX10_block_3 : decode cX10_block 3 = .ok (.iadd, 1) := by decide +kernel
theorem dX10_block_4 : decode cX10_block 4 = .ok (.invokevirtual 178, 3) := by decide +kernel
theorem dX10_block_7 : decode cX10_block 7 = .ok (.istore_n 2, 1) := by decide +kernel
theorem dX10_block_8 : decode cX10_block 8 = .ok (.aload_n 0, 1) := by decide +kernel
theorem dX10_block_9 : decode cX10_block 9 = .ok (.iload_n 2, 1) := by decide +kernel
theorem dX10_block_10 : decode cX10_block 10 = .ok (.invokevirtual 181, 3) := by decide +kernel
theorem dX10_block_13 : decode cX10_block 13 = .ok (.ifCond .ne 16, 3) := by decide +kernel
theorem dX10_block_16 : decode cX10_block 16 = .ok (.aload_n 0, 1) := by decide +kernel
theorem dX10_block_17 : decode cX10_block 17 = .ok (.getfield 11, 3) := by decide +kernel
theorem dX10_block_20 : decode cX10_block 20 = .ok (.bipush 56, 2) := by decide +kernel
theorem dX10_block_22 : decode cX10_block 22 = .ok (.dup2, 1) := by decide +kernel
theorem dX10_block_23 : decode cX10_block 23 = .ok (.iaload, 1) := by decide +kernel
theorem dX10_block_24 : decode cX10_block 24 = .ok (.iconst 1, 1) := by decide +kernel
theorem dX10_block_25 : decode cX10_block 25 = .ok (.iadd, 1) := by decide +kernel
theorem dX10_block_26 : decode cX10_block 26 = .ok (.iastore, 1) := by decide +kernel
theorem dX10_block_27 : decode cX10_block 27 = .ok (.iconst 0, 1) := by decide +kernel
theorem dX10_block_28 : decode cX10_block 28 = .ok (.ireturn, 1) := by decide +kernel
theorem dX10_block_29 : decode cX10_block 29 = .ok (.aload_n 0, 1) := by decide +kernel
theorem dX10_block_30 : decode cX10_block 30 = .ok (.getfield 36, 3) := by decide +kernel
theorem dX10_block_33 : decode cX10_block 33 = .ok (.iload_n 2, 1) := by decide +kernel
theorem dX10_block_34 : decode cX10_block 34 = .ok (.iaload, 1) := by decide +kernel
theorem dX10_block_35 : decode cX10_block 35 = .ok (.ifCond .ne 30, 3) := by decide +kernel
theorem dX10_block_38 : decode cX10_block 38 = .ok (.iload_n 2, 1) := by decide +kernel
theorem dX10_block_39 : decode cX10_block 39 = .ok (.iconst 1, 1) := by decide +kernel
theorem dX10_block_40 : decode cX10_block 40 = .ok (.iadd, 1) := by decide +kernel
theorem dX10_block_41 : decode cX10_block 41 = .ok (.istore_n 3, 1) := by decide +kernel
theorem dX10_block_42 : decode cX10_block 42 = .ok (.iload_n 3, 1) := by decide +kernel
theorem dX10_block_43 : decode cX10_block 43 = .ok (.bipush 8, 2) := by decide +kernel
theorem dX10_block_45 : decode cX10_block 45 = .ok (.if_icmp .ge 20, 3) := by decide +kernel
theorem dX10_block_48 : decode cX10_block 48 = .ok (.aload_n 0, 1) := by decide +kernel
theorem dX10_block_49 : decode cX10_block 49 = .ok (.getfield 36, 3) := by decide +kernel
theorem dX10_block_52 : decode cX10_block 52 = .ok (.iload_n 3, 1) := by decide +kernel
theorem dX10_block_53 : decode cX10_block 53 = .ok (.iaload, 1) := by decide +kernel
theorem dX10_block_54 : decode cX10_block 54 = .ok (.ifCond .le 5, 3) := by decide +kernel
theorem dX10_block_57 : decode cX10_block 57 = .ok (.iconst 3, 1) := by decide +kernel
theorem dX10_block_58 : decode cX10_block 58 = .ok (.ireturn, 1) := by decide +kernel
theorem dX10_block_59 : decode cX10_block 59 = .ok (.iinc 3 1, 3) := by decide +kernel
theorem dX10_block_62 : decode cX10_block 62 = .ok (.goto (-20), 3) := by decide +kernel
theorem dX10_block_65 : decode cX10_block 65 = .ok (.aload_n 0, 1) := by decide +kernel
theorem dX10_block_66 : decode cX10_block 66 = .ok (.getfield 11, 3) := by decide +kernel
theorem dX10_block_69 : decode cX10_block 69 = .ok (.bipush 32, 2) := by decide +kernel
theorem dX10_block_71 : decode cX10_block 71 = .ok (.iload_n 2, 1) := by decide +kernel
theorem dX10_block_72 : decode cX10_block 72 = .ok (.iadd, 1) := by decide +kernel
theorem dX10_block_73 : decode cX10_block 73 = .ok (.dup2, 1) := by decide +kernel
theorem dX10_block_74 : decode cX10_block 74 = .ok (.iaload, 1) := by decide +kernel
theorem dX10_block_75 : decode cX10_block 75 = .ok (.iconst 1, 1) := by decide +kernel
theorem dX10_block_76 : decode cX10_block 76 = .ok (.iadd, 1) := by decide +kernel
theorem dX10_block_77 : decode cX10_block 77 = .ok (.iastore, 1) := by decide +kernel
theorem dX10_block_78 : decode cX10_block 78 = .ok (.aload_n 0, 1) := by decide +kernel
theorem dX10_block_79 : decode cX10_block 79 = .ok (.getfield 11, 3) := by decide +kernel
theorem dX10_block_82 : decode cX10_block 82 = .ok (.bipush 48, 2) := by decide +kernel
theorem dX10_block_84 : decode cX10_block 84 = .ok (.iload_n 2, 1) := by decide +kernel
theorem dX10_block_85 : decode cX10_block 85 = .ok (.iadd, 1) := by decide +kernel
theorem dX10_block_86 : decode cX10_block 86 = .ok (.dup2, 1) := by decide +kernel
theorem dX10_block_87 : decode cX10_block 87 = .ok (.iaload, 1) := by decide +kernel
theorem dX10_block_88 : decode cX10_block 88 = .ok (.aload_n 0, 1) := by decide +kernel
theorem dX10_block_89 : decode cX10_block 89 = .ok (.getfield 36, 3) := by decide +kernel
theorem dX10_block_92 : decode cX10_block 92 = .ok (.iload_n 2, 1) := by decide +kernel
theorem dX10_block_93 : decode cX10_block 93 = .ok (.iaload, 1) := by decide +kernel
theorem dX10_block_94 : decode cX10_block 94 = .ok (.ifCond .le 7, 3) := by decide +kernel
theorem dX10_block_97 : decode cX10_block 97 = .ok (.iconst 1, 1) := by decide +kernel
theorem dX10_block_98 : decode cX10_block 98 = .ok (.goto 4, 3) := by decide +kernel
theorem dX10_block_101 : decode cX10_block 101 = .ok (.iconst 0, 1) := by decide +kernel
theorem dX10_block_102 : decode cX10_block 102 = .ok (.iadd, 1) := by decide +kernel
theorem dX10_block_103 : decode cX10_block 103 = .ok (.iastore, 1) := by decide +kernel
theorem dX10_block_104 : decode cX10_block 104 = .ok (.aload_n 0, 1) := by decide +kernel
theorem dX10_block_105 : decode cX10_block 105 = .ok (.getfield 36, 3) := by decide +kernel
theorem dX10_block_108 : decode cX10_block 108 = .ok (.iload_n 2, 1) := by decide +kernel
theorem dX10_block_109 : decode cX10_block 109 = .ok (.dup2, 1) := by decide +kernel
theorem dX10_block_110 : decode cX10_block 110 = .ok (.iaload, 1) := by decide +kernel
theorem dX10_block_111 : decode cX10_block 111 = .ok (.iconst 1, 1) := by decide +kernel
theorem dX10_block_112 : decode cX10_block 112 = .ok (.iadd, 1) := by decide +kernel
theorem dX10_block_113 : decode cX10_block 113 = .ok (.iastore, 1) := by decide +kernel
theorem dX10_block_114 : decode cX10_block 114 = .ok (.aload_n 0, 1) := by decide +kernel
theorem dX10_block_115 : decode cX10_block 115 = .ok (.bipush 10, 2) := by decide +kernel
theorem dX10_block_117 : decode cX10_block 117 = .ok (.iload_n 2, 1) := by decide +kernel
theorem dX10_block_118 : decode cX10_block 118 = .ok (.iadd, 1) := by decide +kernel
theorem dX10_block_119 : decode cX10_block 119 = .ok (.invokevirtual 184, 3) := by decide +kernel
theorem dX10_block_122 : decode cX10_block 122 = .ok (.aload_n 0, 1) := by decide +kernel
theorem dX10_block_123 : decode cX10_block 123 = .ok (.aload_n 0, 1) := by decide +kernel
theorem dX10_block_124 : decode cX10_block 124 = .ok (.iload_n 1, 1) := by decide +kernel
theorem dX10_block_125 : decode cX10_block 125 = .ok (.invokevirtual 163, 3) := by decide +kernel
theorem dX10_block_128 : decode cX10_block 128 = .ok (.invokevirtual 187, 3) := by decide +kernel
theorem dX10_block_131 : decode cX10_block 131 = .ok (.istore_n 3, 1) := by decide +kernel
theorem dX10_block_132 : decode cX10_block 132 = .ok (.aload_n 0, 1) := by decide +kernel
theorem dX10_block_133 : decode cX10_block 133 = .ok (.getfield 36, 3) := by decide +kernel
theorem dX10_block_136 : decode cX10_block 136 = .ok (.iload_n 2, 1) := by decide +kernel
theorem dX10_block_137 : decode cX10_block 137 = .ok (.dup2, 1) := by decide +kernel
theorem dX10_block_138 : decode cX10_block 138 = .ok (.iaload, 1) := by decide +kernel
theorem dX10_block_139 : decode cX10_block 139 = .ok (.iconst 1, 1) := by decide +kernel
theorem dX10_block_140 : decode cX10_block 140 = .ok (.isub, 1) := by decide +kernel
theorem dX10_block_141 : decode cX10_block 141 = .ok (.iastore, 1) := by decide +kernel
theorem dX10_block_142 : decode cX10_block 142 = .ok (.aload_n 0, 1) := by decide +kernel
theorem dX10_block_143 : decode cX10_block 143 = .ok (.getfield 11, 3) := by decide +kernel
theorem dX10_block_146 : decode cX10_block 146 = .ok (.bipush 40, 2) := by decide +kernel
theorem dX10_block_148 : decode cX10_block 148 = .ok (.iload_n 2, 1) := by decide +kernel
theorem dX10_block_149 : decode cX10_block 149 = .ok (.iadd, 1) := by decide +kernel
theorem dX10_block_150 : decode cX10_block 150 = .ok (.dup2, 1) := by decide +kernel
theorem dX10_block_151 : decode cX10_block 151 = .ok (.iaload, 1) := by decide +kernel
theorem dX10_block_152 : decode cX10_block 152 = .ok (.iconst 1, 1) := by decide +kernel
theorem dX10_block_153 : decode cX10_block 153 = .ok (.iadd, 1) := by decide +kernel
theorem dX10_block_154 : decode cX10_block 154 = .ok (.iastore, 1) := by decide +kernel
theorem dX10_block_155 : decode cX10_block 155 = .ok (.aload_n 0, 1) := by decide +kernel
theorem dX10_block_156 : decode cX10_block 156 = .ok (.bipush 20, 2) := by decide +kernel
theorem dX10_block_158 : decode cX10_block 158 = .ok (.iload_n 2, 1) := by decide +kernel
theorem dX10_block_159 : decode cX10_block 159 = .ok (.iadd, 1) := by decide +kernel
theorem dX10_block_160 : decode cX10_block 160 = .ok (.invokevirtual 184, 3) := by decide +kernel
theorem dX10_block_163 : decode cX10_block 163 = .ok (.iload_n 3, 1) := by decide +kernel
theorem dX10_block_164 : decode cX10_block 164 = .ok (.ireturn, 1) := by decide +kernel
theorem dX10_pays_0 : decode cX10_pays 0 = .ok (.aload_n 0, 1) := by decide +kernel
theorem dX10_pays_1 : decode cX10_pays 1 = .ok (.iload_n 1, 1) := by decide +kernel
theorem dX10_pays_2 : decode cX10_pays 2 = .ok (.iconst 1, 1) := by decide +kernel
theorem dX10_pays_3 : decode cX10_pays 3 = .ok (.iadd, 1) := by decide +kernel
theorem dX10_pays_4 : decode cX10_pays 4 = .ok (.invokevirtual 178, 3) := by decide +kernel
theorem dX10_pays_7 : decode cX10_pays 7 = .ok (.istore_n 2, 1) := by decide +kernel
theorem dX10_pays_8 : decode cX10_pays 8 = .ok (.aload_n 0, 1) := by decide +kernel
theorem dX10_pays_9 : decode cX10_pays 9 = .ok (.iload_n 1, 1) := by decide +kernel
theorem dX10_pays_10 : decode cX10_pays 10 = .ok (.iconst 2, 1) := by decide +kernel
theorem dX10_pays_11 : decode cX10_pays 11 = .ok (.iadd, 1) := by decide +kernel
theorem dX10_pays_12 : decode cX10_pays 12 = .ok (.invokevirtual 178, 3) := by decide +kernel
theorem dX10_pays_15 : decode cX10_pays 15 = .ok (.istore_n 3, 1) := by decide +kernel
theorem dX10_pays_16 : decode cX10_pays 16 = .ok (.iconst 0, 1) := by decide +kernel
theorem dX10_pays_17 : decode cX10_pays 17 = .ok (.istore 4, 2) := by decide +kernel
theorem dX10_pays_19 : decode cX10_pays 19 = .ok (.aload_n 0, 1) := by decide +kernel
theorem dX10_pays_20 : decode cX10_pays 20 = .ok (.iload_n 1, 1) := by decide +kernel
theorem dX10_pays_21 : decode cX10_pays 21 = .ok (.invokevirtual 169, 3) := by decide +kernel
theorem dX10_pays_24 : decode cX10_pays 24 = .ok (.istore 5, 2) := by decide +kernel
theorem dX10_pays_26 : decode cX10_pays 26 = .ok (.iload_n 1, 1) := by decide +kernel
theorem dX10_pays_27 : decode cX10_pays 27 = .ok (.iconst 3, 1) := by decide +kernel
theorem dX10_pays_28 : decode cX10_pays 28 = .ok (.iadd, 1) := by decide +kernel
theorem dX10_pays_29 : decode cX10_pays 29 = .ok (.istore 6, 2) := by decide +kernel
theorem dX10_pays_31 : decode cX10_pays 31 = .ok (.iload 6, 2) := by decide +kernel
theorem dX10_pays_33 : decode cX10_pays 33 = .ok (.iload 5, 2) := by decide +kernel
theorem dX10_pays_35 : decode cX10_pays 35 = .ok (.if_icmp .ge 23, 3) := by decide +kernel
theorem dX10_pays_38 : decode cX10_pays 38 = .ok (.bipush 10, 2) := by decide +kernel
theorem dX10_pays_40 : decode cX10_pays 40 = .ok (.iload 4, 2) := by decide +kernel
theorem dX10_pays_42 : decode cX10_pays 42 = .ok (.imul, 1) := by decide +kernel
theorem dX10_pays_43 : decode cX10_pays 43 = .ok (.aload_n 0, 1) := by decide +kernel
theorem dX10_pays_44 : decode cX10_pays 44 = .ok (.iload 6, 2) := by decide +kernel
theorem dX10_pays_46 : decode cX10_pays 46 = .ok (.invokevirtual 178, 3) := by decide +kernel
theorem dX10_pays_49 : decode cX10_pays 49 = .ok (.iadd, 1) := by decide +kernel
theorem dX10_pays_50 : decode cX10_pays 50 = .ok (.istore 4, 2) := by decide +kernel
theorem dX10_pays_52 : decode cX10_pays 52 = .ok (.iinc 6 1, 3) := by decide +kernel
theorem dX10_pays_55 : decode cX10_pays 55 = .ok (.goto (-24), 3) := by decide +kernel
theorem dX10_pays_58 : decode cX10_pays 58 = .ok (.aload_n 0, 1) := by decide +kernel
theorem dX10_pays_59 : decode cX10_pays 59 = .ok (.iload_n 2, 1) := by decide +kernel
theorem dX10_pays_60 : decode cX10_pays 60 = .ok (.invokevirtual 75, 3) := by decide +kernel
theorem dX10_pays_63 : decode cX10_pays 63 = .ok (.ifCond .eq 34, 3) := by decide +kernel
theorem dX10_pays_66 : decode cX10_pays 66 = .ok (.aload_n 0, 1) := by decide +kernel
theorem dX10_pays_67 : decode cX10_pays 67 = .ok (.iload_n 3, 1) := by decide +kernel
theorem dX10_pays_68 : decode cX10_pays 68 = .ok (.invokevirtual 75, 3) := by decide +kernel
theorem dX10_pays_71 : decode cX10_pays 71 = .ok (.ifCond .eq 26, 3) := by decide +kernel
theorem dX10_pays_74 : decode cX10_pays 74 = .ok (.iload_n 2, 1) := by decide +kernel
theorem dX10_pays_75 : decode cX10_pays 75 = .ok (.iload_n 3, 1) := by decide +kernel
theorem dX10_pays_76 : decode cX10_pays 76 = .ok (.if_icmp .eq 21, 3) := by decide +kernel
theorem dX10_pays_79 : decode cX10_pays 79 = .ok (.aload_n 0, 1) := by decide +kernel
theorem dX10_pays_80 : decode cX10_pays 80 = .ok (.getfield 36, 3) := by decide +kernel
theorem dX10_pays_83 : decode cX10_pays 83 = .ok (.iload_n 2, 1) := by decide +kernel
theorem dX10_pays_84 : decode cX10_pays 84 = .ok (.iaload, 1) := by decide +kernel
theorem dX10_pays_85 : decode cX10_pays 85 = .ok (.ifCond .eq 12, 3) := by decide +kernel
theorem dX10_pays_88 : decode cX10_pays 88 = .ok (.aload_n 0, 1) := by decide +kernel
theorem dX10_pays_89 : decode cX10_pays 89 = .ok (.getfield 36, 3) := by decide +kernel
theorem dX10_pays_92 : decode cX10_pays 92 = .ok (.iload_n 3, 1) := by decide +kernel
theorem dX10_pays_93 : decode cX10_pays 93 = .ok (.iaload, 1) := by decide +kernel
theorem dX10_pays_94 : decode cX10_pays 94 = .ok (.ifCond .ne 5, 3) := by decide +kernel
theorem dX10_pays_97 : decode cX10_pays 97 = .ok (.iconst 2, 1) := by decide +kernel
theorem dX10_pays_98 : decode cX10_pays 98 = .ok (.ireturn, 1) := by decide +kernel
theorem dX10_pays_99 : decode cX10_pays 99 = .ok (.aload_n 0, 1) := by decide +kernel
theorem dX10_pays_100 : decode cX10_pays 100 = .ok (.iload_n 2, 1) := by decide +kernel
theorem dX10_pays_101 : decode cX10_pays 101 = .ok (.iload 4, 2) := by decide +kernel
theorem dX10_pays_103 : decode cX10_pays 103 = .ok (.invokevirtual 83, 3) := by decide +kernel
theorem dX10_pays_106 : decode cX10_pays 106 = .ok (.istore 6, 2) := by decide +kernel
theorem dX10_pays_108 : decode cX10_pays 108 = .ok (.aload_n 0, 1) := by decide +kernel
theorem dX10_pays_109 : decode cX10_pays 109 = .ok (.getfield 11, 3) := by decide +kernel
theorem dX10_pays_112 : decode cX10_pays 112 = .ok (.bipush 8, 2) := by decide +kernel
theorem dX10_pays_114 : decode cX10_pays 114 = .ok (.iload_n 2, 1) := by decide +kernel
theorem dX10_pays_115 : decode cX10_pays 115 = .ok (.iadd, 1) := by decide +kernel
theorem dX10_pays_116 : decode cX10_pays 116 = .ok (.iaload, 1) := by decide +kernel
theorem dX10_pays_117 : decode cX10_pays 117 = .ok (.i2l, 1) := by decide +kernel
theorem dX10_pays_118 : decode cX10_pays 118 = .ok (.iload 4, 2) := by decide +kernel
theorem dX10_pays_120 : decode cX10_pays 120 = .ok (.i2l, 1) := by decide +kernel
theorem dX10_pays_121 : decode cX10_pays 121 = .ok (.lsub, 1) := by decide +kernel
theorem dX10_pays_122 : decode cX10_pays 122 = .ok (.iload 6, 2) := by decide +kernel
theorem dX10_pays_124 : decode cX10_pays 124 = .ok (.i2l, 1) := by decide +kernel
theorem dX10_pays_125 : decode cX10_pays 125 = .ok (.lsub, 1) := by decide +kernel
theorem dX10_pays_126 : decode cX10_pays 126 = .ok (.aload_n 0, 1) := by decide +kernel
theorem dX10_pays_127 : decode cX10_pays 127 = .ok (.iload_n 2, 1) := by decide +kernel
theorem dX10_pays_128 : decode cX10_pays 128 = .ok (.invokevirtual 92, 3) := by decide +kernel
theorem dX10_pays_131 : decode cX10_pays 131 = .ok (.i2l, 1) := by decide +kernel
theorem dX10_pays_132 : decode cX10_pays 132 = .ok (.lcmp, 1) := by decide +kernel
theorem dX10_pays_133 : decode cX10_pays 133 = .ok (.ifCond .lt 24, 3) := by decide +kernel
theorem dX10_pays_136 : decode cX10_pays 136 = .ok (.aload_n 0, 1) := by decide +kernel
theorem dX10_pays_137 : decode cX10_pays 137 = .ok (.getfield 11, 3) := by decide +kernel
theorem dX10_pays_140 : decode cX10_pays 140 = .ok (.bipush 8, 2) := by decide +kernel
theorem dX10_pays_142 : decode cX10_pays 142 = .ok (.iload_n 3, 1) := by decide +kernel
theorem dX10_pays_143 : decode cX10_pays 143 = .ok (.iadd, 1) := by decide +kernel
theorem dX10_pays_144 : decode cX10_pays 144 = .ok (.iaload, 1) := by decide +kernel
theorem dX10_pays_145 : decode cX10_pays 145 = .ok (.i2l, 1) := by decide +kernel
theorem dX10_pays_146 : decode cX10_pays 146 = .ok (.iload 4, 2) := by decide +kernel
theorem dX10_pays_148 : decode cX10_pays 148 = .ok (.i2l, 1) := by decide +kernel
theorem dX10_pays_149 : decode cX10_pays 149 = .ok (.ladd, 1) := by decide +kernel
theorem dX10_pays_150 : decode cX10_pays 150 = .ok (.ldc2_w 73, 3) := by decide +kernel
theorem dX10_pays_153 : decode cX10_pays 153 = .ok (.lcmp, 1) := by decide +kernel
theorem dX10_pays_154 : decode cX10_pays 154 = .ok (.ifCond .le 5, 3) := by decide +kernel
theorem dX10_pays_157 : decode cX10_pays 157 = .ok (.iconst 1, 1) := by decide +kernel
theorem dX10_pays_158 : decode cX10_pays 158 = .ok (.ireturn, 1) := by decide +kernel
theorem dX10_pays_159 : decode cX10_pays 159 = .ok (.aload_n 0, 1) := by decide +kernel
theorem dX10_pays_160 : decode cX10_pays 160 = .ok (.getfield 11, 3) := by decide +kernel
theorem dX10_pays_163 : decode cX10_pays 163 = .ok (.bipush 8, 2) := by decide +kernel
theorem dX10_pays_165 : decode cX10_pays 165 = .ok (.iload_n 2, 1) := by decide +kernel
theorem dX10_pays_166 : decode cX10_pays 166 = .ok (.iadd, 1) := by decide +kernel
theorem dX10_pays_167 : decode cX10_pays 167 = .ok (.dup2, 1) := by decide +kernel
theorem dX10_pays_168 : decode cX10_pays 168 = .ok (.iaload, 1) := by decide +kernel
theorem dX10_pays_169 : decode cX10_pays 169 = .ok (.iload 4, 2) := by decide +kernel
theorem dX10_pays_171 : decode cX10_pays 171 = .ok (.iload 6, 2) := by decide +kernel
theorem dX10_pays_173 : decode cX10_pays 173 = .ok (.iadd, 1) := by decide +kernel
theorem dX10_pays_174 : decode cX10_pays 174 = .ok (.isub, 1) := by decide +kernel
theorem dX10_pays_175 : decode cX10_pays 175 = .ok (.iastore, 1) := by decide +kernel
theorem dX10_pays_176 : decode cX10_pays 176 = .ok (.aload_n 0, 1) := by decide +kernel
theorem dX10_pays_177 : decode cX10_pays 177 = .ok (.getfield 11, 3) := by decide +kernel
theorem dX10_pays_180 : decode cX10_pays 180 = .ok (.bipush 8, 2) := by decide +kernel
theorem dX10_pays_182 : decode cX10_pays 182 = .ok (.iload_n 3, 1) := by decide +kernel
theorem dX10_pays_183 : decode cX10_pays 183 = .ok (.iadd, 1) := by decide +kernel
theorem dX10_pays_184 : decode cX10_pays 184 = .ok (.dup2, 1) := by decide +kernel
theorem dX10_pays_185 : decode cX10_pays 185 = .ok (.iaload, 1) := by decide +kernel
theorem dX10_pays_186 : decode cX10_pays 186 = .ok (.iload 4, 2) := by decide +kernel
theorem dX10_pays_188 : decode cX10_pays 188 = .ok (.iadd, 1) := by decide +kernel
theorem dX10_pays_189 : decode cX10_pays 189 = .ok (.iastore, 1) := by decide +kernel
theorem dX10_pays_190 : decode cX10_pays 190 = .ok (.aload_n 0, 1) := by decide +kernel
theorem dX10_pays_191 : decode cX10_pays 191 = .ok (.dup, 1) := by decide +kernel
theorem dX10_pays_192 : decode cX10_pays 192 = .ok (.getfield 110, 3) := by decide +kernel
theorem dX10_pays_195 : decode cX10_pays 195 = .ok (.iload 6, 2) := by decide +kernel
theorem dX10_pays_197 : decode cX10_pays 197 = .ok (.i2l, 1) := by decide +kernel
theorem dX10_pays_198 : decode cX10_pays 198 = .ok (.ladd, 1) := by decide +kernel
theorem dX10_pays_199 : decode cX10_pays 199 = .ok (.putfield 110, 3) := by decide +kernel
theorem dX10_pays_202 : decode cX10_pays 202 = .ok (.aload_n 0, 1) := by decide +kernel
theorem dX10_pays_203 : decode cX10_pays 203 = .ok (.bipush 100, 2) := by decide +kernel
theorem dX10_pays_205 : decode cX10_pays 205 = .ok (.bipush 10, 2) := by decide +kernel
theorem dX10_pays_207 : decode cX10_pays 207 = .ok (.iload_n 2, 1) := by decide +kernel
theorem dX10_pays_208 : decode cX10_pays 208 = .ok (.imul, 1) := by decide +kernel
theorem dX10_pays_209 : decode cX10_pays 209 = .ok (.iadd, 1) := by decide +kernel
theorem dX10_pays_210 : decode cX10_pays 210 = .ok (.iload_n 3, 1) := by decide +kernel
theorem dX10_pays_211 : decode cX10_pays 211 = .ok (.iadd, 1) := by decide +kernel
theorem dX10_pays_212 : decode cX10_pays 212 = .ok (.invokevirtual 184, 3) := by decide +kernel
theorem dX10_pays_215 : decode cX10_pays 215 = .ok (.iconst 0, 1) := by decide +kernel
theorem dX10_pays_216 : decode cX10_pays 216 = .ok (.ireturn, 1) := by decide +kernel
theorem dX10_rings_0 : decode cX10_rings 0 = .ok (.aload_n 0, 1) := by decide +kernel
theorem dX10_rings_1 : decode cX10_rings 1 = .ok (.iload_n 1, 1) := by decide +kernel
theorem dX10_rings_2 : decode cX10_rings 2 = .ok (.invokevirtual 181, 3) := by decide +kernel
theorem dX10_rings_5 : decode cX10_rings 5 = .ok (.ifCond .ne 17, 3) := by decide +kernel
theorem dX10_rings_8 : decode cX10_rings 8 = .ok (.aload_n 0, 1) := by decide +kernel
theorem dX10_rings_9 : decode cX10_rings 9 = .ok (.getfield 11, 3) := by decide +kernel
theorem dX10_rings_12 : decode cX10_rings 12 = .ok (.bipush 56, 2) := by decide +kernel
theorem dX10_rings_14 : decode cX10_rings 14 = .ok (.dup2, 1) := by decide +kernel
theorem dX10_rings_15 : decode cX10_rings 15 = .ok (.iaload, 1) := by decide +kernel
theorem dX10_rings_16 : decode cX10_rings 16 = .ok (.iconst 1, 1) := by decide +kernel
theorem dX10_rings_17 : decode cX10_rings 17 = .ok (.iadd, 1) := by decide +kernel
theorem dX10_rings_18 : decode cX10_rings 18 = .ok (.iastore, 1) := by decide +kernel
theorem dX10_rings_19 : decode cX10_rings 19 = .ok (.goto 53, 3) := by decide +kernel
theorem dX10_rings_22 : decode cX10_rings 22 = .ok (.aload_n 0, 1) := by decide +kernel
theorem dX10_rings_23 : decode cX10_rings 23 = .ok (.getfield 36, 3) := by decide +kernel
theorem dX10_rings_26 : decode cX10_rings 26 = .ok (.iload_n 1, 1) := by decide +kernel
theorem dX10_rings_27 : decode cX10_rings 27 = .ok (.iaload, 1) := by decide +kernel
theorem dX10_rings_28 : decode cX10_rings 28 = .ok (.ifCond .le 25, 3) := by decide +kernel
theorem dX10_rings_31 : decode cX10_rings 31 = .ok (.aload_n 0, 1) := by decide +kernel
theorem dX10_rings_32 : decode cX10_rings 32 = .ok (.getfield 11, 3) := by decide +kernel
theorem dX10_rings_35 : decode cX10_rings 35 = .ok (.bipush 57, 2) := by decide +kernel
theorem dX10_rings_37 : decode cX10_rings 37 = .ok (.dup2, 1) := by decide +kernel
theorem dX10_rings_38 : decode cX10_rings 38 = .ok (.iaload, 1) := by decide +kernel
theorem dX10_rings_39 : decode cX10_rings 39 = .ok (.iload_n 2, 1) := by decide +kernel
theorem dX10_rings_40 : decode cX10_rings 40 = .ok (.iadd, 1) := by decide +kernel
theorem dX10_rings_41 : decode cX10_rings 41 = .ok (.iastore, 1) := by decide +kernel
theorem dX10_rings_42 : decode cX10_rings 42 = .ok (.aload_n 0, 1) := by decide +kernel
theorem dX10_rings_43 : decode cX10_rings 43 = .ok (.bipush 30, 2) := by decide +kernel
theorem dX10_rings_45 : decode cX10_rings 45 = .ok (.iload_n 1, 1) := by decide +kernel
theorem dX10_rings_46 : decode cX10_rings 46 = .ok (.iadd, 1) := by decide +kernel
theorem dX10_rings_47 : decode cX10_rings 47 = .ok (.invokevirtual 184, 3) := by decide +kernel
theorem dX10_rings_50 : decode cX10_rings 50 = .ok (.goto 22, 3) := by decide +kernel
theorem dX10_rings_53 : decode cX10_rings 53 = .ok (.aload_n 0, 1) := by decide +kernel
theorem dX10_rings_54 : decode cX10_rings 54 = .ok (.getfield 11, 3) := by decide +kernel
theorem dX10_rings_57 : decode cX10_rings 57 = .ok (.bipush 58, 2) := by decide +kernel
theorem dX10_rings_59 : decode cX10_rings 59 = .ok (.dup2, 1) := by decide +kernel
theorem dX10_rings_60 : decode cX10_rings 60 = .ok (.iaload, 1) := by decide +kernel
theorem dX10_rings_61 : decode cX10_rings 61 = .ok (.iconst 1, 1) := by decide +kernel
theorem dX10_rings_62 : decode cX10_rings 62 = .ok (.iadd, 1) := by decide +kernel
theorem dX10_rings_63 : decode cX10_rings 63 = .ok (.iastore, 1) := by decide +kernel
theorem dX10_rings_64 : decode cX10_rings 64 = .ok (.aload_n 0, 1) := by decide +kernel
theorem dX10_rings_65 : decode cX10_rings 65 = .ok (.bipush 40, 2) := by decide +kernel
theorem dX10_rings_67 : decode cX10_rings 67 = .ok (.iload_n 1, 1) := by decide +kernel
theorem dX10_rings_68 : decode cX10_rings 68 = .ok (.iadd, 1) := by decide +kernel
theorem dX10_rings_69 : decode cX10_rings 69 = .ok (.invokevirtual 184, 3) := by decide +kernel
theorem dX10_rings_72 : decode cX10_rings 72 = .ok (.iconst 0, 1) := by decide +kernel
theorem dX10_rings_73 : decode cX10_rings 73 = .ok (.ireturn, 1) := by decide +kernel
theorem dX10_loops_0 : decode cX10_loops 0 = .ok (.aload_n 0, 1) := by decide +kernel
theorem dX10_loops_1 : decode cX10_loops 1 = .ok (.iload_n 1, 1) := by decide +kernel
theorem dX10_loops_2 : decode cX10_loops 2 = .ok (.iconst 1, 1) := by decide +kernel
theorem dX10_loops_3 : decode cX10_loops 3 = .ok (.iadd, 1) := by decide +kernel
theorem dX10_loops_4 : decode cX10_loops 4 = .ok (.invokevirtual 178, 3) := by decide +kernel
theorem dX10_loops_7 : decode cX10_loops 7 = .ok (.istore_n 2, 1) := by decide +kernel
theorem dX10_loops_8 : decode cX10_loops 8 = .ok (.iload_n 2, 1) := by decide +kernel
