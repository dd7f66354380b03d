theorem dX5_leadsBack_19 : decode cX5_leadsBack 19 = .ok (.iload_n 1, 1) := by decide +kernel
theorem dX5_leadsBack_20 : decode cX5_leadsBack 20 = .ok (.iconst 1, 1) := by decide +kernel
theorem dX5_leadsBack_21 : decode cX5_leadsBack 21 = .ok (.bastore, 1) := by decide +kernel
theorem dX5_leadsBack_22 : decode cX5_leadsBack 22 = .ok (.iload_n 3, 1) := by decide +kernel
theorem dX5_leadsBack_23 : decode cX5_leadsBack 23 = .ok (.ifCond .le 24, 3) := by decide +kernel
theorem dX5_leadsBack_26 : decode cX5_leadsBack 26 = .ok (.aload_n 0, 1) := by decide +kernel
theorem dX5_leadsBack_27 : decode cX5_leadsBack 27 = .ok (.getfield 19, 3) := by decide +kernel
theorem dX5_leadsBack_30 : decode cX5_leadsBack 30 = .ok (.iload_n 1, 1) := by decide +kernel
theorem dX5_leadsBack_31 : decode cX5_leadsBack 31 = .ok (.iload_n 2, 1) := by decide +kernel
theorem dX5_leadsBack_32 : decode cX5_leadsBack 32 = .ok (.invokevirtual 34, 3) := by decide +kernel
theorem dX5_leadsBack_35 : decode cX5_leadsBack 35 = .ok (.ifCond .le 12, 3) := by decide +kernel
theorem dX5_leadsBack_38 : decode cX5_leadsBack 38 = .ok (.aload_n 0, 1) := by decide +kernel
theorem dX5_leadsBack_39 : decode cX5_leadsBack 39 = .ok (.iload_n 3, 1) := by decide +kernel
theorem dX5_leadsBack_40 : decode cX5_leadsBack 40 = .ok (.iconst 1, 1) := by decide +kernel
theorem dX5_leadsBack_41 : decode cX5_leadsBack 41 = .ok (.iadd, 1) := by decide +kernel
theorem dX5_leadsBack_42 : decode cX5_leadsBack 42 = .ok (.putfield 40, 3) := by decide +kernel
theorem dX5_leadsBack_45 : decode cX5_leadsBack 45 = .ok (.iconst 1, 1) := by decide +kernel
theorem dX5_leadsBack_46 : decode cX5_leadsBack 46 = .ok (.ireturn, 1) := by decide +kernel
theorem dX5_leadsBack_47 : decode cX5_leadsBack 47 = .ok (.iconst 0, 1) := by decide +kernel
theorem dX5_leadsBack_48 : decode cX5_leadsBack 48 = .ok (.istore 5, 2) := by decide +kernel
theorem dX5_leadsBack_50 : decode cX5_leadsBack 50 = .ok (.iload 5, 2) := by decide +kernel
theorem dX5_leadsBack_52 : decode cX5_leadsBack 52 = .ok (.iload 4, 2) := by decide +kernel
theorem dX5_leadsBack_54 : decode cX5_leadsBack 54 = .ok (.if_icmp .ge 49, 3) := by decide +kernel
theorem dX5_leadsBack_57 : decode cX5_leadsBack 57 = .ok (.aload_n 0, 1) := by decide +kernel
theorem dX5_leadsBack_58 : decode cX5_leadsBack 58 = .ok (.getfield 15, 3) := by decide +kernel
theorem dX5_leadsBack_61 : decode cX5_leadsBack 61 = .ok (.iload 5, 2) := by decide +kernel
theorem dX5_leadsBack_63 : decode cX5_leadsBack 63 = .ok (.baload, 1) := by decide +kernel
theorem dX5_leadsBack_64 : decode cX5_leadsBack 64 = .ok (.ifCond .ne 33, 3) := by decide +kernel
theorem dX5_leadsBack_67 : decode cX5_leadsBack 67 = .ok (.aload_n 0, 1) := by decide +kernel
theorem dX5_leadsBack_68 : decode cX5_leadsBack 68 = .ok (.getfield 19, 3) := by decide +kernel
theorem dX5_leadsBack_71 : decode cX5_leadsBack 71 = .ok (.iload_n 1, 1) := by decide +kernel
theorem dX5_leadsBack_72 : decode cX5_leadsBack 72 = .ok (.iload 5, 2) := by decide +kernel
theorem dX5_leadsBack_74 : decode cX5_leadsBack 74 = .ok (.invokevirtual 34, 3) := by decide +kernel
theorem dX5_leadsBack_77 : decode cX5_leadsBack 77 = .ok (.ifCond .le 20, 3) := by decide +kernel
theorem dX5_leadsBack_80 : decode cX5_leadsBack 80 = .ok (.aload_n 0, 1) := by decide +kernel
theorem dX5_leadsBack_81 : decode cX5_leadsBack 81 = .ok (.iload 5, 2) := by decide +kernel
theorem dX5_leadsBack_83 : decode cX5_leadsBack 83 = .ok (.iload_n 2, 1) := by decide +kernel
theorem dX5_leadsBack_84 : decode cX5_leadsBack 84 = .ok (.iload_n 3, 1) := by decide +kernel
theorem dX5_leadsBack_85 : decode cX5_leadsBack 85 = .ok (.iconst 1, 1) := by decide +kernel
theorem dX5_leadsBack_86 : decode cX5_leadsBack 86 = .ok (.iadd, 1) := by decide +kernel
theorem dX5_leadsBack_87 : decode cX5_leadsBack 87 = .ok (.iload 4, 2) := by decide +kernel
theorem dX5_leadsBack_89 : decode cX5_leadsBack 89 = .ok (.invokevirtual 30, 3) := by decide +kernel
theorem dX5_leadsBack_92 : decode cX5_leadsBack 92 = .ok (.ifCond .eq 5, 3) := by decide +kernel
theorem dX5_leadsBack_95 : decode cX5_leadsBack 95 = .ok (.iconst 1, 1) := by decide +kernel
theorem dX5_leadsBack_96 : decode cX5_leadsBack 96 = .ok (.ireturn, 1) := by decide +kernel
theorem dX5_leadsBack_97 : decode cX5_leadsBack 97 = .ok (.iinc 5 1, 3) := by decide +kernel
theorem dX5_leadsBack_100 : decode cX5_leadsBack 100 = .ok (.goto (-50), 3) := by decide +kernel
theorem dX5_leadsBack_103 : decode cX5_leadsBack 103 = .ok (.iconst 0, 1) := by decide +kernel
theorem dX5_leadsBack_104 : decode cX5_leadsBack 104 = .ok (.ireturn, 1) := by decide +kernel
set_option maxRecDepth 20000 in
theorem ggX5_cutFound_X5_behind : GoodIn wsX5_cutFound wsX5_behind := goodIn_r _ [13, 2, 4, 24, 25, 26, 27] (by decide +kernel) (by decide +kernel)
set_option maxRecDepth 20000 in
theorem gX5_cutFound_X5_behind : GoodIn wsX5_cutFound (wsV RX5 45 RX5 yX5_behind wsX5_behind) := goodIn_app (goodIn_of _ (by decide +kernel)) ggX5_cutFound_X5_behind
set_option maxRecDepth 20000 in
theorem ggX5_cutFound_X1_between : GoodIn wsX5_cutFound wsX1_between := goodIn_r _ [18, 19, 28] (by decide +kernel) (by decide +kernel)
set_option maxRecDepth 20000 in
theorem gX5_cutFound_X1_between : GoodIn wsX5_cutFound (wsV RX5 34 RX1 yX1_between wsX1_between) := goodIn_app (goodIn_of _ (by decide +kernel)) ggX5_cutFound_X1_between
set_option maxRecDepth 20000 in
theorem ggX5_cutFound_X1_become : GoodIn wsX5_cutFound wsX1_become := goodIn_r _ [23, 19, 28] (by decide +kernel) (by decide +kernel)
set_option maxRecDepth 20000 in
theorem gX5_cutFound_X1_become : GoodIn wsX5_cutFound (wsV RX5 54 RX1 yX1_become wsX1_become) := goodIn_app (goodIn_of _ (by decide +kernel)) ggX5_cutFound_X1_become
theorem dX5_cutFound_0 : decode cX5_cutFound 0 = .ok (.ldc 44, 2) := by decide +kernel
theorem dX5_cutFound_2 : decode cX5_cutFound 2 = .ok (.istore_n 1, 1) := by decide +kernel
theorem dX5_cutFound_3 : decode cX5_cutFound 3 = .ok (.iconst 0, 1) := by decide +kernel
theorem dX5_cutFound_4 : decode cX5_cutFound 4 = .ok (.istore_n 2, 1) := by decide +kernel
theorem dX5_cutFound_5 : decode cX5_cutFound 5 = .ok (.iload_n 2, 1) := by decide +kernel
theorem dX5_cutFound_6 : decode cX5_cutFound 6 = .ok (.aload_n 0, 1) := by decide +kernel
theorem dX5_cutFound_7 : decode cX5_cutFound 7 = .ok (.getfield 40, 3) := by decide +kernel
theorem dX5_cutFound_10 : decode cX5_cutFound 10 = .ok (.if_icmp .ge 32, 3) := by decide +kernel
theorem dX5_cutFound_13 : decode cX5_cutFound 13 = .ok (.iload_n 1, 1) := by decide +kernel
theorem dX5_cutFound_14 : decode cX5_cutFound 14 = .ok (.aload_n 0, 1) := by decide +kernel
theorem dX5_cutFound_15 : decode cX5_cutFound 15 = .ok (.getfield 19, 3) := by decide +kernel
theorem dX5_cutFound_18 : decode cX5_cutFound 18 = .ok (.aload_n 0, 1) := by decide +kernel
theorem dX5_cutFound_19 : decode cX5_cutFound 19 = .ok (.getfield 9, 3) := by decide +kernel
theorem dX5_cutFound_22 : decode cX5_cutFound 22 = .ok (.iload_n 2, 1) := by decide +kernel
theorem dX5_cutFound_23 : decode cX5_cutFound 23 = .ok (.iaload, 1) := by decide +kernel
theorem dX5_cutFound_24 : decode cX5_cutFound 24 = .ok (.aload_n 0, 1) := by decide +kernel
theorem dX5_cutFound_25 : decode cX5_cutFound 25 = .ok (.iload_n 2, 1) := by decide +kernel
theorem dX5_cutFound_26 : decode cX5_cutFound 26 = .ok (.invokevirtual 45, 3) := by decide +kernel
theorem dX5_cutFound_29 : decode cX5_cutFound 29 = .ok (.invokevirtual 34, 3) := by decide +kernel
theorem dX5_cutFound_32 : decode cX5_cutFound 32 = .ok (.invokestatic 49, 3) := by decide +kernel
theorem dX5_cutFound_35 : decode cX5_cutFound 35 = .ok (.istore_n 1, 1) := by decide +kernel
theorem dX5_cutFound_36 : decode cX5_cutFound 36 = .ok (.iinc 2 1, 3) := by decide +kernel
theorem dX5_cutFound_39 : decode cX5_cutFound 39 = .ok (.goto (-34), 3) := by decide +kernel
theorem dX5_cutFound_42 : decode cX5_cutFound 42 = .ok (.iconst 0, 1) := by decide +kernel
theorem dX5_cutFound_43 : decode cX5_cutFound 43 = .ok (.istore_n 2, 1) := by decide +kernel
theorem dX5_cutFound_44 : decode cX5_cutFound 44 = .ok (.iload_n 2, 1) := by decide +kernel
theorem dX5_cutFound_45 : decode cX5_cutFound 45 = .ok (.aload_n 0, 1) := by decide +kernel
theorem dX5_cutFound_46 : decode cX5_cutFound 46 = .ok (.getfield 40, 3) := by decide +kernel
theorem dX5_cutFound_49 : decode cX5_cutFound 49 = .ok (.if_icmp .ge 49, 3) := by decide +kernel
theorem dX5_cutFound_52 : decode cX5_cutFound 52 = .ok (.aload_n 0, 1) := by decide +kernel
theorem dX5_cutFound_53 : decode cX5_cutFound 53 = .ok (.getfield 19, 3) := by decide +kernel
theorem dX5_cutFound_56 : decode cX5_cutFound 56 = .ok (.aload_n 0, 1) := by decide +kernel
theorem dX5_cutFound_57 : decode cX5_cutFound 57 = .ok (.getfield 9, 3) := by decide +kernel
theorem dX5_cutFound_60 : decode cX5_cutFound 60 = .ok (.iload_n 2, 1) := by decide +kernel
theorem dX5_cutFound_61 : decode cX5_cutFound 61 = .ok (.iaload, 1) := by decide +kernel
theorem dX5_cutFound_62 : decode cX5_cutFound 62 = .ok (.aload_n 0, 1) := by decide +kernel
theorem dX5_cutFound_63 : decode cX5_cutFound 63 = .ok (.iload_n 2, 1) := by decide +kernel
theorem dX5_cutFound_64 : decode cX5_cutFound 64 = .ok (.invokevirtual 45, 3) := by decide +kernel
theorem dX5_cutFound_67 : decode cX5_cutFound 67 = .ok (.invokevirtual 34, 3) := by decide +kernel
theorem dX5_cutFound_70 : decode cX5_cutFound 70 = .ok (.istore_n 3, 1) := by decide +kernel
theorem dX5_cutFound_71 : decode cX5_cutFound 71 = .ok (.aload_n 0, 1) := by decide +kernel
theorem dX5_cutFound_72 : decode cX5_cutFound 72 = .ok (.getfield 19, 3) := by decide +kernel
theorem dX5_cutFound_75 : decode cX5_cutFound 75 = .ok (.aload_n 0, 1) := by decide +kernel
theorem dX5_cutFound_76 : decode cX5_cutFound 76 = .ok (.getfield 9, 3) := by decide +kernel
theorem dX5_cutFound_79 : decode cX5_cutFound 79 = .ok (.iload_n 2, 1) := by decide +kernel
theorem dX5_cutFound_80 : decode cX5_cutFound 80 = .ok (.iaload, 1) := by decide +kernel
theorem dX5_cutFound_81 : decode cX5_cutFound 81 = .ok (.aload_n 0, 1) := by decide +kernel
theorem dX5_cutFound_82 : decode cX5_cutFound 82 = .ok (.iload_n 2, 1) := by decide +kernel
theorem dX5_cutFound_83 : decode cX5_cutFound 83 = .ok (.invokevirtual 45, 3) := by decide +kernel
theorem dX5_cutFound_86 : decode cX5_cutFound 86 = .ok (.iload_n 3, 1) := by decide +kernel
theorem dX5_cutFound_87 : decode cX5_cutFound 87 = .ok (.iload_n 1, 1) := by decide +kernel
theorem dX5_cutFound_88 : decode cX5_cutFound 88 = .ok (.isub, 1) := by decide +kernel
theorem dX5_cutFound_89 : decode cX5_cutFound 89 = .ok (.invokevirtual 54, 3) := by decide +kernel
theorem dX5_cutFound_92 : decode cX5_cutFound 92 = .ok (.iinc 2 1, 3) := by decide +kernel
theorem dX5_cutFound_95 : decode cX5_cutFound 95 = .ok (.goto (-51), 3) := by decide +kernel
theorem dX5_cutFound_98 : decode cX5_cutFound 98 = .ok (.return_, 1) := by decide +kernel
theorem dX5_behind_0 : decode cX5_behind 0 = .ok (.iload_n 1, 1) := by decide +kernel
theorem dX5_behind_1 : decode cX5_behind 1 = .ok (.iconst 1, 1) := by decide +kernel
theorem dX5_behind_2 : decode cX5_behind 2 = .ok (.iadd, 1) := by decide +kernel
theorem dX5_behind_3 : decode cX5_behind 3 = .ok (.aload_n 0, 1) := by decide +kernel
theorem dX5_behind_4 : decode cX5_behind 4 = .ok (.getfield 40, 3) := by decide +kernel
theorem dX5_behind_7 : decode cX5_behind 7 = .ok (.if_icmp .ge 14, 3) := by decide +kernel
theorem dX5_behind_10 : decode cX5_behind 10 = .ok (.aload_n 0, 1) := by decide +kernel
theorem dX5_behind_11 : decode cX5_behind 11 = .ok (.getfield 9, 3) := by decide +kernel
theorem dX5_behind_14 : decode cX5_behind 14 = .ok (.iload_n 1, 1) := by decide +kernel
theorem dX5_behind_15 : decode cX5_behind 15 = .ok (.iconst 1, 1) := by decide +kernel
theorem dX5_behind_16 : decode cX5_behind 16 = .ok (.iadd, 1) := by decide +kernel
theorem dX5_behind_17 : decode cX5_behind 17 = .ok (.iaload, 1) := by decide +kernel
theorem dX5_behind_18 : decode cX5_behind 18 = .ok (.goto 9, 3) := by decide +kernel
theorem dX5_behind_21 : decode cX5_behind 21 = .ok (.aload_n 0, 1) := by decide +kernel
theorem dX5_behind_22 : decode cX5_behind 22 = .ok (.getfield 9, 3) := by decide +kernel
theorem dX5_behind_25 : decode cX5_behind 25 = .ok (.iconst 0, 1) := by decide +kernel
theorem dX5_behind_26 : decode cX5_behind 26 = .ok (.iaload, 1) := by decide +kernel
theorem dX5_behind_27 : decode cX5_behind 27 = .ok (.ireturn, 1) := by decide +kernel
theorem dX6_keptMarks_0 : decode cX6_keptMarks 0 = .ok (.aload_n 0, 1) := by decide +kernel
theorem dX6_keptMarks_1 : decode cX6_keptMarks 1 = .ok (.getfield 31, 3) := by decide +kernel
theorem dX6_keptMarks_4 : decode cX6_keptMarks 4 = .ok (.bipush 60, 2) := by decide +kernel
theorem dX6_keptMarks_6 : decode cX6_keptMarks 6 = .ok (.invokestatic 35, 3) := by decide +kernel
theorem dX6_keptMarks_9 : decode cX6_keptMarks 9 = .ok (.ireturn, 1) := by decide +kernel
set_option maxRecDepth 20000 in
theorem ggX6_items_X6_item : GoodIn wsX6_items wsX6_item := goodIn_r _ [79, 80, 1, 81, 56, 57, 13, 58, 15, 59, 82, 83, 84, 9, 85, 86, 87, 88, 89, 90, 91, 92, 93, 94, 18, 24, 95, 31, 51, 52, 53, 54, 55, 96, 97, 98, 99, 47, 100, 67, 68, 63, 69, 70, 10, 11, 12, 14, 16, 101, 102, 103, 104, 105, 106, 107, 108, 109, 110, 111, 112, 113, 114, 115, 116, 117, 118, 119, 120, 121, 39, 40, 41, 42, 43, 44, 122, 123, 124, 125, 46, 126, 127, 60, 61, 62, 64, 65, 66, 17, 19, 20, 21, 22, 23, 25, 26, 27, 28, 29, 30, 32, 33, 34, 35, 36, 37, 38, 45, 48, 49, 50, 71, 72, 73, 74, 75, 76, 77, 78, 0, 2, 3, 4, 5, 6, 7, 8, 128, 129, 130, 131, 132, 133, 134, 135, 136, 137, 138, 139, 140, 141, 142, 143, 144, 145, 146, 147, 148, 149, 150, 151, 152] (by decide +kernel) (by decide +kernel)
set_option maxRecDepth 20000 in
theorem gX6_items_X6_item : GoodIn wsX6_items (wsV RX6 64 RX6 yX6_item wsX6_item) := goodIn_app (goodIn_of _ (by decide +kernel)) ggX6_items_X6_item
set_option maxRecDepth 20000 in
theorem ggX6_items_X3_behindItem : GoodIn wsX6_items wsX3_behindItem := goodIn_r _ [14, 15, 16, 150, 151, 152] (by decide +kernel) (by decide +kernel)
set_option maxRecDepth 20000 in
theorem gX6_items_X3_behindItem : GoodIn wsX6_items (wsV RX6 67 RX3 yX3_behindItem wsX3_behindItem) := goodIn_app (goodIn_of _ (by decide +kernel)) ggX6_items_X3_behindItem
theorem dX6_items_0 : decode cX6_items 0 = .ok (.iload_n 1, 1) := by decide +kernel
theorem dX6_items_1 : decode cX6_items 1 = .ok (.istore 4, 2) := by decide +kernel
theorem dX6_items_3 : decode cX6_items 3 = .ok (.iconst 0, 1) := by decide +kernel
theorem dX6_items_4 : decode cX6_items 4 = .ok (.istore 5, 2) := by decide +kernel
theorem dX6_items_6 : decode cX6_items 6 = .ok (.iload 4, 2) := by decide +kernel
theorem dX6_items_8 : decode cX6_items 8 = .ok (.iload_n 2, 1) := by decide +kernel
theorem dX6_items_9 : decode cX6_items 9 = .ok (.if_icmp .ge 38, 3) := by decide +kernel
theorem dX6_items_12 : decode cX6_items 12 = .ok (.iload 5, 2) := by decide +kernel
theorem dX6_items_14 : decode cX6_items 14 = .ok (.ifCond .ne 33, 3) := by decide +kernel
theorem dX6_items_17 : decode cX6_items 17 = .ok (.aload_n 0, 1) := by decide +kernel
theorem dX6_items_18 : decode cX6_items 18 = .ok (.iload 4, 2) := by decide +kernel
theorem dX6_items_20 : decode cX6_items 20 = .ok (.iload_n 3, 1) := by decide +kernel
theorem dX6_items_21 : decode cX6_items 21 = .ok (.invokevirtual 64, 3) := by decide +kernel
theorem dX6_items_24 : decode cX6_items 24 = .ok (.istore 5, 2) := by decide +kernel
theorem dX6_items_26 : decode cX6_items 26 = .ok (.iload 4, 2) := by decide +kernel
theorem dX6_items_28 : decode cX6_items 28 = .ok (.iconst 1, 1) := by decide +kernel
theorem dX6_items_29 : decode cX6_items 29 = .ok (.iadd, 1) := by decide +kernel
theorem dX6_items_30 : decode cX6_items 30 = .ok (.aload_n 0, 1) := by decide +kernel
theorem dX6_items_31 : decode cX6_items 31 = .ok (.getfield 41, 3) := by decide +kernel
theorem dX6_items_34 : decode cX6_items 34 = .ok (.iload 4, 2) := by decide +kernel
theorem dX6_items_36 : decode cX6_items 36 = .ok (.invokevirtual 67, 3) := by decide +kernel
theorem dX6_items_39 : decode cX6_items 39 = .ok (.invokestatic 71, 3) := by decide +kernel
theorem dX6_items_42 : decode cX6_items 42 = .ok (.istore 4, 2) := by decide +kernel
theorem dX6_items_44 : decode cX6_items 44 = .ok (.goto (-38), 3) := by decide +kernel
theorem dX6_items_47 : decode cX6_items 47 = .ok (.iload 5, 2) := by decide +kernel
theorem dX6_items_49 : decode cX6_items 49 = .ok (.ireturn, 1) := by decide +kernel
set_option maxRecDepth 20000 in
theorem ggX6_item_X3_byteAt : GoodIn wsX6_item wsX3_byteAt := goodIn_r _ [7, 8, 9, 150, 151, 152] (by decide +kernel) (by decide +kernel)
set_option maxRecDepth 20000 in
theorem gX6_item_X3_byteAt : GoodIn wsX6_item (wsV RX6 74 RX3 yX3_byteAt wsX3_byteAt) := goodIn_app (goodIn_of _ (by decide +kernel)) ggX6_item_X3_byteAt
set_option maxRecDepth 20000 in
theorem ggX6_item_X6_block : GoodIn wsX6_item wsX6_block := goodIn_r _ [108, 2, 24, 80, 37, 109, 110, 111, 28, 29, 30, 6, 31, 32, 4, 5, 7, 8, 9, 83, 84, 85, 41, 86, 87, 88, 39, 40, 42, 43, 112, 113, 114, 13, 115, 70, 71, 72, 73, 74, 75, 101, 102, 103, 89, 90, 91, 92, 93, 94, 25, 95, 96, 97, 98, 99, 100, 27, 104, 105, 106, 107, 116, 44, 45, 46, 47, 48, 117, 118, 119, 0, 1, 3, 10, 11, 12, 14, 15, 16, 17, 18, 19, 20, 21, 22, 23, 26, 33, 34, 35, 36, 38, 49, 50, 51, 52, 53, 54, 55, 56, 57, 58, 59, 60, 61, 62, 63, 64, 65, 66, 67, 68, 69, 76, 77, 78, 79, 81, 82, 120, 121, 122, 123, 124, 125, 126, 127, 128, 129, 130, 131, 132, 133, 134, 135, 136, 137, 138, 139, 140, 141, 142, 143, 144, 145, 146, 147, 148, 149, 150, 151, 152] (by decide +kernel) (by decide +kernel)
set_option maxRecDepth 20000 in
theorem gX6_item_X6_block : GoodIn wsX6_item (wsV RX6 77 RX6 yX6_block wsX6_block) := goodIn_app (goodIn_of _ (by decide +kernel)) ggX6_item_X6_block
set_option maxRecDepth 20000 in
theorem ggX6_item_X6_attempt : GoodIn wsX6_item wsX6_attempt := goodIn_r _ [89, 24, 90, 91, 92, 93, 13, 94, 25, 95, 96, 97, 98, 99, 100, 27, 101, 102, 103, 104, 105, 106, 107, 70, 71, 72, 73, 74, 75, 108, 2, 80, 37, 109, 110, 111, 28, 29, 30, 6, 31, 32, 4, 5, 7, 8, 9, 83, 84, 85, 41, 86, 87, 88, 39, 40, 42, 43, 112, 113, 114, 115, 116, 44, 45, 46, 47, 48, 117, 118, 119, 0, 1, 3, 10, 11, 12, 14, 15, 16, 17, 18, 19, 20, 21, 22, 23, 26, 33, 34, 35, 36, 38, 49, 50, 51, 52, 53, 54, 55, 56, 57, 58, 59, 60, 61, 62, 63, 64, 65, 66, 67, 68, 69, 76, 77, 78, 79, 81, 82, 120, 121, 122, 123, 124, 125, 126, 127, 128, 129, 130, 131, 132, 133, 134, 135, 136, 137, 138, 139, 140, 141, 142, 143, 144, 145, 146, 147, 148, 149, 150, 151, 152] (by decide +kernel) (by decide +kernel)
set_option maxRecDepth 20000 in
theorem gX6_item_X6_attempt : GoodIn wsX6_item (wsV RX6 80 RX6 yX6_attempt wsX6_attempt) := goodIn_app (goodIn_of _ (by decide +kernel)) ggX6_item_X6_attempt
set_option maxRecDepth 20000 in
theorem ggX6_item_X6_loop : GoodIn wsX6_item wsX6_loop := goodIn_r _ [128, 2, 28, 29, 30, 6, 31, 32, 4, 5, 7, 8, 9, 101, 102, 103, 13, 89, 24, 90, 91, 92, 93, 94, 25, 95, 96, 97, 98, 99, 100, 27, 104, 105, 106, 107, 70, 71, 72, 73, 74, 75, 108, 80, 37, 109, 110, 111, 83, 84, 85, 41, 86, 87, 88, 39, 40, 42, 43, 112, 113, 114, 115, 116, 44, 45, 46, 47, 48, 117, 118, 119, 0, 1, 3, 10, 11, 12, 14, 15, 16, 17, 18, 19, 20, 21, 22, 23, 26, 33, 34, 35, 36, 38, 49, 50, 51, 52, 53, 54, 55, 56, 57, 58, 59, 60, 61, 62, 63, 64, 65, 66, 67, 68, 69, 76, 77, 78, 79, 81, 82, 120, 121, 122, 123, 124, 125, 126, 127, 129, 130, 131, 132, 133, 134, 135, 136, 137, 138, 139, 140, 141, 142, 143, 144, 145, 146, 147, 148, 149, 150, 151, 152] (by decide +kernel) (by decide +kernel)
set_option maxRecDepth 20000 in
theorem gX6_item_X6_loop : GoodIn wsX6_item (wsV RX6 83 RX6 yX6_loop wsX6_loop) := goodIn_app (goodIn_of _ (by decide +kernel)) ggX6_item_X6_loop
set_option maxRecDepth 20000 in
theorem ggX6_item_X6_payment : GoodIn wsX6_item wsX6_payment := goodIn_r _ [23, 2, 24, 25, 26, 27, 28, 29, 30, 6, 31, 32, 4, 5, 7, 8, 9, 33, 34, 35, 13, 36, 37, 38, 39, 40, 41, 42, 43, 44, 45, 46, 47, 48, 49, 50, 51, 52, 53, 54, 55, 56, 57, 58, 59, 60, 61, 62, 63, 64, 65, 66, 67, 68, 69, 70, 71, 72, 73, 74, 75, 129, 130, 131, 132, 133, 134, 135, 136, 137, 138, 139, 140, 141, 142, 143, 144, 145, 146, 147, 148, 149, 150, 151, 152] (by decide +kernel) (by decide +kernel)
set_option maxRecDepth 20000 in
theorem gX6_item_X6_payment : GoodIn wsX6_item (wsV RX6 86 RX6 yX6_payment wsX6_payment) := goodIn_app (goodIn_of _ (by decide +kernel)) ggX6_item_X6_payment
set_option maxRecDepth 20000 in
theorem ggX6_item_X3_figureAt : GoodIn wsX6_item wsX3_figureAt := goodIn_r _ [31, 32, 4, 5, 6, 7, 8, 9, 150, 151, 152] (by decide +kernel) (by decide +kernel)
set_option maxRecDepth 20000 in
theorem gX6_item_X3_figureAt : GoodIn wsX6_item (wsV RX6 89 RX3 yX3_figureAt wsX3_figureAt) := goodIn_app (goodIn_of _ (by decide +kernel)) ggX6_item_X3_figureAt
set_option maxRecDepth 20000 in
theorem ggX6_item_X6_bell : GoodIn wsX6_item wsX6_bell := goodIn_r _ [79, 24, 80, 81, 82, 83, 84, 85, 41, 86, 87, 88, 39, 40, 42, 43, 33, 34, 35, 13, 36, 37, 38, 70, 71, 72, 73, 74, 75, 129, 130, 131, 132, 133, 134, 135, 136, 137, 138, 139, 140, 141, 142, 143, 144, 145, 146, 147, 148, 149] (by decide +kernel) (by decide +kernel)
set_option maxRecDepth 20000 in
theorem gX6_item_X6_bell : GoodIn wsX6_item (wsV RX6 92 RX6 yX6_bell wsX6_bell) := goodIn_app (goodIn_of _ (by decide +kernel)) ggX6_item_X6_bell
theorem dX6_item_0 : decode cX6_item 0 = .ok (.aload_n 0, 1) := by decide +kernel
theorem dX6_item_1 : decode cX6_item 1 = .ok (.getfield 45, 3) := by decide +kernel
theorem dX6_item_4 : decode cX6_item 4 = .ok (.sipush 500, 3) := by decide +kernel
theorem dX6_item_7 : decode cX6_item 7 = .ok (.if_icmp .lt 5, 3) := by decide +kernel
theorem dX6_item_10 : decode cX6_item 10 = .ok (.iconst 5, 1) := by decide +kernel
theorem dX6_item_11 : decode cX6_item 11 = .ok (.ireturn, 1) := by decide +kernel
theorem dX6_item_12 : decode cX6_item 12 = .ok (.aload_n 0, 1) := by decide +kernel
theorem dX6_item_13 : decode cX6_item 13 = .ok (.dup, 1) := by decide +kernel
theorem dX6_item_14 : decode cX6_item 14 = .ok (.getfield 45, 3) := by decide +kernel
theorem dX6_item_17 : decode cX6_item 17 = .ok (.iconst 1, 1) := by decide +kernel
theorem dX6_item_18 : decode cX6_item 18 = .ok (.iadd, 1) := by decide +kernel
theorem dX6_item_19 : decode cX6_item 19 = .ok (.putfield 45, 3) := by decide +kernel
theorem dX6_item_22 : decode cX6_item 22 = .ok (.aload_n 0, 1) := by decide +kernel
theorem dX6_item_23 : decode cX6_item 23 = .ok (.getfield 41, 3) := by decide +kernel
theorem dX6_item_26 : decode cX6_item 26 = .ok (.iload_n 1, 1) := by decide +kernel
theorem dX6_item_27 : decode cX6_item 27 = .ok (.invokevirtual 74, 3) := by decide +kernel
theorem dX6_item_30 : decode cX6_item 30 = .ok (.lookupswitch 166 #[(40, 90), (60, 105), (91, 97), (97, 150), (98, 128), (99, 131), (110, 134), (112, 120), (120, 126), (123, 113)], 90) := by decide +kernel
theorem dX6_item_120 : decode cX6_item 120 = .ok (.aload_n 0, 1) := by decide +kernel
theorem dX6_item_121 : decode cX6_item 121 = .ok (.iload_n 1, 1) := by decide +kernel
theorem dX6_item_122 : decode cX6_item 122 = .ok (.iload_n 2, 1) := by decide +kernel
theorem dX6_item_123 : decode cX6_item 123 = .ok (.invokevirtual 77, 3) := by decide +kernel
theorem dX6_item_126 : decode cX6_item 126 = .ok (.ireturn, 1) := by decide +kernel
theorem dX6_item_127 : decode cX6_item 127 = .ok (.aload_n 0, 1) := by decide +kernel
theorem dX6_item_128 : decode cX6_item 128 = .ok (.iload_n 1, 1) := by decide +kernel
theorem dX6_item_129 : decode cX6_item 129 = .ok (.iload_n 2, 1) := by decide +kernel
theorem dX6_item_130 : decode cX6_item 130 = .ok (.iconst 4, 1) := by decide +kernel
theorem dX6_item_131 : decode cX6_item 131 = .ok (.invokevirtual 80, 3) := by decide +kernel
theorem dX6_item_134 : decode cX6_item 134 = .ok (.ireturn, 1) := by decide +kernel
theorem dX6_item_135 : decode cX6_item 135 = .ok (.aload_n 0, 1) := by decide +kernel
theorem dX6_item_136 : decode cX6_item 136 = .ok (.iload_n 1, 1) := by decide +kernel
theorem dX6_item_137 : decode cX6_item 137 = .ok (.iload_n 2, 1) := by decide +kernel
theorem dX6_item_138 : decode cX6_item 138 = .ok (.iconst 2, 1) := by decide +kernel
theorem dX6_item_139 : decode cX6_item 139 = .ok (.invokevirtual 80, 3) := by decide +kernel
theorem dX6_item_142 : decode cX6_item 142 = .ok (.ireturn, 1) := by decide +kernel
theorem dX6_item_143 : decode cX6_item 143 = .ok (.aload_n 0, 1) := by decide +kernel
theorem dX6_item_144 : decode cX6_item 144 = .ok (.iload_n 1, 1) := by decide +kernel
theorem dX6_item_145 : decode cX6_item 145 = .ok (.iload_n 2, 1) := by decide +kernel
theorem dX6_item_146 : decode cX6_item 146 = .ok (.invokevirtual 83, 3) := by decide +kernel
theorem dX6_item_149 : decode cX6_item 149 = .ok (.ireturn, 1) := by decide +kernel
theorem dX6_item_150 : decode cX6_item 150 = .ok (.aload_n 0, 1) := by decide +kernel
theorem dX6_item_151 : decode cX6_item 151 = .ok (.iload_n 1, 1) := by decide +kernel
theorem dX6_item_152 : decode cX6_item 152 = .ok (.invokevirtual 86, 3) := by decide +kernel
theorem dX6_item_155 : decode cX6_item 155 = .ok (.ireturn, 1) := by decide +kernel
theorem dX6_item_156 : decode cX6_item 156 = .ok (.iconst 4, 1) := by decide +kernel
theorem dX6_item_157 : decode cX6_item 157 = .ok (.ireturn, 1) := by decide +kernel
theorem dX6_item_158 : decode cX6_item 158 = .ok (.bipush 6, 2) := by decide +kernel
theorem dX6_item_160 : decode cX6_item 160 = .ok (.ireturn, 1) := by decide +kernel
theorem dX6_item_161 : decode cX6_item 161 = .ok (.bipush 7, 2) := by decide +kernel
theorem dX6_item_163 : decode cX6_item 163 = .ok (.ireturn, 1) := by decide +kernel
theorem dX6_item_164 : decode cX6_item 164 = .ok (.aload_n 0, 1) := by decide +kernel
theorem dX6_item_165 : decode cX6_item 165 = .ok (.aload_n 0, 1) := by decide +kernel
theorem dX6_item_166 : decode cX6_item 166 = .ok (.getfield 41, 3) := by decide +kernel
theorem dX6_item_169 : decode cX6_item 169 = .ok (.iload_n 1, 1) := by decide +kernel
theorem dX6_item_170 : decode cX6_item 170 = .ok (.iconst 1, 1) := by decide +kernel
theorem dX6_item_171 : decode cX6_item 171 = .ok (.iadd, 1) := by decide +kernel
theorem dX6_item_172 : decode cX6_item 172 = .ok (.invokevirtual 89, 3) := by decide +kernel
theorem dX6_item_175 : decode cX6_item 175 = .ok (.iconst 1, 1) := by decide +kernel
theorem dX6_item_176 : decode cX6_item 176 = .ok (.invokevirtual 92, 3) := by decide +kernel
theorem dX6_item_179 : decode cX6_item 179 = .ok (.ireturn, 1) := by decide +kernel
theorem dX6_item_180 : decode cX6_item 180 = .ok (.aload_n 0, 1) := by decide +kernel
theorem dX6_item_181 : decode cX6_item 181 = .ok (.aload_n 0, 1) := by decide +kernel
theorem dX6_item_182 : decode cX6_item 182 = .ok (.getfield 41, 3) := by decide +kernel
theorem dX6_item_185 : decode cX6_item 185 = .ok (.iload_n 1, 1) := by decide +kernel
theorem dX6_item_186 : decode cX6_item 186 = .ok (.iconst 1, 1) := by decide +kernel
theorem dX6_item_187 : decode cX6_item 187 = .ok (.iadd, 1) := by decide +kernel
theorem dX6_item_188 : decode cX6_item 188 = .ok (.invokevirtual 89, 3) := by decide +kernel
theorem dX6_item_191 : decode cX6_item 191 = .ok (.iconst 2, 1) := by decide +kernel
theorem dX6_item_192 : decode cX6_item 192 = .ok (.invokevirtual 92, 3) := by decide +kernel
theorem dX6_item_195 : decode cX6_item 195 = .ok (.ireturn, 1) := by decide +kernel
theorem dX6_item_196 : decode cX6_item 196 = .ok (.iconst 0, 1) := by decide +kernel
theorem dX6_item_197 : decode cX6_item 197 = .ok (.ireturn, 1) := by decide +kernel
set_option maxRecDepth 20000 in
theorem ggX6_inside_X3_behindItem : GoodIn wsX6_inside wsX3_behindItem := goodIn_r _ [6, 7, 8, 150, 151, 152] (by decide +kernel) (by decide +kernel)
set_option maxRecDepth 20000 in
theorem gX6_inside_X3_behindItem : GoodIn wsX6_inside (wsV RX6 67 RX3 yX3_behindItem wsX3_behindItem) := goodIn_app (goodIn_of _ (by decide +kernel)) ggX6_inside_X3_behindItem
set_option maxRecDepth 20000 in
theorem ggX6_inside_X6_items : GoodIn wsX6_inside wsX6_items := goodIn_r _ [120, 1, 121, 122, 123, 124, 125, 126, 127, 12, 2, 3, 4, 5, 6, 7, 8, 13, 14, 15, 16, 17, 18, 19, 20, 21, 22, 23, 24, 25, 26, 27, 28, 29, 30, 31, 32, 33, 34, 35, 36, 37, 38, 39, 40, 41, 42, 43, 44, 45, 46, 47, 48, 49, 50, 51, 52, 53, 54, 55, 56, 57, 58, 59, 60, 61, 62, 63, 64, 65, 66, 67, 68, 69, 70, 0, 9, 10, 11, 71, 72, 73, 74, 75, 76, 77, 78, 79, 80, 81, 82, 83, 84, 85, 86, 87, 88, 89, 90, 91, 92, 93, 94, 95, 96, 97, 98, 99, 100, 101, 102, 103, 104, 105, 106, 107, 108, 109, 110, 111, 112, 113, 114, 115, 116, 117, 118, 119, 128, 129, 130, 131, 132, 133, 134, 135, 136, 137, 138, 139, 140, 141, 142, 143, 144, 145, 146, 147, 148, 149, 150, 151, 152] (by decide +kernel) (by decide +kernel)
set_option maxRecDepth 20000 in
theorem gX6_inside_X6_items : GoodIn wsX6_inside (wsV RX6 57 RX6 yX6_items wsX6_items) := goodIn_app (goodIn_of _ (by decide +kernel)) ggX6_inside_X6_items
theorem dX6_inside_0 : decode cX6_inside 0 = .ok (.iload_n 3, 1) := by decide +kernel
theorem dX6_inside_1 : decode cX6_inside 1 = .ok (.bipush 8, 2) := by decide +kernel
theorem dX6_inside_3 : decode cX6_inside 3 = .ok (.if_icmp .lt 5, 3) := by decide +kernel
theorem dX6_inside_6 : decode cX6_inside 6 = .ok (.iconst 5, 1) := by decide +kernel
theorem dX6_inside_7 : decode cX6_inside 7 = .ok (.ireturn, 1) := by decide +kernel
theorem dX6_inside_8 : decode cX6_inside 8 = .ok (.aload_n 0, 1) := by decide +kernel
theorem dX6_inside_9 : decode cX6_inside 9 = .ok (.iload_n 2, 1) := by decide +kernel
theorem dX6_inside_10 : decode cX6_inside 10 = .ok (.aload_n 0, 1) := by decide +kernel
theorem dX6_inside_11 : decode cX6_inside 11 = .ok (.getfield 41, 3) := by decide +kernel
theorem dX6_inside_14 : decode cX6_inside 14 = .ok (.iload_n 1, 1) := by decide +kernel
theorem dX6_inside_15 : decode cX6_inside 15 = .ok (.invokevirtual 67, 3) := by decide +kernel
theorem dX6_inside_18 : decode cX6_inside 18 = .ok (.iconst 1, 1) := by decide +kernel
theorem dX6_inside_19 : decode cX6_inside 19 = .ok (.isub, 1) := by decide +kernel
theorem dX6_inside_20 : decode cX6_inside 20 = .ok (.iload_n 3, 1) := by decide +kernel
theorem dX6_inside_21 : decode cX6_inside 21 = .ok (.iconst 1, 1) := by decide +kernel
theorem dX6_inside_22 : decode cX6_inside 22 = .ok (.iadd, 1) := by decide +kernel
theorem dX6_inside_23 : decode cX6_inside 23 = .ok (.invokevirtual 57, 3) := by decide +kernel
theorem dX6_inside_26 : decode cX6_inside 26 = .ok (.ireturn, 1) := by decide +kernel
set_option maxRecDepth 20000 in
theorem ggX6_block_X3_figureAt : GoodIn wsX6_block wsX3_figureAt := goodIn_r _ [12, 13, 14, 15, 11, 16, 17, 18, 150, 151, 152] (by decide +kernel) (by decide +kernel)
set_option maxRecDepth 20000 in
theorem gX6_block_X3_figureAt : GoodIn wsX6_block (wsV RX6 89 RX3 yX3_figureAt wsX3_figureAt) := goodIn_app (goodIn_of _ (by decide +kernel)) ggX6_block_X3_figureAt
set_option maxRecDepth 20000 in
theorem ggX6_block_X0_hasGate : GoodIn wsX6_block wsX0_hasGate := goodIn_r _ [23, 24, 25, 26, 27, 22, 28, 29, 137, 138, 139, 140, 141, 142, 143, 144, 145, 146, 147, 148, 149] (by decide +kernel) (by decide +kernel)
set_option maxRecDepth 20000 in
theorem gX6_block_X0_hasGate : GoodIn wsX6_block (wsV RX6 95 RX0 yX0_hasGate wsX0_hasGate) := goodIn_app (goodIn_of _ (by decide +kernel)) ggX6_block_X0_hasGate
set_option maxRecDepth 20000 in
theorem ggX6_block_X6_isGreaterHeld : GoodIn wsX6_block wsX6_isGreaterHeld := goodIn_r _ [34, 4, 129, 130, 131, 132, 133, 134, 135, 136] (by decide +kernel) (by decide +kernel)
set_option maxRecDepth 20000 in
theorem gX6_block_X6_isGreaterHeld : GoodIn wsX6_block (wsV RX6 104 RX6 yX6_isGreaterHeld wsX6_isGreaterHeld) := goodIn_app (goodIn_of _ (by decide +kernel)) ggX6_block_X6_isGreaterHeld
set_option maxRecDepth 20000 in
theorem ggX6_block_X6_mark : GoodIn wsX6_block wsX6_mark := goodIn_r _ [38, 39, 40, 129, 130, 131, 132, 133, 134, 135, 136] (by decide +kernel) (by decide +kernel)
set_option maxRecDepth 20000 in
theorem gX6_block_X6_mark : GoodIn wsX6_block (wsV RX6 113 RX6 yX6_mark wsX6_mark) := goodIn_app (goodIn_of _ (by decide +kernel)) ggX6_block_X6_mark
set_option maxRecDepth 20000 in
theorem ggX6_block_X6_inside : GoodIn wsX6_block wsX6_inside := goodIn_r _ [62, 1, 63, 64, 65, 11, 66, 17, 67, 68, 69, 70, 33, 44, 2, 45, 46, 47, 48, 49, 50, 51, 52, 53, 54, 55, 56, 57, 41, 42, 43, 58, 59, 60, 61, 35, 36, 37, 38, 39, 40, 0, 3, 4, 5, 6, 7, 8, 9, 10, 12, 13, 14, 15, 16, 18, 19, 20, 21, 22, 23, 24, 25, 26, 27, 28, 29, 30, 31, 32, 34, 71, 72, 73, 74, 75, 76, 77, 78, 79, 80, 81, 82, 83, 84, 85, 86, 87, 88, 89, 90, 91, 92, 93, 94, 95, 96, 97, 98, 99, 100, 101, 102, 103, 104, 105, 106, 107, 108, 109, 110, 111, 112, 113, 114, 115, 116, 117, 118, 119, 120, 121, 122, 123, 124, 125, 126, 127, 128, 129, 130, 131, 132, 133, 134, 135, 136, 137, 138, 139, 140, 141, 142, 143, 144, 145, 146, 147, 148, 149, 150, 151, 152] (by decide +kernel) (by decide +kernel)
set_option maxRecDepth 20000 in
theorem gX6_block_X6_inside : GoodIn wsX6_block (wsV RX6 116 RX6 yX6_inside wsX6_inside) := goodIn_app (goodIn_of _ (by decide +kernel)) ggX6_block_X6_inside
theorem dX6_block_0 : decode cX6_block 0 = .ok (.aload_n 0, 1) := by decide +kernel
theorem dX6_block_1 : decode cX6_block 1 = .ok (.getfield 41, 3) := by decide +kernel
theorem dX6_block_4 : decode cX6_block 4 = .ok (.iload_n 1, 1) := by decide +kernel
theorem dX6_block_5 : decode cX6_block 5 = .ok (.iconst 1, 1) := by decide +kernel
theorem dX6_block_6 : decode cX6_block 6 = .ok (.iadd, 1) := by decide +kernel
theorem dX6_block_7 : decode cX6_block 7 = .ok (.invokevirtual 89, 3) := by decide +kernel
theorem dX6_block_10 : decode cX6_block 10 = .ok (.istore_n 3, 1) := by decide +kernel
theorem dX6_block_11 : decode cX6_block 11 = .ok (.aload_n 0, 1) := by decide +kernel
theorem dX6_block_12 : decode cX6_block 12 = .ok (.getfield 27, 3) := by decide +kernel
theorem dX6_block_15 : decode cX6_block 15 = .ok (.iload_n 3, 1) := by decide +kernel
theorem dX6_block_16 : decode cX6_block 16 = .ok (.invokevirtual 95, 3) := by decide +kernel
theorem dX6_block_19 : decode cX6_block 19 = .ok (.ifCond .ne 18, 3) := by decide +kernel
theorem dX6_block_22 : decode cX6_block 22 = .ok (.aload_n 0, 1) := by decide +kernel
theorem dX6_block_23 : decode cX6_block 23 = .ok (.getfield 27, 3) := by decide +kernel
theorem dX6_block_26 : decode cX6_block 26 = .ok (.dup, 1) := by decide +kernel
theorem dX6_block_27 : decode cX6_block 27 = .ok (.getfield 101, 3) := by decide +kernel
theorem dX6_block_30 : decode cX6_block 30 = .ok (.iconst 1, 1) := by decide +kernel
theorem dX6_block_31 : decode cX6_block 31 = .ok (.iadd, 1) := by decide +kernel
theorem dX6_block_32 : decode cX6_block 32 = .ok (.putfield 101, 3) := by decide +kernel
theorem dX6_block_35 : decode cX6_block 35 = .ok (.iconst 0, 1) := by decide +kernel
theorem dX6_block_36 : decode cX6_block 36 = .ok (.ireturn, 1) := by decide +kernel
theorem dX6_block_37 : decode cX6_block 37 = .ok (.aload_n 0, 1) := by decide +kernel
theorem dX6_block_38 : decode cX6_block 38 = .ok (.getfield 15, 3) := by decide +kernel
theorem dX6_block_41 : decode cX6_block 41 = .ok (.iload_n 3, 1) := by decide +kernel
theorem dX6_block_42 : decode cX6_block 42 = .ok (.iaload, 1) := by decide +kernel
theorem dX6_block_43 : decode cX6_block 43 = .ok (.ifCond .ne 13, 3) := by decide +kernel
theorem dX6_block_46 : decode cX6_block 46 = .ok (.aload_n 0, 1) := by decide +kernel
theorem dX6_block_47 : decode cX6_block 47 = .ok (.iload_n 3, 1) := by decide +kernel
theorem dX6_block_48 : decode cX6_block 48 = .ok (.invokevirtual 104, 3) := by decide +kernel
theorem dX6_block_51 : decode cX6_block 51 = .ok (.ifCond .eq 5, 3) := by decide +kernel
theorem dX6_block_54 : decode cX6_block 54 = .ok (.iconst 3, 1) := by decide +kernel
theorem dX6_block_55 : decode cX6_block 55 = .ok (.ireturn, 1) := by decide +kernel
theorem dX6_block_56 : decode cX6_block 56 = .ok (.aload_n 0, 1) := by decide +kernel
theorem dX6_block_57 : decode cX6_block 57 = .ok (.getfield 27, 3) := by decide +kernel
theorem dX6_block_60 : decode cX6_block 60 = .ok (.getfield 107, 3) := by decide +kernel
theorem dX6_block_63 : decode cX6_block 63 = .ok (.iload_n 3, 1) := by decide +kernel
theorem dX6_block_64 : decode cX6_block 64 = .ok (.dup2, 1) := by decide +kernel
theorem dX6_block_65 : decode cX6_block 65 = .ok (.iaload, 1) := by decide +kernel
theorem dX6_block_66 : decode cX6_block 66 = .ok (.iconst 1, 1) := by decide +kernel
theorem dX6_block_67 : decode cX6_block 67 = .ok (.iadd, 1) := by decide +kernel
theorem dX6_block_68 : decode cX6_block 68 = .ok (.iastore, 1) := by decide +kernel
theorem dX6_block_69 : decode cX6_block 69 = .ok (.aload_n 0, 1) := by decide +kernel
theorem dX6_block_70 : decode cX6_block 70 = .ok (.getfield 15, 3) := by decide +kernel
theorem dX6_block_73 : decode cX6_block 73 = .ok (.iload_n 3, 1) := by decide +kernel
theorem dX6_block_74 : decode cX6_block 74 = .ok (.iaload, 1) := by decide +kernel
theorem dX6_block_75 : decode cX6_block 75 = .ok (.ifCond .le 16, 3) := by decide +kernel
theorem dX6_block_78 : decode cX6_block 78 = .ok (.aload_n 0, 1) := by decide +kernel
theorem dX6_block_79 : decode cX6_block 79 = .ok (.getfield 27, 3) := by decide +kernel
theorem dX6_block_82 : decode cX6_block 82 = .ok (.getfield 110, 3) := by decide +kernel
theorem dX6_block_85 : decode cX6_block 85 = .ok (.iload_n 3, 1) := by decide +kernel
theorem dX6_block_86 : decode cX6_block 86 = .ok (.dup2, 1) := by decide +kernel
theorem dX6_block_87 : decode cX6_block 87 = .ok (.iaload, 1) := by decide +kernel
theorem dX6_block_88 : decode cX6_block 88 = .ok (.iconst 1, 1) := by decide +kernel
theorem dX6_block_89 : decode cX6_block 89 = .ok (.iadd, 1) := by decide +kernel
theorem dX6_block_90 : decode cX6_block 90 = .ok (.iastore, 1) := by decide +kernel
theorem dX6_block_91 : decode cX6_block 91 = .ok (.aload_n 0, 1) := by decide +kernel
theorem dX6_block_92 : decode cX6_block 92 = .ok (.getfield 15, 3) := by decide +kernel
theorem dX6_block_95 : decode cX6_block 95 = .ok (.iload_n 3, 1) := by decide +kernel
theorem dX6_block_96 : decode cX6_block 96 = .ok (.dup2, 1) := by decide +kernel
theorem dX6_block_97 : decode cX6_block 97 = .ok (.iaload, 1) := by decide +kernel
theorem dX6_block_98 : decode cX6_block 98 = .ok (.iconst 1, 1) := by decide +kernel
theorem dX6_block_99 : decode cX6_block 99 = .ok (.iadd, 1) := by decide +kernel
theorem dX6_block_100 : decode cX6_block 100 = .ok (.iastore, 1) := by decide +kernel
theorem dX6_block_101 : decode cX6_block 101 = .ok (.aload_n 0, 1) := by decide +kernel
theorem dX6_block_102 : decode cX6_block 102 = .ok (.bipush 10, 2) := by decide +kernel
theorem dX6_block_104 : decode cX6_block 104 = .ok (.iload_n 3, 1) := by decide +kernel
theorem dX6_block_105 : decode cX6_block 105 = .ok (.iadd, 1) := by decide +kernel
theorem dX6_block_106 : decode cX6_block 106 = .ok (.invokevirtual 113, 3) := by decide +kernel
theorem dX6_block_109 : decode cX6_block 109 = .ok (.aload_n 0, 1) := by decide +kernel
theorem dX6_block_110 : decode cX6_block 110 = .ok (.iload_n 1, 1) := by decide +kernel
theorem dX6_block_111 : decode cX6_block 111 = .ok (.iload_n 1, 1) := by decide +kernel
theorem dX6_block_112 : decode cX6_block 112 = .ok (.iconst 2, 1) := by decide +kernel
theorem dX6_block_113 : decode cX6_block 113 = .ok (.iadd, 1) := by decide +kernel
theorem dX6_block_114 : decode cX6_block 114 = .ok (.iload_n 2, 1) := by decide +kernel
theorem dX6_block_115 : decode cX6_block 115 = .ok (.invokevirtual 116, 3) := by decide +kernel
theorem dX6_block_118 : decode cX6_block 118 = .ok (.istore 4, 2) := by decide +kernel
theorem dX6_block_120 : decode cX6_block 120 = .ok (.aload_n 0, 1) := by decide +kernel
theorem dX6_block_121 : decode cX6_block 121 = .ok (.getfield 15, 3) := by decide +kernel
theorem dX6_block_124 : decode cX6_block 124 = .ok (.iload_n 3, 1) := by decide +kernel
theorem dX6_block_125 : decode cX6_block 125 = .ok (.dup2, 1) := by decide +kernel
theorem dX6_block_126 : decode cX6_block 126 = .ok (.iaload, 1) := by decide +kernel
theorem dX6_block_127 : decode cX6_block 127 = .ok (.iconst 1, 1) := by decide +kernel
theorem dX6_block_128 : decode cX6_block 128 = .ok (.isub, 1) := by decide +kernel
theorem dX6_block_129 : decode cX6_block 129 = .ok (.iastore, 1) := by decide +kernel
theorem dX6_block_130 : decode cX6_block 130 = .ok (.aload_n 0, 1) := by decide +kernel
theorem dX6_block_131 : decode cX6_block 131 = .ok (.getfield 27, 3) := by decide +kernel
theorem dX6_block_134 : decode cX6_block 134 = .ok (.getfield 119, 3) := by decide +kernel
theorem dX6_block_137 : decode cX6_block 137 = .ok (.iload_n 3, 1) := by decide +kernel
theorem dX6_block_138 : decode cX6_block 138 = .ok (.dup2, 1) := by decide +kernel
theorem dX6_block_139 : decode cX6_block 139 = .ok (.iaload, 1) := by decide +kernel
theorem dX6_block_140 : decode cX6_block 140 = .ok (.iconst 1, 1) := by decide +kernel
theorem dX6_block_141 : decode cX6_block 141 = .ok (.iadd, 1) := by decide +kernel
theorem dX6_block_142 : decode cX6_block 142 = .ok (.iastore, 1) := by decide +kernel
theorem dX6_block_143 : decode cX6_block 143 = .ok (.aload_n 0, 1) := by decide +kernel
theorem dX6_block_144 : decode cX6_block 144 = .ok (.bipush 20, 2) := by decide +kernel
theorem dX6_block_146 : decode cX6_block 146 = .ok (.iload_n 3, 1) := by decide +kernel
theorem dX6_block_147 : decode cX6_block 147 = .ok (.iadd, 1) := by decide +kernel
theorem dX6_block_148 : decode cX6_block 148 = .ok (.invokevirtual 113, 3) := by decide +kernel
theorem dX6_block_151 : decode cX6_block 151 = .ok (.iload 4, 2) := by decide +kernel
theorem dX6_block_153 : decode cX6_block 153 = .ok (.ireturn, 1) := by decide +kernel
set_option maxRecDepth 20000 in
theorem ggX6_attempt_X6_keep : GoodIn wsX6_attempt wsX6_keep := goodIn_r _ [7, 1, 8, 9, 10, 11, 12, 13, 14, 15, 129, 130, 131, 132, 133, 134, 135, 136, 137, 138, 139, 140, 141, 142, 143, 144, 145, 146, 147, 148, 149] (by decide +kernel) (by decide +kernel)
set_option maxRecDepth 20000 in
theorem gX6_attempt_X6_keep : GoodIn wsX6_attempt (wsV RX6 48 RX6 yX6_keep wsX6_keep) := goodIn_app (goodIn_of _ (by decide +kernel)) ggX6_attempt_X6_keep
set_option maxRecDepth 20000 in
theorem ggX6_attempt_X6_inside : GoodIn wsX6_attempt wsX6_inside := goodIn_r _ [62, 30, 63, 64, 65, 39, 66, 45, 67, 68, 69, 70, 6, 0, 1, 2, 3, 4, 5, 7, 8, 9, 10, 11, 12, 13, 14, 15, 16, 17, 18, 19, 20, 21, 22, 23, 24, 25, 26, 27, 28, 29, 31, 32, 33, 34, 35, 36, 37, 38, 40, 41, 42, 43, 44, 46, 47, 48, 49, 50, 51, 52, 53, 54, 55, 56, 57, 58, 59, 60, 61, 71, 72, 73, 74, 75, 76, 77, 78, 79, 80, 81, 82, 83, 84, 85, 86, 87, 88, 89, 90, 91, 92, 93, 94, 95, 96, 97, 98, 99, 100, 101, 102, 103, 104, 105, 106, 107, 108, 109, 110, 111, 112, 113, 114, 115, 116, 117, 118, 119, 120, 121, 122, 123, 124, 125, 126, 127, 128, 129, 130, 131, 132, 133, 134, 135, 136, 137, 138, 139, 140, 141, 142, 143, 144, 145, 146, 147, 148, 149, 150, 151, 152] (by decide +kernel) (by decide +kernel)
set_option maxRecDepth 20000 in
theorem gX6_attempt_X6_inside : GoodIn wsX6_attempt (wsV RX6 116 RX6 yX6_inside wsX6_inside) := goodIn_app (goodIn_of _ (by decide +kernel)) ggX6_attempt_X6_inside
set_option maxRecDepth 20000 in
theorem ggX6_attempt_X6_undo : GoodIn wsX6_attempt wsX6_undo := goodIn_r _ [22, 9, 1, 8, 10, 11, 12, 13, 14, 15, 129, 130, 131, 132, 133, 134, 135, 136, 137, 138, 139, 140, 141, 142, 143, 144, 145, 146, 147, 148, 149] (by decide +kernel) (by decide +kernel)
set_option maxRecDepth 20000 in
theorem gX6_attempt_X6_undo : GoodIn wsX6_attempt (wsV RX6 61 RX6 yX6_undo wsX6_undo) := goodIn_app (goodIn_of _ (by decide +kernel)) ggX6_attempt_X6_undo
set_option maxRecDepth 20000 in
theorem ggX6_attempt_X6_mark : GoodIn wsX6_attempt wsX6_mark := goodIn_r _ [26, 27, 28, 129, 130, 131, 132, 133, 134, 135, 136] (by decide +kernel) (by decide +kernel)
set_option maxRecDepth 20000 in
theorem gX6_attempt_X6_mark : GoodIn wsX6_attempt (wsV RX6 113 RX6 yX6_mark wsX6_mark) := goodIn_app (goodIn_of _ (by decide +kernel)) ggX6_attempt_X6_mark
theorem dX6_attempt_0 : decode cX6_attempt 0 = .ok (.aload_n 0, 1) := by decide +kernel
theorem dX6_attempt_1 : decode cX6_attempt 1 = .ok (.iload_n 2, 1) := by decide +kernel
theorem dX6_attempt_2 : decode cX6_attempt 2 = .ok (.iconst 1, 1) := by decide +kernel
theorem dX6_attempt_3 : decode cX6_attempt 3 = .ok (.iadd, 1) := by decide +kernel
theorem dX6_attempt_4 : decode cX6_attempt 4 = .ok (.invokevirtual 48, 3) := by decide +kernel
theorem dX6_attempt_7 : decode cX6_attempt 7 = .ok (.aload_n 0, 1) := by decide +kernel
theorem dX6_attempt_8 : decode cX6_attempt 8 = .ok (.iload_n 1, 1) := by decide +kernel
theorem dX6_attempt_9 : decode cX6_attempt 9 = .ok (.iload_n 1, 1) := by decide +kernel
theorem dX6_attempt_10 : decode cX6_attempt 10 = .ok (.iconst 1, 1) := by decide +kernel
theorem dX6_attempt_11 : decode cX6_attempt 11 = .ok (.iadd, 1) := by decide +kernel
theorem dX6_attempt_12 : decode cX6_attempt 12 = .ok (.iload_n 2, 1) := by decide +kernel
theorem dX6_attempt_13 : decode cX6_attempt 13 = .ok (.invokevirtual 116, 3) := by decide +kernel
theorem dX6_attempt_16 : decode cX6_attempt 16 = .ok (.istore 4, 2) := by decide +kernel
theorem dX6_attempt_18 : decode cX6_attempt 18 = .ok (.iload 4, 2) := by decide +kernel
theorem dX6_attempt_20 : decode cX6_attempt 20 = .ok (.iconst 1, 1) := by decide +kernel
theorem dX6_attempt_21 : decode cX6_attempt 21 = .ok (.if_icmp .lt 9, 3) := by decide +kernel
theorem dX6_attempt_24 : decode cX6_attempt 24 = .ok (.iload 4, 2) := by decide +kernel
theorem dX6_attempt_26 : decode cX6_attempt 26 = .ok (.iload_n 3, 1) := by decide +kernel
theorem dX6_attempt_27 : decode cX6_attempt 27 = .ok (.if_icmp .le 6, 3) := by decide +kernel
theorem dX6_attempt_30 : decode cX6_attempt 30 = .ok (.iload 4, 2) := by decide +kernel
theorem dX6_attempt_32 : decode cX6_attempt 32 = .ok (.ireturn, 1) := by decide +kernel
theorem dX6_attempt_33 : decode cX6_attempt 33 = .ok (.aload_n 0, 1) := by decide +kernel
theorem dX6_attempt_34 : decode cX6_attempt 34 = .ok (.iload_n 2, 1) := by decide +kernel
theorem dX6_attempt_35 : decode cX6_attempt 35 = .ok (.iconst 1, 1) := by decide +kernel
theorem dX6_attempt_36 : decode cX6_attempt 36 = .ok (.iadd, 1) := by decide +kernel
theorem dX6_attempt_37 : decode cX6_attempt 37 = .ok (.invokevirtual 61, 3) := by decide +kernel
theorem dX6_attempt_40 : decode cX6_attempt 40 = .ok (.aload_n 0, 1) := by decide +kernel
theorem dX6_attempt_41 : decode cX6_attempt 41 = .ok (.getfield 27, 3) := by decide +kernel
theorem dX6_attempt_44 : decode cX6_attempt 44 = .ok (.dup, 1) := by decide +kernel
theorem dX6_attempt_45 : decode cX6_attempt 45 = .ok (.getfield 122, 3) := by decide +kernel
theorem dX6_attempt_48 : decode cX6_attempt 48 = .ok (.iconst 1, 1) := by decide +kernel
theorem dX6_attempt_49 : decode cX6_attempt 49 = .ok (.iadd, 1) := by decide +kernel
theorem dX6_attempt_50 : decode cX6_attempt 50 = .ok (.putfield 122, 3) := by decide +kernel
theorem dX6_attempt_53 : decode cX6_attempt 53 = .ok (.aload_n 0, 1) := by decide +kernel
theorem dX6_attempt_54 : decode cX6_attempt 54 = .ok (.bipush 50, 2) := by decide +kernel
theorem dX6_attempt_56 : decode cX6_attempt 56 = .ok (.iload 4, 2) := by decide +kernel
theorem dX6_attempt_58 : decode cX6_attempt 58 = .ok (.iadd, 1) := by decide +kernel
theorem dX6_attempt_59 : decode cX6_attempt 59 = .ok (.invokevirtual 113, 3) := by decide +kernel
theorem dX6_attempt_62 : decode cX6_attempt 62 = .ok (.iconst 0, 1) := by decide +kernel
theorem dX6_attempt_63 : decode cX6_attempt 63 = .ok (.ireturn, 1) := by decide +kernel
set_option maxRecDepth 20000 in
theorem ggX6_loop_X3_figureAt : GoodIn wsX6_loop wsX3_figureAt := goodIn_r _ [6, 7, 8, 9, 5, 10, 11, 12, 150, 151, 152] (by decide +kernel) (by decide +kernel)
set_option maxRecDepth 20000 in
theorem gX6_loop_X3_figureAt : GoodIn wsX6_loop (wsV RX6 89 RX3 yX3_figureAt wsX3_figureAt) := goodIn_app (goodIn_of _ (by decide +kernel)) ggX6_loop_X3_figureAt
set_option maxRecDepth 20000 in
theorem ggX6_loop_X6_inside : GoodIn wsX6_loop wsX6_inside := goodIn_r _ [63, 1, 64, 65, 66, 5, 67, 11, 68, 69, 70, 71, 16, 17, 18, 19, 20, 21, 22, 23, 24, 25, 26, 27, 28, 29, 30, 31, 13, 14, 15, 32, 33, 34, 35, 36, 37, 38, 39, 40, 41, 42, 43, 44, 45, 46, 47, 2, 3, 4, 6, 7, 8, 9, 10, 12, 48, 49, 50, 51, 52, 53, 54, 55, 56, 57, 58, 59, 60, 61, 62, 72, 73, 74, 75, 76, 77, 78, 79, 80, 81, 82, 83, 84, 85, 86, 87, 88, 89, 90, 91, 92, 93, 94, 95, 96, 97, 98, 99, 100, 101, 102, 103, 104, 105, 106, 107, 108, 109, 110, 111, 112, 113, 114, 115, 116, 117, 118, 119, 120, 121, 122, 123, 124, 125, 126, 127, 128, 0, 129, 130, 131, 132, 133, 134, 135, 136, 137, 138, 139, 140, 141, 142, 143, 144, 145, 146, 147, 148, 149, 150, 151, 152] (by decide +kernel) (by decide +kernel)
set_option maxRecDepth 20000 in
theorem gX6_loop_X6_inside : GoodIn wsX6_loop (wsV RX6 116 RX6 yX6_inside wsX6_inside) := goodIn_app (goodIn_of _ (by decide +kernel)) ggX6_loop_X6_inside
theorem dX6_loop_0 : decode cX6_loop 0 = .ok (.aload_n 0, 1) := by decide +kernel
theorem dX6_loop_1 : decode cX6_loop 1 = .ok (.getfield 41, 3) := by decide +kernel
theorem dX6_loop_4 : decode cX6_loop 4 = .ok (.iload_n 1, 1) := by decide +kernel
theorem dX6_loop_5 : decode cX6_loop 5 = .ok (.iconst 1, 1) := by decide +kernel
theorem dX6_loop_6 : decode cX6_loop 6 = .ok (.iadd, 1) := by decide +kernel
theorem dX6_loop_7 : decode cX6_loop 7 = .ok (.invokevirtual 89, 3) := by decide +kernel
theorem dX6_loop_10 : decode cX6_loop 10 = .ok (.istore_n 3, 1) := by decide +kernel
theorem dX6_loop_11 : decode cX6_loop 11 = .ok (.iconst 0, 1) := by decide +kernel
theorem dX6_loop_12 : decode cX6_loop 12 = .ok (.istore 4, 2) := by decide +kernel
theorem dX6_loop_14 : decode cX6_loop 14 = .ok (.iload 4, 2) := by decide +kernel
theorem dX6_loop_16 : decode cX6_loop 16 = .ok (.iload_n 3, 1) := by decide +kernel
theorem dX6_loop_17 : decode cX6_loop 17 = .ok (.if_icmp .ge 44, 3) := by decide +kernel
theorem dX6_loop_20 : decode cX6_loop 20 = .ok (.aload_n 0, 1) := by decide +kernel
theorem dX6_loop_21 : decode cX6_loop 21 = .ok (.iload_n 1, 1) := by decide +kernel
theorem dX6_loop_22 : decode cX6_loop 22 = .ok (.iload_n 1, 1) := by decide +kernel
theorem dX6_loop_23 : decode cX6_loop 23 = .ok (.iconst 2, 1) := by decide +kernel
theorem dX6_loop_24 : decode cX6_loop 24 = .ok (.iadd, 1) := by decide +kernel
theorem dX6_loop_25 : decode cX6_loop 25 = .ok (.iload_n 2, 1) := by decide +kernel
theorem dX6_loop_26 : decode cX6_loop 26 = .ok (.invokevirtual 116, 3) := by decide +kernel
theorem dX6_loop_29 : decode cX6_loop 29 = .ok (.istore 5, 2) := by decide +kernel
theorem dX6_loop_31 : decode cX6_loop 31 = .ok (.iload 5, 2) := by decide +kernel
theorem dX6_loop_33 : decode cX6_loop 33 = .ok (.bipush 6, 2) := by decide +kernel
theorem dX6_loop_35 : decode cX6_loop 35 = .ok (.if_icmp .ne 5, 3) := by decide +kernel
theorem dX6_loop_38 : decode cX6_loop 38 = .ok (.iconst 0, 1) := by decide +kernel
theorem dX6_loop_39 : decode cX6_loop 39 = .ok (.ireturn, 1) := by decide +kernel
theorem dX6_loop_40 : decode cX6_loop 40 = .ok (.iload 5, 2) := by decide +kernel
theorem dX6_loop_42 : decode cX6_loop 42 = .ok (.ifCond .eq 13, 3) := by decide +kernel
theorem dX6_loop_45 : decode cX6_loop 45 = .ok (.iload 5, 2) := by decide +kernel
theorem dX6_loop_47 : decode cX6_loop 47 = .ok (.bipush 7, 2) := by decide +kernel
theorem dX6_loop_49 : decode cX6_loop 49 = .ok (.if_icmp .eq 6, 3) := by decide +kernel
theorem dX6_loop_52 : decode cX6_loop 52 = .ok (.iload 5, 2) := by decide +kernel
theorem dX6_loop_54 : decode cX6_loop 54 = .ok (.ireturn, 1) := by decide +kernel
theorem dX6_loop_55 : decode cX6_loop 55 = .ok (.iinc 4 1, 3) := by decide +kernel
theorem dX6_loop_58 : decode cX6_loop 58 = .ok (.goto (-44), 3) := by decide +kernel
theorem dX6_loop_61 : decode cX6_loop 61 = .ok (.iconst 0, 1) := by decide +kernel
theorem dX6_loop_62 : decode cX6_loop 62 = .ok (.ireturn, 1) := by decide +kernel
set_option maxRecDepth 20000 in
theorem ggX6_payment_X3_figureAt : GoodIn wsX6_payment wsX3_figureAt := goodIn_r _ [10, 11, 12, 13, 9, 14, 15, 16, 82, 83, 84] (by decide +kernel) (by decide +kernel)
set_option maxRecDepth 20000 in
theorem gX6_payment_X3_figureAt : GoodIn wsX6_payment (wsV RX6 89 RX3 yX3_figureAt wsX3_figureAt) := goodIn_app (goodIn_of _ (by decide +kernel)) ggX6_payment_X3_figureAt
set_option maxRecDepth 20000 in
theorem ggX6_payment_X6_isHeld : GoodIn wsX6_payment wsX6_isHeld := goodIn_r _ [21, 2, 22, 23, 24, 25, 26, 27, 28, 61, 62, 63, 64, 65, 66, 67, 68, 69, 70, 71, 72, 73, 74, 75, 76, 77, 78, 79, 80, 81] (by decide +kernel) (by decide +kernel)
set_option maxRecDepth 20000 in
theorem gX6_payment_X6_isHeld : GoodIn wsX6_payment (wsV RX6 125 RX6 yX6_isHeld wsX6_isHeld) := goodIn_app (goodIn_of _ (by decide +kernel)) ggX6_payment_X6_isHeld
set_option maxRecDepth 20000 in
theorem ggX6_payment_X3_behindItem : GoodIn wsX6_payment wsX3_behindItem := goodIn_r _ [32, 15, 33, 82, 83, 84] (by decide +kernel) (by decide +kernel)
set_option maxRecDepth 20000 in
theorem gX6_payment_X3_behindItem : GoodIn wsX6_payment (wsV RX6 67 RX3 yX3_behindItem wsX3_behindItem) := goodIn_app (goodIn_of _ (by decide +kernel)) ggX6_payment_X3_behindItem
set_option maxRecDepth 20000 in
theorem ggX6_payment_X3_numberBetween : GoodIn wsX6_payment wsX3_numberBetween := goodIn_r _ [37, 11, 12, 13, 9, 14, 15, 16, 82, 83, 84] (by decide +kernel) (by decide +kernel)
set_option maxRecDepth 20000 in
theorem gX6_payment_X3_numberBetween : GoodIn wsX6_payment (wsV RX6 128 RX3 yX3_numberBetween wsX3_numberBetween) := goodIn_app (goodIn_of _ (by decide +kernel)) ggX6_payment_X3_numberBetween
set_option maxRecDepth 20000 in
theorem ggX6_payment_X0_feeOf : GoodIn wsX6_payment wsX0_feeOf := goodIn_r _ [41, 42, 43, 44, 45, 46, 69, 70, 71, 72, 73, 74, 75, 76, 77, 78, 79, 80, 81] (by decide +kernel) (by decide +kernel)
set_option maxRecDepth 20000 in
theorem gX6_payment_X0_feeOf : GoodIn wsX6_payment (wsV RX6 131 RX0 yX0_feeOf wsX0_feeOf) := goodIn_app (goodIn_of _ (by decide +kernel)) ggX6_payment_X0_feeOf
set_option maxRecDepth 20000 in
theorem ggX6_payment_X0_floorOf : GoodIn wsX6_payment wsX0_floorOf := goodIn_r _ [50, 42, 51, 52, 53, 45, 54, 69, 70, 71, 72, 73, 74, 75, 76, 77, 78, 79, 80, 81] (by decide +kernel) (by decide +kernel)
set_option maxRecDepth 20000 in
theorem gX6_payment_X0_floorOf : GoodIn wsX6_payment (wsV RX6 137 RX0 yX0_floorOf wsX0_floorOf) := goodIn_app (goodIn_of _ (by decide +kernel)) ggX6_payment_X0_floorOf
set_option maxRecDepth 20000 in
theorem ggX6_payment_X6_mark : GoodIn wsX6_payment wsX6_mark := goodIn_r _ [58, 59, 60, 61, 62, 63, 64, 65, 66, 67, 68] (by decide +kernel) (by decide +kernel)
set_option maxRecDepth 20000 in
theorem gX6_payment_X6_mark : GoodIn wsX6_payment (wsV RX6 113 RX6 yX6_mark wsX6_mark) := goodIn_app (goodIn_of _ (by decide +kernel)) ggX6_payment_X6_mark
theorem dX6_payment_0 : decode cX6_payment 0 = .ok (.aload_n 0, 1) := by decide +kernel
theorem dX6_payment_1 : decode cX6_payment 1 = .ok (.getfield 41, 3) := by decide +kernel
theorem dX6_payment_4 : decode cX6_payment 4 = .ok (.iload_n 1, 1) := by decide +kernel
theorem dX6_payment_5 : decode cX6_payment 5 = .ok (.iconst 1, 1) := by decide +kernel
theorem dX6_payment_6 : decode cX6_payment 6 = .ok (.iadd, 1) := by decide +kernel
theorem dX6_payment_7 : decode cX6_payment 7 = .ok (.invokevirtual 89, 3) := by decide +kernel
theorem dX6_payment_10 : decode cX6_payment 10 = .ok (.istore_n 2, 1) := by decide +kernel
theorem dX6_payment_11 : decode cX6_payment 11 = .ok (.aload_n 0, 1) := by decide +kernel
theorem dX6_payment_12 : decode cX6_payment 12 = .ok (.getfield 41, 3) := by decide +kernel
theorem dX6_payment_15 : decode cX6_payment 15 = .ok (.iload_n 1, 1) := by decide +kernel
theorem dX6_payment_16 : decode cX6_payment 16 = .ok (.iconst 2, 1) := by decide +kernel
theorem dX6_payment_17 : decode cX6_payment 17 = .ok (.iadd, 1) := by decide +kernel
theorem dX6_payment_18 : decode cX6_payment 18 = .ok (.invokevirtual 89, 3) := by decide +kernel
theorem dX6_payment_21 : decode cX6_payment 21 = .ok (.istore_n 3, 1) := by decide +kernel
theorem dX6_payment_22 : decode cX6_payment 22 = .ok (.iload_n 2, 1) := by decide +kernel
theorem dX6_payment_23 : decode cX6_payment 23 = .ok (.iload_n 3, 1) := by decide +kernel
theorem dX6_payment_24 : decode cX6_payment 24 = .ok (.if_icmp .eq 19, 3) := by decide +kernel
theorem dX6_payment_27 : decode cX6_payment 27 = .ok (.aload_n 0, 1) := by decide +kernel
theorem dX6_payment_28 : decode cX6_payment 28 = .ok (.iload_n 2, 1) := by decide +kernel
theorem dX6_payment_29 : decode cX6_payment 29 = .ok (.invokevirtual 125, 3) := by decide +kernel
theorem dX6_payment_32 : decode cX6_payment 32 = .ok (.ifCond .eq 11, 3) := by decide +kernel
theorem dX6_payment_35 : decode cX6_payment 35 = .ok (.aload_n 0, 1) := by decide +kernel
theorem dX6_payment_36 : decode cX6_payment 36 = .ok (.iload_n 3, 1) := by decide +kernel
theorem dX6_payment_37 : decode cX6_payment 37 = .ok (.invokevirtual 125, 3) := by decide +kernel
theorem dX6_payment_40 : decode cX6_payment 40 = .ok (.ifCond .ne 5, 3) := by decide +kernel
theorem dX6_payment_43 : decode cX6_payment 43 = .ok (.iconst 2, 1) := by decide +kernel
theorem dX6_payment_44 : decode cX6_payment 44 = .ok (.ireturn, 1) := by decide +kernel
theorem dX6_payment_45 : decode cX6_payment 45 = .ok (.aload_n 0, 1) := by decide +kernel
theorem dX6_payment_46 : decode cX6_payment 46 = .ok (.getfield 41, 3) := by decide +kernel
theorem dX6_payment_49 : decode cX6_payment 49 = .ok (.iload_n 1, 1) := by decide +kernel
theorem dX6_payment_50 : decode cX6_payment 50 = .ok (.iconst 3, 1) := by decide +kernel
theorem dX6_payment_51 : decode cX6_payment 51 = .ok (.iadd, 1) := by decide +kernel
theorem dX6_payment_52 : decode cX6_payment 52 = .ok (.aload_n 0, 1) := by decide +kernel
theorem dX6_payment_53 : decode cX6_payment 53 = .ok (.getfield 41, 3) := by decide +kernel
theorem dX6_payment_56 : decode cX6_payment 56 = .ok (.iload_n 1, 1) := by decide +kernel
theorem dX6_payment_57 : decode cX6_payment 57 = .ok (.invokevirtual 67, 3) := by decide +kernel
theorem dX6_payment_60 : decode cX6_payment 60 = .ok (.invokevirtual 128, 3) := by decide +kernel
theorem dX6_payment_63 : decode cX6_payment 63 = .ok (.istore 4, 2) := by decide +kernel
theorem dX6_payment_65 : decode cX6_payment 65 = .ok (.aload_n 0, 1) := by decide +kernel
theorem dX6_payment_66 : decode cX6_payment 66 = .ok (.getfield 27, 3) := by decide +kernel
theorem dX6_payment_69 : decode cX6_payment 69 = .ok (.iload_n 2, 1) := by decide +kernel
theorem dX6_payment_70 : decode cX6_payment 70 = .ok (.iload 4, 2) := by decide +kernel
theorem dX6_payment_72 : decode cX6_payment 72 = .ok (.invokevirtual 131, 3) := by decide +kernel
theorem dX6_payment_75 : decode cX6_payment 75 = .ok (.istore 5, 2) := by decide +kernel
theorem dX6_payment_77 : decode cX6_payment 77 = .ok (.aload_n 0, 1) := by decide +kernel
theorem dX6_payment_78 : decode cX6_payment 78 = .ok (.getfield 27, 3) := by decide +kernel
theorem dX6_payment_81 : decode cX6_payment 81 = .ok (.getfield 134, 3) := by decide +kernel
theorem dX6_payment_84 : decode cX6_payment 84 = .ok (.iload_n 2, 1) := by decide +kernel
theorem dX6_payment_85 : decode cX6_payment 85 = .ok (.iaload, 1) := by decide +kernel
theorem dX6_payment_86 : decode cX6_payment 86 = .ok (.iload 4, 2) := by decide +kernel
theorem dX6_payment_88 : decode cX6_payment 88 = .ok (.isub, 1) := by decide +kernel
theorem dX6_payment_89 : decode cX6_payment 89 = .ok (.iload 5, 2) := by decide +kernel
theorem dX6_payment_91 : decode cX6_payment 91 = .ok (.isub, 1) := by decide +kernel
theorem dX6_payment_92 : decode cX6_payment 92 = .ok (.istore 6, 2) := by decide +kernel
theorem dX6_payment_94 : decode cX6_payment 94 = .ok (.iload 6, 2) := by decide +kernel
theorem dX6_payment_96 : decode cX6_payment 96 = .ok (.aload_n 0, 1) := by decide +kernel
theorem dX6_payment_97 : decode cX6_payment 97 = .ok (.getfield 27, 3) := by decide +kernel
theorem dX6_payment_100 : decode cX6_payment 100 = .ok (.iload_n 2, 1) := by decide +kernel
theorem dX6_payment_101 : decode cX6_payment 101 = .ok (.invokevirtual 137, 3) := by decide +kernel
theorem dX6_payment_104 : decode cX6_payment 104 = .ok (.if_icmp .lt 20, 3) := by decide +kernel
theorem dX6_payment_107 : decode cX6_payment 107 = .ok (.aload_n 0, 1) := by decide +kernel
theorem dX6_payment_108 : decode cX6_payment 108 = .ok (.getfield 27, 3) := by decide +kernel
theorem dX6_payment_111 : decode cX6_payment 111 = .ok (.getfield 134, 3) := by decide +kernel
theorem dX6_payment_114 : decode cX6_payment 114 = .ok (.iload_n 3, 1) := by decide +kernel
theorem dX6_payment_115 : decode cX6_payment 115 = .ok (.iaload, 1) := by decide +kernel
theorem dX6_payment_116 : decode cX6_payment 116 = .ok (.iload 4, 2) := by decide +kernel
theorem dX6_payment_118 : decode cX6_payment 118 = .ok (.iadd, 1) := by decide +kernel
theorem dX6_payment_119 : decode cX6_payment 119 = .ok (.ldc 140, 2) := by decide +kernel
theorem dX6_payment_121 : decode cX6_payment 121 = .ok (.if_icmp .le 5, 3) := by decide +kernel
theorem dX6_payment_124 : decode cX6_payment 124 = .ok (.iconst 1, 1) := by decide +kernel
theorem dX6_payment_125 : decode cX6_payment 125 = .ok (.ireturn, 1) := by decide +kernel
theorem dX6_payment_126 : decode cX6_payment 126 = .ok (.aload_n 0, 1) := by decide +kernel
theorem dX6_payment_127 : decode cX6_payment 127 = .ok (.getfield 27, 3) := by decide +kernel
theorem dX6_payment_130 : decode cX6_payment 130 = .ok (.getfield 134, 3) := by decide +kernel
theorem dX6_payment_133 : decode cX6_payment 133 = .ok (.iload_n 2, 1) := by decide +kernel
theorem dX6_payment_134 : decode cX6_payment 134 = .ok (.iload 6, 2) := by decide +kernel
theorem dX6_payment_136 : decode cX6_payment 136 = .ok (.iastore, 1) := by decide +kernel
theorem dX6_payment_137 : decode cX6_payment 137 = .ok (.aload_n 0, 1) := by decide +kernel
theorem dX6_payment_138 : decode cX6_payment 138 = .ok (.getfield 27, 3) := by decide +kernel
theorem dX6_payment_141 : decode cX6_payment 141 = .ok (.getfield 134, 3) := by decide +kernel
theorem dX6_payment_144 : decode cX6_payment 144 = .ok (.iload_n 3, 1) := by decide +kernel
theorem dX6_payment_145 : decode cX6_payment 145 = .ok (.dup2, 1) := by decide +kernel
theorem dX6_payment_146 : decode cX6_payment 146 = .ok (.iaload, 1) := by decide +kernel
theorem dX6_payment_147 : decode cX6_payment 147 = .ok (.iload 4, 2) := by decide +kernel
theorem dX6_payment_149 : decode cX6_payment 149 = .ok (.iadd, 1) := by decide +kernel
theorem dX6_payment_150 : decode cX6_payment 150 = .ok (.iastore, 1) := by decide +kernel
theorem dX6_payment_151 : decode cX6_payment 151 = .ok (.aload_n 0, 1) := by decide +kernel
theorem dX6_payment_152 : decode cX6_payment 152 = .ok (.getfield 27, 3) := by decide +kernel
theorem dX6_payment_155 : decode cX6_payment 155 = .ok (.dup, 1) := by decide +kernel
theorem dX6_payment_156 : decode cX6_payment 156 = .ok (.getfield 141, 3) := by decide +kernel
theorem dX6_payment_159 : decode cX6_payment 159 = .ok (.iload 5, 2) := by decide +kernel
theorem dX6_payment_161 : decode cX6_payment 161 = .ok (.i2l, 1) := by decide +kernel
theorem dX6_payment_162 : decode cX6_payment 162 = .ok (.ladd, 1) := by decide +kernel
theorem dX6_payment_163 : decode cX6_payment 163 = .ok (.putfield 141, 3) := by decide +kernel
theorem dX6_payment_166 : decode cX6_payment 166 = .ok (.aload_n 0, 1) := by decide +kernel
theorem dX6_payment_167 : decode cX6_payment 167 = .ok (.bipush 100, 2) := by decide +kernel
theorem dX6_payment_169 : decode cX6_payment 169 = .ok (.bipush 10, 2) := by decide +kernel
theorem dX6_payment_171 : decode cX6_payment 171 = .ok (.iload_n 2, 1) := by decide +kernel
theorem dX6_payment_172 : decode cX6_payment 172 = .ok (.imul, 1) := by decide +kernel
theorem dX6_payment_173 : decode cX6_payment 173 = .ok (.iadd, 1) := by decide +kernel
theorem dX6_payment_174 : decode cX6_payment 174 = .ok (.iload_n 3, 1) := by decide +kernel
theorem dX6_payment_175 : decode cX6_payment 175 = .ok (.iadd, 1) := by decide +kernel
theorem dX6_payment_176 : decode cX6_payment 176 = .ok (.invokevirtual 113, 3) := by decide +kernel
theorem dX6_payment_179 : decode cX6_payment 179 = .ok (.iconst 0, 1) := by decide +kernel
theorem dX6_payment_180 : decode cX6_payment 180 = .ok (.ireturn, 1) := by decide +kernel
set_option maxRecDepth 20000 in
theorem ggX6_bell_X0_hasGate : GoodIn wsX6_bell wsX0_hasGate := goodIn_r _ [9, 10, 11, 12, 13, 8, 14, 15, 37, 38, 39, 40, 41, 42, 43, 44, 45, 46, 47, 48, 49] (by decide +kernel) (by decide +kernel)
set_option maxRecDepth 20000 in
theorem gX6_bell_X0_hasGate : GoodIn wsX6_bell (wsV RX6 95 RX0 yX0_hasGate wsX0_hasGate) := goodIn_app (goodIn_of _ (by decide +kernel)) ggX6_bell_X0_hasGate
set_option maxRecDepth 20000 in
theorem ggX6_bell_X6_isHeld : GoodIn wsX6_bell wsX6_isHeld := goodIn_r _ [20, 1, 21, 22, 12, 13, 8, 14, 15, 29, 30, 31, 32, 33, 34, 35, 36, 37, 38, 39, 40, 41, 42, 43, 44, 45, 46, 47, 48, 49] (by decide +kernel) (by decide +kernel)
set_option maxRecDepth 20000 in
theorem gX6_bell_X6_isHeld : GoodIn wsX6_bell (wsV RX6 125 RX6 yX6_isHeld wsX6_isHeld) := goodIn_app (goodIn_of _ (by decide +kernel)) ggX6_bell_X6_isHeld
set_option maxRecDepth 20000 in
theorem ggX6_bell_X6_mark : GoodIn wsX6_bell wsX6_mark := goodIn_r _ [26, 27, 28, 29, 30, 31, 32, 33, 34, 35, 36] (by decide +kernel) (by decide +kernel)
set_option maxRecDepth 20000 in
theorem gX6_bell_X6_mark : GoodIn wsX6_bell (wsV RX6 113 RX6 yX6_mark wsX6_mark) := goodIn_app (goodIn_of _ (by decide +kernel)) ggX6_bell_X6_mark
theorem dX6_bell_0 : decode cX6_bell 0 = .ok (.aload_n 0, 1) := by decide +kernel
theorem dX6_bell_1 : decode cX6_bell 1 = .ok (.getfield 27, 3) := by decide +kernel
theorem dX6_bell_4 : decode cX6_bell 4 = .ok (.iload_n 1, 1) := by decide +kernel
theorem dX6_bell_5 : decode cX6_bell 5 = .ok (.invokevirtual 95, 3) := by decide +kernel
theorem dX6_bell_8 : decode cX6_bell 8 = .ok (.ifCond .ne 19, 3) := by decide +kernel
theorem dX6_bell_11 : decode cX6_bell 11 = .ok (.aload_n 0, 1) := by decide +kernel
theorem dX6_bell_12 : decode cX6_bell 12 = .ok (.getfield 27, 3) := by decide +kernel
theorem dX6_bell_15 : decode cX6_bell 15 = .ok (.dup, 1) := by decide +kernel
theorem dX6_bell_16 : decode cX6_bell 16 = .ok (.getfield 101, 3) := by decide +kernel
theorem dX6_bell_19 : decode cX6_bell 19 = .ok (.iconst 1, 1) := by decide +kernel
theorem dX6_bell_20 : decode cX6_bell 20 = .ok (.iadd, 1) := by decide +kernel
theorem dX6_bell_21 : decode cX6_bell 21 = .ok (.putfield 101, 3) := by decide +kernel
theorem dX6_bell_24 : decode cX6_bell 24 = .ok (.goto 56, 3) := by decide +kernel
theorem dX6_bell_27 : decode cX6_bell 27 = .ok (.aload_n 0, 1) := by decide +kernel
theorem dX6_bell_28 : decode cX6_bell 28 = .ok (.iload_n 1, 1) := by decide +kernel
theorem dX6_bell_29 : decode cX6_bell 29 = .ok (.invokevirtual 125, 3) := by decide +kernel
theorem dX6_bell_32 : decode cX6_bell 32 = .ok (.ifCond .eq 27, 3) := by decide +kernel
theorem dX6_bell_35 : decode cX6_bell 35 = .ok (.aload_n 0, 1) := by decide +kernel
theorem dX6_bell_36 : decode cX6_bell 36 = .ok (.getfield 27, 3) := by decide +kernel
theorem dX6_bell_39 : decode cX6_bell 39 = .ok (.dup, 1) := by decide +kernel
theorem dX6_bell_40 : decode cX6_bell 40 = .ok (.getfield 145, 3) := by decide +kernel
theorem dX6_bell_43 : decode cX6_bell 43 = .ok (.iload_n 2, 1) := by decide +kernel
theorem dX6_bell_44 : decode cX6_bell 44 = .ok (.iadd, 1) := by decide +kernel
theorem dX6_bell_45 : decode cX6_bell 45 = .ok (.putfield 145, 3) := by decide +kernel
theorem dX6_bell_48 : decode cX6_bell 48 = .ok (.aload_n 0, 1) := by decide +kernel
theorem dX6_bell_49 : decode cX6_bell 49 = .ok (.bipush 30, 2) := by decide +kernel
theorem dX6_bell_51 : decode cX6_bell 51 = .ok (.iload_n 1, 1) := by decide +kernel
theorem dX6_bell_52 : decode cX6_bell 52 = .ok (.iadd, 1) := by decide +kernel
theorem dX6_bell_53 : decode cX6_bell 53 = .ok (.invokevirtual 113, 3) := by decide +kernel
theorem dX6_bell_56 : decode cX6_bell 56 = .ok (.goto 24, 3) := by decide +kernel
theorem dX6_bell_59 : decode cX6_bell 59 = .ok (.aload_n 0, 1) := by decide +kernel
theorem dX6_bell_60 : decode cX6_bell 60 = .ok (.getfield 27, 3) := by decide +kernel
theorem dX6_bell_63 : decode cX6_bell 63 = .ok (.dup, 1) := by decide +kernel
theorem dX6_bell_64 : decode cX6_bell 64 = .ok (.getfield 148, 3) := by decide +kernel
theorem dX6_bell_67 : decode cX6_bell 67 = .ok (.iconst 1, 1) := by decide +kernel
theorem dX6_bell_68 : decode cX6_bell 68 = .ok (.iadd, 1) := by decide +kernel
theorem dX6_bell_69 : decode cX6_bell 69 = .ok (.putfield 148, 3) := by decide +kernel
theorem dX6_bell_72 : decode cX6_bell 72 = .ok (.aload_n 0, 1) := by decide +kernel
theorem dX6_bell_73 : decode cX6_bell 73 = .ok (.bipush 40, 2) := by decide +kernel
theorem dX6_bell_75 : decode cX6_bell 75 = .ok (.iload_n 1, 1) := by decide +kernel
theorem dX6_bell_76 : decode cX6_bell 76 = .ok (.iadd, 1) := by decide +kernel
theorem dX6_bell_77 : decode cX6_bell 77 = .ok (.invokevirtual 113, 3) := by decide +kernel
theorem dX6_bell_80 : decode cX6_bell 80 = .ok (.iconst 0, 1) := by decide +kernel
theorem dX6_bell_81 : decode cX6_bell 81 = .ok (.ireturn, 1) := by decide +kernel
set_option maxRecDepth 20000 in
theorem ggX6_isHeld_X0_has : GoodIn wsX6_isHeld wsX0_has := goodIn_r _ [7, 8, 17, 18, 19, 20, 21, 22, 23, 24, 25, 26, 27, 28, 29] (by decide +kernel) (by decide +kernel)
set_option maxRecDepth 20000 in
theorem gX6_isHeld_X0_has : GoodIn wsX6_isHeld (wsV RX6 151 RX0 yX0_has wsX0_has) := goodIn_app (goodIn_of _ (by decide +kernel)) ggX6_isHeld_X0_has
theorem dX6_isHeld_0 : decode cX6_isHeld 0 = .ok (.aload_n 0, 1) := by decide +kernel
theorem dX6_isHeld_1 : decode cX6_isHeld 1 = .ok (.getfield 27, 3) := by decide +kernel
theorem dX6_isHeld_4 : decode cX6_isHeld 4 = .ok (.iload_n 1, 1) := by decide +kernel
theorem dX6_isHeld_5 : decode cX6_isHeld 5 = .ok (.invokevirtual 151, 3) := by decide +kernel
theorem dX6_isHeld_8 : decode cX6_isHeld 8 = .ok (.ifCond .eq 16, 3) := by decide +kernel
theorem dX6_isHeld_11 : decode cX6_isHeld 11 = .ok (.aload_n 0, 1) := by decide +kernel
theorem dX6_isHeld_12 : decode cX6_isHeld 12 = .ok (.getfield 15, 3) := by decide +kernel
theorem dX6_isHeld_15 : decode cX6_isHeld 15 = .ok (.iload_n 1, 1) := by decide +kernel
theorem dX6_isHeld_16 : decode cX6_isHeld 16 = .ok (.iaload, 1) := by decide +kernel
theorem dX6_isHeld_17 : decode cX6_isHeld 17 = .ok (.ifCond .le 7, 3) := by decide +kernel
theorem dX6_isHeld_20 : decode cX6_isHeld 20 = .ok (.iconst 1, 1) := by decide +kernel
theorem dX6_isHeld_21 : decode cX6_isHeld 21 = .ok (.goto 4, 3) := by decide +kernel
theorem dX6_isHeld_24 : decode cX6_isHeld 24 = .ok (.iconst 0, 1) := by decide +kernel
theorem dX6_isHeld_25 : decode cX6_isHeld 25 = .ok (.ireturn, 1) := by decide +kernel
theorem dX6_isGreaterHeld_0 : decode cX6_isGreaterHeld 0 = .ok (.iload_n 1, 1) := by decide +kernel
theorem dX6_isGreaterHeld_1 : decode cX6_isGreaterHeld 1 = .ok (.iconst 1, 1) := by decide +kernel
theorem dX6_isGreaterHeld_2 : decode cX6_isGreaterHeld 2 = .ok (.iadd, 1) := by decide +kernel
theorem dX6_isGreaterHeld_3 : decode cX6_isGreaterHeld 3 = .ok (.istore_n 2, 1) := by decide +kernel
theorem dX6_isGreaterHeld_4 : decode cX6_isGreaterHeld 4 = .ok (.iload_n 2, 1) := by decide +kernel
theorem dX6_isGreaterHeld_5 : decode cX6_isGreaterHeld 5 = .ok (.bipush 8, 2) := by decide +kernel
theorem dX6_isGreaterHeld_7 : decode cX6_isGreaterHeld 7 = .ok (.if_icmp .ge 20, 3) := by decide +kernel
theorem dX6_isGreaterHeld_10 : decode cX6_isGreaterHeld 10 = .ok (.aload_n 0, 1) := by decide +kernel
theorem dX6_isGreaterHeld_11 : decode cX6_isGreaterHeld 11 = .ok (.getfield 15, 3) := by decide +kernel
theorem dX6_isGreaterHeld_14 : decode cX6_isGreaterHeld 14 = .ok (.iload_n 2, 1) := by decide +kernel
theorem dX6_isGreaterHeld_15 : decode cX6_isGreaterHeld 15 = .ok (.iaload, 1) := by decide +kernel
theorem dX6_isGreaterHeld_16 : decode cX6_isGreaterHeld 16 = .ok (.ifCond .le 5, 3) := by decide +kernel
theorem dX6_isGreaterHeld_19 : decode cX6_isGreaterHeld 19 = .ok (.iconst 1, 1) := by decide +kernel
theorem dX6_isGreaterHeld_20 : decode cX6_isGreaterHeld 20 = .ok (.ireturn, 1) := by decide +kernel
theorem dX6_isGreaterHeld_21 : decode cX6_isGreaterHeld 21 = .ok (.iinc 2 1, 3) := by decide +kernel
theorem dX6_isGreaterHeld_24 : decode cX6_isGreaterHeld 24 = .ok (.goto (-20), 3) := by decide +kernel
theorem dX6_isGreaterHeld_27 : decode cX6_isGreaterHeld 27 = .ok (.iconst 0, 1) := by decide +kernel
theorem dX6_isGreaterHeld_28 : decode cX6_isGreaterHeld 28 = .ok (.ireturn, 1) := by decide +kernel
theorem dX6_mark_0 : decode cX6_mark 0 = .ok (.aload_n 0, 1) := by decide +kernel
theorem dX6_mark_1 : decode cX6_mark 1 = .ok (.getfield 31, 3) := by decide +kernel
theorem dX6_mark_4 : decode cX6_mark 4 = .ok (.bipush 60, 2) := by decide +kernel
theorem dX6_mark_6 : decode cX6_mark 6 = .ok (.if_icmp .ge 13, 3) := by decide +kernel
theorem dX6_mark_9 : decode cX6_mark 9 = .ok (.aload_n 0, 1) := by decide +kernel
theorem dX6_mark_10 : decode cX6_mark 10 = .ok (.getfield 9, 3) := by decide +kernel
theorem dX6_mark_13 : decode cX6_mark 13 = .ok (.aload_n 0, 1) := by decide +kernel
theorem dX6_mark_14 : decode cX6_mark 14 = .ok (.getfield 31, 3) := by decide +kernel
theorem dX6_mark_17 : decode cX6_mark 17 = .ok (.iload_n 1, 1) := by decide +kernel
theorem dX6_mark_18 : decode cX6_mark 18 = .ok (.iastore, 1) := by decide +kernel
theorem dX6_mark_19 : decode cX6_mark 19 = .ok (.aload_n 0, 1) := by decide +kernel
theorem dX6_mark_20 : decode cX6_mark 20 = .ok (.dup, 1) := by decide +kernel
theorem dX6_mark_21 : decode cX6_mark 21 = .ok (.getfield 31, 3) := by decide +kernel
theorem dX6_mark_24 : decode cX6_mark 24 = .ok (.iconst 1, 1) := by decide +kernel
theorem dX6_mark_25 : decode cX6_mark 25 = .ok (.iadd, 1) := by decide +kernel
theorem dX6_mark_26 : decode cX6_mark 26 = .ok (.putfield 31, 3) := by decide +kernel
theorem dX6_mark_29 : decode cX6_mark 29 = .ok (.return_, 1) := by decide +kernel
theorem dX6_keep_0 : decode cX6_keep 0 = .ok (.iload_n 1, 1) := by decide +kernel
theorem dX6_keep_1 : decode cX6_keep 1 = .ok (.bipush 8, 2) := by decide +kernel
theorem dX6_keep_3 : decode cX6_keep 3 = .ok (.if_icmp .le 4, 3) := by decide +kernel
theorem dX6_keep_6 : decode cX6_keep 6 = .ok (.return_, 1) := by decide +kernel
theorem dX6_keep_7 : decode cX6_keep 7 = .ok (.aload_n 0, 1) := by decide +kernel
theorem dX6_keep_8 : decode cX6_keep 8 = .ok (.getfield 27, 3) := by decide +kernel
theorem dX6_keep_11 : decode cX6_keep 11 = .ok (.getfield 134, 3) := by decide +kernel
theorem dX6_keep_14 : decode cX6_keep 14 = .ok (.iconst 0, 1) := by decide +kernel
theorem dX6_keep_15 : decode cX6_keep 15 = .ok (.aload_n 0, 1) := by decide +kernel
theorem dX6_keep_16 : decode cX6_keep 16 = .ok (.getfield 20, 3) := by decide +kernel
theorem dX6_keep_19 : decode cX6_keep 19 = .ok (.iload_n 1, 1) := by decide +kernel
theorem dX6_keep_20 : decode cX6_keep 20 = .ok (.aaload, 1) := by decide +kernel
theorem dX6_keep_21 : decode cX6_keep 21 = .ok (.iconst 0, 1) := by decide +kernel
theorem dX6_keep_22 : decode cX6_keep 22 = .ok (.bipush 8, 2) := by decide +kernel
theorem dX6_keep_24 : decode cX6_keep 24 = .ok (.invokestatic 154, 3) := by decide +kernel
theorem dX6_keep_27 : decode cX6_keep 27 = .ok (.aload_n 0, 1) := by decide +kernel
theorem dX6_keep_28 : decode cX6_keep 28 = .ok (.getfield 23, 3) := by decide +kernel
theorem dX6_keep_31 : decode cX6_keep 31 = .ok (.iload_n 1, 1) := by decide +kernel
theorem dX6_keep_32 : decode cX6_keep 32 = .ok (.aload_n 0, 1) := by decide +kernel
theorem dX6_keep_33 : decode cX6_keep 33 = .ok (.getfield 27, 3) := by decide +kernel
theorem dX6_keep_36 : decode cX6_keep 36 = .ok (.getfield 141, 3) := by decide +kernel
theorem dX6_keep_39 : decode cX6_keep 39 = .ok (.lastore, 1) := by decide +kernel
theorem dX6_keep_40 : decode cX6_keep 40 = .ok (.return_, 1) := by decide +kernel
theorem dX6_undo_0 : decode cX6_undo 0 = .ok (.iload_n 1, 1) := by decide +kernel
theorem dX6_undo_1 : decode cX6_undo 1 = .ok (.bipush 8, 2) := by decide +kernel
theorem dX6_undo_3 : decode cX6_undo 3 = .ok (.if_icmp .le 4, 3) := by decide +kernel
theorem dX6_undo_6 : decode cX6_undo 6 = .ok (.return_, 1) := by decide +kernel
theorem dX6_undo_7 : decode cX6_undo 7 = .ok (.aload_n 0, 1) := by decide +kernel
theorem dX6_undo_8 : decode cX6_undo 8 = .ok (.getfield 20, 3) := by decide +kernel
theorem dX6_undo_11 : decode cX6_undo 11 = .ok (.iload_n 1, 1) := by decide +kernel
theorem dX6_undo_12 : decode cX6_undo 12 = .ok (.aaload, 1) := by decide +kernel
theorem dX6_undo_13 : decode cX6_undo 13 = .ok (.iconst 0, 1) := by decide +kernel
theorem dX6_undo_14 : decode cX6_undo 14 = .ok (.aload_n 0, 1) := by decide +kernel
theorem dX6_undo_15 : decode cX6_undo 15 = .ok (.getfield 27, 3) := by decide +kernel
theorem dX6_undo_18 : decode cX6_undo 18 = .ok (.getfield 134, 3) := by decide +kernel
theorem dX6_undo_21 : decode cX6_undo 21 = .ok (.iconst 0, 1) := by decide +kernel
theorem dX6_undo_22 : decode cX6_undo 22 = .ok (.bipush 8, 2) := by decide +kernel
theorem dX6_undo_24 : decode cX6_undo 24 = .ok (.invokestatic 154, 3) := by decide +kernel
theorem dX6_undo_27 : decode cX6_undo 27 = .ok (.aload_n 0, 1) := by decide +kernel
theorem dX6_undo_28 : decode cX6_undo 28 = .ok (.getfield 27, 3) := by decide +kernel
theorem dX6_undo_31 : decode cX6_undo 31 = .ok (.aload_n 0, 1) := by decide +kernel
theorem dX6_undo_32 : decode cX6_undo 32 = .ok (.getfield 23, 3) := by decide +kernel
theorem dX6_undo_35 : decode cX6_undo 35 = .ok (.iload_n 1, 1) := by decide +kernel
theorem dX6_undo_36 : decode cX6_undo 36 = .ok (.laload, 1) := by decide +kernel
theorem dX6_undo_37 : decode cX6_undo 37 = .ok (.putfield 141, 3) := by decide +kernel
theorem dX6_undo_40 : decode cX6_undo 40 = .ok (.return_, 1) := by decide +kernel
theorem dX8_add_0 : decode cX8_add 0 = .ok (.aload_n 0, 1) := by decide +kernel
theorem dX8_add_1 : decode cX8_add 1 = .ok (.getfield 15, 3) := by decide +kernel
theorem dX8_add_4 : decode cX8_add 4 = .ok (.bipush 80, 2) := by decide +kernel
theorem dX8_add_6 : decode cX8_add 6 = .ok (.if_icmp .ge 23, 3) := by decide +kernel
theorem dX8_add_9 : decode cX8_add 9 = .ok (.aload_n 0, 1) := by decide +kernel
theorem dX8_add_10 : decode cX8_add 10 = .ok (.getfield 9, 3) := by decide +kernel
theorem dX8_add_13 : decode cX8_add 13 = .ok (.aload_n 0, 1) := by decide +kernel
theorem dX8_add_14 : decode cX8_add 14 = .ok (.getfield 15, 3) := by decide +kernel
theorem dX8_add_17 : decode cX8_add 17 = .ok (.iload_n 1, 1) := by decide +kernel
theorem dX8_add_18 : decode cX8_add 18 = .ok (.iastore, 1) := by decide +kernel
theorem dX8_add_19 : decode cX8_add 19 = .ok (.aload_n 0, 1) := by decide +kernel
theorem dX8_add_20 : decode cX8_add 20 = .ok (.dup, 1) := by decide +kernel
theorem dX8_add_21 : decode cX8_add 21 = .ok (.getfield 15, 3) := by decide +kernel
theorem dX8_add_24 : decode cX8_add 24 = .ok (.iconst 1, 1) := by decide +kernel
theorem dX8_add_25 : decode cX8_add 25 = .ok (.iadd, 1) := by decide +kernel
theorem dX8_add_26 : decode cX8_add 26 = .ok (.putfield 15, 3) := by decide +kernel
theorem dX8_add_29 : decode cX8_add 29 = .ok (.return_, 1) := by decide +kernel
theorem dX9_isWithin_0 : decode cX9_isWithin 0 = .ok (.iload_n 0, 1) := by decide +kernel
theorem dX9_isWithin_1 : decode cX9_isWithin 1 = .ok (.ifCond .lt 12, 3) := by decide +kernel
theorem dX9_isWithin_4 : decode cX9_isWithin 4 = .ok (.iload_n 0, 1) := by decide +kernel
theorem dX9_isWithin_5 : decode cX9_isWithin 5 = .ok (.iload_n 1, 1) := by decide +kernel
theorem dX9_isWithin_6 : decode cX9_isWithin 6 = .ok (.if_icmp .gt 7, 3) := by decide +kernel
theorem dX9_isWithin_9 : decode cX9_isWithin 9 = .ok (.iconst 1, 1) := by decide +kernel
theorem dX9_isWithin_10 : decode cX9_isWithin 10 = .ok (.goto 4, 3) := by decide +kernel
theorem dX9_isWithin_13 : decode cX9_isWithin 13 = .ok (.iconst 0, 1) := by decide +kernel
theorem dX9_isWithin_14 : decode cX9_isWithin 14 = .ok (.ireturn, 1) := by decide +kernel
set_option maxRecDepth 20000 in
theorem ggX9_isByte_X9_isWithin : GoodIn wsX9_isByte wsX9_isWithin := goodIn_r _ [4] (by decide +kernel) (by decide +kernel)
set_option maxRecDepth 20000 in
theorem gX9_isByte_X9_isWithin : GoodIn wsX9_isByte (va_wsS RX9 91 yX9_isWithin wsX9_isWithin) := goodIn_app (goodIn_of _ (by decide +kernel)) ggX9_isByte_X9_isWithin
theorem dX9_isByte_0 : decode cX9_isByte 0 = .ok (.iload_n 0, 1) := by decide +kernel
theorem dX9_isByte_1 : decode cX9_isByte 1 = .ok (.sipush 255, 3) := by decide +kernel
theorem dX9_isByte_4 : decode cX9_isByte 4 = .ok (.invokestatic 91, 3) := by decide +kernel
theorem dX9_isByte_7 : decode cX9_isByte 7 = .ok (.ireturn, 1) := by decide +kernel
theorem dX9_isSheet_0 : decode cX9_isSheet 0 = .ok (.iload_n 0, 1) := by decide +kernel
theorem dX9_isSheet_1 : decode cX9_isSheet 1 = .ok (.ifCond .lt 12, 3) := by decide +kernel
theorem dX9_isSheet_4 : decode cX9_isSheet 4 = .ok (.iload_n 0, 1) := by decide +kernel
theorem dX9_isSheet_5 : decode cX9_isSheet 5 = .ok (.iconst 4, 1) := by decide +kernel
theorem dX9_isSheet_6 : decode cX9_isSheet 6 = .ok (.if_icmp .ge 7, 3) := by decide +kernel
theorem dX9_isSheet_9 : decode cX9_isSheet 9 = .ok (.iconst 1, 1) := by decide +kernel
theorem dX9_isSheet_10 : decode cX9_isSheet 10 = .ok (.goto 4, 3) := by decide +kernel
theorem dX9_isSheet_13 : decode cX9_isSheet 13 = .ok (.iconst 0, 1) := by decide +kernel
theorem dX9_isSheet_14 : decode cX9_isSheet 14 = .ok (.ireturn, 1) := by decide +kernel
abbrev vwCl : List vw_C := [(RX0, TX0, 13), (RX1, TX1, 1), (RX3, TX3, 3), (RX4, TX4, 5), (RX5, TX5, 4), (RX6, TX6, 8), (RX7, TX7, 3), (RX8, TX8, 2), (RX9, TX9, 13), (RX10, TX10, 32)]
