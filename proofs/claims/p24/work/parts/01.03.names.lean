theorem dX9_owe_33 : decode cX9_owe 33 = .ok (.getfield 24, 3) := by decide +kernel
theorem dX9_owe_36 : decode cX9_owe 36 = .ok (.iload_n 1, 1) := by decide +kernel
theorem dX9_owe_37 : decode cX9_owe 37 = .ok (.iload_n 2, 1) := by decide +kernel
theorem dX9_owe_38 : decode cX9_owe 38 = .ok (.iload_n 3, 1) := by decide +kernel
theorem dX9_owe_39 : decode cX9_owe 39 = .ok (.invokevirtual 224, 3) := by decide +kernel
theorem dX9_owe_42 : decode cX9_owe 42 = .ok (.iload 4, 2) := by decide +kernel
theorem dX9_owe_44 : decode cX9_owe 44 = .ok (.ireturn, 1) := by decide +kernel
set_option maxRecDepth 20000 in
theorem ggX9_owed_X9_isPair : GoodIn wsX9_owed wsX9_isPair := goodIn_r _ [6, 7, 8, 9, 10, 11, 12, 13, 20, 21, 22, 23, 24, 25, 26, 27, 28, 29, 30, 31, 32, 33, 34, 35, 36, 37, 38, 39, 40, 41, 42, 43, 44, 45] (by decide +kernel) (by decide +kernel)
set_option maxRecDepth 20000 in
theorem gX9_owed_X9_isPair : GoodIn wsX9_owed (wsV RX9 217 RX9 yX9_isPair wsX9_isPair) := goodIn_app (goodIn_of _ (by decide +kernel)) ggX9_owed_X9_isPair
set_option maxRecDepth 20000 in
theorem ggX9_owed_X1_between : GoodIn wsX9_owed wsX1_between := goodIn_r _ [18, 19, 46] (by decide +kernel) (by decide +kernel)
set_option maxRecDepth 20000 in
theorem gX9_owed_X1_between : GoodIn wsX9_owed (wsV RX9 221 RX1 yX1_between wsX1_between) := goodIn_app (goodIn_of _ (by decide +kernel)) ggX9_owed_X1_between
theorem dX9_owed_0 : decode cX9_owed 0 = .ok (.aload_n 0, 1) := by decide +kernel
theorem dX9_owed_1 : decode cX9_owed 1 = .ok (.iload_n 1, 1) := by decide +kernel
theorem dX9_owed_2 : decode cX9_owed 2 = .ok (.iload_n 2, 1) := by decide +kernel
theorem dX9_owed_3 : decode cX9_owed 3 = .ok (.invokevirtual 217, 3) := by decide +kernel
theorem dX9_owed_6 : decode cX9_owed 6 = .ok (.ifCond .ne 6, 3) := by decide +kernel
theorem dX9_owed_9 : decode cX9_owed 9 = .ok (.bipush (-2), 2) := by decide +kernel
theorem dX9_owed_11 : decode cX9_owed 11 = .ok (.ireturn, 1) := by decide +kernel
theorem dX9_owed_12 : decode cX9_owed 12 = .ok (.aload_n 0, 1) := by decide +kernel
theorem dX9_owed_13 : decode cX9_owed 13 = .ok (.getfield 24, 3) := by decide +kernel
theorem dX9_owed_16 : decode cX9_owed 16 = .ok (.iload_n 1, 1) := by decide +kernel
theorem dX9_owed_17 : decode cX9_owed 17 = .ok (.iload_n 2, 1) := by decide +kernel
theorem dX9_owed_18 : decode cX9_owed 18 = .ok (.invokevirtual 221, 3) := by decide +kernel
theorem dX9_owed_21 : decode cX9_owed 21 = .ok (.ireturn, 1) := by decide +kernel
set_option maxRecDepth 20000 in
theorem ggX9_net_X0_hasAllGates : GoodIn wsX9_net wsX0_hasAllGates := goodIn_r _ [8, 9, 10, 74, 75, 76, 77, 78, 79, 80, 81, 82, 83, 84, 85, 86] (by decide +kernel) (by decide +kernel)
set_option maxRecDepth 20000 in
theorem gX9_net_X0_hasAllGates : GoodIn wsX9_net (wsV RX9 228 RX0 yX0_hasAllGates wsX0_hasAllGates) := goodIn_app (goodIn_of _ (by decide +kernel)) ggX9_net_X0_hasAllGates
set_option maxRecDepth 20000 in
theorem ggX9_net_X0_enterAll : GoodIn wsX9_net wsX0_enterAll := goodIn_r _ [14, 9, 15, 74, 75, 76, 77, 78, 79, 80, 81, 82, 83, 84, 85, 86] (by decide +kernel) (by decide +kernel)
set_option maxRecDepth 20000 in
theorem gX9_net_X0_enterAll : GoodIn wsX9_net (wsV RX9 232 RX0 yX0_enterAll wsX0_enterAll) := goodIn_app (goodIn_of _ (by decide +kernel)) ggX9_net_X0_enterAll
set_option maxRecDepth 20000 in
theorem ggX9_net_X5_cutAll : GoodIn wsX9_net wsX5_cutAll := goodIn_r _ [20, 21, 22, 23, 19, 24, 25, 26, 27, 28, 29, 30, 31, 32, 33, 34, 35, 36, 37, 38, 39, 40, 41, 42, 43, 44, 45, 46, 47, 48, 49, 50, 51, 52, 53, 54, 55, 87, 88, 89, 90, 91] (by decide +kernel) (by decide +kernel)
set_option maxRecDepth 20000 in
theorem gX9_net_X5_cutAll : GoodIn wsX9_net (wsV RX9 235 RX5 yX5_cutAll wsX5_cutAll) := goodIn_app (goodIn_of _ (by decide +kernel)) ggX9_net_X5_cutAll
set_option maxRecDepth 20000 in
theorem ggX9_net_X0_leaveAll : GoodIn wsX9_net wsX0_leaveAll := goodIn_r _ [59, 9, 60, 74, 75, 76, 77, 78, 79, 80, 81, 82, 83, 84, 85, 86] (by decide +kernel) (by decide +kernel)
set_option maxRecDepth 20000 in
theorem gX9_net_X0_leaveAll : GoodIn wsX9_net (wsV RX9 238 RX0 yX0_leaveAll wsX0_leaveAll) := goodIn_app (goodIn_of _ (by decide +kernel)) ggX9_net_X0_leaveAll
theorem dX9_net_0 : decode cX9_net 0 = .ok (.aload_n 0, 1) := by decide +kernel
theorem dX9_net_1 : decode cX9_net 1 = .ok (.getfield 12, 3) := by decide +kernel
theorem dX9_net_4 : decode cX9_net 4 = .ok (.invokevirtual 228, 3) := by decide +kernel
theorem dX9_net_7 : decode cX9_net 7 = .ok (.ifCond .ne 6, 3) := by decide +kernel
theorem dX9_net_10 : decode cX9_net 10 = .ok (.bipush (-3), 2) := by decide +kernel
theorem dX9_net_12 : decode cX9_net 12 = .ok (.ireturn, 1) := by decide +kernel
theorem dX9_net_13 : decode cX9_net 13 = .ok (.aload_n 0, 1) := by decide +kernel
theorem dX9_net_14 : decode cX9_net 14 = .ok (.getfield 12, 3) := by decide +kernel
theorem dX9_net_17 : decode cX9_net 17 = .ok (.invokevirtual 232, 3) := by decide +kernel
theorem dX9_net_20 : decode cX9_net 20 = .ok (.aload_n 0, 1) := by decide +kernel
theorem dX9_net_21 : decode cX9_net 21 = .ok (.getfield 36, 3) := by decide +kernel
theorem dX9_net_24 : decode cX9_net 24 = .ok (.aload_n 0, 1) := by decide +kernel
theorem dX9_net_25 : decode cX9_net 25 = .ok (.getfield 12, 3) := by decide +kernel
theorem dX9_net_28 : decode cX9_net 28 = .ok (.getfield 95, 3) := by decide +kernel
theorem dX9_net_31 : decode cX9_net 31 = .ok (.invokevirtual 235, 3) := by decide +kernel
theorem dX9_net_34 : decode cX9_net 34 = .ok (.istore_n 1, 1) := by decide +kernel
theorem dX9_net_35 : decode cX9_net 35 = .ok (.aload_n 0, 1) := by decide +kernel
theorem dX9_net_36 : decode cX9_net 36 = .ok (.getfield 12, 3) := by decide +kernel
theorem dX9_net_39 : decode cX9_net 39 = .ok (.invokevirtual 238, 3) := by decide +kernel
theorem dX9_net_42 : decode cX9_net 42 = .ok (.iload_n 1, 1) := by decide +kernel
theorem dX9_net_43 : decode cX9_net 43 = .ok (.ireturn, 1) := by decide +kernel
set_option maxRecDepth 20000 in
theorem ggX9_tells_X9_isSheet : GoodIn wsX9_tells wsX9_isSheet := goodIn_r _ [9] (by decide +kernel) (by decide +kernel)
set_option maxRecDepth 20000 in
theorem gX9_tells_X9_isSheet : GoodIn wsX9_tells (va_wsS RX9 241 yX9_isSheet wsX9_isSheet) := goodIn_app (goodIn_of _ (by decide +kernel)) ggX9_tells_X9_isSheet
set_option maxRecDepth 20000 in
theorem ggX9_tells_X9_isProgram : GoodIn wsX9_tells wsX9_isProgram := goodIn_r _ [13, 14, 195, 196, 197, 198, 199, 200, 201, 202, 203, 204, 205, 206, 207] (by decide +kernel) (by decide +kernel)
set_option maxRecDepth 20000 in
theorem gX9_tells_X9_isProgram : GoodIn wsX9_tells (wsV RX9 192 RX9 yX9_isProgram wsX9_isProgram) := goodIn_app (goodIn_of _ (by decide +kernel)) ggX9_tells_X9_isProgram
set_option maxRecDepth 20000 in
theorem ggX9_tells_X0_has : GoodIn wsX9_tells wsX0_has := goodIn_r _ [19, 20, 219, 220, 221, 222, 223, 224, 225, 226, 227, 228, 229, 230, 231] (by decide +kernel) (by decide +kernel)
set_option maxRecDepth 20000 in
theorem gX9_tells_X0_has : GoodIn wsX9_tells (wsV RX9 102 RX0 yX0_has wsX0_has) := goodIn_app (goodIn_of _ (by decide +kernel)) ggX9_tells_X0_has
set_option maxRecDepth 20000 in
theorem ggX9_tells_X7_isMissing : GoodIn wsX9_tells wsX7_isMissing := goodIn_r _ [25, 26, 208, 209, 210] (by decide +kernel) (by decide +kernel)
set_option maxRecDepth 20000 in
theorem gX9_tells_X7_isMissing : GoodIn wsX9_tells (wsV RX9 244 RX7 yX7_isMissing wsX7_isMissing) := goodIn_app (goodIn_of _ (by decide +kernel)) ggX9_tells_X7_isMissing
set_option maxRecDepth 20000 in
theorem ggX9_tells_X9_kindsToldBy : GoodIn wsX9_tells wsX9_kindsToldBy := goodIn_r _ [30, 4, 31, 1, 32, 33, 5, 34, 35, 36, 18, 37, 38, 39, 40, 41, 42, 43, 44, 45, 46, 47, 48, 20, 49, 50, 51, 52, 53, 54, 55, 56, 57, 58, 59, 60, 61, 62, 63, 64, 65, 66, 67, 68, 69, 70, 71, 72, 73, 74, 75, 76, 77, 78, 79, 80, 81, 82, 83, 84, 85, 86, 87, 88, 89, 90, 91, 92, 93, 94, 95, 96, 97, 98, 99, 100, 101, 102, 103, 104, 105, 106, 107, 108, 109, 110, 111, 112, 113, 114, 115, 116, 117, 118, 119, 120, 121, 122, 123, 124, 16, 17, 19, 125, 126, 127, 128, 129, 130, 131, 132, 133, 134, 135, 136, 137, 138, 139, 140, 141, 142, 143, 144, 145, 146, 147, 148, 149, 150, 151, 152, 153, 154, 155, 156, 157, 158, 159, 160, 161, 162, 163, 164, 165, 166, 167, 168, 169, 170, 171, 172, 173, 174, 175, 176, 177, 178, 179, 180, 181, 182, 183, 184, 185, 186, 24, 187, 188, 189, 190, 195, 196, 197, 198, 199, 200, 201, 202, 203, 204, 205, 206, 207, 211, 212, 213, 214, 215, 216, 217, 218, 219, 220, 221, 222, 223, 224, 225, 226, 227, 228, 229, 230, 231, 232, 233, 234, 208, 209, 210] (by decide +kernel) (by decide +kernel)
set_option maxRecDepth 20000 in
theorem gX9_tells_X9_kindsToldBy : GoodIn wsX9_tells (wsV RX9 248 RX9 yX9_kindsToldBy wsX9_kindsToldBy) := goodIn_app (goodIn_of _ (by decide +kernel)) ggX9_tells_X9_kindsToldBy
set_option maxRecDepth 20000 in
theorem ggX9_tells_X9_outcomeInThought : GoodIn wsX9_tells wsX9_outcomeInThought := goodIn_r _ [194, 4, 31, 1, 33, 34, 35, 36, 18, 37, 38, 39, 40, 41, 42, 43, 44, 45, 46, 47, 48, 20, 49, 50, 51, 52, 53, 54, 55, 56, 57, 58, 59, 60, 61, 62, 63, 64, 65, 66, 67, 68, 69, 70, 71, 72, 73, 74, 75, 76, 77, 78, 79, 80, 81, 82, 83, 84, 85, 86, 87, 88, 89, 90, 91, 92, 93, 94, 95, 96, 97, 98, 99, 100, 101, 102, 103, 104, 105, 106, 107, 108, 109, 110, 111, 112, 113, 114, 115, 116, 117, 118, 119, 120, 121, 122, 123, 124, 16, 17, 19, 125, 126, 127, 128, 129, 130, 131, 132, 133, 134, 135, 136, 137, 138, 139, 140, 141, 142, 143, 144, 145, 146, 147, 148, 149, 150, 151, 152, 153, 154, 155, 156, 157, 158, 159, 160, 161, 162, 163, 164, 165, 166, 167, 168, 169, 170, 171, 172, 173, 174, 175, 176, 195, 196, 197, 198, 199, 200, 201, 202, 203, 204, 205, 206, 207, 211, 212, 213, 214, 215, 216, 217, 218, 219, 220, 221, 222, 223, 224, 225, 226, 227, 228, 229, 230, 231, 232, 233, 234] (by decide +kernel) (by decide +kernel)
set_option maxRecDepth 20000 in
theorem gX9_tells_X9_outcomeInThought : GoodIn wsX9_tells (wsV RX9 204 RX9 yX9_outcomeInThought wsX9_outcomeInThought) := goodIn_app (goodIn_of _ (by decide +kernel)) ggX9_tells_X9_outcomeInThought
set_option maxRecDepth 20000 in
theorem ggX9_tells_X6_keptMarks : GoodIn wsX9_tells wsX6_keptMarks := goodIn_r _ [180, 60, 181, 182, 79, 183, 211, 212, 213, 214, 215, 216, 217, 218] (by decide +kernel) (by decide +kernel)
set_option maxRecDepth 20000 in
theorem gX9_tells_X6_keptMarks : GoodIn wsX9_tells (wsV RX9 156 RX6 yX6_keptMarks wsX6_keptMarks) := goodIn_app (goodIn_of _ (by decide +kernel)) ggX9_tells_X6_keptMarks
set_option maxRecDepth 20000 in
theorem ggX9_tells_X7_firstUnlike : GoodIn wsX9_tells wsX7_firstUnlike := goodIn_r _ [187, 188, 189, 182, 79, 183, 190, 208, 209, 210] (by decide +kernel) (by decide +kernel)
set_option maxRecDepth 20000 in
theorem gX9_tells_X7_firstUnlike : GoodIn wsX9_tells (wsV RX9 252 RX7 yX7_firstUnlike wsX7_firstUnlike) := goodIn_app (goodIn_of _ (by decide +kernel)) ggX9_tells_X7_firstUnlike
theorem dX9_tells_0 : decode cX9_tells 0 = .ok (.iload_n 1, 1) := by decide +kernel
theorem dX9_tells_1 : decode cX9_tells 1 = .ok (.invokestatic 241, 3) := by decide +kernel
theorem dX9_tells_4 : decode cX9_tells 4 = .ok (.ifCond .eq 22, 3) := by decide +kernel
theorem dX9_tells_7 : decode cX9_tells 7 = .ok (.aload_n 0, 1) := by decide +kernel
theorem dX9_tells_8 : decode cX9_tells 8 = .ok (.iload_n 2, 1) := by decide +kernel
theorem dX9_tells_9 : decode cX9_tells 9 = .ok (.invokevirtual 192, 3) := by decide +kernel
theorem dX9_tells_12 : decode cX9_tells 12 = .ok (.ifCond .eq 14, 3) := by decide +kernel
theorem dX9_tells_15 : decode cX9_tells 15 = .ok (.iload 4, 2) := by decide +kernel
theorem dX9_tells_17 : decode cX9_tells 17 = .ok (.ifCond .lt 9, 3) := by decide +kernel
theorem dX9_tells_20 : decode cX9_tells 20 = .ok (.iload 4, 2) := by decide +kernel
theorem dX9_tells_22 : decode cX9_tells 22 = .ok (.iconst 1, 1) := by decide +kernel
theorem dX9_tells_23 : decode cX9_tells 23 = .ok (.if_icmp .le 6, 3) := by decide +kernel
theorem dX9_tells_26 : decode cX9_tells 26 = .ok (.bipush (-2), 2) := by decide +kernel
theorem dX9_tells_28 : decode cX9_tells 28 = .ok (.ireturn, 1) := by decide +kernel
theorem dX9_tells_29 : decode cX9_tells 29 = .ok (.iload 4, 2) := by decide +kernel
theorem dX9_tells_31 : decode cX9_tells 31 = .ok (.iconst 1, 1) := by decide +kernel
theorem dX9_tells_32 : decode cX9_tells 32 = .ok (.if_icmp .ne 17, 3) := by decide +kernel
theorem dX9_tells_35 : decode cX9_tells 35 = .ok (.aload_n 0, 1) := by decide +kernel
theorem dX9_tells_36 : decode cX9_tells 36 = .ok (.getfield 12, 3) := by decide +kernel
theorem dX9_tells_39 : decode cX9_tells 39 = .ok (.iload_n 3, 1) := by decide +kernel
theorem dX9_tells_40 : decode cX9_tells 40 = .ok (.invokevirtual 102, 3) := by decide +kernel
theorem dX9_tells_43 : decode cX9_tells 43 = .ok (.ifCond .ne 6, 3) := by decide +kernel
theorem dX9_tells_46 : decode cX9_tells 46 = .ok (.bipush (-2), 2) := by decide +kernel
theorem dX9_tells_48 : decode cX9_tells 48 = .ok (.ireturn, 1) := by decide +kernel
theorem dX9_tells_49 : decode cX9_tells 49 = .ok (.aload_n 0, 1) := by decide +kernel
theorem dX9_tells_50 : decode cX9_tells 50 = .ok (.getfield 79, 3) := by decide +kernel
theorem dX9_tells_53 : decode cX9_tells 53 = .ok (.iload_n 1, 1) := by decide +kernel
theorem dX9_tells_54 : decode cX9_tells 54 = .ok (.aaload, 1) := by decide +kernel
theorem dX9_tells_55 : decode cX9_tells 55 = .ok (.astore 5, 2) := by decide +kernel
theorem dX9_tells_57 : decode cX9_tells 57 = .ok (.aload 5, 2) := by decide +kernel
theorem dX9_tells_59 : decode cX9_tells 59 = .ok (.invokevirtual 244, 3) := by decide +kernel
theorem dX9_tells_62 : decode cX9_tells 62 = .ok (.ifCond .eq 6, 3) := by decide +kernel
theorem dX9_tells_65 : decode cX9_tells 65 = .ok (.bipush (-11), 2) := by decide +kernel
theorem dX9_tells_67 : decode cX9_tells 67 = .ok (.ireturn, 1) := by decide +kernel
theorem dX9_tells_68 : decode cX9_tells 68 = .ok (.aload 5, 2) := by decide +kernel
theorem dX9_tells_70 : decode cX9_tells 70 = .ok (.getfield 247, 3) := by decide +kernel
theorem dX9_tells_73 : decode cX9_tells 73 = .ok (.bipush 60, 2) := by decide +kernel
theorem dX9_tells_75 : decode cX9_tells 75 = .ok (.if_icmp .le 6, 3) := by decide +kernel
theorem dX9_tells_78 : decode cX9_tells 78 = .ok (.bipush (-2), 2) := by decide +kernel
theorem dX9_tells_80 : decode cX9_tells 80 = .ok (.ireturn, 1) := by decide +kernel
theorem dX9_tells_81 : decode cX9_tells 81 = .ok (.iload 4, 2) := by decide +kernel
theorem dX9_tells_83 : decode cX9_tells 83 = .ok (.iconst 1, 1) := by decide +kernel
theorem dX9_tells_84 : decode cX9_tells 84 = .ok (.if_icmp .ne 12, 3) := by decide +kernel
theorem dX9_tells_87 : decode cX9_tells 87 = .ok (.aload_n 0, 1) := by decide +kernel
theorem dX9_tells_88 : decode cX9_tells 88 = .ok (.aload 5, 2) := by decide +kernel
theorem dX9_tells_90 : decode cX9_tells 90 = .ok (.iload_n 2, 1) := by decide +kernel
theorem dX9_tells_91 : decode cX9_tells 91 = .ok (.iload_n 3, 1) := by decide +kernel
theorem dX9_tells_92 : decode cX9_tells 92 = .ok (.invokevirtual 248, 3) := by decide +kernel
theorem dX9_tells_95 : decode cX9_tells 95 = .ok (.ireturn, 1) := by decide +kernel
theorem dX9_tells_96 : decode cX9_tells 96 = .ok (.aload_n 0, 1) := by decide +kernel
theorem dX9_tells_97 : decode cX9_tells 97 = .ok (.iload_n 2, 1) := by decide +kernel
theorem dX9_tells_98 : decode cX9_tells 98 = .ok (.invokevirtual 204, 3) := by decide +kernel
theorem dX9_tells_101 : decode cX9_tells 101 = .ok (.pop, 1) := by decide +kernel
theorem dX9_tells_102 : decode cX9_tells 102 = .ok (.aload 5, 2) := by decide +kernel
theorem dX9_tells_104 : decode cX9_tells 104 = .ok (.aload_n 0, 1) := by decide +kernel
theorem dX9_tells_105 : decode cX9_tells 105 = .ok (.getfield 74, 3) := by decide +kernel
theorem dX9_tells_108 : decode cX9_tells 108 = .ok (.getfield 198, 3) := by decide +kernel
theorem dX9_tells_111 : decode cX9_tells 111 = .ok (.aload_n 0, 1) := by decide +kernel
theorem dX9_tells_112 : decode cX9_tells 112 = .ok (.getfield 74, 3) := by decide +kernel
theorem dX9_tells_115 : decode cX9_tells 115 = .ok (.invokevirtual 156, 3) := by decide +kernel
theorem dX9_tells_118 : decode cX9_tells 118 = .ok (.invokevirtual 252, 3) := by decide +kernel
theorem dX9_tells_121 : decode cX9_tells 121 = .ok (.ireturn, 1) := by decide +kernel
set_option maxRecDepth 20000 in
theorem ggX9_film_X9_isSheet : GoodIn wsX9_film wsX9_isSheet := goodIn_r _ [7] (by decide +kernel) (by decide +kernel)
set_option maxRecDepth 20000 in
theorem gX9_film_X9_isSheet : GoodIn wsX9_film (va_wsS RX9 241 yX9_isSheet wsX9_isSheet) := goodIn_app (goodIn_of _ (by decide +kernel)) ggX9_film_X9_isSheet
set_option maxRecDepth 20000 in
theorem ggX9_film_X9_isProgram : GoodIn wsX9_film wsX9_isProgram := goodIn_r _ [11, 12, 188, 189, 190, 191, 192, 193, 194, 195, 196, 197, 198, 199, 200] (by decide +kernel) (by decide +kernel)
set_option maxRecDepth 20000 in
theorem gX9_film_X9_isProgram : GoodIn wsX9_film (wsV RX9 192 RX9 yX9_isProgram wsX9_isProgram) := goodIn_app (goodIn_of _ (by decide +kernel)) ggX9_film_X9_isProgram
set_option maxRecDepth 20000 in
theorem ggX9_film_X9_outcomeInThought : GoodIn wsX9_film wsX9_outcomeInThought := goodIn_r _ [16, 2, 17, 18, 19, 20, 21, 22, 23, 24, 25, 26, 27, 28, 29, 30, 31, 32, 33, 34, 35, 36, 37, 38, 39, 40, 41, 42, 43, 44, 45, 46, 47, 48, 49, 50, 51, 52, 53, 54, 55, 56, 57, 58, 59, 60, 61, 62, 63, 64, 65, 66, 67, 68, 69, 70, 71, 72, 73, 74, 75, 76, 77, 78, 79, 80, 81, 82, 83, 84, 85, 86, 87, 88, 89, 90, 91, 92, 93, 94, 95, 96, 97, 98, 99, 100, 101, 102, 103, 104, 105, 106, 107, 108, 109, 110, 111, 112, 113, 114, 115, 116, 117, 118, 119, 120, 121, 122, 123, 124, 125, 126, 127, 128, 129, 130, 131, 132, 133, 134, 135, 136, 137, 138, 139, 140, 141, 142, 143, 144, 145, 146, 147, 148, 149, 150, 151, 152, 153, 154, 155, 156, 157, 158, 159, 160, 161, 162, 163, 164, 165, 166, 167, 188, 189, 190, 191, 192, 193, 194, 195, 196, 197, 198, 199, 200, 201, 202, 203, 204, 205, 206, 207, 208, 209, 210, 211, 212, 213, 214, 215, 216, 217, 218, 219, 220, 221, 222, 223, 224] (by decide +kernel) (by decide +kernel)
set_option maxRecDepth 20000 in
theorem gX9_film_X9_outcomeInThought : GoodIn wsX9_film (wsV RX9 204 RX9 yX9_outcomeInThought wsX9_outcomeInThought) := goodIn_app (goodIn_of _ (by decide +kernel)) ggX9_film_X9_outcomeInThought
set_option maxRecDepth 20000 in
theorem ggX9_film_X6_keptMarks : GoodIn wsX9_film wsX6_keptMarks := goodIn_r _ [171, 48, 172, 173, 67, 174, 201, 202, 203, 204, 205, 206, 207, 208] (by decide +kernel) (by decide +kernel)
set_option maxRecDepth 20000 in
theorem gX9_film_X6_keptMarks : GoodIn wsX9_film (wsV RX9 156 RX6 yX6_keptMarks wsX6_keptMarks) := goodIn_app (goodIn_of _ (by decide +kernel)) ggX9_film_X6_keptMarks
set_option maxRecDepth 20000 in
theorem ggX9_film_X7_takeOver : GoodIn wsX9_film wsX7_takeOver := goodIn_r _ [179, 180, 181, 27, 28, 29, 182, 183, 184, 178, 185, 186, 187, 225, 226, 227] (by decide +kernel) (by decide +kernel)
set_option maxRecDepth 20000 in
theorem gX9_film_X7_takeOver : GoodIn wsX9_film (wsV RX9 256 RX7 yX7_takeOver wsX7_takeOver) := goodIn_app (goodIn_of _ (by decide +kernel)) ggX9_film_X7_takeOver
theorem dX9_film_0 : decode cX9_film 0 = .ok (.iload_n 1, 1) := by decide +kernel
theorem dX9_film_1 : decode cX9_film 1 = .ok (.invokestatic 241, 3) := by decide +kernel
theorem dX9_film_4 : decode cX9_film 4 = .ok (.ifCond .eq 11, 3) := by decide +kernel
theorem dX9_film_7 : decode cX9_film 7 = .ok (.aload_n 0, 1) := by decide +kernel
theorem dX9_film_8 : decode cX9_film 8 = .ok (.iload_n 2, 1) := by decide +kernel
theorem dX9_film_9 : decode cX9_film 9 = .ok (.invokevirtual 192, 3) := by decide +kernel
theorem dX9_film_12 : decode cX9_film 12 = .ok (.ifCond .ne 6, 3) := by decide +kernel
theorem dX9_film_15 : decode cX9_film 15 = .ok (.bipush (-2), 2) := by decide +kernel
theorem dX9_film_17 : decode cX9_film 17 = .ok (.ireturn, 1) := by decide +kernel
theorem dX9_film_18 : decode cX9_film 18 = .ok (.aload_n 0, 1) := by decide +kernel
theorem dX9_film_19 : decode cX9_film 19 = .ok (.iload_n 2, 1) := by decide +kernel
theorem dX9_film_20 : decode cX9_film 20 = .ok (.invokevirtual 204, 3) := by decide +kernel
theorem dX9_film_23 : decode cX9_film 23 = .ok (.pop, 1) := by decide +kernel
theorem dX9_film_24 : decode cX9_film 24 = .ok (.aload_n 0, 1) := by decide +kernel
theorem dX9_film_25 : decode cX9_film 25 = .ok (.getfield 79, 3) := by decide +kernel
theorem dX9_film_28 : decode cX9_film 28 = .ok (.iload_n 1, 1) := by decide +kernel
theorem dX9_film_29 : decode cX9_film 29 = .ok (.aaload, 1) := by decide +kernel
theorem dX9_film_30 : decode cX9_film 30 = .ok (.aload_n 0, 1) := by decide +kernel
theorem dX9_film_31 : decode cX9_film 31 = .ok (.getfield 74, 3) := by decide +kernel
theorem dX9_film_34 : decode cX9_film 34 = .ok (.getfield 198, 3) := by decide +kernel
theorem dX9_film_37 : decode cX9_film 37 = .ok (.aload_n 0, 1) := by decide +kernel
theorem dX9_film_38 : decode cX9_film 38 = .ok (.getfield 74, 3) := by decide +kernel
theorem dX9_film_41 : decode cX9_film 41 = .ok (.invokevirtual 156, 3) := by decide +kernel
theorem dX9_film_44 : decode cX9_film 44 = .ok (.invokevirtual 256, 3) := by decide +kernel
theorem dX9_film_47 : decode cX9_film 47 = .ok (.aload_n 0, 1) := by decide +kernel
theorem dX9_film_48 : decode cX9_film 48 = .ok (.getfield 74, 3) := by decide +kernel
theorem dX9_film_51 : decode cX9_film 51 = .ok (.invokevirtual 156, 3) := by decide +kernel
theorem dX9_film_54 : decode cX9_film 54 = .ok (.ireturn, 1) := by decide +kernel
set_option maxRecDepth 20000 in
theorem ggX9_image_X0_becomeAs : GoodIn wsX9_image wsX0_becomeAs := goodIn_r _ [12, 13, 14, 15, 16, 17, 18, 19, 20, 21, 22, 23, 24, 25, 26, 27, 28, 29, 50, 51, 52, 53, 54, 55, 56, 57, 58, 59, 60, 61, 62] (by decide +kernel) (by decide +kernel)
set_option maxRecDepth 20000 in
theorem gX9_image_X0_becomeAs : GoodIn wsX9_image (wsV RX9 214 RX0 yX0_becomeAs wsX0_becomeAs) := goodIn_app (goodIn_of _ (by decide +kernel)) ggX9_image_X0_becomeAs
set_option maxRecDepth 20000 in
theorem ggX9_image_X1_becomeAs : GoodIn wsX9_image wsX1_becomeAs := goodIn_r _ [34, 35, 36, 15, 16, 17, 63] (by decide +kernel) (by decide +kernel)
set_option maxRecDepth 20000 in
theorem gX9_image_X1_becomeAs : GoodIn wsX9_image (wsV RX9 259 RX1 yX1_becomeAs wsX1_becomeAs) := goodIn_app (goodIn_of _ (by decide +kernel)) ggX9_image_X1_becomeAs
theorem dX9_image_0 : decode cX9_image 0 = .ok (.aload_n 0, 1) := by decide +kernel
theorem dX9_image_1 : decode cX9_image 1 = .ok (.getfield 18, 3) := by decide +kernel
theorem dX9_image_4 : decode cX9_image 4 = .ok (.aload_n 0, 1) := by decide +kernel
theorem dX9_image_5 : decode cX9_image 5 = .ok (.getfield 12, 3) := by decide +kernel
theorem dX9_image_8 : decode cX9_image 8 = .ok (.invokevirtual 214, 3) := by decide +kernel
theorem dX9_image_11 : decode cX9_image 11 = .ok (.aload_n 0, 1) := by decide +kernel
theorem dX9_image_12 : decode cX9_image 12 = .ok (.getfield 28, 3) := by decide +kernel
theorem dX9_image_15 : decode cX9_image 15 = .ok (.aload_n 0, 1) := by decide +kernel
theorem dX9_image_16 : decode cX9_image 16 = .ok (.getfield 24, 3) := by decide +kernel
theorem dX9_image_19 : decode cX9_image 19 = .ok (.invokevirtual 259, 3) := by decide +kernel
theorem dX9_image_22 : decode cX9_image 22 = .ok (.aload_n 0, 1) := by decide +kernel
theorem dX9_image_23 : decode cX9_image 23 = .ok (.aload_n 0, 1) := by decide +kernel
theorem dX9_image_24 : decode cX9_image 24 = .ok (.getfield 141, 3) := by decide +kernel
theorem dX9_image_27 : decode cX9_image 27 = .ok (.putfield 47, 3) := by decide +kernel
theorem dX9_image_30 : decode cX9_image 30 = .ok (.aload_n 0, 1) := by decide +kernel
theorem dX9_image_31 : decode cX9_image 31 = .ok (.getfield 12, 3) := by decide +kernel
theorem dX9_image_34 : decode cX9_image 34 = .ok (.getfield 95, 3) := by decide +kernel
theorem dX9_image_37 : decode cX9_image 37 = .ok (.ireturn, 1) := by decide +kernel
set_option maxRecDepth 20000 in
theorem ggX9_back_X0_becomeAs : GoodIn wsX9_back wsX0_becomeAs := goodIn_r _ [12, 13, 14, 15, 16, 17, 18, 19, 20, 21, 22, 23, 24, 25, 26, 27, 28, 29, 50, 51, 52, 53, 54, 55, 56, 57, 58, 59, 60, 61, 62] (by decide +kernel) (by decide +kernel)
set_option maxRecDepth 20000 in
theorem gX9_back_X0_becomeAs : GoodIn wsX9_back (wsV RX9 214 RX0 yX0_becomeAs wsX0_becomeAs) := goodIn_app (goodIn_of _ (by decide +kernel)) ggX9_back_X0_becomeAs
set_option maxRecDepth 20000 in
theorem ggX9_back_X1_becomeAs : GoodIn wsX9_back wsX1_becomeAs := goodIn_r _ [34, 35, 36, 15, 16, 17, 63] (by decide +kernel) (by decide +kernel)
set_option maxRecDepth 20000 in
theorem gX9_back_X1_becomeAs : GoodIn wsX9_back (wsV RX9 259 RX1 yX1_becomeAs wsX1_becomeAs) := goodIn_app (goodIn_of _ (by decide +kernel)) ggX9_back_X1_becomeAs
theorem dX9_back_0 : decode cX9_back 0 = .ok (.aload_n 0, 1) := by decide +kernel
theorem dX9_back_1 : decode cX9_back 1 = .ok (.getfield 47, 3) := by decide +kernel
theorem dX9_back_4 : decode cX9_back 4 = .ok (.iconst (-1), 1) := by decide +kernel
theorem dX9_back_5 : decode cX9_back 5 = .ok (.if_icmp .ne 6, 3) := by decide +kernel
theorem dX9_back_8 : decode cX9_back 8 = .ok (.bipush (-3), 2) := by decide +kernel
theorem dX9_back_10 : decode cX9_back 10 = .ok (.ireturn, 1) := by decide +kernel
theorem dX9_back_11 : decode cX9_back 11 = .ok (.aload_n 0, 1) := by decide +kernel
theorem dX9_back_12 : decode cX9_back 12 = .ok (.getfield 12, 3) := by decide +kernel
theorem dX9_back_15 : decode cX9_back 15 = .ok (.aload_n 0, 1) := by decide +kernel
theorem dX9_back_16 : decode cX9_back 16 = .ok (.getfield 18, 3) := by decide +kernel
theorem dX9_back_19 : decode cX9_back 19 = .ok (.invokevirtual 214, 3) := by decide +kernel
theorem dX9_back_22 : decode cX9_back 22 = .ok (.aload_n 0, 1) := by decide +kernel
theorem dX9_back_23 : decode cX9_back 23 = .ok (.getfield 24, 3) := by decide +kernel
theorem dX9_back_26 : decode cX9_back 26 = .ok (.aload_n 0, 1) := by decide +kernel
theorem dX9_back_27 : decode cX9_back 27 = .ok (.getfield 28, 3) := by decide +kernel
theorem dX9_back_30 : decode cX9_back 30 = .ok (.invokevirtual 259, 3) := by decide +kernel
theorem dX9_back_33 : decode cX9_back 33 = .ok (.aload_n 0, 1) := by decide +kernel
theorem dX9_back_34 : decode cX9_back 34 = .ok (.aload_n 0, 1) := by decide +kernel
theorem dX9_back_35 : decode cX9_back 35 = .ok (.getfield 47, 3) := by decide +kernel
theorem dX9_back_38 : decode cX9_back 38 = .ok (.putfield 141, 3) := by decide +kernel
theorem dX9_back_41 : decode cX9_back 41 = .ok (.aload_n 0, 1) := by decide +kernel
theorem dX9_back_42 : decode cX9_back 42 = .ok (.getfield 12, 3) := by decide +kernel
theorem dX9_back_45 : decode cX9_back 45 = .ok (.getfield 95, 3) := by decide +kernel
theorem dX9_back_48 : decode cX9_back 48 = .ok (.ireturn, 1) := by decide +kernel
set_option maxRecDepth 20000 in
theorem ggX9_sheet_X9_isSheet : GoodIn wsX9_sheet wsX9_isSheet := goodIn_r _ [5] (by decide +kernel) (by decide +kernel)
set_option maxRecDepth 20000 in
theorem gX9_sheet_X9_isSheet : GoodIn wsX9_sheet (va_wsS RX9 241 yX9_isSheet wsX9_isSheet) := goodIn_app (goodIn_of _ (by decide +kernel)) ggX9_sheet_X9_isSheet
set_option maxRecDepth 20000 in
theorem ggX9_sheet_X7_become : GoodIn wsX9_sheet wsX7_become := goodIn_r _ [10, 11, 12, 13, 27, 28, 29] (by decide +kernel) (by decide +kernel)
set_option maxRecDepth 20000 in
theorem gX9_sheet_X7_become : GoodIn wsX9_sheet (wsV RX9 261 RX7 yX7_become wsX7_become) := goodIn_app (goodIn_of _ (by decide +kernel)) ggX9_sheet_X7_become
theorem dX9_sheet_0 : decode cX9_sheet 0 = .ok (.iload_n 1, 1) := by decide +kernel
theorem dX9_sheet_1 : decode cX9_sheet 1 = .ok (.invokestatic 241, 3) := by decide +kernel
theorem dX9_sheet_4 : decode cX9_sheet 4 = .ok (.ifCond .eq 13, 3) := by decide +kernel
theorem dX9_sheet_7 : decode cX9_sheet 7 = .ok (.iload_n 2, 1) := by decide +kernel
theorem dX9_sheet_8 : decode cX9_sheet 8 = .ok (.iconst (-1), 1) := by decide +kernel
theorem dX9_sheet_9 : decode cX9_sheet 9 = .ok (.if_icmp .lt 8, 3) := by decide +kernel
theorem dX9_sheet_12 : decode cX9_sheet 12 = .ok (.iload_n 2, 1) := by decide +kernel
theorem dX9_sheet_13 : decode cX9_sheet 13 = .ok (.iconst 1, 1) := by decide +kernel
theorem dX9_sheet_14 : decode cX9_sheet 14 = .ok (.if_icmp .le 6, 3) := by decide +kernel
theorem dX9_sheet_17 : decode cX9_sheet 17 = .ok (.bipush (-2), 2) := by decide +kernel
theorem dX9_sheet_19 : decode cX9_sheet 19 = .ok (.ireturn, 1) := by decide +kernel
theorem dX9_sheet_20 : decode cX9_sheet 20 = .ok (.iload_n 2, 1) := by decide +kernel
theorem dX9_sheet_21 : decode cX9_sheet 21 = .ok (.iconst (-1), 1) := by decide +kernel
theorem dX9_sheet_22 : decode cX9_sheet 22 = .ok (.if_icmp .ne 16, 3) := by decide +kernel
theorem dX9_sheet_25 : decode cX9_sheet 25 = .ok (.aload_n 0, 1) := by decide +kernel
theorem dX9_sheet_26 : decode cX9_sheet 26 = .ok (.getfield 79, 3) := by decide +kernel
theorem dX9_sheet_29 : decode cX9_sheet 29 = .ok (.iload_n 1, 1) := by decide +kernel
theorem dX9_sheet_30 : decode cX9_sheet 30 = .ok (.aaload, 1) := by decide +kernel
theorem dX9_sheet_31 : decode cX9_sheet 31 = .ok (.iconst (-1), 1) := by decide +kernel
theorem dX9_sheet_32 : decode cX9_sheet 32 = .ok (.iconst 0, 1) := by decide +kernel
theorem dX9_sheet_33 : decode cX9_sheet 33 = .ok (.invokevirtual 261, 3) := by decide +kernel
theorem dX9_sheet_36 : decode cX9_sheet 36 = .ok (.iconst 1, 1) := by decide +kernel
theorem dX9_sheet_37 : decode cX9_sheet 37 = .ok (.ireturn, 1) := by decide +kernel
theorem dX9_sheet_38 : decode cX9_sheet 38 = .ok (.iload_n 3, 1) := by decide +kernel
theorem dX9_sheet_39 : decode cX9_sheet 39 = .ok (.bipush 60, 2) := by decide +kernel
theorem dX9_sheet_41 : decode cX9_sheet 41 = .ok (.if_icmp .le 6, 3) := by decide +kernel
theorem dX9_sheet_44 : decode cX9_sheet 44 = .ok (.bipush (-2), 2) := by decide +kernel
theorem dX9_sheet_46 : decode cX9_sheet 46 = .ok (.ireturn, 1) := by decide +kernel
theorem dX9_sheet_47 : decode cX9_sheet 47 = .ok (.iload_n 3, 1) := by decide +kernel
theorem dX9_sheet_48 : decode cX9_sheet 48 = .ok (.ifCond .ge 6, 3) := by decide +kernel
theorem dX9_sheet_51 : decode cX9_sheet 51 = .ok (.bipush (-14), 2) := by decide +kernel
theorem dX9_sheet_53 : decode cX9_sheet 53 = .ok (.ireturn, 1) := by decide +kernel
theorem dX9_sheet_54 : decode cX9_sheet 54 = .ok (.aload_n 0, 1) := by decide +kernel
theorem dX9_sheet_55 : decode cX9_sheet 55 = .ok (.getfield 79, 3) := by decide +kernel
theorem dX9_sheet_58 : decode cX9_sheet 58 = .ok (.iload_n 1, 1) := by decide +kernel
theorem dX9_sheet_59 : decode cX9_sheet 59 = .ok (.aaload, 1) := by decide +kernel
theorem dX9_sheet_60 : decode cX9_sheet 60 = .ok (.iload_n 2, 1) := by decide +kernel
theorem dX9_sheet_61 : decode cX9_sheet 61 = .ok (.iload_n 3, 1) := by decide +kernel
theorem dX9_sheet_62 : decode cX9_sheet 62 = .ok (.invokevirtual 261, 3) := by decide +kernel
theorem dX9_sheet_65 : decode cX9_sheet 65 = .ok (.iconst 1, 1) := by decide +kernel
theorem dX9_sheet_66 : decode cX9_sheet 66 = .ok (.ireturn, 1) := by decide +kernel
set_option maxRecDepth 20000 in
theorem ggX9_put_X9_isSheet : GoodIn wsX9_put wsX9_isSheet := goodIn_r _ [5] (by decide +kernel) (by decide +kernel)
set_option maxRecDepth 20000 in
theorem gX9_put_X9_isSheet : GoodIn wsX9_put (va_wsS RX9 241 yX9_isSheet wsX9_isSheet) := goodIn_app (goodIn_of _ (by decide +kernel)) ggX9_put_X9_isSheet
set_option maxRecDepth 20000 in
theorem ggX9_put_X7_isMissing : GoodIn wsX9_put wsX7_isMissing := goodIn_r _ [10, 11, 35, 36, 37] (by decide +kernel) (by decide +kernel)
set_option maxRecDepth 20000 in
theorem gX9_put_X7_isMissing : GoodIn wsX9_put (wsV RX9 244 RX7 yX7_isMissing wsX7_isMissing) := goodIn_app (goodIn_of _ (by decide +kernel)) ggX9_put_X7_isMissing
set_option maxRecDepth 20000 in
theorem ggX9_put_X7_hasPlace : GoodIn wsX9_put wsX7_hasPlace := goodIn_r _ [15, 16, 35, 36, 37] (by decide +kernel) (by decide +kernel)
set_option maxRecDepth 20000 in
theorem gX9_put_X7_hasPlace : GoodIn wsX9_put (wsV RX9 264 RX7 yX7_hasPlace wsX7_hasPlace) := goodIn_app (goodIn_of _ (by decide +kernel)) ggX9_put_X7_hasPlace
set_option maxRecDepth 20000 in
theorem ggX9_put_X7_write : GoodIn wsX9_put wsX7_write := goodIn_r _ [20, 21, 11, 35, 36, 37] (by decide +kernel) (by decide +kernel)
set_option maxRecDepth 20000 in
theorem gX9_put_X7_write : GoodIn wsX9_put (wsV RX9 267 RX7 yX7_write wsX7_write) := goodIn_app (goodIn_of _ (by decide +kernel)) ggX9_put_X7_write
theorem dX9_put_0 : decode cX9_put 0 = .ok (.iload_n 1, 1) := by decide +kernel
theorem dX9_put_1 : decode cX9_put 1 = .ok (.invokestatic 241, 3) := by decide +kernel
theorem dX9_put_4 : decode cX9_put 4 = .ok (.ifCond .ne 6, 3) := by decide +kernel
theorem dX9_put_7 : decode cX9_put 7 = .ok (.bipush (-2), 2) := by decide +kernel
theorem dX9_put_9 : decode cX9_put 9 = .ok (.ireturn, 1) := by decide +kernel
theorem dX9_put_10 : decode cX9_put 10 = .ok (.aload_n 0, 1) := by decide +kernel
theorem dX9_put_11 : decode cX9_put 11 = .ok (.getfield 79, 3) := by decide +kernel
theorem dX9_put_14 : decode cX9_put 14 = .ok (.iload_n 1, 1) := by decide +kernel
theorem dX9_put_15 : decode cX9_put 15 = .ok (.aaload, 1) := by decide +kernel
theorem dX9_put_16 : decode cX9_put 16 = .ok (.astore 4, 2) := by decide +kernel
theorem dX9_put_18 : decode cX9_put 18 = .ok (.aload 4, 2) := by decide +kernel
theorem dX9_put_20 : decode cX9_put 20 = .ok (.invokevirtual 244, 3) := by decide +kernel
theorem dX9_put_23 : decode cX9_put 23 = .ok (.ifCond .eq 6, 3) := by decide +kernel
theorem dX9_put_26 : decode cX9_put 26 = .ok (.bipush (-11), 2) := by decide +kernel
theorem dX9_put_28 : decode cX9_put 28 = .ok (.ireturn, 1) := by decide +kernel
theorem dX9_put_29 : decode cX9_put 29 = .ok (.aload 4, 2) := by decide +kernel
theorem dX9_put_31 : decode cX9_put 31 = .ok (.iload_n 2, 1) := by decide +kernel
theorem dX9_put_32 : decode cX9_put 32 = .ok (.invokevirtual 264, 3) := by decide +kernel
theorem dX9_put_35 : decode cX9_put 35 = .ok (.ifCond .ne 6, 3) := by decide +kernel
theorem dX9_put_38 : decode cX9_put 38 = .ok (.bipush (-12), 2) := by decide +kernel
theorem dX9_put_40 : decode cX9_put 40 = .ok (.ireturn, 1) := by decide +kernel
theorem dX9_put_41 : decode cX9_put 41 = .ok (.aload 4, 2) := by decide +kernel
theorem dX9_put_43 : decode cX9_put 43 = .ok (.iload_n 2, 1) := by decide +kernel
theorem dX9_put_44 : decode cX9_put 44 = .ok (.iload_n 3, 1) := by decide +kernel
theorem dX9_put_45 : decode cX9_put 45 = .ok (.invokevirtual 267, 3) := by decide +kernel
theorem dX9_put_48 : decode cX9_put 48 = .ok (.iconst 1, 1) := by decide +kernel
theorem dX9_put_49 : decode cX9_put 49 = .ok (.ireturn, 1) := by decide +kernel
set_option maxRecDepth 20000 in
theorem ggX9_copy_X9_isSheet : GoodIn wsX9_copy wsX9_isSheet := goodIn_r _ [11] (by decide +kernel) (by decide +kernel)
set_option maxRecDepth 20000 in
theorem gX9_copy_X9_isSheet : GoodIn wsX9_copy (va_wsS RX9 241 yX9_isSheet wsX9_isSheet) := goodIn_app (goodIn_of _ (by decide +kernel)) ggX9_copy_X9_isSheet
set_option maxRecDepth 20000 in
theorem ggX9_copy_X7_isMissing : GoodIn wsX9_copy wsX7_isMissing := goodIn_r _ [16, 17, 36, 37, 38] (by decide +kernel) (by decide +kernel)
set_option maxRecDepth 20000 in
theorem gX9_copy_X7_isMissing : GoodIn wsX9_copy (wsV RX9 244 RX7 yX7_isMissing wsX7_isMissing) := goodIn_app (goodIn_of _ (by decide +kernel)) ggX9_copy_X7_isMissing
set_option maxRecDepth 20000 in
theorem ggX9_copy_X7_hasStretch : GoodIn wsX9_copy wsX7_hasStretch := goodIn_r _ [21, 22, 36, 37, 38] (by decide +kernel) (by decide +kernel)
set_option maxRecDepth 20000 in
theorem gX9_copy_X7_hasStretch : GoodIn wsX9_copy (wsV RX9 273 RX7 yX7_hasStretch wsX7_hasStretch) := goodIn_app (goodIn_of _ (by decide +kernel)) ggX9_copy_X7_hasStretch
theorem dX9_copy_0 : decode cX9_copy 0 = .ok (.iload_n 1, 1) := by decide +kernel
theorem dX9_copy_1 : decode cX9_copy 1 = .ok (.invokestatic 241, 3) := by decide +kernel
theorem dX9_copy_4 : decode cX9_copy 4 = .ok (.ifCond .eq 10, 3) := by decide +kernel
theorem dX9_copy_7 : decode cX9_copy 7 = .ok (.iload_n 3, 1) := by decide +kernel
theorem dX9_copy_8 : decode cX9_copy 8 = .ok (.invokestatic 241, 3) := by decide +kernel
theorem dX9_copy_11 : decode cX9_copy 11 = .ok (.ifCond .ne 6, 3) := by decide +kernel
theorem dX9_copy_14 : decode cX9_copy 14 = .ok (.bipush (-2), 2) := by decide +kernel
theorem dX9_copy_16 : decode cX9_copy 16 = .ok (.ireturn, 1) := by decide +kernel
theorem dX9_copy_17 : decode cX9_copy 17 = .ok (.aload_n 0, 1) := by decide +kernel
theorem dX9_copy_18 : decode cX9_copy 18 = .ok (.getfield 79, 3) := by decide +kernel
theorem dX9_copy_21 : decode cX9_copy 21 = .ok (.iload_n 1, 1) := by decide +kernel
theorem dX9_copy_22 : decode cX9_copy 22 = .ok (.aaload, 1) := by decide +kernel
theorem dX9_copy_23 : decode cX9_copy 23 = .ok (.astore 6, 2) := by decide +kernel
theorem dX9_copy_25 : decode cX9_copy 25 = .ok (.aload_n 0, 1) := by decide +kernel
theorem dX9_copy_26 : decode cX9_copy 26 = .ok (.getfield 79, 3) := by decide +kernel
theorem dX9_copy_29 : decode cX9_copy 29 = .ok (.iload_n 3, 1) := by decide +kernel
theorem dX9_copy_30 : decode cX9_copy 30 = .ok (.aaload, 1) := by decide +kernel
theorem dX9_copy_31 : decode cX9_copy 31 = .ok (.astore 7, 2) := by decide +kernel
theorem dX9_copy_33 : decode cX9_copy 33 = .ok (.aload 6, 2) := by decide +kernel
theorem dX9_copy_35 : decode cX9_copy 35 = .ok (.invokevirtual 244, 3) := by decide +kernel
theorem dX9_copy_38 : decode cX9_copy 38 = .ok (.ifCond .ne 11, 3) := by decide +kernel
theorem dX9_copy_41 : decode cX9_copy 41 = .ok (.aload 7, 2) := by decide +kernel
theorem dX9_copy_43 : decode cX9_copy 43 = .ok (.invokevirtual 244, 3) := by decide +kernel
theorem dX9_copy_46 : decode cX9_copy 46 = .ok (.ifCond .eq 6, 3) := by decide +kernel
theorem dX9_copy_49 : decode cX9_copy 49 = .ok (.bipush (-11), 2) := by decide +kernel
theorem dX9_copy_51 : decode cX9_copy 51 = .ok (.ireturn, 1) := by decide +kernel
theorem dX9_copy_52 : decode cX9_copy 52 = .ok (.aload 6, 2) := by decide +kernel
theorem dX9_copy_54 : decode cX9_copy 54 = .ok (.getfield 270, 3) := by decide +kernel
theorem dX9_copy_57 : decode cX9_copy 57 = .ok (.aload 7, 2) := by decide +kernel
theorem dX9_copy_59 : decode cX9_copy 59 = .ok (.getfield 270, 3) := by decide +kernel
theorem dX9_copy_62 : decode cX9_copy 62 = .ok (.if_icmp .eq 6, 3) := by decide +kernel
theorem dX9_copy_65 : decode cX9_copy 65 = .ok (.bipush (-13), 2) := by decide +kernel
theorem dX9_copy_67 : decode cX9_copy 67 = .ok (.ireturn, 1) := by decide +kernel
theorem dX9_copy_68 : decode cX9_copy 68 = .ok (.aload 6, 2) := by decide +kernel
theorem dX9_copy_70 : decode cX9_copy 70 = .ok (.iload_n 2, 1) := by decide +kernel
theorem dX9_copy_71 : decode cX9_copy 71 = .ok (.iload 5, 2) := by decide +kernel
theorem dX9_copy_73 : decode cX9_copy 73 = .ok (.invokevirtual 273, 3) := by decide +kernel
theorem dX9_copy_76 : decode cX9_copy 76 = .ok (.ifCond .eq 15, 3) := by decide +kernel
theorem dX9_copy_79 : decode cX9_copy 79 = .ok (.aload 7, 2) := by decide +kernel
theorem dX9_copy_81 : decode cX9_copy 81 = .ok (.iload 4, 2) := by decide +kernel
theorem dX9_copy_83 : decode cX9_copy 83 = .ok (.iload 5, 2) := by decide +kernel
theorem dX9_copy_85 : decode cX9_copy 85 = .ok (.invokevirtual 273, 3) := by decide +kernel
theorem dX9_copy_88 : decode cX9_copy 88 = .ok (.ifCond .ne 6, 3) := by decide +kernel
theorem dX9_copy_91 : decode cX9_copy 91 = .ok (.bipush (-12), 2) := by decide +kernel
theorem dX9_copy_93 : decode cX9_copy 93 = .ok (.ireturn, 1) := by decide +kernel
theorem dX9_copy_94 : decode cX9_copy 94 = .ok (.aload 6, 2) := by decide +kernel
theorem dX9_copy_96 : decode cX9_copy 96 = .ok (.getfield 276, 3) := by decide +kernel
theorem dX9_copy_99 : decode cX9_copy 99 = .ok (.iload_n 2, 1) := by decide +kernel
theorem dX9_copy_100 : decode cX9_copy 100 = .ok (.aload 7, 2) := by decide +kernel
theorem dX9_copy_102 : decode cX9_copy 102 = .ok (.getfield 276, 3) := by decide +kernel
theorem dX9_copy_105 : decode cX9_copy 105 = .ok (.iload 4, 2) := by decide +kernel
theorem dX9_copy_107 : decode cX9_copy 107 = .ok (.iload 5, 2) := by decide +kernel
theorem dX9_copy_109 : decode cX9_copy 109 = .ok (.invokestatic 279, 3) := by decide +kernel
theorem dX9_copy_112 : decode cX9_copy 112 = .ok (.iload 5, 2) := by decide +kernel
theorem dX9_copy_114 : decode cX9_copy 114 = .ok (.ireturn, 1) := by decide +kernel
set_option maxRecDepth 20000 in
theorem ggX9_load_X9_isSheet : GoodIn wsX9_load wsX9_isSheet := goodIn_r _ [7] (by decide +kernel) (by decide +kernel)
set_option maxRecDepth 20000 in
theorem gX9_load_X9_isSheet : GoodIn wsX9_load (va_wsS RX9 241 yX9_isSheet wsX9_isSheet) := goodIn_app (goodIn_of _ (by decide +kernel)) ggX9_load_X9_isSheet
set_option maxRecDepth 20000 in
theorem ggX9_load_X9_isWithin : GoodIn wsX9_load wsX9_isWithin := goodIn_r _ [10] (by decide +kernel) (by decide +kernel)
set_option maxRecDepth 20000 in
theorem gX9_load_X9_isWithin : GoodIn wsX9_load (va_wsS RX9 91 yX9_isWithin wsX9_isWithin) := goodIn_app (goodIn_of _ (by decide +kernel)) ggX9_load_X9_isWithin
set_option maxRecDepth 20000 in
theorem ggX9_load_X7_isMissing : GoodIn wsX9_load wsX7_isMissing := goodIn_r _ [15, 16, 62, 63, 64] (by decide +kernel) (by decide +kernel)
set_option maxRecDepth 20000 in
theorem gX9_load_X7_isMissing : GoodIn wsX9_load (wsV RX9 244 RX7 yX7_isMissing wsX7_isMissing) := goodIn_app (goodIn_of _ (by decide +kernel)) ggX9_load_X7_isMissing
set_option maxRecDepth 20000 in
theorem ggX9_load_X7_hasStretch : GoodIn wsX9_load wsX7_hasStretch := goodIn_r _ [20, 21, 62, 63, 64] (by decide +kernel) (by decide +kernel)
set_option maxRecDepth 20000 in
theorem gX9_load_X7_hasStretch : GoodIn wsX9_load (wsV RX9 273 RX7 yX7_hasStretch wsX7_hasStretch) := goodIn_app (goodIn_of _ (by decide +kernel)) ggX9_load_X7_hasStretch
set_option maxRecDepth 20000 in
theorem ggX9_load_X9_owe : GoodIn wsX9_load wsX9_owe := goodIn_r _ [25, 26, 27, 28, 29, 30, 6, 31, 32, 33, 34, 35, 36, 37, 38, 8, 9, 10, 39, 40, 41, 42, 43, 44, 45, 46, 47, 48, 49, 50, 51, 52, 53, 54, 55, 56, 57, 58, 59, 60, 61, 65, 66, 67, 68, 69, 70, 71, 72, 73, 74, 75, 76, 77, 78] (by decide +kernel) (by decide +kernel)
set_option maxRecDepth 20000 in
theorem gX9_load_X9_owe : GoodIn wsX9_load (wsV RX9 285 RX9 yX9_owe wsX9_owe) := goodIn_app (goodIn_of _ (by decide +kernel)) ggX9_load_X9_owe
theorem dX9_load_0 : decode cX9_load 0 = .ok (.iload_n 1, 1) := by decide +kernel
theorem dX9_load_1 : decode cX9_load 1 = .ok (.invokestatic 241, 3) := by decide +kernel
theorem dX9_load_4 : decode cX9_load 4 = .ok (.ifCond .eq 22, 3) := by decide +kernel
theorem dX9_load_7 : decode cX9_load 7 = .ok (.iload_n 2, 1) := by decide +kernel
theorem dX9_load_8 : decode cX9_load 8 = .ok (.ifCond .lt 18, 3) := by decide +kernel
theorem dX9_load_11 : decode cX9_load 11 = .ok (.iload_n 2, 1) := by decide +kernel
theorem dX9_load_12 : decode cX9_load 12 = .ok (.iconst 1, 1) := by decide +kernel
theorem dX9_load_13 : decode cX9_load 13 = .ok (.if_icmp .gt 13, 3) := by decide +kernel
theorem dX9_load_16 : decode cX9_load 16 = .ok (.iload 4, 2) := by decide +kernel
theorem dX9_load_18 : decode cX9_load 18 = .ok (.bipush 20, 2) := by decide +kernel
theorem dX9_load_20 : decode cX9_load 20 = .ok (.invokestatic 91, 3) := by decide +kernel
theorem dX9_load_23 : decode cX9_load 23 = .ok (.ifCond .ne 6, 3) := by decide +kernel
theorem dX9_load_26 : decode cX9_load 26 = .ok (.bipush (-2), 2) := by decide +kernel
theorem dX9_load_28 : decode cX9_load 28 = .ok (.ireturn, 1) := by decide +kernel
theorem dX9_load_29 : decode cX9_load 29 = .ok (.aload_n 0, 1) := by decide +kernel
theorem dX9_load_30 : decode cX9_load 30 = .ok (.getfield 79, 3) := by decide +kernel
theorem dX9_load_33 : decode cX9_load 33 = .ok (.iload_n 1, 1) := by decide +kernel
theorem dX9_load_34 : decode cX9_load 34 = .ok (.aaload, 1) := by decide +kernel
theorem dX9_load_35 : decode cX9_load 35 = .ok (.astore 5, 2) := by decide +kernel
theorem dX9_load_37 : decode cX9_load 37 = .ok (.aload 5, 2) := by decide +kernel
theorem dX9_load_39 : decode cX9_load 39 = .ok (.invokevirtual 244, 3) := by decide +kernel
theorem dX9_load_42 : decode cX9_load 42 = .ok (.ifCond .eq 6, 3) := by decide +kernel
theorem dX9_load_45 : decode cX9_load 45 = .ok (.bipush (-11), 2) := by decide +kernel
theorem dX9_load_47 : decode cX9_load 47 = .ok (.ireturn, 1) := by decide +kernel
theorem dX9_load_48 : decode cX9_load 48 = .ok (.aload 5, 2) := by decide +kernel
theorem dX9_load_50 : decode cX9_load 50 = .ok (.getfield 270, 3) := by decide +kernel
theorem dX9_load_53 : decode cX9_load 53 = .ok (.iload_n 2, 1) := by decide +kernel
theorem dX9_load_54 : decode cX9_load 54 = .ok (.if_icmp .eq 6, 3) := by decide +kernel
theorem dX9_load_57 : decode cX9_load 57 = .ok (.bipush (-13), 2) := by decide +kernel
theorem dX9_load_59 : decode cX9_load 59 = .ok (.ireturn, 1) := by decide +kernel
theorem dX9_load_60 : decode cX9_load 60 = .ok (.iconst 0, 1) := by decide +kernel
theorem dX9_load_61 : decode cX9_load 61 = .ok (.istore 6, 2) := by decide +kernel
theorem dX9_load_63 : decode cX9_load 63 = .ok (.iconst 0, 1) := by decide +kernel
theorem dX9_load_64 : decode cX9_load 64 = .ok (.istore 7, 2) := by decide +kernel
theorem dX9_load_66 : decode cX9_load 66 = .ok (.iload 7, 2) := by decide +kernel
theorem dX9_load_68 : decode cX9_load 68 = .ok (.iload 4, 2) := by decide +kernel
theorem dX9_load_70 : decode cX9_load 70 = .ok (.if_icmp .ge 71, 3) := by decide +kernel
theorem dX9_load_73 : decode cX9_load 73 = .ok (.iload_n 3, 1) := by decide +kernel
theorem dX9_load_74 : decode cX9_load 74 = .ok (.iconst 3, 1) := by decide +kernel
theorem dX9_load_75 : decode cX9_load 75 = .ok (.iload 7, 2) := by decide +kernel
theorem dX9_load_77 : decode cX9_load 77 = .ok (.imul, 1) := by decide +kernel
theorem dX9_load_78 : decode cX9_load 78 = .ok (.iadd, 1) := by decide +kernel
theorem dX9_load_79 : decode cX9_load 79 = .ok (.istore 8, 2) := by decide +kernel
theorem dX9_load_81 : decode cX9_load 81 = .ok (.aload 5, 2) := by decide +kernel
theorem dX9_load_83 : decode cX9_load 83 = .ok (.iload 8, 2) := by decide +kernel
theorem dX9_load_85 : decode cX9_load 85 = .ok (.iconst 3, 1) := by decide +kernel
theorem dX9_load_86 : decode cX9_load 86 = .ok (.invokevirtual 273, 3) := by decide +kernel
theorem dX9_load_89 : decode cX9_load 89 = .ok (.ifCond .ne 6, 3) := by decide +kernel
theorem dX9_load_92 : decode cX9_load 92 = .ok (.bipush (-12), 2) := by decide +kernel
theorem dX9_load_94 : decode cX9_load 94 = .ok (.ireturn, 1) := by decide +kernel
theorem dX9_load_95 : decode cX9_load 95 = .ok (.aload_n 0, 1) := by decide +kernel
theorem dX9_load_96 : decode cX9_load 96 = .ok (.aload 5, 2) := by decide +kernel
theorem dX9_load_98 : decode cX9_load 98 = .ok (.getfield 276, 3) := by decide +kernel
theorem dX9_load_101 : decode cX9_load 101 = .ok (.iload 8, 2) := by decide +kernel
theorem dX9_load_103 : decode cX9_load 103 = .ok (.iaload, 1) := by decide +kernel
theorem dX9_load_104 : decode cX9_load 104 = .ok (.aload 5, 2) := by decide +kernel
theorem dX9_load_106 : decode cX9_load 106 = .ok (.getfield 276, 3) := by decide +kernel
theorem dX9_load_109 : decode cX9_load 109 = .ok (.iload 8, 2) := by decide +kernel
theorem dX9_load_111 : decode cX9_load 111 = .ok (.iconst 1, 1) := by decide +kernel
theorem dX9_load_112 : decode cX9_load 112 = .ok (.iadd, 1) := by decide +kernel
theorem dX9_load_113 : decode cX9_load 113 = .ok (.iaload, 1) := by decide +kernel
theorem dX9_load_114 : decode cX9_load 114 = .ok (.aload 5, 2) := by decide +kernel
theorem dX9_load_116 : decode cX9_load 116 = .ok (.getfield 276, 3) := by decide +kernel
theorem dX9_load_119 : decode cX9_load 119 = .ok (.iload 8, 2) := by decide +kernel
theorem dX9_load_121 : decode cX9_load 121 = .ok (.iconst 2, 1) := by decide +kernel
theorem dX9_load_122 : decode cX9_load 122 = .ok (.iadd, 1) := by decide +kernel
theorem dX9_load_123 : decode cX9_load 123 = .ok (.iaload, 1) := by decide +kernel
theorem dX9_load_124 : decode cX9_load 124 = .ok (.invokevirtual 285, 3) := by decide +kernel
theorem dX9_load_127 : decode cX9_load 127 = .ok (.bipush (-2), 2) := by decide +kernel
theorem dX9_load_129 : decode cX9_load 129 = .ok (.if_icmp .eq 6, 3) := by decide +kernel
theorem dX9_load_132 : decode cX9_load 132 = .ok (.iinc 6 1, 3) := by decide +kernel
theorem dX9_load_135 : decode cX9_load 135 = .ok (.iinc 7 1, 3) := by decide +kernel
theorem dX9_load_138 : decode cX9_load 138 = .ok (.goto (-72), 3) := by decide +kernel
theorem dX9_load_141 : decode cX9_load 141 = .ok (.iload 6, 2) := by decide +kernel
theorem dX9_load_143 : decode cX9_load 143 = .ok (.ireturn, 1) := by decide +kernel
theorem dX9_isWithin_0 : decode cX9_isWithin 0 = .ok (.iload_n 0, 1) := by decide +kernel
theorem dX9_isWithin_1 : decode cX9_isWithin 1 = .ok (.ifCond .lt 12, 3) := by decide +kernel
theorem dX9_isWithin_4 : decode cX9_isWithin 4 = .ok (.iload_n 0, 1) := by decide +kernel
theorem dX9_isWithin_5 : decode cX9_isWithin 5 = .ok (.iload_n 1, 1) := by decide +kernel
theorem dX9_isWithin_6 : decode cX9_isWithin 6 = .ok (.if_icmp .gt 7, 3) := by decide +kernel
theorem dX9_isWithin_9 : decode cX9_isWithin 9 = .ok (.iconst 1, 1) := by decide +kernel
theorem dX9_isWithin_10 : decode cX9_isWithin 10 = .ok (.goto 4, 3) := by decide +kernel
theorem dX9_isWithin_13 : decode cX9_isWithin 13 = .ok (.iconst 0, 1) := by decide +kernel
theorem dX9_isWithin_14 : decode cX9_isWithin 14 = .ok (.ireturn, 1) := by decide +kernel
set_option maxRecDepth 20000 in
theorem ggX9_isByte_X9_isWithin : GoodIn wsX9_isByte wsX9_isWithin := goodIn_r _ [4] (by decide +kernel) (by decide +kernel)
set_option maxRecDepth 20000 in
theorem gX9_isByte_X9_isWithin : GoodIn wsX9_isByte (va_wsS RX9 91 yX9_isWithin wsX9_isWithin) := goodIn_app (goodIn_of _ (by decide +kernel)) ggX9_isByte_X9_isWithin
theorem dX9_isByte_0 : decode cX9_isByte 0 = .ok (.iload_n 0, 1) := by decide +kernel
theorem dX9_isByte_1 : decode cX9_isByte 1 = .ok (.sipush 255, 3) := by decide +kernel
theorem dX9_isByte_4 : decode cX9_isByte 4 = .ok (.invokestatic 91, 3) := by decide +kernel
theorem dX9_isByte_7 : decode cX9_isByte 7 = .ok (.ireturn, 1) := by decide +kernel
theorem dX9_isSheet_0 : decode cX9_isSheet 0 = .ok (.iload_n 0, 1) := by decide +kernel
theorem dX9_isSheet_1 : decode cX9_isSheet 1 = .ok (.ifCond .lt 12, 3) := by decide +kernel
theorem dX9_isSheet_4 : decode cX9_isSheet 4 = .ok (.iload_n 0, 1) := by decide +kernel
theorem dX9_isSheet_5 : decode cX9_isSheet 5 = .ok (.iconst 4, 1) := by decide +kernel
theorem dX9_isSheet_6 : decode cX9_isSheet 6 = .ok (.if_icmp .ge 7, 3) := by decide +kernel
theorem dX9_isSheet_9 : decode cX9_isSheet 9 = .ok (.iconst 1, 1) := by decide +kernel
theorem dX9_isSheet_10 : decode cX9_isSheet 10 = .ok (.goto 4, 3) := by decide +kernel
theorem dX9_isSheet_13 : decode cX9_isSheet 13 = .ok (.iconst 0, 1) := by decide +kernel
theorem dX9_isSheet_14 : decode cX9_isSheet 14 = .ok (.ireturn, 1) := by decide +kernel
theorem dX9_isProgram_0 : decode cX9_isProgram 0 = .ok (.iload_n 1, 1) := by decide +kernel
theorem dX9_isProgram_1 : decode cX9_isProgram 1 = .ok (.ifCond .lt 15, 3) := by decide +kernel
theorem dX9_isProgram_4 : decode cX9_isProgram 4 = .ok (.iload_n 1, 1) := by decide +kernel
theorem dX9_isProgram_5 : decode cX9_isProgram 5 = .ok (.aload_n 0, 1) := by decide +kernel
theorem dX9_isProgram_6 : decode cX9_isProgram 6 = .ok (.getfield 141, 3) := by decide +kernel
theorem dX9_isProgram_9 : decode cX9_isProgram 9 = .ok (.if_icmp .ge 7, 3) := by decide +kernel
theorem dX9_isProgram_12 : decode cX9_isProgram 12 = .ok (.iconst 1, 1) := by decide +kernel
theorem dX9_isProgram_13 : decode cX9_isProgram 13 = .ok (.goto 4, 3) := by decide +kernel
theorem dX9_isProgram_16 : decode cX9_isProgram 16 = .ok (.iconst 0, 1) := by decide +kernel
theorem dX9_isProgram_17 : decode cX9_isProgram 17 = .ok (.ireturn, 1) := by decide +kernel
set_option maxRecDepth 20000 in
theorem ggX9_isPair_X0_has : GoodIn wsX9_isPair wsX0_has := goodIn_r _ [6, 7, 21, 22, 23, 24, 25, 26, 27, 28, 29, 30, 31, 32, 33] (by decide +kernel) (by decide +kernel)
set_option maxRecDepth 20000 in
theorem gX9_isPair_X0_has : GoodIn wsX9_isPair (wsV RX9 102 RX0 yX0_has wsX0_has) := goodIn_app (goodIn_of _ (by decide +kernel)) ggX9_isPair_X0_has
theorem dX9_isPair_0 : decode cX9_isPair 0 = .ok (.aload_n 0, 1) := by decide +kernel
theorem dX9_isPair_1 : decode cX9_isPair 1 = .ok (.getfield 12, 3) := by decide +kernel
theorem dX9_isPair_4 : decode cX9_isPair 4 = .ok (.iload_n 1, 1) := by decide +kernel
theorem dX9_isPair_5 : decode cX9_isPair 5 = .ok (.invokevirtual 102, 3) := by decide +kernel
theorem dX9_isPair_8 : decode cX9_isPair 8 = .ok (.ifCond .eq 23, 3) := by decide +kernel
theorem dX9_isPair_11 : decode cX9_isPair 11 = .ok (.aload_n 0, 1) := by decide +kernel
theorem dX9_isPair_12 : decode cX9_isPair 12 = .ok (.getfield 12, 3) := by decide +kernel
theorem dX9_isPair_15 : decode cX9_isPair 15 = .ok (.iload_n 2, 1) := by decide +kernel
theorem dX9_isPair_16 : decode cX9_isPair 16 = .ok (.invokevirtual 102, 3) := by decide +kernel
theorem dX9_isPair_19 : decode cX9_isPair 19 = .ok (.ifCond .eq 12, 3) := by decide +kernel
theorem dX9_isPair_22 : decode cX9_isPair 22 = .ok (.iload_n 1, 1) := by decide +kernel
theorem dX9_isPair_23 : decode cX9_isPair 23 = .ok (.iload_n 2, 1) := by decide +kernel
theorem dX9_isPair_24 : decode cX9_isPair 24 = .ok (.if_icmp .eq 7, 3) := by decide +kernel
theorem dX9_isPair_27 : decode cX9_isPair 27 = .ok (.iconst 1, 1) := by decide +kernel
theorem dX9_isPair_28 : decode cX9_isPair 28 = .ok (.goto 4, 3) := by decide +kernel
theorem dX9_isPair_31 : decode cX9_isPair 31 = .ok (.iconst 0, 1) := by decide +kernel
theorem dX9_isPair_32 : decode cX9_isPair 32 = .ok (.ireturn, 1) := by decide +kernel
set_option maxRecDepth 20000 in
theorem ggX9_isOfWould_X0_has : GoodIn wsX9_isOfWould wsX0_has := goodIn_r _ [6, 7, 25, 26, 27, 28, 29, 30, 31, 32, 33, 34, 35, 36, 37] (by decide +kernel) (by decide +kernel)
set_option maxRecDepth 20000 in
theorem gX9_isOfWould_X0_has : GoodIn wsX9_isOfWould (wsV RX9 102 RX0 yX0_has wsX0_has) := goodIn_app (goodIn_of _ (by decide +kernel)) ggX9_isOfWould_X0_has
set_option maxRecDepth 20000 in
theorem ggX9_isOfWould_X9_isWithin : GoodIn wsX9_isOfWould wsX9_isWithin := goodIn_r _ [11] (by decide +kernel) (by decide +kernel)
set_option maxRecDepth 20000 in
theorem gX9_isOfWould_X9_isWithin : GoodIn wsX9_isOfWould (va_wsS RX9 91 yX9_isWithin wsX9_isWithin) := goodIn_app (goodIn_of _ (by decide +kernel)) ggX9_isOfWould_X9_isWithin
theorem dX9_isOfWould_0 : decode cX9_isOfWould 0 = .ok (.iload_n 1, 1) := by decide +kernel
theorem dX9_isOfWould_1 : decode cX9_isOfWould 1 = .ok (.bipush 10, 2) := by decide +kernel
theorem dX9_isOfWould_3 : decode cX9_isOfWould 3 = .ok (.if_icmp .lt 15, 3) := by decide +kernel
theorem dX9_isOfWould_6 : decode cX9_isOfWould 6 = .ok (.aload_n 0, 1) := by decide +kernel
theorem dX9_isOfWould_7 : decode cX9_isOfWould 7 = .ok (.getfield 12, 3) := by decide +kernel
theorem dX9_isOfWould_10 : decode cX9_isOfWould 10 = .ok (.iload_n 1, 1) := by decide +kernel
theorem dX9_isOfWould_11 : decode cX9_isOfWould 11 = .ok (.bipush 10, 2) := by decide +kernel
theorem dX9_isOfWould_13 : decode cX9_isOfWould 13 = .ok (.isub, 1) := by decide +kernel
theorem dX9_isOfWould_14 : decode cX9_isOfWould 14 = .ok (.invokevirtual 102, 3) := by decide +kernel
theorem dX9_isOfWould_17 : decode cX9_isOfWould 17 = .ok (.ireturn, 1) := by decide +kernel
theorem dX9_isOfWould_18 : decode cX9_isOfWould 18 = .ok (.iload_n 1, 1) := by decide +kernel
theorem dX9_isOfWould_19 : decode cX9_isOfWould 19 = .ok (.iconst 3, 1) := by decide +kernel
theorem dX9_isOfWould_20 : decode cX9_isOfWould 20 = .ok (.invokestatic 91, 3) := by decide +kernel
theorem dX9_isOfWould_23 : decode cX9_isOfWould 23 = .ok (.ireturn, 1) := by decide +kernel
set_option maxRecDepth 20000 in
theorem ggX9_outcomeInThought_X0_becomeAs : GoodIn wsX9_outcomeInThought wsX0_becomeAs := goodIn_r _ [9, 10, 11, 12, 13, 14, 15, 16, 17, 18, 19, 20, 21, 22, 23, 24, 25, 26, 174, 175, 176, 177, 178, 179, 180, 181, 182, 183, 184, 185, 186] (by decide +kernel) (by decide +kernel)
set_option maxRecDepth 20000 in
theorem gX9_outcomeInThought_X0_becomeAs : GoodIn wsX9_outcomeInThought (wsV RX9 214 RX0 yX0_becomeAs wsX0_becomeAs) := goodIn_app (goodIn_of _ (by decide +kernel)) ggX9_outcomeInThought_X0_becomeAs
set_option maxRecDepth 20000 in
theorem ggX9_outcomeInThought_X6_outcomeOf : GoodIn wsX9_outcomeInThought wsX6_outcomeOf := goodIn_r _ [31, 32, 33, 34, 35, 36, 37, 38, 30, 39, 40, 41, 42, 43, 12, 13, 14, 44, 45, 46, 47, 48, 49, 50, 51, 52, 53, 54, 55, 56, 57, 58, 59, 60, 61, 62, 63, 64, 65, 66, 67, 68, 69, 70, 71, 72, 73, 74, 75, 76, 77, 78, 79, 80, 81, 82, 83, 84, 85, 86, 87, 88, 89, 90, 91, 92, 93, 94, 95, 8, 96, 20, 97, 98, 99, 100, 21, 101, 102, 103, 104, 105, 106, 107, 108, 109, 110, 111, 112, 113, 114, 115, 116, 117, 118, 119, 120, 121, 122, 123, 124, 125, 126, 127, 128, 129, 130, 131, 132, 133, 134, 10, 135, 136, 137, 138, 139, 140, 141, 142, 16, 143, 144, 145, 146, 147, 148, 149, 150, 151, 152, 166, 167, 168, 169, 170, 171, 172, 173, 187, 188, 189, 174, 175, 176, 177, 178, 179, 180, 181, 182, 183, 184, 185, 186] (by decide +kernel) (by decide +kernel)
set_option maxRecDepth 20000 in
theorem gX9_outcomeInThought_X6_outcomeOf : GoodIn wsX9_outcomeInThought (wsV RX9 195 RX6 yX6_outcomeOf wsX6_outcomeOf) := goodIn_app (goodIn_of _ (by decide +kernel)) ggX9_outcomeInThought_X6_outcomeOf
theorem dX9_outcomeInThought_0 : decode cX9_outcomeInThought 0 = .ok (.aload_n 0, 1) := by decide +kernel
theorem dX9_outcomeInThought_1 : decode cX9_outcomeInThought 1 = .ok (.getfield 74, 3) := by decide +kernel
theorem dX9_outcomeInThought_4 : decode cX9_outcomeInThought 4 = .ok (.getfield 207, 3) := by decide +kernel
theorem dX9_outcomeInThought_7 : decode cX9_outcomeInThought 7 = .ok (.aload_n 0, 1) := by decide +kernel
theorem dX9_outcomeInThought_8 : decode cX9_outcomeInThought 8 = .ok (.getfield 12, 3) := by decide +kernel
theorem dX9_outcomeInThought_11 : decode cX9_outcomeInThought 11 = .ok (.invokevirtual 214, 3) := by decide +kernel
theorem dX9_outcomeInThought_14 : decode cX9_outcomeInThought 14 = .ok (.aload_n 0, 1) := by decide +kernel
theorem dX9_outcomeInThought_15 : decode cX9_outcomeInThought 15 = .ok (.getfield 74, 3) := by decide +kernel
theorem dX9_outcomeInThought_18 : decode cX9_outcomeInThought 18 = .ok (.aload_n 0, 1) := by decide +kernel
theorem dX9_outcomeInThought_19 : decode cX9_outcomeInThought 19 = .ok (.getfield 42, 3) := by decide +kernel
theorem dX9_outcomeInThought_22 : decode cX9_outcomeInThought 22 = .ok (.iload_n 1, 1) := by decide +kernel
theorem dX9_outcomeInThought_23 : decode cX9_outcomeInThought 23 = .ok (.aaload, 1) := by decide +kernel
theorem dX9_outcomeInThought_24 : decode cX9_outcomeInThought 24 = .ok (.invokevirtual 195, 3) := by decide +kernel
theorem dX9_outcomeInThought_27 : decode cX9_outcomeInThought 27 = .ok (.ireturn, 1) := by decide +kernel
set_option maxRecDepth 20000 in
theorem ggX9_kindsToldBy_X0_becomeAs : GoodIn wsX9_kindsToldBy wsX0_becomeAs := goodIn_r _ [11, 12, 13, 14, 15, 16, 17, 18, 19, 20, 21, 22, 23, 24, 25, 26, 27, 28, 191, 192, 193, 194, 195, 196, 197, 198, 199, 200, 201, 202, 203] (by decide +kernel) (by decide +kernel)
set_option maxRecDepth 20000 in
theorem gX9_kindsToldBy_X0_becomeAs : GoodIn wsX9_kindsToldBy (wsV RX9 214 RX0 yX0_becomeAs wsX0_becomeAs) := goodIn_app (goodIn_of _ (by decide +kernel)) ggX9_kindsToldBy_X0_becomeAs
set_option maxRecDepth 20000 in
theorem ggX9_kindsToldBy_X6_outcomeOf : GoodIn wsX9_kindsToldBy wsX6_outcomeOf := goodIn_r _ [33, 34, 35, 36, 37, 38, 39, 40, 32, 41, 42, 43, 44, 45, 14, 15, 16, 46, 47, 48, 49, 50, 51, 52, 53, 54, 55, 56, 57, 58, 59, 60, 61, 62, 63, 64, 65, 66, 67, 68, 69, 70, 71, 72, 73, 74, 75, 76, 77, 78, 79, 80, 81, 82, 83, 84, 85, 86, 87, 88, 89, 90, 91, 92, 93, 94, 95, 96, 97, 10, 98, 22, 99, 100, 101, 102, 23, 103, 104, 105, 106, 107, 108, 109, 110, 111, 112, 113, 114, 115, 116, 117, 118, 119, 120, 121, 122, 123, 124, 125, 126, 127, 128, 129, 130, 131, 132, 133, 134, 135, 136, 12, 137, 138, 139, 140, 141, 142, 143, 144, 18, 145, 146, 147, 148, 149, 150, 151, 152, 153, 154, 183, 184, 185, 186, 187, 188, 189, 190, 204, 205, 206, 191, 192, 193, 194, 195, 196, 197, 198, 199, 200, 201, 202, 203] (by decide +kernel) (by decide +kernel)
set_option maxRecDepth 20000 in
theorem gX9_kindsToldBy_X6_outcomeOf : GoodIn wsX9_kindsToldBy (wsV RX9 195 RX6 yX6_outcomeOf wsX6_outcomeOf) := goodIn_app (goodIn_of _ (by decide +kernel)) ggX9_kindsToldBy_X6_outcomeOf
set_option maxRecDepth 20000 in
theorem ggX9_kindsToldBy_X6_keptMarks : GoodIn wsX9_kindsToldBy wsX6_keptMarks := goodIn_r _ [158, 35, 159, 160, 54, 161, 183, 184, 185, 186, 187, 188, 189, 190] (by decide +kernel) (by decide +kernel)
set_option maxRecDepth 20000 in
theorem gX9_kindsToldBy_X6_keptMarks : GoodIn wsX9_kindsToldBy (wsV RX9 156 RX6 yX6_keptMarks wsX6_keptMarks) := goodIn_app (goodIn_of _ (by decide +kernel)) ggX9_kindsToldBy_X6_keptMarks
set_option maxRecDepth 20000 in
theorem ggX9_kindsToldBy_X7_firstUnlike : GoodIn wsX9_kindsToldBy wsX7_firstUnlike := goodIn_r _ [166, 167, 168, 160, 54, 161, 169, 207, 208, 209] (by decide +kernel) (by decide +kernel)
set_option maxRecDepth 20000 in
theorem gX9_kindsToldBy_X7_firstUnlike : GoodIn wsX9_kindsToldBy (wsV RX9 252 RX7 yX7_firstUnlike wsX7_firstUnlike) := goodIn_app (goodIn_of _ (by decide +kernel)) ggX9_kindsToldBy_X7_firstUnlike
theorem dX9_kindsToldBy_0 : decode cX9_kindsToldBy 0 = .ok (.iconst 0, 1) := by decide +kernel
theorem dX9_kindsToldBy_1 : decode cX9_kindsToldBy 1 = .ok (.istore 4, 2) := by decide +kernel
theorem dX9_kindsToldBy_3 : decode cX9_kindsToldBy 3 = .ok (.iconst 0, 1) := by decide +kernel
theorem dX9_kindsToldBy_4 : decode cX9_kindsToldBy 4 = .ok (.istore 5, 2) := by decide +kernel
theorem dX9_kindsToldBy_6 : decode cX9_kindsToldBy 6 = .ok (.iload 5, 2) := by decide +kernel
theorem dX9_kindsToldBy_8 : decode cX9_kindsToldBy 8 = .ok (.iconst 5, 1) := by decide +kernel
theorem dX9_kindsToldBy_9 : decode cX9_kindsToldBy 9 = .ok (.if_icmp .ge 82, 3) := by decide +kernel
theorem dX9_kindsToldBy_12 : decode cX9_kindsToldBy 12 = .ok (.aload_n 0, 1) := by decide +kernel
theorem dX9_kindsToldBy_13 : decode cX9_kindsToldBy 13 = .ok (.getfield 74, 3) := by decide +kernel
theorem dX9_kindsToldBy_16 : decode cX9_kindsToldBy 16 = .ok (.getfield 207, 3) := by decide +kernel
theorem dX9_kindsToldBy_19 : decode cX9_kindsToldBy 19 = .ok (.aload_n 0, 1) := by decide +kernel
theorem dX9_kindsToldBy_20 : decode cX9_kindsToldBy 20 = .ok (.getfield 12, 3) := by decide +kernel
theorem dX9_kindsToldBy_23 : decode cX9_kindsToldBy 23 = .ok (.invokevirtual 214, 3) := by decide +kernel
theorem dX9_kindsToldBy_26 : decode cX9_kindsToldBy 26 = .ok (.aload_n 0, 1) := by decide +kernel
theorem dX9_kindsToldBy_27 : decode cX9_kindsToldBy 27 = .ok (.getfield 74, 3) := by decide +kernel
theorem dX9_kindsToldBy_30 : decode cX9_kindsToldBy 30 = .ok (.getfield 207, 3) := by decide +kernel
theorem dX9_kindsToldBy_33 : decode cX9_kindsToldBy 33 = .ok (.getfield 118, 3) := by decide +kernel
theorem dX9_kindsToldBy_36 : decode cX9_kindsToldBy 36 = .ok (.iload_n 3, 1) := by decide +kernel
theorem dX9_kindsToldBy_37 : decode cX9_kindsToldBy 37 = .ok (.iload 5, 2) := by decide +kernel
theorem dX9_kindsToldBy_39 : decode cX9_kindsToldBy 39 = .ok (.iastore, 1) := by decide +kernel
theorem dX9_kindsToldBy_40 : decode cX9_kindsToldBy 40 = .ok (.aload_n 0, 1) := by decide +kernel
theorem dX9_kindsToldBy_41 : decode cX9_kindsToldBy 41 = .ok (.getfield 74, 3) := by decide +kernel
theorem dX9_kindsToldBy_44 : decode cX9_kindsToldBy 44 = .ok (.aload_n 0, 1) := by decide +kernel
theorem dX9_kindsToldBy_45 : decode cX9_kindsToldBy 45 = .ok (.getfield 42, 3) := by decide +kernel
theorem dX9_kindsToldBy_48 : decode cX9_kindsToldBy 48 = .ok (.iload_n 2, 1) := by decide +kernel
theorem dX9_kindsToldBy_49 : decode cX9_kindsToldBy 49 = .ok (.aaload, 1) := by decide +kernel
theorem dX9_kindsToldBy_50 : decode cX9_kindsToldBy 50 = .ok (.invokevirtual 195, 3) := by decide +kernel
theorem dX9_kindsToldBy_53 : decode cX9_kindsToldBy 53 = .ok (.pop, 1) := by decide +kernel
theorem dX9_kindsToldBy_54 : decode cX9_kindsToldBy 54 = .ok (.aload_n 1, 1) := by decide +kernel
theorem dX9_kindsToldBy_55 : decode cX9_kindsToldBy 55 = .ok (.aload_n 0, 1) := by decide +kernel
theorem dX9_kindsToldBy_56 : decode cX9_kindsToldBy 56 = .ok (.getfield 74, 3) := by decide +kernel
theorem dX9_kindsToldBy_59 : decode cX9_kindsToldBy 59 = .ok (.getfield 198, 3) := by decide +kernel
theorem dX9_kindsToldBy_62 : decode cX9_kindsToldBy 62 = .ok (.aload_n 0, 1) := by decide +kernel
theorem dX9_kindsToldBy_63 : decode cX9_kindsToldBy 63 = .ok (.getfield 74, 3) := by decide +kernel
theorem dX9_kindsToldBy_66 : decode cX9_kindsToldBy 66 = .ok (.invokevirtual 156, 3) := by decide +kernel
theorem dX9_kindsToldBy_69 : decode cX9_kindsToldBy 69 = .ok (.invokevirtual 252, 3) := by decide +kernel
theorem dX9_kindsToldBy_72 : decode cX9_kindsToldBy 72 = .ok (.iconst (-1), 1) := by decide +kernel
theorem dX9_kindsToldBy_73 : decode cX9_kindsToldBy 73 = .ok (.if_icmp .ne 12, 3) := by decide +kernel
theorem dX9_kindsToldBy_76 : decode cX9_kindsToldBy 76 = .ok (.iload 4, 2) := by decide +kernel
theorem dX9_kindsToldBy_78 : decode cX9_kindsToldBy 78 = .ok (.iconst 1, 1) := by decide +kernel
theorem dX9_kindsToldBy_79 : decode cX9_kindsToldBy 79 = .ok (.iload 5, 2) := by decide +kernel
theorem dX9_kindsToldBy_81 : decode cX9_kindsToldBy 81 = .ok (.ishl, 1) := by decide +kernel
theorem dX9_kindsToldBy_82 : decode cX9_kindsToldBy 82 = .ok (.ior, 1) := by decide +kernel
theorem dX9_kindsToldBy_83 : decode cX9_kindsToldBy 83 = .ok (.istore 4, 2) := by decide +kernel
theorem dX9_kindsToldBy_85 : decode cX9_kindsToldBy 85 = .ok (.iinc 5 1, 3) := by decide +kernel
theorem dX9_kindsToldBy_88 : decode cX9_kindsToldBy 88 = .ok (.goto (-82), 3) := by decide +kernel
theorem dX9_kindsToldBy_91 : decode cX9_kindsToldBy 91 = .ok (.iload 4, 2) := by decide +kernel
theorem dX9_kindsToldBy_93 : decode cX9_kindsToldBy 93 = .ok (.ireturn, 1) := by decide +kernel
theorem dX10_init_0 : decode cX10_init 0 = .ok (.aload_n 0, 1) := by decide +kernel
theorem dX10_init_1 : decode cX10_init 1 = .ok (.invokespecial 5, 3) := by decide +kernel
theorem dX10_init_4 : decode cX10_init 4 = .ok (.aload_n 0, 1) := by decide +kernel
theorem dX10_init_5 : decode cX10_init 5 = .ok (.bipush 125, 2) := by decide +kernel
theorem dX10_init_7 : decode cX10_init 7 = .ok (.newarray .int, 2) := by decide +kernel
theorem dX10_init_9 : decode cX10_init 9 = .ok (.putfield 11, 3) := by decide +kernel
theorem dX10_init_12 : decode cX10_init 12 = .ok (.aload_n 0, 1) := by decide +kernel
theorem dX10_init_13 : decode cX10_init 13 = .ok (.bipush 125, 2) := by decide +kernel
theorem dX10_init_15 : decode cX10_init 15 = .ok (.newarray .int, 2) := by decide +kernel
theorem dX10_init_17 : decode cX10_init 17 = .ok (.putfield 15, 3) := by decide +kernel
theorem dX10_init_20 : decode cX10_init 20 = .ok (.aload_n 0, 1) := by decide +kernel
theorem dX10_init_21 : decode cX10_init 21 = .ok (.bipush 125, 2) := by decide +kernel
theorem dX10_init_23 : decode cX10_init 23 = .ok (.newarray .int, 2) := by decide +kernel
theorem dX10_init_25 : decode cX10_init 25 = .ok (.putfield 18, 3) := by decide +kernel
theorem dX10_init_28 : decode cX10_init 28 = .ok (.aload_n 0, 1) := by decide +kernel
theorem dX10_init_29 : decode cX10_init 29 = .ok (.bipush 80, 2) := by decide +kernel
theorem dX10_init_31 : decode cX10_init 31 = .ok (.newarray .int, 2) := by decide +kernel
theorem dX10_init_33 : decode cX10_init 33 = .ok (.putfield 21, 3) := by decide +kernel
theorem dX10_init_36 : decode cX10_init 36 = .ok (.aload_n 0, 1) := by decide +kernel
theorem dX10_init_37 : decode cX10_init 37 = .ok (.sipush 320, 3) := by decide +kernel
theorem dX10_init_40 : decode cX10_init 40 = .ok (.newarray .int, 2) := by decide +kernel
theorem dX10_init_42 : decode cX10_init 42 = .ok (.putfield 24, 3) := by decide +kernel
theorem dX10_init_45 : decode cX10_init 45 = .ok (.aload_n 0, 1) := by decide +kernel
theorem dX10_init_46 : decode cX10_init 46 = .ok (.iconst 4, 1) := by decide +kernel
theorem dX10_init_47 : decode cX10_init 47 = .ok (.newarray .int, 2) := by decide +kernel
theorem dX10_init_49 : decode cX10_init 49 = .ok (.putfield 27, 3) := by decide +kernel
theorem dX10_init_52 : decode cX10_init 52 = .ok (.aload_n 0, 1) := by decide +kernel
theorem dX10_init_53 : decode cX10_init 53 = .ok (.sipush 320, 3) := by decide +kernel
theorem dX10_init_56 : decode cX10_init 56 = .ok (.newarray .int, 2) := by decide +kernel
theorem dX10_init_58 : decode cX10_init 58 = .ok (.putfield 30, 3) := by decide +kernel
theorem dX10_init_61 : decode cX10_init 61 = .ok (.aload_n 0, 1) := by decide +kernel
theorem dX10_init_62 : decode cX10_init 62 = .ok (.iconst 4, 1) := by decide +kernel
theorem dX10_init_63 : decode cX10_init 63 = .ok (.newarray .int, 2) := by decide +kernel
theorem dX10_init_65 : decode cX10_init 65 = .ok (.putfield 33, 3) := by decide +kernel
theorem dX10_init_68 : decode cX10_init 68 = .ok (.aload_n 0, 1) := by decide +kernel
theorem dX10_init_69 : decode cX10_init 69 = .ok (.bipush 8, 2) := by decide +kernel
theorem dX10_init_71 : decode cX10_init 71 = .ok (.newarray .int, 2) := by decide +kernel
theorem dX10_init_73 : decode cX10_init 73 = .ok (.putfield 36, 3) := by decide +kernel
theorem dX10_init_76 : decode cX10_init 76 = .ok (.aload_n 0, 1) := by decide +kernel
theorem dX10_init_77 : decode cX10_init 77 = .ok (.bipush 60, 2) := by decide +kernel
theorem dX10_init_79 : decode cX10_init 79 = .ok (.newarray .int, 2) := by decide +kernel
theorem dX10_init_81 : decode cX10_init 81 = .ok (.putfield 39, 3) := by decide +kernel
theorem dX10_init_84 : decode cX10_init 84 = .ok (.aload_n 0, 1) := by decide +kernel
theorem dX10_init_85 : decode cX10_init 85 = .ok (.bipush 60, 2) := by decide +kernel
theorem dX10_init_87 : decode cX10_init 87 = .ok (.newarray .int, 2) := by decide +kernel
theorem dX10_init_89 : decode cX10_init 89 = .ok (.putfield 42, 3) := by decide +kernel
theorem dX10_init_92 : decode cX10_init 92 = .ok (.aload_n 0, 1) := by decide +kernel
theorem dX10_init_93 : decode cX10_init 93 = .ok (.bipush 80, 2) := by decide +kernel
theorem dX10_init_95 : decode cX10_init 95 = .ok (.newarray .int, 2) := by decide +kernel
theorem dX10_init_97 : decode cX10_init 97 = .ok (.putfield 45, 3) := by decide +kernel
theorem dX10_init_100 : decode cX10_init 100 = .ok (.aload_n 0, 1) := by decide +kernel
theorem dX10_init_101 : decode cX10_init 101 = .ok (.bipush 10, 2) := by decide +kernel
theorem dX10_init_103 : decode cX10_init 103 = .ok (.newarray .long, 2) := by decide +kernel
theorem dX10_init_105 : decode cX10_init 105 = .ok (.putfield 48, 3) := by decide +kernel
theorem dX10_init_108 : decode cX10_init 108 = .ok (.aload_n 0, 1) := by decide +kernel
theorem dX10_init_109 : decode cX10_init 109 = .ok (.bipush 8, 2) := by decide +kernel
theorem dX10_init_111 : decode cX10_init 111 = .ok (.newarray .int, 2) := by decide +kernel
theorem dX10_init_113 : decode cX10_init 113 = .ok (.putfield 52, 3) := by decide +kernel
theorem dX10_init_116 : decode cX10_init 116 = .ok (.aload_n 0, 1) := by decide +kernel
theorem dX10_init_117 : decode cX10_init 117 = .ok (.iconst 4, 1) := by decide +kernel
theorem dX10_init_118 : decode cX10_init 118 = .ok (.newarray .int, 2) := by decide +kernel
theorem dX10_init_120 : decode cX10_init 120 = .ok (.dup, 1) := by decide +kernel
theorem dX10_init_121 : decode cX10_init 121 = .ok (.iconst 0, 1) := by decide +kernel
theorem dX10_init_122 : decode cX10_init 122 = .ok (.iconst (-1), 1) := by decide +kernel
theorem dX10_init_123 : decode cX10_init 123 = .ok (.iastore, 1) := by decide +kernel
theorem dX10_init_124 : decode cX10_init 124 = .ok (.dup, 1) := by decide +kernel
theorem dX10_init_125 : decode cX10_init 125 = .ok (.iconst 1, 1) := by decide +kernel
theorem dX10_init_126 : decode cX10_init 126 = .ok (.iconst (-1), 1) := by decide +kernel
theorem dX10_init_127 : decode cX10_init 127 = .ok (.iastore, 1) := by decide +kernel
theorem dX10_init_128 : decode cX10_init 128 = .ok (.dup, 1) := by decide +kernel
theorem dX10_init_129 : decode cX10_init 129 = .ok (.iconst 2, 1) := by decide +kernel
theorem dX10_init_130 : decode cX10_init 130 = .ok (.iconst (-1), 1) := by decide +kernel
theorem dX10_init_131 : decode cX10_init 131 = .ok (.iastore, 1) := by decide +kernel
theorem dX10_init_132 : decode cX10_init 132 = .ok (.dup, 1) := by decide +kernel
theorem dX10_init_133 : decode cX10_init 133 = .ok (.iconst 3, 1) := by decide +kernel
theorem dX10_init_134 : decode cX10_init 134 = .ok (.iconst (-1), 1) := by decide +kernel
theorem dX10_init_135 : decode cX10_init 135 = .ok (.iastore, 1) := by decide +kernel
theorem dX10_init_136 : decode cX10_init 136 = .ok (.putfield 55, 3) := by decide +kernel
theorem dX10_init_139 : decode cX10_init 139 = .ok (.aload_n 0, 1) := by decide +kernel
theorem dX10_init_140 : decode cX10_init 140 = .ok (.iconst 4, 1) := by decide +kernel
theorem dX10_init_141 : decode cX10_init 141 = .ok (.newarray .int, 2) := by decide +kernel
theorem dX10_init_143 : decode cX10_init 143 = .ok (.putfield 58, 3) := by decide +kernel
theorem dX10_init_146 : decode cX10_init 146 = .ok (.aload_n 0, 1) := by decide +kernel
theorem dX10_init_147 : decode cX10_init 147 = .ok (.sipush 240, 3) := by decide +kernel
theorem dX10_init_150 : decode cX10_init 150 = .ok (.newarray .int, 2) := by decide +kernel
theorem dX10_init_152 : decode cX10_init 152 = .ok (.putfield 61, 3) := by decide +kernel
theorem dX10_init_155 : decode cX10_init 155 = .ok (.aload_n 0, 1) := by decide +kernel
theorem dX10_init_156 : decode cX10_init 156 = .ok (.bipush 60, 2) := by decide +kernel
theorem dX10_init_158 : decode cX10_init 158 = .ok (.newarray .int, 2) := by decide +kernel
theorem dX10_init_160 : decode cX10_init 160 = .ok (.putfield 64, 3) := by decide +kernel
theorem dX10_init_163 : decode cX10_init 163 = .ok (.return_, 1) := by decide +kernel
theorem dX10_isIn_0 : decode cX10_isIn 0 = .ok (.lload_n 0, 1) := by decide +kernel
theorem dX10_isIn_1 : decode cX10_isIn 1 = .ok (.lload_n 2, 1) := by decide +kernel
theorem dX10_isIn_2 : decode cX10_isIn 2 = .ok (.lcmp, 1) := by decide +kernel
theorem dX10_isIn_3 : decode cX10_isIn 3 = .ok (.ifCond .lt 14, 3) := by decide +kernel
theorem dX10_isIn_6 : decode cX10_isIn 6 = .ok (.lload_n 0, 1) := by decide +kernel
theorem dX10_isIn_7 : decode cX10_isIn 7 = .ok (.lload 4, 2) := by decide +kernel
theorem dX10_isIn_9 : decode cX10_isIn 9 = .ok (.lcmp, 1) := by decide +kernel
theorem dX10_isIn_10 : decode cX10_isIn 10 = .ok (.ifCond .gt 7, 3) := by decide +kernel
theorem dX10_isIn_13 : decode cX10_isIn 13 = .ok (.iconst 1, 1) := by decide +kernel
theorem dX10_isIn_14 : decode cX10_isIn 14 = .ok (.goto 4, 3) := by decide +kernel
theorem dX10_isIn_17 : decode cX10_isIn 17 = .ok (.iconst 0, 1) := by decide +kernel
theorem dX10_isIn_18 : decode cX10_isIn 18 = .ok (.ireturn, 1) := by decide +kernel
set_option maxRecDepth 20000 in
theorem ggX10_isAccount_X10_isIn : GoodIn wsX10_isAccount wsX10_isIn := goodIn_r _ [5] (by decide +kernel) (by decide +kernel)
set_option maxRecDepth 20000 in
theorem gX10_isAccount_X10_isIn : GoodIn wsX10_isAccount (va_wsS RX10 67 yX10_isIn wsX10_isIn) := goodIn_app (goodIn_of _ (by decide +kernel)) ggX10_isAccount_X10_isIn
theorem dX10_isAccount_0 : decode cX10_isAccount 0 = .ok (.iload_n 1, 1) := by decide +kernel
theorem dX10_isAccount_1 : decode cX10_isAccount 1 = .ok (.i2l, 1) := by decide +kernel
theorem dX10_isAccount_2 : decode cX10_isAccount 2 = .ok (.lconst 0, 1) := by decide +kernel
theorem dX10_isAccount_3 : decode cX10_isAccount 3 = .ok (.aload_n 0, 1) := by decide +kernel
theorem dX10_isAccount_4 : decode cX10_isAccount 4 = .ok (.getfield 11, 3) := by decide +kernel
theorem dX10_isAccount_7 : decode cX10_isAccount 7 = .ok (.bipush 60, 2) := by decide +kernel
theorem dX10_isAccount_9 : decode cX10_isAccount 9 = .ok (.iaload, 1) := by decide +kernel
theorem dX10_isAccount_10 : decode cX10_isAccount 10 = .ok (.iconst 1, 1) := by decide +kernel
theorem dX10_isAccount_11 : decode cX10_isAccount 11 = .ok (.isub, 1) := by decide +kernel
theorem dX10_isAccount_12 : decode cX10_isAccount 12 = .ok (.i2l, 1) := by decide +kernel
theorem dX10_isAccount_13 : decode cX10_isAccount 13 = .ok (.invokestatic 67, 3) := by decide +kernel
theorem dX10_isAccount_16 : decode cX10_isAccount 16 = .ok (.ireturn, 1) := by decide +kernel
set_option maxRecDepth 20000 in
theorem ggX10_account_X10_isIn : GoodIn wsX10_account wsX10_isIn := goodIn_r _ [7] (by decide +kernel) (by decide +kernel)
set_option maxRecDepth 20000 in
theorem gX10_account_X10_isIn : GoodIn wsX10_account (va_wsS RX10 67 yX10_isIn wsX10_isIn) := goodIn_app (goodIn_of _ (by decide +kernel)) ggX10_account_X10_isIn
theorem dX10_account_0 : decode cX10_account 0 = .ok (.iload_n 1, 1) := by decide +kernel
theorem dX10_account_1 : decode cX10_account 1 = .ok (.i2l, 1) := by decide +kernel
theorem dX10_account_2 : decode cX10_account 2 = .ok (.lconst 0, 1) := by decide +kernel
theorem dX10_account_3 : decode cX10_account 3 = .ok (.ldc2_w 71, 3) := by decide +kernel
theorem dX10_account_6 : decode cX10_account 6 = .ok (.invokestatic 67, 3) := by decide +kernel
theorem dX10_account_9 : decode cX10_account 9 = .ok (.ifCond .eq 15, 3) := by decide +kernel
theorem dX10_account_12 : decode cX10_account 12 = .ok (.iload_n 2, 1) := by decide +kernel
theorem dX10_account_13 : decode cX10_account 13 = .ok (.i2l, 1) := by decide +kernel
theorem dX10_account_14 : decode cX10_account 14 = .ok (.lconst 0, 1) := by decide +kernel
theorem dX10_account_15 : decode cX10_account 15 = .ok (.ldc2_w 73, 3) := by decide +kernel
theorem dX10_account_18 : decode cX10_account 18 = .ok (.invokestatic 67, 3) := by decide +kernel
theorem dX10_account_21 : decode cX10_account 21 = .ok (.ifCond .ne 6, 3) := by decide +kernel
theorem dX10_account_24 : decode cX10_account 24 = .ok (.bipush (-2), 2) := by decide +kernel
theorem dX10_account_26 : decode cX10_account 26 = .ok (.ireturn, 1) := by decide +kernel
theorem dX10_account_27 : decode cX10_account 27 = .ok (.aload_n 0, 1) := by decide +kernel
theorem dX10_account_28 : decode cX10_account 28 = .ok (.getfield 11, 3) := by decide +kernel
theorem dX10_account_31 : decode cX10_account 31 = .ok (.bipush 60, 2) := by decide +kernel
theorem dX10_account_33 : decode cX10_account 33 = .ok (.iaload, 1) := by decide +kernel
theorem dX10_account_34 : decode cX10_account 34 = .ok (.bipush 8, 2) := by decide +kernel
theorem dX10_account_36 : decode cX10_account 36 = .ok (.if_icmp .ne 6, 3) := by decide +kernel
theorem dX10_account_39 : decode cX10_account 39 = .ok (.bipush (-4), 2) := by decide +kernel
theorem dX10_account_41 : decode cX10_account 41 = .ok (.ireturn, 1) := by decide +kernel
theorem dX10_account_42 : decode cX10_account 42 = .ok (.aload_n 0, 1) := by decide +kernel
theorem dX10_account_43 : decode cX10_account 43 = .ok (.getfield 11, 3) := by decide +kernel
theorem dX10_account_46 : decode cX10_account 46 = .ok (.bipush 60, 2) := by decide +kernel
theorem dX10_account_48 : decode cX10_account 48 = .ok (.iaload, 1) := by decide +kernel
theorem dX10_account_49 : decode cX10_account 49 = .ok (.istore_n 3, 1) := by decide +kernel
theorem dX10_account_50 : decode cX10_account 50 = .ok (.aload_n 0, 1) := by decide +kernel
theorem dX10_account_51 : decode cX10_account 51 = .ok (.getfield 11, 3) := by decide +kernel
theorem dX10_account_54 : decode cX10_account 54 = .ok (.iconst 0, 1) := by decide +kernel
theorem dX10_account_55 : decode cX10_account 55 = .ok (.iload_n 3, 1) := by decide +kernel
theorem dX10_account_56 : decode cX10_account 56 = .ok (.iadd, 1) := by decide +kernel
theorem dX10_account_57 : decode cX10_account 57 = .ok (.iload_n 1, 1) := by decide +kernel
theorem dX10_account_58 : decode cX10_account 58 = .ok (.iastore, 1) := by decide +kernel
theorem dX10_account_59 : decode cX10_account 59 = .ok (.aload_n 0, 1) := by decide +kernel
theorem dX10_account_60 : decode cX10_account 60 = .ok (.getfield 11, 3) := by decide +kernel
theorem dX10_account_63 : decode cX10_account 63 = .ok (.bipush 8, 2) := by decide +kernel
theorem dX10_account_65 : decode cX10_account 65 = .ok (.iload_n 3, 1) := by decide +kernel
theorem dX10_account_66 : decode cX10_account 66 = .ok (.iadd, 1) := by decide +kernel
theorem dX10_account_67 : decode cX10_account 67 = .ok (.iload_n 2, 1) := by decide +kernel
theorem dX10_account_68 : decode cX10_account 68 = .ok (.iastore, 1) := by decide +kernel
theorem dX10_account_69 : decode cX10_account 69 = .ok (.aload_n 0, 1) := by decide +kernel
theorem dX10_account_70 : decode cX10_account 70 = .ok (.getfield 11, 3) := by decide +kernel
theorem dX10_account_73 : decode cX10_account 73 = .ok (.bipush 16, 2) := by decide +kernel
theorem dX10_account_75 : decode cX10_account 75 = .ok (.iload_n 3, 1) := by decide +kernel
theorem dX10_account_76 : decode cX10_account 76 = .ok (.iadd, 1) := by decide +kernel
theorem dX10_account_77 : decode cX10_account 77 = .ok (.iconst 0, 1) := by decide +kernel
theorem dX10_account_78 : decode cX10_account 78 = .ok (.iastore, 1) := by decide +kernel
theorem dX10_account_79 : decode cX10_account 79 = .ok (.aload_n 0, 1) := by decide +kernel
theorem dX10_account_80 : decode cX10_account 80 = .ok (.getfield 11, 3) := by decide +kernel
theorem dX10_account_83 : decode cX10_account 83 = .ok (.bipush 24, 2) := by decide +kernel
theorem dX10_account_85 : decode cX10_account 85 = .ok (.iload_n 3, 1) := by decide +kernel
theorem dX10_account_86 : decode cX10_account 86 = .ok (.iadd, 1) := by decide +kernel
theorem dX10_account_87 : decode cX10_account 87 = .ok (.iconst 1, 1) := by decide +kernel
theorem dX10_account_88 : decode cX10_account 88 = .ok (.iastore, 1) := by decide +kernel
theorem dX10_account_89 : decode cX10_account 89 = .ok (.aload_n 0, 1) := by decide +kernel
theorem dX10_account_90 : decode cX10_account 90 = .ok (.getfield 11, 3) := by decide +kernel
theorem dX10_account_93 : decode cX10_account 93 = .ok (.bipush 60, 2) := by decide +kernel
theorem dX10_account_95 : decode cX10_account 95 = .ok (.dup2, 1) := by decide +kernel
theorem dX10_account_96 : decode cX10_account 96 = .ok (.iaload, 1) := by decide +kernel
theorem dX10_account_97 : decode cX10_account 97 = .ok (.iconst 1, 1) := by decide +kernel
theorem dX10_account_98 : decode cX10_account 98 = .ok (.iadd, 1) := by decide +kernel
theorem dX10_account_99 : decode cX10_account 99 = .ok (.iastore, 1) := by decide +kernel
theorem dX10_account_100 : decode cX10_account 100 = .ok (.iload_n 3, 1) := by decide +kernel
theorem dX10_account_101 : decode cX10_account 101 = .ok (.ireturn, 1) := by decide +kernel
set_option maxRecDepth 20000 in
theorem ggX10_set_X10_isAccount : GoodIn wsX10_set wsX10_isAccount := goodIn_r _ [9, 4, 10, 11, 8, 12, 13, 14, 15, 16, 17, 18, 19, 20, 21, 22, 23, 24, 25, 26, 27, 28, 29, 30, 31, 32, 33, 34, 35, 36, 37, 38, 39, 40, 41, 42, 43, 44] (by decide +kernel) (by decide +kernel)
set_option maxRecDepth 20000 in
theorem gX10_set_X10_isAccount : GoodIn wsX10_set (wsV RX10 75 RX10 yX10_isAccount wsX10_isAccount) := goodIn_app (goodIn_of _ (by decide +kernel)) ggX10_set_X10_isAccount
set_option maxRecDepth 20000 in
theorem ggX10_set_X10_isIn : GoodIn wsX10_set wsX10_isIn := goodIn_r _ [12] (by decide +kernel) (by decide +kernel)
set_option maxRecDepth 20000 in
theorem gX10_set_X10_isIn : GoodIn wsX10_set (va_wsS RX10 67 yX10_isIn wsX10_isIn) := goodIn_app (goodIn_of _ (by decide +kernel)) ggX10_set_X10_isIn
theorem dX10_set_0 : decode cX10_set 0 = .ok (.aload_n 0, 1) := by decide +kernel
theorem dX10_set_1 : decode cX10_set 1 = .ok (.iload_n 1, 1) := by decide +kernel
theorem dX10_set_2 : decode cX10_set 2 = .ok (.invokevirtual 75, 3) := by decide +kernel
theorem dX10_set_5 : decode cX10_set 5 = .ok (.ifCond .eq 35, 3) := by decide +kernel
theorem dX10_set_8 : decode cX10_set 8 = .ok (.iload_n 2, 1) := by decide +kernel
theorem dX10_set_9 : decode cX10_set 9 = .ok (.i2l, 1) := by decide +kernel
theorem dX10_set_10 : decode cX10_set 10 = .ok (.lconst 0, 1) := by decide +kernel
theorem dX10_set_11 : decode cX10_set 11 = .ok (.lconst 1, 1) := by decide +kernel
theorem dX10_set_12 : decode cX10_set 12 = .ok (.invokestatic 67, 3) := by decide +kernel
theorem dX10_set_15 : decode cX10_set 15 = .ok (.ifCond .eq 25, 3) := by decide +kernel
theorem dX10_set_18 : decode cX10_set 18 = .ok (.iload_n 3, 1) := by decide +kernel
theorem dX10_set_19 : decode cX10_set 19 = .ok (.i2l, 1) := by decide +kernel
theorem dX10_set_20 : decode cX10_set 20 = .ok (.lconst 0, 1) := by decide +kernel
theorem dX10_set_21 : decode cX10_set 21 = .ok (.iload_n 2, 1) := by decide +kernel
theorem dX10_set_22 : decode cX10_set 22 = .ok (.ifCond .ne 9, 3) := by decide +kernel
theorem dX10_set_25 : decode cX10_set 25 = .ok (.ldc2_w 73, 3) := by decide +kernel
theorem dX10_set_28 : decode cX10_set 28 = .ok (.goto 6, 3) := by decide +kernel
theorem dX10_set_31 : decode cX10_set 31 = .ok (.ldc2_w 79, 3) := by decide +kernel
theorem dX10_set_34 : decode cX10_set 34 = .ok (.invokestatic 67, 3) := by decide +kernel
theorem dX10_set_37 : decode cX10_set 37 = .ok (.ifCond .ne 7, 3) := by decide +kernel
theorem dX10_set_40 : decode cX10_set 40 = .ok (.ldc2_w 81, 3) := by decide +kernel
theorem dX10_set_43 : decode cX10_set 43 = .ok (.lreturn, 1) := by decide +kernel
theorem dX10_set_44 : decode cX10_set 44 = .ok (.iload_n 2, 1) := by decide +kernel
theorem dX10_set_45 : decode cX10_set 45 = .ok (.ifCond .ne 8, 3) := by decide +kernel
theorem dX10_set_48 : decode cX10_set 48 = .ok (.bipush 8, 2) := by decide +kernel
theorem dX10_set_50 : decode cX10_set 50 = .ok (.goto 5, 3) := by decide +kernel
theorem dX10_set_53 : decode cX10_set 53 = .ok (.bipush 16, 2) := by decide +kernel
theorem dX10_set_55 : decode cX10_set 55 = .ok (.iload_n 1, 1) := by decide +kernel
theorem dX10_set_56 : decode cX10_set 56 = .ok (.iadd, 1) := by decide +kernel
theorem dX10_set_57 : decode cX10_set 57 = .ok (.istore 4, 2) := by decide +kernel
theorem dX10_set_59 : decode cX10_set 59 = .ok (.aload_n 0, 1) := by decide +kernel
theorem dX10_set_60 : decode cX10_set 60 = .ok (.getfield 11, 3) := by decide +kernel
theorem dX10_set_63 : decode cX10_set 63 = .ok (.iload 4, 2) := by decide +kernel
theorem dX10_set_65 : decode cX10_set 65 = .ok (.iaload, 1) := by decide +kernel
theorem dX10_set_66 : decode cX10_set 66 = .ok (.istore 5, 2) := by decide +kernel
theorem dX10_set_68 : decode cX10_set 68 = .ok (.aload_n 0, 1) := by decide +kernel
theorem dX10_set_69 : decode cX10_set 69 = .ok (.getfield 11, 3) := by decide +kernel
theorem dX10_set_72 : decode cX10_set 72 = .ok (.iload 4, 2) := by decide +kernel
theorem dX10_set_74 : decode cX10_set 74 = .ok (.iload_n 3, 1) := by decide +kernel
theorem dX10_set_75 : decode cX10_set 75 = .ok (.iastore, 1) := by decide +kernel
theorem dX10_set_76 : decode cX10_set 76 = .ok (.iload 5, 2) := by decide +kernel
theorem dX10_set_78 : decode cX10_set 78 = .ok (.i2l, 1) := by decide +kernel
theorem dX10_set_79 : decode cX10_set 79 = .ok (.lreturn, 1) := by decide +kernel
set_option maxRecDepth 20000 in
theorem ggX10_gate_X10_isAccount : GoodIn wsX10_gate wsX10_isAccount := goodIn_r _ [6, 1, 7, 8, 5, 9, 10, 11, 12, 13, 14, 15, 16, 17, 18, 19, 20, 21, 22, 23, 24, 25, 26, 27, 28, 29, 30, 31, 32, 33, 34, 35, 36, 37, 38, 39, 40, 41] (by decide +kernel) (by decide +kernel)
set_option maxRecDepth 20000 in
theorem gX10_gate_X10_isAccount : GoodIn wsX10_gate (wsV RX10 75 RX10 yX10_isAccount wsX10_isAccount) := goodIn_app (goodIn_of _ (by decide +kernel)) ggX10_gate_X10_isAccount
theorem dX10_gate_0 : decode cX10_gate 0 = .ok (.aload_n 0, 1) := by decide +kernel
theorem dX10_gate_1 : decode cX10_gate 1 = .ok (.iload_n 1, 1) := by decide +kernel
theorem dX10_gate_2 : decode cX10_gate 2 = .ok (.invokevirtual 75, 3) := by decide +kernel
theorem dX10_gate_5 : decode cX10_gate 5 = .ok (.ifCond .ne 6, 3) := by decide +kernel
theorem dX10_gate_8 : decode cX10_gate 8 = .ok (.bipush (-2), 2) := by decide +kernel
theorem dX10_gate_10 : decode cX10_gate 10 = .ok (.ireturn, 1) := by decide +kernel
theorem dX10_gate_11 : decode cX10_gate 11 = .ok (.aload_n 0, 1) := by decide +kernel
theorem dX10_gate_12 : decode cX10_gate 12 = .ok (.getfield 11, 3) := by decide +kernel
theorem dX10_gate_15 : decode cX10_gate 15 = .ok (.bipush 24, 2) := by decide +kernel
theorem dX10_gate_17 : decode cX10_gate 17 = .ok (.iload_n 1, 1) := by decide +kernel
theorem dX10_gate_18 : decode cX10_gate 18 = .ok (.iadd, 1) := by decide +kernel
theorem dX10_gate_19 : decode cX10_gate 19 = .ok (.iaload, 1) := by decide +kernel
theorem dX10_gate_20 : decode cX10_gate 20 = .ok (.istore_n 3, 1) := by decide +kernel
theorem dX10_gate_21 : decode cX10_gate 21 = .ok (.aload_n 0, 1) := by decide +kernel
theorem dX10_gate_22 : decode cX10_gate 22 = .ok (.getfield 11, 3) := by decide +kernel
theorem dX10_gate_25 : decode cX10_gate 25 = .ok (.bipush 24, 2) := by decide +kernel
theorem dX10_gate_27 : decode cX10_gate 27 = .ok (.iload_n 1, 1) := by decide +kernel
theorem dX10_gate_28 : decode cX10_gate 28 = .ok (.iadd, 1) := by decide +kernel
theorem dX10_gate_29 : decode cX10_gate 29 = .ok (.iload_n 2, 1) := by decide +kernel
theorem dX10_gate_30 : decode cX10_gate 30 = .ok (.ifCond .eq 7, 3) := by decide +kernel
theorem dX10_gate_33 : decode cX10_gate 33 = .ok (.iconst 1, 1) := by decide +kernel
theorem dX10_gate_34 : decode cX10_gate 34 = .ok (.goto 4, 3) := by decide +kernel
theorem dX10_gate_37 : decode cX10_gate 37 = .ok (.iconst 0, 1) := by decide +kernel
theorem dX10_gate_38 : decode cX10_gate 38 = .ok (.iastore, 1) := by decide +kernel
theorem dX10_gate_39 : decode cX10_gate 39 = .ok (.iload_n 3, 1) := by decide +kernel
theorem dX10_gate_40 : decode cX10_gate 40 = .ok (.ireturn, 1) := by decide +kernel
theorem dX10_feeOf_0 : decode cX10_feeOf 0 = .ok (.aload_n 0, 1) := by decide +kernel
theorem dX10_feeOf_1 : decode cX10_feeOf 1 = .ok (.getfield 11, 3) := by decide +kernel
theorem dX10_feeOf_4 : decode cX10_feeOf 4 = .ok (.iconst 0, 1) := by decide +kernel
theorem dX10_feeOf_5 : decode cX10_feeOf 5 = .ok (.iload_n 1, 1) := by decide +kernel
theorem dX10_feeOf_6 : decode cX10_feeOf 6 = .ok (.iadd, 1) := by decide +kernel
theorem dX10_feeOf_7 : decode cX10_feeOf 7 = .ok (.iaload, 1) := by decide +kernel
theorem dX10_feeOf_8 : decode cX10_feeOf 8 = .ok (.istore_n 3, 1) := by decide +kernel
theorem dX10_feeOf_9 : decode cX10_feeOf 9 = .ok (.iload_n 3, 1) := by decide +kernel
theorem dX10_feeOf_10 : decode cX10_feeOf 10 = .ok (.iconst 1, 1) := by decide +kernel
theorem dX10_feeOf_11 : decode cX10_feeOf 11 = .ok (.if_icmp .ne 7, 3) := by decide +kernel
theorem dX10_feeOf_14 : decode cX10_feeOf 14 = .ok (.iconst 1, 1) := by decide +kernel
theorem dX10_feeOf_15 : decode cX10_feeOf 15 = .ok (.goto 18, 3) := by decide +kernel
theorem dX10_feeOf_18 : decode cX10_feeOf 18 = .ok (.iload_n 3, 1) := by decide +kernel
theorem dX10_feeOf_19 : decode cX10_feeOf 19 = .ok (.iconst 4, 1) := by decide +kernel
theorem dX10_feeOf_20 : decode cX10_feeOf 20 = .ok (.if_icmp .ne 12, 3) := by decide +kernel
theorem dX10_feeOf_23 : decode cX10_feeOf 23 = .ok (.iconst 1, 1) := by decide +kernel
theorem dX10_feeOf_24 : decode cX10_feeOf 24 = .ok (.iload_n 2, 1) := by decide +kernel
theorem dX10_feeOf_25 : decode cX10_feeOf 25 = .ok (.bipush 10, 2) := by decide +kernel
theorem dX10_feeOf_27 : decode cX10_feeOf 27 = .ok (.idiv, 1) := by decide +kernel
theorem dX10_feeOf_28 : decode cX10_feeOf 28 = .ok (.iadd, 1) := by decide +kernel
theorem dX10_feeOf_29 : decode cX10_feeOf 29 = .ok (.goto 4, 3) := by decide +kernel
theorem dX10_feeOf_32 : decode cX10_feeOf 32 = .ok (.iconst 0, 1) := by decide +kernel
theorem dX10_feeOf_33 : decode cX10_feeOf 33 = .ok (.ireturn, 1) := by decide +kernel
theorem dX10_floorOf_0 : decode cX10_floorOf 0 = .ok (.aload_n 0, 1) := by decide +kernel
theorem dX10_floorOf_1 : decode cX10_floorOf 1 = .ok (.getfield 11, 3) := by decide +kernel
theorem dX10_floorOf_4 : decode cX10_floorOf 4 = .ok (.iconst 0, 1) := by decide +kernel
theorem dX10_floorOf_5 : decode cX10_floorOf 5 = .ok (.iload_n 1, 1) := by decide +kernel
theorem dX10_floorOf_6 : decode cX10_floorOf 6 = .ok (.iadd, 1) := by decide +kernel
theorem dX10_floorOf_7 : decode cX10_floorOf 7 = .ok (.iaload, 1) := by decide +kernel
theorem dX10_floorOf_8 : decode cX10_floorOf 8 = .ok (.tableswitch 55 1 3 #[28, 31, 42], 28) := by decide +kernel
theorem dX10_floorOf_36 : decode cX10_floorOf 36 = .ok (.bipush 10, 2) := by decide +kernel
theorem dX10_floorOf_38 : decode cX10_floorOf 38 = .ok (.ireturn, 1) := by decide +kernel
theorem dX10_floorOf_39 : decode cX10_floorOf 39 = .ok (.aload_n 0, 1) := by decide +kernel
theorem dX10_floorOf_40 : decode cX10_floorOf 40 = .ok (.getfield 11, 3) := by decide +kernel
theorem dX10_floorOf_43 : decode cX10_floorOf 43 = .ok (.bipush 16, 2) := by decide +kernel
theorem dX10_floorOf_45 : decode cX10_floorOf 45 = .ok (.iload_n 1, 1) := by decide +kernel
theorem dX10_floorOf_46 : decode cX10_floorOf 46 = .ok (.iadd, 1) := by decide +kernel
theorem dX10_floorOf_47 : decode cX10_floorOf 47 = .ok (.iaload, 1) := by decide +kernel
theorem dX10_floorOf_48 : decode cX10_floorOf 48 = .ok (.ineg, 1) := by decide +kernel
theorem dX10_floorOf_49 : decode cX10_floorOf 49 = .ok (.ireturn, 1) := by decide +kernel
theorem dX10_floorOf_50 : decode cX10_floorOf 50 = .ok (.bipush (-2), 2) := by decide +kernel
theorem dX10_floorOf_52 : decode cX10_floorOf 52 = .ok (.aload_n 0, 1) := by decide +kernel
theorem dX10_floorOf_53 : decode cX10_floorOf 53 = .ok (.getfield 11, 3) := by decide +kernel
theorem dX10_floorOf_56 : decode cX10_floorOf 56 = .ok (.bipush 16, 2) := by decide +kernel
theorem dX10_floorOf_58 : decode cX10_floorOf 58 = .ok (.iload_n 1, 1) := by decide +kernel
theorem dX10_floorOf_59 : decode cX10_floorOf 59 = .ok (.iadd, 1) := by decide +kernel
theorem dX10_floorOf_60 : decode cX10_floorOf 60 = .ok (.iaload, 1) := by decide +kernel
theorem dX10_floorOf_61 : decode cX10_floorOf 61 = .ok (.imul, 1) := by decide +kernel
theorem dX10_floorOf_62 : decode cX10_floorOf 62 = .ok (.ireturn, 1) := by decide +kernel
theorem dX10_floorOf_63 : decode cX10_floorOf 63 = .ok (.iconst 0, 1) := by decide +kernel
theorem dX10_floorOf_64 : decode cX10_floorOf 64 = .ok (.ireturn, 1) := by decide +kernel
set_option maxRecDepth 20000 in
theorem ggX10_told_X10_isAccount : GoodIn wsX10_told wsX10_isAccount := goodIn_r _ [6, 1, 7, 8, 5, 9, 14, 15, 16, 17, 18, 19, 20, 21, 22, 23, 24, 25, 26, 27, 28, 29, 30, 31, 32, 33, 34, 35, 36, 37, 38, 39, 40, 41, 42, 43, 44, 45] (by decide +kernel) (by decide +kernel)
set_option maxRecDepth 20000 in
theorem gX10_told_X10_isAccount : GoodIn wsX10_told (wsV RX10 75 RX10 yX10_isAccount wsX10_isAccount) := goodIn_app (goodIn_of _ (by decide +kernel)) ggX10_told_X10_isAccount
set_option maxRecDepth 20000 in
theorem ggX10_told_X10_feeOf : GoodIn wsX10_told wsX10_feeOf := goodIn_r _ [13, 1, 14, 15, 16, 17, 18, 19, 20, 21, 22, 23, 24, 25, 26, 27, 28, 29, 30, 31, 32, 33, 34, 35, 36, 37, 38, 39, 40, 41, 42, 43, 44, 45] (by decide +kernel) (by decide +kernel)
set_option maxRecDepth 20000 in
theorem gX10_told_X10_feeOf : GoodIn wsX10_told (wsV RX10 83 RX10 yX10_feeOf wsX10_feeOf) := goodIn_app (goodIn_of _ (by decide +kernel)) ggX10_told_X10_feeOf
theorem dX10_told_0 : decode cX10_told 0 = .ok (.aload_n 0, 1) := by decide +kernel
theorem dX10_told_1 : decode cX10_told 1 = .ok (.iload_n 1, 1) := by decide +kernel
theorem dX10_told_2 : decode cX10_told 2 = .ok (.invokevirtual 75, 3) := by decide +kernel
theorem dX10_told_5 : decode cX10_told 5 = .ok (.ifCond .ne 6, 3) := by decide +kernel
theorem dX10_told_8 : decode cX10_told 8 = .ok (.bipush (-2), 2) := by decide +kernel
theorem dX10_told_10 : decode cX10_told 10 = .ok (.ireturn, 1) := by decide +kernel
theorem dX10_told_11 : decode cX10_told 11 = .ok (.iload_n 2, 1) := by decide +kernel
theorem dX10_told_12 : decode cX10_told 12 = .ok (.tableswitch 111 0 6 #[44, 53, 63, 73, 83, 93, 103], 44) := by decide +kernel
theorem dX10_told_56 : decode cX10_told 56 = .ok (.aload_n 0, 1) := by decide +kernel
theorem dX10_told_57 : decode cX10_told 57 = .ok (.getfield 11, 3) := by decide +kernel
theorem dX10_told_60 : decode cX10_told 60 = .ok (.iconst 0, 1) := by decide +kernel
theorem dX10_told_61 : decode cX10_told 61 = .ok (.iload_n 1, 1) := by decide +kernel
theorem dX10_told_62 : decode cX10_told 62 = .ok (.iadd, 1) := by decide +kernel
theorem dX10_told_63 : decode cX10_told 63 = .ok (.iaload, 1) := by decide +kernel
theorem dX10_told_64 : decode cX10_told 64 = .ok (.ireturn, 1) := by decide +kernel
theorem dX10_told_65 : decode cX10_told 65 = .ok (.aload_n 0, 1) := by decide +kernel
theorem dX10_told_66 : decode cX10_told 66 = .ok (.getfield 11, 3) := by decide +kernel
theorem dX10_told_69 : decode cX10_told 69 = .ok (.bipush 16, 2) := by decide +kernel
theorem dX10_told_71 : decode cX10_told 71 = .ok (.iload_n 1, 1) := by decide +kernel
theorem dX10_told_72 : decode cX10_told 72 = .ok (.iadd, 1) := by decide +kernel
theorem dX10_told_73 : decode cX10_told 73 = .ok (.iaload, 1) := by decide +kernel
theorem dX10_told_74 : decode cX10_told 74 = .ok (.ireturn, 1) := by decide +kernel
theorem dX10_told_75 : decode cX10_told 75 = .ok (.aload_n 0, 1) := by decide +kernel
theorem dX10_told_76 : decode cX10_told 76 = .ok (.getfield 11, 3) := by decide +kernel
theorem dX10_told_79 : decode cX10_told 79 = .ok (.bipush 24, 2) := by decide +kernel
theorem dX10_told_81 : decode cX10_told 81 = .ok (.iload_n 1, 1) := by decide +kernel
theorem dX10_told_82 : decode cX10_told 82 = .ok (.iadd, 1) := by decide +kernel
theorem dX10_told_83 : decode cX10_told 83 = .ok (.iaload, 1) := by decide +kernel
theorem dX10_told_84 : decode cX10_told 84 = .ok (.ireturn, 1) := by decide +kernel
theorem dX10_told_85 : decode cX10_told 85 = .ok (.aload_n 0, 1) := by decide +kernel
theorem dX10_told_86 : decode cX10_told 86 = .ok (.getfield 11, 3) := by decide +kernel
theorem dX10_told_89 : decode cX10_told 89 = .ok (.bipush 32, 2) := by decide +kernel
theorem dX10_told_91 : decode cX10_told 91 = .ok (.iload_n 1, 1) := by decide +kernel
theorem dX10_told_92 : decode cX10_told 92 = .ok (.iadd, 1) := by decide +kernel
theorem dX10_told_93 : decode cX10_told 93 = .ok (.iaload, 1) := by decide +kernel
theorem dX10_told_94 : decode cX10_told 94 = .ok (.ireturn, 1) := by decide +kernel
theorem dX10_told_95 : decode cX10_told 95 = .ok (.aload_n 0, 1) := by decide +kernel
theorem dX10_told_96 : decode cX10_told 96 = .ok (.getfield 11, 3) := by decide +kernel
theorem dX10_told_99 : decode cX10_told 99 = .ok (.bipush 40, 2) := by decide +kernel
theorem dX10_told_101 : decode cX10_told 101 = .ok (.iload_n 1, 1) := by decide +kernel
theorem dX10_told_102 : decode cX10_told 102 = .ok (.iadd, 1) := by decide +kernel
theorem dX10_told_103 : decode cX10_told 103 = .ok (.iaload, 1) := by decide +kernel
theorem dX10_told_104 : decode cX10_told 104 = .ok (.ireturn, 1) := by decide +kernel
theorem dX10_told_105 : decode cX10_told 105 = .ok (.aload_n 0, 1) := by decide +kernel
theorem dX10_told_106 : decode cX10_told 106 = .ok (.getfield 11, 3) := by decide +kernel
theorem dX10_told_109 : decode cX10_told 109 = .ok (.bipush 48, 2) := by decide +kernel
theorem dX10_told_111 : decode cX10_told 111 = .ok (.iload_n 1, 1) := by decide +kernel
theorem dX10_told_112 : decode cX10_told 112 = .ok (.iadd, 1) := by decide +kernel
theorem dX10_told_113 : decode cX10_told 113 = .ok (.iaload, 1) := by decide +kernel
theorem dX10_told_114 : decode cX10_told 114 = .ok (.ireturn, 1) := by decide +kernel
theorem dX10_told_115 : decode cX10_told 115 = .ok (.aload_n 0, 1) := by decide +kernel
theorem dX10_told_116 : decode cX10_told 116 = .ok (.iload_n 1, 1) := by decide +kernel
theorem dX10_told_117 : decode cX10_told 117 = .ok (.bipush 100, 2) := by decide +kernel
theorem dX10_told_119 : decode cX10_told 119 = .ok (.invokevirtual 83, 3) := by decide +kernel
theorem dX10_told_122 : decode cX10_told 122 = .ok (.ireturn, 1) := by decide +kernel
theorem dX10_told_123 : decode cX10_told 123 = .ok (.bipush (-2), 2) := by decide +kernel
theorem dX10_told_125 : decode cX10_told 125 = .ok (.ireturn, 1) := by decide +kernel
theorem dX10_owedTo_0 : decode cX10_owedTo 0 = .ok (.aload_n 0, 1) := by decide +kernel
theorem dX10_owedTo_1 : decode cX10_owedTo 1 = .ok (.getfield 11, 3) := by decide +kernel
theorem dX10_owedTo_4 : decode cX10_owedTo 4 = .ok (.bipush 61, 2) := by decide +kernel
theorem dX10_owedTo_6 : decode cX10_owedTo 6 = .ok (.bipush 8, 2) := by decide +kernel
theorem dX10_owedTo_8 : decode cX10_owedTo 8 = .ok (.iload_n 1, 1) := by decide +kernel
theorem dX10_owedTo_9 : decode cX10_owedTo 9 = .ok (.imul, 1) := by decide +kernel
theorem dX10_owedTo_10 : decode cX10_owedTo 10 = .ok (.iadd, 1) := by decide +kernel
theorem dX10_owedTo_11 : decode cX10_owedTo 11 = .ok (.iload_n 2, 1) := by decide +kernel
theorem dX10_owedTo_12 : decode cX10_owedTo 12 = .ok (.iadd, 1) := by decide +kernel
theorem dX10_owedTo_13 : decode cX10_owedTo 13 = .ok (.iaload, 1) := by decide +kernel
theorem dX10_owedTo_14 : decode cX10_owedTo 14 = .ok (.ireturn, 1) := by decide +kernel
set_option maxRecDepth 20000 in
theorem ggX10_positionOf_X10_owedTo : GoodIn wsX10_positionOf wsX10_owedTo := goodIn_r _ [6, 1, 7, 8, 9, 10, 11, 12, 13, 14, 15, 16, 17, 18, 19, 20, 21, 22, 23, 24, 25, 26, 27, 28, 29, 30, 31, 32, 33, 34, 35, 36, 37, 38] (by decide +kernel) (by decide +kernel)
set_option maxRecDepth 20000 in
theorem gX10_positionOf_X10_owedTo : GoodIn wsX10_positionOf (wsV RX10 87 RX10 yX10_owedTo wsX10_owedTo) := goodIn_app (goodIn_of _ (by decide +kernel)) ggX10_positionOf_X10_owedTo
theorem dX10_positionOf_0 : decode cX10_positionOf 0 = .ok (.lconst 0, 1) := by decide +kernel
theorem dX10_positionOf_1 : decode cX10_positionOf 1 = .ok (.lstore_n 2, 1) := by decide +kernel
theorem dX10_positionOf_2 : decode cX10_positionOf 2 = .ok (.iconst 0, 1) := by decide +kernel
theorem dX10_positionOf_3 : decode cX10_positionOf 3 = .ok (.istore 4, 2) := by decide +kernel
theorem dX10_positionOf_5 : decode cX10_positionOf 5 = .ok (.iload 4, 2) := by decide +kernel
theorem dX10_positionOf_7 : decode cX10_positionOf 7 = .ok (.aload_n 0, 1) := by decide +kernel
theorem dX10_positionOf_8 : decode cX10_positionOf 8 = .ok (.getfield 11, 3) := by decide +kernel
theorem dX10_positionOf_11 : decode cX10_positionOf 11 = .ok (.bipush 60, 2) := by decide +kernel
theorem dX10_positionOf_13 : decode cX10_positionOf 13 = .ok (.iaload, 1) := by decide +kernel
theorem dX10_positionOf_14 : decode cX10_positionOf 14 = .ok (.if_icmp .ge 28, 3) := by decide +kernel
theorem dX10_positionOf_17 : decode cX10_positionOf 17 = .ok (.lload_n 2, 1) := by decide +kernel
theorem dX10_positionOf_18 : decode cX10_positionOf 18 = .ok (.aload_n 0, 1) := by decide +kernel
theorem dX10_positionOf_19 : decode cX10_positionOf 19 = .ok (.iload 4, 2) := by decide +kernel
theorem dX10_positionOf_21 : decode cX10_positionOf 21 = .ok (.iload_n 1, 1) := by decide +kernel
theorem dX10_positionOf_22 : decode cX10_positionOf 22 = .ok (.invokevirtual 87, 3) := by decide +kernel
theorem dX10_positionOf_25 : decode cX10_positionOf 25 = .ok (.aload_n 0, 1) := by decide +kernel
theorem dX10_positionOf_26 : decode cX10_positionOf 26 = .ok (.iload_n 1, 1) := by decide +kernel
theorem dX10_positionOf_27 : decode cX10_positionOf 27 = .ok (.iload 4, 2) := by decide +kernel
theorem dX10_positionOf_29 : decode cX10_positionOf 29 = .ok (.invokevirtual 87, 3) := by decide +kernel
theorem dX10_positionOf_32 : decode cX10_positionOf 32 = .ok (.isub, 1) := by decide +kernel
theorem dX10_positionOf_33 : decode cX10_positionOf 33 = .ok (.i2l, 1) := by decide +kernel
theorem dX10_positionOf_34 : decode cX10_positionOf 34 = .ok (.ladd, 1) := by decide +kernel
theorem dX10_positionOf_35 : decode cX10_positionOf 35 = .ok (.lstore_n 2, 1) := by decide +kernel
theorem dX10_positionOf_36 : decode cX10_positionOf 36 = .ok (.iinc 4 1, 3) := by decide +kernel
theorem dX10_positionOf_39 : decode cX10_positionOf 39 = .ok (.goto (-34), 3) := by decide +kernel
theorem dX10_positionOf_42 : decode cX10_positionOf 42 = .ok (.lload_n 2, 1) := by decide +kernel
theorem dX10_positionOf_43 : decode cX10_positionOf 43 = .ok (.lreturn, 1) := by decide +kernel
set_option maxRecDepth 20000 in
theorem ggX10_of_X10_isAccount : GoodIn wsX10_of wsX10_isAccount := goodIn_r _ [8, 3, 9, 10, 7, 11, 24, 25, 26, 27, 28, 29, 30, 31, 32, 33, 34, 35, 36, 37, 38, 39, 40, 41, 42, 43, 44, 45, 46, 47, 48, 49, 50, 51, 52, 53, 54, 55] (by decide +kernel) (by decide +kernel)
set_option maxRecDepth 20000 in
theorem gX10_of_X10_isAccount : GoodIn wsX10_of (wsV RX10 75 RX10 yX10_isAccount wsX10_isAccount) := goodIn_app (goodIn_of _ (by decide +kernel)) ggX10_of_X10_isAccount
set_option maxRecDepth 20000 in
theorem ggX10_of_X10_isIn : GoodIn wsX10_of wsX10_isIn := goodIn_r _ [11] (by decide +kernel) (by decide +kernel)
set_option maxRecDepth 20000 in
theorem gX10_of_X10_isIn : GoodIn wsX10_of (va_wsS RX10 67 yX10_isIn wsX10_isIn) := goodIn_app (goodIn_of _ (by decide +kernel)) ggX10_of_X10_isIn
set_option maxRecDepth 20000 in
theorem ggX10_of_X10_floorOf : GoodIn wsX10_of wsX10_floorOf := goodIn_r _ [15, 3, 24, 25, 26, 27, 28, 29, 30, 31, 32, 33, 34, 35, 36, 37, 38, 39, 40, 41, 42, 43, 44, 45, 46, 47, 48, 49, 50, 51, 52, 53, 54, 55] (by decide +kernel) (by decide +kernel)
set_option maxRecDepth 20000 in
theorem gX10_of_X10_floorOf : GoodIn wsX10_of (wsV RX10 92 RX10 yX10_floorOf wsX10_floorOf) := goodIn_app (goodIn_of _ (by decide +kernel)) ggX10_of_X10_floorOf
set_option maxRecDepth 20000 in
theorem ggX10_of_X10_positionOf : GoodIn wsX10_of wsX10_positionOf := goodIn_r _ [19, 3, 20, 21, 22, 7, 23, 24, 25, 26, 27, 28, 29, 30, 31, 32, 33, 34, 35, 36, 37, 38, 39, 40, 41, 42, 43, 44, 45, 46, 47, 48, 49, 50, 51, 52, 53, 54, 55] (by decide +kernel) (by decide +kernel)
set_option maxRecDepth 20000 in
theorem gX10_of_X10_positionOf : GoodIn wsX10_of (wsV RX10 96 RX10 yX10_positionOf wsX10_positionOf) := goodIn_app (goodIn_of _ (by decide +kernel)) ggX10_of_X10_positionOf
theorem dX10_of_0 : decode cX10_of 0 = .ok (.aload_n 0, 1) := by decide +kernel
theorem dX10_of_1 : decode cX10_of 1 = .ok (.iload_n 1, 1) := by decide +kernel
theorem dX10_of_2 : decode cX10_of 2 = .ok (.invokevirtual 75, 3) := by decide +kernel
theorem dX10_of_5 : decode cX10_of 5 = .ok (.ifCond .eq 15, 3) := by decide +kernel
theorem dX10_of_8 : decode cX10_of 8 = .ok (.iload_n 2, 1) := by decide +kernel
theorem dX10_of_9 : decode cX10_of 9 = .ok (.i2l, 1) := by decide +kernel
theorem dX10_of_10 : decode cX10_of 10 = .ok (.lconst 0, 1) := by decide +kernel
theorem dX10_of_11 : decode cX10_of 11 = .ok (.ldc2_w 90, 3) := by decide +kernel
theorem dX10_of_14 : decode cX10_of 14 = .ok (.invokestatic 67, 3) := by decide +kernel
theorem dX10_of_17 : decode cX10_of 17 = .ok (.ifCond .ne 7, 3) := by decide +kernel
theorem dX10_of_20 : decode cX10_of 20 = .ok (.ldc2_w 81, 3) := by decide +kernel
theorem dX10_of_23 : decode cX10_of 23 = .ok (.lreturn, 1) := by decide +kernel
theorem dX10_of_24 : decode cX10_of 24 = .ok (.iload_n 2, 1) := by decide +kernel
theorem dX10_of_25 : decode cX10_of 25 = .ok (.ifCond .ne 16, 3) := by decide +kernel
theorem dX10_of_28 : decode cX10_of 28 = .ok (.aload_n 0, 1) := by decide +kernel
theorem dX10_of_29 : decode cX10_of 29 = .ok (.getfield 11, 3) := by decide +kernel
theorem dX10_of_32 : decode cX10_of 32 = .ok (.bipush 8, 2) := by decide +kernel
theorem dX10_of_34 : decode cX10_of 34 = .ok (.iload_n 1, 1) := by decide +kernel
theorem dX10_of_35 : decode cX10_of 35 = .ok (.iadd, 1) := by decide +kernel
theorem dX10_of_36 : decode cX10_of 36 = .ok (.iaload, 1) := by decide +kernel
theorem dX10_of_37 : decode cX10_of 37 = .ok (.i2l, 1) := by decide +kernel
theorem dX10_of_38 : decode cX10_of 38 = .ok (.goto 22, 3) := by decide +kernel
theorem dX10_of_41 : decode cX10_of 41 = .ok (.iload_n 2, 1) := by decide +kernel
theorem dX10_of_42 : decode cX10_of 42 = .ok (.iconst 1, 1) := by decide +kernel
theorem dX10_of_43 : decode cX10_of 43 = .ok (.if_icmp .ne 12, 3) := by decide +kernel
theorem dX10_of_46 : decode cX10_of 46 = .ok (.aload_n 0, 1) := by decide +kernel
theorem dX10_of_47 : decode cX10_of 47 = .ok (.iload_n 1, 1) := by decide +kernel
theorem dX10_of_48 : decode cX10_of 48 = .ok (.invokevirtual 92, 3) := by decide +kernel
theorem dX10_of_51 : decode cX10_of 51 = .ok (.i2l, 1) := by decide +kernel
theorem dX10_of_52 : decode cX10_of 52 = .ok (.goto 8, 3) := by decide +kernel
theorem dX10_of_55 : decode cX10_of 55 = .ok (.aload_n 0, 1) := by decide +kernel
theorem dX10_of_56 : decode cX10_of 56 = .ok (.iload_n 1, 1) := by decide +kernel
theorem dX10_of_57 : decode cX10_of 57 = .ok (.invokevirtual 96, 3) := by decide +kernel
theorem dX10_of_60 : decode cX10_of 60 = .ok (.lreturn, 1) := by decide +kernel
theorem dX10_count_0 : decode cX10_count 0 = .ok (.iload_n 1, 1) := by decide +kernel
theorem dX10_count_1 : decode cX10_count 1 = .ok (.tableswitch 102 0 7 #[47, 55, 60, 68, 76, 84, 92, 97], 47) := by decide +kernel
theorem dX10_count_48 : decode cX10_count 48 = .ok (.aload_n 0, 1) := by decide +kernel
theorem dX10_count_49 : decode cX10_count 49 = .ok (.getfield 11, 3) := by decide +kernel
theorem dX10_count_52 : decode cX10_count 52 = .ok (.bipush 60, 2) := by decide +kernel
theorem dX10_count_54 : decode cX10_count 54 = .ok (.iaload, 1) := by decide +kernel
theorem dX10_count_55 : decode cX10_count 55 = .ok (.ireturn, 1) := by decide +kernel
theorem dX10_count_56 : decode cX10_count 56 = .ok (.aload_n 0, 1) := by decide +kernel
theorem dX10_count_57 : decode cX10_count 57 = .ok (.getfield 100, 3) := by decide +kernel
theorem dX10_count_60 : decode cX10_count 60 = .ok (.ireturn, 1) := by decide +kernel
theorem dX10_count_61 : decode cX10_count 61 = .ok (.aload_n 0, 1) := by decide +kernel
theorem dX10_count_62 : decode cX10_count 62 = .ok (.getfield 11, 3) := by decide +kernel
theorem dX10_count_65 : decode cX10_count 65 = .ok (.bipush 56, 2) := by decide +kernel
theorem dX10_count_67 : decode cX10_count 67 = .ok (.iaload, 1) := by decide +kernel
theorem dX10_count_68 : decode cX10_count 68 = .ok (.ireturn, 1) := by decide +kernel
theorem dX10_count_69 : decode cX10_count 69 = .ok (.aload_n 0, 1) := by decide +kernel
theorem dX10_count_70 : decode cX10_count 70 = .ok (.getfield 11, 3) := by decide +kernel
theorem dX10_count_73 : decode cX10_count 73 = .ok (.bipush 57, 2) := by decide +kernel
theorem dX10_count_75 : decode cX10_count 75 = .ok (.iaload, 1) := by decide +kernel
theorem dX10_count_76 : decode cX10_count 76 = .ok (.ireturn, 1) := by decide +kernel
theorem dX10_count_77 : decode cX10_count 77 = .ok (.aload_n 0, 1) := by decide +kernel
theorem dX10_count_78 : decode cX10_count 78 = .ok (.getfield 11, 3) := by decide +kernel
theorem dX10_count_81 : decode cX10_count 81 = .ok (.bipush 58, 2) := by decide +kernel
theorem dX10_count_83 : decode cX10_count 83 = .ok (.iaload, 1) := by decide +kernel
theorem dX10_count_84 : decode cX10_count 84 = .ok (.ireturn, 1) := by decide +kernel
theorem dX10_count_85 : decode cX10_count 85 = .ok (.aload_n 0, 1) := by decide +kernel
theorem dX10_count_86 : decode cX10_count 86 = .ok (.getfield 11, 3) := by decide +kernel
theorem dX10_count_89 : decode cX10_count 89 = .ok (.bipush 59, 2) := by decide +kernel
theorem dX10_count_91 : decode cX10_count 91 = .ok (.iaload, 1) := by decide +kernel
theorem dX10_count_92 : decode cX10_count 92 = .ok (.ireturn, 1) := by decide +kernel
theorem dX10_count_93 : decode cX10_count 93 = .ok (.aload_n 0, 1) := by decide +kernel
theorem dX10_count_94 : decode cX10_count 94 = .ok (.getfield 104, 3) := by decide +kernel
theorem dX10_count_97 : decode cX10_count 97 = .ok (.ireturn, 1) := by decide +kernel
theorem dX10_count_98 : decode cX10_count 98 = .ok (.aload_n 0, 1) := by decide +kernel
theorem dX10_count_99 : decode cX10_count 99 = .ok (.getfield 107, 3) := by decide +kernel
theorem dX10_count_102 : decode cX10_count 102 = .ok (.ireturn, 1) := by decide +kernel
theorem dX10_count_103 : decode cX10_count 103 = .ok (.bipush (-2), 2) := by decide +kernel
theorem dX10_count_105 : decode cX10_count 105 = .ok (.ireturn, 1) := by decide +kernel
set_option maxRecDepth 20000 in
theorem ggX10_sum_X10_isIn : GoodIn wsX10_sum wsX10_isIn := goodIn_r _ [8] (by decide +kernel) (by decide +kernel)
set_option maxRecDepth 20000 in
theorem gX10_sum_X10_isIn : GoodIn wsX10_sum (va_wsS RX10 67 yX10_isIn wsX10_isIn) := goodIn_app (goodIn_of _ (by decide +kernel)) ggX10_sum_X10_isIn
theorem dX10_sum_0 : decode cX10_sum 0 = .ok (.iload_n 1, 1) := by decide +kernel
theorem dX10_sum_1 : decode cX10_sum 1 = .ok (.i2l, 1) := by decide +kernel
theorem dX10_sum_2 : decode cX10_sum 2 = .ok (.lconst 0, 1) := by decide +kernel
theorem dX10_sum_3 : decode cX10_sum 3 = .ok (.ldc2_w 90, 3) := by decide +kernel
theorem dX10_sum_6 : decode cX10_sum 6 = .ok (.invokestatic 67, 3) := by decide +kernel
theorem dX10_sum_9 : decode cX10_sum 9 = .ok (.ifCond .ne 7, 3) := by decide +kernel
theorem dX10_sum_12 : decode cX10_sum 12 = .ok (.ldc2_w 81, 3) := by decide +kernel
theorem dX10_sum_15 : decode cX10_sum 15 = .ok (.lreturn, 1) := by decide +kernel
theorem dX10_sum_16 : decode cX10_sum 16 = .ok (.iload_n 1, 1) := by decide +kernel
theorem dX10_sum_17 : decode cX10_sum 17 = .ok (.iconst 2, 1) := by decide +kernel
theorem dX10_sum_18 : decode cX10_sum 18 = .ok (.if_icmp .ne 7, 3) := by decide +kernel
theorem dX10_sum_21 : decode cX10_sum 21 = .ok (.lconst 0, 1) := by decide +kernel
theorem dX10_sum_22 : decode cX10_sum 22 = .ok (.goto 7, 3) := by decide +kernel
theorem dX10_sum_25 : decode cX10_sum 25 = .ok (.aload_n 0, 1) := by decide +kernel
theorem dX10_sum_26 : decode cX10_sum 26 = .ok (.getfield 110, 3) := by decide +kernel
theorem dX10_sum_29 : decode cX10_sum 29 = .ok (.lstore_n 2, 1) := by decide +kernel
theorem dX10_sum_30 : decode cX10_sum 30 = .ok (.iconst 0, 1) := by decide +kernel
theorem dX10_sum_31 : decode cX10_sum 31 = .ok (.istore 4, 2) := by decide +kernel
theorem dX10_sum_33 : decode cX10_sum 33 = .ok (.iload 4, 2) := by decide +kernel
theorem dX10_sum_35 : decode cX10_sum 35 = .ok (.aload_n 0, 1) := by decide +kernel
theorem dX10_sum_36 : decode cX10_sum 36 = .ok (.getfield 11, 3) := by decide +kernel
theorem dX10_sum_39 : decode cX10_sum 39 = .ok (.bipush 60, 2) := by decide +kernel
theorem dX10_sum_41 : decode cX10_sum 41 = .ok (.iaload, 1) := by decide +kernel
theorem dX10_sum_42 : decode cX10_sum 42 = .ok (.if_icmp .ge 28, 3) := by decide +kernel
theorem dX10_sum_45 : decode cX10_sum 45 = .ok (.iload_n 1, 1) := by decide +kernel
theorem dX10_sum_46 : decode cX10_sum 46 = .ok (.iconst 1, 1) := by decide +kernel
theorem dX10_sum_47 : decode cX10_sum 47 = .ok (.if_icmp .ne 23, 3) := by decide +kernel
theorem dX10_sum_50 : decode cX10_sum 50 = .ok (.lload_n 2, 1) := by decide +kernel
theorem dX10_sum_51 : decode cX10_sum 51 = .ok (.aload_n 0, 1) := by decide +kernel
theorem dX10_sum_52 : decode cX10_sum 52 = .ok (.getfield 11, 3) := by decide +kernel
theorem dX10_sum_55 : decode cX10_sum 55 = .ok (.bipush 8, 2) := by decide +kernel
theorem dX10_sum_57 : decode cX10_sum 57 = .ok (.iload 4, 2) := by decide +kernel
theorem dX10_sum_59 : decode cX10_sum 59 = .ok (.iadd, 1) := by decide +kernel
theorem dX10_sum_60 : decode cX10_sum 60 = .ok (.iaload, 1) := by decide +kernel
theorem dX10_sum_61 : decode cX10_sum 61 = .ok (.i2l, 1) := by decide +kernel
theorem dX10_sum_62 : decode cX10_sum 62 = .ok (.ladd, 1) := by decide +kernel
theorem dX10_sum_63 : decode cX10_sum 63 = .ok (.lstore_n 2, 1) := by decide +kernel
theorem dX10_sum_64 : decode cX10_sum 64 = .ok (.iinc 4 1, 3) := by decide +kernel
theorem dX10_sum_67 : decode cX10_sum 67 = .ok (.goto (-34), 3) := by decide +kernel
theorem dX10_sum_70 : decode cX10_sum 70 = .ok (.iconst 0, 1) := by decide +kernel
theorem dX10_sum_71 : decode cX10_sum 71 = .ok (.istore 4, 2) := by decide +kernel
theorem dX10_sum_73 : decode cX10_sum 73 = .ok (.iload 4, 2) := by decide +kernel
theorem dX10_sum_75 : decode cX10_sum 75 = .ok (.bipush 64, 2) := by decide +kernel
theorem dX10_sum_77 : decode cX10_sum 77 = .ok (.if_icmp .ge 28, 3) := by decide +kernel
theorem dX10_sum_80 : decode cX10_sum 80 = .ok (.iload_n 1, 1) := by decide +kernel
theorem dX10_sum_81 : decode cX10_sum 81 = .ok (.iconst 2, 1) := by decide +kernel
theorem dX10_sum_82 : decode cX10_sum 82 = .ok (.if_icmp .ne 23, 3) := by decide +kernel
theorem dX10_sum_85 : decode cX10_sum 85 = .ok (.lload_n 2, 1) := by decide +kernel
theorem dX10_sum_86 : decode cX10_sum 86 = .ok (.aload_n 0, 1) := by decide +kernel
theorem dX10_sum_87 : decode cX10_sum 87 = .ok (.getfield 11, 3) := by decide +kernel
theorem dX10_sum_90 : decode cX10_sum 90 = .ok (.bipush 61, 2) := by decide +kernel
theorem dX10_sum_92 : decode cX10_sum 92 = .ok (.iload 4, 2) := by decide +kernel
theorem dX10_sum_94 : decode cX10_sum 94 = .ok (.iadd, 1) := by decide +kernel
theorem dX10_sum_95 : decode cX10_sum 95 = .ok (.iaload, 1) := by decide +kernel
theorem dX10_sum_96 : decode cX10_sum 96 = .ok (.i2l, 1) := by decide +kernel
theorem dX10_sum_97 : decode cX10_sum 97 = .ok (.ladd, 1) := by decide +kernel
theorem dX10_sum_98 : decode cX10_sum 98 = .ok (.lstore_n 2, 1) := by decide +kernel
theorem dX10_sum_99 : decode cX10_sum 99 = .ok (.iinc 4 1, 3) := by decide +kernel
theorem dX10_sum_102 : decode cX10_sum 102 = .ok (.goto (-29), 3) := by decide +kernel
theorem dX10_sum_105 : decode cX10_sum 105 = .ok (.lload_n 2, 1) := by decide +kernel
theorem dX10_sum_106 : decode cX10_sum 106 = .ok (.lreturn, 1) := by decide +kernel
theorem dX10_above_0 : decode cX10_above 0 = .ok (.iload_n 0, 1) := by decide +kernel
theorem dX10_above_1 : decode cX10_above 1 = .ok (.iconst 3, 1) := by decide +kernel
theorem dX10_above_2 : decode cX10_above 2 = .ok (.if_icmp .ne 7, 3) := by decide +kernel
theorem dX10_above_5 : decode cX10_above 5 = .ok (.iconst 2, 1) := by decide +kernel
theorem dX10_above_6 : decode cX10_above 6 = .ok (.goto 13, 3) := by decide +kernel
theorem dX10_above_9 : decode cX10_above 9 = .ok (.iload_n 0, 1) := by decide +kernel
theorem dX10_above_10 : decode cX10_above 10 = .ok (.iconst 4, 1) := by decide +kernel
theorem dX10_above_11 : decode cX10_above 11 = .ok (.if_icmp .ne 7, 3) := by decide +kernel
theorem dX10_above_14 : decode cX10_above 14 = .ok (.iconst 1, 1) := by decide +kernel
theorem dX10_above_15 : decode cX10_above 15 = .ok (.goto 4, 3) := by decide +kernel
theorem dX10_above_18 : decode cX10_above 18 = .ok (.iconst 0, 1) := by decide +kernel
theorem dX10_above_19 : decode cX10_above 19 = .ok (.ireturn, 1) := by decide +kernel
set_option maxRecDepth 20000 in
theorem ggX10_taken_X10_isAccount : GoodIn wsX10_taken wsX10_isAccount := goodIn_r _ [7, 2, 8, 9, 6, 10, 14, 15, 16, 17, 18, 19, 20, 21, 22, 23, 24, 25, 26, 27, 28, 29, 30, 31, 32, 33, 34, 35, 36, 37, 38, 39, 40, 41, 42, 43, 44, 45] (by decide +kernel) (by decide +kernel)
set_option maxRecDepth 20000 in
theorem gX10_taken_X10_isAccount : GoodIn wsX10_taken (wsV RX10 75 RX10 yX10_isAccount wsX10_isAccount) := goodIn_app (goodIn_of _ (by decide +kernel)) ggX10_taken_X10_isAccount
set_option maxRecDepth 20000 in
theorem ggX10_taken_X10_isIn : GoodIn wsX10_taken wsX10_isIn := goodIn_r _ [10] (by decide +kernel) (by decide +kernel)
set_option maxRecDepth 20000 in
theorem gX10_taken_X10_isIn : GoodIn wsX10_taken (va_wsS RX10 67 yX10_isIn wsX10_isIn) := goodIn_app (goodIn_of _ (by decide +kernel)) ggX10_taken_X10_isIn
set_option maxRecDepth 20000 in
theorem ggX10_taken_X10_above : GoodIn wsX10_taken wsX10_above := goodIn_r _ [13] (by decide +kernel) (by decide +kernel)
set_option maxRecDepth 20000 in
theorem gX10_taken_X10_above : GoodIn wsX10_taken (va_wsS RX10 114 yX10_above wsX10_above) := goodIn_app (goodIn_of _ (by decide +kernel)) ggX10_taken_X10_above
theorem dX10_taken_0 : decode cX10_taken 0 = .ok (.aload_n 0, 1) := by decide +kernel
theorem dX10_taken_1 : decode cX10_taken 1 = .ok (.iload_n 1, 1) := by decide +kernel
theorem dX10_taken_2 : decode cX10_taken 2 = .ok (.invokevirtual 75, 3) := by decide +kernel
theorem dX10_taken_5 : decode cX10_taken 5 = .ok (.ifCond .eq 15, 3) := by decide +kernel
theorem dX10_taken_8 : decode cX10_taken 8 = .ok (.iload_n 2, 1) := by decide +kernel
theorem dX10_taken_9 : decode cX10_taken 9 = .ok (.i2l, 1) := by decide +kernel
theorem dX10_taken_10 : decode cX10_taken 10 = .ok (.lconst 0, 1) := by decide +kernel
theorem dX10_taken_11 : decode cX10_taken 11 = .ok (.ldc2_w 71, 3) := by decide +kernel
theorem dX10_taken_14 : decode cX10_taken 14 = .ok (.invokestatic 67, 3) := by decide +kernel
theorem dX10_taken_17 : decode cX10_taken 17 = .ok (.ifCond .ne 6, 3) := by decide +kernel
theorem dX10_taken_20 : decode cX10_taken 20 = .ok (.bipush (-2), 2) := by decide +kernel
theorem dX10_taken_22 : decode cX10_taken 22 = .ok (.ireturn, 1) := by decide +kernel
theorem dX10_taken_23 : decode cX10_taken 23 = .ok (.aload_n 0, 1) := by decide +kernel
theorem dX10_taken_24 : decode cX10_taken 24 = .ok (.getfield 11, 3) := by decide +kernel
theorem dX10_taken_27 : decode cX10_taken 27 = .ok (.iconst 0, 1) := by decide +kernel
theorem dX10_taken_28 : decode cX10_taken 28 = .ok (.iload_n 1, 1) := by decide +kernel
theorem dX10_taken_29 : decode cX10_taken 29 = .ok (.iadd, 1) := by decide +kernel
theorem dX10_taken_30 : decode cX10_taken 30 = .ok (.iaload, 1) := by decide +kernel
theorem dX10_taken_31 : decode cX10_taken 31 = .ok (.istore_n 3, 1) := by decide +kernel
theorem dX10_taken_32 : decode cX10_taken 32 = .ok (.iload_n 3, 1) := by decide +kernel
theorem dX10_taken_33 : decode cX10_taken 33 = .ok (.iload_n 2, 1) := by decide +kernel
theorem dX10_taken_34 : decode cX10_taken 34 = .ok (.if_icmp .eq 15, 3) := by decide +kernel
theorem dX10_taken_37 : decode cX10_taken 37 = .ok (.iload_n 3, 1) := by decide +kernel
theorem dX10_taken_38 : decode cX10_taken 38 = .ok (.ifCond .eq 11, 3) := by decide +kernel
theorem dX10_taken_41 : decode cX10_taken 41 = .ok (.iload_n 3, 1) := by decide +kernel
theorem dX10_taken_42 : decode cX10_taken 42 = .ok (.invokestatic 114, 3) := by decide +kernel
theorem dX10_taken_45 : decode cX10_taken 45 = .ok (.istore_n 3, 1) := by decide +kernel
theorem dX10_taken_46 : decode cX10_taken 46 = .ok (.goto (-14), 3) := by decide +kernel
theorem dX10_taken_49 : decode cX10_taken 49 = .ok (.iload_n 3, 1) := by decide +kernel
theorem dX10_taken_50 : decode cX10_taken 50 = .ok (.iload_n 2, 1) := by decide +kernel
theorem dX10_taken_51 : decode cX10_taken 51 = .ok (.if_icmp .ne 15, 3) := by decide +kernel
theorem dX10_taken_54 : decode cX10_taken 54 = .ok (.aload_n 0, 1) := by decide +kernel
theorem dX10_taken_55 : decode cX10_taken 55 = .ok (.getfield 11, 3) := by decide +kernel
theorem dX10_taken_58 : decode cX10_taken 58 = .ok (.bipush 16, 2) := by decide +kernel
theorem dX10_taken_60 : decode cX10_taken 60 = .ok (.iload_n 1, 1) := by decide +kernel
theorem dX10_taken_61 : decode cX10_taken 61 = .ok (.iadd, 1) := by decide +kernel
theorem dX10_taken_62 : decode cX10_taken 62 = .ok (.iaload, 1) := by decide +kernel
theorem dX10_taken_63 : decode cX10_taken 63 = .ok (.goto 5, 3) := by decide +kernel
