theorem ggX12_doesGo_X12_isSeen : GoodIn wsX12_doesGo wsX12_isSeen := gga_of 1340 rfl rfl rfl
theorem gX12_doesGo_X12_isSeen : GoodIn wsX12_doesGo (wsV RX12 174 RX12 yX12_isSeen wsX12_isSeen) := goodIn_app (ggh_of [1337, 1339, 41, 72] rfl rfl rfl) ggX12_doesGo_X12_isSeen
theorem ggX12_doesGo_X12_rowsOf : GoodIn wsX12_doesGo wsX12_rowsOf := gga_of 1370 rfl rfl rfl
theorem gX12_doesGo_X12_rowsOf : GoodIn wsX12_doesGo (va_wsS RX12 53 yX12_rowsOf wsX12_rowsOf) := goodIn_app (ggh_of [1368, 1369, 72] rfl rfl rfl) ggX12_doesGo_X12_rowsOf
theorem ggX12_doesGo_X12_isThatSide : GoodIn wsX12_doesGo wsX12_isThatSide := gga_of 1373 rfl rfl rfl
theorem gX12_doesGo_X12_isThatSide : GoodIn wsX12_doesGo (va_wsS RX12 183 yX12_isThatSide wsX12_isThatSide) := goodIn_app (ggh_of [1371, 1372, 72] rfl rfl rfl) ggX12_doesGo_X12_isThatSide
theorem ggX12_doesGo_X12_columnsOf : GoodIn wsX12_doesGo wsX12_columnsOf := gga_of 1376 rfl rfl rfl
theorem gX12_doesGo_X12_columnsOf : GoodIn wsX12_doesGo (va_wsS RX12 56 yX12_columnsOf wsX12_columnsOf) := goodIn_app (ggh_of [1374, 1375, 72] rfl rfl rfl) ggX12_doesGo_X12_columnsOf
theorem ggX12_looksForGoings_X12_doesGo : GoodIn wsX12_looksForGoings wsX12_doesGo := gga_of 1367 rfl rfl rfl
theorem gX12_looksForGoings_X12_doesGo : GoodIn wsX12_looksForGoings (wsV RX12 186 RX12 yX12_doesGo wsX12_doesGo) := goodIn_app (ggh_of [1364, 1366, 44, 72] rfl rfl rfl) ggX12_looksForGoings_X12_doesGo
theorem ggX12_stepsBut_X12_spread : GoodIn wsX12_stepsBut wsX12_spread := gga_of 1384 rfl rfl rfl
theorem gX12_stepsBut_X12_spread : GoodIn wsX12_stepsBut (wsV RX12 189 RX12 yX12_spread wsX12_spread) := goodIn_app (ggh_of [1381, 1383, 46, 72] rfl rfl rfl) ggX12_stepsBut_X12_spread
theorem ggX12_stepsOf_X12_looksForGoings : GoodIn wsX12_stepsOf wsX12_looksForGoings := gga_of 1363 rfl rfl rfl
theorem gX12_stepsOf_X12_looksForGoings : GoodIn wsX12_stepsOf (wsV RX12 192 RX12 yX12_looksForGoings wsX12_looksForGoings) := goodIn_app (ggh_of [1360, 1362, 43, 72] rfl rfl rfl) ggX12_stepsOf_X12_looksForGoings
theorem ggX12_stepsOf_X12_stepsBut : GoodIn wsX12_stepsOf wsX12_stepsBut := gga_of 1380 rfl rfl rfl
theorem gX12_stepsOf_X12_stepsBut : GoodIn wsX12_stepsOf (wsV RX12 195 RX12 yX12_stepsBut wsX12_stepsBut) := goodIn_app (ggh_of [1377, 1379, 45, 72] rfl rfl rfl) ggX12_stepsOf_X12_stepsBut
theorem ggX12_steps_X12_isHeap : GoodIn wsX12_steps wsX12_isHeap := gga_of 1320 rfl rfl rfl
theorem gX12_steps_X12_isHeap : GoodIn wsX12_steps (wsV RX12 164 RX12 yX12_isHeap wsX12_isHeap) := goodIn_app (ggh_of [1317, 1319, 37, 72] rfl rfl rfl) ggX12_steps_X12_isHeap
theorem ggX12_steps_X12_stepsOf : GoodIn wsX12_steps wsX12_stepsOf := gga_of 1359 rfl rfl rfl
theorem gX12_steps_X12_stepsOf : GoodIn wsX12_steps (wsV RX12 198 RX12 yX12_stepsOf wsX12_stepsOf) := goodIn_app (ggh_of [1356, 1358, 42, 72] rfl rfl rfl) ggX12_steps_X12_stepsOf
theorem ggX12_via_X12_isHeap : GoodIn wsX12_via wsX12_isHeap := gga_of 1320 rfl rfl rfl
theorem gX12_via_X12_isHeap : GoodIn wsX12_via (wsV RX12 164 RX12 yX12_isHeap wsX12_isHeap) := goodIn_app (ggh_of [1317, 1319, 37, 72] rfl rfl rfl) ggX12_via_X12_isHeap
theorem ggX12_via_X12_stepsOf : GoodIn wsX12_via wsX12_stepsOf := gga_of 1359 rfl rfl rfl
theorem gX12_via_X12_stepsOf : GoodIn wsX12_via (wsV RX12 198 RX12 yX12_stepsOf wsX12_stepsOf) := goodIn_app (ggh_of [1356, 1358, 42, 72] rfl rfl rfl) ggX12_via_X12_stepsOf
theorem ggX12_via_X12_stepsBut : GoodIn wsX12_via wsX12_stepsBut := gga_of 1380 rfl rfl rfl
theorem gX12_via_X12_stepsBut : GoodIn wsX12_via (wsV RX12 195 RX12 yX12_stepsBut wsX12_stepsBut) := goodIn_app (ggh_of [1377, 1379, 45, 72] rfl rfl rfl) ggX12_via_X12_stepsBut
theorem ggX12_cuts_X12_isHeap : GoodIn wsX12_cuts wsX12_isHeap := gga_of 1320 rfl rfl rfl
theorem gX12_cuts_X12_isHeap : GoodIn wsX12_cuts (wsV RX12 164 RX12 yX12_isHeap wsX12_isHeap) := goodIn_app (ggh_of [1317, 1319, 37, 72] rfl rfl rfl) ggX12_cuts_X12_isHeap
theorem ggX12_cuts_X12_stepsOf : GoodIn wsX12_cuts wsX12_stepsOf := gga_of 1359 rfl rfl rfl
theorem gX12_cuts_X12_stepsOf : GoodIn wsX12_cuts (wsV RX12 198 RX12 yX12_stepsOf wsX12_stepsOf) := goodIn_app (ggh_of [1356, 1358, 42, 72] rfl rfl rfl) ggX12_cuts_X12_stepsOf
theorem ggX12_cuts_X12_stepsBut : GoodIn wsX12_cuts wsX12_stepsBut := gga_of 1380 rfl rfl rfl
theorem gX12_cuts_X12_stepsBut : GoodIn wsX12_cuts (wsV RX12 195 RX12 yX12_stepsBut wsX12_stepsBut) := goodIn_app (ggh_of [1377, 1379, 45, 72] rfl rfl rfl) ggX12_cuts_X12_stepsBut
noncomputable def dk07ref3_cX12_doesGo_0 : List (Nat × Instr × Nat) := [(0, .aload_n 0, 1), (1, .getfield 9, 3), (4, .bipush 10, 2), (6, .iload_n 1, 1), (7, .iadd, 1), (8, .iaload, 1), (9, .istore_n 3, 1), (10, .iload_n 1, 1), (11, .iload_n 2, 1), (12, .if_icmp .eq 31, 3), (43, .iconst 0, 1), (44, .ireturn, 1), (15, .iload_n 3, 1), (16, .iconst 3, 1), (17, .if_icmp .eq 26, 3), (20, .iload_n 3, 1), (21, .bipush 6, 2), (23, .if_icmp .eq 20, 3), (26, .aload_n 0, 1), (27, .iload_n 2, 1), (28, .aload_n 0, 1), (29, .getfield 9, 3), (32, .bipush 28, 2), (34, .iload_n 1, 1), (35, .iadd, 1), (36, .iaload, 1), (37, .invokevirtual 174, 3), (40, .ifCond .ne 5, 3), (45, .aload_n 0, 1), (46, .getfield 9, 3), (49, .bipush 19, 2), (51, .iload_n 1, 1), (52, .iadd, 1), (53, .iaload, 1), (54, .bipush 8, 2), (56, .irem, 1), (57, .istore 4, 2), (59, .aload_n 0, 1), (60, .getfield 9, 3), (63, .bipush 28, 2)]
set_option maxRecDepth 100000 in
theorem dk07ref3_cX12_doesGo_0_a : dkA cX12_doesGo dk07ref3_cX12_doesGo_0 = true := by decide +kernel
theorem dX12_doesGo_0 : decode cX12_doesGo 0 = .ok (.aload_n 0, 1) := dkAt dk07ref3_cX12_doesGo_0_a 0 rfl
theorem dX12_doesGo_1 : decode cX12_doesGo 1 = .ok (.getfield 9, 3) := dkAt dk07ref3_cX12_doesGo_0_a 1 rfl
theorem dX12_doesGo_4 : decode cX12_doesGo 4 = .ok (.bipush 10, 2) := dkAt dk07ref3_cX12_doesGo_0_a 2 rfl
theorem dX12_doesGo_6 : decode cX12_doesGo 6 = .ok (.iload_n 1, 1) := dkAt dk07ref3_cX12_doesGo_0_a 3 rfl
theorem dX12_doesGo_7 : decode cX12_doesGo 7 = .ok (.iadd, 1) := dkAt dk07ref3_cX12_doesGo_0_a 4 rfl
theorem dX12_doesGo_8 : decode cX12_doesGo 8 = .ok (.iaload, 1) := dkAt dk07ref3_cX12_doesGo_0_a 5 rfl
theorem dX12_doesGo_9 : decode cX12_doesGo 9 = .ok (.istore_n 3, 1) := dkAt dk07ref3_cX12_doesGo_0_a 6 rfl
theorem dX12_doesGo_10 : decode cX12_doesGo 10 = .ok (.iload_n 1, 1) := dkAt dk07ref3_cX12_doesGo_0_a 7 rfl
theorem dX12_doesGo_11 : decode cX12_doesGo 11 = .ok (.iload_n 2, 1) := dkAt dk07ref3_cX12_doesGo_0_a 8 rfl
theorem dX12_doesGo_12 : decode cX12_doesGo 12 = .ok (.if_icmp .eq 31, 3) := dkAt dk07ref3_cX12_doesGo_0_a 9 rfl
theorem dX12_doesGo_43 : decode cX12_doesGo 43 = .ok (.iconst 0, 1) := dkAt dk07ref3_cX12_doesGo_0_a 10 rfl
theorem dX12_doesGo_44 : decode cX12_doesGo 44 = .ok (.ireturn, 1) := dkAt dk07ref3_cX12_doesGo_0_a 11 rfl
theorem dX12_doesGo_15 : decode cX12_doesGo 15 = .ok (.iload_n 3, 1) := dkAt dk07ref3_cX12_doesGo_0_a 12 rfl
theorem dX12_doesGo_16 : decode cX12_doesGo 16 = .ok (.iconst 3, 1) := dkAt dk07ref3_cX12_doesGo_0_a 13 rfl
theorem dX12_doesGo_17 : decode cX12_doesGo 17 = .ok (.if_icmp .eq 26, 3) := dkAt dk07ref3_cX12_doesGo_0_a 14 rfl
theorem dX12_doesGo_20 : decode cX12_doesGo 20 = .ok (.iload_n 3, 1) := dkAt dk07ref3_cX12_doesGo_0_a 15 rfl
theorem dX12_doesGo_21 : decode cX12_doesGo 21 = .ok (.bipush 6, 2) := dkAt dk07ref3_cX12_doesGo_0_a 16 rfl
theorem dX12_doesGo_23 : decode cX12_doesGo 23 = .ok (.if_icmp .eq 20, 3) := dkAt dk07ref3_cX12_doesGo_0_a 17 rfl
theorem dX12_doesGo_26 : decode cX12_doesGo 26 = .ok (.aload_n 0, 1) := dkAt dk07ref3_cX12_doesGo_0_a 18 rfl
theorem dX12_doesGo_27 : decode cX12_doesGo 27 = .ok (.iload_n 2, 1) := dkAt dk07ref3_cX12_doesGo_0_a 19 rfl
theorem dX12_doesGo_28 : decode cX12_doesGo 28 = .ok (.aload_n 0, 1) := dkAt dk07ref3_cX12_doesGo_0_a 20 rfl
theorem dX12_doesGo_29 : decode cX12_doesGo 29 = .ok (.getfield 9, 3) := dkAt dk07ref3_cX12_doesGo_0_a 21 rfl
theorem dX12_doesGo_32 : decode cX12_doesGo 32 = .ok (.bipush 28, 2) := dkAt dk07ref3_cX12_doesGo_0_a 22 rfl
theorem dX12_doesGo_34 : decode cX12_doesGo 34 = .ok (.iload_n 1, 1) := dkAt dk07ref3_cX12_doesGo_0_a 23 rfl
theorem dX12_doesGo_35 : decode cX12_doesGo 35 = .ok (.iadd, 1) := dkAt dk07ref3_cX12_doesGo_0_a 24 rfl
theorem dX12_doesGo_36 : decode cX12_doesGo 36 = .ok (.iaload, 1) := dkAt dk07ref3_cX12_doesGo_0_a 25 rfl
theorem dX12_doesGo_37 : decode cX12_doesGo 37 = .ok (.invokevirtual 174, 3) := dkAt dk07ref3_cX12_doesGo_0_a 26 rfl
theorem dX12_doesGo_40 : decode cX12_doesGo 40 = .ok (.ifCond .ne 5, 3) := dkAt dk07ref3_cX12_doesGo_0_a 27 rfl
theorem dX12_doesGo_45 : decode cX12_doesGo 45 = .ok (.aload_n 0, 1) := dkAt dk07ref3_cX12_doesGo_0_a 28 rfl
theorem dX12_doesGo_46 : decode cX12_doesGo 46 = .ok (.getfield 9, 3) := dkAt dk07ref3_cX12_doesGo_0_a 29 rfl
theorem dX12_doesGo_49 : decode cX12_doesGo 49 = .ok (.bipush 19, 2) := dkAt dk07ref3_cX12_doesGo_0_a 30 rfl
theorem dX12_doesGo_51 : decode cX12_doesGo 51 = .ok (.iload_n 1, 1) := dkAt dk07ref3_cX12_doesGo_0_a 31 rfl
theorem dX12_doesGo_52 : decode cX12_doesGo 52 = .ok (.iadd, 1) := dkAt dk07ref3_cX12_doesGo_0_a 32 rfl
theorem dX12_doesGo_53 : decode cX12_doesGo 53 = .ok (.iaload, 1) := dkAt dk07ref3_cX12_doesGo_0_a 33 rfl
theorem dX12_doesGo_54 : decode cX12_doesGo 54 = .ok (.bipush 8, 2) := dkAt dk07ref3_cX12_doesGo_0_a 34 rfl
theorem dX12_doesGo_56 : decode cX12_doesGo 56 = .ok (.irem, 1) := dkAt dk07ref3_cX12_doesGo_0_a 35 rfl
theorem dX12_doesGo_57 : decode cX12_doesGo 57 = .ok (.istore 4, 2) := dkAt dk07ref3_cX12_doesGo_0_a 36 rfl
theorem dX12_doesGo_59 : decode cX12_doesGo 59 = .ok (.aload_n 0, 1) := dkAt dk07ref3_cX12_doesGo_0_a 37 rfl
theorem dX12_doesGo_60 : decode cX12_doesGo 60 = .ok (.getfield 9, 3) := dkAt dk07ref3_cX12_doesGo_0_a 38 rfl
theorem dX12_doesGo_63 : decode cX12_doesGo 63 = .ok (.bipush 28, 2) := dkAt dk07ref3_cX12_doesGo_0_a 39 rfl
noncomputable def dk07ref3_cX12_doesGo_40 : List (Nat × Instr × Nat) := [(65, .iload_n 1, 1), (66, .iadd, 1), (67, .iaload, 1), (68, .istore 5, 2), (70, .aload_n 0, 1), (71, .getfield 9, 3), (74, .bipush 28, 2), (76, .iload_n 2, 1), (77, .iadd, 1), (78, .iaload, 1), (79, .istore 6, 2), (81, .iload_n 3, 1), (82, .iconst 4, 1), (83, .if_icmp .ne 45, 3), (128, .iconst 1, 1), (129, .goto 4, 3), (133, .ireturn, 1), (86, .iload 4, 2), (88, .invokestatic 53, 3), (91, .iload 5, 2), (93, .bipush 6, 2), (95, .idiv, 1), (96, .iload 6, 2), (98, .bipush 6, 2), (100, .idiv, 1), (101, .invokestatic 183, 3), (104, .ifCond .eq 28, 3), (107, .iload 4, 2), (109, .invokestatic 56, 3), (112, .iload 5, 2), (114, .bipush 6, 2), (116, .irem, 1), (117, .iload 6, 2), (119, .bipush 6, 2), (121, .irem, 1), (122, .invokestatic 183, 3), (125, .ifCond .eq 7, 3), (132, .iconst 0, 1)]
set_option maxRecDepth 100000 in
theorem dk07ref3_cX12_doesGo_40_a : dkA cX12_doesGo dk07ref3_cX12_doesGo_40 = true := by decide +kernel
theorem dX12_doesGo_65 : decode cX12_doesGo 65 = .ok (.iload_n 1, 1) := dkAt dk07ref3_cX12_doesGo_40_a 0 rfl
theorem dX12_doesGo_66 : decode cX12_doesGo 66 = .ok (.iadd, 1) := dkAt dk07ref3_cX12_doesGo_40_a 1 rfl
theorem dX12_doesGo_67 : decode cX12_doesGo 67 = .ok (.iaload, 1) := dkAt dk07ref3_cX12_doesGo_40_a 2 rfl
theorem dX12_doesGo_68 : decode cX12_doesGo 68 = .ok (.istore 5, 2) := dkAt dk07ref3_cX12_doesGo_40_a 3 rfl
theorem dX12_doesGo_70 : decode cX12_doesGo 70 = .ok (.aload_n 0, 1) := dkAt dk07ref3_cX12_doesGo_40_a 4 rfl
theorem dX12_doesGo_71 : decode cX12_doesGo 71 = .ok (.getfield 9, 3) := dkAt dk07ref3_cX12_doesGo_40_a 5 rfl
theorem dX12_doesGo_74 : decode cX12_doesGo 74 = .ok (.bipush 28, 2) := dkAt dk07ref3_cX12_doesGo_40_a 6 rfl
theorem dX12_doesGo_76 : decode cX12_doesGo 76 = .ok (.iload_n 2, 1) := dkAt dk07ref3_cX12_doesGo_40_a 7 rfl
theorem dX12_doesGo_77 : decode cX12_doesGo 77 = .ok (.iadd, 1) := dkAt dk07ref3_cX12_doesGo_40_a 8 rfl
theorem dX12_doesGo_78 : decode cX12_doesGo 78 = .ok (.iaload, 1) := dkAt dk07ref3_cX12_doesGo_40_a 9 rfl
theorem dX12_doesGo_79 : decode cX12_doesGo 79 = .ok (.istore 6, 2) := dkAt dk07ref3_cX12_doesGo_40_a 10 rfl
theorem dX12_doesGo_81 : decode cX12_doesGo 81 = .ok (.iload_n 3, 1) := dkAt dk07ref3_cX12_doesGo_40_a 11 rfl
theorem dX12_doesGo_82 : decode cX12_doesGo 82 = .ok (.iconst 4, 1) := dkAt dk07ref3_cX12_doesGo_40_a 12 rfl
theorem dX12_doesGo_83 : decode cX12_doesGo 83 = .ok (.if_icmp .ne 45, 3) := dkAt dk07ref3_cX12_doesGo_40_a 13 rfl
theorem dX12_doesGo_128 : decode cX12_doesGo 128 = .ok (.iconst 1, 1) := dkAt dk07ref3_cX12_doesGo_40_a 14 rfl
theorem dX12_doesGo_129 : decode cX12_doesGo 129 = .ok (.goto 4, 3) := dkAt dk07ref3_cX12_doesGo_40_a 15 rfl
theorem dX12_doesGo_133 : decode cX12_doesGo 133 = .ok (.ireturn, 1) := dkAt dk07ref3_cX12_doesGo_40_a 16 rfl
theorem dX12_doesGo_86 : decode cX12_doesGo 86 = .ok (.iload 4, 2) := dkAt dk07ref3_cX12_doesGo_40_a 17 rfl
theorem dX12_doesGo_88 : decode cX12_doesGo 88 = .ok (.invokestatic 53, 3) := dkAt dk07ref3_cX12_doesGo_40_a 18 rfl
theorem dX12_doesGo_91 : decode cX12_doesGo 91 = .ok (.iload 5, 2) := dkAt dk07ref3_cX12_doesGo_40_a 19 rfl
theorem dX12_doesGo_93 : decode cX12_doesGo 93 = .ok (.bipush 6, 2) := dkAt dk07ref3_cX12_doesGo_40_a 20 rfl
theorem dX12_doesGo_95 : decode cX12_doesGo 95 = .ok (.idiv, 1) := dkAt dk07ref3_cX12_doesGo_40_a 21 rfl
theorem dX12_doesGo_96 : decode cX12_doesGo 96 = .ok (.iload 6, 2) := dkAt dk07ref3_cX12_doesGo_40_a 22 rfl
theorem dX12_doesGo_98 : decode cX12_doesGo 98 = .ok (.bipush 6, 2) := dkAt dk07ref3_cX12_doesGo_40_a 23 rfl
theorem dX12_doesGo_100 : decode cX12_doesGo 100 = .ok (.idiv, 1) := dkAt dk07ref3_cX12_doesGo_40_a 24 rfl
theorem dX12_doesGo_101 : decode cX12_doesGo 101 = .ok (.invokestatic 183, 3) := dkAt dk07ref3_cX12_doesGo_40_a 25 rfl
theorem dX12_doesGo_104 : decode cX12_doesGo 104 = .ok (.ifCond .eq 28, 3) := dkAt dk07ref3_cX12_doesGo_40_a 26 rfl
theorem dX12_doesGo_107 : decode cX12_doesGo 107 = .ok (.iload 4, 2) := dkAt dk07ref3_cX12_doesGo_40_a 27 rfl
theorem dX12_doesGo_109 : decode cX12_doesGo 109 = .ok (.invokestatic 56, 3) := dkAt dk07ref3_cX12_doesGo_40_a 28 rfl
theorem dX12_doesGo_112 : decode cX12_doesGo 112 = .ok (.iload 5, 2) := dkAt dk07ref3_cX12_doesGo_40_a 29 rfl
theorem dX12_doesGo_114 : decode cX12_doesGo 114 = .ok (.bipush 6, 2) := dkAt dk07ref3_cX12_doesGo_40_a 30 rfl
theorem dX12_doesGo_116 : decode cX12_doesGo 116 = .ok (.irem, 1) := dkAt dk07ref3_cX12_doesGo_40_a 31 rfl
theorem dX12_doesGo_117 : decode cX12_doesGo 117 = .ok (.iload 6, 2) := dkAt dk07ref3_cX12_doesGo_40_a 32 rfl
theorem dX12_doesGo_119 : decode cX12_doesGo 119 = .ok (.bipush 6, 2) := dkAt dk07ref3_cX12_doesGo_40_a 33 rfl
theorem dX12_doesGo_121 : decode cX12_doesGo 121 = .ok (.irem, 1) := dkAt dk07ref3_cX12_doesGo_40_a 34 rfl
theorem dX12_doesGo_122 : decode cX12_doesGo 122 = .ok (.invokestatic 183, 3) := dkAt dk07ref3_cX12_doesGo_40_a 35 rfl
theorem dX12_doesGo_125 : decode cX12_doesGo 125 = .ok (.ifCond .eq 7, 3) := dkAt dk07ref3_cX12_doesGo_40_a 36 rfl
theorem dX12_doesGo_132 : decode cX12_doesGo 132 = .ok (.iconst 0, 1) := dkAt dk07ref3_cX12_doesGo_40_a 37 rfl
noncomputable def dk07ref3_cX12_looksForGoings_0 : List (Nat × Instr × Nat) := [(0, .iconst 0, 1), (1, .istore_n 1, 1), (2, .iload_n 1, 1), (3, .aload_n 0, 1), (4, .getfield 9, 3), (7, .iconst 0, 1), (8, .iaload, 1), (9, .if_icmp .ge 59, 3), (68, .return_, 1), (12, .aload_n 0, 1), (13, .getfield 25, 3), (16, .iload_n 1, 1), (17, .iconst 0, 1), (18, .iastore, 1), (19, .iconst 0, 1), (20, .istore_n 2, 1), (21, .iload_n 2, 1), (22, .aload_n 0, 1), (23, .getfield 9, 3), (26, .iconst 0, 1), (27, .iaload, 1), (28, .if_icmp .ge 34, 3), (62, .iinc 1 1, 3), (65, .goto (-63), 3), (31, .aload_n 0, 1), (32, .getfield 25, 3), (35, .iload_n 1, 1), (36, .dup2, 1), (37, .iaload, 1), (38, .aload_n 0, 1), (39, .iload_n 1, 1), (40, .iload_n 2, 1), (41, .invokevirtual 186, 3), (44, .ifCond .eq 9, 3), (47, .iconst 1, 1), (48, .iload_n 2, 1), (49, .ishl, 1), (50, .goto 4, 3), (54, .ior, 1), (55, .iastore, 1)]
set_option maxRecDepth 100000 in
theorem dk07ref3_cX12_looksForGoings_0_a : dkA cX12_looksForGoings dk07ref3_cX12_looksForGoings_0 = true := by decide +kernel
theorem dX12_looksForGoings_0 : decode cX12_looksForGoings 0 = .ok (.iconst 0, 1) := dkAt dk07ref3_cX12_looksForGoings_0_a 0 rfl
theorem dX12_looksForGoings_1 : decode cX12_looksForGoings 1 = .ok (.istore_n 1, 1) := dkAt dk07ref3_cX12_looksForGoings_0_a 1 rfl
theorem dX12_looksForGoings_2 : decode cX12_looksForGoings 2 = .ok (.iload_n 1, 1) := dkAt dk07ref3_cX12_looksForGoings_0_a 2 rfl
theorem dX12_looksForGoings_3 : decode cX12_looksForGoings 3 = .ok (.aload_n 0, 1) := dkAt dk07ref3_cX12_looksForGoings_0_a 3 rfl
theorem dX12_looksForGoings_4 : decode cX12_looksForGoings 4 = .ok (.getfield 9, 3) := dkAt dk07ref3_cX12_looksForGoings_0_a 4 rfl
theorem dX12_looksForGoings_7 : decode cX12_looksForGoings 7 = .ok (.iconst 0, 1) := dkAt dk07ref3_cX12_looksForGoings_0_a 5 rfl
theorem dX12_looksForGoings_8 : decode cX12_looksForGoings 8 = .ok (.iaload, 1) := dkAt dk07ref3_cX12_looksForGoings_0_a 6 rfl
theorem dX12_looksForGoings_9 : decode cX12_looksForGoings 9 = .ok (.if_icmp .ge 59, 3) := dkAt dk07ref3_cX12_looksForGoings_0_a 7 rfl
theorem dX12_looksForGoings_68 : decode cX12_looksForGoings 68 = .ok (.return_, 1) := dkAt dk07ref3_cX12_looksForGoings_0_a 8 rfl
theorem dX12_looksForGoings_12 : decode cX12_looksForGoings 12 = .ok (.aload_n 0, 1) := dkAt dk07ref3_cX12_looksForGoings_0_a 9 rfl
theorem dX12_looksForGoings_13 : decode cX12_looksForGoings 13 = .ok (.getfield 25, 3) := dkAt dk07ref3_cX12_looksForGoings_0_a 10 rfl
theorem dX12_looksForGoings_16 : decode cX12_looksForGoings 16 = .ok (.iload_n 1, 1) := dkAt dk07ref3_cX12_looksForGoings_0_a 11 rfl
theorem dX12_looksForGoings_17 : decode cX12_looksForGoings 17 = .ok (.iconst 0, 1) := dkAt dk07ref3_cX12_looksForGoings_0_a 12 rfl
theorem dX12_looksForGoings_18 : decode cX12_looksForGoings 18 = .ok (.iastore, 1) := dkAt dk07ref3_cX12_looksForGoings_0_a 13 rfl
theorem dX12_looksForGoings_19 : decode cX12_looksForGoings 19 = .ok (.iconst 0, 1) := dkAt dk07ref3_cX12_looksForGoings_0_a 14 rfl
theorem dX12_looksForGoings_20 : decode cX12_looksForGoings 20 = .ok (.istore_n 2, 1) := dkAt dk07ref3_cX12_looksForGoings_0_a 15 rfl
theorem dX12_looksForGoings_21 : decode cX12_looksForGoings 21 = .ok (.iload_n 2, 1) := dkAt dk07ref3_cX12_looksForGoings_0_a 16 rfl
theorem dX12_looksForGoings_22 : decode cX12_looksForGoings 22 = .ok (.aload_n 0, 1) := dkAt dk07ref3_cX12_looksForGoings_0_a 17 rfl
theorem dX12_looksForGoings_23 : decode cX12_looksForGoings 23 = .ok (.getfield 9, 3) := dkAt dk07ref3_cX12_looksForGoings_0_a 18 rfl
theorem dX12_looksForGoings_26 : decode cX12_looksForGoings 26 = .ok (.iconst 0, 1) := dkAt dk07ref3_cX12_looksForGoings_0_a 19 rfl
theorem dX12_looksForGoings_27 : decode cX12_looksForGoings 27 = .ok (.iaload, 1) := dkAt dk07ref3_cX12_looksForGoings_0_a 20 rfl
theorem dX12_looksForGoings_28 : decode cX12_looksForGoings 28 = .ok (.if_icmp .ge 34, 3) := dkAt dk07ref3_cX12_looksForGoings_0_a 21 rfl
theorem dX12_looksForGoings_62 : decode cX12_looksForGoings 62 = .ok (.iinc 1 1, 3) := dkAt dk07ref3_cX12_looksForGoings_0_a 22 rfl
theorem dX12_looksForGoings_65 : decode cX12_looksForGoings 65 = .ok (.goto (-63), 3) := dkAt dk07ref3_cX12_looksForGoings_0_a 23 rfl
theorem dX12_looksForGoings_31 : decode cX12_looksForGoings 31 = .ok (.aload_n 0, 1) := dkAt dk07ref3_cX12_looksForGoings_0_a 24 rfl
theorem dX12_looksForGoings_32 : decode cX12_looksForGoings 32 = .ok (.getfield 25, 3) := dkAt dk07ref3_cX12_looksForGoings_0_a 25 rfl
theorem dX12_looksForGoings_35 : decode cX12_looksForGoings 35 = .ok (.iload_n 1, 1) := dkAt dk07ref3_cX12_looksForGoings_0_a 26 rfl
theorem dX12_looksForGoings_36 : decode cX12_looksForGoings 36 = .ok (.dup2, 1) := dkAt dk07ref3_cX12_looksForGoings_0_a 27 rfl
theorem dX12_looksForGoings_37 : decode cX12_looksForGoings 37 = .ok (.iaload, 1) := dkAt dk07ref3_cX12_looksForGoings_0_a 28 rfl
theorem dX12_looksForGoings_38 : decode cX12_looksForGoings 38 = .ok (.aload_n 0, 1) := dkAt dk07ref3_cX12_looksForGoings_0_a 29 rfl
theorem dX12_looksForGoings_39 : decode cX12_looksForGoings 39 = .ok (.iload_n 1, 1) := dkAt dk07ref3_cX12_looksForGoings_0_a 30 rfl
theorem dX12_looksForGoings_40 : decode cX12_looksForGoings 40 = .ok (.iload_n 2, 1) := dkAt dk07ref3_cX12_looksForGoings_0_a 31 rfl
theorem dX12_looksForGoings_41 : decode cX12_looksForGoings 41 = .ok (.invokevirtual 186, 3) := dkAt dk07ref3_cX12_looksForGoings_0_a 32 rfl
theorem dX12_looksForGoings_44 : decode cX12_looksForGoings 44 = .ok (.ifCond .eq 9, 3) := dkAt dk07ref3_cX12_looksForGoings_0_a 33 rfl
theorem dX12_looksForGoings_47 : decode cX12_looksForGoings 47 = .ok (.iconst 1, 1) := dkAt dk07ref3_cX12_looksForGoings_0_a 34 rfl
theorem dX12_looksForGoings_48 : decode cX12_looksForGoings 48 = .ok (.iload_n 2, 1) := dkAt dk07ref3_cX12_looksForGoings_0_a 35 rfl
theorem dX12_looksForGoings_49 : decode cX12_looksForGoings 49 = .ok (.ishl, 1) := dkAt dk07ref3_cX12_looksForGoings_0_a 36 rfl
theorem dX12_looksForGoings_50 : decode cX12_looksForGoings 50 = .ok (.goto 4, 3) := dkAt dk07ref3_cX12_looksForGoings_0_a 37 rfl
theorem dX12_looksForGoings_54 : decode cX12_looksForGoings 54 = .ok (.ior, 1) := dkAt dk07ref3_cX12_looksForGoings_0_a 38 rfl
theorem dX12_looksForGoings_55 : decode cX12_looksForGoings 55 = .ok (.iastore, 1) := dkAt dk07ref3_cX12_looksForGoings_0_a 39 rfl
noncomputable def dk07ref3_cX12_looksForGoings_40 : List (Nat × Instr × Nat) := [(56, .iinc 2 1, 3), (59, .goto (-38), 3), (53, .iconst 0, 1)]
set_option maxRecDepth 100000 in
theorem dk07ref3_cX12_looksForGoings_40_a : dkA cX12_looksForGoings dk07ref3_cX12_looksForGoings_40 = true := by decide +kernel
theorem dX12_looksForGoings_56 : decode cX12_looksForGoings 56 = .ok (.iinc 2 1, 3) := dkAt dk07ref3_cX12_looksForGoings_40_a 0 rfl
theorem dX12_looksForGoings_59 : decode cX12_looksForGoings 59 = .ok (.goto (-38), 3) := dkAt dk07ref3_cX12_looksForGoings_40_a 1 rfl
theorem dX12_looksForGoings_53 : decode cX12_looksForGoings 53 = .ok (.iconst 0, 1) := dkAt dk07ref3_cX12_looksForGoings_40_a 2 rfl
noncomputable def dk07ref3_cX12_spread_0 : List (Nat × Instr × Nat) := [(0, .iload_n 1, 1), (1, .istore_n 2, 1), (2, .iconst 0, 1), (3, .istore_n 3, 1), (4, .iload_n 3, 1), (5, .aload_n 0, 1), (6, .getfield 9, 3), (9, .iconst 0, 1), (10, .iaload, 1), (11, .if_icmp .ge 31, 3), (42, .iload_n 2, 1), (43, .ireturn, 1), (14, .iload_n 2, 1), (15, .iload_n 1, 1), (16, .iload_n 3, 1), (17, .ishr, 1), (18, .iconst 1, 1), (19, .iand, 1), (20, .iconst 1, 1), (21, .if_icmp .ne 12, 3), (33, .iconst 0, 1), (34, .ior, 1), (35, .istore_n 2, 1), (36, .iinc 3 1, 3), (39, .goto (-35), 3), (24, .aload_n 0, 1), (25, .getfield 25, 3), (28, .iload_n 3, 1), (29, .iaload, 1), (30, .goto 4, 3)]
set_option maxRecDepth 100000 in
theorem dk07ref3_cX12_spread_0_a : dkA cX12_spread dk07ref3_cX12_spread_0 = true := by decide +kernel
theorem dX12_spread_0 : decode cX12_spread 0 = .ok (.iload_n 1, 1) := dkAt dk07ref3_cX12_spread_0_a 0 rfl
theorem dX12_spread_1 : decode cX12_spread 1 = .ok (.istore_n 2, 1) := dkAt dk07ref3_cX12_spread_0_a 1 rfl
theorem dX12_spread_2 : decode cX12_spread 2 = .ok (.iconst 0, 1) := dkAt dk07ref3_cX12_spread_0_a 2 rfl
theorem dX12_spread_3 : decode cX12_spread 3 = .ok (.istore_n 3, 1) := dkAt dk07ref3_cX12_spread_0_a 3 rfl
theorem dX12_spread_4 : decode cX12_spread 4 = .ok (.iload_n 3, 1) := dkAt dk07ref3_cX12_spread_0_a 4 rfl
theorem dX12_spread_5 : decode cX12_spread 5 = .ok (.aload_n 0, 1) := dkAt dk07ref3_cX12_spread_0_a 5 rfl
theorem dX12_spread_6 : decode cX12_spread 6 = .ok (.getfield 9, 3) := dkAt dk07ref3_cX12_spread_0_a 6 rfl
theorem dX12_spread_9 : decode cX12_spread 9 = .ok (.iconst 0, 1) := dkAt dk07ref3_cX12_spread_0_a 7 rfl
theorem dX12_spread_10 : decode cX12_spread 10 = .ok (.iaload, 1) := dkAt dk07ref3_cX12_spread_0_a 8 rfl
theorem dX12_spread_11 : decode cX12_spread 11 = .ok (.if_icmp .ge 31, 3) := dkAt dk07ref3_cX12_spread_0_a 9 rfl
theorem dX12_spread_42 : decode cX12_spread 42 = .ok (.iload_n 2, 1) := dkAt dk07ref3_cX12_spread_0_a 10 rfl
theorem dX12_spread_43 : decode cX12_spread 43 = .ok (.ireturn, 1) := dkAt dk07ref3_cX12_spread_0_a 11 rfl
theorem dX12_spread_14 : decode cX12_spread 14 = .ok (.iload_n 2, 1) := dkAt dk07ref3_cX12_spread_0_a 12 rfl
theorem dX12_spread_15 : decode cX12_spread 15 = .ok (.iload_n 1, 1) := dkAt dk07ref3_cX12_spread_0_a 13 rfl
theorem dX12_spread_16 : decode cX12_spread 16 = .ok (.iload_n 3, 1) := dkAt dk07ref3_cX12_spread_0_a 14 rfl
theorem dX12_spread_17 : decode cX12_spread 17 = .ok (.ishr, 1) := dkAt dk07ref3_cX12_spread_0_a 15 rfl
theorem dX12_spread_18 : decode cX12_spread 18 = .ok (.iconst 1, 1) := dkAt dk07ref3_cX12_spread_0_a 16 rfl
theorem dX12_spread_19 : decode cX12_spread 19 = .ok (.iand, 1) := dkAt dk07ref3_cX12_spread_0_a 17 rfl
theorem dX12_spread_20 : decode cX12_spread 20 = .ok (.iconst 1, 1) := dkAt dk07ref3_cX12_spread_0_a 18 rfl
theorem dX12_spread_21 : decode cX12_spread 21 = .ok (.if_icmp .ne 12, 3) := dkAt dk07ref3_cX12_spread_0_a 19 rfl
theorem dX12_spread_33 : decode cX12_spread 33 = .ok (.iconst 0, 1) := dkAt dk07ref3_cX12_spread_0_a 20 rfl
theorem dX12_spread_34 : decode cX12_spread 34 = .ok (.ior, 1) := dkAt dk07ref3_cX12_spread_0_a 21 rfl
theorem dX12_spread_35 : decode cX12_spread 35 = .ok (.istore_n 2, 1) := dkAt dk07ref3_cX12_spread_0_a 22 rfl
theorem dX12_spread_36 : decode cX12_spread 36 = .ok (.iinc 3 1, 3) := dkAt dk07ref3_cX12_spread_0_a 23 rfl
theorem dX12_spread_39 : decode cX12_spread 39 = .ok (.goto (-35), 3) := dkAt dk07ref3_cX12_spread_0_a 24 rfl
theorem dX12_spread_24 : decode cX12_spread 24 = .ok (.aload_n 0, 1) := dkAt dk07ref3_cX12_spread_0_a 25 rfl
theorem dX12_spread_25 : decode cX12_spread 25 = .ok (.getfield 25, 3) := dkAt dk07ref3_cX12_spread_0_a 26 rfl
theorem dX12_spread_28 : decode cX12_spread 28 = .ok (.iload_n 3, 1) := dkAt dk07ref3_cX12_spread_0_a 27 rfl
theorem dX12_spread_29 : decode cX12_spread 29 = .ok (.iaload, 1) := dkAt dk07ref3_cX12_spread_0_a 28 rfl
theorem dX12_spread_30 : decode cX12_spread 30 = .ok (.goto 4, 3) := dkAt dk07ref3_cX12_spread_0_a 29 rfl
noncomputable def dk07ref3_cX12_stepsBut_0 : List (Nat × Instr × Nat) := [(0, .iconst 1, 1), (1, .iload_n 1, 1), (2, .ishl, 1), (3, .istore 4, 2), (5, .iconst 0, 1), (6, .istore 5, 2), (8, .iload 5, 2), (10, .bipush 10, 2), (12, .if_icmp .ge 34, 3), (46, .bipush (-5), 2), (48, .ireturn, 1), (15, .iload 4, 2), (17, .iload_n 2, 1), (18, .ishr, 1), (19, .iconst 1, 1), (20, .iand, 1), (21, .iconst 1, 1), (22, .if_icmp .ne 6, 3), (28, .aload_n 0, 1), (29, .iload 4, 2), (31, .invokevirtual 189, 3), (34, .iload_n 3, 1), (35, .iconst (-1), 1), (36, .ixor, 1), (37, .iand, 1), (38, .istore 4, 2), (40, .iinc 5 1, 3), (43, .goto (-35), 3), (25, .iload 5, 2), (27, .ireturn, 1)]
set_option maxRecDepth 100000 in
theorem dk07ref3_cX12_stepsBut_0_a : dkA cX12_stepsBut dk07ref3_cX12_stepsBut_0 = true := by decide +kernel
theorem dX12_stepsBut_0 : decode cX12_stepsBut 0 = .ok (.iconst 1, 1) := dkAt dk07ref3_cX12_stepsBut_0_a 0 rfl
theorem dX12_stepsBut_1 : decode cX12_stepsBut 1 = .ok (.iload_n 1, 1) := dkAt dk07ref3_cX12_stepsBut_0_a 1 rfl
theorem dX12_stepsBut_2 : decode cX12_stepsBut 2 = .ok (.ishl, 1) := dkAt dk07ref3_cX12_stepsBut_0_a 2 rfl
theorem dX12_stepsBut_3 : decode cX12_stepsBut 3 = .ok (.istore 4, 2) := dkAt dk07ref3_cX12_stepsBut_0_a 3 rfl
theorem dX12_stepsBut_5 : decode cX12_stepsBut 5 = .ok (.iconst 0, 1) := dkAt dk07ref3_cX12_stepsBut_0_a 4 rfl
theorem dX12_stepsBut_6 : decode cX12_stepsBut 6 = .ok (.istore 5, 2) := dkAt dk07ref3_cX12_stepsBut_0_a 5 rfl
theorem dX12_stepsBut_8 : decode cX12_stepsBut 8 = .ok (.iload 5, 2) := dkAt dk07ref3_cX12_stepsBut_0_a 6 rfl
theorem dX12_stepsBut_10 : decode cX12_stepsBut 10 = .ok (.bipush 10, 2) := dkAt dk07ref3_cX12_stepsBut_0_a 7 rfl
theorem dX12_stepsBut_12 : decode cX12_stepsBut 12 = .ok (.if_icmp .ge 34, 3) := dkAt dk07ref3_cX12_stepsBut_0_a 8 rfl
theorem dX12_stepsBut_46 : decode cX12_stepsBut 46 = .ok (.bipush (-5), 2) := dkAt dk07ref3_cX12_stepsBut_0_a 9 rfl
theorem dX12_stepsBut_48 : decode cX12_stepsBut 48 = .ok (.ireturn, 1) := dkAt dk07ref3_cX12_stepsBut_0_a 10 rfl
theorem dX12_stepsBut_15 : decode cX12_stepsBut 15 = .ok (.iload 4, 2) := dkAt dk07ref3_cX12_stepsBut_0_a 11 rfl
theorem dX12_stepsBut_17 : decode cX12_stepsBut 17 = .ok (.iload_n 2, 1) := dkAt dk07ref3_cX12_stepsBut_0_a 12 rfl
theorem dX12_stepsBut_18 : decode cX12_stepsBut 18 = .ok (.ishr, 1) := dkAt dk07ref3_cX12_stepsBut_0_a 13 rfl
theorem dX12_stepsBut_19 : decode cX12_stepsBut 19 = .ok (.iconst 1, 1) := dkAt dk07ref3_cX12_stepsBut_0_a 14 rfl
theorem dX12_stepsBut_20 : decode cX12_stepsBut 20 = .ok (.iand, 1) := dkAt dk07ref3_cX12_stepsBut_0_a 15 rfl
theorem dX12_stepsBut_21 : decode cX12_stepsBut 21 = .ok (.iconst 1, 1) := dkAt dk07ref3_cX12_stepsBut_0_a 16 rfl
theorem dX12_stepsBut_22 : decode cX12_stepsBut 22 = .ok (.if_icmp .ne 6, 3) := dkAt dk07ref3_cX12_stepsBut_0_a 17 rfl
theorem dX12_stepsBut_28 : decode cX12_stepsBut 28 = .ok (.aload_n 0, 1) := dkAt dk07ref3_cX12_stepsBut_0_a 18 rfl
theorem dX12_stepsBut_29 : decode cX12_stepsBut 29 = .ok (.iload 4, 2) := dkAt dk07ref3_cX12_stepsBut_0_a 19 rfl
theorem dX12_stepsBut_31 : decode cX12_stepsBut 31 = .ok (.invokevirtual 189, 3) := dkAt dk07ref3_cX12_stepsBut_0_a 20 rfl
theorem dX12_stepsBut_34 : decode cX12_stepsBut 34 = .ok (.iload_n 3, 1) := dkAt dk07ref3_cX12_stepsBut_0_a 21 rfl
theorem dX12_stepsBut_35 : decode cX12_stepsBut 35 = .ok (.iconst (-1), 1) := dkAt dk07ref3_cX12_stepsBut_0_a 22 rfl
theorem dX12_stepsBut_36 : decode cX12_stepsBut 36 = .ok (.ixor, 1) := dkAt dk07ref3_cX12_stepsBut_0_a 23 rfl
theorem dX12_stepsBut_37 : decode cX12_stepsBut 37 = .ok (.iand, 1) := dkAt dk07ref3_cX12_stepsBut_0_a 24 rfl
theorem dX12_stepsBut_38 : decode cX12_stepsBut 38 = .ok (.istore 4, 2) := dkAt dk07ref3_cX12_stepsBut_0_a 25 rfl
theorem dX12_stepsBut_40 : decode cX12_stepsBut 40 = .ok (.iinc 5 1, 3) := dkAt dk07ref3_cX12_stepsBut_0_a 26 rfl
theorem dX12_stepsBut_43 : decode cX12_stepsBut 43 = .ok (.goto (-35), 3) := dkAt dk07ref3_cX12_stepsBut_0_a 27 rfl
theorem dX12_stepsBut_25 : decode cX12_stepsBut 25 = .ok (.iload 5, 2) := dkAt dk07ref3_cX12_stepsBut_0_a 28 rfl
theorem dX12_stepsBut_27 : decode cX12_stepsBut 27 = .ok (.ireturn, 1) := dkAt dk07ref3_cX12_stepsBut_0_a 29 rfl
noncomputable def dk07ref3_cX12_stepsOf_0 : List (Nat × Instr × Nat) := [(0, .aload_n 0, 1), (1, .invokevirtual 192, 3), (4, .aload_n 0, 1), (5, .iload_n 1, 1), (6, .iload_n 2, 1), (7, .iconst 0, 1), (8, .invokevirtual 195, 3), (11, .ireturn, 1)]
set_option maxRecDepth 100000 in
theorem dk07ref3_cX12_stepsOf_0_a : dkA cX12_stepsOf dk07ref3_cX12_stepsOf_0 = true := by decide +kernel
theorem dX12_stepsOf_0 : decode cX12_stepsOf 0 = .ok (.aload_n 0, 1) := dkAt dk07ref3_cX12_stepsOf_0_a 0 rfl
theorem dX12_stepsOf_1 : decode cX12_stepsOf 1 = .ok (.invokevirtual 192, 3) := dkAt dk07ref3_cX12_stepsOf_0_a 1 rfl
theorem dX12_stepsOf_4 : decode cX12_stepsOf 4 = .ok (.aload_n 0, 1) := dkAt dk07ref3_cX12_stepsOf_0_a 2 rfl
theorem dX12_stepsOf_5 : decode cX12_stepsOf 5 = .ok (.iload_n 1, 1) := dkAt dk07ref3_cX12_stepsOf_0_a 3 rfl
theorem dX12_stepsOf_6 : decode cX12_stepsOf 6 = .ok (.iload_n 2, 1) := dkAt dk07ref3_cX12_stepsOf_0_a 4 rfl
theorem dX12_stepsOf_7 : decode cX12_stepsOf 7 = .ok (.iconst 0, 1) := dkAt dk07ref3_cX12_stepsOf_0_a 5 rfl
theorem dX12_stepsOf_8 : decode cX12_stepsOf 8 = .ok (.invokevirtual 195, 3) := dkAt dk07ref3_cX12_stepsOf_0_a 6 rfl
theorem dX12_stepsOf_11 : decode cX12_stepsOf 11 = .ok (.ireturn, 1) := dkAt dk07ref3_cX12_stepsOf_0_a 7 rfl
noncomputable def dk07ref3_cX12_steps_0 : List (Nat × Instr × Nat) := [(0, .aload_n 0, 1), (1, .iload_n 1, 1), (2, .invokevirtual 164, 3), (5, .ifCond .eq 20, 3), (8, .aload_n 0, 1), (9, .iload_n 2, 1), (10, .invokevirtual 164, 3), (13, .ifCond .eq 12, 3), (16, .aload_n 0, 1), (17, .iload_n 1, 1), (18, .iload_n 2, 1), (19, .invokevirtual 198, 3), (22, .goto 4, 3), (26, .ireturn, 1), (25, .iconst (-1), 1)]
set_option maxRecDepth 100000 in
theorem dk07ref3_cX12_steps_0_a : dkA cX12_steps dk07ref3_cX12_steps_0 = true := by decide +kernel
theorem dX12_steps_0 : decode cX12_steps 0 = .ok (.aload_n 0, 1) := dkAt dk07ref3_cX12_steps_0_a 0 rfl
theorem dX12_steps_1 : decode cX12_steps 1 = .ok (.iload_n 1, 1) := dkAt dk07ref3_cX12_steps_0_a 1 rfl
theorem dX12_steps_2 : decode cX12_steps 2 = .ok (.invokevirtual 164, 3) := dkAt dk07ref3_cX12_steps_0_a 2 rfl
theorem dX12_steps_5 : decode cX12_steps 5 = .ok (.ifCond .eq 20, 3) := dkAt dk07ref3_cX12_steps_0_a 3 rfl
theorem dX12_steps_8 : decode cX12_steps 8 = .ok (.aload_n 0, 1) := dkAt dk07ref3_cX12_steps_0_a 4 rfl
theorem dX12_steps_9 : decode cX12_steps 9 = .ok (.iload_n 2, 1) := dkAt dk07ref3_cX12_steps_0_a 5 rfl
theorem dX12_steps_10 : decode cX12_steps 10 = .ok (.invokevirtual 164, 3) := dkAt dk07ref3_cX12_steps_0_a 6 rfl
theorem dX12_steps_13 : decode cX12_steps 13 = .ok (.ifCond .eq 12, 3) := dkAt dk07ref3_cX12_steps_0_a 7 rfl
theorem dX12_steps_16 : decode cX12_steps 16 = .ok (.aload_n 0, 1) := dkAt dk07ref3_cX12_steps_0_a 8 rfl
theorem dX12_steps_17 : decode cX12_steps 17 = .ok (.iload_n 1, 1) := dkAt dk07ref3_cX12_steps_0_a 9 rfl
theorem dX12_steps_18 : decode cX12_steps 18 = .ok (.iload_n 2, 1) := dkAt dk07ref3_cX12_steps_0_a 10 rfl
theorem dX12_steps_19 : decode cX12_steps 19 = .ok (.invokevirtual 198, 3) := dkAt dk07ref3_cX12_steps_0_a 11 rfl
theorem dX12_steps_22 : decode cX12_steps 22 = .ok (.goto 4, 3) := dkAt dk07ref3_cX12_steps_0_a 12 rfl
theorem dX12_steps_26 : decode cX12_steps 26 = .ok (.ireturn, 1) := dkAt dk07ref3_cX12_steps_0_a 13 rfl
theorem dX12_steps_25 : decode cX12_steps 25 = .ok (.iconst (-1), 1) := dkAt dk07ref3_cX12_steps_0_a 14 rfl
noncomputable def dk07ref3_cX12_via_0 : List (Nat × Instr × Nat) := [(0, .aload_n 0, 1), (1, .iload_n 1, 1), (2, .invokevirtual 164, 3), (5, .ifCond .eq 11, 3), (8, .aload_n 0, 1), (9, .iload_n 2, 1), (10, .invokevirtual 164, 3), (13, .ifCond .ne 5, 3), (18, .aload_n 0, 1), (19, .iload_n 1, 1), (20, .iload_n 2, 1), (21, .invokevirtual 198, 3), (24, .istore_n 3, 1), (25, .iconst 0, 1), (26, .istore 4, 2), (28, .iload 4, 2), (30, .aload_n 0, 1), (31, .getfield 9, 3), (34, .iconst 0, 1), (35, .iaload, 1), (36, .if_icmp .ge 45, 3), (81, .bipush (-5), 2), (83, .ireturn, 1), (39, .iload_n 3, 1), (40, .ifCond .le 41, 3), (43, .aload_n 0, 1), (44, .getfield 25, 3), (47, .iload_n 1, 1), (48, .iaload, 1), (49, .iload 4, 2), (51, .ishr, 1), (52, .iconst 1, 1), (53, .iand, 1), (54, .iconst 1, 1), (55, .if_icmp .ne 20, 3), (75, .iinc 4 1, 3), (78, .goto (-50), 3), (58, .aload_n 0, 1), (59, .iload 4, 2), (61, .iload_n 2, 1)]
set_option maxRecDepth 100000 in
theorem dk07ref3_cX12_via_0_a : dkA cX12_via dk07ref3_cX12_via_0 = true := by decide +kernel
theorem dX12_via_0 : decode cX12_via 0 = .ok (.aload_n 0, 1) := dkAt dk07ref3_cX12_via_0_a 0 rfl
theorem dX12_via_1 : decode cX12_via 1 = .ok (.iload_n 1, 1) := dkAt dk07ref3_cX12_via_0_a 1 rfl
theorem dX12_via_2 : decode cX12_via 2 = .ok (.invokevirtual 164, 3) := dkAt dk07ref3_cX12_via_0_a 2 rfl
theorem dX12_via_5 : decode cX12_via 5 = .ok (.ifCond .eq 11, 3) := dkAt dk07ref3_cX12_via_0_a 3 rfl
theorem dX12_via_8 : decode cX12_via 8 = .ok (.aload_n 0, 1) := dkAt dk07ref3_cX12_via_0_a 4 rfl
theorem dX12_via_9 : decode cX12_via 9 = .ok (.iload_n 2, 1) := dkAt dk07ref3_cX12_via_0_a 5 rfl
theorem dX12_via_10 : decode cX12_via 10 = .ok (.invokevirtual 164, 3) := dkAt dk07ref3_cX12_via_0_a 6 rfl
theorem dX12_via_13 : decode cX12_via 13 = .ok (.ifCond .ne 5, 3) := dkAt dk07ref3_cX12_via_0_a 7 rfl
theorem dX12_via_18 : decode cX12_via 18 = .ok (.aload_n 0, 1) := dkAt dk07ref3_cX12_via_0_a 8 rfl
theorem dX12_via_19 : decode cX12_via 19 = .ok (.iload_n 1, 1) := dkAt dk07ref3_cX12_via_0_a 9 rfl
theorem dX12_via_20 : decode cX12_via 20 = .ok (.iload_n 2, 1) := dkAt dk07ref3_cX12_via_0_a 10 rfl
theorem dX12_via_21 : decode cX12_via 21 = .ok (.invokevirtual 198, 3) := dkAt dk07ref3_cX12_via_0_a 11 rfl
theorem dX12_via_24 : decode cX12_via 24 = .ok (.istore_n 3, 1) := dkAt dk07ref3_cX12_via_0_a 12 rfl
theorem dX12_via_25 : decode cX12_via 25 = .ok (.iconst 0, 1) := dkAt dk07ref3_cX12_via_0_a 13 rfl
theorem dX12_via_26 : decode cX12_via 26 = .ok (.istore 4, 2) := dkAt dk07ref3_cX12_via_0_a 14 rfl
theorem dX12_via_28 : decode cX12_via 28 = .ok (.iload 4, 2) := dkAt dk07ref3_cX12_via_0_a 15 rfl
theorem dX12_via_30 : decode cX12_via 30 = .ok (.aload_n 0, 1) := dkAt dk07ref3_cX12_via_0_a 16 rfl
theorem dX12_via_31 : decode cX12_via 31 = .ok (.getfield 9, 3) := dkAt dk07ref3_cX12_via_0_a 17 rfl
theorem dX12_via_34 : decode cX12_via 34 = .ok (.iconst 0, 1) := dkAt dk07ref3_cX12_via_0_a 18 rfl
theorem dX12_via_35 : decode cX12_via 35 = .ok (.iaload, 1) := dkAt dk07ref3_cX12_via_0_a 19 rfl
theorem dX12_via_36 : decode cX12_via 36 = .ok (.if_icmp .ge 45, 3) := dkAt dk07ref3_cX12_via_0_a 20 rfl
theorem dX12_via_81 : decode cX12_via 81 = .ok (.bipush (-5), 2) := dkAt dk07ref3_cX12_via_0_a 21 rfl
theorem dX12_via_83 : decode cX12_via 83 = .ok (.ireturn, 1) := dkAt dk07ref3_cX12_via_0_a 22 rfl
theorem dX12_via_39 : decode cX12_via 39 = .ok (.iload_n 3, 1) := dkAt dk07ref3_cX12_via_0_a 23 rfl
theorem dX12_via_40 : decode cX12_via 40 = .ok (.ifCond .le 41, 3) := dkAt dk07ref3_cX12_via_0_a 24 rfl
theorem dX12_via_43 : decode cX12_via 43 = .ok (.aload_n 0, 1) := dkAt dk07ref3_cX12_via_0_a 25 rfl
theorem dX12_via_44 : decode cX12_via 44 = .ok (.getfield 25, 3) := dkAt dk07ref3_cX12_via_0_a 26 rfl
theorem dX12_via_47 : decode cX12_via 47 = .ok (.iload_n 1, 1) := dkAt dk07ref3_cX12_via_0_a 27 rfl
theorem dX12_via_48 : decode cX12_via 48 = .ok (.iaload, 1) := dkAt dk07ref3_cX12_via_0_a 28 rfl
theorem dX12_via_49 : decode cX12_via 49 = .ok (.iload 4, 2) := dkAt dk07ref3_cX12_via_0_a 29 rfl
theorem dX12_via_51 : decode cX12_via 51 = .ok (.ishr, 1) := dkAt dk07ref3_cX12_via_0_a 30 rfl
theorem dX12_via_52 : decode cX12_via 52 = .ok (.iconst 1, 1) := dkAt dk07ref3_cX12_via_0_a 31 rfl
theorem dX12_via_53 : decode cX12_via 53 = .ok (.iand, 1) := dkAt dk07ref3_cX12_via_0_a 32 rfl
theorem dX12_via_54 : decode cX12_via 54 = .ok (.iconst 1, 1) := dkAt dk07ref3_cX12_via_0_a 33 rfl
theorem dX12_via_55 : decode cX12_via 55 = .ok (.if_icmp .ne 20, 3) := dkAt dk07ref3_cX12_via_0_a 34 rfl
theorem dX12_via_75 : decode cX12_via 75 = .ok (.iinc 4 1, 3) := dkAt dk07ref3_cX12_via_0_a 35 rfl
theorem dX12_via_78 : decode cX12_via 78 = .ok (.goto (-50), 3) := dkAt dk07ref3_cX12_via_0_a 36 rfl
theorem dX12_via_58 : decode cX12_via 58 = .ok (.aload_n 0, 1) := dkAt dk07ref3_cX12_via_0_a 37 rfl
theorem dX12_via_59 : decode cX12_via 59 = .ok (.iload 4, 2) := dkAt dk07ref3_cX12_via_0_a 38 rfl
theorem dX12_via_61 : decode cX12_via 61 = .ok (.iload_n 2, 1) := dkAt dk07ref3_cX12_via_0_a 39 rfl
noncomputable def dk07ref3_cX12_via_40 : List (Nat × Instr × Nat) := [(62, .iconst 0, 1), (63, .invokevirtual 195, 3), (66, .iload_n 3, 1), (67, .iconst 1, 1), (68, .isub, 1), (69, .if_icmp .ne 6, 3), (72, .iload 4, 2), (74, .ireturn, 1), (16, .iconst (-1), 1), (17, .ireturn, 1)]
set_option maxRecDepth 100000 in
theorem dk07ref3_cX12_via_40_a : dkA cX12_via dk07ref3_cX12_via_40 = true := by decide +kernel
theorem dX12_via_62 : decode cX12_via 62 = .ok (.iconst 0, 1) := dkAt dk07ref3_cX12_via_40_a 0 rfl
theorem dX12_via_63 : decode cX12_via 63 = .ok (.invokevirtual 195, 3) := dkAt dk07ref3_cX12_via_40_a 1 rfl
theorem dX12_via_66 : decode cX12_via 66 = .ok (.iload_n 3, 1) := dkAt dk07ref3_cX12_via_40_a 2 rfl
theorem dX12_via_67 : decode cX12_via 67 = .ok (.iconst 1, 1) := dkAt dk07ref3_cX12_via_40_a 3 rfl
theorem dX12_via_68 : decode cX12_via 68 = .ok (.isub, 1) := dkAt dk07ref3_cX12_via_40_a 4 rfl
theorem dX12_via_69 : decode cX12_via 69 = .ok (.if_icmp .ne 6, 3) := dkAt dk07ref3_cX12_via_40_a 5 rfl
theorem dX12_via_72 : decode cX12_via 72 = .ok (.iload 4, 2) := dkAt dk07ref3_cX12_via_40_a 6 rfl
theorem dX12_via_74 : decode cX12_via 74 = .ok (.ireturn, 1) := dkAt dk07ref3_cX12_via_40_a 7 rfl
theorem dX12_via_16 : decode cX12_via 16 = .ok (.iconst (-1), 1) := dkAt dk07ref3_cX12_via_40_a 8 rfl
theorem dX12_via_17 : decode cX12_via 17 = .ok (.ireturn, 1) := dkAt dk07ref3_cX12_via_40_a 9 rfl
noncomputable def dk07ref3_cX12_cuts_0 : List (Nat × Instr × Nat) := [(0, .aload_n 0, 1), (1, .iload_n 1, 1), (2, .invokevirtual 164, 3), (5, .ifCond .eq 11, 3), (8, .aload_n 0, 1), (9, .iload_n 2, 1), (10, .invokevirtual 164, 3), (13, .ifCond .ne 5, 3), (18, .iconst 0, 1), (19, .istore_n 3, 1), (20, .aload_n 0, 1), (21, .iload_n 1, 1), (22, .iload_n 2, 1), (23, .invokevirtual 198, 3), (26, .bipush (-5), 2), (28, .if_icmp .ne 5, 3), (33, .iconst 0, 1), (34, .istore 4, 2), (36, .iload 4, 2), (38, .aload_n 0, 1), (39, .getfield 9, 3), (42, .iconst 0, 1), (43, .iaload, 1), (44, .if_icmp .ge 47, 3), (91, .iload_n 3, 1), (92, .ireturn, 1), (47, .iload_n 3, 1), (48, .iload 4, 2), (50, .iload_n 1, 1), (51, .if_icmp .eq 31, 3), (82, .iconst 0, 1), (83, .ior, 1), (84, .istore_n 3, 1), (85, .iinc 4 1, 3), (88, .goto (-52), 3), (54, .iload 4, 2), (56, .iload_n 2, 1), (57, .if_icmp .eq 25, 3), (60, .aload_n 0, 1), (61, .iload_n 1, 1)]
set_option maxRecDepth 100000 in
theorem dk07ref3_cX12_cuts_0_a : dkA cX12_cuts dk07ref3_cX12_cuts_0 = true := by decide +kernel
theorem dX12_cuts_0 : decode cX12_cuts 0 = .ok (.aload_n 0, 1) := dkAt dk07ref3_cX12_cuts_0_a 0 rfl
theorem dX12_cuts_1 : decode cX12_cuts 1 = .ok (.iload_n 1, 1) := dkAt dk07ref3_cX12_cuts_0_a 1 rfl
theorem dX12_cuts_2 : decode cX12_cuts 2 = .ok (.invokevirtual 164, 3) := dkAt dk07ref3_cX12_cuts_0_a 2 rfl
theorem dX12_cuts_5 : decode cX12_cuts 5 = .ok (.ifCond .eq 11, 3) := dkAt dk07ref3_cX12_cuts_0_a 3 rfl
theorem dX12_cuts_8 : decode cX12_cuts 8 = .ok (.aload_n 0, 1) := dkAt dk07ref3_cX12_cuts_0_a 4 rfl
theorem dX12_cuts_9 : decode cX12_cuts 9 = .ok (.iload_n 2, 1) := dkAt dk07ref3_cX12_cuts_0_a 5 rfl
theorem dX12_cuts_10 : decode cX12_cuts 10 = .ok (.invokevirtual 164, 3) := dkAt dk07ref3_cX12_cuts_0_a 6 rfl
theorem dX12_cuts_13 : decode cX12_cuts 13 = .ok (.ifCond .ne 5, 3) := dkAt dk07ref3_cX12_cuts_0_a 7 rfl
theorem dX12_cuts_18 : decode cX12_cuts 18 = .ok (.iconst 0, 1) := dkAt dk07ref3_cX12_cuts_0_a 8 rfl
theorem dX12_cuts_19 : decode cX12_cuts 19 = .ok (.istore_n 3, 1) := dkAt dk07ref3_cX12_cuts_0_a 9 rfl
theorem dX12_cuts_20 : decode cX12_cuts 20 = .ok (.aload_n 0, 1) := dkAt dk07ref3_cX12_cuts_0_a 10 rfl
theorem dX12_cuts_21 : decode cX12_cuts 21 = .ok (.iload_n 1, 1) := dkAt dk07ref3_cX12_cuts_0_a 11 rfl
theorem dX12_cuts_22 : decode cX12_cuts 22 = .ok (.iload_n 2, 1) := dkAt dk07ref3_cX12_cuts_0_a 12 rfl
theorem dX12_cuts_23 : decode cX12_cuts 23 = .ok (.invokevirtual 198, 3) := dkAt dk07ref3_cX12_cuts_0_a 13 rfl
theorem dX12_cuts_26 : decode cX12_cuts 26 = .ok (.bipush (-5), 2) := dkAt dk07ref3_cX12_cuts_0_a 14 rfl
theorem dX12_cuts_28 : decode cX12_cuts 28 = .ok (.if_icmp .ne 5, 3) := dkAt dk07ref3_cX12_cuts_0_a 15 rfl
theorem dX12_cuts_33 : decode cX12_cuts 33 = .ok (.iconst 0, 1) := dkAt dk07ref3_cX12_cuts_0_a 16 rfl
theorem dX12_cuts_34 : decode cX12_cuts 34 = .ok (.istore 4, 2) := dkAt dk07ref3_cX12_cuts_0_a 17 rfl
theorem dX12_cuts_36 : decode cX12_cuts 36 = .ok (.iload 4, 2) := dkAt dk07ref3_cX12_cuts_0_a 18 rfl
theorem dX12_cuts_38 : decode cX12_cuts 38 = .ok (.aload_n 0, 1) := dkAt dk07ref3_cX12_cuts_0_a 19 rfl
theorem dX12_cuts_39 : decode cX12_cuts 39 = .ok (.getfield 9, 3) := dkAt dk07ref3_cX12_cuts_0_a 20 rfl
theorem dX12_cuts_42 : decode cX12_cuts 42 = .ok (.iconst 0, 1) := dkAt dk07ref3_cX12_cuts_0_a 21 rfl
theorem dX12_cuts_43 : decode cX12_cuts 43 = .ok (.iaload, 1) := dkAt dk07ref3_cX12_cuts_0_a 22 rfl
theorem dX12_cuts_44 : decode cX12_cuts 44 = .ok (.if_icmp .ge 47, 3) := dkAt dk07ref3_cX12_cuts_0_a 23 rfl
theorem dX12_cuts_91 : decode cX12_cuts 91 = .ok (.iload_n 3, 1) := dkAt dk07ref3_cX12_cuts_0_a 24 rfl
theorem dX12_cuts_92 : decode cX12_cuts 92 = .ok (.ireturn, 1) := dkAt dk07ref3_cX12_cuts_0_a 25 rfl
theorem dX12_cuts_47 : decode cX12_cuts 47 = .ok (.iload_n 3, 1) := dkAt dk07ref3_cX12_cuts_0_a 26 rfl
theorem dX12_cuts_48 : decode cX12_cuts 48 = .ok (.iload 4, 2) := dkAt dk07ref3_cX12_cuts_0_a 27 rfl
theorem dX12_cuts_50 : decode cX12_cuts 50 = .ok (.iload_n 1, 1) := dkAt dk07ref3_cX12_cuts_0_a 28 rfl
theorem dX12_cuts_51 : decode cX12_cuts 51 = .ok (.if_icmp .eq 31, 3) := dkAt dk07ref3_cX12_cuts_0_a 29 rfl
theorem dX12_cuts_82 : decode cX12_cuts 82 = .ok (.iconst 0, 1) := dkAt dk07ref3_cX12_cuts_0_a 30 rfl
theorem dX12_cuts_83 : decode cX12_cuts 83 = .ok (.ior, 1) := dkAt dk07ref3_cX12_cuts_0_a 31 rfl
theorem dX12_cuts_84 : decode cX12_cuts 84 = .ok (.istore_n 3, 1) := dkAt dk07ref3_cX12_cuts_0_a 32 rfl
theorem dX12_cuts_85 : decode cX12_cuts 85 = .ok (.iinc 4 1, 3) := dkAt dk07ref3_cX12_cuts_0_a 33 rfl
theorem dX12_cuts_88 : decode cX12_cuts 88 = .ok (.goto (-52), 3) := dkAt dk07ref3_cX12_cuts_0_a 34 rfl
theorem dX12_cuts_54 : decode cX12_cuts 54 = .ok (.iload 4, 2) := dkAt dk07ref3_cX12_cuts_0_a 35 rfl
theorem dX12_cuts_56 : decode cX12_cuts 56 = .ok (.iload_n 2, 1) := dkAt dk07ref3_cX12_cuts_0_a 36 rfl
theorem dX12_cuts_57 : decode cX12_cuts 57 = .ok (.if_icmp .eq 25, 3) := dkAt dk07ref3_cX12_cuts_0_a 37 rfl
theorem dX12_cuts_60 : decode cX12_cuts 60 = .ok (.aload_n 0, 1) := dkAt dk07ref3_cX12_cuts_0_a 38 rfl
theorem dX12_cuts_61 : decode cX12_cuts 61 = .ok (.iload_n 1, 1) := dkAt dk07ref3_cX12_cuts_0_a 39 rfl
noncomputable def dk07ref3_cX12_cuts_40 : List (Nat × Instr × Nat) := [(62, .iload_n 2, 1), (63, .iconst 1, 1), (64, .iload 4, 2), (66, .ishl, 1), (67, .invokevirtual 195, 3), (70, .bipush (-5), 2), (72, .if_icmp .ne 10, 3), (75, .iconst 1, 1), (76, .iload 4, 2), (78, .ishl, 1), (79, .goto 4, 3), (31, .iconst 0, 1), (32, .ireturn, 1), (16, .iconst (-1), 1), (17, .ireturn, 1)]
set_option maxRecDepth 100000 in
theorem dk07ref3_cX12_cuts_40_a : dkA cX12_cuts dk07ref3_cX12_cuts_40 = true := by decide +kernel
theorem dX12_cuts_62 : decode cX12_cuts 62 = .ok (.iload_n 2, 1) := dkAt dk07ref3_cX12_cuts_40_a 0 rfl
theorem dX12_cuts_63 : decode cX12_cuts 63 = .ok (.iconst 1, 1) := dkAt dk07ref3_cX12_cuts_40_a 1 rfl
theorem dX12_cuts_64 : decode cX12_cuts 64 = .ok (.iload 4, 2) := dkAt dk07ref3_cX12_cuts_40_a 2 rfl
theorem dX12_cuts_66 : decode cX12_cuts 66 = .ok (.ishl, 1) := dkAt dk07ref3_cX12_cuts_40_a 3 rfl
theorem dX12_cuts_67 : decode cX12_cuts 67 = .ok (.invokevirtual 195, 3) := dkAt dk07ref3_cX12_cuts_40_a 4 rfl
theorem dX12_cuts_70 : decode cX12_cuts 70 = .ok (.bipush (-5), 2) := dkAt dk07ref3_cX12_cuts_40_a 5 rfl
theorem dX12_cuts_72 : decode cX12_cuts 72 = .ok (.if_icmp .ne 10, 3) := dkAt dk07ref3_cX12_cuts_40_a 6 rfl
theorem dX12_cuts_75 : decode cX12_cuts 75 = .ok (.iconst 1, 1) := dkAt dk07ref3_cX12_cuts_40_a 7 rfl
theorem dX12_cuts_76 : decode cX12_cuts 76 = .ok (.iload 4, 2) := dkAt dk07ref3_cX12_cuts_40_a 8 rfl
theorem dX12_cuts_78 : decode cX12_cuts 78 = .ok (.ishl, 1) := dkAt dk07ref3_cX12_cuts_40_a 9 rfl
theorem dX12_cuts_79 : decode cX12_cuts 79 = .ok (.goto 4, 3) := dkAt dk07ref3_cX12_cuts_40_a 10 rfl
theorem dX12_cuts_31 : decode cX12_cuts 31 = .ok (.iconst 0, 1) := dkAt dk07ref3_cX12_cuts_40_a 11 rfl
theorem dX12_cuts_32 : decode cX12_cuts 32 = .ok (.ireturn, 1) := dkAt dk07ref3_cX12_cuts_40_a 12 rfl
theorem dX12_cuts_16 : decode cX12_cuts 16 = .ok (.iconst (-1), 1) := dkAt dk07ref3_cX12_cuts_40_a 13 rfl
theorem dX12_cuts_17 : decode cX12_cuts 17 = .ok (.ireturn, 1) := dkAt dk07ref3_cX12_cuts_40_a 14 rfl
theorem kc_doesGo_0 : ∀ w ∈ wsX120, w ∈ wsX12_doesGo := fun w h => List.mem_cons_of_mem _ (gin_wsX120 w h)
theorem kc_doesGo_1 : (.fieldLink RX12 9 "MistHeapsModel" "s" "[I" : Cond) ∈ wsX12_doesGo := kc_of 1141 rfl rfl rfl
set_option maxHeartbeats 4000000 in
set_option maxRecDepth 100000 in
theorem c_doesGo (l : Launch) (dC : Nat → ClassId) (dI : Nat → Nat → Nat) (m0 aS aI aB aT aG aO aN aD aY : Nat) (th im ac sp en wg op se dn rn kd nu tv : Int32) (bv : Int64) (cS cB cT : ClassId) (fS : Nat → Int32) (fB : Nat → Int32) (fT : Nat → Int32) (a b : Nat) (cz : List pCla) (sz : Nat) (ga : a ≤ 8) (gb : b ≤ 8) (zh : hol fS cz) : Met l yX12_doesGo wsX12_doesGo ({ frames := 3, cells := 0, slots := 0, locals := 77 } : Room) (va_Pc [.ref m0, .int (nI a), .int (nI b)] (fun U => U.heap.size = sz ∧ va_P (dC, dI) vwCl [(zo14irriiiiiirriirrrrlriiii m0 th aS aI im ac sp en wg op aB aT se dn aG aO aN aD bv aY rn kd nu tv), (zaI aS cS 901 fS), (zaI aB cB 6 fB), (zaI aT cT 64 fT)] U.heap ∧ va_K (dC, dI) vwCl [(cS, .int), (cB, .int), (cT, .boolean)] U ∧ va_D (fun _ => True) [(zo14irriiiiiirriirrrrlriiii m0 th aS aI im ac sp en wg op aB aT se dn aG aO aN aD bv aY rn kd nu tv), (zaI aS cS 901 fS), (zaI aB cB 6 fB), (zaI aT cT 64 fT)])) (va_Qi (fun (r : Int32) (u : (Nat → Int32) × (Nat → Int32) × (Int32) × (Int32)) => match u with | (fB9, fT9, se9, dn9) => (r = 1 ∧ goF fS cz a b) ∨ (r = 0 ∧ ¬ goF fS cz a b)) (fun (u : (Nat → Int32) × (Nat → Int32) × (Int32) × (Int32)) (t : State) => match u with | (fB9, fT9, se9, dn9) => va_P (dC, dI) vwCl [(zo14irriiiiiirriirrrrlriiii m0 th aS aI im ac sp en wg op aB aT se9 dn9 aG aO aN aD bv aY rn kd nu tv), (zaI aS cS 901 fS), (zaI aB cB 6 fB9), (zaI aT cT 64 fT9)] t.heap ∧ va_K (dC, dI) vwCl [(cS, .int), (cB, .int), (cT, .boolean)] t ∧ va_D (va_A [(zo14irriiiiiirriirrrrlriiii m0 th aS aI im ac sp en wg op aB aT se dn aG aO aN aD bv aY rn kd nu tv), (zaI aS cS 901 fS), (zaI aB cB 6 fB), (zaI aT cT 64 fT)] sz) [(zo14irriiiiiirriirrrrlriiii m0 th aS aI im ac sp en wg op aB aT se9 dn9 aG aO aN aD bv aY rn kd nu tv), (zaI aS cS 901 fS), (zaI aB cB 6 fB9), (zaI aT cT 64 fT9)]) (va_A [(zo14irriiiiiirriirrrrlriiii m0 th aS aI im ac sp en wg op aB aT se dn aG aO aN aD bv aY rn kd nu tv), (zaI aS cS 901 fS), (zaI aB cB 6 fB), (zaI aT cT 64 fT)] sz)) 0 0 (va_A [(zo14irriiiiiirriirrrrlriiii m0 th aS aI im ac sp en wg op aB aT se dn aG aO aN aD bv aY rn kd nu tv), (zaI aS cS 901 fS), (zaI aB cB 6 fB), (zaI aT cT 64 fT)] sz) := by
  refine met_ofQ (cc := cX12_doesGo) (maxL := 7) (ret := (some .boolean)) (by decide) rfl ?_
  intro p e s m args below meth c s₁ Q B hml hv hQ
  obtain ⟨rfl, hsz, hP, hK, hD0⟩ := hv
  have hx := B.exec
  have hb := B.bytes
  have hr := B.returns
  have hts := atoms_spec (ws := wsX12_doesGo) B.pre
  have hown : s.vm.findClass RX12 = some m.cls := findClass_of_methodNamed B.named
  have hlocks := B.notSynchronized
  subst hsz
  have hD := hD0.self (sz := s.heap.size)
  generalize hAe : va_A [(zo14irriiiiiirriirrrrlriiii m0 th aS aI im ac sp en wg op aB aT se dn aG aO aN aD bv aY rn kd nu tv), (zaI aS cS 901 fS), (zaI aB cB 6 fB), (zaI aT cT 64 fT)] s.heap.size = A at hD hQ ⊢
  have hA : ∀ q : Nat, s.heap.size ≤ q → A q := fun q h => by rw [← hAe]; exact Or.inr h
  have hS : va_S A s.heap s.heap [] := va_S.rf
  have hl := lv_entry [.ref m0, .int (nI a), .int (nI b)] (n := 7) (Nat.le_of_ble_eq_true rfl)
  rw [lg_entry_eq]
  generalize (lg_sl [.ref m0, .int (nI a), .int (nI b)] ++ List.replicate (7 - (lg_sl [.ref m0, .int (nI a), .int (nI b)]).length) Slot.unset).toArray = ls at hl ⊢
  generalize hag : ([.ref m0, .int (nI a), .int (nI b)] : List Value).toArray = args at hts hQ ⊢
  have hl : lv_has ls 7 [(0, .ref m0), (1, .int (nI a)), (2, .int (nI b))] := hl
  obtain ⟨H, hH⟩ : ∃ H : Heap, H = s.heap := ⟨_, rfl⟩
  rw [← hH] at hP
  rw [← hH]
  have hS : va_S A s.heap H [] := by rw [hH]; exact hS
  obtain ⟨locs, hlo⟩ : ∃ L : List Loc, L = [] := ⟨_, rfl⟩
  rw [← hlo] at hS
  rw [← hlo]
  clear hH hlo
  refine lv_aload_n hx hb dX12_doesGo_0 rfl (lv_at hl 0 rfl) ?_
  refine va_get (D := (dC, dI)) (ci := 14) (v := .ref aS) (C := RX12) (T := TX12) (N := 23) hx hb hts kc_doesGo_0 hown hK hP 0 rfl rfl 1 (by decide) (hts (.fieldLink RX12 9 "MistHeapsModel" "s" "[I") kc_doesGo_1) (fun _ h9 => h9) rfl dX12_doesGo_1 ?_
  refine lv_bipush (v := 10) hx hb dX12_doesGo_4 (by decide) ?_
  refine lv_iload_n hx hb dX12_doesGo_6 rfl (lv_at hl 1 rfl) ?_
  refine lv_iadd hx hb dX12_doesGo_7 ?_
  refine qi_as (y := nI (10 + a)) (nI_add 10 a) ?_
  refine va_iald hx hb hK hP 1 0 rfl rfl (vp_in_nI (n := 10 + a) (N := 901) (by omega) (by omega)) dX12_doesGo_8 ?_
  refine qi_as (y := fS (10 + a)) (by rw [nI_clamp (by omega)]) ?_
  refine lv_istore_n (lv' := [(3, .int (fS (10 + a))), (0, .ref m0), (1, .int (nI a)), (2, .int (nI b))]) hx hb dX12_doesGo_9 rfl hl (by decide) rfl (fun ls hl => ?_)
  refine lv_iload_n hx hb dX12_doesGo_10 rfl (lv_at hl 2 rfl) ?_
  refine lv_iload_n hx hb dX12_doesGo_11 rfl (lv_at hl 3 rfl) ?_
  refine lv_icmp_eq (tgt := 43) hx hb dX12_doesGo_12 (by decide) (fun c_1 => ?_) (fun c_1 => ?_)
  · skip
    have c_1 : a = b := (nI_eq (a := a) (b := b) (by omega) (by omega)).mp c_1
    refine lv_iconst (v := 0) hx hb dX12_doesGo_43 (by decide) ?_
    rw [hQ]
    have hP9 := hP.sub (ws' := [(zo14irriiiiiirriirrrrlriiii m0 th aS aI im ac sp en wg op aB aT se dn aG aO aN aD bv aY rn kd nu tv), (zaI aS cS 901 fS), (zaI aB cB 6 fB), (zaI aT cT 64 fT)]) [0, 1, 2, 3] rfl
    have hD9 := hD.sub (ws' := [(zo14irriiiiiirriirrrrlriiii m0 th aS aI im ac sp en wg op aB aT se dn aG aO aN aD bv aY rn kd nu tv), (zaI aS cS 901 fS), (zaI aB cB 6 fB), (zaI aT cT 64 fT)]) [0, 1, 2, 3] (by decide) rfl
    have hK9 := hK.sub (tys' := [(cS, .int), (cB, .int), (cT, .boolean)]) [0, 1, 2] rfl
    exact W.zret (v := 0) hx hb hr rfl (fun tQ htQ hWQ => ⟨⟨0, (fB, fT, se, dn), rfl, Or.inr ⟨rfl, by first | exact go_eq (by assumption) | exact go_3 (by assumption) | exact go_6 (by assumption) | exact go_un (by assumption) | exact go_r (by assumption) (by assumption) | exact go_c (by assumption) (by assumption)⟩, by rw [htQ]; exact hP9, va_K.moved hWQ.alike hK9, hD9⟩, hS.F htQ⟩) hS.2.2 dX12_doesGo_44
  · skip
    have c_1 : ¬ a = b := fun q => c_1 ((nI_eq (a := a) (b := b) (by omega) (by omega)).mpr q)
    refine lv_iload_n hx hb dX12_doesGo_15 rfl (lv_at hl 0 rfl) ?_
    refine lv_iconst (v := 3) hx hb dX12_doesGo_16 (by decide) ?_
    refine lv_icmp_eq (tgt := 43) hx hb dX12_doesGo_17 (by decide) (fun c_2 => ?_) (fun c_2 => ?_)
    · skip
      refine lv_iconst (v := 0) hx hb dX12_doesGo_43 (by decide) ?_
      rw [hQ]
      have hP9 := hP.sub (ws' := [(zo14irriiiiiirriirrrrlriiii m0 th aS aI im ac sp en wg op aB aT se dn aG aO aN aD bv aY rn kd nu tv), (zaI aS cS 901 fS), (zaI aB cB 6 fB), (zaI aT cT 64 fT)]) [0, 1, 2, 3] rfl
      have hD9 := hD.sub (ws' := [(zo14irriiiiiirriirrrrlriiii m0 th aS aI im ac sp en wg op aB aT se dn aG aO aN aD bv aY rn kd nu tv), (zaI aS cS 901 fS), (zaI aB cB 6 fB), (zaI aT cT 64 fT)]) [0, 1, 2, 3] (by decide) rfl
      have hK9 := hK.sub (tys' := [(cS, .int), (cB, .int), (cT, .boolean)]) [0, 1, 2] rfl
      exact W.zret (v := 0) hx hb hr rfl (fun tQ htQ hWQ => ⟨⟨0, (fB, fT, se, dn), rfl, Or.inr ⟨rfl, by first | exact go_eq (by assumption) | exact go_3 (by assumption) | exact go_6 (by assumption) | exact go_un (by assumption) | exact go_r (by assumption) (by assumption) | exact go_c (by assumption) (by assumption)⟩, by rw [htQ]; exact hP9, va_K.moved hWQ.alike hK9, hD9⟩, hS.F htQ⟩) hS.2.2 dX12_doesGo_44
    · skip
      refine lv_iload_n hx hb dX12_doesGo_20 rfl (lv_at hl 0 rfl) ?_
      refine lv_bipush (v := 6) hx hb dX12_doesGo_21 (by decide) ?_
      refine lv_icmp_eq (tgt := 43) hx hb dX12_doesGo_23 (by decide) (fun c_3 => ?_) (fun c_3 => ?_)
      · skip
        refine lv_iconst (v := 0) hx hb dX12_doesGo_43 (by decide) ?_
        rw [hQ]
        have hP9 := hP.sub (ws' := [(zo14irriiiiiirriirrrrlriiii m0 th aS aI im ac sp en wg op aB aT se dn aG aO aN aD bv aY rn kd nu tv), (zaI aS cS 901 fS), (zaI aB cB 6 fB), (zaI aT cT 64 fT)]) [0, 1, 2, 3] rfl
        have hD9 := hD.sub (ws' := [(zo14irriiiiiirriirrrrlriiii m0 th aS aI im ac sp en wg op aB aT se dn aG aO aN aD bv aY rn kd nu tv), (zaI aS cS 901 fS), (zaI aB cB 6 fB), (zaI aT cT 64 fT)]) [0, 1, 2, 3] (by decide) rfl
        have hK9 := hK.sub (tys' := [(cS, .int), (cB, .int), (cT, .boolean)]) [0, 1, 2] rfl
        exact W.zret (v := 0) hx hb hr rfl (fun tQ htQ hWQ => ⟨⟨0, (fB, fT, se, dn), rfl, Or.inr ⟨rfl, by first | exact go_eq (by assumption) | exact go_3 (by assumption) | exact go_6 (by assumption) | exact go_un (by assumption) | exact go_r (by assumption) (by assumption) | exact go_c (by assumption) (by assumption)⟩, by rw [htQ]; exact hP9, va_K.moved hWQ.alike hK9, hD9⟩, hS.F htQ⟩) hS.2.2 dX12_doesGo_44
      · skip
        refine lv_aload_n hx hb dX12_doesGo_26 rfl (lv_at hl 1 rfl) ?_
        refine lv_iload_n hx hb dX12_doesGo_27 rfl (lv_at hl 3 rfl) ?_
        refine lv_aload_n hx hb dX12_doesGo_28 rfl (lv_at hl 1 rfl) ?_
        refine va_get (D := (dC, dI)) (ci := 14) (v := .ref aS) (C := RX12) (T := TX12) (N := 23) hx hb hts kc_doesGo_0 hown hK hP 0 rfl rfl 1 (by decide) (hts (.fieldLink RX12 9 "MistHeapsModel" "s" "[I") kc_doesGo_1) (fun _ h9 => h9) rfl dX12_doesGo_29 ?_
        refine lv_bipush (v := 28) hx hb dX12_doesGo_32 (by decide) ?_
        refine lv_iload_n hx hb dX12_doesGo_34 rfl (lv_at hl 2 rfl) ?_
        refine lv_iadd hx hb dX12_doesGo_35 ?_
        refine qi_as (y := nI (28 + a)) (nI_add 28 a) ?_
        refine va_iald hx hb hK hP 1 0 rfl rfl (vp_in_nI (n := 28 + a) (N := 901) (by omega) (by omega)) dX12_doesGo_36 ?_
        refine qi_as (y := fS (28 + a)) (by rw [nI_clamp (by omega)]) ?_
        have hPc := hP.sub (ws' := [(zo14irriiiiiirriirrrrlriiii m0 th aS aI im ac sp en wg op aB aT se dn aG aO aN aD bv aY rn kd nu tv), (zaI aS cS 901 fS), (zaI aB cB 6 fB), (zaI aT cT 64 fT)]) [0, 1, 2, 3] rfl
        have hDc := hD.sub (ws' := [(zo14irriiiiiirriirrrrlriiii m0 th aS aI im ac sp en wg op aB aT se dn aG aO aN aD bv aY rn kd nu tv), (zaI aS cS 901 fS), (zaI aB cB 6 fB), (zaI aT cT 64 fT)]) [0, 1, 2, 3] (by decide) rfl
        have hKc := hK.sub (tys' := [(cS, .int), (cB, .int), (cT, .boolean)]) [0, 1, 2] rfl
        have hFc := va_free (wc := [(zo14irriiiiiirriirrrrlriiii m0 th aS aI im ac sp en wg op aB aT se dn aG aO aN aD bv aY rn kd nu tv), (zaI aS cS 901 fS), (zaI aB cB 6 fB), (zaI aT cT 64 fT)]) hD hS hA [0, 1, 2, 3] rfl
        refine va_calli (va_runV (As := [.int (nI b), .int (fS (28 + a))]) (rest := []) ⟨hx, hb, hml, hown, hts⟩ (c_isSeen l dC dI m0 aS aI aB aT aG aO aN aD aY th im ac sp en wg op se dn rn kd nu tv bv cS cB cT fS fB fT b (fS (28 + a)) cz H.size (by omega) (zh)) (cwV 2 hts gX12_doesGo_X12_isSeen rfl rfl rfl hd_yX12_isSeen ⟨Nat.le_of_ble_eq_true rfl, Nat.le_of_ble_eq_true rfl⟩) ⟨fun a U g mk q => by obtain ⟨q0, q1, qP, qK, qD⟩ := q; exact ⟨q0, q1, qP, va_K.moved (u := U) (U := U.calling g mk a) (Vm.Alike.refl U.vm) qK, qD⟩, va_recv hK hP (ci := 14) (q := (RX12, TX12, 23)) (q0 := 0) rfl rfl, fun U hU hW => ⟨rfl, by rw [hU], by rw [hU]; exact hPc, va_K.moved hW.alike hKc, hDc.weaken (fun _ _ _ _ => trivial)⟩⟩ rfl rfl hl.1 rfl (lv_room (Nat.le_of_ble_eq_true rfl)) dX12_doesGo_37 ⟨Nat.le_of_ble_eq_true rfl, Nat.le_of_ble_eq_true rfl⟩) hS (fun q _ h => hFc q h) hFc (fun r_4 u tC H1 locs htC hvm hw_5 hB hz1 hk1 hS => ?_)
        obtain ⟨fB9_6, fT9_7, se9_8, dn9_9⟩ := u
        try dsimp only at hw_5 hB
        obtain ⟨hP1, hK1, hD1⟩ := hB
        rw [htC] at hP1
        have hK1 := va_K.moved hvm.symm hK1
        obtain ⟨hP, hD⟩ := va_join (wr := []) (w1 := [(zo14irriiiiiirriirrrrlriiii m0 th aS aI im ac sp en wg op aB aT se9_8 dn9_9 aG aO aN aD bv aY rn kd nu tv), (zaI aS cS 901 fS), (zaI aB cB 6 fB9_6), (zaI aT cT 64 fT9_7)]) hP hD [0, 1, 2, 3] [] rfl rfl (by decide) (by decide) hk1 hFc hP1 hD1
        have hK := (hK.sub (tys' := []) [] rfl).app hK1
        generalize H1 = H at hP hS ⊢
        have hP : va_P (dC, dI) vwCl [(zo14irriiiiiirriirrrrlriiii m0 th aS aI im ac sp en wg op aB aT se9_8 dn9_9 aG aO aN aD bv aY rn kd nu tv), (zaI aS cS 901 fS), (zaI aB cB 6 fB9_6), (zaI aT cT 64 fT9_7)] H := hP
        have hD : va_D A [(zo14irriiiiiirriirrrrlriiii m0 th aS aI im ac sp en wg op aB aT se9_8 dn9_9 aG aO aN aD bv aY rn kd nu tv), (zaI aS cS 901 fS), (zaI aB cB 6 fB9_6), (zaI aT cT 64 fT9_7)] := hD
        have hK : va_K (dC, dI) vwCl [(cS, .int), (cB, .int), (cT, .boolean)] s := hK
        rcases hw_5 with ⟨rfl, hs_10⟩ | ⟨rfl, hs_10⟩
        · skip
          refine lv_if_ne (tgt := 45) hx hb dX12_doesGo_40 (by decide) (fun _ => ?_) (fun c_11 => absurd c_11 (by decide))
          refine lv_aload_n hx hb dX12_doesGo_45 rfl (lv_at hl 1 rfl) ?_
          refine va_get (D := (dC, dI)) (ci := 14) (v := .ref aS) (C := RX12) (T := TX12) (N := 23) hx hb hts kc_doesGo_0 hown hK hP 0 rfl rfl 1 (by decide) (hts (.fieldLink RX12 9 "MistHeapsModel" "s" "[I") kc_doesGo_1) (fun _ h9 => h9) rfl dX12_doesGo_46 ?_
          refine lv_bipush (v := 19) hx hb dX12_doesGo_49 (by decide) ?_
          refine lv_iload_n hx hb dX12_doesGo_51 rfl (lv_at hl 2 rfl) ?_
          refine lv_iadd hx hb dX12_doesGo_52 ?_
          refine qi_as (y := nI (19 + a)) (nI_add 19 a) ?_
          refine va_iald hx hb hK hP 1 0 rfl rfl (vp_in_nI (n := 19 + a) (N := 901) (by omega) (by omega)) dX12_doesGo_53 ?_
          refine qi_as (y := fS (19 + a)) (by rw [nI_clamp (by omega)]) ?_
          refine lv_bipush (v := 8) hx hb dX12_doesGo_54 (by decide) ?_
          refine lv_irem hx hb dX12_doesGo_56 (by decide) ?_
          refine lv_istore (lv' := [(4, .int ((fS (19 + a)) - (fS (19 + a)) / 8 * 8)), (3, .int (fS (10 + a))), (0, .ref m0), (1, .int (nI a)), (2, .int (nI b))]) hx hb dX12_doesGo_57 hl (by decide) rfl (fun ls hl => ?_)
          refine lv_aload_n hx hb dX12_doesGo_59 rfl (lv_at hl 2 rfl) ?_
          refine va_get (D := (dC, dI)) (ci := 14) (v := .ref aS) (C := RX12) (T := TX12) (N := 23) hx hb hts kc_doesGo_0 hown hK hP 0 rfl rfl 1 (by decide) (hts (.fieldLink RX12 9 "MistHeapsModel" "s" "[I") kc_doesGo_1) (fun _ h9 => h9) rfl dX12_doesGo_60 ?_
          refine lv_bipush (v := 28) hx hb dX12_doesGo_63 (by decide) ?_
          refine lv_iload_n hx hb dX12_doesGo_65 rfl (lv_at hl 3 rfl) ?_
          refine lv_iadd hx hb dX12_doesGo_66 ?_
          refine qi_as (y := nI (28 + a)) (nI_add 28 a) ?_
          refine va_iald hx hb hK hP 1 0 rfl rfl (vp_in_nI (n := 28 + a) (N := 901) (by omega) (by omega)) dX12_doesGo_67 ?_
          refine qi_as (y := fS (28 + a)) (by rw [nI_clamp (by omega)]) ?_
          refine lv_istore (lv' := [(5, .int (fS (28 + a))), (4, .int ((fS (19 + a)) - (fS (19 + a)) / 8 * 8)), (3, .int (fS (10 + a))), (0, .ref m0), (1, .int (nI a)), (2, .int (nI b))]) hx hb dX12_doesGo_68 hl (by decide) rfl (fun ls hl => ?_)
          refine lv_aload_n hx hb dX12_doesGo_70 rfl (lv_at hl 3 rfl) ?_
          refine va_get (D := (dC, dI)) (ci := 14) (v := .ref aS) (C := RX12) (T := TX12) (N := 23) hx hb hts kc_doesGo_0 hown hK hP 0 rfl rfl 1 (by decide) (hts (.fieldLink RX12 9 "MistHeapsModel" "s" "[I") kc_doesGo_1) (fun _ h9 => h9) rfl dX12_doesGo_71 ?_
          refine lv_bipush (v := 28) hx hb dX12_doesGo_74 (by decide) ?_
          refine lv_iload_n hx hb dX12_doesGo_76 rfl (lv_at hl 5 rfl) ?_
          refine lv_iadd hx hb dX12_doesGo_77 ?_
          refine qi_as (y := nI (28 + b)) (nI_add 28 b) ?_
          refine va_iald hx hb hK hP 1 0 rfl rfl (vp_in_nI (n := 28 + b) (N := 901) (by omega) (by omega)) dX12_doesGo_78 ?_
          refine qi_as (y := fS (28 + b)) (by rw [nI_clamp (by omega)]) ?_
          refine lv_istore (lv' := [(6, .int (fS (28 + b))), (5, .int (fS (28 + a))), (4, .int ((fS (19 + a)) - (fS (19 + a)) / 8 * 8)), (3, .int (fS (10 + a))), (0, .ref m0), (1, .int (nI a)), (2, .int (nI b))]) hx hb dX12_doesGo_79 hl (by decide) rfl (fun ls hl => ?_)
          refine lv_iload_n hx hb dX12_doesGo_81 rfl (lv_at hl 3 rfl) ?_
          refine lv_iconst (v := 4) hx hb dX12_doesGo_82 (by decide) ?_
          refine lv_icmp_ne (tgt := 128) hx hb dX12_doesGo_83 (by decide) (fun c_12 => ?_) (fun c_12 => ?_)
          · skip
            refine lv_iconst (v := 1) hx hb dX12_doesGo_128 (by decide) ?_
            refine lv_goto (tgt := 133) hx hb dX12_doesGo_129 (by decide) ?_
            rw [hQ]
            have hP9 := hP.sub (ws' := [(zo14irriiiiiirriirrrrlriiii m0 th aS aI im ac sp en wg op aB aT se9_8 dn9_9 aG aO aN aD bv aY rn kd nu tv), (zaI aS cS 901 fS), (zaI aB cB 6 fB9_6), (zaI aT cT 64 fT9_7)]) [0, 1, 2, 3] rfl
            have hD9 := hD.sub (ws' := [(zo14irriiiiiirriirrrrlriiii m0 th aS aI im ac sp en wg op aB aT se9_8 dn9_9 aG aO aN aD bv aY rn kd nu tv), (zaI aS cS 901 fS), (zaI aB cB 6 fB9_6), (zaI aT cT 64 fT9_7)]) [0, 1, 2, 3] (by decide) rfl
            have hK9 := hK.sub (tys' := [(cS, .int), (cB, .int), (cT, .boolean)]) [0, 1, 2] rfl
            exact W.zret (v := 1) hx hb hr rfl (fun tQ htQ hWQ => ⟨⟨1, (fB9_6, fT9_7, se9_8, dn9_9), rfl, Or.inl ⟨rfl, by first | exact go_yes (by assumption) (by assumption) (by assumption) (by assumption) (by assumption) | exact go_yes4 (by assumption) (by assumption) (by assumption) (by assumption) (by assumption) (by assumption)⟩, by rw [htQ]; exact hP9, va_K.moved hWQ.alike hK9, hD9⟩, hS.F htQ⟩) hS.2.2 dX12_doesGo_133
          · skip
            refine lv_iload hx hb dX12_doesGo_86 (lv_at hl 2 rfl) ?_
            refine vp_callSi (va_runS (As := [.int ((fS (19 + a)) - (fS (19 + a)) / 8 * 8)]) (rest := []) ⟨hx, hb, hml, hown, hts⟩ (c_rowsOf l dC dI ((fS (19 + a)) - (fS (19 + a)) / 8 * 8)) (va_cwS 1 hts gX12_doesGo_X12_rowsOf rfl rfl rfl hd_yX12_rowsOf.2 ⟨Nat.le_of_ble_eq_true rfl, Nat.le_of_ble_eq_true rfl⟩) ⟨fun a U g mk q => ⟨q.1, trivial⟩, fun U hU hW => ⟨rfl, trivial⟩⟩ rfl rfl hl.1 rfl (lv_room (Nat.le_of_ble_eq_true rfl)) dX12_doesGo_88 ⟨Nat.le_of_ble_eq_true rfl, Nat.le_of_ble_eq_true rfl⟩).run (fun r_13 hw_14 => ?_)
            obtain rfl := hw_14
            refine lv_iload hx hb dX12_doesGo_91 (lv_at hl 1 rfl) ?_
            refine lv_bipush (v := 6) hx hb dX12_doesGo_93 (by decide) ?_
            refine lv_idiv hx hb dX12_doesGo_95 (by decide) ?_
            refine lv_iload hx hb dX12_doesGo_96 (lv_at hl 0 rfl) ?_
            refine lv_bipush (v := 6) hx hb dX12_doesGo_98 (by decide) ?_
            refine lv_idiv hx hb dX12_doesGo_100 (by decide) ?_
            refine vp_callSi (va_runS (As := [.int (rwR ((fS (19 + a)) - (fS (19 + a)) / 8 * 8)), .int ((fS (28 + a)) / 6), .int ((fS (28 + b)) / 6)]) (rest := []) ⟨hx, hb, hml, hown, hts⟩ (c_side l dC dI (rwR ((fS (19 + a)) - (fS (19 + a)) / 8 * 8)) ((fS (28 + a)) / 6) ((fS (28 + b)) / 6)) (va_cwS 3 hts gX12_doesGo_X12_isThatSide rfl rfl rfl hd_yX12_isThatSide.2 ⟨Nat.le_of_ble_eq_true rfl, Nat.le_of_ble_eq_true rfl⟩) ⟨fun a U g mk q => ⟨q.1, trivial⟩, fun U hU hW => ⟨rfl, trivial⟩⟩ rfl rfl hl.1 rfl (lv_room (Nat.le_of_ble_eq_true rfl)) dX12_doesGo_101 ⟨Nat.le_of_ble_eq_true rfl, Nat.le_of_ble_eq_true rfl⟩).run (fun r_15 hw_16 => ?_)
            rcases hw_16 with ⟨rfl, hd_17⟩ | ⟨rfl, hd_17⟩
            · skip
              refine lv_if_eq (tgt := 132) hx hb dX12_doesGo_104 (by decide) (fun c_18 => absurd c_18 (by decide)) (fun _ => ?_)
              refine lv_iload hx hb dX12_doesGo_107 (lv_at hl 2 rfl) ?_
              refine vp_callSi (va_runS (As := [.int ((fS (19 + a)) - (fS (19 + a)) / 8 * 8)]) (rest := []) ⟨hx, hb, hml, hown, hts⟩ (c_columnsOf l dC dI ((fS (19 + a)) - (fS (19 + a)) / 8 * 8)) (va_cwS 1 hts gX12_doesGo_X12_columnsOf rfl rfl rfl hd_yX12_columnsOf.2 ⟨Nat.le_of_ble_eq_true rfl, Nat.le_of_ble_eq_true rfl⟩) ⟨fun a U g mk q => ⟨q.1, trivial⟩, fun U hU hW => ⟨rfl, trivial⟩⟩ rfl rfl hl.1 rfl (lv_room (Nat.le_of_ble_eq_true rfl)) dX12_doesGo_109 ⟨Nat.le_of_ble_eq_true rfl, Nat.le_of_ble_eq_true rfl⟩).run (fun r_19 hw_20 => ?_)
              obtain rfl := hw_20
              refine lv_iload hx hb dX12_doesGo_112 (lv_at hl 1 rfl) ?_
              refine lv_bipush (v := 6) hx hb dX12_doesGo_114 (by decide) ?_
              refine lv_irem hx hb dX12_doesGo_116 (by decide) ?_
              refine lv_iload hx hb dX12_doesGo_117 (lv_at hl 0 rfl) ?_
              refine lv_bipush (v := 6) hx hb dX12_doesGo_119 (by decide) ?_
              refine lv_irem hx hb dX12_doesGo_121 (by decide) ?_
              refine vp_callSi (va_runS (As := [.int (clR ((fS (19 + a)) - (fS (19 + a)) / 8 * 8)), .int ((fS (28 + a)) - (fS (28 + a)) / 6 * 6), .int ((fS (28 + b)) - (fS (28 + b)) / 6 * 6)]) (rest := []) ⟨hx, hb, hml, hown, hts⟩ (c_side l dC dI (clR ((fS (19 + a)) - (fS (19 + a)) / 8 * 8)) ((fS (28 + a)) - (fS (28 + a)) / 6 * 6) ((fS (28 + b)) - (fS (28 + b)) / 6 * 6)) (va_cwS 3 hts gX12_doesGo_X12_isThatSide rfl rfl rfl hd_yX12_isThatSide.2 ⟨Nat.le_of_ble_eq_true rfl, Nat.le_of_ble_eq_true rfl⟩) ⟨fun a U g mk q => ⟨q.1, trivial⟩, fun U hU hW => ⟨rfl, trivial⟩⟩ rfl rfl hl.1 rfl (lv_room (Nat.le_of_ble_eq_true rfl)) dX12_doesGo_122 ⟨Nat.le_of_ble_eq_true rfl, Nat.le_of_ble_eq_true rfl⟩).run (fun r_21 hw_22 => ?_)
              rcases hw_22 with ⟨rfl, hd_23⟩ | ⟨rfl, hd_23⟩
              · skip
                refine lv_if_eq (tgt := 132) hx hb dX12_doesGo_125 (by decide) (fun c_24 => absurd c_24 (by decide)) (fun _ => ?_)
                refine lv_iconst (v := 1) hx hb dX12_doesGo_128 (by decide) ?_
                refine lv_goto (tgt := 133) hx hb dX12_doesGo_129 (by decide) ?_
                rw [hQ]
                have hP9 := hP.sub (ws' := [(zo14irriiiiiirriirrrrlriiii m0 th aS aI im ac sp en wg op aB aT se9_8 dn9_9 aG aO aN aD bv aY rn kd nu tv), (zaI aS cS 901 fS), (zaI aB cB 6 fB9_6), (zaI aT cT 64 fT9_7)]) [0, 1, 2, 3] rfl
                have hD9 := hD.sub (ws' := [(zo14irriiiiiirriirrrrlriiii m0 th aS aI im ac sp en wg op aB aT se9_8 dn9_9 aG aO aN aD bv aY rn kd nu tv), (zaI aS cS 901 fS), (zaI aB cB 6 fB9_6), (zaI aT cT 64 fT9_7)]) [0, 1, 2, 3] (by decide) rfl
                have hK9 := hK.sub (tys' := [(cS, .int), (cB, .int), (cT, .boolean)]) [0, 1, 2] rfl
                exact W.zret (v := 1) hx hb hr rfl (fun tQ htQ hWQ => ⟨⟨1, (fB9_6, fT9_7, se9_8, dn9_9), rfl, Or.inl ⟨rfl, by first | exact go_yes (by assumption) (by assumption) (by assumption) (by assumption) (by assumption) | exact go_yes4 (by assumption) (by assumption) (by assumption) (by assumption) (by assumption) (by assumption)⟩, by rw [htQ]; exact hP9, va_K.moved hWQ.alike hK9, hD9⟩, hS.F htQ⟩) hS.2.2 dX12_doesGo_133
              · skip
                refine lv_if_eq (tgt := 132) hx hb dX12_doesGo_125 (by decide) (fun _ => ?_) (fun c_25 => absurd c_25 (by decide))
                refine lv_iconst (v := 0) hx hb dX12_doesGo_132 (by decide) ?_
                rw [hQ]
                have hP9 := hP.sub (ws' := [(zo14irriiiiiirriirrrrlriiii m0 th aS aI im ac sp en wg op aB aT se9_8 dn9_9 aG aO aN aD bv aY rn kd nu tv), (zaI aS cS 901 fS), (zaI aB cB 6 fB9_6), (zaI aT cT 64 fT9_7)]) [0, 1, 2, 3] rfl
                have hD9 := hD.sub (ws' := [(zo14irriiiiiirriirrrrlriiii m0 th aS aI im ac sp en wg op aB aT se9_8 dn9_9 aG aO aN aD bv aY rn kd nu tv), (zaI aS cS 901 fS), (zaI aB cB 6 fB9_6), (zaI aT cT 64 fT9_7)]) [0, 1, 2, 3] (by decide) rfl
                have hK9 := hK.sub (tys' := [(cS, .int), (cB, .int), (cT, .boolean)]) [0, 1, 2] rfl
                exact W.zret (v := 0) hx hb hr rfl (fun tQ htQ hWQ => ⟨⟨0, (fB9_6, fT9_7, se9_8, dn9_9), rfl, Or.inr ⟨rfl, by first | exact go_eq (by assumption) | exact go_3 (by assumption) | exact go_6 (by assumption) | exact go_un (by assumption) | exact go_r (by assumption) (by assumption) | exact go_c (by assumption) (by assumption)⟩, by rw [htQ]; exact hP9, va_K.moved hWQ.alike hK9, hD9⟩, hS.F htQ⟩) hS.2.2 dX12_doesGo_133
            · skip
              refine lv_if_eq (tgt := 132) hx hb dX12_doesGo_104 (by decide) (fun _ => ?_) (fun c_26 => absurd c_26 (by decide))
              refine lv_iconst (v := 0) hx hb dX12_doesGo_132 (by decide) ?_
              rw [hQ]
              have hP9 := hP.sub (ws' := [(zo14irriiiiiirriirrrrlriiii m0 th aS aI im ac sp en wg op aB aT se9_8 dn9_9 aG aO aN aD bv aY rn kd nu tv), (zaI aS cS 901 fS), (zaI aB cB 6 fB9_6), (zaI aT cT 64 fT9_7)]) [0, 1, 2, 3] rfl
              have hD9 := hD.sub (ws' := [(zo14irriiiiiirriirrrrlriiii m0 th aS aI im ac sp en wg op aB aT se9_8 dn9_9 aG aO aN aD bv aY rn kd nu tv), (zaI aS cS 901 fS), (zaI aB cB 6 fB9_6), (zaI aT cT 64 fT9_7)]) [0, 1, 2, 3] (by decide) rfl
              have hK9 := hK.sub (tys' := [(cS, .int), (cB, .int), (cT, .boolean)]) [0, 1, 2] rfl
              exact W.zret (v := 0) hx hb hr rfl (fun tQ htQ hWQ => ⟨⟨0, (fB9_6, fT9_7, se9_8, dn9_9), rfl, Or.inr ⟨rfl, by first | exact go_eq (by assumption) | exact go_3 (by assumption) | exact go_6 (by assumption) | exact go_un (by assumption) | exact go_r (by assumption) (by assumption) | exact go_c (by assumption) (by assumption)⟩, by rw [htQ]; exact hP9, va_K.moved hWQ.alike hK9, hD9⟩, hS.F htQ⟩) hS.2.2 dX12_doesGo_133
        · skip
          refine lv_if_ne (tgt := 45) hx hb dX12_doesGo_40 (by decide) (fun c_27 => absurd c_27 (by decide)) (fun _ => ?_)
          refine lv_iconst (v := 0) hx hb dX12_doesGo_43 (by decide) ?_
          rw [hQ]
          have hP9 := hP.sub (ws' := [(zo14irriiiiiirriirrrrlriiii m0 th aS aI im ac sp en wg op aB aT se9_8 dn9_9 aG aO aN aD bv aY rn kd nu tv), (zaI aS cS 901 fS), (zaI aB cB 6 fB9_6), (zaI aT cT 64 fT9_7)]) [0, 1, 2, 3] rfl
          have hD9 := hD.sub (ws' := [(zo14irriiiiiirriirrrrlriiii m0 th aS aI im ac sp en wg op aB aT se9_8 dn9_9 aG aO aN aD bv aY rn kd nu tv), (zaI aS cS 901 fS), (zaI aB cB 6 fB9_6), (zaI aT cT 64 fT9_7)]) [0, 1, 2, 3] (by decide) rfl
          have hK9 := hK.sub (tys' := [(cS, .int), (cB, .int), (cT, .boolean)]) [0, 1, 2] rfl
          exact W.zret (v := 0) hx hb hr rfl (fun tQ htQ hWQ => ⟨⟨0, (fB9_6, fT9_7, se9_8, dn9_9), rfl, Or.inr ⟨rfl, by first | exact go_eq (by assumption) | exact go_3 (by assumption) | exact go_6 (by assumption) | exact go_un (by assumption) | exact go_r (by assumption) (by assumption) | exact go_c (by assumption) (by assumption)⟩, by rw [htQ]; exact hP9, va_K.moved hWQ.alike hK9, hD9⟩, hS.F htQ⟩) hS.2.2 dX12_doesGo_44

theorem kc_goings_0 : ∀ w ∈ wsX120, w ∈ wsX12_looksForGoings := fun w h => List.mem_cons_of_mem _ (gin_wsX120 w h)
theorem kc_goings_1 : (.fieldLink RX12 9 "MistHeapsModel" "s" "[I" : Cond) ∈ wsX12_looksForGoings := kc_of 1141 rfl rfl rfl
theorem kc_goings_2 : (.fieldLink RX12 25 "MistHeapsModel" "goes" "[I" : Cond) ∈ wsX12_looksForGoings := kc_of 1153 rfl rfl rfl
set_option maxHeartbeats 4000000 in
set_option maxRecDepth 100000 in
theorem c_goings (l : Launch) (dC : Nat → ClassId) (dI : Nat → Nat → Nat) (m0 aS aI aB aT aG aO aN aD aY : Nat) (th im ac sp en wg op se dn rn kd nu tv : Int32) (bv : Int64) (cS cB cT cG : ClassId) (fS : Nat → Int32) (fB : Nat → Int32) (fT : Nat → Int32) (fG : Nat → Int32) (n : Nat) (cz : List pCla) (sz : Nat) (zn : fS 0 = nI n) (hn : n ≤ 8) (zh : hol fS cz) : Met l yX12_looksForGoings wsX12_looksForGoings ({ frames := 4, cells := 0, slots := 0, locals := 103 } : Room) (va_Pc [.ref m0] (fun U => U.heap.size = sz ∧ va_P (dC, dI) vwCl [(zo14irriiiiiirriirrrrlriiii m0 th aS aI im ac sp en wg op aB aT se dn aG aO aN aD bv aY rn kd nu tv), (zaI aS cS 901 fS), (zaI aB cB 6 fB), (zaI aT cT 64 fT), (zaI aG cG 9 fG)] U.heap ∧ va_K (dC, dI) vwCl [(cS, .int), (cB, .int), (cT, .boolean), (cG, .int)] U ∧ va_D (fun _ => True) [(zo14irriiiiiirriirrrrlriiii m0 th aS aI im ac sp en wg op aB aT se dn aG aO aN aD bv aY rn kd nu tv), (zaI aS cS 901 fS), (zaI aB cB 6 fB), (zaI aT cT 64 fT), (zaI aG cG 9 fG)])) (va_Qv (fun (u : (Nat → Int32) × (Nat → Int32) × (Int32) × (Int32) × (Nat → Int32)) => match u with | (fB9, fT9, se9, dn9, fG9) => ∀ k, k < n → fG9 k = gbI (goF fS cz k) n) (fun (u : (Nat → Int32) × (Nat → Int32) × (Int32) × (Int32) × (Nat → Int32)) (t : State) => match u with | (fB9, fT9, se9, dn9, fG9) => va_P (dC, dI) vwCl [(zo14irriiiiiirriirrrrlriiii m0 th aS aI im ac sp en wg op aB aT se9 dn9 aG aO aN aD bv aY rn kd nu tv), (zaI aS cS 901 fS), (zaI aB cB 6 fB9), (zaI aT cT 64 fT9), (zaI aG cG 9 fG9)] t.heap ∧ va_K (dC, dI) vwCl [(cS, .int), (cB, .int), (cT, .boolean), (cG, .int)] t ∧ va_D (va_A [(zo14irriiiiiirriirrrrlriiii m0 th aS aI im ac sp en wg op aB aT se dn aG aO aN aD bv aY rn kd nu tv), (zaI aS cS 901 fS), (zaI aB cB 6 fB), (zaI aT cT 64 fT), (zaI aG cG 9 fG)] sz) [(zo14irriiiiiirriirrrrlriiii m0 th aS aI im ac sp en wg op aB aT se9 dn9 aG aO aN aD bv aY rn kd nu tv), (zaI aS cS 901 fS), (zaI aB cB 6 fB9), (zaI aT cT 64 fT9), (zaI aG cG 9 fG9)]) (va_A [(zo14irriiiiiirriirrrrlriiii m0 th aS aI im ac sp en wg op aB aT se dn aG aO aN aD bv aY rn kd nu tv), (zaI aS cS 901 fS), (zaI aB cB 6 fB), (zaI aT cT 64 fT), (zaI aG cG 9 fG)] sz)) 0 0 (va_A [(zo14irriiiiiirriirrrrlriiii m0 th aS aI im ac sp en wg op aB aT se dn aG aO aN aD bv aY rn kd nu tv), (zaI aS cS 901 fS), (zaI aB cB 6 fB), (zaI aT cT 64 fT), (zaI aG cG 9 fG)] sz) := by
  refine met_ofQ (cc := cX12_looksForGoings) (maxL := 3) (ret := none) (by decide) rfl ?_
  intro p e s m args below meth c s₁ Q B hml hv hQ
  obtain ⟨rfl, hsz, hP, hK, hD0⟩ := hv
  have hx := B.exec
  have hb := B.bytes
  have hr := B.returns
  have hts := atoms_spec (ws := wsX12_looksForGoings) B.pre
  have hown : s.vm.findClass RX12 = some m.cls := findClass_of_methodNamed B.named
  have hlocks := B.notSynchronized
  subst hsz
  have hD := hD0.self (sz := s.heap.size)
  generalize hAe : va_A [(zo14irriiiiiirriirrrrlriiii m0 th aS aI im ac sp en wg op aB aT se dn aG aO aN aD bv aY rn kd nu tv), (zaI aS cS 901 fS), (zaI aB cB 6 fB), (zaI aT cT 64 fT), (zaI aG cG 9 fG)] s.heap.size = A at hD hQ ⊢
  have hA : ∀ q : Nat, s.heap.size ≤ q → A q := fun q h => by rw [← hAe]; exact Or.inr h
  have hS : va_S A s.heap s.heap [] := va_S.rf
  have hl := lv_entry [.ref m0] (n := 3) (Nat.le_of_ble_eq_true rfl)
  rw [lg_entry_eq]
  generalize (lg_sl [.ref m0] ++ List.replicate (3 - (lg_sl [.ref m0]).length) Slot.unset).toArray = ls at hl ⊢
  generalize hag : ([.ref m0] : List Value).toArray = args at hts hQ ⊢
  have hl : lv_has ls 3 [(0, .ref m0)] := hl
  obtain ⟨H, hH⟩ : ∃ H : Heap, H = s.heap := ⟨_, rfl⟩
  rw [← hH] at hP
  rw [← hH]
  have hS : va_S A s.heap H [] := by rw [hH]; exact hS
  obtain ⟨locs, hlo⟩ : ∃ L : List Loc, L = [] := ⟨_, rfl⟩
  rw [← hlo] at hS
  rw [← hlo]
  clear hH hlo
  refine lv_iconst (v := 0) hx hb dX12_looksForGoings_0 (by decide) ?_
  refine lv_istore_n (lv' := [(1, .int 0), (0, .ref m0)]) hx hb dX12_looksForGoings_1 rfl hl (by decide) rfl (fun ls hl => ?_)
  have L2 : ∀ (nF : Nat) (i : Nat) (se2 : Int32) (dn2 : Int32) (fB2 : Nat → Int32) (fT2 : Nat → Int32) (fG2 : Nat → Int32), n - i < nF → (i ≤ n) → (∀ k, k < i → fG2 k = gbI (goF fS cz k) n) → ∀ (H : Heap) (locs : List Loc), va_K (dC, dI) vwCl [(cS, .int), (cB, .int), (cT, .boolean), (cG, .int)] s → va_P (dC, dI) vwCl [(zo14irriiiiiirriirrrrlriiii m0 th aS aI im ac sp en wg op aB aT se2 dn2 aG aO aN aD bv aY rn kd nu tv), (zaI aS cS 901 fS), (zaI aB cB 6 fB2), (zaI aT cT 64 fT2), (zaI aG cG 9 fG2)] H → va_D A [(zo14irriiiiiirriirrrrlriiii m0 th aS aI im ac sp en wg op aB aT se2 dn2 aG aO aN aD bv aY rn kd nu tv), (zaI aS cS 901 fS), (zaI aB cB 6 fB2), (zaI aT cT 64 fT2), (zaI aG cG 9 fG2)] → va_S A s.heap H locs → ∀ (ls : Array Slot), lv_has ls 3 [(0, .ref m0), (1, .int (nI i))] → W p l e ({ frames := 4, cells := 0, slots := 0, locals := 103 } : Room) s m args below meth c H locs 0 0 Q (F0 m 2 ls []) := by
    intro nF
    induction nF with
    | zero => intro i se2 dn2 fB2 fT2 fG2 hm; exact absurd hm (Nat.not_lt_zero _)
    | succ nF ih2 =>
      intro i se2 dn2 fB2 fT2 fG2 hm hii hg9 H locs hK hP hD hS ls hl
      refine lv_iload_n hx hb dX12_looksForGoings_2 rfl (lv_at hl 1 rfl) ?_
      refine lv_aload_n hx hb dX12_looksForGoings_3 rfl (lv_at hl 0 rfl) ?_
      refine va_get (D := (dC, dI)) (ci := 14) (v := .ref aS) (C := RX12) (T := TX12) (N := 23) hx hb hts kc_goings_0 hown hK hP 0 rfl rfl 1 (by decide) (hts (.fieldLink RX12 9 "MistHeapsModel" "s" "[I") kc_goings_1) (fun _ h9 => h9) rfl dX12_looksForGoings_4 ?_
      refine lv_iconst (v := 0) hx hb dX12_looksForGoings_7 (by decide) ?_
      refine va_iald hx hb hK hP 1 0 rfl rfl (vp_in_nI (n := 0) (N := 901) (by omega) (by omega)) dX12_looksForGoings_8 ?_
      refine qi_as (y := nI n) ((show fS (0 : Int32).toNatClampNeg = fS 0 from rfl).trans (zn)) ?_
      refine lv_icmp_ge (tgt := 68) hx hb dX12_looksForGoings_9 (by decide) (fun c_1 => ?_) (fun c_1 => ?_)
      · skip
        have c_1 : n ≤ i := (nI_leI (a := n) (b := i) (by omega) (by omega)).mp c_1
        rw [hQ]
        have hP9 := hP.sub (ws' := [(zo14irriiiiiirriirrrrlriiii m0 th aS aI im ac sp en wg op aB aT se2 dn2 aG aO aN aD bv aY rn kd nu tv), (zaI aS cS 901 fS), (zaI aB cB 6 fB2), (zaI aT cT 64 fT2), (zaI aG cG 9 fG2)]) [0, 1, 2, 3, 4] rfl
        have hD9 := hD.sub (ws' := [(zo14irriiiiiirriirrrrlriiii m0 th aS aI im ac sp en wg op aB aT se2 dn2 aG aO aN aD bv aY rn kd nu tv), (zaI aS cS 901 fS), (zaI aB cB 6 fB2), (zaI aT cT 64 fT2), (zaI aG cG 9 fG2)]) [0, 1, 2, 3, 4] (by decide) rfl
        have hK9 := hK.sub (tys' := [(cS, .int), (cB, .int), (cT, .boolean), (cG, .int)]) [0, 1, 2, 3] rfl
        exact W.vret hx hb hr (fun tQ htQ hWQ => ⟨⟨(fB2, fT2, se2, dn2, fG2), rfl, fun k hk => hg9 k (by omega), by rw [htQ]; exact hP9, va_K.moved hWQ.alike hK9, hD9⟩, hS.F htQ⟩) hS.2.2 dX12_looksForGoings_68
      · skip
        have c_1 : ¬ n ≤ i := fun q => c_1 ((nI_leI (a := n) (b := i) (by omega) (by omega)).mpr q)
        refine lv_aload_n hx hb dX12_looksForGoings_12 rfl (lv_at hl 0 rfl) ?_
        refine va_get (D := (dC, dI)) (ci := 14) (v := .ref aG) (C := RX12) (T := TX12) (N := 23) hx hb hts kc_goings_0 hown hK hP 0 rfl rfl 13 (by decide) (hts (.fieldLink RX12 25 "MistHeapsModel" "goes" "[I") kc_goings_2) (fun _ h9 => h9) rfl dX12_looksForGoings_13 ?_
        refine lv_iload_n hx hb dX12_looksForGoings_16 rfl (lv_at hl 1 rfl) ?_
        refine lv_iconst (v := 0) hx hb dX12_looksForGoings_17 (by decide) ?_
        refine va_iast hx hb hK hP hD hS 4 3 rfl rfl (vp_in_nI (n := i) (N := 9) (by omega) (by omega)) dX12_looksForGoings_18 (fun H locs hP hD hS => ?_)
        rw [nI_clamp (n := i) (by omega)] at hP hD
        have hP : va_P (dC, dI) vwCl [(zo14irriiiiiirriirrrrlriiii m0 th aS aI im ac sp en wg op aB aT se2 dn2 aG aO aN aD bv aY rn kd nu tv), (zaI aS cS 901 fS), (zaI aB cB 6 fB2), (zaI aT cT 64 fT2), (zaI aG cG 9 (upd fG2 i 0))] H := hP
        have hD : va_D A [(zo14irriiiiiirriirrrrlriiii m0 th aS aI im ac sp en wg op aB aT se2 dn2 aG aO aN aD bv aY rn kd nu tv), (zaI aS cS 901 fS), (zaI aB cB 6 fB2), (zaI aT cT 64 fT2), (zaI aG cG 9 (upd fG2 i 0))] := hD
        refine lv_iconst (v := 0) hx hb dX12_looksForGoings_19 (by decide) ?_
        refine lv_istore_n (lv' := [(2, .int 0), (0, .ref m0), (1, .int (nI i))]) hx hb dX12_looksForGoings_20 rfl hl (by decide) rfl (fun ls hl => ?_)
        have L21 : ∀ (nF : Nat) (j : Nat) (se2 : Int32) (dn2 : Int32) (fB2 : Nat → Int32) (fT2 : Nat → Int32) (fG2 : Nat → Int32), n - j < nF → (j ≤ n) → (∀ k, k < i → fG2 k = gbI (goF fS cz k) n) → (fG2 i = gbI (goF fS cz i) j) → ∀ (H : Heap) (locs : List Loc), va_K (dC, dI) vwCl [(cS, .int), (cB, .int), (cT, .boolean), (cG, .int)] s → va_P (dC, dI) vwCl [(zo14irriiiiiirriirrrrlriiii m0 th aS aI im ac sp en wg op aB aT se2 dn2 aG aO aN aD bv aY rn kd nu tv), (zaI aS cS 901 fS), (zaI aB cB 6 fB2), (zaI aT cT 64 fT2), (zaI aG cG 9 fG2)] H → va_D A [(zo14irriiiiiirriirrrrlriiii m0 th aS aI im ac sp en wg op aB aT se2 dn2 aG aO aN aD bv aY rn kd nu tv), (zaI aS cS 901 fS), (zaI aB cB 6 fB2), (zaI aT cT 64 fT2), (zaI aG cG 9 fG2)] → va_S A s.heap H locs → ∀ (ls : Array Slot), lv_has ls 3 [(0, .ref m0), (1, .int (nI i)), (2, .int (nI j))] → W p l e ({ frames := 4, cells := 0, slots := 0, locals := 103 } : Room) s m args below meth c H locs 0 0 Q (F0 m 21 ls []) := by
          intro nF
          induction nF with
          | zero => intro j se2 dn2 fB2 fT2 fG2 hm; exact absurd hm (Nat.not_lt_zero _)
          | succ nF ih21 =>
            intro j se2 dn2 fB2 fT2 fG2 hm hij hg9 hr9 H locs hK hP hD hS ls hl
            refine lv_iload_n hx hb dX12_looksForGoings_21 rfl (lv_at hl 2 rfl) ?_
            refine lv_aload_n hx hb dX12_looksForGoings_22 rfl (lv_at hl 0 rfl) ?_
            refine va_get (D := (dC, dI)) (ci := 14) (v := .ref aS) (C := RX12) (T := TX12) (N := 23) hx hb hts kc_goings_0 hown hK hP 0 rfl rfl 1 (by decide) (hts (.fieldLink RX12 9 "MistHeapsModel" "s" "[I") kc_goings_1) (fun _ h9 => h9) rfl dX12_looksForGoings_23 ?_
            refine lv_iconst (v := 0) hx hb dX12_looksForGoings_26 (by decide) ?_
            refine va_iald hx hb hK hP 1 0 rfl rfl (vp_in_nI (n := 0) (N := 901) (by omega) (by omega)) dX12_looksForGoings_27 ?_
            refine qi_as (y := nI n) ((show fS (0 : Int32).toNatClampNeg = fS 0 from rfl).trans (zn)) ?_
            refine lv_icmp_ge (tgt := 62) hx hb dX12_looksForGoings_28 (by decide) (fun c_2 => ?_) (fun c_2 => ?_)
            · skip
              have c_2 : n ≤ j := (nI_leI (a := n) (b := j) (by omega) (by omega)).mp c_2
              refine lv_iinc (v := nI (i + 1)) (lv' := [(1, .int (nI (i + 1))), (0, .ref m0), (2, .int (nI j))]) hx hb dX12_looksForGoings_62 hl (k := 1) rfl (nI_add i 1) (by decide) rfl (fun ls hl => ?_)
              refine lv_goto (tgt := 2) hx hb dX12_looksForGoings_65 (by decide) ?_
              exact ih2 (i + 1) _ _ _ _ (fG2) (by omega) (by omega) (go_up hg9 (gb_e hr9 (by omega))) _ _ (hK.sub [0, 1, 2, 3] rfl) (hP.sub [0, 1, 2, 3, 4] rfl) (hD.sub [0, 1, 2, 3, 4] (by decide) rfl) hS ls (lv_sub hl [1, 0] rfl)
            · skip
              have c_2 : ¬ n ≤ j := fun q => c_2 ((nI_leI (a := n) (b := j) (by omega) (by omega)).mpr q)
              refine lv_aload_n hx hb dX12_looksForGoings_31 rfl (lv_at hl 0 rfl) ?_
              refine va_get (D := (dC, dI)) (ci := 14) (v := .ref aG) (C := RX12) (T := TX12) (N := 23) hx hb hts kc_goings_0 hown hK hP 0 rfl rfl 13 (by decide) (hts (.fieldLink RX12 25 "MistHeapsModel" "goes" "[I") kc_goings_2) (fun _ h9 => h9) rfl dX12_looksForGoings_32 ?_
              refine lv_iload_n hx hb dX12_looksForGoings_35 rfl (lv_at hl 1 rfl) ?_
              refine lv_dup2_11 hx hb dX12_looksForGoings_36 rfl rfl ?_
              refine va_iald hx hb hK hP 4 3 rfl rfl (vp_in_nI (n := i) (N := 9) (by omega) (by omega)) dX12_looksForGoings_37 ?_
              refine qi_as (y := fG2 i) (by rw [nI_clamp (by omega)]) ?_
              refine lv_aload_n hx hb dX12_looksForGoings_38 rfl (lv_at hl 0 rfl) ?_
              refine lv_iload_n hx hb dX12_looksForGoings_39 rfl (lv_at hl 1 rfl) ?_
              refine lv_iload_n hx hb dX12_looksForGoings_40 rfl (lv_at hl 2 rfl) ?_
              have hPc := hP.sub (ws' := [(zo14irriiiiiirriirrrrlriiii m0 th aS aI im ac sp en wg op aB aT se2 dn2 aG aO aN aD bv aY rn kd nu tv), (zaI aS cS 901 fS), (zaI aB cB 6 fB2), (zaI aT cT 64 fT2)]) [0, 1, 2, 3] rfl
              have hDc := hD.sub (ws' := [(zo14irriiiiiirriirrrrlriiii m0 th aS aI im ac sp en wg op aB aT se2 dn2 aG aO aN aD bv aY rn kd nu tv), (zaI aS cS 901 fS), (zaI aB cB 6 fB2), (zaI aT cT 64 fT2)]) [0, 1, 2, 3] (by decide) rfl
              have hKc := hK.sub (tys' := [(cS, .int), (cB, .int), (cT, .boolean)]) [0, 1, 2] rfl
              have hFc := va_free (wc := [(zo14irriiiiiirriirrrrlriiii m0 th aS aI im ac sp en wg op aB aT se2 dn2 aG aO aN aD bv aY rn kd nu tv), (zaI aS cS 901 fS), (zaI aB cB 6 fB2), (zaI aT cT 64 fT2)]) hD hS hA [0, 1, 2, 3] rfl
              refine va_calli (va_runV (As := [.int (nI i), .int (nI j)]) (rest := [.int (fG2 i), .int (nI i), .ref aG]) ⟨hx, hb, hml, hown, hts⟩ (c_doesGo l dC dI m0 aS aI aB aT aG aO aN aD aY th im ac sp en wg op se2 dn2 rn kd nu tv bv cS cB cT fS fB2 fT2 i j cz H.size (by omega) (by omega) (zh)) (cwV 2 hts gX12_looksForGoings_X12_doesGo rfl rfl rfl hd_yX12_doesGo ⟨Nat.le_of_ble_eq_true rfl, Nat.le_of_ble_eq_true rfl⟩) ⟨fun a U g mk q => by obtain ⟨q0, q1, qP, qK, qD⟩ := q; exact ⟨q0, q1, qP, va_K.moved (u := U) (U := U.calling g mk a) (Vm.Alike.refl U.vm) qK, qD⟩, va_recv hK hP (ci := 14) (q := (RX12, TX12, 23)) (q0 := 0) rfl rfl, fun U hU hW => ⟨rfl, by rw [hU], by rw [hU]; exact hPc, va_K.moved hW.alike hKc, hDc.weaken (fun _ _ _ _ => trivial)⟩⟩ rfl rfl hl.1 rfl (lv_room (Nat.le_of_ble_eq_true rfl)) dX12_looksForGoings_41 ⟨Nat.le_of_ble_eq_true rfl, Nat.le_of_ble_eq_true rfl⟩) hS (fun q _ h => hFc q h) hFc (fun r_3 u tC H1 locs htC hvm hw_4 hB hz1 hk1 hS => ?_)
              obtain ⟨fB9_5, fT9_6, se9_7, dn9_8⟩ := u
              try dsimp only at hw_4 hB
              obtain ⟨hP1, hK1, hD1⟩ := hB
              rw [htC] at hP1
              have hK1 := va_K.moved hvm.symm hK1
              obtain ⟨hP, hD⟩ := va_join (wr := [(zaI aG cG 9 fG2)]) (w1 := [(zo14irriiiiiirriirrrrlriiii m0 th aS aI im ac sp en wg op aB aT se9_7 dn9_8 aG aO aN aD bv aY rn kd nu tv), (zaI aS cS 901 fS), (zaI aB cB 6 fB9_5), (zaI aT cT 64 fT9_6)]) hP hD [0, 1, 2, 3] [4] rfl rfl (by decide) (by decide) hk1 hFc hP1 hD1
              have hK := (hK.sub (tys' := [(cG, .int)]) [3] rfl).app hK1
              generalize H1 = H at hP hS ⊢
              have hP : va_P (dC, dI) vwCl [(zaI aG cG 9 fG2), (zo14irriiiiiirriirrrrlriiii m0 th aS aI im ac sp en wg op aB aT se9_7 dn9_8 aG aO aN aD bv aY rn kd nu tv), (zaI aS cS 901 fS), (zaI aB cB 6 fB9_5), (zaI aT cT 64 fT9_6)] H := hP
              have hD : va_D A [(zaI aG cG 9 fG2), (zo14irriiiiiirriirrrrlriiii m0 th aS aI im ac sp en wg op aB aT se9_7 dn9_8 aG aO aN aD bv aY rn kd nu tv), (zaI aS cS 901 fS), (zaI aB cB 6 fB9_5), (zaI aT cT 64 fT9_6)] := hD
              have hK : va_K (dC, dI) vwCl [(cG, .int), (cS, .int), (cB, .int), (cT, .boolean)] s := hK
              rcases hw_4 with ⟨rfl, hd_9⟩ | ⟨rfl, hd_9⟩
              · skip
                refine lv_if_eq (tgt := 53) hx hb dX12_looksForGoings_44 (by decide) (fun c_10 => absurd c_10 (by decide)) (fun _ => ?_)
                refine lv_iconst (v := 1) hx hb dX12_looksForGoings_47 (by decide) ?_
                refine lv_iload_n hx hb dX12_looksForGoings_48 rfl (lv_at hl 2 rfl) ?_
                refine lv_ishl hx hb dX12_looksForGoings_49 ?_
                refine lv_goto (tgt := 54) hx hb dX12_looksForGoings_50 (by decide) ?_
                refine lv_ior hx hb dX12_looksForGoings_54 ?_
                refine va_iast hx hb hK hP hD hS 0 0 rfl rfl (vp_in_nI (n := i) (N := 9) (by omega) (by omega)) dX12_looksForGoings_55 (fun H locs hP hD hS => ?_)
                rw [nI_clamp (n := i) (by omega)] at hP hD
                have hP : va_P (dC, dI) vwCl [(zaI aG cG 9 (upd fG2 i ((fG2 i) ||| (1 <<< ((nI j) &&& 31))))), (zo14irriiiiiirriirrrrlriiii m0 th aS aI im ac sp en wg op aB aT se9_7 dn9_8 aG aO aN aD bv aY rn kd nu tv), (zaI aS cS 901 fS), (zaI aB cB 6 fB9_5), (zaI aT cT 64 fT9_6)] H := hP
                have hD : va_D A [(zaI aG cG 9 (upd fG2 i ((fG2 i) ||| (1 <<< ((nI j) &&& 31))))), (zo14irriiiiiirriirrrrlriiii m0 th aS aI im ac sp en wg op aB aT se9_7 dn9_8 aG aO aN aD bv aY rn kd nu tv), (zaI aS cS 901 fS), (zaI aB cB 6 fB9_5), (zaI aT cT 64 fT9_6)] := hD
                refine lv_iinc (v := nI (j + 1)) (lv' := [(2, .int (nI (j + 1))), (0, .ref m0), (1, .int (nI i))]) hx hb dX12_looksForGoings_56 hl (k := 2) rfl (nI_add j 1) (by decide) rfl (fun ls hl => ?_)
                refine lv_goto (tgt := 21) hx hb dX12_looksForGoings_59 (by decide) ?_
                exact ih21 (j + 1) _ _ _ _ ((upd fG2 i ((fG2 i) ||| (1 <<< ((nI j) &&& 31))))) (by omega) (by omega) (fun k hk => (pk_un (show ¬ k = i by omega)).trans (hg9 k hk)) (pk_us.trans (gb_t hr9 hd_9)) _ _ (hK.sub [1, 2, 3, 0] rfl) (hP.sub [1, 2, 3, 4, 0] rfl) (hD.sub [1, 2, 3, 4, 0] (by decide) rfl) hS ls (lv_sub hl [1, 2, 0] rfl)
              · skip
                refine lv_if_eq (tgt := 53) hx hb dX12_looksForGoings_44 (by decide) (fun _ => ?_) (fun c_11 => absurd c_11 (by decide))
                refine lv_iconst (v := 0) hx hb dX12_looksForGoings_53 (by decide) ?_
                refine lv_ior hx hb dX12_looksForGoings_54 ?_
                refine va_iast hx hb hK hP hD hS 0 0 rfl rfl (vp_in_nI (n := i) (N := 9) (by omega) (by omega)) dX12_looksForGoings_55 (fun H locs hP hD hS => ?_)
                rw [nI_clamp (n := i) (by omega)] at hP hD
                have hP : va_P (dC, dI) vwCl [(zaI aG cG 9 (upd fG2 i ((fG2 i) ||| 0))), (zo14irriiiiiirriirrrrlriiii m0 th aS aI im ac sp en wg op aB aT se9_7 dn9_8 aG aO aN aD bv aY rn kd nu tv), (zaI aS cS 901 fS), (zaI aB cB 6 fB9_5), (zaI aT cT 64 fT9_6)] H := hP
                have hD : va_D A [(zaI aG cG 9 (upd fG2 i ((fG2 i) ||| 0))), (zo14irriiiiiirriirrrrlriiii m0 th aS aI im ac sp en wg op aB aT se9_7 dn9_8 aG aO aN aD bv aY rn kd nu tv), (zaI aS cS 901 fS), (zaI aB cB 6 fB9_5), (zaI aT cT 64 fT9_6)] := hD
                refine lv_iinc (v := nI (j + 1)) (lv' := [(2, .int (nI (j + 1))), (0, .ref m0), (1, .int (nI i))]) hx hb dX12_looksForGoings_56 hl (k := 2) rfl (nI_add j 1) (by decide) rfl (fun ls hl => ?_)
                refine lv_goto (tgt := 21) hx hb dX12_looksForGoings_59 (by decide) ?_
                exact ih21 (j + 1) _ _ _ _ ((upd fG2 i ((fG2 i) ||| 0))) (by omega) (by omega) (fun k hk => (pk_un (show ¬ k = i by omega)).trans (hg9 k hk)) (pk_us.trans (gb_f hr9 hd_9)) _ _ (hK.sub [1, 2, 3, 0] rfl) (hP.sub [1, 2, 3, 4, 0] rfl) (hD.sub [1, 2, 3, 4, 0] (by decide) rfl) hS ls (lv_sub hl [1, 2, 0] rfl)
        exact L21 _ (0) _ _ _ _ ((upd fG2 i 0)) (Nat.lt_succ_self _) (by omega) (fun k hk => (pk_un (show ¬ k = i by omega)).trans (hg9 k hk)) (pk_us) _ _ (hK.sub [0, 1, 2, 3] rfl) (hP.sub [0, 1, 2, 3, 4] rfl) (hD.sub [0, 1, 2, 3, 4] (by decide) rfl) hS ls (lv_sub hl [1, 2, 0] rfl)
  exact L2 _ (0) _ _ _ _ (fG) (Nat.lt_succ_self _) (by omega) (fun k hk => absurd hk (Nat.not_lt_zero k)) _ _ (hK.sub [0, 1, 2, 3] rfl) (hP.sub [0, 1, 2, 3, 4] rfl) (hD.sub [0, 1, 2, 3, 4] (by decide) rfl) hS ls (lv_sub hl [1, 0] rfl)

theorem kc_mSpread_0 : ∀ w ∈ wsX120, w ∈ wsX12_spread := fun w h => List.mem_cons_of_mem _ (gin_wsX120 w h)
theorem kc_mSpread_1 : (.fieldLink RX12 9 "MistHeapsModel" "s" "[I" : Cond) ∈ wsX12_spread := kc_of 1141 rfl rfl rfl
theorem kc_mSpread_2 : (.fieldLink RX12 25 "MistHeapsModel" "goes" "[I" : Cond) ∈ wsX12_spread := kc_of 1153 rfl rfl rfl
set_option maxHeartbeats 4000000 in
set_option maxRecDepth 100000 in
theorem c_mSpread (l : Launch) (dC : Nat → ClassId) (dI : Nat → Nat → Nat) (m0 aS aI aB aT aG aO aN aD aY : Nat) (th im ac sp en wg op se dn rn kd nu tv : Int32) (bv : Int64) (cS cG : ClassId) (fS : Nat → Int32) (fG : Nat → Int32) (n : Nat) (x : Int32) (zn : fS 0 = nI n) (hn : n ≤ 8) : Met l yX12_spread wsX12_spread ({ frames := 0, cells := 0, slots := 0, locals := 0 } : Room) (va_Pc [.ref m0, .int x] (fun U => va_P (dC, dI) vwCl [(zo14irriiiiiirriirrrrlriiii m0 th aS aI im ac sp en wg op aB aT se dn aG aO aN aD bv aY rn kd nu tv), (zaI aS cS 901 fS), (zaI aG cG 9 fG)] U.heap ∧ va_K (dC, dI) vwCl [(cS, .int), (cG, .int)] U)) (vp_Si (fun r => r = spI fG x n)) 0 0 (fun _ => False) := by
  refine met_ofQ (cc := cX12_spread) (maxL := 4) (ret := (some .int)) (by decide) rfl ?_
  intro p e s m args below meth c s₁ Q B hml hv hQ
  obtain ⟨rfl, hP, hK⟩ := hv
  have hx := B.exec
  have hb := B.bytes
  have hr := B.returns
  have hts := atoms_spec (ws := wsX12_spread) B.pre
  have hown : s.vm.findClass RX12 = some m.cls := findClass_of_methodNamed B.named
  have hlocks := B.notSynchronized
  obtain ⟨A, hAe⟩ : ∃ A : Nat → Prop, A = fun _ => False := ⟨_, rfl⟩
  rw [← hAe] at hQ
  have hS : va_S A s.heap s.heap [] := va_S.rf
  have hl := lv_entry [.ref m0, .int x] (n := 4) (Nat.le_of_ble_eq_true rfl)
  rw [lg_entry_eq]
  generalize (lg_sl [.ref m0, .int x] ++ List.replicate (4 - (lg_sl [.ref m0, .int x]).length) Slot.unset).toArray = ls at hl ⊢
  generalize hag : ([.ref m0, .int x] : List Value).toArray = args at hts hQ ⊢
  have hl : lv_has ls 4 [(0, .ref m0), (1, .int x)] := hl
  refine lv_iload_n hx hb dX12_spread_0 rfl (lv_at hl 1 rfl) ?_
  refine lv_istore_n (lv' := [(2, .int x), (0, .ref m0), (1, .int x)]) hx hb dX12_spread_1 rfl hl (by decide) rfl (fun ls hl => ?_)
  refine lv_iconst (v := 0) hx hb dX12_spread_2 (by decide) ?_
  refine lv_istore_n (lv' := [(3, .int 0), (2, .int x), (0, .ref m0), (1, .int x)]) hx hb dX12_spread_3 rfl hl (by decide) rfl (fun ls hl => ?_)
  have L4 : ∀ (nF : Nat) (i : Nat) (q : Int32), n - i < nF → (i ≤ n) → (q = spI fG x i) → ∀ (ls : Array Slot), lv_has ls 4 [(0, .ref m0), (1, .int x), (2, .int q), (3, .int (nI i))] → W p l e ({ frames := 0, cells := 0, slots := 0, locals := 0 } : Room) s m args below meth c s.heap [] 0 0 Q (F0 m 4 ls []) := by
    intro nF
    induction nF with
    | zero => intro i q hm; exact absurd hm (Nat.not_lt_zero _)
    | succ nF ih4 =>
      intro i q hm hi hq9 ls hl
      refine lv_iload_n hx hb dX12_spread_4 rfl (lv_at hl 3 rfl) ?_
      refine lv_aload_n hx hb dX12_spread_5 rfl (lv_at hl 0 rfl) ?_
      refine va_get (D := (dC, dI)) (ci := 14) (v := .ref aS) (C := RX12) (T := TX12) (N := 23) hx hb hts kc_mSpread_0 hown hK hP 0 rfl rfl 1 (by decide) (hts (.fieldLink RX12 9 "MistHeapsModel" "s" "[I") kc_mSpread_1) (fun _ h9 => h9) rfl dX12_spread_6 ?_
      refine lv_iconst (v := 0) hx hb dX12_spread_9 (by decide) ?_
      refine va_iald hx hb hK hP 1 0 rfl rfl (vp_in_nI (n := 0) (N := 901) (by omega) (by omega)) dX12_spread_10 ?_
      refine qi_as (y := nI n) ((show fS (0 : Int32).toNatClampNeg = fS 0 from rfl).trans (zn)) ?_
      refine lv_icmp_ge (tgt := 42) hx hb dX12_spread_11 (by decide) (fun c_1 => ?_) (fun c_1 => ?_)
      · skip
        have c_1 : n ≤ i := (nI_leI (a := n) (b := i) (by omega) (by omega)).mp c_1
        refine lv_iload_n hx hb dX12_spread_42 rfl (lv_at hl 2 rfl) ?_
        rw [hQ]
        exact W.iret (v := q) hx hb hr (fun tQ htQ hWQ => ⟨q, rfl, sp_e hq9 (by omega), by rw [htQ]⟩) (fun q hq => absurd hq List.not_mem_nil) dX12_spread_43
      · skip
        have c_1 : ¬ n ≤ i := fun q => c_1 ((nI_leI (a := n) (b := i) (by omega) (by omega)).mpr q)
        refine lv_iload_n hx hb dX12_spread_14 rfl (lv_at hl 2 rfl) ?_
        refine lv_iload_n hx hb dX12_spread_15 rfl (lv_at hl 1 rfl) ?_
        refine lv_iload_n hx hb dX12_spread_16 rfl (lv_at hl 3 rfl) ?_
        refine lv_ishr hx hb dX12_spread_17 ?_
        refine lv_iconst (v := 1) hx hb dX12_spread_18 (by decide) ?_
        refine lv_iand hx hb dX12_spread_19 ?_
        refine lv_iconst (v := 1) hx hb dX12_spread_20 (by decide) ?_
        refine lv_icmp_ne (tgt := 33) hx hb dX12_spread_21 (by decide) (fun c_2 => ?_) (fun c_2 => ?_)
        · skip
          refine lv_iconst (v := 0) hx hb dX12_spread_33 (by decide) ?_
          refine lv_ior hx hb dX12_spread_34 ?_
          refine lv_istore_n (lv' := [(2, .int (q ||| 0)), (0, .ref m0), (1, .int x), (3, .int (nI i))]) hx hb dX12_spread_35 rfl hl (by decide) rfl (fun ls hl => ?_)
          refine lv_iinc (v := nI (i + 1)) (lv' := [(3, .int (nI (i + 1))), (2, .int (q ||| 0)), (0, .ref m0), (1, .int x)]) hx hb dX12_spread_36 hl (k := 3) rfl (nI_add i 1) (by decide) rfl (fun ls hl => ?_)
          refine lv_goto (tgt := 4) hx hb dX12_spread_39 (by decide) ?_
          exact ih4 (i + 1) (q ||| 0) (by omega) (by omega) (sp_f hq9 c_2) ls (lv_sub hl [2, 3, 1, 0] rfl)
        · skip
          refine lv_aload_n hx hb dX12_spread_24 rfl (lv_at hl 0 rfl) ?_
          refine va_get (D := (dC, dI)) (ci := 14) (v := .ref aG) (C := RX12) (T := TX12) (N := 23) hx hb hts kc_mSpread_0 hown hK hP 0 rfl rfl 13 (by decide) (hts (.fieldLink RX12 25 "MistHeapsModel" "goes" "[I") kc_mSpread_2) (fun _ h9 => h9) rfl dX12_spread_25 ?_
          refine lv_iload_n hx hb dX12_spread_28 rfl (lv_at hl 3 rfl) ?_
          refine va_iald hx hb hK hP 2 1 rfl rfl (vp_in_nI (n := i) (N := 9) (by omega) (by omega)) dX12_spread_29 ?_
          refine qi_as (y := fG i) (by rw [nI_clamp (by omega)]) ?_
          refine lv_goto (tgt := 34) hx hb dX12_spread_30 (by decide) ?_
          refine lv_ior hx hb dX12_spread_34 ?_
          refine lv_istore_n (lv' := [(2, .int (q ||| (fG i))), (0, .ref m0), (1, .int x), (3, .int (nI i))]) hx hb dX12_spread_35 rfl hl (by decide) rfl (fun ls hl => ?_)
          refine lv_iinc (v := nI (i + 1)) (lv' := [(3, .int (nI (i + 1))), (2, .int (q ||| (fG i))), (0, .ref m0), (1, .int x)]) hx hb dX12_spread_36 hl (k := 3) rfl (nI_add i 1) (by decide) rfl (fun ls hl => ?_)
          refine lv_goto (tgt := 4) hx hb dX12_spread_39 (by decide) ?_
          exact ih4 (i + 1) (q ||| (fG i)) (by omega) (by omega) (sp_t hq9 c_2) ls (lv_sub hl [2, 3, 1, 0] rfl)
  exact L4 _ (0) (x) (Nat.lt_succ_self _) (by omega) (rfl) ls (lv_sub hl [2, 3, 1, 0] rfl)

set_option maxHeartbeats 4000000 in
set_option maxRecDepth 100000 in
theorem c_stepsBut (l : Launch) (dC : Nat → ClassId) (dI : Nat → Nat → Nat) (m0 aS aI aB aT aG aO aN aD aY : Nat) (th im ac sp en wg op se dn rn kd nu tv : Int32) (bv : Int64) (cS cG : ClassId) (fS : Nat → Int32) (fG : Nat → Int32) (n : Nat) (x y z : Int32) (zn : fS 0 = nI n) (hn : n ≤ 8) : Met l yX12_stepsBut wsX12_stepsBut ({ frames := 1, cells := 0, slots := 0, locals := 23 } : Room) (va_Pc [.ref m0, .int x, .int y, .int z] (fun U => va_P (dC, dI) vwCl [(zo14irriiiiiirriirrrrlriiii m0 th aS aI im ac sp en wg op aB aT se dn aG aO aN aD bv aY rn kd nu tv), (zaI aS cS 901 fS), (zaI aG cG 9 fG)] U.heap ∧ va_K (dC, dI) vwCl [(cS, .int), (cG, .int)] U)) (vp_Si (fun r => r = fsR fG n x y z)) 0 0 (fun _ => False) := by
  refine met_ofQ (cc := cX12_stepsBut) (maxL := 6) (ret := (some .int)) (by decide) rfl ?_
  intro p e s m args below meth c s₁ Q B hml hv hQ
  obtain ⟨rfl, hP, hK⟩ := hv
  have hx := B.exec
  have hb := B.bytes
  have hr := B.returns
  have hts := atoms_spec (ws := wsX12_stepsBut) B.pre
  have hown : s.vm.findClass RX12 = some m.cls := findClass_of_methodNamed B.named
  have hlocks := B.notSynchronized
  obtain ⟨A, hAe⟩ : ∃ A : Nat → Prop, A = fun _ => False := ⟨_, rfl⟩
  rw [← hAe] at hQ
  have hS : va_S A s.heap s.heap [] := va_S.rf
  have hl := lv_entry [.ref m0, .int x, .int y, .int z] (n := 6) (Nat.le_of_ble_eq_true rfl)
  rw [lg_entry_eq]
  generalize (lg_sl [.ref m0, .int x, .int y, .int z] ++ List.replicate (6 - (lg_sl [.ref m0, .int x, .int y, .int z]).length) Slot.unset).toArray = ls at hl ⊢
  generalize hag : ([.ref m0, .int x, .int y, .int z] : List Value).toArray = args at hts hQ ⊢
  have hl : lv_has ls 6 [(0, .ref m0), (1, .int x), (2, .int y), (3, .int z)] := hl
  refine lv_iconst (v := 1) hx hb dX12_stepsBut_0 (by decide) ?_
  refine lv_iload_n hx hb dX12_stepsBut_1 rfl (lv_at hl 1 rfl) ?_
  refine lv_ishl hx hb dX12_stepsBut_2 ?_
  refine lv_istore (lv' := [(4, .int (1 <<< (x &&& 31))), (0, .ref m0), (1, .int x), (2, .int y), (3, .int z)]) hx hb dX12_stepsBut_3 hl (by decide) rfl (fun ls hl => ?_)
  refine lv_iconst (v := 0) hx hb dX12_stepsBut_5 (by decide) ?_
  refine lv_istore (lv' := [(5, .int 0), (4, .int (1 <<< (x &&& 31))), (0, .ref m0), (1, .int x), (2, .int y), (3, .int z)]) hx hb dX12_stepsBut_6 hl (by decide) rfl (fun ls hl => ?_)
  have L8 : ∀ (nF : Nat) (i : Nat) (q : Int32), 10 - i < nF → (i ≤ 10) → (q = SI fG n x z i) → (fsR fG n x y z = fsF (SI fG n x z) y (10 - i) i) → ∀ (ls : Array Slot), lv_has ls 6 [(0, .ref m0), (1, .int x), (2, .int y), (3, .int z), (4, .int q), (5, .int (nI i))] → W p l e ({ frames := 1, cells := 0, slots := 0, locals := 23 } : Room) s m args below meth c s.heap [] 0 0 Q (F0 m 8 ls []) := by
    intro nF
    induction nF with
    | zero => intro i q hm; exact absurd hm (Nat.not_lt_zero _)
    | succ nF ih8 =>
      intro i q hm hi hq9 hf9 ls hl
      refine lv_iload hx hb dX12_stepsBut_8 (lv_at hl 5 rfl) ?_
      refine lv_bipush (v := 10) hx hb dX12_stepsBut_10 (by decide) ?_
      refine lv_icmp_ge (tgt := 46) hx hb dX12_stepsBut_12 (by decide) (fun c_1 => ?_) (fun c_1 => ?_)
      · skip
        have c_1 : 10 ≤ i := (nI_leI (a := 10) (b := i) (by omega) (by omega)).mp c_1
        refine lv_bipush (v := (-5)) hx hb dX12_stepsBut_46 (by decide) ?_
        rw [hQ]
        exact W.iret (v := (-5)) hx hb hr (fun tQ htQ hWQ => ⟨(-5), rfl, fs_end hf9 (by assumption), by rw [htQ]⟩) (fun q hq => absurd hq List.not_mem_nil) dX12_stepsBut_48
      · skip
        have c_1 : ¬ 10 ≤ i := fun q => c_1 ((nI_leI (a := 10) (b := i) (by omega) (by omega)).mpr q)
        refine lv_iload hx hb dX12_stepsBut_15 (lv_at hl 4 rfl) ?_
        refine lv_iload_n hx hb dX12_stepsBut_17 rfl (lv_at hl 2 rfl) ?_
        refine lv_ishr hx hb dX12_stepsBut_18 ?_
        refine lv_iconst (v := 1) hx hb dX12_stepsBut_19 (by decide) ?_
        refine lv_iand hx hb dX12_stepsBut_20 ?_
        refine lv_iconst (v := 1) hx hb dX12_stepsBut_21 (by decide) ?_
        refine lv_icmp_ne (tgt := 28) hx hb dX12_stepsBut_22 (by decide) (fun c_2 => ?_) (fun c_2 => ?_)
        · skip
          refine lv_aload_n hx hb dX12_stepsBut_28 rfl (lv_at hl 0 rfl) ?_
          refine lv_iload hx hb dX12_stepsBut_29 (lv_at hl 4 rfl) ?_
          have hPc := hP.sub (ws' := [(zo14irriiiiiirriirrrrlriiii m0 th aS aI im ac sp en wg op aB aT se dn aG aO aN aD bv aY rn kd nu tv), (zaI aS cS 901 fS), (zaI aG cG 9 fG)]) [0, 1, 2] rfl
          have hKc := hK.sub (tys' := [(cS, .int), (cG, .int)]) [0, 1] rfl
          refine vp_callSi (va_runV (As := [.int q]) (rest := []) ⟨hx, hb, hml, hown, hts⟩ (c_mSpread l dC dI m0 aS aI aB aT aG aO aN aD aY th im ac sp en wg op se dn rn kd nu tv bv cS cG fS fG n q (zn) (hn)) (cwV 1 hts gX12_stepsBut_X12_spread rfl rfl rfl hd_yX12_spread ⟨Nat.le_of_ble_eq_true rfl, Nat.le_of_ble_eq_true rfl⟩) ⟨fun a U g mk q => by obtain ⟨q0, qP, qK⟩ := q; exact ⟨q0, qP, va_K.moved (u := U) (U := U.calling g mk a) (Vm.Alike.refl U.vm) qK⟩, va_recv hK hP (ci := 14) (q := (RX12, TX12, 23)) (q0 := 0) rfl rfl, fun U hU hW => ⟨rfl, by rw [hU]; exact hPc, va_K.moved hW.alike hKc⟩⟩ rfl rfl hl.1 rfl (lv_room (Nat.le_of_ble_eq_true rfl)) dX12_stepsBut_31 ⟨Nat.le_of_ble_eq_true rfl, Nat.le_of_ble_eq_true rfl⟩).run (fun r_3 hw_4 => ?_)
          obtain rfl := hw_4
          refine lv_iload_n hx hb dX12_stepsBut_34 rfl (lv_at hl 3 rfl) ?_
          refine lv_iconst (v := (-1)) hx hb dX12_stepsBut_35 (by decide) ?_
          refine lv_ixor hx hb dX12_stepsBut_36 ?_
          refine lv_iand hx hb dX12_stepsBut_37 ?_
          refine lv_istore (lv' := [(4, .int ((spI fG q n) &&& (z ^^^ (-1)))), (0, .ref m0), (1, .int x), (2, .int y), (3, .int z), (5, .int (nI i))]) hx hb dX12_stepsBut_38 hl (by decide) rfl (fun ls hl => ?_)
          refine lv_iinc (v := nI (i + 1)) (lv' := [(5, .int (nI (i + 1))), (4, .int ((spI fG q n) &&& (z ^^^ (-1)))), (0, .ref m0), (1, .int x), (2, .int y), (3, .int z)]) hx hb dX12_stepsBut_40 hl (k := 5) rfl (nI_add i 1) (by decide) rfl (fun ls hl => ?_)
          refine lv_goto (tgt := 8) hx hb dX12_stepsBut_43 (by decide) ?_
          exact ih8 (i + 1) ((spI fG q n) &&& (z ^^^ (-1))) (by omega) (by omega) (by rw [hq9]; rfl) (fs_next hf9 (by assumption) hq9 c_2) ls (lv_sub hl [2, 3, 4, 5, 1, 0] rfl)
        · skip
          refine lv_iload hx hb dX12_stepsBut_25 (lv_at hl 5 rfl) ?_
          rw [hQ]
          exact W.iret (v := nI i) hx hb hr (fun tQ htQ hWQ => ⟨nI i, rfl, fs_hit hf9 (by assumption) hq9 c_2, by rw [htQ]⟩) (fun q hq => absurd hq List.not_mem_nil) dX12_stepsBut_27
  exact L8 _ (0) (1 <<< (x &&& 31)) (Nat.lt_succ_self _) (by omega) (rfl) (rfl) ls (lv_sub hl [2, 3, 4, 5, 1, 0] rfl)

set_option maxHeartbeats 4000000 in
set_option maxRecDepth 100000 in
theorem c_stepsOf (l : Launch) (dC : Nat → ClassId) (dI : Nat → Nat → Nat) (m0 aS aI aB aT aG aO aN aD aY : Nat) (th im ac sp en wg op se dn rn kd nu tv : Int32) (bv : Int64) (cS cB cT cG : ClassId) (fS : Nat → Int32) (fB : Nat → Int32) (fT : Nat → Int32) (fG : Nat → Int32) (n : Nat) (x y : Int32) (cz : List pCla) (sz : Nat) (zn : fS 0 = nI n) (hn : n ≤ 8) (zh : hol fS cz) : Met l yX12_stepsOf wsX12_stepsOf ({ frames := 5, cells := 0, slots := 0, locals := 125 } : Room) (va_Pc [.ref m0, .int x, .int y] (fun U => U.heap.size = sz ∧ va_P (dC, dI) vwCl [(zo14irriiiiiirriirrrrlriiii m0 th aS aI im ac sp en wg op aB aT se dn aG aO aN aD bv aY rn kd nu tv), (zaI aS cS 901 fS), (zaI aB cB 6 fB), (zaI aT cT 64 fT), (zaI aG cG 9 fG)] U.heap ∧ va_K (dC, dI) vwCl [(cS, .int), (cB, .int), (cT, .boolean), (cG, .int)] U ∧ va_D (fun _ => True) [(zo14irriiiiiirriirrrrlriiii m0 th aS aI im ac sp en wg op aB aT se dn aG aO aN aD bv aY rn kd nu tv), (zaI aS cS 901 fS), (zaI aB cB 6 fB), (zaI aT cT 64 fT), (zaI aG cG 9 fG)])) (va_Qi (fun (r : Int32) (u : (Nat → Int32) × (Nat → Int32) × (Int32) × (Int32) × (Nat → Int32)) => match u with | (fB9, fT9, se9, dn9, fG9) => (∀ k, k < n → fG9 k = gbI (goF fS cz k) n) ∧ r = fsR fG9 n x y 0) (fun (u : (Nat → Int32) × (Nat → Int32) × (Int32) × (Int32) × (Nat → Int32)) (t : State) => match u with | (fB9, fT9, se9, dn9, fG9) => va_P (dC, dI) vwCl [(zo14irriiiiiirriirrrrlriiii m0 th aS aI im ac sp en wg op aB aT se9 dn9 aG aO aN aD bv aY rn kd nu tv), (zaI aS cS 901 fS), (zaI aB cB 6 fB9), (zaI aT cT 64 fT9), (zaI aG cG 9 fG9)] t.heap ∧ va_K (dC, dI) vwCl [(cS, .int), (cB, .int), (cT, .boolean), (cG, .int)] t ∧ va_D (va_A [(zo14irriiiiiirriirrrrlriiii m0 th aS aI im ac sp en wg op aB aT se dn aG aO aN aD bv aY rn kd nu tv), (zaI aS cS 901 fS), (zaI aB cB 6 fB), (zaI aT cT 64 fT), (zaI aG cG 9 fG)] sz) [(zo14irriiiiiirriirrrrlriiii m0 th aS aI im ac sp en wg op aB aT se9 dn9 aG aO aN aD bv aY rn kd nu tv), (zaI aS cS 901 fS), (zaI aB cB 6 fB9), (zaI aT cT 64 fT9), (zaI aG cG 9 fG9)]) (va_A [(zo14irriiiiiirriirrrrlriiii m0 th aS aI im ac sp en wg op aB aT se dn aG aO aN aD bv aY rn kd nu tv), (zaI aS cS 901 fS), (zaI aB cB 6 fB), (zaI aT cT 64 fT), (zaI aG cG 9 fG)] sz)) 0 0 (va_A [(zo14irriiiiiirriirrrrlriiii m0 th aS aI im ac sp en wg op aB aT se dn aG aO aN aD bv aY rn kd nu tv), (zaI aS cS 901 fS), (zaI aB cB 6 fB), (zaI aT cT 64 fT), (zaI aG cG 9 fG)] sz) := by
  refine met_ofQ (cc := cX12_stepsOf) (maxL := 3) (ret := (some .int)) (by decide) rfl ?_
  intro p e s m args below meth c s₁ Q B hml hv hQ
  obtain ⟨rfl, hsz, hP, hK, hD0⟩ := hv
  have hx := B.exec
  have hb := B.bytes
  have hr := B.returns
  have hts := atoms_spec (ws := wsX12_stepsOf) B.pre
  have hown : s.vm.findClass RX12 = some m.cls := findClass_of_methodNamed B.named
  have hlocks := B.notSynchronized
  subst hsz
  have hD := hD0.self (sz := s.heap.size)
  generalize hAe : va_A [(zo14irriiiiiirriirrrrlriiii m0 th aS aI im ac sp en wg op aB aT se dn aG aO aN aD bv aY rn kd nu tv), (zaI aS cS 901 fS), (zaI aB cB 6 fB), (zaI aT cT 64 fT), (zaI aG cG 9 fG)] s.heap.size = A at hD hQ ⊢
  have hA : ∀ q : Nat, s.heap.size ≤ q → A q := fun q h => by rw [← hAe]; exact Or.inr h
  have hS : va_S A s.heap s.heap [] := va_S.rf
  have hl := lv_entry [.ref m0, .int x, .int y] (n := 3) (Nat.le_of_ble_eq_true rfl)
  rw [lg_entry_eq]
  generalize (lg_sl [.ref m0, .int x, .int y] ++ List.replicate (3 - (lg_sl [.ref m0, .int x, .int y]).length) Slot.unset).toArray = ls at hl ⊢
  generalize hag : ([.ref m0, .int x, .int y] : List Value).toArray = args at hts hQ ⊢
  have hl : lv_has ls 3 [(0, .ref m0), (1, .int x), (2, .int y)] := hl
  obtain ⟨H, hH⟩ : ∃ H : Heap, H = s.heap := ⟨_, rfl⟩
  rw [← hH] at hP
  rw [← hH]
  have hS : va_S A s.heap H [] := by rw [hH]; exact hS
  obtain ⟨locs, hlo⟩ : ∃ L : List Loc, L = [] := ⟨_, rfl⟩
  rw [← hlo] at hS
  rw [← hlo]
  clear hH hlo
  refine lv_aload_n hx hb dX12_stepsOf_0 rfl (lv_at hl 0 rfl) ?_
  have hPc := hP.sub (ws' := [(zo14irriiiiiirriirrrrlriiii m0 th aS aI im ac sp en wg op aB aT se dn aG aO aN aD bv aY rn kd nu tv), (zaI aS cS 901 fS), (zaI aB cB 6 fB), (zaI aT cT 64 fT), (zaI aG cG 9 fG)]) [0, 1, 2, 3, 4] rfl
  have hDc := hD.sub (ws' := [(zo14irriiiiiirriirrrrlriiii m0 th aS aI im ac sp en wg op aB aT se dn aG aO aN aD bv aY rn kd nu tv), (zaI aS cS 901 fS), (zaI aB cB 6 fB), (zaI aT cT 64 fT), (zaI aG cG 9 fG)]) [0, 1, 2, 3, 4] (by decide) rfl
  have hKc := hK.sub (tys' := [(cS, .int), (cB, .int), (cT, .boolean), (cG, .int)]) [0, 1, 2, 3] rfl
  have hFc := va_free (wc := [(zo14irriiiiiirriirrrrlriiii m0 th aS aI im ac sp en wg op aB aT se dn aG aO aN aD bv aY rn kd nu tv), (zaI aS cS 901 fS), (zaI aB cB 6 fB), (zaI aT cT 64 fT), (zaI aG cG 9 fG)]) hD hS hA [0, 1, 2, 3, 4] rfl
  refine va_callv (va_runV (As := []) (rest := []) ⟨hx, hb, hml, hown, hts⟩ (c_goings l dC dI m0 aS aI aB aT aG aO aN aD aY th im ac sp en wg op se dn rn kd nu tv bv cS cB cT cG fS fB fT fG n cz H.size (zn) (hn) (zh)) (cwV 0 hts gX12_stepsOf_X12_looksForGoings rfl rfl rfl hd_yX12_looksForGoings ⟨Nat.le_of_ble_eq_true rfl, Nat.le_of_ble_eq_true rfl⟩) ⟨fun a U g mk q => by obtain ⟨q0, q1, qP, qK, qD⟩ := q; exact ⟨q0, q1, qP, va_K.moved (u := U) (U := U.calling g mk a) (Vm.Alike.refl U.vm) qK, qD⟩, va_recv hK hP (ci := 14) (q := (RX12, TX12, 23)) (q0 := 0) rfl rfl, fun U hU hW => ⟨rfl, by rw [hU], by rw [hU]; exact hPc, va_K.moved hW.alike hKc, hDc.weaken (fun _ _ _ _ => trivial)⟩⟩ rfl rfl hl.1 rfl (lv_room (Nat.le_of_ble_eq_true rfl)) dX12_stepsOf_1 ⟨Nat.le_of_ble_eq_true rfl, Nat.le_of_ble_eq_true rfl⟩) hS (fun q _ h => hFc q h) hFc (fun u tC H1 locs htC hvm hw_2 hB hz1 hk1 hS => ?_)
  obtain ⟨fB9_3, fT9_4, se9_5, dn9_6, fG9_7⟩ := u
  try dsimp only at hw_2 hB
  obtain ⟨hP1, hK1, hD1⟩ := hB
  rw [htC] at hP1
  have hK1 := va_K.moved hvm.symm hK1
  obtain ⟨hP, hD⟩ := va_join (wr := []) (w1 := [(zo14irriiiiiirriirrrrlriiii m0 th aS aI im ac sp en wg op aB aT se9_5 dn9_6 aG aO aN aD bv aY rn kd nu tv), (zaI aS cS 901 fS), (zaI aB cB 6 fB9_3), (zaI aT cT 64 fT9_4), (zaI aG cG 9 fG9_7)]) hP hD [0, 1, 2, 3, 4] [] rfl rfl (by decide) (by decide) hk1 hFc hP1 hD1
  have hK := (hK.sub (tys' := []) [] rfl).app hK1
  generalize H1 = H at hP hS ⊢
  have hP : va_P (dC, dI) vwCl [(zo14irriiiiiirriirrrrlriiii m0 th aS aI im ac sp en wg op aB aT se9_5 dn9_6 aG aO aN aD bv aY rn kd nu tv), (zaI aS cS 901 fS), (zaI aB cB 6 fB9_3), (zaI aT cT 64 fT9_4), (zaI aG cG 9 fG9_7)] H := hP
  have hD : va_D A [(zo14irriiiiiirriirrrrlriiii m0 th aS aI im ac sp en wg op aB aT se9_5 dn9_6 aG aO aN aD bv aY rn kd nu tv), (zaI aS cS 901 fS), (zaI aB cB 6 fB9_3), (zaI aT cT 64 fT9_4), (zaI aG cG 9 fG9_7)] := hD
  have hK : va_K (dC, dI) vwCl [(cS, .int), (cB, .int), (cT, .boolean), (cG, .int)] s := hK
  refine lv_aload_n hx hb dX12_stepsOf_4 rfl (lv_at hl 0 rfl) ?_
  refine lv_iload_n hx hb dX12_stepsOf_5 rfl (lv_at hl 1 rfl) ?_
  refine lv_iload_n hx hb dX12_stepsOf_6 rfl (lv_at hl 2 rfl) ?_
  refine lv_iconst (v := 0) hx hb dX12_stepsOf_7 (by decide) ?_
  have hPc := hP.sub (ws' := [(zo14irriiiiiirriirrrrlriiii m0 th aS aI im ac sp en wg op aB aT se9_5 dn9_6 aG aO aN aD bv aY rn kd nu tv), (zaI aS cS 901 fS), (zaI aG cG 9 fG9_7)]) [0, 1, 4] rfl
  have hKc := hK.sub (tys' := [(cS, .int), (cG, .int)]) [0, 3] rfl
  refine vp_callSi (va_runV (As := [.int x, .int y, .int 0]) (rest := []) ⟨hx, hb, hml, hown, hts⟩ (c_stepsBut l dC dI m0 aS aI aB aT aG aO aN aD aY th im ac sp en wg op se9_5 dn9_6 rn kd nu tv bv cS cG fS fG9_7 n x y 0 (zn) (hn)) (cwV 3 hts gX12_stepsOf_X12_stepsBut rfl rfl rfl hd_yX12_stepsBut ⟨Nat.le_of_ble_eq_true rfl, Nat.le_of_ble_eq_true rfl⟩) ⟨fun a U g mk q => by obtain ⟨q0, qP, qK⟩ := q; exact ⟨q0, qP, va_K.moved (u := U) (U := U.calling g mk a) (Vm.Alike.refl U.vm) qK⟩, va_recv hK hP (ci := 14) (q := (RX12, TX12, 23)) (q0 := 0) rfl rfl, fun U hU hW => ⟨rfl, by rw [hU]; exact hPc, va_K.moved hW.alike hKc⟩⟩ rfl rfl hl.1 rfl (lv_room (Nat.le_of_ble_eq_true rfl)) dX12_stepsOf_8 ⟨Nat.le_of_ble_eq_true rfl, Nat.le_of_ble_eq_true rfl⟩).run (fun r_8 hw_9 => ?_)
  obtain rfl := hw_9
  rw [hQ]
  have hP9 := hP.sub (ws' := [(zo14irriiiiiirriirrrrlriiii m0 th aS aI im ac sp en wg op aB aT se9_5 dn9_6 aG aO aN aD bv aY rn kd nu tv), (zaI aS cS 901 fS), (zaI aB cB 6 fB9_3), (zaI aT cT 64 fT9_4), (zaI aG cG 9 fG9_7)]) [0, 1, 2, 3, 4] rfl
  have hD9 := hD.sub (ws' := [(zo14irriiiiiirriirrrrlriiii m0 th aS aI im ac sp en wg op aB aT se9_5 dn9_6 aG aO aN aD bv aY rn kd nu tv), (zaI aS cS 901 fS), (zaI aB cB 6 fB9_3), (zaI aT cT 64 fT9_4), (zaI aG cG 9 fG9_7)]) [0, 1, 2, 3, 4] (by decide) rfl
  have hK9 := hK.sub (tys' := [(cS, .int), (cB, .int), (cT, .boolean), (cG, .int)]) [0, 1, 2, 3] rfl
  exact W.iret (v := fsR fG9_7 n x y 0) hx hb hr (fun tQ htQ hWQ => ⟨⟨(fsR fG9_7 n x y 0), (fB9_3, fT9_4, se9_5, dn9_6, fG9_7), rfl, ⟨hw_2, rfl⟩, by rw [htQ]; exact hP9, va_K.moved hWQ.alike hK9, hD9⟩, hS.F htQ⟩) hS.2.2 dX12_stepsOf_11

set_option maxHeartbeats 4000000 in
set_option maxRecDepth 100000 in
theorem c_mSteps (l : Launch) (dC : Nat → ClassId) (dI : Nat → Nat → Nat) (m0 aS aI aB aT aG aO aN aD aY : Nat) (th im ac sp en wg op se dn rn kd nu tv : Int32) (bv : Int64) (cS cB cT cG : ClassId) (fS : Nat → Int32) (fB : Nat → Int32) (fT : Nat → Int32) (fG : Nat → Int32) (n : Nat) (yk yv yc : Nat → Int32) (mi sn : Int32) (x y : Int32) (cz : List pCla) (sz : Nat) (zn : fS 0 = nI n) (hn : n ≤ 8) (zh : hol fS cz) (zkd : ∀ k, k < n → fS (10 + k) = yk k) (zvv : ∀ k, k < n → fS (19 + k) = yv k) (zc : ∀ k, k < n → fS (28 + k) = yc k) (zmi : fS 6 = mi) (zsn : fS 7 = sn) : Met l yX12_steps wsX12_steps ({ frames := 6, cells := 0, slots := 0, locals := 147 } : Room) (va_Pc [.ref m0, .int x, .int y] (fun U => U.heap.size = sz ∧ va_P (dC, dI) vwCl [(zo14irriiiiiirriirrrrlriiii m0 th aS aI im ac sp en wg op aB aT se dn aG aO aN aD bv aY rn kd nu tv), (zaI aS cS 901 fS), (zaI aB cB 6 fB), (zaI aT cT 64 fT), (zaI aG cG 9 fG)] U.heap ∧ va_K (dC, dI) vwCl [(cS, .int), (cB, .int), (cT, .boolean), (cG, .int)] U ∧ va_D (fun _ => True) [(zo14irriiiiiirriirrrrlriiii m0 th aS aI im ac sp en wg op aB aT se dn aG aO aN aD bv aY rn kd nu tv), (zaI aS cS 901 fS), (zaI aB cB 6 fB), (zaI aT cT 64 fT), (zaI aG cG 9 fG)])) (va_Qi (fun (r : Int32) (u : (Nat → Int32) × (Nat → Int32) × (Int32) × (Int32) × (Nat → Int32)) => match u with | (fB9, fT9, se9, dn9, fG9) => r = stR_ n yk yv yc cz mi sn x y) (fun (u : (Nat → Int32) × (Nat → Int32) × (Int32) × (Int32) × (Nat → Int32)) (t : State) => match u with | (fB9, fT9, se9, dn9, fG9) => va_P (dC, dI) vwCl [(zo14irriiiiiirriirrrrlriiii m0 th aS aI im ac sp en wg op aB aT se9 dn9 aG aO aN aD bv aY rn kd nu tv), (zaI aS cS 901 fS), (zaI aB cB 6 fB9), (zaI aT cT 64 fT9), (zaI aG cG 9 fG9)] t.heap ∧ va_K (dC, dI) vwCl [(cS, .int), (cB, .int), (cT, .boolean), (cG, .int)] t ∧ va_D (va_A [(zo14irriiiiiirriirrrrlriiii m0 th aS aI im ac sp en wg op aB aT se dn aG aO aN aD bv aY rn kd nu tv), (zaI aS cS 901 fS), (zaI aB cB 6 fB), (zaI aT cT 64 fT), (zaI aG cG 9 fG)] sz) [(zo14irriiiiiirriirrrrlriiii m0 th aS aI im ac sp en wg op aB aT se9 dn9 aG aO aN aD bv aY rn kd nu tv), (zaI aS cS 901 fS), (zaI aB cB 6 fB9), (zaI aT cT 64 fT9), (zaI aG cG 9 fG9)]) (va_A [(zo14irriiiiiirriirrrrlriiii m0 th aS aI im ac sp en wg op aB aT se dn aG aO aN aD bv aY rn kd nu tv), (zaI aS cS 901 fS), (zaI aB cB 6 fB), (zaI aT cT 64 fT), (zaI aG cG 9 fG)] sz)) 0 0 (va_A [(zo14irriiiiiirriirrrrlriiii m0 th aS aI im ac sp en wg op aB aT se dn aG aO aN aD bv aY rn kd nu tv), (zaI aS cS 901 fS), (zaI aB cB 6 fB), (zaI aT cT 64 fT), (zaI aG cG 9 fG)] sz) := by
  refine met_ofQ (cc := cX12_steps) (maxL := 3) (ret := (some .int)) (by decide) rfl ?_
  intro p e s m args below meth c s₁ Q B hml hv hQ
  obtain ⟨rfl, hsz, hP, hK, hD0⟩ := hv
  have hx := B.exec
  have hb := B.bytes
  have hr := B.returns
  have hts := atoms_spec (ws := wsX12_steps) B.pre
  have hown : s.vm.findClass RX12 = some m.cls := findClass_of_methodNamed B.named
  have hlocks := B.notSynchronized
  subst hsz
  have hD := hD0.self (sz := s.heap.size)
  generalize hAe : va_A [(zo14irriiiiiirriirrrrlriiii m0 th aS aI im ac sp en wg op aB aT se dn aG aO aN aD bv aY rn kd nu tv), (zaI aS cS 901 fS), (zaI aB cB 6 fB), (zaI aT cT 64 fT), (zaI aG cG 9 fG)] s.heap.size = A at hD hQ ⊢
  have hA : ∀ q : Nat, s.heap.size ≤ q → A q := fun q h => by rw [← hAe]; exact Or.inr h
  have hS : va_S A s.heap s.heap [] := va_S.rf
  have hl := lv_entry [.ref m0, .int x, .int y] (n := 3) (Nat.le_of_ble_eq_true rfl)
  rw [lg_entry_eq]
  generalize (lg_sl [.ref m0, .int x, .int y] ++ List.replicate (3 - (lg_sl [.ref m0, .int x, .int y]).length) Slot.unset).toArray = ls at hl ⊢
  generalize hag : ([.ref m0, .int x, .int y] : List Value).toArray = args at hts hQ ⊢
  have hl : lv_has ls 3 [(0, .ref m0), (1, .int x), (2, .int y)] := hl
  obtain ⟨H, hH⟩ : ∃ H : Heap, H = s.heap := ⟨_, rfl⟩
  rw [← hH] at hP
  rw [← hH]
  have hS : va_S A s.heap H [] := by rw [hH]; exact hS
  obtain ⟨locs, hlo⟩ : ∃ L : List Loc, L = [] := ⟨_, rfl⟩
  rw [← hlo] at hS
  rw [← hlo]
  clear hH hlo
  refine lv_aload_n hx hb dX12_steps_0 rfl (lv_at hl 0 rfl) ?_
  refine lv_iload_n hx hb dX12_steps_1 rfl (lv_at hl 1 rfl) ?_
  have hPc := hP.sub (ws' := [(zo14irriiiiiirriirrrrlriiii m0 th aS aI im ac sp en wg op aB aT se dn aG aO aN aD bv aY rn kd nu tv), (zaI aS cS 901 fS)]) [0, 1] rfl
  have hKc := hK.sub (tys' := [(cS, .int)]) [0] rfl
  refine vp_callSi (va_runV (As := [.int x]) (rest := []) ⟨hx, hb, hml, hown, hts⟩ (c_isHeap l dC dI m0 aS aI aB aT aG aO aN aD aY th im ac sp en wg op se dn rn kd nu tv bv cS fS n x (zn) (hn)) (cwV 1 hts gX12_steps_X12_isHeap rfl rfl rfl hd_yX12_isHeap ⟨Nat.le_of_ble_eq_true rfl, Nat.le_of_ble_eq_true rfl⟩) ⟨fun a U g mk q => by obtain ⟨q0, qP, qK⟩ := q; exact ⟨q0, qP, va_K.moved (u := U) (U := U.calling g mk a) (Vm.Alike.refl U.vm) qK⟩, va_recv hK hP (ci := 14) (q := (RX12, TX12, 23)) (q0 := 0) rfl rfl, fun U hU hW => ⟨rfl, by rw [hU]; exact hPc, va_K.moved hW.alike hKc⟩⟩ rfl rfl hl.1 rfl (lv_room (Nat.le_of_ble_eq_true rfl)) dX12_steps_2 ⟨Nat.le_of_ble_eq_true rfl, Nat.le_of_ble_eq_true rfl⟩).run (fun r_1 hw_2 => ?_)
  rcases hw_2 with ⟨rfl, j_3, hj_4, rfl⟩ | ⟨rfl, h_5⟩
  · skip
    refine lv_if_eq (tgt := 25) hx hb dX12_steps_5 (by decide) (fun c_6 => absurd c_6 (by decide)) (fun _ => ?_)
    refine lv_aload_n hx hb dX12_steps_8 rfl (lv_at hl 0 rfl) ?_
    refine lv_iload_n hx hb dX12_steps_9 rfl (lv_at hl 2 rfl) ?_
    have hPc := hP.sub (ws' := [(zo14irriiiiiirriirrrrlriiii m0 th aS aI im ac sp en wg op aB aT se dn aG aO aN aD bv aY rn kd nu tv), (zaI aS cS 901 fS)]) [0, 1] rfl
    have hKc := hK.sub (tys' := [(cS, .int)]) [0] rfl
    refine vp_callSi (va_runV (As := [.int y]) (rest := []) ⟨hx, hb, hml, hown, hts⟩ (c_isHeap l dC dI m0 aS aI aB aT aG aO aN aD aY th im ac sp en wg op se dn rn kd nu tv bv cS fS n y (zn) (hn)) (cwV 1 hts gX12_steps_X12_isHeap rfl rfl rfl hd_yX12_isHeap ⟨Nat.le_of_ble_eq_true rfl, Nat.le_of_ble_eq_true rfl⟩) ⟨fun a U g mk q => by obtain ⟨q0, qP, qK⟩ := q; exact ⟨q0, qP, va_K.moved (u := U) (U := U.calling g mk a) (Vm.Alike.refl U.vm) qK⟩, va_recv hK hP (ci := 14) (q := (RX12, TX12, 23)) (q0 := 0) rfl rfl, fun U hU hW => ⟨rfl, by rw [hU]; exact hPc, va_K.moved hW.alike hKc⟩⟩ rfl rfl hl.1 rfl (lv_room (Nat.le_of_ble_eq_true rfl)) dX12_steps_10 ⟨Nat.le_of_ble_eq_true rfl, Nat.le_of_ble_eq_true rfl⟩).run (fun r_7 hw_8 => ?_)
    rcases hw_8 with ⟨rfl, j_9, hj_10, rfl⟩ | ⟨rfl, h_11⟩
    · skip
      refine lv_if_eq (tgt := 25) hx hb dX12_steps_13 (by decide) (fun c_12 => absurd c_12 (by decide)) (fun _ => ?_)
      refine lv_aload_n hx hb dX12_steps_16 rfl (lv_at hl 0 rfl) ?_
      refine lv_iload_n hx hb dX12_steps_17 rfl (lv_at hl 1 rfl) ?_
      refine lv_iload_n hx hb dX12_steps_18 rfl (lv_at hl 2 rfl) ?_
      have hPc := hP.sub (ws' := [(zo14irriiiiiirriirrrrlriiii m0 th aS aI im ac sp en wg op aB aT se dn aG aO aN aD bv aY rn kd nu tv), (zaI aS cS 901 fS), (zaI aB cB 6 fB), (zaI aT cT 64 fT), (zaI aG cG 9 fG)]) [0, 1, 2, 3, 4] rfl
      have hDc := hD.sub (ws' := [(zo14irriiiiiirriirrrrlriiii m0 th aS aI im ac sp en wg op aB aT se dn aG aO aN aD bv aY rn kd nu tv), (zaI aS cS 901 fS), (zaI aB cB 6 fB), (zaI aT cT 64 fT), (zaI aG cG 9 fG)]) [0, 1, 2, 3, 4] (by decide) rfl
      have hKc := hK.sub (tys' := [(cS, .int), (cB, .int), (cT, .boolean), (cG, .int)]) [0, 1, 2, 3] rfl
      have hFc := va_free (wc := [(zo14irriiiiiirriirrrrlriiii m0 th aS aI im ac sp en wg op aB aT se dn aG aO aN aD bv aY rn kd nu tv), (zaI aS cS 901 fS), (zaI aB cB 6 fB), (zaI aT cT 64 fT), (zaI aG cG 9 fG)]) hD hS hA [0, 1, 2, 3, 4] rfl
      refine va_calli (va_runV (As := [.int (nI j_3), .int (nI j_9)]) (rest := []) ⟨hx, hb, hml, hown, hts⟩ (c_stepsOf l dC dI m0 aS aI aB aT aG aO aN aD aY th im ac sp en wg op se dn rn kd nu tv bv cS cB cT cG fS fB fT fG n (nI j_3) (nI j_9) cz H.size (zn) (hn) (zh)) (cwV 2 hts gX12_steps_X12_stepsOf rfl rfl rfl hd_yX12_stepsOf ⟨Nat.le_of_ble_eq_true rfl, Nat.le_of_ble_eq_true rfl⟩) ⟨fun a U g mk q => by obtain ⟨q0, q1, qP, qK, qD⟩ := q; exact ⟨q0, q1, qP, va_K.moved (u := U) (U := U.calling g mk a) (Vm.Alike.refl U.vm) qK, qD⟩, va_recv hK hP (ci := 14) (q := (RX12, TX12, 23)) (q0 := 0) rfl rfl, fun U hU hW => ⟨rfl, by rw [hU], by rw [hU]; exact hPc, va_K.moved hW.alike hKc, hDc.weaken (fun _ _ _ _ => trivial)⟩⟩ rfl rfl hl.1 rfl (lv_room (Nat.le_of_ble_eq_true rfl)) dX12_steps_19 ⟨Nat.le_of_ble_eq_true rfl, Nat.le_of_ble_eq_true rfl⟩) hS (fun q _ h => hFc q h) hFc (fun r_13 u tC H1 locs htC hvm hw_14 hB hz1 hk1 hS => ?_)
      obtain ⟨fB9_15, fT9_16, se9_17, dn9_18, fG9_19⟩ := u
      try dsimp only at hw_14 hB
      obtain ⟨hP1, hK1, hD1⟩ := hB
      rw [htC] at hP1
      have hK1 := va_K.moved hvm.symm hK1
      obtain ⟨hP, hD⟩ := va_join (wr := []) (w1 := [(zo14irriiiiiirriirrrrlriiii m0 th aS aI im ac sp en wg op aB aT se9_17 dn9_18 aG aO aN aD bv aY rn kd nu tv), (zaI aS cS 901 fS), (zaI aB cB 6 fB9_15), (zaI aT cT 64 fT9_16), (zaI aG cG 9 fG9_19)]) hP hD [0, 1, 2, 3, 4] [] rfl rfl (by decide) (by decide) hk1 hFc hP1 hD1
      have hK := (hK.sub (tys' := []) [] rfl).app hK1
      generalize H1 = H at hP hS ⊢
      have hP : va_P (dC, dI) vwCl [(zo14irriiiiiirriirrrrlriiii m0 th aS aI im ac sp en wg op aB aT se9_17 dn9_18 aG aO aN aD bv aY rn kd nu tv), (zaI aS cS 901 fS), (zaI aB cB 6 fB9_15), (zaI aT cT 64 fT9_16), (zaI aG cG 9 fG9_19)] H := hP
      have hD : va_D A [(zo14irriiiiiirriirrrrlriiii m0 th aS aI im ac sp en wg op aB aT se9_17 dn9_18 aG aO aN aD bv aY rn kd nu tv), (zaI aS cS 901 fS), (zaI aB cB 6 fB9_15), (zaI aT cT 64 fT9_16), (zaI aG cG 9 fG9_19)] := hD
      have hK : va_K (dC, dI) vwCl [(cS, .int), (cB, .int), (cT, .boolean), (cG, .int)] s := hK
      obtain ⟨hs1, rfl⟩ := hw_14
      refine lv_goto (tgt := 26) hx hb dX12_steps_22 (by decide) ?_
      rw [hQ]
      have hP9 := hP.sub (ws' := [(zo14irriiiiiirriirrrrlriiii m0 th aS aI im ac sp en wg op aB aT se9_17 dn9_18 aG aO aN aD bv aY rn kd nu tv), (zaI aS cS 901 fS), (zaI aB cB 6 fB9_15), (zaI aT cT 64 fT9_16), (zaI aG cG 9 fG9_19)]) [0, 1, 2, 3, 4] rfl
      have hD9 := hD.sub (ws' := [(zo14irriiiiiirriirrrrlriiii m0 th aS aI im ac sp en wg op aB aT se9_17 dn9_18 aG aO aN aD bv aY rn kd nu tv), (zaI aS cS 901 fS), (zaI aB cB 6 fB9_15), (zaI aT cT 64 fT9_16), (zaI aG cG 9 fG9_19)]) [0, 1, 2, 3, 4] (by decide) rfl
      have hK9 := hK.sub (tys' := [(cS, .int), (cB, .int), (cT, .boolean), (cG, .int)]) [0, 1, 2, 3] rfl
      exact W.iret (v := fsR fG9_19 n (nI j_3) (nI j_9) 0) hx hb hr (fun tQ htQ hWQ => ⟨⟨(fsR fG9_19 n (nI j_3) (nI j_9) 0), (fB9_15, fT9_16, se9_17, dn9_18, fG9_19), rfl, st_m hn (by omega) (by omega) (row_m hs1 zkd zvv zc zmi zsn), by rw [htQ]; exact hP9, va_K.moved hWQ.alike hK9, hD9⟩, hS.F htQ⟩) hS.2.2 dX12_steps_26
    · skip
      refine lv_if_eq (tgt := 25) hx hb dX12_steps_13 (by decide) (fun _ => ?_) (fun c_20 => absurd c_20 (by decide))
      refine lv_iconst (v := (-1)) hx hb dX12_steps_25 (by decide) ?_
      rw [hQ]
      have hP9 := hP.sub (ws' := [(zo14irriiiiiirriirrrrlriiii m0 th aS aI im ac sp en wg op aB aT se dn aG aO aN aD bv aY rn kd nu tv), (zaI aS cS 901 fS), (zaI aB cB 6 fB), (zaI aT cT 64 fT), (zaI aG cG 9 fG)]) [0, 1, 2, 3, 4] rfl
      have hD9 := hD.sub (ws' := [(zo14irriiiiiirriirrrrlriiii m0 th aS aI im ac sp en wg op aB aT se dn aG aO aN aD bv aY rn kd nu tv), (zaI aS cS 901 fS), (zaI aB cB 6 fB), (zaI aT cT 64 fT), (zaI aG cG 9 fG)]) [0, 1, 2, 3, 4] (by decide) rfl
      have hK9 := hK.sub (tys' := [(cS, .int), (cB, .int), (cT, .boolean), (cG, .int)]) [0, 1, 2, 3] rfl
      exact W.iret (v := (-1)) hx hb hr (fun tQ htQ hWQ => ⟨⟨(-1), (fB, fT, se, dn, fG), rfl, by first | exact two_no1 (by assumption) | exact two_no2 (by assumption), by rw [htQ]; exact hP9, va_K.moved hWQ.alike hK9, hD9⟩, hS.F htQ⟩) hS.2.2 dX12_steps_26
  · skip
    refine lv_if_eq (tgt := 25) hx hb dX12_steps_5 (by decide) (fun _ => ?_) (fun c_21 => absurd c_21 (by decide))
    refine lv_iconst (v := (-1)) hx hb dX12_steps_25 (by decide) ?_
    rw [hQ]
    have hP9 := hP.sub (ws' := [(zo14irriiiiiirriirrrrlriiii m0 th aS aI im ac sp en wg op aB aT se dn aG aO aN aD bv aY rn kd nu tv), (zaI aS cS 901 fS), (zaI aB cB 6 fB), (zaI aT cT 64 fT), (zaI aG cG 9 fG)]) [0, 1, 2, 3, 4] rfl
    have hD9 := hD.sub (ws' := [(zo14irriiiiiirriirrrrlriiii m0 th aS aI im ac sp en wg op aB aT se dn aG aO aN aD bv aY rn kd nu tv), (zaI aS cS 901 fS), (zaI aB cB 6 fB), (zaI aT cT 64 fT), (zaI aG cG 9 fG)]) [0, 1, 2, 3, 4] (by decide) rfl
    have hK9 := hK.sub (tys' := [(cS, .int), (cB, .int), (cT, .boolean), (cG, .int)]) [0, 1, 2, 3] rfl
    exact W.iret (v := (-1)) hx hb hr (fun tQ htQ hWQ => ⟨⟨(-1), (fB, fT, se, dn, fG), rfl, by first | exact two_no1 (by assumption) | exact two_no2 (by assumption), by rw [htQ]; exact hP9, va_K.moved hWQ.alike hK9, hD9⟩, hS.F htQ⟩) hS.2.2 dX12_steps_26

theorem kc_mVia_0 : ∀ w ∈ wsX120, w ∈ wsX12_via := fun w h => List.mem_cons_of_mem _ (gin_wsX120 w h)
theorem kc_mVia_1 : (.fieldLink RX12 9 "MistHeapsModel" "s" "[I" : Cond) ∈ wsX12_via := kc_of 1141 rfl rfl rfl
theorem kc_mVia_2 : (.fieldLink RX12 25 "MistHeapsModel" "goes" "[I" : Cond) ∈ wsX12_via := kc_of 1153 rfl rfl rfl
set_option maxHeartbeats 4000000 in
set_option maxRecDepth 100000 in
theorem c_mVia (l : Launch) (dC : Nat → ClassId) (dI : Nat → Nat → Nat) (m0 aS aI aB aT aG aO aN aD aY : Nat) (th im ac sp en wg op se dn rn kd nu tv : Int32) (bv : Int64) (cS cB cT cG : ClassId) (fS : Nat → Int32) (fB : Nat → Int32) (fT : Nat → Int32) (fG : Nat → Int32) (n : Nat) (yk yv yc : Nat → Int32) (mi sn : Int32) (x y : Int32) (cz : List pCla) (sz : Nat) (zn : fS 0 = nI n) (hn : n ≤ 8) (zh : hol fS cz) (zkd : ∀ k, k < n → fS (10 + k) = yk k) (zvv : ∀ k, k < n → fS (19 + k) = yv k) (zc : ∀ k, k < n → fS (28 + k) = yc k) (zmi : fS 6 = mi) (zsn : fS 7 = sn) : Met l yX12_via wsX12_via ({ frames := 6, cells := 0, slots := 0, locals := 147 } : Room) (va_Pc [.ref m0, .int x, .int y] (fun U => U.heap.size = sz ∧ va_P (dC, dI) vwCl [(zo14irriiiiiirriirrrrlriiii m0 th aS aI im ac sp en wg op aB aT se dn aG aO aN aD bv aY rn kd nu tv), (zaI aS cS 901 fS), (zaI aB cB 6 fB), (zaI aT cT 64 fT), (zaI aG cG 9 fG)] U.heap ∧ va_K (dC, dI) vwCl [(cS, .int), (cB, .int), (cT, .boolean), (cG, .int)] U ∧ va_D (fun _ => True) [(zo14irriiiiiirriirrrrlriiii m0 th aS aI im ac sp en wg op aB aT se dn aG aO aN aD bv aY rn kd nu tv), (zaI aS cS 901 fS), (zaI aB cB 6 fB), (zaI aT cT 64 fT), (zaI aG cG 9 fG)])) (va_Qi (fun (r : Int32) (u : (Nat → Int32) × (Nat → Int32) × (Int32) × (Int32) × (Nat → Int32)) => match u with | (fB9, fT9, se9, dn9, fG9) => r = viR_ n yk yv yc cz mi sn x y) (fun (u : (Nat → Int32) × (Nat → Int32) × (Int32) × (Int32) × (Nat → Int32)) (t : State) => match u with | (fB9, fT9, se9, dn9, fG9) => va_P (dC, dI) vwCl [(zo14irriiiiiirriirrrrlriiii m0 th aS aI im ac sp en wg op aB aT se9 dn9 aG aO aN aD bv aY rn kd nu tv), (zaI aS cS 901 fS), (zaI aB cB 6 fB9), (zaI aT cT 64 fT9), (zaI aG cG 9 fG9)] t.heap ∧ va_K (dC, dI) vwCl [(cS, .int), (cB, .int), (cT, .boolean), (cG, .int)] t ∧ va_D (va_A [(zo14irriiiiiirriirrrrlriiii m0 th aS aI im ac sp en wg op aB aT se dn aG aO aN aD bv aY rn kd nu tv), (zaI aS cS 901 fS), (zaI aB cB 6 fB), (zaI aT cT 64 fT), (zaI aG cG 9 fG)] sz) [(zo14irriiiiiirriirrrrlriiii m0 th aS aI im ac sp en wg op aB aT se9 dn9 aG aO aN aD bv aY rn kd nu tv), (zaI aS cS 901 fS), (zaI aB cB 6 fB9), (zaI aT cT 64 fT9), (zaI aG cG 9 fG9)]) (va_A [(zo14irriiiiiirriirrrrlriiii m0 th aS aI im ac sp en wg op aB aT se dn aG aO aN aD bv aY rn kd nu tv), (zaI aS cS 901 fS), (zaI aB cB 6 fB), (zaI aT cT 64 fT), (zaI aG cG 9 fG)] sz)) 0 0 (va_A [(zo14irriiiiiirriirrrrlriiii m0 th aS aI im ac sp en wg op aB aT se dn aG aO aN aD bv aY rn kd nu tv), (zaI aS cS 901 fS), (zaI aB cB 6 fB), (zaI aT cT 64 fT), (zaI aG cG 9 fG)] sz) := by
  refine met_ofQ (cc := cX12_via) (maxL := 5) (ret := (some .int)) (by decide) rfl ?_
  intro p e s m args below meth c s₁ Q B hml hv hQ
  obtain ⟨rfl, hsz, hP, hK, hD0⟩ := hv
  have hx := B.exec
  have hb := B.bytes
  have hr := B.returns
  have hts := atoms_spec (ws := wsX12_via) B.pre
  have hown : s.vm.findClass RX12 = some m.cls := findClass_of_methodNamed B.named
  have hlocks := B.notSynchronized
  subst hsz
  have hD := hD0.self (sz := s.heap.size)
  generalize hAe : va_A [(zo14irriiiiiirriirrrrlriiii m0 th aS aI im ac sp en wg op aB aT se dn aG aO aN aD bv aY rn kd nu tv), (zaI aS cS 901 fS), (zaI aB cB 6 fB), (zaI aT cT 64 fT), (zaI aG cG 9 fG)] s.heap.size = A at hD hQ ⊢
  have hA : ∀ q : Nat, s.heap.size ≤ q → A q := fun q h => by rw [← hAe]; exact Or.inr h
  have hS : va_S A s.heap s.heap [] := va_S.rf
  have hl := lv_entry [.ref m0, .int x, .int y] (n := 5) (Nat.le_of_ble_eq_true rfl)
  rw [lg_entry_eq]
  generalize (lg_sl [.ref m0, .int x, .int y] ++ List.replicate (5 - (lg_sl [.ref m0, .int x, .int y]).length) Slot.unset).toArray = ls at hl ⊢
  generalize hag : ([.ref m0, .int x, .int y] : List Value).toArray = args at hts hQ ⊢
  have hl : lv_has ls 5 [(0, .ref m0), (1, .int x), (2, .int y)] := hl
  obtain ⟨H, hH⟩ : ∃ H : Heap, H = s.heap := ⟨_, rfl⟩
  rw [← hH] at hP
  rw [← hH]
  have hS : va_S A s.heap H [] := by rw [hH]; exact hS
  obtain ⟨locs, hlo⟩ : ∃ L : List Loc, L = [] := ⟨_, rfl⟩
  rw [← hlo] at hS
  rw [← hlo]
  clear hH hlo
  refine lv_aload_n hx hb dX12_via_0 rfl (lv_at hl 0 rfl) ?_
  refine lv_iload_n hx hb dX12_via_1 rfl (lv_at hl 1 rfl) ?_
  have hPc := hP.sub (ws' := [(zo14irriiiiiirriirrrrlriiii m0 th aS aI im ac sp en wg op aB aT se dn aG aO aN aD bv aY rn kd nu tv), (zaI aS cS 901 fS)]) [0, 1] rfl
  have hKc := hK.sub (tys' := [(cS, .int)]) [0] rfl
  refine vp_callSi (va_runV (As := [.int x]) (rest := []) ⟨hx, hb, hml, hown, hts⟩ (c_isHeap l dC dI m0 aS aI aB aT aG aO aN aD aY th im ac sp en wg op se dn rn kd nu tv bv cS fS n x (zn) (hn)) (cwV 1 hts gX12_via_X12_isHeap rfl rfl rfl hd_yX12_isHeap ⟨Nat.le_of_ble_eq_true rfl, Nat.le_of_ble_eq_true rfl⟩) ⟨fun a U g mk q => by obtain ⟨q0, qP, qK⟩ := q; exact ⟨q0, qP, va_K.moved (u := U) (U := U.calling g mk a) (Vm.Alike.refl U.vm) qK⟩, va_recv hK hP (ci := 14) (q := (RX12, TX12, 23)) (q0 := 0) rfl rfl, fun U hU hW => ⟨rfl, by rw [hU]; exact hPc, va_K.moved hW.alike hKc⟩⟩ rfl rfl hl.1 rfl (lv_room (Nat.le_of_ble_eq_true rfl)) dX12_via_2 ⟨Nat.le_of_ble_eq_true rfl, Nat.le_of_ble_eq_true rfl⟩).run (fun r_1 hw_2 => ?_)
  rcases hw_2 with ⟨rfl, j_3, hj_4, rfl⟩ | ⟨rfl, h_5⟩
  · skip
    refine lv_if_eq (tgt := 16) hx hb dX12_via_5 (by decide) (fun c_6 => absurd c_6 (by decide)) (fun _ => ?_)
    refine lv_aload_n hx hb dX12_via_8 rfl (lv_at hl 0 rfl) ?_
    refine lv_iload_n hx hb dX12_via_9 rfl (lv_at hl 2 rfl) ?_
    have hPc := hP.sub (ws' := [(zo14irriiiiiirriirrrrlriiii m0 th aS aI im ac sp en wg op aB aT se dn aG aO aN aD bv aY rn kd nu tv), (zaI aS cS 901 fS)]) [0, 1] rfl
    have hKc := hK.sub (tys' := [(cS, .int)]) [0] rfl
    refine vp_callSi (va_runV (As := [.int y]) (rest := []) ⟨hx, hb, hml, hown, hts⟩ (c_isHeap l dC dI m0 aS aI aB aT aG aO aN aD aY th im ac sp en wg op se dn rn kd nu tv bv cS fS n y (zn) (hn)) (cwV 1 hts gX12_via_X12_isHeap rfl rfl rfl hd_yX12_isHeap ⟨Nat.le_of_ble_eq_true rfl, Nat.le_of_ble_eq_true rfl⟩) ⟨fun a U g mk q => by obtain ⟨q0, qP, qK⟩ := q; exact ⟨q0, qP, va_K.moved (u := U) (U := U.calling g mk a) (Vm.Alike.refl U.vm) qK⟩, va_recv hK hP (ci := 14) (q := (RX12, TX12, 23)) (q0 := 0) rfl rfl, fun U hU hW => ⟨rfl, by rw [hU]; exact hPc, va_K.moved hW.alike hKc⟩⟩ rfl rfl hl.1 rfl (lv_room (Nat.le_of_ble_eq_true rfl)) dX12_via_10 ⟨Nat.le_of_ble_eq_true rfl, Nat.le_of_ble_eq_true rfl⟩).run (fun r_7 hw_8 => ?_)
    rcases hw_8 with ⟨rfl, j_9, hj_10, rfl⟩ | ⟨rfl, h_11⟩
    · skip
      refine lv_if_ne (tgt := 18) hx hb dX12_via_13 (by decide) (fun _ => ?_) (fun c_12 => absurd c_12 (by decide))
      refine lv_aload_n hx hb dX12_via_18 rfl (lv_at hl 0 rfl) ?_
      refine lv_iload_n hx hb dX12_via_19 rfl (lv_at hl 1 rfl) ?_
      refine lv_iload_n hx hb dX12_via_20 rfl (lv_at hl 2 rfl) ?_
      have hPc := hP.sub (ws' := [(zo14irriiiiiirriirrrrlriiii m0 th aS aI im ac sp en wg op aB aT se dn aG aO aN aD bv aY rn kd nu tv), (zaI aS cS 901 fS), (zaI aB cB 6 fB), (zaI aT cT 64 fT), (zaI aG cG 9 fG)]) [0, 1, 2, 3, 4] rfl
      have hDc := hD.sub (ws' := [(zo14irriiiiiirriirrrrlriiii m0 th aS aI im ac sp en wg op aB aT se dn aG aO aN aD bv aY rn kd nu tv), (zaI aS cS 901 fS), (zaI aB cB 6 fB), (zaI aT cT 64 fT), (zaI aG cG 9 fG)]) [0, 1, 2, 3, 4] (by decide) rfl
      have hKc := hK.sub (tys' := [(cS, .int), (cB, .int), (cT, .boolean), (cG, .int)]) [0, 1, 2, 3] rfl
      have hFc := va_free (wc := [(zo14irriiiiiirriirrrrlriiii m0 th aS aI im ac sp en wg op aB aT se dn aG aO aN aD bv aY rn kd nu tv), (zaI aS cS 901 fS), (zaI aB cB 6 fB), (zaI aT cT 64 fT), (zaI aG cG 9 fG)]) hD hS hA [0, 1, 2, 3, 4] rfl
      refine va_calli (va_runV (As := [.int (nI j_3), .int (nI j_9)]) (rest := []) ⟨hx, hb, hml, hown, hts⟩ (c_stepsOf l dC dI m0 aS aI aB aT aG aO aN aD aY th im ac sp en wg op se dn rn kd nu tv bv cS cB cT cG fS fB fT fG n (nI j_3) (nI j_9) cz H.size (zn) (hn) (zh)) (cwV 2 hts gX12_via_X12_stepsOf rfl rfl rfl hd_yX12_stepsOf ⟨Nat.le_of_ble_eq_true rfl, Nat.le_of_ble_eq_true rfl⟩) ⟨fun a U g mk q => by obtain ⟨q0, q1, qP, qK, qD⟩ := q; exact ⟨q0, q1, qP, va_K.moved (u := U) (U := U.calling g mk a) (Vm.Alike.refl U.vm) qK, qD⟩, va_recv hK hP (ci := 14) (q := (RX12, TX12, 23)) (q0 := 0) rfl rfl, fun U hU hW => ⟨rfl, by rw [hU], by rw [hU]; exact hPc, va_K.moved hW.alike hKc, hDc.weaken (fun _ _ _ _ => trivial)⟩⟩ rfl rfl hl.1 rfl (lv_room (Nat.le_of_ble_eq_true rfl)) dX12_via_21 ⟨Nat.le_of_ble_eq_true rfl, Nat.le_of_ble_eq_true rfl⟩) hS (fun q _ h => hFc q h) hFc (fun r_13 u tC H1 locs htC hvm hw_14 hB hz1 hk1 hS => ?_)
      obtain ⟨fB9_15, fT9_16, se9_17, dn9_18, fG9_19⟩ := u
      try dsimp only at hw_14 hB
      obtain ⟨hP1, hK1, hD1⟩ := hB
      rw [htC] at hP1
      have hK1 := va_K.moved hvm.symm hK1
      obtain ⟨hP, hD⟩ := va_join (wr := []) (w1 := [(zo14irriiiiiirriirrrrlriiii m0 th aS aI im ac sp en wg op aB aT se9_17 dn9_18 aG aO aN aD bv aY rn kd nu tv), (zaI aS cS 901 fS), (zaI aB cB 6 fB9_15), (zaI aT cT 64 fT9_16), (zaI aG cG 9 fG9_19)]) hP hD [0, 1, 2, 3, 4] [] rfl rfl (by decide) (by decide) hk1 hFc hP1 hD1
      have hK := (hK.sub (tys' := []) [] rfl).app hK1
      generalize H1 = H at hP hS ⊢
      have hP : va_P (dC, dI) vwCl [(zo14irriiiiiirriirrrrlriiii m0 th aS aI im ac sp en wg op aB aT se9_17 dn9_18 aG aO aN aD bv aY rn kd nu tv), (zaI aS cS 901 fS), (zaI aB cB 6 fB9_15), (zaI aT cT 64 fT9_16), (zaI aG cG 9 fG9_19)] H := hP
      have hD : va_D A [(zo14irriiiiiirriirrrrlriiii m0 th aS aI im ac sp en wg op aB aT se9_17 dn9_18 aG aO aN aD bv aY rn kd nu tv), (zaI aS cS 901 fS), (zaI aB cB 6 fB9_15), (zaI aT cT 64 fT9_16), (zaI aG cG 9 fG9_19)] := hD
      have hK : va_K (dC, dI) vwCl [(cS, .int), (cB, .int), (cT, .boolean), (cG, .int)] s := hK
      obtain ⟨hs1, rfl⟩ := hw_14
      obtain ⟨V9, hV9⟩ : ∃ V : Nat → Prop, V = viP fG9_19 n j_3 (nI j_9) := ⟨_, rfl⟩
      obtain ⟨A9, hA9⟩ : ∃ A : Int32, A = fiF V9 n 0 := ⟨_, rfl⟩
      refine lv_istore_n (lv' := [(3, .int (fsR fG9_19 n (nI j_3) (nI j_9) 0)), (0, .ref m0), (1, .int (nI j_3)), (2, .int (nI j_9))]) hx hb dX12_via_24 rfl hl (by decide) rfl (fun ls hl => ?_)
      refine lv_iconst (v := 0) hx hb dX12_via_25 (by decide) ?_
      refine lv_istore (lv' := [(4, .int 0), (3, .int (fsR fG9_19 n (nI j_3) (nI j_9) 0)), (0, .ref m0), (1, .int (nI j_3)), (2, .int (nI j_9))]) hx hb dX12_via_26 hl (by decide) rfl (fun ls hl => ?_)
      have L28 : ∀ (nF : Nat) (i : Nat), n - i < nF → (i ≤ n) → (A9 = fiF V9 (n - i) i) → ∀ (H : Heap) (locs : List Loc), va_K (dC, dI) vwCl [(cS, .int), (cB, .int), (cT, .boolean), (cG, .int)] s → va_P (dC, dI) vwCl [(zo14irriiiiiirriirrrrlriiii m0 th aS aI im ac sp en wg op aB aT se9_17 dn9_18 aG aO aN aD bv aY rn kd nu tv), (zaI aS cS 901 fS), (zaI aB cB 6 fB9_15), (zaI aT cT 64 fT9_16), (zaI aG cG 9 fG9_19)] H → va_D A [(zo14irriiiiiirriirrrrlriiii m0 th aS aI im ac sp en wg op aB aT se9_17 dn9_18 aG aO aN aD bv aY rn kd nu tv), (zaI aS cS 901 fS), (zaI aB cB 6 fB9_15), (zaI aT cT 64 fT9_16), (zaI aG cG 9 fG9_19)] → va_S A s.heap H locs → ∀ (ls : Array Slot), lv_has ls 5 [(0, .ref m0), (1, .int (nI j_3)), (2, .int (nI j_9)), (3, .int (fsR fG9_19 n (nI j_3) (nI j_9) 0)), (4, .int (nI i))] → W p l e ({ frames := 6, cells := 0, slots := 0, locals := 147 } : Room) s m args below meth c H locs 0 0 Q (F0 m 28 ls []) := by
        intro nF
        induction nF with
        | zero => intro i hm; exact absurd hm (Nat.not_lt_zero _)
        | succ nF ih28 =>
          intro i hm hi hq9 H locs hK hP hD hS ls hl
          refine lv_iload hx hb dX12_via_28 (lv_at hl 4 rfl) ?_
          refine lv_aload_n hx hb dX12_via_30 rfl (lv_at hl 0 rfl) ?_
          refine va_get (D := (dC, dI)) (ci := 14) (v := .ref aS) (C := RX12) (T := TX12) (N := 23) hx hb hts kc_mVia_0 hown hK hP 0 rfl rfl 1 (by decide) (hts (.fieldLink RX12 9 "MistHeapsModel" "s" "[I") kc_mVia_1) (fun _ h9 => h9) rfl dX12_via_31 ?_
          refine lv_iconst (v := 0) hx hb dX12_via_34 (by decide) ?_
          refine va_iald hx hb hK hP 1 0 rfl rfl (vp_in_nI (n := 0) (N := 901) (by omega) (by omega)) dX12_via_35 ?_
          refine qi_as (y := nI n) ((show fS (0 : Int32).toNatClampNeg = fS 0 from rfl).trans (zn)) ?_
          refine lv_icmp_ge (tgt := 81) hx hb dX12_via_36 (by decide) (fun c_20 => ?_) (fun c_20 => ?_)
          · skip
            have c_20 : n ≤ i := (nI_leI (a := n) (b := i) (by omega) (by omega)).mp c_20
            refine lv_bipush (v := (-5)) hx hb dX12_via_81 (by decide) ?_
            rw [hQ]
            have hP9 := hP.sub (ws' := [(zo14irriiiiiirriirrrrlriiii m0 th aS aI im ac sp en wg op aB aT se9_17 dn9_18 aG aO aN aD bv aY rn kd nu tv), (zaI aS cS 901 fS), (zaI aB cB 6 fB9_15), (zaI aT cT 64 fT9_16), (zaI aG cG 9 fG9_19)]) [0, 1, 2, 3, 4] rfl
            have hD9 := hD.sub (ws' := [(zo14irriiiiiirriirrrrlriiii m0 th aS aI im ac sp en wg op aB aT se9_17 dn9_18 aG aO aN aD bv aY rn kd nu tv), (zaI aS cS 901 fS), (zaI aB cB 6 fB9_15), (zaI aT cT 64 fT9_16), (zaI aG cG 9 fG9_19)]) [0, 1, 2, 3, 4] (by decide) rfl
            have hK9 := hK.sub (tys' := [(cS, .int), (cB, .int), (cT, .boolean), (cG, .int)]) [0, 1, 2, 3] rfl
            exact W.iret (v := (-5)) hx hb hr (fun tQ htQ hWQ => ⟨⟨(-5), (fB9_15, fT9_16, se9_17, dn9_18, fG9_19), rfl, vi_m hn (by omega) (by omega) (row_m hs1 zkd zvv zc zmi zsn) (vi_5 hV9 hA9 (fi_end hq9 (by assumption))), by rw [htQ]; exact hP9, va_K.moved hWQ.alike hK9, hD9⟩, hS.F htQ⟩) hS.2.2 dX12_via_83
          · skip
            have c_20 : ¬ n ≤ i := fun q => c_20 ((nI_leI (a := n) (b := i) (by omega) (by omega)).mpr q)
            refine lv_iload_n hx hb dX12_via_39 rfl (lv_at hl 3 rfl) ?_
            refine lv_if_le (tgt := 81) hx hb dX12_via_40 (by decide) (fun c_21 => ?_) (fun c_21 => ?_)
            · skip
              refine lv_bipush (v := (-5)) hx hb dX12_via_81 (by decide) ?_
              rw [hQ]
              have hP9 := hP.sub (ws' := [(zo14irriiiiiirriirrrrlriiii m0 th aS aI im ac sp en wg op aB aT se9_17 dn9_18 aG aO aN aD bv aY rn kd nu tv), (zaI aS cS 901 fS), (zaI aB cB 6 fB9_15), (zaI aT cT 64 fT9_16), (zaI aG cG 9 fG9_19)]) [0, 1, 2, 3, 4] rfl
              have hD9 := hD.sub (ws' := [(zo14irriiiiiirriirrrrlriiii m0 th aS aI im ac sp en wg op aB aT se9_17 dn9_18 aG aO aN aD bv aY rn kd nu tv), (zaI aS cS 901 fS), (zaI aB cB 6 fB9_15), (zaI aT cT 64 fT9_16), (zaI aG cG 9 fG9_19)]) [0, 1, 2, 3, 4] (by decide) rfl
              have hK9 := hK.sub (tys' := [(cS, .int), (cB, .int), (cT, .boolean), (cG, .int)]) [0, 1, 2, 3] rfl
              exact W.iret (v := (-5)) hx hb hr (fun tQ htQ hWQ => ⟨⟨(-5), (fB9_15, fT9_16, se9_17, dn9_18, fG9_19), rfl, vi_m hn (by omega) (by omega) (row_m hs1 zkd zvv zc zmi zsn) (vi_0 c_21), by rw [htQ]; exact hP9, va_K.moved hWQ.alike hK9, hD9⟩, hS.F htQ⟩) hS.2.2 dX12_via_83
            · skip
              refine lv_aload_n hx hb dX12_via_43 rfl (lv_at hl 0 rfl) ?_
              refine va_get (D := (dC, dI)) (ci := 14) (v := .ref aG) (C := RX12) (T := TX12) (N := 23) hx hb hts kc_mVia_0 hown hK hP 0 rfl rfl 13 (by decide) (hts (.fieldLink RX12 25 "MistHeapsModel" "goes" "[I") kc_mVia_2) (fun _ h9 => h9) rfl dX12_via_44 ?_
              refine lv_iload_n hx hb dX12_via_47 rfl (lv_at hl 1 rfl) ?_
              refine va_iald hx hb hK hP 4 3 rfl rfl (vp_in_nI (n := j_3) (N := 9) (by omega) (by omega)) dX12_via_48 ?_
              refine qi_as (y := fG9_19 j_3) (by rw [nI_clamp (by omega)]) ?_
              refine lv_iload hx hb dX12_via_49 (lv_at hl 4 rfl) ?_
              refine lv_ishr hx hb dX12_via_51 ?_
              refine lv_iconst (v := 1) hx hb dX12_via_52 (by decide) ?_
              refine lv_iand hx hb dX12_via_53 ?_
              refine lv_iconst (v := 1) hx hb dX12_via_54 (by decide) ?_
              refine lv_icmp_ne (tgt := 75) hx hb dX12_via_55 (by decide) (fun c_22 => ?_) (fun c_22 => ?_)
              · skip
                refine lv_iinc (v := nI (i + 1)) (lv' := [(4, .int (nI (i + 1))), (0, .ref m0), (1, .int (nI j_3)), (2, .int (nI j_9)), (3, .int (fsR fG9_19 n (nI j_3) (nI j_9) 0))]) hx hb dX12_via_75 hl (k := 4) rfl (nI_add i 1) (by decide) rfl (fun ls hl => ?_)
                refine lv_goto (tgt := 28) hx hb dX12_via_78 (by decide) ?_
                exact ih28 (i + 1) (by omega) (by omega) (fi_next hq9 (by assumption) (by rw [hV9]; exact fun z9 => c_22 z9.1)) _ _ (hK.sub [0, 1, 2, 3] rfl) (hP.sub [0, 1, 2, 3, 4] rfl) (hD.sub [0, 1, 2, 3, 4] (by decide) rfl) hS ls (lv_sub hl [1, 2, 3, 4, 0] rfl)
              · skip
                refine lv_aload_n hx hb dX12_via_58 rfl (lv_at hl 0 rfl) ?_
                refine lv_iload hx hb dX12_via_59 (lv_at hl 4 rfl) ?_
                refine lv_iload_n hx hb dX12_via_61 rfl (lv_at hl 2 rfl) ?_
                refine lv_iconst (v := 0) hx hb dX12_via_62 (by decide) ?_
                have hPc := hP.sub (ws' := [(zo14irriiiiiirriirrrrlriiii m0 th aS aI im ac sp en wg op aB aT se9_17 dn9_18 aG aO aN aD bv aY rn kd nu tv), (zaI aS cS 901 fS), (zaI aG cG 9 fG9_19)]) [0, 1, 4] rfl
                have hKc := hK.sub (tys' := [(cS, .int), (cG, .int)]) [0, 3] rfl
                refine vp_callSi (va_runV (As := [.int (nI i), .int (nI j_9), .int 0]) (rest := []) ⟨hx, hb, hml, hown, hts⟩ (c_stepsBut l dC dI m0 aS aI aB aT aG aO aN aD aY th im ac sp en wg op se9_17 dn9_18 rn kd nu tv bv cS cG fS fG9_19 n (nI i) (nI j_9) 0 (zn) (hn)) (cwV 3 hts gX12_via_X12_stepsBut rfl rfl rfl hd_yX12_stepsBut ⟨Nat.le_of_ble_eq_true rfl, Nat.le_of_ble_eq_true rfl⟩) ⟨fun a U g mk q => by obtain ⟨q0, qP, qK⟩ := q; exact ⟨q0, qP, va_K.moved (u := U) (U := U.calling g mk a) (Vm.Alike.refl U.vm) qK⟩, va_recv hK hP (ci := 14) (q := (RX12, TX12, 23)) (q0 := 0) rfl rfl, fun U hU hW => ⟨rfl, by rw [hU]; exact hPc, va_K.moved hW.alike hKc⟩⟩ rfl rfl hl.1 rfl (lv_room (Nat.le_of_ble_eq_true rfl)) dX12_via_63 ⟨Nat.le_of_ble_eq_true rfl, Nat.le_of_ble_eq_true rfl⟩).run (fun r_23 hw_24 => ?_)
                obtain rfl := hw_24
                refine lv_iload_n hx hb dX12_via_66 rfl (lv_at hl 3 rfl) ?_
                refine lv_iconst (v := 1) hx hb dX12_via_67 (by decide) ?_
                refine lv_isub hx hb dX12_via_68 ?_
                refine lv_icmp_ne (tgt := 75) hx hb dX12_via_69 (by decide) (fun c_25 => ?_) (fun c_25 => ?_)
                · skip
                  refine lv_iinc (v := nI (i + 1)) (lv' := [(4, .int (nI (i + 1))), (0, .ref m0), (1, .int (nI j_3)), (2, .int (nI j_9)), (3, .int (fsR fG9_19 n (nI j_3) (nI j_9) 0))]) hx hb dX12_via_75 hl (k := 4) rfl (nI_add i 1) (by decide) rfl (fun ls hl => ?_)
                  refine lv_goto (tgt := 28) hx hb dX12_via_78 (by decide) ?_
                  exact ih28 (i + 1) (by omega) (by omega) (fi_next hq9 (by assumption) (by rw [hV9]; exact fun z9 => c_25 z9.2)) _ _ (hK.sub [0, 1, 2, 3] rfl) (hP.sub [0, 1, 2, 3, 4] rfl) (hD.sub [0, 1, 2, 3, 4] (by decide) rfl) hS ls (lv_sub hl [1, 2, 3, 4, 0] rfl)
                · skip
                  refine lv_iload hx hb dX12_via_72 (lv_at hl 4 rfl) ?_
                  rw [hQ]
                  have hP9 := hP.sub (ws' := [(zo14irriiiiiirriirrrrlriiii m0 th aS aI im ac sp en wg op aB aT se9_17 dn9_18 aG aO aN aD bv aY rn kd nu tv), (zaI aS cS 901 fS), (zaI aB cB 6 fB9_15), (zaI aT cT 64 fT9_16), (zaI aG cG 9 fG9_19)]) [0, 1, 2, 3, 4] rfl
                  have hD9 := hD.sub (ws' := [(zo14irriiiiiirriirrrrlriiii m0 th aS aI im ac sp en wg op aB aT se9_17 dn9_18 aG aO aN aD bv aY rn kd nu tv), (zaI aS cS 901 fS), (zaI aB cB 6 fB9_15), (zaI aT cT 64 fT9_16), (zaI aG cG 9 fG9_19)]) [0, 1, 2, 3, 4] (by decide) rfl
                  have hK9 := hK.sub (tys' := [(cS, .int), (cB, .int), (cT, .boolean), (cG, .int)]) [0, 1, 2, 3] rfl
                  exact W.iret (v := nI i) hx hb hr (fun tQ htQ hWQ => ⟨⟨(nI i), (fB9_15, fT9_16, se9_17, dn9_18, fG9_19), rfl, vi_m hn (by omega) (by omega) (row_m hs1 zkd zvv zc zmi zsn) (vi_h hV9 hA9 c_21 (fi_hit hq9 (by assumption) (by rw [hV9]; exact ⟨c_22, c_25⟩))), by rw [htQ]; exact hP9, va_K.moved hWQ.alike hK9, hD9⟩, hS.F htQ⟩) hS.2.2 dX12_via_74
      exact L28 _ (0) (Nat.lt_succ_self _) (by omega) (hA9) _ _ (hK.sub [0, 1, 2, 3] rfl) (hP.sub [0, 1, 2, 3, 4] rfl) (hD.sub [0, 1, 2, 3, 4] (by decide) rfl) hS ls (lv_sub hl [2, 3, 4, 1, 0] rfl)
    · skip
      refine lv_if_ne (tgt := 18) hx hb dX12_via_13 (by decide) (fun c_26 => absurd c_26 (by decide)) (fun _ => ?_)
      refine lv_iconst (v := (-1)) hx hb dX12_via_16 (by decide) ?_
      rw [hQ]
      have hP9 := hP.sub (ws' := [(zo14irriiiiiirriirrrrlriiii m0 th aS aI im ac sp en wg op aB aT se dn aG aO aN aD bv aY rn kd nu tv), (zaI aS cS 901 fS), (zaI aB cB 6 fB), (zaI aT cT 64 fT), (zaI aG cG 9 fG)]) [0, 1, 2, 3, 4] rfl
      have hD9 := hD.sub (ws' := [(zo14irriiiiiirriirrrrlriiii m0 th aS aI im ac sp en wg op aB aT se dn aG aO aN aD bv aY rn kd nu tv), (zaI aS cS 901 fS), (zaI aB cB 6 fB), (zaI aT cT 64 fT), (zaI aG cG 9 fG)]) [0, 1, 2, 3, 4] (by decide) rfl
      have hK9 := hK.sub (tys' := [(cS, .int), (cB, .int), (cT, .boolean), (cG, .int)]) [0, 1, 2, 3] rfl
      exact W.iret (v := (-1)) hx hb hr (fun tQ htQ hWQ => ⟨⟨(-1), (fB, fT, se, dn, fG), rfl, by first | exact two_no1 (by assumption) | exact two_no2 (by assumption), by rw [htQ]; exact hP9, va_K.moved hWQ.alike hK9, hD9⟩, hS.F htQ⟩) hS.2.2 dX12_via_17
  · skip
    refine lv_if_eq (tgt := 16) hx hb dX12_via_5 (by decide) (fun _ => ?_) (fun c_27 => absurd c_27 (by decide))
    refine lv_iconst (v := (-1)) hx hb dX12_via_16 (by decide) ?_
    rw [hQ]
    have hP9 := hP.sub (ws' := [(zo14irriiiiiirriirrrrlriiii m0 th aS aI im ac sp en wg op aB aT se dn aG aO aN aD bv aY rn kd nu tv), (zaI aS cS 901 fS), (zaI aB cB 6 fB), (zaI aT cT 64 fT), (zaI aG cG 9 fG)]) [0, 1, 2, 3, 4] rfl
    have hD9 := hD.sub (ws' := [(zo14irriiiiiirriirrrrlriiii m0 th aS aI im ac sp en wg op aB aT se dn aG aO aN aD bv aY rn kd nu tv), (zaI aS cS 901 fS), (zaI aB cB 6 fB), (zaI aT cT 64 fT), (zaI aG cG 9 fG)]) [0, 1, 2, 3, 4] (by decide) rfl
    have hK9 := hK.sub (tys' := [(cS, .int), (cB, .int), (cT, .boolean), (cG, .int)]) [0, 1, 2, 3] rfl
    exact W.iret (v := (-1)) hx hb hr (fun tQ htQ hWQ => ⟨⟨(-1), (fB, fT, se, dn, fG), rfl, by first | exact two_no1 (by assumption) | exact two_no2 (by assumption), by rw [htQ]; exact hP9, va_K.moved hWQ.alike hK9, hD9⟩, hS.F htQ⟩) hS.2.2 dX12_via_17

theorem kc_mCuts_0 : ∀ w ∈ wsX120, w ∈ wsX12_cuts := fun w h => List.mem_cons_of_mem _ (gin_wsX120 w h)
theorem kc_mCuts_1 : (.fieldLink RX12 9 "MistHeapsModel" "s" "[I" : Cond) ∈ wsX12_cuts := kc_of 1141 rfl rfl rfl
set_option maxHeartbeats 4000000 in
set_option maxRecDepth 100000 in
theorem c_mCuts (l : Launch) (dC : Nat → ClassId) (dI : Nat → Nat → Nat) (m0 aS aI aB aT aG aO aN aD aY : Nat) (th im ac sp en wg op se dn rn kd nu tv : Int32) (bv : Int64) (cS cB cT cG : ClassId) (fS : Nat → Int32) (fB : Nat → Int32) (fT : Nat → Int32) (fG : Nat → Int32) (n : Nat) (yk yv yc : Nat → Int32) (mi sn : Int32) (x y : Int32) (cz : List pCla) (sz : Nat) (zn : fS 0 = nI n) (hn : n ≤ 8) (zh : hol fS cz) (zkd : ∀ k, k < n → fS (10 + k) = yk k) (zvv : ∀ k, k < n → fS (19 + k) = yv k) (zc : ∀ k, k < n → fS (28 + k) = yc k) (zmi : fS 6 = mi) (zsn : fS 7 = sn) : Met l yX12_cuts wsX12_cuts ({ frames := 6, cells := 0, slots := 0, locals := 147 } : Room) (va_Pc [.ref m0, .int x, .int y] (fun U => U.heap.size = sz ∧ va_P (dC, dI) vwCl [(zo14irriiiiiirriirrrrlriiii m0 th aS aI im ac sp en wg op aB aT se dn aG aO aN aD bv aY rn kd nu tv), (zaI aS cS 901 fS), (zaI aB cB 6 fB), (zaI aT cT 64 fT), (zaI aG cG 9 fG)] U.heap ∧ va_K (dC, dI) vwCl [(cS, .int), (cB, .int), (cT, .boolean), (cG, .int)] U ∧ va_D (fun _ => True) [(zo14irriiiiiirriirrrrlriiii m0 th aS aI im ac sp en wg op aB aT se dn aG aO aN aD bv aY rn kd nu tv), (zaI aS cS 901 fS), (zaI aB cB 6 fB), (zaI aT cT 64 fT), (zaI aG cG 9 fG)])) (va_Qi (fun (r : Int32) (u : (Nat → Int32) × (Nat → Int32) × (Int32) × (Int32) × (Nat → Int32)) => match u with | (fB9, fT9, se9, dn9, fG9) => r = cuR_ n yk yv yc cz mi sn x y) (fun (u : (Nat → Int32) × (Nat → Int32) × (Int32) × (Int32) × (Nat → Int32)) (t : State) => match u with | (fB9, fT9, se9, dn9, fG9) => va_P (dC, dI) vwCl [(zo14irriiiiiirriirrrrlriiii m0 th aS aI im ac sp en wg op aB aT se9 dn9 aG aO aN aD bv aY rn kd nu tv), (zaI aS cS 901 fS), (zaI aB cB 6 fB9), (zaI aT cT 64 fT9), (zaI aG cG 9 fG9)] t.heap ∧ va_K (dC, dI) vwCl [(cS, .int), (cB, .int), (cT, .boolean), (cG, .int)] t ∧ va_D (va_A [(zo14irriiiiiirriirrrrlriiii m0 th aS aI im ac sp en wg op aB aT se dn aG aO aN aD bv aY rn kd nu tv), (zaI aS cS 901 fS), (zaI aB cB 6 fB), (zaI aT cT 64 fT), (zaI aG cG 9 fG)] sz) [(zo14irriiiiiirriirrrrlriiii m0 th aS aI im ac sp en wg op aB aT se9 dn9 aG aO aN aD bv aY rn kd nu tv), (zaI aS cS 901 fS), (zaI aB cB 6 fB9), (zaI aT cT 64 fT9), (zaI aG cG 9 fG9)]) (va_A [(zo14irriiiiiirriirrrrlriiii m0 th aS aI im ac sp en wg op aB aT se dn aG aO aN aD bv aY rn kd nu tv), (zaI aS cS 901 fS), (zaI aB cB 6 fB), (zaI aT cT 64 fT), (zaI aG cG 9 fG)] sz)) 0 0 (va_A [(zo14irriiiiiirriirrrrlriiii m0 th aS aI im ac sp en wg op aB aT se dn aG aO aN aD bv aY rn kd nu tv), (zaI aS cS 901 fS), (zaI aB cB 6 fB), (zaI aT cT 64 fT), (zaI aG cG 9 fG)] sz) := by
  refine met_ofQ (cc := cX12_cuts) (maxL := 5) (ret := (some .int)) (by decide) rfl ?_
  intro p e s m args below meth c s₁ Q B hml hv hQ
  obtain ⟨rfl, hsz, hP, hK, hD0⟩ := hv
  have hx := B.exec
  have hb := B.bytes
  have hr := B.returns
  have hts := atoms_spec (ws := wsX12_cuts) B.pre
  have hown : s.vm.findClass RX12 = some m.cls := findClass_of_methodNamed B.named
  have hlocks := B.notSynchronized
  subst hsz
  have hD := hD0.self (sz := s.heap.size)
  generalize hAe : va_A [(zo14irriiiiiirriirrrrlriiii m0 th aS aI im ac sp en wg op aB aT se dn aG aO aN aD bv aY rn kd nu tv), (zaI aS cS 901 fS), (zaI aB cB 6 fB), (zaI aT cT 64 fT), (zaI aG cG 9 fG)] s.heap.size = A at hD hQ ⊢
  have hA : ∀ q : Nat, s.heap.size ≤ q → A q := fun q h => by rw [← hAe]; exact Or.inr h
  have hS : va_S A s.heap s.heap [] := va_S.rf
  have hl := lv_entry [.ref m0, .int x, .int y] (n := 5) (Nat.le_of_ble_eq_true rfl)
  rw [lg_entry_eq]
  generalize (lg_sl [.ref m0, .int x, .int y] ++ List.replicate (5 - (lg_sl [.ref m0, .int x, .int y]).length) Slot.unset).toArray = ls at hl ⊢
  generalize hag : ([.ref m0, .int x, .int y] : List Value).toArray = args at hts hQ ⊢
  have hl : lv_has ls 5 [(0, .ref m0), (1, .int x), (2, .int y)] := hl
  obtain ⟨H, hH⟩ : ∃ H : Heap, H = s.heap := ⟨_, rfl⟩
  rw [← hH] at hP
  rw [← hH]
  have hS : va_S A s.heap H [] := by rw [hH]; exact hS
  obtain ⟨locs, hlo⟩ : ∃ L : List Loc, L = [] := ⟨_, rfl⟩
  rw [← hlo] at hS
  rw [← hlo]
  clear hH hlo
  refine lv_aload_n hx hb dX12_cuts_0 rfl (lv_at hl 0 rfl) ?_
  refine lv_iload_n hx hb dX12_cuts_1 rfl (lv_at hl 1 rfl) ?_
  have hPc := hP.sub (ws' := [(zo14irriiiiiirriirrrrlriiii m0 th aS aI im ac sp en wg op aB aT se dn aG aO aN aD bv aY rn kd nu tv), (zaI aS cS 901 fS)]) [0, 1] rfl
  have hKc := hK.sub (tys' := [(cS, .int)]) [0] rfl
  refine vp_callSi (va_runV (As := [.int x]) (rest := []) ⟨hx, hb, hml, hown, hts⟩ (c_isHeap l dC dI m0 aS aI aB aT aG aO aN aD aY th im ac sp en wg op se dn rn kd nu tv bv cS fS n x (zn) (hn)) (cwV 1 hts gX12_cuts_X12_isHeap rfl rfl rfl hd_yX12_isHeap ⟨Nat.le_of_ble_eq_true rfl, Nat.le_of_ble_eq_true rfl⟩) ⟨fun a U g mk q => by obtain ⟨q0, qP, qK⟩ := q; exact ⟨q0, qP, va_K.moved (u := U) (U := U.calling g mk a) (Vm.Alike.refl U.vm) qK⟩, va_recv hK hP (ci := 14) (q := (RX12, TX12, 23)) (q0 := 0) rfl rfl, fun U hU hW => ⟨rfl, by rw [hU]; exact hPc, va_K.moved hW.alike hKc⟩⟩ rfl rfl hl.1 rfl (lv_room (Nat.le_of_ble_eq_true rfl)) dX12_cuts_2 ⟨Nat.le_of_ble_eq_true rfl, Nat.le_of_ble_eq_true rfl⟩).run (fun r_1 hw_2 => ?_)
  rcases hw_2 with ⟨rfl, j_3, hj_4, rfl⟩ | ⟨rfl, h_5⟩
  · skip
    refine lv_if_eq (tgt := 16) hx hb dX12_cuts_5 (by decide) (fun c_6 => absurd c_6 (by decide)) (fun _ => ?_)
    refine lv_aload_n hx hb dX12_cuts_8 rfl (lv_at hl 0 rfl) ?_
    refine lv_iload_n hx hb dX12_cuts_9 rfl (lv_at hl 2 rfl) ?_
    have hPc := hP.sub (ws' := [(zo14irriiiiiirriirrrrlriiii m0 th aS aI im ac sp en wg op aB aT se dn aG aO aN aD bv aY rn kd nu tv), (zaI aS cS 901 fS)]) [0, 1] rfl
    have hKc := hK.sub (tys' := [(cS, .int)]) [0] rfl
    refine vp_callSi (va_runV (As := [.int y]) (rest := []) ⟨hx, hb, hml, hown, hts⟩ (c_isHeap l dC dI m0 aS aI aB aT aG aO aN aD aY th im ac sp en wg op se dn rn kd nu tv bv cS fS n y (zn) (hn)) (cwV 1 hts gX12_cuts_X12_isHeap rfl rfl rfl hd_yX12_isHeap ⟨Nat.le_of_ble_eq_true rfl, Nat.le_of_ble_eq_true rfl⟩) ⟨fun a U g mk q => by obtain ⟨q0, qP, qK⟩ := q; exact ⟨q0, qP, va_K.moved (u := U) (U := U.calling g mk a) (Vm.Alike.refl U.vm) qK⟩, va_recv hK hP (ci := 14) (q := (RX12, TX12, 23)) (q0 := 0) rfl rfl, fun U hU hW => ⟨rfl, by rw [hU]; exact hPc, va_K.moved hW.alike hKc⟩⟩ rfl rfl hl.1 rfl (lv_room (Nat.le_of_ble_eq_true rfl)) dX12_cuts_10 ⟨Nat.le_of_ble_eq_true rfl, Nat.le_of_ble_eq_true rfl⟩).run (fun r_7 hw_8 => ?_)
    rcases hw_8 with ⟨rfl, j_9, hj_10, rfl⟩ | ⟨rfl, h_11⟩
    · skip
      refine lv_if_ne (tgt := 18) hx hb dX12_cuts_13 (by decide) (fun _ => ?_) (fun c_12 => absurd c_12 (by decide))
      refine lv_iconst (v := 0) hx hb dX12_cuts_18 (by decide) ?_
      refine lv_istore_n (lv' := [(3, .int 0), (0, .ref m0), (1, .int (nI j_3)), (2, .int (nI j_9))]) hx hb dX12_cuts_19 rfl hl (by decide) rfl (fun ls hl => ?_)
      refine lv_aload_n hx hb dX12_cuts_20 rfl (lv_at hl 1 rfl) ?_
      refine lv_iload_n hx hb dX12_cuts_21 rfl (lv_at hl 2 rfl) ?_
      refine lv_iload_n hx hb dX12_cuts_22 rfl (lv_at hl 3 rfl) ?_
      have hPc := hP.sub (ws' := [(zo14irriiiiiirriirrrrlriiii m0 th aS aI im ac sp en wg op aB aT se dn aG aO aN aD bv aY rn kd nu tv), (zaI aS cS 901 fS), (zaI aB cB 6 fB), (zaI aT cT 64 fT), (zaI aG cG 9 fG)]) [0, 1, 2, 3, 4] rfl
      have hDc := hD.sub (ws' := [(zo14irriiiiiirriirrrrlriiii m0 th aS aI im ac sp en wg op aB aT se dn aG aO aN aD bv aY rn kd nu tv), (zaI aS cS 901 fS), (zaI aB cB 6 fB), (zaI aT cT 64 fT), (zaI aG cG 9 fG)]) [0, 1, 2, 3, 4] (by decide) rfl
      have hKc := hK.sub (tys' := [(cS, .int), (cB, .int), (cT, .boolean), (cG, .int)]) [0, 1, 2, 3] rfl
      have hFc := va_free (wc := [(zo14irriiiiiirriirrrrlriiii m0 th aS aI im ac sp en wg op aB aT se dn aG aO aN aD bv aY rn kd nu tv), (zaI aS cS 901 fS), (zaI aB cB 6 fB), (zaI aT cT 64 fT), (zaI aG cG 9 fG)]) hD hS hA [0, 1, 2, 3, 4] rfl
      refine va_calli (va_runV (As := [.int (nI j_3), .int (nI j_9)]) (rest := []) ⟨hx, hb, hml, hown, hts⟩ (c_stepsOf l dC dI m0 aS aI aB aT aG aO aN aD aY th im ac sp en wg op se dn rn kd nu tv bv cS cB cT cG fS fB fT fG n (nI j_3) (nI j_9) cz H.size (zn) (hn) (zh)) (cwV 2 hts gX12_cuts_X12_stepsOf rfl rfl rfl hd_yX12_stepsOf ⟨Nat.le_of_ble_eq_true rfl, Nat.le_of_ble_eq_true rfl⟩) ⟨fun a U g mk q => by obtain ⟨q0, q1, qP, qK, qD⟩ := q; exact ⟨q0, q1, qP, va_K.moved (u := U) (U := U.calling g mk a) (Vm.Alike.refl U.vm) qK, qD⟩, va_recv hK hP (ci := 14) (q := (RX12, TX12, 23)) (q0 := 0) rfl rfl, fun U hU hW => ⟨rfl, by rw [hU], by rw [hU]; exact hPc, va_K.moved hW.alike hKc, hDc.weaken (fun _ _ _ _ => trivial)⟩⟩ rfl rfl hl.1 rfl (lv_room (Nat.le_of_ble_eq_true rfl)) dX12_cuts_23 ⟨Nat.le_of_ble_eq_true rfl, Nat.le_of_ble_eq_true rfl⟩) hS (fun q _ h => hFc q h) hFc (fun r_13 u tC H1 locs htC hvm hw_14 hB hz1 hk1 hS => ?_)
      obtain ⟨fB9_15, fT9_16, se9_17, dn9_18, fG9_19⟩ := u
      try dsimp only at hw_14 hB
      obtain ⟨hP1, hK1, hD1⟩ := hB
      rw [htC] at hP1
      have hK1 := va_K.moved hvm.symm hK1
      obtain ⟨hP, hD⟩ := va_join (wr := []) (w1 := [(zo14irriiiiiirriirrrrlriiii m0 th aS aI im ac sp en wg op aB aT se9_17 dn9_18 aG aO aN aD bv aY rn kd nu tv), (zaI aS cS 901 fS), (zaI aB cB 6 fB9_15), (zaI aT cT 64 fT9_16), (zaI aG cG 9 fG9_19)]) hP hD [0, 1, 2, 3, 4] [] rfl rfl (by decide) (by decide) hk1 hFc hP1 hD1
      have hK := (hK.sub (tys' := []) [] rfl).app hK1
      generalize H1 = H at hP hS ⊢
      have hP : va_P (dC, dI) vwCl [(zo14irriiiiiirriirrrrlriiii m0 th aS aI im ac sp en wg op aB aT se9_17 dn9_18 aG aO aN aD bv aY rn kd nu tv), (zaI aS cS 901 fS), (zaI aB cB 6 fB9_15), (zaI aT cT 64 fT9_16), (zaI aG cG 9 fG9_19)] H := hP
      have hD : va_D A [(zo14irriiiiiirriirrrrlriiii m0 th aS aI im ac sp en wg op aB aT se9_17 dn9_18 aG aO aN aD bv aY rn kd nu tv), (zaI aS cS 901 fS), (zaI aB cB 6 fB9_15), (zaI aT cT 64 fT9_16), (zaI aG cG 9 fG9_19)] := hD
      have hK : va_K (dC, dI) vwCl [(cS, .int), (cB, .int), (cT, .boolean), (cG, .int)] s := hK
      obtain ⟨hs1, rfl⟩ := hw_14
      refine lv_bipush (v := (-5)) hx hb dX12_cuts_26 (by decide) ?_
      refine lv_icmp_ne (tgt := 33) hx hb dX12_cuts_28 (by decide) (fun c_20 => ?_) (fun c_20 => ?_)
      · skip
        obtain ⟨B9, hB9⟩ : ∃ B : Nat → Int32, B = gbI (cuP fG9_19 n j_3 j_9) := ⟨_, rfl⟩
        refine lv_iconst (v := 0) hx hb dX12_cuts_33 (by decide) ?_
        refine lv_istore (lv' := [(4, .int 0), (3, .int 0), (0, .ref m0), (1, .int (nI j_3)), (2, .int (nI j_9))]) hx hb dX12_cuts_34 hl (by decide) rfl (fun ls hl => ?_)
        have L36 : ∀ (nF : Nat) (i : Nat) (q : Int32), n - i < nF → (i ≤ n) → (q = B9 i) → ∀ (H : Heap) (locs : List Loc), va_K (dC, dI) vwCl [(cS, .int), (cB, .int), (cT, .boolean), (cG, .int)] s → va_P (dC, dI) vwCl [(zo14irriiiiiirriirrrrlriiii m0 th aS aI im ac sp en wg op aB aT se9_17 dn9_18 aG aO aN aD bv aY rn kd nu tv), (zaI aS cS 901 fS), (zaI aB cB 6 fB9_15), (zaI aT cT 64 fT9_16), (zaI aG cG 9 fG9_19)] H → va_D A [(zo14irriiiiiirriirrrrlriiii m0 th aS aI im ac sp en wg op aB aT se9_17 dn9_18 aG aO aN aD bv aY rn kd nu tv), (zaI aS cS 901 fS), (zaI aB cB 6 fB9_15), (zaI aT cT 64 fT9_16), (zaI aG cG 9 fG9_19)] → va_S A s.heap H locs → ∀ (ls : Array Slot), lv_has ls 5 [(0, .ref m0), (1, .int (nI j_3)), (2, .int (nI j_9)), (3, .int q), (4, .int (nI i))] → W p l e ({ frames := 6, cells := 0, slots := 0, locals := 147 } : Room) s m args below meth c H locs 0 0 Q (F0 m 36 ls []) := by
          intro nF
          induction nF with
          | zero => intro i q hm; exact absurd hm (Nat.not_lt_zero _)
          | succ nF ih36 =>
            intro i q hm hi hq9 H locs hK hP hD hS ls hl
            refine lv_iload hx hb dX12_cuts_36 (lv_at hl 4 rfl) ?_
            refine lv_aload_n hx hb dX12_cuts_38 rfl (lv_at hl 0 rfl) ?_
            refine va_get (D := (dC, dI)) (ci := 14) (v := .ref aS) (C := RX12) (T := TX12) (N := 23) hx hb hts kc_mCuts_0 hown hK hP 0 rfl rfl 1 (by decide) (hts (.fieldLink RX12 9 "MistHeapsModel" "s" "[I") kc_mCuts_1) (fun _ h9 => h9) rfl dX12_cuts_39 ?_
            refine lv_iconst (v := 0) hx hb dX12_cuts_42 (by decide) ?_
            refine va_iald hx hb hK hP 1 0 rfl rfl (vp_in_nI (n := 0) (N := 901) (by omega) (by omega)) dX12_cuts_43 ?_
            refine qi_as (y := nI n) ((show fS (0 : Int32).toNatClampNeg = fS 0 from rfl).trans (zn)) ?_
            refine lv_icmp_ge (tgt := 91) hx hb dX12_cuts_44 (by decide) (fun c_21 => ?_) (fun c_21 => ?_)
            · skip
              have c_21 : n ≤ i := (nI_leI (a := n) (b := i) (by omega) (by omega)).mp c_21
              refine lv_iload_n hx hb dX12_cuts_91 rfl (lv_at hl 3 rfl) ?_
              rw [hQ]
              have hP9 := hP.sub (ws' := [(zo14irriiiiiirriirrrrlriiii m0 th aS aI im ac sp en wg op aB aT se9_17 dn9_18 aG aO aN aD bv aY rn kd nu tv), (zaI aS cS 901 fS), (zaI aB cB 6 fB9_15), (zaI aT cT 64 fT9_16), (zaI aG cG 9 fG9_19)]) [0, 1, 2, 3, 4] rfl
              have hD9 := hD.sub (ws' := [(zo14irriiiiiirriirrrrlriiii m0 th aS aI im ac sp en wg op aB aT se9_17 dn9_18 aG aO aN aD bv aY rn kd nu tv), (zaI aS cS 901 fS), (zaI aB cB 6 fB9_15), (zaI aT cT 64 fT9_16), (zaI aG cG 9 fG9_19)]) [0, 1, 2, 3, 4] (by decide) rfl
              have hK9 := hK.sub (tys' := [(cS, .int), (cB, .int), (cT, .boolean), (cG, .int)]) [0, 1, 2, 3] rfl
              exact W.iret (v := q) hx hb hr (fun tQ htQ hWQ => ⟨⟨q, (fB9_15, fT9_16, se9_17, dn9_18, fG9_19), rfl, cu_m hn (by omega) (by omega) (row_m hs1 zkd zvv zc zmi zsn) (cu_n c_20 hB9 hq9 (by omega)), by rw [htQ]; exact hP9, va_K.moved hWQ.alike hK9, hD9⟩, hS.F htQ⟩) hS.2.2 dX12_cuts_92
            · skip
              have c_21 : ¬ n ≤ i := fun q => c_21 ((nI_leI (a := n) (b := i) (by omega) (by omega)).mpr q)
              refine lv_iload_n hx hb dX12_cuts_47 rfl (lv_at hl 3 rfl) ?_
              refine lv_iload hx hb dX12_cuts_48 (lv_at hl 4 rfl) ?_
              refine lv_iload_n hx hb dX12_cuts_50 rfl (lv_at hl 1 rfl) ?_
              refine lv_icmp_eq (tgt := 82) hx hb dX12_cuts_51 (by decide) (fun c_22 => ?_) (fun c_22 => ?_)
              · skip
                have c_22 : i = j_3 := (nI_eq (a := i) (b := j_3) (by omega) (by omega)).mp c_22
                refine lv_iconst (v := 0) hx hb dX12_cuts_82 (by decide) ?_
                refine lv_ior hx hb dX12_cuts_83 ?_
                refine lv_istore_n (lv' := [(3, .int (q ||| 0)), (0, .ref m0), (1, .int (nI j_3)), (2, .int (nI j_9)), (4, .int (nI i))]) hx hb dX12_cuts_84 rfl hl (by decide) rfl (fun ls hl => ?_)
                refine lv_iinc (v := nI (i + 1)) (lv' := [(4, .int (nI (i + 1))), (3, .int (q ||| 0)), (0, .ref m0), (1, .int (nI j_3)), (2, .int (nI j_9))]) hx hb dX12_cuts_85 hl (k := 4) rfl (nI_add i 1) (by decide) rfl (fun ls hl => ?_)
                refine lv_goto (tgt := 36) hx hb dX12_cuts_88 (by decide) ?_
                exact ih36 (i + 1) (q ||| 0) (by omega) (by omega) (cu_f hB9 hq9 (fun z9 => z9.1 (by omega))) _ _ (hK.sub [0, 1, 2, 3] rfl) (hP.sub [0, 1, 2, 3, 4] rfl) (hD.sub [0, 1, 2, 3, 4] (by decide) rfl) hS ls (lv_sub hl [2, 3, 4, 1, 0] rfl)
              · skip
                have c_22 : ¬ i = j_3 := fun q => c_22 ((nI_eq (a := i) (b := j_3) (by omega) (by omega)).mpr q)
                refine lv_iload hx hb dX12_cuts_54 (lv_at hl 4 rfl) ?_
                refine lv_iload_n hx hb dX12_cuts_56 rfl (lv_at hl 2 rfl) ?_
                refine lv_icmp_eq (tgt := 82) hx hb dX12_cuts_57 (by decide) (fun c_23 => ?_) (fun c_23 => ?_)
                · skip
                  have c_23 : i = j_9 := (nI_eq (a := i) (b := j_9) (by omega) (by omega)).mp c_23
                  refine lv_iconst (v := 0) hx hb dX12_cuts_82 (by decide) ?_
                  refine lv_ior hx hb dX12_cuts_83 ?_
                  refine lv_istore_n (lv' := [(3, .int (q ||| 0)), (0, .ref m0), (1, .int (nI j_3)), (2, .int (nI j_9)), (4, .int (nI i))]) hx hb dX12_cuts_84 rfl hl (by decide) rfl (fun ls hl => ?_)
                  refine lv_iinc (v := nI (i + 1)) (lv' := [(4, .int (nI (i + 1))), (3, .int (q ||| 0)), (0, .ref m0), (1, .int (nI j_3)), (2, .int (nI j_9))]) hx hb dX12_cuts_85 hl (k := 4) rfl (nI_add i 1) (by decide) rfl (fun ls hl => ?_)
                  refine lv_goto (tgt := 36) hx hb dX12_cuts_88 (by decide) ?_
                  exact ih36 (i + 1) (q ||| 0) (by omega) (by omega) (cu_f hB9 hq9 (fun z9 => z9.2.1 (by omega))) _ _ (hK.sub [0, 1, 2, 3] rfl) (hP.sub [0, 1, 2, 3, 4] rfl) (hD.sub [0, 1, 2, 3, 4] (by decide) rfl) hS ls (lv_sub hl [2, 3, 4, 1, 0] rfl)
                · skip
                  have c_23 : ¬ i = j_9 := fun q => c_23 ((nI_eq (a := i) (b := j_9) (by omega) (by omega)).mpr q)
                  refine lv_aload_n hx hb dX12_cuts_60 rfl (lv_at hl 0 rfl) ?_
                  refine lv_iload_n hx hb dX12_cuts_61 rfl (lv_at hl 1 rfl) ?_
                  refine lv_iload_n hx hb dX12_cuts_62 rfl (lv_at hl 2 rfl) ?_
                  refine lv_iconst (v := 1) hx hb dX12_cuts_63 (by decide) ?_
                  refine lv_iload hx hb dX12_cuts_64 (lv_at hl 4 rfl) ?_
                  refine lv_ishl hx hb dX12_cuts_66 ?_
                  have hPc := hP.sub (ws' := [(zo14irriiiiiirriirrrrlriiii m0 th aS aI im ac sp en wg op aB aT se9_17 dn9_18 aG aO aN aD bv aY rn kd nu tv), (zaI aS cS 901 fS), (zaI aG cG 9 fG9_19)]) [0, 1, 4] rfl
                  have hKc := hK.sub (tys' := [(cS, .int), (cG, .int)]) [0, 3] rfl
                  refine vp_callSi (va_runV (As := [.int (nI j_3), .int (nI j_9), .int (1 <<< ((nI i) &&& 31))]) (rest := [.int q]) ⟨hx, hb, hml, hown, hts⟩ (c_stepsBut l dC dI m0 aS aI aB aT aG aO aN aD aY th im ac sp en wg op se9_17 dn9_18 rn kd nu tv bv cS cG fS fG9_19 n (nI j_3) (nI j_9) (1 <<< ((nI i) &&& 31)) (zn) (hn)) (cwV 3 hts gX12_cuts_X12_stepsBut rfl rfl rfl hd_yX12_stepsBut ⟨Nat.le_of_ble_eq_true rfl, Nat.le_of_ble_eq_true rfl⟩) ⟨fun a U g mk q => by obtain ⟨q0, qP, qK⟩ := q; exact ⟨q0, qP, va_K.moved (u := U) (U := U.calling g mk a) (Vm.Alike.refl U.vm) qK⟩, va_recv hK hP (ci := 14) (q := (RX12, TX12, 23)) (q0 := 0) rfl rfl, fun U hU hW => ⟨rfl, by rw [hU]; exact hPc, va_K.moved hW.alike hKc⟩⟩ rfl rfl hl.1 rfl (lv_room (Nat.le_of_ble_eq_true rfl)) dX12_cuts_67 ⟨Nat.le_of_ble_eq_true rfl, Nat.le_of_ble_eq_true rfl⟩).run (fun r_24 hw_25 => ?_)
                  obtain rfl := hw_25
                  refine lv_bipush (v := (-5)) hx hb dX12_cuts_70 (by decide) ?_
                  refine lv_icmp_ne (tgt := 82) hx hb dX12_cuts_72 (by decide) (fun c_26 => ?_) (fun c_26 => ?_)
                  · skip
                    refine lv_iconst (v := 0) hx hb dX12_cuts_82 (by decide) ?_
                    refine lv_ior hx hb dX12_cuts_83 ?_
                    refine lv_istore_n (lv' := [(3, .int (q ||| 0)), (0, .ref m0), (1, .int (nI j_3)), (2, .int (nI j_9)), (4, .int (nI i))]) hx hb dX12_cuts_84 rfl hl (by decide) rfl (fun ls hl => ?_)
                    refine lv_iinc (v := nI (i + 1)) (lv' := [(4, .int (nI (i + 1))), (3, .int (q ||| 0)), (0, .ref m0), (1, .int (nI j_3)), (2, .int (nI j_9))]) hx hb dX12_cuts_85 hl (k := 4) rfl (nI_add i 1) (by decide) rfl (fun ls hl => ?_)
                    refine lv_goto (tgt := 36) hx hb dX12_cuts_88 (by decide) ?_
                    exact ih36 (i + 1) (q ||| 0) (by omega) (by omega) (cu_f hB9 hq9 (fun z9 => c_26 z9.2.2)) _ _ (hK.sub [0, 1, 2, 3] rfl) (hP.sub [0, 1, 2, 3, 4] rfl) (hD.sub [0, 1, 2, 3, 4] (by decide) rfl) hS ls (lv_sub hl [2, 3, 4, 1, 0] rfl)
                  · skip
                    refine lv_iconst (v := 1) hx hb dX12_cuts_75 (by decide) ?_
                    refine lv_iload hx hb dX12_cuts_76 (lv_at hl 4 rfl) ?_
                    refine lv_ishl hx hb dX12_cuts_78 ?_
                    refine lv_goto (tgt := 83) hx hb dX12_cuts_79 (by decide) ?_
                    refine lv_ior hx hb dX12_cuts_83 ?_
                    refine lv_istore_n (lv' := [(3, .int (q ||| (1 <<< ((nI i) &&& 31)))), (0, .ref m0), (1, .int (nI j_3)), (2, .int (nI j_9)), (4, .int (nI i))]) hx hb dX12_cuts_84 rfl hl (by decide) rfl (fun ls hl => ?_)
                    refine lv_iinc (v := nI (i + 1)) (lv' := [(4, .int (nI (i + 1))), (3, .int (q ||| (1 <<< ((nI i) &&& 31)))), (0, .ref m0), (1, .int (nI j_3)), (2, .int (nI j_9))]) hx hb dX12_cuts_85 hl (k := 4) rfl (nI_add i 1) (by decide) rfl (fun ls hl => ?_)
                    refine lv_goto (tgt := 36) hx hb dX12_cuts_88 (by decide) ?_
                    exact ih36 (i + 1) (q ||| (1 <<< ((nI i) &&& 31))) (by omega) (by omega) (cu_t hB9 hq9 ⟨by omega, by omega, c_26⟩) _ _ (hK.sub [0, 1, 2, 3] rfl) (hP.sub [0, 1, 2, 3, 4] rfl) (hD.sub [0, 1, 2, 3, 4] (by decide) rfl) hS ls (lv_sub hl [2, 3, 4, 1, 0] rfl)
        exact L36 _ (0) (0) (Nat.lt_succ_self _) (by omega) (by rw [hB9]; rfl) _ _ (hK.sub [0, 1, 2, 3] rfl) (hP.sub [0, 1, 2, 3, 4] rfl) (hD.sub [0, 1, 2, 3, 4] (by decide) rfl) hS ls (lv_sub hl [2, 3, 4, 1, 0] rfl)
      · skip
        refine lv_iconst (v := 0) hx hb dX12_cuts_31 (by decide) ?_
        rw [hQ]
        have hP9 := hP.sub (ws' := [(zo14irriiiiiirriirrrrlriiii m0 th aS aI im ac sp en wg op aB aT se9_17 dn9_18 aG aO aN aD bv aY rn kd nu tv), (zaI aS cS 901 fS), (zaI aB cB 6 fB9_15), (zaI aT cT 64 fT9_16), (zaI aG cG 9 fG9_19)]) [0, 1, 2, 3, 4] rfl
        have hD9 := hD.sub (ws' := [(zo14irriiiiiirriirrrrlriiii m0 th aS aI im ac sp en wg op aB aT se9_17 dn9_18 aG aO aN aD bv aY rn kd nu tv), (zaI aS cS 901 fS), (zaI aB cB 6 fB9_15), (zaI aT cT 64 fT9_16), (zaI aG cG 9 fG9_19)]) [0, 1, 2, 3, 4] (by decide) rfl
        have hK9 := hK.sub (tys' := [(cS, .int), (cB, .int), (cT, .boolean), (cG, .int)]) [0, 1, 2, 3] rfl
        exact W.iret (v := 0) hx hb hr (fun tQ htQ hWQ => ⟨⟨0, (fB9_15, fT9_16, se9_17, dn9_18, fG9_19), rfl, cu_m hn (by omega) (by omega) (row_m hs1 zkd zvv zc zmi zsn) (cu_0 c_20), by rw [htQ]; exact hP9, va_K.moved hWQ.alike hK9, hD9⟩, hS.F htQ⟩) hS.2.2 dX12_cuts_32
    · skip
      refine lv_if_ne (tgt := 18) hx hb dX12_cuts_13 (by decide) (fun c_27 => absurd c_27 (by decide)) (fun _ => ?_)
      refine lv_iconst (v := (-1)) hx hb dX12_cuts_16 (by decide) ?_
      rw [hQ]
      have hP9 := hP.sub (ws' := [(zo14irriiiiiirriirrrrlriiii m0 th aS aI im ac sp en wg op aB aT se dn aG aO aN aD bv aY rn kd nu tv), (zaI aS cS 901 fS), (zaI aB cB 6 fB), (zaI aT cT 64 fT), (zaI aG cG 9 fG)]) [0, 1, 2, 3, 4] rfl
      have hD9 := hD.sub (ws' := [(zo14irriiiiiirriirrrrlriiii m0 th aS aI im ac sp en wg op aB aT se dn aG aO aN aD bv aY rn kd nu tv), (zaI aS cS 901 fS), (zaI aB cB 6 fB), (zaI aT cT 64 fT), (zaI aG cG 9 fG)]) [0, 1, 2, 3, 4] (by decide) rfl
      have hK9 := hK.sub (tys' := [(cS, .int), (cB, .int), (cT, .boolean), (cG, .int)]) [0, 1, 2, 3] rfl
      exact W.iret (v := (-1)) hx hb hr (fun tQ htQ hWQ => ⟨⟨(-1), (fB, fT, se, dn, fG), rfl, by first | exact two_no1 (by assumption) | exact two_no2 (by assumption), by rw [htQ]; exact hP9, va_K.moved hWQ.alike hK9, hD9⟩, hS.F htQ⟩) hS.2.2 dX12_cuts_17
  · skip
    refine lv_if_eq (tgt := 16) hx hb dX12_cuts_5 (by decide) (fun _ => ?_) (fun c_28 => absurd c_28 (by decide))
    refine lv_iconst (v := (-1)) hx hb dX12_cuts_16 (by decide) ?_
    rw [hQ]
    have hP9 := hP.sub (ws' := [(zo14irriiiiiirriirrrrlriiii m0 th aS aI im ac sp en wg op aB aT se dn aG aO aN aD bv aY rn kd nu tv), (zaI aS cS 901 fS), (zaI aB cB 6 fB), (zaI aT cT 64 fT), (zaI aG cG 9 fG)]) [0, 1, 2, 3, 4] rfl
    have hD9 := hD.sub (ws' := [(zo14irriiiiiirriirrrrlriiii m0 th aS aI im ac sp en wg op aB aT se dn aG aO aN aD bv aY rn kd nu tv), (zaI aS cS 901 fS), (zaI aB cB 6 fB), (zaI aT cT 64 fT), (zaI aG cG 9 fG)]) [0, 1, 2, 3, 4] (by decide) rfl
    have hK9 := hK.sub (tys' := [(cS, .int), (cB, .int), (cT, .boolean), (cG, .int)]) [0, 1, 2, 3] rfl
    exact W.iret (v := (-1)) hx hb hr (fun tQ htQ hWQ => ⟨⟨(-1), (fB, fT, se, dn, fG), rfl, by first | exact two_no1 (by assumption) | exact two_no2 (by assumption), by rw [htQ]; exact hP9, va_K.moved hWQ.alike hK9, hD9⟩, hS.F htQ⟩) hS.2.2 dX12_cuts_17
