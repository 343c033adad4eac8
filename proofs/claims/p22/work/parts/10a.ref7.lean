theorem ggX12_line_X12_isHeap : GoodIn wsX12_line wsX12_isHeap := gga_of 1320 rfl rfl rfl
theorem gX12_line_X12_isHeap : GoodIn wsX12_line (wsV RX12 164 RX12 yX12_isHeap wsX12_isHeap) := goodIn_app (ggh_of [1317, 1319, 37, 72] rfl rfl rfl) ggX12_line_X12_isHeap
theorem ggX12_line_X12_in : GoodIn wsX12_line wsX12_in := gga_of 1217 rfl rfl rfl
theorem gX12_line_X12_in : GoodIn wsX12_line (va_wsS RX12 45 yX12_in wsX12_in) := goodIn_app (ggh_of [1215, 1216, 72] rfl rfl rfl) ggX12_line_X12_in
theorem ggX12_line_X12_sight : GoodIn wsX12_line wsX12_sight := gga_of 1297 rfl rfl rfl
theorem gX12_line_X12_sight : GoodIn wsX12_line (wsV RX12 140 RX12 yX12_sight wsX12_sight) := goodIn_app (ggh_of [1294, 1296, 34, 72] rfl rfl rfl) ggX12_line_X12_sight
theorem ggX12_line_X12_apart : GoodIn wsX12_line wsX12_apart := gga_of 1343 rfl rfl rfl
theorem gX12_line_X12_apart : GoodIn wsX12_line (va_wsS RX12 170 yX12_apart wsX12_apart) := goodIn_app (ggh_of [1341, 1342, 72] rfl rfl rfl) ggX12_line_X12_apart
theorem ggX12_next_X12_isHeap : GoodIn wsX12_next wsX12_isHeap := gga_of 1320 rfl rfl rfl
theorem gX12_next_X12_isHeap : GoodIn wsX12_next (wsV RX12 164 RX12 yX12_isHeap wsX12_isHeap) := goodIn_app (ggh_of [1317, 1319, 37, 72] rfl rfl rfl) ggX12_next_X12_isHeap
theorem ggX12_next_X12_in : GoodIn wsX12_next wsX12_in := gga_of 1217 rfl rfl rfl
theorem gX12_next_X12_in : GoodIn wsX12_next (va_wsS RX12 45 yX12_in wsX12_in) := goodIn_app (ggh_of [1215, 1216, 72] rfl rfl rfl) ggX12_next_X12_in
theorem ggX12_looked_X12_doesGo : GoodIn wsX12_looked wsX12_doesGo := gga_of 1367 rfl rfl rfl
theorem gX12_looked_X12_doesGo : GoodIn wsX12_looked (wsV RX12 186 RX12 yX12_doesGo wsX12_doesGo) := goodIn_app (ggh_of [1364, 1366, 44, 72] rfl rfl rfl) ggX12_looked_X12_doesGo
theorem ggX12_as_X12_isHeap : GoodIn wsX12_as wsX12_isHeap := gga_of 1320 rfl rfl rfl
theorem gX12_as_X12_isHeap : GoodIn wsX12_as (wsV RX12 164 RX12 yX12_isHeap wsX12_isHeap) := goodIn_app (ggh_of [1317, 1319, 37, 72] rfl rfl rfl) ggX12_as_X12_isHeap
theorem ggX12_as_X12_in : GoodIn wsX12_as wsX12_in := gga_of 1217 rfl rfl rfl
theorem gX12_as_X12_in : GoodIn wsX12_as (va_wsS RX12 45 yX12_in wsX12_in) := goodIn_app (ggh_of [1215, 1216, 72] rfl rfl rfl) ggX12_as_X12_in
theorem ggX12_as_X12_isUnder : GoodIn wsX12_as wsX12_isUnder := gga_of 1496 rfl rfl rfl
theorem gX12_as_X12_isUnder : GoodIn wsX12_as (va_wsS RX12 258 yX12_isUnder wsX12_isUnder) := goodIn_app (ggh_of [1494, 1495, 72] rfl rfl rfl) ggX12_as_X12_isUnder
theorem ggX12_trace_X12_in : GoodIn wsX12_trace wsX12_in := gga_of 1217 rfl rfl rfl
theorem gX12_trace_X12_in : GoodIn wsX12_trace (va_wsS RX12 45 yX12_in wsX12_in) := goodIn_app (ggh_of [1215, 1216, 72] rfl rfl rfl) ggX12_trace_X12_in
theorem ggX12_plainSees_X12_ranBody : GoodIn wsX12_plainSees wsX12_ranBody := gga_of 1500 rfl rfl rfl
theorem gX12_plainSees_X12_ranBody : GoodIn wsX12_plainSees (wsV RX12 249 RX12 yX12_ranBody wsX12_ranBody) := goodIn_app (ggh_of [1497, 1499, 56, 72] rfl rfl rfl) ggX12_plainSees_X12_ranBody
theorem ggX12_seesActs_X12_isUnder : GoodIn wsX12_seesActs wsX12_isUnder := gga_of 1496 rfl rfl rfl
theorem gX12_seesActs_X12_isUnder : GoodIn wsX12_seesActs (va_wsS RX12 258 yX12_isUnder wsX12_isUnder) := goodIn_app (ggh_of [1494, 1495, 72] rfl rfl rfl) ggX12_seesActs_X12_isUnder
theorem ggX12_seesActs_X12_ranBody : GoodIn wsX12_seesActs wsX12_ranBody := gga_of 1500 rfl rfl rfl
theorem gX12_seesActs_X12_ranBody : GoodIn wsX12_seesActs (wsV RX12 249 RX12 yX12_ranBody wsX12_ranBody) := goodIn_app (ggh_of [1497, 1499, 56, 72] rfl rfl rfl) ggX12_seesActs_X12_ranBody
theorem ggX12_seesActs_X12_plainSees : GoodIn wsX12_seesActs wsX12_plainSees := gga_of 1504 rfl rfl rfl
theorem gX12_seesActs_X12_plainSees : GoodIn wsX12_seesActs (wsV RX12 261 RX12 yX12_plainSees wsX12_plainSees) := goodIn_app (ggh_of [1501, 1503, 57, 72] rfl rfl rfl) ggX12_seesActs_X12_plainSees
theorem ggX12_plainGoes_X12_ranBody : GoodIn wsX12_plainGoes wsX12_ranBody := gga_of 1500 rfl rfl rfl
theorem gX12_plainGoes_X12_ranBody : GoodIn wsX12_plainGoes (wsV RX12 249 RX12 yX12_ranBody wsX12_ranBody) := goodIn_app (ggh_of [1497, 1499, 56, 72] rfl rfl rfl) ggX12_plainGoes_X12_ranBody
theorem ggX12_plainGoes_X12_seesActs : GoodIn wsX12_plainGoes wsX12_seesActs := gga_of 1493 rfl rfl rfl
theorem gX12_plainGoes_X12_seesActs : GoodIn wsX12_plainGoes (wsV RX12 264 RX12 yX12_seesActs wsX12_seesActs) := goodIn_app (ggh_of [1490, 1492, 55, 72] rfl rfl rfl) ggX12_plainGoes_X12_seesActs
theorem ggX12_goesActs_X12_isUnder : GoodIn wsX12_goesActs wsX12_isUnder := gga_of 1496 rfl rfl rfl
theorem gX12_goesActs_X12_isUnder : GoodIn wsX12_goesActs (va_wsS RX12 258 yX12_isUnder wsX12_isUnder) := goodIn_app (ggh_of [1494, 1495, 72] rfl rfl rfl) ggX12_goesActs_X12_isUnder
theorem ggX12_goesActs_X12_ranBody : GoodIn wsX12_goesActs wsX12_ranBody := gga_of 1500 rfl rfl rfl
theorem gX12_goesActs_X12_ranBody : GoodIn wsX12_goesActs (wsV RX12 249 RX12 yX12_ranBody wsX12_ranBody) := goodIn_app (ggh_of [1497, 1499, 56, 72] rfl rfl rfl) ggX12_goesActs_X12_ranBody
theorem ggX12_goesActs_X12_plainGoes : GoodIn wsX12_goesActs wsX12_plainGoes := gga_of 1512 rfl rfl rfl
theorem gX12_goesActs_X12_plainGoes : GoodIn wsX12_goesActs (wsV RX12 270 RX12 yX12_plainGoes wsX12_plainGoes) := goodIn_app (ggh_of [1509, 1511, 59, 72] rfl rfl rfl) ggX12_goesActs_X12_plainGoes
theorem ggX12_plainLooks_X12_ranBody : GoodIn wsX12_plainLooks wsX12_ranBody := gga_of 1500 rfl rfl rfl
theorem gX12_plainLooks_X12_ranBody : GoodIn wsX12_plainLooks (wsV RX12 249 RX12 yX12_ranBody wsX12_ranBody) := goodIn_app (ggh_of [1497, 1499, 56, 72] rfl rfl rfl) ggX12_plainLooks_X12_ranBody
theorem ggX12_plainLooks_X12_goesActs : GoodIn wsX12_plainLooks wsX12_goesActs := gga_of 1508 rfl rfl rfl
theorem gX12_plainLooks_X12_goesActs : GoodIn wsX12_plainLooks (wsV RX12 273 RX12 yX12_goesActs wsX12_goesActs) := goodIn_app (ggh_of [1505, 1507, 58, 72] rfl rfl rfl) ggX12_plainLooks_X12_goesActs
theorem ggX12_looksActs_X12_isUnder : GoodIn wsX12_looksActs wsX12_isUnder := gga_of 1496 rfl rfl rfl
theorem gX12_looksActs_X12_isUnder : GoodIn wsX12_looksActs (va_wsS RX12 258 yX12_isUnder wsX12_isUnder) := goodIn_app (ggh_of [1494, 1495, 72] rfl rfl rfl) ggX12_looksActs_X12_isUnder
theorem ggX12_looksActs_X12_ranBody : GoodIn wsX12_looksActs wsX12_ranBody := gga_of 1500 rfl rfl rfl
theorem gX12_looksActs_X12_ranBody : GoodIn wsX12_looksActs (wsV RX12 249 RX12 yX12_ranBody wsX12_ranBody) := goodIn_app (ggh_of [1497, 1499, 56, 72] rfl rfl rfl) ggX12_looksActs_X12_ranBody
theorem ggX12_looksActs_X12_plainLooks : GoodIn wsX12_looksActs wsX12_plainLooks := gga_of 1520 rfl rfl rfl
theorem gX12_looksActs_X12_plainLooks : GoodIn wsX12_looksActs (wsV RX12 276 RX12 yX12_plainLooks wsX12_plainLooks) := goodIn_app (ggh_of [1517, 1519, 61, 72] rfl rfl rfl) ggX12_looksActs_X12_plainLooks
theorem ggX12_looksActs_X12_seesActs : GoodIn wsX12_looksActs wsX12_seesActs := gga_of 1493 rfl rfl rfl
theorem gX12_looksActs_X12_seesActs : GoodIn wsX12_looksActs (wsV RX12 264 RX12 yX12_seesActs wsX12_seesActs) := goodIn_app (ggh_of [1490, 1492, 55, 72] rfl rfl rfl) ggX12_looksActs_X12_seesActs
theorem ggX12_act_X12_isHeap : GoodIn wsX12_act wsX12_isHeap := gga_of 1320 rfl rfl rfl
theorem gX12_act_X12_isHeap : GoodIn wsX12_act (wsV RX12 164 RX12 yX12_isHeap wsX12_isHeap) := goodIn_app (ggh_of [1317, 1319, 37, 72] rfl rfl rfl) ggX12_act_X12_isHeap
theorem ggX12_act_X12_in : GoodIn wsX12_act wsX12_in := gga_of 1217 rfl rfl rfl
theorem gX12_act_X12_in : GoodIn wsX12_act (va_wsS RX12 45 yX12_in wsX12_in) := goodIn_app (ggh_of [1215, 1216, 72] rfl rfl rfl) ggX12_act_X12_in
theorem ggX12_act_X12_looksActs : GoodIn wsX12_act wsX12_looksActs := gga_of 1516 rfl rfl rfl
theorem gX12_act_X12_looksActs : GoodIn wsX12_act (wsV RX12 279 RX12 yX12_looksActs wsX12_looksActs) := goodIn_app (ggh_of [1513, 1515, 60, 72] rfl rfl rfl) ggX12_act_X12_looksActs
theorem ggX12_act_X12_goesActs : GoodIn wsX12_act wsX12_goesActs := gga_of 1508 rfl rfl rfl
theorem gX12_act_X12_goesActs : GoodIn wsX12_act (wsV RX12 273 RX12 yX12_goesActs wsX12_goesActs) := goodIn_app (ggh_of [1505, 1507, 58, 72] rfl rfl rfl) ggX12_act_X12_goesActs
theorem ggX12_act_X12_seesActs : GoodIn wsX12_act wsX12_seesActs := gga_of 1493 rfl rfl rfl
theorem gX12_act_X12_seesActs : GoodIn wsX12_act (wsV RX12 264 RX12 yX12_seesActs wsX12_seesActs) := goodIn_app (ggh_of [1490, 1492, 55, 72] rfl rfl rfl) ggX12_act_X12_seesActs
noncomputable def dk10aref7_cX12_line_0 : List (Nat × Instr × Nat) := [(0, .aload_n 0, 1), (1, .iload_n 1, 1), (2, .invokevirtual 164, 3), (5, .ifCond .ne 5, 3), (10, .iload_n 2, 1), (11, .iconst 1, 1), (12, .bipush 9, 2), (14, .invokestatic 45, 3), (17, .ifCond .ne 6, 3), (23, .aload_n 0, 1), (24, .invokevirtual 140, 3), (27, .aload_n 0, 1), (28, .getfield 9, 3), (31, .bipush 6, 2), (33, .iaload, 1), (53, .istore_n 3, 1), (54, .iconst 0, 1), (55, .istore 4, 2), (57, .iconst 0, 1), (58, .istore 5, 2), (60, .iload 5, 2), (62, .aload_n 0, 1), (63, .getfield 9, 3), (66, .iconst 0, 1), (67, .iaload, 1), (68, .if_icmp .ge 58, 3), (126, .iload 4, 2), (128, .ireturn, 1), (71, .iload 4, 2), (73, .iload 5, 2), (75, .iload_n 1, 1), (76, .if_icmp .eq 40, 3), (116, .iconst 0, 1), (117, .ior, 1), (118, .istore 4, 2), (120, .iinc 5 1, 3), (123, .goto (-63), 3), (79, .aload_n 0, 1), (80, .getfield 9, 3), (83, .bipush 28, 2)]
set_option maxRecDepth 100000 in
theorem dk10aref7_cX12_line_0_a : dkA cX12_line dk10aref7_cX12_line_0 = true := by decide +kernel
theorem dX12_line_0 : decode cX12_line 0 = .ok (.aload_n 0, 1) := dkAt dk10aref7_cX12_line_0_a 0 rfl
theorem dX12_line_1 : decode cX12_line 1 = .ok (.iload_n 1, 1) := dkAt dk10aref7_cX12_line_0_a 1 rfl
theorem dX12_line_2 : decode cX12_line 2 = .ok (.invokevirtual 164, 3) := dkAt dk10aref7_cX12_line_0_a 2 rfl
theorem dX12_line_5 : decode cX12_line 5 = .ok (.ifCond .ne 5, 3) := dkAt dk10aref7_cX12_line_0_a 3 rfl
theorem dX12_line_10 : decode cX12_line 10 = .ok (.iload_n 2, 1) := dkAt dk10aref7_cX12_line_0_a 4 rfl
theorem dX12_line_11 : decode cX12_line 11 = .ok (.iconst 1, 1) := dkAt dk10aref7_cX12_line_0_a 5 rfl
theorem dX12_line_12 : decode cX12_line 12 = .ok (.bipush 9, 2) := dkAt dk10aref7_cX12_line_0_a 6 rfl
theorem dX12_line_14 : decode cX12_line 14 = .ok (.invokestatic 45, 3) := dkAt dk10aref7_cX12_line_0_a 7 rfl
theorem dX12_line_17 : decode cX12_line 17 = .ok (.ifCond .ne 6, 3) := dkAt dk10aref7_cX12_line_0_a 8 rfl
theorem dX12_line_23 : decode cX12_line 23 = .ok (.aload_n 0, 1) := dkAt dk10aref7_cX12_line_0_a 9 rfl
theorem dX12_line_24 : decode cX12_line 24 = .ok (.invokevirtual 140, 3) := dkAt dk10aref7_cX12_line_0_a 10 rfl
theorem dX12_line_27 : decode cX12_line 27 = .ok (.aload_n 0, 1) := dkAt dk10aref7_cX12_line_0_a 11 rfl
theorem dX12_line_28 : decode cX12_line 28 = .ok (.getfield 9, 3) := dkAt dk10aref7_cX12_line_0_a 12 rfl
theorem dX12_line_31 : decode cX12_line 31 = .ok (.bipush 6, 2) := dkAt dk10aref7_cX12_line_0_a 13 rfl
theorem dX12_line_33 : decode cX12_line 33 = .ok (.iaload, 1) := dkAt dk10aref7_cX12_line_0_a 14 rfl
theorem dX12_line_53 : decode cX12_line 53 = .ok (.istore_n 3, 1) := dkAt dk10aref7_cX12_line_0_a 15 rfl
theorem dX12_line_54 : decode cX12_line 54 = .ok (.iconst 0, 1) := dkAt dk10aref7_cX12_line_0_a 16 rfl
theorem dX12_line_55 : decode cX12_line 55 = .ok (.istore 4, 2) := dkAt dk10aref7_cX12_line_0_a 17 rfl
theorem dX12_line_57 : decode cX12_line 57 = .ok (.iconst 0, 1) := dkAt dk10aref7_cX12_line_0_a 18 rfl
theorem dX12_line_58 : decode cX12_line 58 = .ok (.istore 5, 2) := dkAt dk10aref7_cX12_line_0_a 19 rfl
theorem dX12_line_60 : decode cX12_line 60 = .ok (.iload 5, 2) := dkAt dk10aref7_cX12_line_0_a 20 rfl
theorem dX12_line_62 : decode cX12_line 62 = .ok (.aload_n 0, 1) := dkAt dk10aref7_cX12_line_0_a 21 rfl
theorem dX12_line_63 : decode cX12_line 63 = .ok (.getfield 9, 3) := dkAt dk10aref7_cX12_line_0_a 22 rfl
theorem dX12_line_66 : decode cX12_line 66 = .ok (.iconst 0, 1) := dkAt dk10aref7_cX12_line_0_a 23 rfl
theorem dX12_line_67 : decode cX12_line 67 = .ok (.iaload, 1) := dkAt dk10aref7_cX12_line_0_a 24 rfl
theorem dX12_line_68 : decode cX12_line 68 = .ok (.if_icmp .ge 58, 3) := dkAt dk10aref7_cX12_line_0_a 25 rfl
theorem dX12_line_126 : decode cX12_line 126 = .ok (.iload 4, 2) := dkAt dk10aref7_cX12_line_0_a 26 rfl
theorem dX12_line_128 : decode cX12_line 128 = .ok (.ireturn, 1) := dkAt dk10aref7_cX12_line_0_a 27 rfl
theorem dX12_line_71 : decode cX12_line 71 = .ok (.iload 4, 2) := dkAt dk10aref7_cX12_line_0_a 28 rfl
theorem dX12_line_73 : decode cX12_line 73 = .ok (.iload 5, 2) := dkAt dk10aref7_cX12_line_0_a 29 rfl
theorem dX12_line_75 : decode cX12_line 75 = .ok (.iload_n 1, 1) := dkAt dk10aref7_cX12_line_0_a 30 rfl
theorem dX12_line_76 : decode cX12_line 76 = .ok (.if_icmp .eq 40, 3) := dkAt dk10aref7_cX12_line_0_a 31 rfl
theorem dX12_line_116 : decode cX12_line 116 = .ok (.iconst 0, 1) := dkAt dk10aref7_cX12_line_0_a 32 rfl
theorem dX12_line_117 : decode cX12_line 117 = .ok (.ior, 1) := dkAt dk10aref7_cX12_line_0_a 33 rfl
theorem dX12_line_118 : decode cX12_line 118 = .ok (.istore 4, 2) := dkAt dk10aref7_cX12_line_0_a 34 rfl
theorem dX12_line_120 : decode cX12_line 120 = .ok (.iinc 5 1, 3) := dkAt dk10aref7_cX12_line_0_a 35 rfl
theorem dX12_line_123 : decode cX12_line 123 = .ok (.goto (-63), 3) := dkAt dk10aref7_cX12_line_0_a 36 rfl
theorem dX12_line_79 : decode cX12_line 79 = .ok (.aload_n 0, 1) := dkAt dk10aref7_cX12_line_0_a 37 rfl
theorem dX12_line_80 : decode cX12_line 80 = .ok (.getfield 9, 3) := dkAt dk10aref7_cX12_line_0_a 38 rfl
theorem dX12_line_83 : decode cX12_line 83 = .ok (.bipush 28, 2) := dkAt dk10aref7_cX12_line_0_a 39 rfl
noncomputable def dk10aref7_cX12_line_40 : List (Nat × Instr × Nat) := [(85, .iload 5, 2), (87, .iadd, 1), (88, .iaload, 1), (89, .aload_n 0, 1), (90, .getfield 9, 3), (93, .bipush 28, 2), (95, .iload_n 1, 1), (96, .iadd, 1), (97, .iaload, 1), (98, .invokestatic 170, 3), (101, .iload_n 2, 1), (102, .iconst 1, 1), (103, .isub, 1), (104, .iload_n 3, 1), (105, .imul, 1), (106, .if_icmp .gt 10, 3), (109, .iconst 1, 1), (110, .iload 5, 2), (112, .ishl, 1), (113, .goto 4, 3), (34, .if_icmp .ge 7, 3), (41, .aload_n 0, 1), (42, .invokevirtual 140, 3), (45, .aload_n 0, 1), (46, .getfield 9, 3), (49, .bipush 6, 2), (51, .iaload, 1), (52, .isub, 1), (37, .iconst 0, 1), (38, .goto 15, 3), (20, .bipush (-2), 2), (22, .ireturn, 1), (8, .iconst (-1), 1), (9, .ireturn, 1)]
set_option maxRecDepth 100000 in
theorem dk10aref7_cX12_line_40_a : dkA cX12_line dk10aref7_cX12_line_40 = true := by decide +kernel
theorem dX12_line_85 : decode cX12_line 85 = .ok (.iload 5, 2) := dkAt dk10aref7_cX12_line_40_a 0 rfl
theorem dX12_line_87 : decode cX12_line 87 = .ok (.iadd, 1) := dkAt dk10aref7_cX12_line_40_a 1 rfl
theorem dX12_line_88 : decode cX12_line 88 = .ok (.iaload, 1) := dkAt dk10aref7_cX12_line_40_a 2 rfl
theorem dX12_line_89 : decode cX12_line 89 = .ok (.aload_n 0, 1) := dkAt dk10aref7_cX12_line_40_a 3 rfl
theorem dX12_line_90 : decode cX12_line 90 = .ok (.getfield 9, 3) := dkAt dk10aref7_cX12_line_40_a 4 rfl
theorem dX12_line_93 : decode cX12_line 93 = .ok (.bipush 28, 2) := dkAt dk10aref7_cX12_line_40_a 5 rfl
theorem dX12_line_95 : decode cX12_line 95 = .ok (.iload_n 1, 1) := dkAt dk10aref7_cX12_line_40_a 6 rfl
theorem dX12_line_96 : decode cX12_line 96 = .ok (.iadd, 1) := dkAt dk10aref7_cX12_line_40_a 7 rfl
theorem dX12_line_97 : decode cX12_line 97 = .ok (.iaload, 1) := dkAt dk10aref7_cX12_line_40_a 8 rfl
theorem dX12_line_98 : decode cX12_line 98 = .ok (.invokestatic 170, 3) := dkAt dk10aref7_cX12_line_40_a 9 rfl
theorem dX12_line_101 : decode cX12_line 101 = .ok (.iload_n 2, 1) := dkAt dk10aref7_cX12_line_40_a 10 rfl
theorem dX12_line_102 : decode cX12_line 102 = .ok (.iconst 1, 1) := dkAt dk10aref7_cX12_line_40_a 11 rfl
theorem dX12_line_103 : decode cX12_line 103 = .ok (.isub, 1) := dkAt dk10aref7_cX12_line_40_a 12 rfl
theorem dX12_line_104 : decode cX12_line 104 = .ok (.iload_n 3, 1) := dkAt dk10aref7_cX12_line_40_a 13 rfl
theorem dX12_line_105 : decode cX12_line 105 = .ok (.imul, 1) := dkAt dk10aref7_cX12_line_40_a 14 rfl
theorem dX12_line_106 : decode cX12_line 106 = .ok (.if_icmp .gt 10, 3) := dkAt dk10aref7_cX12_line_40_a 15 rfl
theorem dX12_line_109 : decode cX12_line 109 = .ok (.iconst 1, 1) := dkAt dk10aref7_cX12_line_40_a 16 rfl
theorem dX12_line_110 : decode cX12_line 110 = .ok (.iload 5, 2) := dkAt dk10aref7_cX12_line_40_a 17 rfl
theorem dX12_line_112 : decode cX12_line 112 = .ok (.ishl, 1) := dkAt dk10aref7_cX12_line_40_a 18 rfl
theorem dX12_line_113 : decode cX12_line 113 = .ok (.goto 4, 3) := dkAt dk10aref7_cX12_line_40_a 19 rfl
theorem dX12_line_34 : decode cX12_line 34 = .ok (.if_icmp .ge 7, 3) := dkAt dk10aref7_cX12_line_40_a 20 rfl
theorem dX12_line_41 : decode cX12_line 41 = .ok (.aload_n 0, 1) := dkAt dk10aref7_cX12_line_40_a 21 rfl
theorem dX12_line_42 : decode cX12_line 42 = .ok (.invokevirtual 140, 3) := dkAt dk10aref7_cX12_line_40_a 22 rfl
theorem dX12_line_45 : decode cX12_line 45 = .ok (.aload_n 0, 1) := dkAt dk10aref7_cX12_line_40_a 23 rfl
theorem dX12_line_46 : decode cX12_line 46 = .ok (.getfield 9, 3) := dkAt dk10aref7_cX12_line_40_a 24 rfl
theorem dX12_line_49 : decode cX12_line 49 = .ok (.bipush 6, 2) := dkAt dk10aref7_cX12_line_40_a 25 rfl
theorem dX12_line_51 : decode cX12_line 51 = .ok (.iaload, 1) := dkAt dk10aref7_cX12_line_40_a 26 rfl
theorem dX12_line_52 : decode cX12_line 52 = .ok (.isub, 1) := dkAt dk10aref7_cX12_line_40_a 27 rfl
theorem dX12_line_37 : decode cX12_line 37 = .ok (.iconst 0, 1) := dkAt dk10aref7_cX12_line_40_a 28 rfl
theorem dX12_line_38 : decode cX12_line 38 = .ok (.goto 15, 3) := dkAt dk10aref7_cX12_line_40_a 29 rfl
theorem dX12_line_20 : decode cX12_line 20 = .ok (.bipush (-2), 2) := dkAt dk10aref7_cX12_line_40_a 30 rfl
theorem dX12_line_22 : decode cX12_line 22 = .ok (.ireturn, 1) := dkAt dk10aref7_cX12_line_40_a 31 rfl
theorem dX12_line_8 : decode cX12_line 8 = .ok (.iconst (-1), 1) := dkAt dk10aref7_cX12_line_40_a 32 rfl
theorem dX12_line_9 : decode cX12_line 9 = .ok (.ireturn, 1) := dkAt dk10aref7_cX12_line_40_a 33 rfl
noncomputable def dk10aref7_cX12_next_0 : List (Nat × Instr × Nat) := [(0, .aload_n 0, 1), (1, .iload_n 1, 1), (2, .invokevirtual 164, 3), (5, .ifCond .eq 19, 3), (8, .aload_n 0, 1), (9, .iload_n 2, 1), (10, .invokevirtual 164, 3), (13, .ifCond .eq 11, 3), (16, .aload_n 0, 1), (17, .iload_n 3, 1), (18, .invokevirtual 164, 3), (21, .ifCond .ne 5, 3), (26, .aload_n 0, 1), (27, .getfield 9, 3), (30, .bipush 28, 2), (32, .iload_n 1, 1), (33, .iadd, 1), (34, .iaload, 1), (35, .istore 4, 2), (37, .aload_n 0, 1), (38, .getfield 9, 3), (41, .bipush 28, 2), (43, .iload_n 2, 1), (44, .iadd, 1), (45, .iaload, 1), (46, .istore 5, 2), (48, .aload_n 0, 1), (49, .getfield 9, 3), (52, .bipush 28, 2), (54, .iload_n 3, 1), (55, .iadd, 1), (56, .iaload, 1), (57, .istore 6, 2), (59, .iconst 3, 1), (60, .iload 6, 2), (62, .bipush 6, 2), (64, .idiv, 1), (65, .imul, 1), (66, .iconst 3, 1), (67, .iload 5, 2)]
set_option maxRecDepth 100000 in
theorem dk10aref7_cX12_next_0_a : dkA cX12_next dk10aref7_cX12_next_0 = true := by decide +kernel
theorem dX12_next_0 : decode cX12_next 0 = .ok (.aload_n 0, 1) := dkAt dk10aref7_cX12_next_0_a 0 rfl
theorem dX12_next_1 : decode cX12_next 1 = .ok (.iload_n 1, 1) := dkAt dk10aref7_cX12_next_0_a 1 rfl
theorem dX12_next_2 : decode cX12_next 2 = .ok (.invokevirtual 164, 3) := dkAt dk10aref7_cX12_next_0_a 2 rfl
theorem dX12_next_5 : decode cX12_next 5 = .ok (.ifCond .eq 19, 3) := dkAt dk10aref7_cX12_next_0_a 3 rfl
theorem dX12_next_8 : decode cX12_next 8 = .ok (.aload_n 0, 1) := dkAt dk10aref7_cX12_next_0_a 4 rfl
theorem dX12_next_9 : decode cX12_next 9 = .ok (.iload_n 2, 1) := dkAt dk10aref7_cX12_next_0_a 5 rfl
theorem dX12_next_10 : decode cX12_next 10 = .ok (.invokevirtual 164, 3) := dkAt dk10aref7_cX12_next_0_a 6 rfl
theorem dX12_next_13 : decode cX12_next 13 = .ok (.ifCond .eq 11, 3) := dkAt dk10aref7_cX12_next_0_a 7 rfl
theorem dX12_next_16 : decode cX12_next 16 = .ok (.aload_n 0, 1) := dkAt dk10aref7_cX12_next_0_a 8 rfl
theorem dX12_next_17 : decode cX12_next 17 = .ok (.iload_n 3, 1) := dkAt dk10aref7_cX12_next_0_a 9 rfl
theorem dX12_next_18 : decode cX12_next 18 = .ok (.invokevirtual 164, 3) := dkAt dk10aref7_cX12_next_0_a 10 rfl
theorem dX12_next_21 : decode cX12_next 21 = .ok (.ifCond .ne 5, 3) := dkAt dk10aref7_cX12_next_0_a 11 rfl
theorem dX12_next_26 : decode cX12_next 26 = .ok (.aload_n 0, 1) := dkAt dk10aref7_cX12_next_0_a 12 rfl
theorem dX12_next_27 : decode cX12_next 27 = .ok (.getfield 9, 3) := dkAt dk10aref7_cX12_next_0_a 13 rfl
theorem dX12_next_30 : decode cX12_next 30 = .ok (.bipush 28, 2) := dkAt dk10aref7_cX12_next_0_a 14 rfl
theorem dX12_next_32 : decode cX12_next 32 = .ok (.iload_n 1, 1) := dkAt dk10aref7_cX12_next_0_a 15 rfl
theorem dX12_next_33 : decode cX12_next 33 = .ok (.iadd, 1) := dkAt dk10aref7_cX12_next_0_a 16 rfl
theorem dX12_next_34 : decode cX12_next 34 = .ok (.iaload, 1) := dkAt dk10aref7_cX12_next_0_a 17 rfl
theorem dX12_next_35 : decode cX12_next 35 = .ok (.istore 4, 2) := dkAt dk10aref7_cX12_next_0_a 18 rfl
theorem dX12_next_37 : decode cX12_next 37 = .ok (.aload_n 0, 1) := dkAt dk10aref7_cX12_next_0_a 19 rfl
theorem dX12_next_38 : decode cX12_next 38 = .ok (.getfield 9, 3) := dkAt dk10aref7_cX12_next_0_a 20 rfl
theorem dX12_next_41 : decode cX12_next 41 = .ok (.bipush 28, 2) := dkAt dk10aref7_cX12_next_0_a 21 rfl
theorem dX12_next_43 : decode cX12_next 43 = .ok (.iload_n 2, 1) := dkAt dk10aref7_cX12_next_0_a 22 rfl
theorem dX12_next_44 : decode cX12_next 44 = .ok (.iadd, 1) := dkAt dk10aref7_cX12_next_0_a 23 rfl
theorem dX12_next_45 : decode cX12_next 45 = .ok (.iaload, 1) := dkAt dk10aref7_cX12_next_0_a 24 rfl
theorem dX12_next_46 : decode cX12_next 46 = .ok (.istore 5, 2) := dkAt dk10aref7_cX12_next_0_a 25 rfl
theorem dX12_next_48 : decode cX12_next 48 = .ok (.aload_n 0, 1) := dkAt dk10aref7_cX12_next_0_a 26 rfl
theorem dX12_next_49 : decode cX12_next 49 = .ok (.getfield 9, 3) := dkAt dk10aref7_cX12_next_0_a 27 rfl
theorem dX12_next_52 : decode cX12_next 52 = .ok (.bipush 28, 2) := dkAt dk10aref7_cX12_next_0_a 28 rfl
theorem dX12_next_54 : decode cX12_next 54 = .ok (.iload_n 3, 1) := dkAt dk10aref7_cX12_next_0_a 29 rfl
theorem dX12_next_55 : decode cX12_next 55 = .ok (.iadd, 1) := dkAt dk10aref7_cX12_next_0_a 30 rfl
theorem dX12_next_56 : decode cX12_next 56 = .ok (.iaload, 1) := dkAt dk10aref7_cX12_next_0_a 31 rfl
theorem dX12_next_57 : decode cX12_next 57 = .ok (.istore 6, 2) := dkAt dk10aref7_cX12_next_0_a 32 rfl
theorem dX12_next_59 : decode cX12_next 59 = .ok (.iconst 3, 1) := dkAt dk10aref7_cX12_next_0_a 33 rfl
theorem dX12_next_60 : decode cX12_next 60 = .ok (.iload 6, 2) := dkAt dk10aref7_cX12_next_0_a 34 rfl
theorem dX12_next_62 : decode cX12_next 62 = .ok (.bipush 6, 2) := dkAt dk10aref7_cX12_next_0_a 35 rfl
theorem dX12_next_64 : decode cX12_next 64 = .ok (.idiv, 1) := dkAt dk10aref7_cX12_next_0_a 36 rfl
theorem dX12_next_65 : decode cX12_next 65 = .ok (.imul, 1) := dkAt dk10aref7_cX12_next_0_a 37 rfl
theorem dX12_next_66 : decode cX12_next 66 = .ok (.iconst 3, 1) := dkAt dk10aref7_cX12_next_0_a 38 rfl
theorem dX12_next_67 : decode cX12_next 67 = .ok (.iload 5, 2) := dkAt dk10aref7_cX12_next_0_a 39 rfl
noncomputable def dk10aref7_cX12_next_40 : List (Nat × Instr × Nat) := [(69, .bipush 6, 2), (71, .idiv, 1), (72, .imul, 1), (73, .isub, 1), (74, .iload 4, 2), (76, .bipush 6, 2), (78, .idiv, 1), (79, .iadd, 1), (80, .istore 7, 2), (82, .iconst 3, 1), (83, .iload 6, 2), (85, .bipush 6, 2), (87, .irem, 1), (88, .imul, 1), (89, .iconst 3, 1), (90, .iload 5, 2), (92, .bipush 6, 2), (94, .irem, 1), (95, .imul, 1), (96, .isub, 1), (97, .iload 4, 2), (99, .bipush 6, 2), (101, .irem, 1), (102, .iadd, 1), (103, .istore 8, 2), (105, .iload 7, 2), (107, .iconst 0, 1), (108, .iconst 5, 1), (109, .invokestatic 45, 3), (112, .ifCond .eq 24, 3), (115, .iload 8, 2), (117, .iconst 0, 1), (118, .iconst 5, 1), (119, .invokestatic 45, 3), (122, .ifCond .eq 14, 3), (125, .bipush 6, 2), (127, .iload 7, 2), (129, .imul, 1), (130, .iload 8, 2), (132, .iadd, 1)]
set_option maxRecDepth 100000 in
theorem dk10aref7_cX12_next_40_a : dkA cX12_next dk10aref7_cX12_next_40 = true := by decide +kernel
theorem dX12_next_69 : decode cX12_next 69 = .ok (.bipush 6, 2) := dkAt dk10aref7_cX12_next_40_a 0 rfl
theorem dX12_next_71 : decode cX12_next 71 = .ok (.idiv, 1) := dkAt dk10aref7_cX12_next_40_a 1 rfl
theorem dX12_next_72 : decode cX12_next 72 = .ok (.imul, 1) := dkAt dk10aref7_cX12_next_40_a 2 rfl
theorem dX12_next_73 : decode cX12_next 73 = .ok (.isub, 1) := dkAt dk10aref7_cX12_next_40_a 3 rfl
theorem dX12_next_74 : decode cX12_next 74 = .ok (.iload 4, 2) := dkAt dk10aref7_cX12_next_40_a 4 rfl
theorem dX12_next_76 : decode cX12_next 76 = .ok (.bipush 6, 2) := dkAt dk10aref7_cX12_next_40_a 5 rfl
theorem dX12_next_78 : decode cX12_next 78 = .ok (.idiv, 1) := dkAt dk10aref7_cX12_next_40_a 6 rfl
theorem dX12_next_79 : decode cX12_next 79 = .ok (.iadd, 1) := dkAt dk10aref7_cX12_next_40_a 7 rfl
theorem dX12_next_80 : decode cX12_next 80 = .ok (.istore 7, 2) := dkAt dk10aref7_cX12_next_40_a 8 rfl
theorem dX12_next_82 : decode cX12_next 82 = .ok (.iconst 3, 1) := dkAt dk10aref7_cX12_next_40_a 9 rfl
theorem dX12_next_83 : decode cX12_next 83 = .ok (.iload 6, 2) := dkAt dk10aref7_cX12_next_40_a 10 rfl
theorem dX12_next_85 : decode cX12_next 85 = .ok (.bipush 6, 2) := dkAt dk10aref7_cX12_next_40_a 11 rfl
theorem dX12_next_87 : decode cX12_next 87 = .ok (.irem, 1) := dkAt dk10aref7_cX12_next_40_a 12 rfl
theorem dX12_next_88 : decode cX12_next 88 = .ok (.imul, 1) := dkAt dk10aref7_cX12_next_40_a 13 rfl
theorem dX12_next_89 : decode cX12_next 89 = .ok (.iconst 3, 1) := dkAt dk10aref7_cX12_next_40_a 14 rfl
theorem dX12_next_90 : decode cX12_next 90 = .ok (.iload 5, 2) := dkAt dk10aref7_cX12_next_40_a 15 rfl
theorem dX12_next_92 : decode cX12_next 92 = .ok (.bipush 6, 2) := dkAt dk10aref7_cX12_next_40_a 16 rfl
theorem dX12_next_94 : decode cX12_next 94 = .ok (.irem, 1) := dkAt dk10aref7_cX12_next_40_a 17 rfl
theorem dX12_next_95 : decode cX12_next 95 = .ok (.imul, 1) := dkAt dk10aref7_cX12_next_40_a 18 rfl
theorem dX12_next_96 : decode cX12_next 96 = .ok (.isub, 1) := dkAt dk10aref7_cX12_next_40_a 19 rfl
theorem dX12_next_97 : decode cX12_next 97 = .ok (.iload 4, 2) := dkAt dk10aref7_cX12_next_40_a 20 rfl
theorem dX12_next_99 : decode cX12_next 99 = .ok (.bipush 6, 2) := dkAt dk10aref7_cX12_next_40_a 21 rfl
theorem dX12_next_101 : decode cX12_next 101 = .ok (.irem, 1) := dkAt dk10aref7_cX12_next_40_a 22 rfl
theorem dX12_next_102 : decode cX12_next 102 = .ok (.iadd, 1) := dkAt dk10aref7_cX12_next_40_a 23 rfl
theorem dX12_next_103 : decode cX12_next 103 = .ok (.istore 8, 2) := dkAt dk10aref7_cX12_next_40_a 24 rfl
theorem dX12_next_105 : decode cX12_next 105 = .ok (.iload 7, 2) := dkAt dk10aref7_cX12_next_40_a 25 rfl
theorem dX12_next_107 : decode cX12_next 107 = .ok (.iconst 0, 1) := dkAt dk10aref7_cX12_next_40_a 26 rfl
theorem dX12_next_108 : decode cX12_next 108 = .ok (.iconst 5, 1) := dkAt dk10aref7_cX12_next_40_a 27 rfl
theorem dX12_next_109 : decode cX12_next 109 = .ok (.invokestatic 45, 3) := dkAt dk10aref7_cX12_next_40_a 28 rfl
theorem dX12_next_112 : decode cX12_next 112 = .ok (.ifCond .eq 24, 3) := dkAt dk10aref7_cX12_next_40_a 29 rfl
theorem dX12_next_115 : decode cX12_next 115 = .ok (.iload 8, 2) := dkAt dk10aref7_cX12_next_40_a 30 rfl
theorem dX12_next_117 : decode cX12_next 117 = .ok (.iconst 0, 1) := dkAt dk10aref7_cX12_next_40_a 31 rfl
theorem dX12_next_118 : decode cX12_next 118 = .ok (.iconst 5, 1) := dkAt dk10aref7_cX12_next_40_a 32 rfl
theorem dX12_next_119 : decode cX12_next 119 = .ok (.invokestatic 45, 3) := dkAt dk10aref7_cX12_next_40_a 33 rfl
theorem dX12_next_122 : decode cX12_next 122 = .ok (.ifCond .eq 14, 3) := dkAt dk10aref7_cX12_next_40_a 34 rfl
theorem dX12_next_125 : decode cX12_next 125 = .ok (.bipush 6, 2) := dkAt dk10aref7_cX12_next_40_a 35 rfl
theorem dX12_next_127 : decode cX12_next 127 = .ok (.iload 7, 2) := dkAt dk10aref7_cX12_next_40_a 36 rfl
theorem dX12_next_129 : decode cX12_next 129 = .ok (.imul, 1) := dkAt dk10aref7_cX12_next_40_a 37 rfl
theorem dX12_next_130 : decode cX12_next 130 = .ok (.iload 8, 2) := dkAt dk10aref7_cX12_next_40_a 38 rfl
theorem dX12_next_132 : decode cX12_next 132 = .ok (.iadd, 1) := dkAt dk10aref7_cX12_next_40_a 39 rfl
noncomputable def dk10aref7_cX12_next_80 : List (Nat × Instr × Nat) := [(133, .goto 5, 3), (138, .ireturn, 1), (136, .bipush (-5), 2), (24, .iconst (-1), 1), (25, .ireturn, 1)]
set_option maxRecDepth 100000 in
theorem dk10aref7_cX12_next_80_a : dkA cX12_next dk10aref7_cX12_next_80 = true := by decide +kernel
theorem dX12_next_133 : decode cX12_next 133 = .ok (.goto 5, 3) := dkAt dk10aref7_cX12_next_80_a 0 rfl
theorem dX12_next_138 : decode cX12_next 138 = .ok (.ireturn, 1) := dkAt dk10aref7_cX12_next_80_a 1 rfl
theorem dX12_next_136 : decode cX12_next 136 = .ok (.bipush (-5), 2) := dkAt dk10aref7_cX12_next_80_a 2 rfl
theorem dX12_next_24 : decode cX12_next 24 = .ok (.iconst (-1), 1) := dkAt dk10aref7_cX12_next_80_a 3 rfl
theorem dX12_next_25 : decode cX12_next 25 = .ok (.ireturn, 1) := dkAt dk10aref7_cX12_next_80_a 4 rfl
noncomputable def dk10aref7_cX12_looked_0 : List (Nat × Instr × Nat) := [(0, .iconst 1, 1), (1, .istore_n 1, 1), (2, .iload_n 1, 1), (3, .aload_n 0, 1), (4, .getfield 9, 3), (7, .iconst 3, 1), (8, .iaload, 1), (9, .if_icmp .ge 38, 3), (47, .bipush (-5), 2), (49, .ireturn, 1), (12, .aload_n 0, 1), (13, .aload_n 0, 1), (14, .getfield 9, 3), (17, .bipush 79, 2), (19, .iload_n 1, 1), (20, .iadd, 1), (21, .iconst 1, 1), (22, .isub, 1), (23, .iaload, 1), (24, .aload_n 0, 1), (25, .getfield 9, 3), (28, .bipush 79, 2), (30, .iload_n 1, 1), (31, .iadd, 1), (32, .iaload, 1), (33, .invokevirtual 186, 3), (36, .ifCond .ne 5, 3), (41, .iinc 1 1, 3), (44, .goto (-42), 3), (39, .iload_n 1, 1), (40, .ireturn, 1)]
set_option maxRecDepth 100000 in
theorem dk10aref7_cX12_looked_0_a : dkA cX12_looked dk10aref7_cX12_looked_0 = true := by decide +kernel
theorem dX12_looked_0 : decode cX12_looked 0 = .ok (.iconst 1, 1) := dkAt dk10aref7_cX12_looked_0_a 0 rfl
theorem dX12_looked_1 : decode cX12_looked 1 = .ok (.istore_n 1, 1) := dkAt dk10aref7_cX12_looked_0_a 1 rfl
theorem dX12_looked_2 : decode cX12_looked 2 = .ok (.iload_n 1, 1) := dkAt dk10aref7_cX12_looked_0_a 2 rfl
theorem dX12_looked_3 : decode cX12_looked 3 = .ok (.aload_n 0, 1) := dkAt dk10aref7_cX12_looked_0_a 3 rfl
theorem dX12_looked_4 : decode cX12_looked 4 = .ok (.getfield 9, 3) := dkAt dk10aref7_cX12_looked_0_a 4 rfl
theorem dX12_looked_7 : decode cX12_looked 7 = .ok (.iconst 3, 1) := dkAt dk10aref7_cX12_looked_0_a 5 rfl
theorem dX12_looked_8 : decode cX12_looked 8 = .ok (.iaload, 1) := dkAt dk10aref7_cX12_looked_0_a 6 rfl
theorem dX12_looked_9 : decode cX12_looked 9 = .ok (.if_icmp .ge 38, 3) := dkAt dk10aref7_cX12_looked_0_a 7 rfl
theorem dX12_looked_47 : decode cX12_looked 47 = .ok (.bipush (-5), 2) := dkAt dk10aref7_cX12_looked_0_a 8 rfl
theorem dX12_looked_49 : decode cX12_looked 49 = .ok (.ireturn, 1) := dkAt dk10aref7_cX12_looked_0_a 9 rfl
theorem dX12_looked_12 : decode cX12_looked 12 = .ok (.aload_n 0, 1) := dkAt dk10aref7_cX12_looked_0_a 10 rfl
theorem dX12_looked_13 : decode cX12_looked 13 = .ok (.aload_n 0, 1) := dkAt dk10aref7_cX12_looked_0_a 11 rfl
theorem dX12_looked_14 : decode cX12_looked 14 = .ok (.getfield 9, 3) := dkAt dk10aref7_cX12_looked_0_a 12 rfl
theorem dX12_looked_17 : decode cX12_looked 17 = .ok (.bipush 79, 2) := dkAt dk10aref7_cX12_looked_0_a 13 rfl
theorem dX12_looked_19 : decode cX12_looked 19 = .ok (.iload_n 1, 1) := dkAt dk10aref7_cX12_looked_0_a 14 rfl
theorem dX12_looked_20 : decode cX12_looked 20 = .ok (.iadd, 1) := dkAt dk10aref7_cX12_looked_0_a 15 rfl
theorem dX12_looked_21 : decode cX12_looked 21 = .ok (.iconst 1, 1) := dkAt dk10aref7_cX12_looked_0_a 16 rfl
theorem dX12_looked_22 : decode cX12_looked 22 = .ok (.isub, 1) := dkAt dk10aref7_cX12_looked_0_a 17 rfl
theorem dX12_looked_23 : decode cX12_looked 23 = .ok (.iaload, 1) := dkAt dk10aref7_cX12_looked_0_a 18 rfl
theorem dX12_looked_24 : decode cX12_looked 24 = .ok (.aload_n 0, 1) := dkAt dk10aref7_cX12_looked_0_a 19 rfl
theorem dX12_looked_25 : decode cX12_looked 25 = .ok (.getfield 9, 3) := dkAt dk10aref7_cX12_looked_0_a 20 rfl
theorem dX12_looked_28 : decode cX12_looked 28 = .ok (.bipush 79, 2) := dkAt dk10aref7_cX12_looked_0_a 21 rfl
theorem dX12_looked_30 : decode cX12_looked 30 = .ok (.iload_n 1, 1) := dkAt dk10aref7_cX12_looked_0_a 22 rfl
theorem dX12_looked_31 : decode cX12_looked 31 = .ok (.iadd, 1) := dkAt dk10aref7_cX12_looked_0_a 23 rfl
theorem dX12_looked_32 : decode cX12_looked 32 = .ok (.iaload, 1) := dkAt dk10aref7_cX12_looked_0_a 24 rfl
theorem dX12_looked_33 : decode cX12_looked 33 = .ok (.invokevirtual 186, 3) := dkAt dk10aref7_cX12_looked_0_a 25 rfl
theorem dX12_looked_36 : decode cX12_looked 36 = .ok (.ifCond .ne 5, 3) := dkAt dk10aref7_cX12_looked_0_a 26 rfl
theorem dX12_looked_41 : decode cX12_looked 41 = .ok (.iinc 1 1, 3) := dkAt dk10aref7_cX12_looked_0_a 27 rfl
theorem dX12_looked_44 : decode cX12_looked 44 = .ok (.goto (-42), 3) := dkAt dk10aref7_cX12_looked_0_a 28 rfl
theorem dX12_looked_39 : decode cX12_looked 39 = .ok (.iload_n 1, 1) := dkAt dk10aref7_cX12_looked_0_a 29 rfl
theorem dX12_looked_40 : decode cX12_looked 40 = .ok (.ireturn, 1) := dkAt dk10aref7_cX12_looked_0_a 30 rfl
noncomputable def dk10aref7_cX12_isUnder_0 : List (Nat × Instr × Nat) := [(0, .iload_n 1, 1), (1, .ifCond .eq 24, 3), (25, .iconst 1, 1), (26, .goto 4, 3), (30, .ireturn, 1), (4, .iload_n 1, 1), (5, .iload_n 0, 1), (6, .if_icmp .eq 19, 3), (9, .iload_n 1, 1), (10, .ifCond .le 19, 3), (29, .iconst 0, 1), (13, .iload_n 1, 1), (14, .iconst 4, 1), (15, .if_icmp .ge 14, 3), (18, .iload_n 0, 1), (19, .iload_n 1, 1), (20, .iconst 3, 1), (21, .iadd, 1), (22, .if_icmp .ne 7, 3)]
set_option maxRecDepth 100000 in
theorem dk10aref7_cX12_isUnder_0_a : dkA cX12_isUnder dk10aref7_cX12_isUnder_0 = true := by decide +kernel
theorem dX12_isUnder_0 : decode cX12_isUnder 0 = .ok (.iload_n 1, 1) := dkAt dk10aref7_cX12_isUnder_0_a 0 rfl
theorem dX12_isUnder_1 : decode cX12_isUnder 1 = .ok (.ifCond .eq 24, 3) := dkAt dk10aref7_cX12_isUnder_0_a 1 rfl
theorem dX12_isUnder_25 : decode cX12_isUnder 25 = .ok (.iconst 1, 1) := dkAt dk10aref7_cX12_isUnder_0_a 2 rfl
theorem dX12_isUnder_26 : decode cX12_isUnder 26 = .ok (.goto 4, 3) := dkAt dk10aref7_cX12_isUnder_0_a 3 rfl
theorem dX12_isUnder_30 : decode cX12_isUnder 30 = .ok (.ireturn, 1) := dkAt dk10aref7_cX12_isUnder_0_a 4 rfl
theorem dX12_isUnder_4 : decode cX12_isUnder 4 = .ok (.iload_n 1, 1) := dkAt dk10aref7_cX12_isUnder_0_a 5 rfl
theorem dX12_isUnder_5 : decode cX12_isUnder 5 = .ok (.iload_n 0, 1) := dkAt dk10aref7_cX12_isUnder_0_a 6 rfl
theorem dX12_isUnder_6 : decode cX12_isUnder 6 = .ok (.if_icmp .eq 19, 3) := dkAt dk10aref7_cX12_isUnder_0_a 7 rfl
theorem dX12_isUnder_9 : decode cX12_isUnder 9 = .ok (.iload_n 1, 1) := dkAt dk10aref7_cX12_isUnder_0_a 8 rfl
theorem dX12_isUnder_10 : decode cX12_isUnder 10 = .ok (.ifCond .le 19, 3) := dkAt dk10aref7_cX12_isUnder_0_a 9 rfl
theorem dX12_isUnder_29 : decode cX12_isUnder 29 = .ok (.iconst 0, 1) := dkAt dk10aref7_cX12_isUnder_0_a 10 rfl
theorem dX12_isUnder_13 : decode cX12_isUnder 13 = .ok (.iload_n 1, 1) := dkAt dk10aref7_cX12_isUnder_0_a 11 rfl
theorem dX12_isUnder_14 : decode cX12_isUnder 14 = .ok (.iconst 4, 1) := dkAt dk10aref7_cX12_isUnder_0_a 12 rfl
theorem dX12_isUnder_15 : decode cX12_isUnder 15 = .ok (.if_icmp .ge 14, 3) := dkAt dk10aref7_cX12_isUnder_0_a 13 rfl
theorem dX12_isUnder_18 : decode cX12_isUnder 18 = .ok (.iload_n 0, 1) := dkAt dk10aref7_cX12_isUnder_0_a 14 rfl
theorem dX12_isUnder_19 : decode cX12_isUnder 19 = .ok (.iload_n 1, 1) := dkAt dk10aref7_cX12_isUnder_0_a 15 rfl
theorem dX12_isUnder_20 : decode cX12_isUnder 20 = .ok (.iconst 3, 1) := dkAt dk10aref7_cX12_isUnder_0_a 16 rfl
theorem dX12_isUnder_21 : decode cX12_isUnder 21 = .ok (.iadd, 1) := dkAt dk10aref7_cX12_isUnder_0_a 17 rfl
theorem dX12_isUnder_22 : decode cX12_isUnder 22 = .ok (.if_icmp .ne 7, 3) := dkAt dk10aref7_cX12_isUnder_0_a 18 rfl
noncomputable def dk10aref7_cX12_as_0 : List (Nat × Instr × Nat) := [(0, .aload_n 0, 1), (1, .iload_n 1, 1), (2, .invokevirtual 164, 3), (5, .ifCond .eq 13, 3), (8, .iload_n 2, 1), (9, .iconst 0, 1), (10, .bipush 6, 2), (12, .invokestatic 45, 3), (15, .ifCond .ne 5, 3), (20, .aload_n 0, 1), (21, .getfield 9, 3), (24, .bipush 10, 2), (26, .iload_n 1, 1), (27, .iadd, 1), (28, .iaload, 1), (29, .iload_n 2, 1), (30, .invokestatic 258, 3), (33, .ifCond .eq 15, 3), (36, .aload_n 0, 1), (37, .getfield 9, 3), (40, .bipush 19, 2), (42, .iload_n 1, 1), (43, .iadd, 1), (44, .iaload, 1), (45, .goto 5, 3), (50, .ireturn, 1), (48, .bipush (-6), 2), (18, .iconst (-1), 1), (19, .ireturn, 1)]
set_option maxRecDepth 100000 in
theorem dk10aref7_cX12_as_0_a : dkA cX12_as dk10aref7_cX12_as_0 = true := by decide +kernel
theorem dX12_as_0 : decode cX12_as 0 = .ok (.aload_n 0, 1) := dkAt dk10aref7_cX12_as_0_a 0 rfl
theorem dX12_as_1 : decode cX12_as 1 = .ok (.iload_n 1, 1) := dkAt dk10aref7_cX12_as_0_a 1 rfl
theorem dX12_as_2 : decode cX12_as 2 = .ok (.invokevirtual 164, 3) := dkAt dk10aref7_cX12_as_0_a 2 rfl
theorem dX12_as_5 : decode cX12_as 5 = .ok (.ifCond .eq 13, 3) := dkAt dk10aref7_cX12_as_0_a 3 rfl
theorem dX12_as_8 : decode cX12_as 8 = .ok (.iload_n 2, 1) := dkAt dk10aref7_cX12_as_0_a 4 rfl
theorem dX12_as_9 : decode cX12_as 9 = .ok (.iconst 0, 1) := dkAt dk10aref7_cX12_as_0_a 5 rfl
theorem dX12_as_10 : decode cX12_as 10 = .ok (.bipush 6, 2) := dkAt dk10aref7_cX12_as_0_a 6 rfl
theorem dX12_as_12 : decode cX12_as 12 = .ok (.invokestatic 45, 3) := dkAt dk10aref7_cX12_as_0_a 7 rfl
theorem dX12_as_15 : decode cX12_as 15 = .ok (.ifCond .ne 5, 3) := dkAt dk10aref7_cX12_as_0_a 8 rfl
theorem dX12_as_20 : decode cX12_as 20 = .ok (.aload_n 0, 1) := dkAt dk10aref7_cX12_as_0_a 9 rfl
theorem dX12_as_21 : decode cX12_as 21 = .ok (.getfield 9, 3) := dkAt dk10aref7_cX12_as_0_a 10 rfl
theorem dX12_as_24 : decode cX12_as 24 = .ok (.bipush 10, 2) := dkAt dk10aref7_cX12_as_0_a 11 rfl
theorem dX12_as_26 : decode cX12_as 26 = .ok (.iload_n 1, 1) := dkAt dk10aref7_cX12_as_0_a 12 rfl
theorem dX12_as_27 : decode cX12_as 27 = .ok (.iadd, 1) := dkAt dk10aref7_cX12_as_0_a 13 rfl
theorem dX12_as_28 : decode cX12_as 28 = .ok (.iaload, 1) := dkAt dk10aref7_cX12_as_0_a 14 rfl
theorem dX12_as_29 : decode cX12_as 29 = .ok (.iload_n 2, 1) := dkAt dk10aref7_cX12_as_0_a 15 rfl
theorem dX12_as_30 : decode cX12_as 30 = .ok (.invokestatic 258, 3) := dkAt dk10aref7_cX12_as_0_a 16 rfl
theorem dX12_as_33 : decode cX12_as 33 = .ok (.ifCond .eq 15, 3) := dkAt dk10aref7_cX12_as_0_a 17 rfl
theorem dX12_as_36 : decode cX12_as 36 = .ok (.aload_n 0, 1) := dkAt dk10aref7_cX12_as_0_a 18 rfl
theorem dX12_as_37 : decode cX12_as 37 = .ok (.getfield 9, 3) := dkAt dk10aref7_cX12_as_0_a 19 rfl
theorem dX12_as_40 : decode cX12_as 40 = .ok (.bipush 19, 2) := dkAt dk10aref7_cX12_as_0_a 20 rfl
theorem dX12_as_42 : decode cX12_as 42 = .ok (.iload_n 1, 1) := dkAt dk10aref7_cX12_as_0_a 21 rfl
theorem dX12_as_43 : decode cX12_as 43 = .ok (.iadd, 1) := dkAt dk10aref7_cX12_as_0_a 22 rfl
theorem dX12_as_44 : decode cX12_as 44 = .ok (.iaload, 1) := dkAt dk10aref7_cX12_as_0_a 23 rfl
theorem dX12_as_45 : decode cX12_as 45 = .ok (.goto 5, 3) := dkAt dk10aref7_cX12_as_0_a 24 rfl
theorem dX12_as_50 : decode cX12_as 50 = .ok (.ireturn, 1) := dkAt dk10aref7_cX12_as_0_a 25 rfl
theorem dX12_as_48 : decode cX12_as 48 = .ok (.bipush (-6), 2) := dkAt dk10aref7_cX12_as_0_a 26 rfl
theorem dX12_as_18 : decode cX12_as 18 = .ok (.iconst (-1), 1) := dkAt dk10aref7_cX12_as_0_a 27 rfl
theorem dX12_as_19 : decode cX12_as 19 = .ok (.ireturn, 1) := dkAt dk10aref7_cX12_as_0_a 28 rfl
noncomputable def dk10aref7_cX12_trace_0 : List (Nat × Instr × Nat) := [(0, .iload_n 1, 1), (1, .iconst 0, 1), (2, .aload_n 0, 1), (3, .getfield 246, 3), (6, .bipush 20, 2), (8, .if_icmp .ge 10, 3), (18, .bipush 20, 2), (20, .iconst 1, 1), (21, .isub, 1), (22, .invokestatic 45, 3), (25, .ifCond .eq 12, 3), (28, .aload_n 0, 1), (29, .getfield 38, 3), (32, .iload_n 1, 1), (33, .iaload, 1), (34, .goto 4, 3), (38, .ireturn, 1), (37, .iconst (-1), 1), (11, .aload_n 0, 1), (12, .getfield 246, 3), (15, .goto 5, 3)]
set_option maxRecDepth 100000 in
theorem dk10aref7_cX12_trace_0_a : dkA cX12_trace dk10aref7_cX12_trace_0 = true := by decide +kernel
theorem dX12_trace_0 : decode cX12_trace 0 = .ok (.iload_n 1, 1) := dkAt dk10aref7_cX12_trace_0_a 0 rfl
theorem dX12_trace_1 : decode cX12_trace 1 = .ok (.iconst 0, 1) := dkAt dk10aref7_cX12_trace_0_a 1 rfl
theorem dX12_trace_2 : decode cX12_trace 2 = .ok (.aload_n 0, 1) := dkAt dk10aref7_cX12_trace_0_a 2 rfl
theorem dX12_trace_3 : decode cX12_trace 3 = .ok (.getfield 246, 3) := dkAt dk10aref7_cX12_trace_0_a 3 rfl
theorem dX12_trace_6 : decode cX12_trace 6 = .ok (.bipush 20, 2) := dkAt dk10aref7_cX12_trace_0_a 4 rfl
theorem dX12_trace_8 : decode cX12_trace 8 = .ok (.if_icmp .ge 10, 3) := dkAt dk10aref7_cX12_trace_0_a 5 rfl
theorem dX12_trace_18 : decode cX12_trace 18 = .ok (.bipush 20, 2) := dkAt dk10aref7_cX12_trace_0_a 6 rfl
theorem dX12_trace_20 : decode cX12_trace 20 = .ok (.iconst 1, 1) := dkAt dk10aref7_cX12_trace_0_a 7 rfl
theorem dX12_trace_21 : decode cX12_trace 21 = .ok (.isub, 1) := dkAt dk10aref7_cX12_trace_0_a 8 rfl
theorem dX12_trace_22 : decode cX12_trace 22 = .ok (.invokestatic 45, 3) := dkAt dk10aref7_cX12_trace_0_a 9 rfl
theorem dX12_trace_25 : decode cX12_trace 25 = .ok (.ifCond .eq 12, 3) := dkAt dk10aref7_cX12_trace_0_a 10 rfl
theorem dX12_trace_28 : decode cX12_trace 28 = .ok (.aload_n 0, 1) := dkAt dk10aref7_cX12_trace_0_a 11 rfl
theorem dX12_trace_29 : decode cX12_trace 29 = .ok (.getfield 38, 3) := dkAt dk10aref7_cX12_trace_0_a 12 rfl
theorem dX12_trace_32 : decode cX12_trace 32 = .ok (.iload_n 1, 1) := dkAt dk10aref7_cX12_trace_0_a 13 rfl
theorem dX12_trace_33 : decode cX12_trace 33 = .ok (.iaload, 1) := dkAt dk10aref7_cX12_trace_0_a 14 rfl
theorem dX12_trace_34 : decode cX12_trace 34 = .ok (.goto 4, 3) := dkAt dk10aref7_cX12_trace_0_a 15 rfl
theorem dX12_trace_38 : decode cX12_trace 38 = .ok (.ireturn, 1) := dkAt dk10aref7_cX12_trace_0_a 16 rfl
theorem dX12_trace_37 : decode cX12_trace 37 = .ok (.iconst (-1), 1) := dkAt dk10aref7_cX12_trace_0_a 17 rfl
theorem dX12_trace_11 : decode cX12_trace 11 = .ok (.aload_n 0, 1) := dkAt dk10aref7_cX12_trace_0_a 18 rfl
theorem dX12_trace_12 : decode cX12_trace 12 = .ok (.getfield 246, 3) := dkAt dk10aref7_cX12_trace_0_a 19 rfl
theorem dX12_trace_15 : decode cX12_trace 15 = .ok (.goto 5, 3) := dkAt dk10aref7_cX12_trace_0_a 20 rfl
noncomputable def dk10aref7_cX12_ranBody_0 : List (Nat × Instr × Nat) := [(0, .aload_n 0, 1), (1, .getfield 246, 3), (4, .bipush 20, 2), (6, .if_icmp .ge 13, 3), (9, .aload_n 0, 1), (10, .getfield 38, 3), (13, .aload_n 0, 1), (14, .getfield 246, 3), (17, .iload_n 1, 1), (18, .iastore, 1), (19, .aload_n 0, 1), (20, .dup, 1), (21, .getfield 246, 3), (24, .iconst 1, 1), (25, .iadd, 1), (26, .putfield 246, 3), (29, .return_, 1)]
set_option maxRecDepth 100000 in
theorem dk10aref7_cX12_ranBody_0_a : dkA cX12_ranBody dk10aref7_cX12_ranBody_0 = true := by decide +kernel
theorem dX12_ranBody_0 : decode cX12_ranBody 0 = .ok (.aload_n 0, 1) := dkAt dk10aref7_cX12_ranBody_0_a 0 rfl
theorem dX12_ranBody_1 : decode cX12_ranBody 1 = .ok (.getfield 246, 3) := dkAt dk10aref7_cX12_ranBody_0_a 1 rfl
theorem dX12_ranBody_4 : decode cX12_ranBody 4 = .ok (.bipush 20, 2) := dkAt dk10aref7_cX12_ranBody_0_a 2 rfl
theorem dX12_ranBody_6 : decode cX12_ranBody 6 = .ok (.if_icmp .ge 13, 3) := dkAt dk10aref7_cX12_ranBody_0_a 3 rfl
theorem dX12_ranBody_9 : decode cX12_ranBody 9 = .ok (.aload_n 0, 1) := dkAt dk10aref7_cX12_ranBody_0_a 4 rfl
theorem dX12_ranBody_10 : decode cX12_ranBody 10 = .ok (.getfield 38, 3) := dkAt dk10aref7_cX12_ranBody_0_a 5 rfl
theorem dX12_ranBody_13 : decode cX12_ranBody 13 = .ok (.aload_n 0, 1) := dkAt dk10aref7_cX12_ranBody_0_a 6 rfl
theorem dX12_ranBody_14 : decode cX12_ranBody 14 = .ok (.getfield 246, 3) := dkAt dk10aref7_cX12_ranBody_0_a 7 rfl
theorem dX12_ranBody_17 : decode cX12_ranBody 17 = .ok (.iload_n 1, 1) := dkAt dk10aref7_cX12_ranBody_0_a 8 rfl
theorem dX12_ranBody_18 : decode cX12_ranBody 18 = .ok (.iastore, 1) := dkAt dk10aref7_cX12_ranBody_0_a 9 rfl
theorem dX12_ranBody_19 : decode cX12_ranBody 19 = .ok (.aload_n 0, 1) := dkAt dk10aref7_cX12_ranBody_0_a 10 rfl
theorem dX12_ranBody_20 : decode cX12_ranBody 20 = .ok (.dup, 1) := dkAt dk10aref7_cX12_ranBody_0_a 11 rfl
theorem dX12_ranBody_21 : decode cX12_ranBody 21 = .ok (.getfield 246, 3) := dkAt dk10aref7_cX12_ranBody_0_a 12 rfl
theorem dX12_ranBody_24 : decode cX12_ranBody 24 = .ok (.iconst 1, 1) := dkAt dk10aref7_cX12_ranBody_0_a 13 rfl
theorem dX12_ranBody_25 : decode cX12_ranBody 25 = .ok (.iadd, 1) := dkAt dk10aref7_cX12_ranBody_0_a 14 rfl
theorem dX12_ranBody_26 : decode cX12_ranBody 26 = .ok (.putfield 246, 3) := dkAt dk10aref7_cX12_ranBody_0_a 15 rfl
theorem dX12_ranBody_29 : decode cX12_ranBody 29 = .ok (.return_, 1) := dkAt dk10aref7_cX12_ranBody_0_a 16 rfl
noncomputable def dk10aref7_cX12_plainSees_0 : List (Nat × Instr × Nat) := [(0, .aload_n 0, 1), (1, .iconst 1, 1), (2, .invokevirtual 249, 3), (5, .iload_n 1, 1), (6, .aload_n 0, 1), (7, .getfield 252, 3), (10, .iadd, 1), (11, .ireturn, 1)]
set_option maxRecDepth 100000 in
theorem dk10aref7_cX12_plainSees_0_a : dkA cX12_plainSees dk10aref7_cX12_plainSees_0 = true := by decide +kernel
theorem dX12_plainSees_0 : decode cX12_plainSees 0 = .ok (.aload_n 0, 1) := dkAt dk10aref7_cX12_plainSees_0_a 0 rfl
theorem dX12_plainSees_1 : decode cX12_plainSees 1 = .ok (.iconst 1, 1) := dkAt dk10aref7_cX12_plainSees_0_a 1 rfl
theorem dX12_plainSees_2 : decode cX12_plainSees 2 = .ok (.invokevirtual 249, 3) := dkAt dk10aref7_cX12_plainSees_0_a 2 rfl
theorem dX12_plainSees_5 : decode cX12_plainSees 5 = .ok (.iload_n 1, 1) := dkAt dk10aref7_cX12_plainSees_0_a 3 rfl
theorem dX12_plainSees_6 : decode cX12_plainSees 6 = .ok (.aload_n 0, 1) := dkAt dk10aref7_cX12_plainSees_0_a 4 rfl
theorem dX12_plainSees_7 : decode cX12_plainSees 7 = .ok (.getfield 252, 3) := dkAt dk10aref7_cX12_plainSees_0_a 5 rfl
theorem dX12_plainSees_10 : decode cX12_plainSees 10 = .ok (.iadd, 1) := dkAt dk10aref7_cX12_plainSees_0_a 6 rfl
theorem dX12_plainSees_11 : decode cX12_plainSees 11 = .ok (.ireturn, 1) := dkAt dk10aref7_cX12_plainSees_0_a 7 rfl
noncomputable def dk10aref7_cX12_seesActs_0 : List (Nat × Instr × Nat) := [(0, .aload_n 0, 1), (1, .getfield 255, 3), (4, .iconst 1, 1), (5, .invokestatic 258, 3), (8, .ifCond .eq 17, 3), (11, .aload_n 0, 1), (12, .bipush 11, 2), (14, .invokevirtual 249, 3), (17, .aload_n 0, 1), (18, .iload_n 1, 1), (19, .iconst 3, 1), (20, .imul, 1), (21, .invokevirtual 261, 3), (24, .ireturn, 1), (25, .aload_n 0, 1), (26, .getfield 255, 3), (29, .iconst 5, 1), (30, .if_icmp .ne 20, 3), (50, .aload_n 0, 1), (51, .iload_n 1, 1), (52, .invokevirtual 261, 3), (55, .ireturn, 1), (33, .aload_n 0, 1), (34, .bipush 51, 2), (36, .invokevirtual 249, 3), (39, .aload_n 0, 1), (40, .iload_n 1, 1), (41, .invokevirtual 261, 3), (44, .aload_n 0, 1), (45, .getfield 252, 3), (48, .ixor, 1), (49, .ireturn, 1)]
set_option maxRecDepth 100000 in
theorem dk10aref7_cX12_seesActs_0_a : dkA cX12_seesActs dk10aref7_cX12_seesActs_0 = true := by decide +kernel
theorem dX12_seesActs_0 : decode cX12_seesActs 0 = .ok (.aload_n 0, 1) := dkAt dk10aref7_cX12_seesActs_0_a 0 rfl
theorem dX12_seesActs_1 : decode cX12_seesActs 1 = .ok (.getfield 255, 3) := dkAt dk10aref7_cX12_seesActs_0_a 1 rfl
theorem dX12_seesActs_4 : decode cX12_seesActs 4 = .ok (.iconst 1, 1) := dkAt dk10aref7_cX12_seesActs_0_a 2 rfl
theorem dX12_seesActs_5 : decode cX12_seesActs 5 = .ok (.invokestatic 258, 3) := dkAt dk10aref7_cX12_seesActs_0_a 3 rfl
theorem dX12_seesActs_8 : decode cX12_seesActs 8 = .ok (.ifCond .eq 17, 3) := dkAt dk10aref7_cX12_seesActs_0_a 4 rfl
theorem dX12_seesActs_11 : decode cX12_seesActs 11 = .ok (.aload_n 0, 1) := dkAt dk10aref7_cX12_seesActs_0_a 5 rfl
theorem dX12_seesActs_12 : decode cX12_seesActs 12 = .ok (.bipush 11, 2) := dkAt dk10aref7_cX12_seesActs_0_a 6 rfl
theorem dX12_seesActs_14 : decode cX12_seesActs 14 = .ok (.invokevirtual 249, 3) := dkAt dk10aref7_cX12_seesActs_0_a 7 rfl
theorem dX12_seesActs_17 : decode cX12_seesActs 17 = .ok (.aload_n 0, 1) := dkAt dk10aref7_cX12_seesActs_0_a 8 rfl
theorem dX12_seesActs_18 : decode cX12_seesActs 18 = .ok (.iload_n 1, 1) := dkAt dk10aref7_cX12_seesActs_0_a 9 rfl
theorem dX12_seesActs_19 : decode cX12_seesActs 19 = .ok (.iconst 3, 1) := dkAt dk10aref7_cX12_seesActs_0_a 10 rfl
theorem dX12_seesActs_20 : decode cX12_seesActs 20 = .ok (.imul, 1) := dkAt dk10aref7_cX12_seesActs_0_a 11 rfl
theorem dX12_seesActs_21 : decode cX12_seesActs 21 = .ok (.invokevirtual 261, 3) := dkAt dk10aref7_cX12_seesActs_0_a 12 rfl
theorem dX12_seesActs_24 : decode cX12_seesActs 24 = .ok (.ireturn, 1) := dkAt dk10aref7_cX12_seesActs_0_a 13 rfl
theorem dX12_seesActs_25 : decode cX12_seesActs 25 = .ok (.aload_n 0, 1) := dkAt dk10aref7_cX12_seesActs_0_a 14 rfl
theorem dX12_seesActs_26 : decode cX12_seesActs 26 = .ok (.getfield 255, 3) := dkAt dk10aref7_cX12_seesActs_0_a 15 rfl
theorem dX12_seesActs_29 : decode cX12_seesActs 29 = .ok (.iconst 5, 1) := dkAt dk10aref7_cX12_seesActs_0_a 16 rfl
theorem dX12_seesActs_30 : decode cX12_seesActs 30 = .ok (.if_icmp .ne 20, 3) := dkAt dk10aref7_cX12_seesActs_0_a 17 rfl
theorem dX12_seesActs_50 : decode cX12_seesActs 50 = .ok (.aload_n 0, 1) := dkAt dk10aref7_cX12_seesActs_0_a 18 rfl
theorem dX12_seesActs_51 : decode cX12_seesActs 51 = .ok (.iload_n 1, 1) := dkAt dk10aref7_cX12_seesActs_0_a 19 rfl
theorem dX12_seesActs_52 : decode cX12_seesActs 52 = .ok (.invokevirtual 261, 3) := dkAt dk10aref7_cX12_seesActs_0_a 20 rfl
theorem dX12_seesActs_55 : decode cX12_seesActs 55 = .ok (.ireturn, 1) := dkAt dk10aref7_cX12_seesActs_0_a 21 rfl
theorem dX12_seesActs_33 : decode cX12_seesActs 33 = .ok (.aload_n 0, 1) := dkAt dk10aref7_cX12_seesActs_0_a 22 rfl
theorem dX12_seesActs_34 : decode cX12_seesActs 34 = .ok (.bipush 51, 2) := dkAt dk10aref7_cX12_seesActs_0_a 23 rfl
theorem dX12_seesActs_36 : decode cX12_seesActs 36 = .ok (.invokevirtual 249, 3) := dkAt dk10aref7_cX12_seesActs_0_a 24 rfl
theorem dX12_seesActs_39 : decode cX12_seesActs 39 = .ok (.aload_n 0, 1) := dkAt dk10aref7_cX12_seesActs_0_a 25 rfl
theorem dX12_seesActs_40 : decode cX12_seesActs 40 = .ok (.iload_n 1, 1) := dkAt dk10aref7_cX12_seesActs_0_a 26 rfl
theorem dX12_seesActs_41 : decode cX12_seesActs 41 = .ok (.invokevirtual 261, 3) := dkAt dk10aref7_cX12_seesActs_0_a 27 rfl
theorem dX12_seesActs_44 : decode cX12_seesActs 44 = .ok (.aload_n 0, 1) := dkAt dk10aref7_cX12_seesActs_0_a 28 rfl
theorem dX12_seesActs_45 : decode cX12_seesActs 45 = .ok (.getfield 252, 3) := dkAt dk10aref7_cX12_seesActs_0_a 29 rfl
theorem dX12_seesActs_48 : decode cX12_seesActs 48 = .ok (.ixor, 1) := dkAt dk10aref7_cX12_seesActs_0_a 30 rfl
theorem dX12_seesActs_49 : decode cX12_seesActs 49 = .ok (.ireturn, 1) := dkAt dk10aref7_cX12_seesActs_0_a 31 rfl
noncomputable def dk10aref7_cX12_plainGoes_0 : List (Nat × Instr × Nat) := [(0, .aload_n 0, 1), (1, .iconst 2, 1), (2, .invokevirtual 249, 3), (5, .aload_n 0, 1), (6, .iload_n 1, 1), (7, .invokevirtual 264, 3), (10, .aload_n 0, 1), (11, .getfield 267, 3), (14, .isub, 1), (15, .ireturn, 1)]
set_option maxRecDepth 100000 in
theorem dk10aref7_cX12_plainGoes_0_a : dkA cX12_plainGoes dk10aref7_cX12_plainGoes_0 = true := by decide +kernel
theorem dX12_plainGoes_0 : decode cX12_plainGoes 0 = .ok (.aload_n 0, 1) := dkAt dk10aref7_cX12_plainGoes_0_a 0 rfl
theorem dX12_plainGoes_1 : decode cX12_plainGoes 1 = .ok (.iconst 2, 1) := dkAt dk10aref7_cX12_plainGoes_0_a 1 rfl
theorem dX12_plainGoes_2 : decode cX12_plainGoes 2 = .ok (.invokevirtual 249, 3) := dkAt dk10aref7_cX12_plainGoes_0_a 2 rfl
theorem dX12_plainGoes_5 : decode cX12_plainGoes 5 = .ok (.aload_n 0, 1) := dkAt dk10aref7_cX12_plainGoes_0_a 3 rfl
theorem dX12_plainGoes_6 : decode cX12_plainGoes 6 = .ok (.iload_n 1, 1) := dkAt dk10aref7_cX12_plainGoes_0_a 4 rfl
theorem dX12_plainGoes_7 : decode cX12_plainGoes 7 = .ok (.invokevirtual 264, 3) := dkAt dk10aref7_cX12_plainGoes_0_a 5 rfl
theorem dX12_plainGoes_10 : decode cX12_plainGoes 10 = .ok (.aload_n 0, 1) := dkAt dk10aref7_cX12_plainGoes_0_a 6 rfl
theorem dX12_plainGoes_11 : decode cX12_plainGoes 11 = .ok (.getfield 267, 3) := dkAt dk10aref7_cX12_plainGoes_0_a 7 rfl
theorem dX12_plainGoes_14 : decode cX12_plainGoes 14 = .ok (.isub, 1) := dkAt dk10aref7_cX12_plainGoes_0_a 8 rfl
theorem dX12_plainGoes_15 : decode cX12_plainGoes 15 = .ok (.ireturn, 1) := dkAt dk10aref7_cX12_plainGoes_0_a 9 rfl
noncomputable def dk10aref7_cX12_goesActs_0 : List (Nat × Instr × Nat) := [(0, .aload_n 0, 1), (1, .getfield 255, 3), (4, .iconst 2, 1), (5, .invokestatic 258, 3), (8, .ifCond .eq 16, 3), (11, .aload_n 0, 1), (12, .bipush 21, 2), (14, .invokevirtual 249, 3), (17, .aload_n 0, 1), (18, .iload_n 1, 1), (19, .invokevirtual 270, 3), (22, .ineg, 1), (23, .ireturn, 1), (24, .aload_n 0, 1), (25, .getfield 255, 3), (28, .bipush 6, 2), (30, .if_icmp .ne 20, 3), (50, .aload_n 0, 1), (51, .iload_n 1, 1), (52, .invokevirtual 270, 3), (55, .ireturn, 1), (33, .aload_n 0, 1), (34, .bipush 61, 2), (36, .invokevirtual 249, 3), (39, .aload_n 0, 1), (40, .iload_n 1, 1), (41, .invokevirtual 270, 3), (44, .aload_n 0, 1), (45, .getfield 267, 3), (48, .iadd, 1), (49, .ireturn, 1)]
set_option maxRecDepth 100000 in
theorem dk10aref7_cX12_goesActs_0_a : dkA cX12_goesActs dk10aref7_cX12_goesActs_0 = true := by decide +kernel
theorem dX12_goesActs_0 : decode cX12_goesActs 0 = .ok (.aload_n 0, 1) := dkAt dk10aref7_cX12_goesActs_0_a 0 rfl
theorem dX12_goesActs_1 : decode cX12_goesActs 1 = .ok (.getfield 255, 3) := dkAt dk10aref7_cX12_goesActs_0_a 1 rfl
theorem dX12_goesActs_4 : decode cX12_goesActs 4 = .ok (.iconst 2, 1) := dkAt dk10aref7_cX12_goesActs_0_a 2 rfl
theorem dX12_goesActs_5 : decode cX12_goesActs 5 = .ok (.invokestatic 258, 3) := dkAt dk10aref7_cX12_goesActs_0_a 3 rfl
theorem dX12_goesActs_8 : decode cX12_goesActs 8 = .ok (.ifCond .eq 16, 3) := dkAt dk10aref7_cX12_goesActs_0_a 4 rfl
theorem dX12_goesActs_11 : decode cX12_goesActs 11 = .ok (.aload_n 0, 1) := dkAt dk10aref7_cX12_goesActs_0_a 5 rfl
theorem dX12_goesActs_12 : decode cX12_goesActs 12 = .ok (.bipush 21, 2) := dkAt dk10aref7_cX12_goesActs_0_a 6 rfl
theorem dX12_goesActs_14 : decode cX12_goesActs 14 = .ok (.invokevirtual 249, 3) := dkAt dk10aref7_cX12_goesActs_0_a 7 rfl
theorem dX12_goesActs_17 : decode cX12_goesActs 17 = .ok (.aload_n 0, 1) := dkAt dk10aref7_cX12_goesActs_0_a 8 rfl
theorem dX12_goesActs_18 : decode cX12_goesActs 18 = .ok (.iload_n 1, 1) := dkAt dk10aref7_cX12_goesActs_0_a 9 rfl
theorem dX12_goesActs_19 : decode cX12_goesActs 19 = .ok (.invokevirtual 270, 3) := dkAt dk10aref7_cX12_goesActs_0_a 10 rfl
theorem dX12_goesActs_22 : decode cX12_goesActs 22 = .ok (.ineg, 1) := dkAt dk10aref7_cX12_goesActs_0_a 11 rfl
theorem dX12_goesActs_23 : decode cX12_goesActs 23 = .ok (.ireturn, 1) := dkAt dk10aref7_cX12_goesActs_0_a 12 rfl
theorem dX12_goesActs_24 : decode cX12_goesActs 24 = .ok (.aload_n 0, 1) := dkAt dk10aref7_cX12_goesActs_0_a 13 rfl
theorem dX12_goesActs_25 : decode cX12_goesActs 25 = .ok (.getfield 255, 3) := dkAt dk10aref7_cX12_goesActs_0_a 14 rfl
theorem dX12_goesActs_28 : decode cX12_goesActs 28 = .ok (.bipush 6, 2) := dkAt dk10aref7_cX12_goesActs_0_a 15 rfl
theorem dX12_goesActs_30 : decode cX12_goesActs 30 = .ok (.if_icmp .ne 20, 3) := dkAt dk10aref7_cX12_goesActs_0_a 16 rfl
theorem dX12_goesActs_50 : decode cX12_goesActs 50 = .ok (.aload_n 0, 1) := dkAt dk10aref7_cX12_goesActs_0_a 17 rfl
theorem dX12_goesActs_51 : decode cX12_goesActs 51 = .ok (.iload_n 1, 1) := dkAt dk10aref7_cX12_goesActs_0_a 18 rfl
theorem dX12_goesActs_52 : decode cX12_goesActs 52 = .ok (.invokevirtual 270, 3) := dkAt dk10aref7_cX12_goesActs_0_a 19 rfl
theorem dX12_goesActs_55 : decode cX12_goesActs 55 = .ok (.ireturn, 1) := dkAt dk10aref7_cX12_goesActs_0_a 20 rfl
theorem dX12_goesActs_33 : decode cX12_goesActs 33 = .ok (.aload_n 0, 1) := dkAt dk10aref7_cX12_goesActs_0_a 21 rfl
theorem dX12_goesActs_34 : decode cX12_goesActs 34 = .ok (.bipush 61, 2) := dkAt dk10aref7_cX12_goesActs_0_a 22 rfl
theorem dX12_goesActs_36 : decode cX12_goesActs 36 = .ok (.invokevirtual 249, 3) := dkAt dk10aref7_cX12_goesActs_0_a 23 rfl
theorem dX12_goesActs_39 : decode cX12_goesActs 39 = .ok (.aload_n 0, 1) := dkAt dk10aref7_cX12_goesActs_0_a 24 rfl
theorem dX12_goesActs_40 : decode cX12_goesActs 40 = .ok (.iload_n 1, 1) := dkAt dk10aref7_cX12_goesActs_0_a 25 rfl
theorem dX12_goesActs_41 : decode cX12_goesActs 41 = .ok (.invokevirtual 270, 3) := dkAt dk10aref7_cX12_goesActs_0_a 26 rfl
theorem dX12_goesActs_44 : decode cX12_goesActs 44 = .ok (.aload_n 0, 1) := dkAt dk10aref7_cX12_goesActs_0_a 27 rfl
theorem dX12_goesActs_45 : decode cX12_goesActs 45 = .ok (.getfield 267, 3) := dkAt dk10aref7_cX12_goesActs_0_a 28 rfl
theorem dX12_goesActs_48 : decode cX12_goesActs 48 = .ok (.iadd, 1) := dkAt dk10aref7_cX12_goesActs_0_a 29 rfl
theorem dX12_goesActs_49 : decode cX12_goesActs 49 = .ok (.ireturn, 1) := dkAt dk10aref7_cX12_goesActs_0_a 30 rfl
noncomputable def dk10aref7_cX12_plainLooks_0 : List (Nat × Instr × Nat) := [(0, .aload_n 0, 1), (1, .iconst 3, 1), (2, .invokevirtual 249, 3), (5, .aload_n 0, 1), (6, .iload_n 1, 1), (7, .invokevirtual 273, 3), (10, .iconst 2, 1), (11, .imul, 1), (12, .ireturn, 1)]
set_option maxRecDepth 100000 in
theorem dk10aref7_cX12_plainLooks_0_a : dkA cX12_plainLooks dk10aref7_cX12_plainLooks_0 = true := by decide +kernel
theorem dX12_plainLooks_0 : decode cX12_plainLooks 0 = .ok (.aload_n 0, 1) := dkAt dk10aref7_cX12_plainLooks_0_a 0 rfl
theorem dX12_plainLooks_1 : decode cX12_plainLooks 1 = .ok (.iconst 3, 1) := dkAt dk10aref7_cX12_plainLooks_0_a 1 rfl
theorem dX12_plainLooks_2 : decode cX12_plainLooks 2 = .ok (.invokevirtual 249, 3) := dkAt dk10aref7_cX12_plainLooks_0_a 2 rfl
theorem dX12_plainLooks_5 : decode cX12_plainLooks 5 = .ok (.aload_n 0, 1) := dkAt dk10aref7_cX12_plainLooks_0_a 3 rfl
theorem dX12_plainLooks_6 : decode cX12_plainLooks 6 = .ok (.iload_n 1, 1) := dkAt dk10aref7_cX12_plainLooks_0_a 4 rfl
theorem dX12_plainLooks_7 : decode cX12_plainLooks 7 = .ok (.invokevirtual 273, 3) := dkAt dk10aref7_cX12_plainLooks_0_a 5 rfl
theorem dX12_plainLooks_10 : decode cX12_plainLooks 10 = .ok (.iconst 2, 1) := dkAt dk10aref7_cX12_plainLooks_0_a 6 rfl
theorem dX12_plainLooks_11 : decode cX12_plainLooks 11 = .ok (.imul, 1) := dkAt dk10aref7_cX12_plainLooks_0_a 7 rfl
theorem dX12_plainLooks_12 : decode cX12_plainLooks 12 = .ok (.ireturn, 1) := dkAt dk10aref7_cX12_plainLooks_0_a 8 rfl
noncomputable def dk10aref7_cX12_looksActs_0 : List (Nat × Instr × Nat) := [(0, .aload_n 0, 1), (1, .getfield 255, 3), (4, .iconst 3, 1), (5, .invokestatic 258, 3), (8, .ifCond .eq 18, 3), (11, .aload_n 0, 1), (12, .bipush 31, 2), (14, .invokevirtual 249, 3), (17, .aload_n 0, 1), (18, .iload_n 1, 1), (19, .invokevirtual 276, 3), (22, .bipush 7, 2), (24, .ixor, 1), (25, .ireturn, 1), (26, .aload_n 0, 1), (27, .getfield 255, 3), (30, .iconst 4, 1), (31, .if_icmp .ne 25, 3), (56, .aload_n 0, 1), (57, .iload_n 1, 1), (58, .invokevirtual 276, 3), (61, .ireturn, 1), (34, .aload_n 0, 1), (35, .bipush 41, 2), (37, .invokevirtual 249, 3), (40, .aload_n 0, 1), (41, .iload_n 1, 1), (42, .iconst 1, 1), (43, .isub, 1), (44, .invokevirtual 276, 3), (47, .istore_n 2, 1), (48, .iload_n 2, 1), (49, .aload_n 0, 1), (50, .iconst 2, 1), (51, .invokevirtual 264, 3), (54, .iadd, 1), (55, .ireturn, 1)]
set_option maxRecDepth 100000 in
theorem dk10aref7_cX12_looksActs_0_a : dkA cX12_looksActs dk10aref7_cX12_looksActs_0 = true := by decide +kernel
theorem dX12_looksActs_0 : decode cX12_looksActs 0 = .ok (.aload_n 0, 1) := dkAt dk10aref7_cX12_looksActs_0_a 0 rfl
theorem dX12_looksActs_1 : decode cX12_looksActs 1 = .ok (.getfield 255, 3) := dkAt dk10aref7_cX12_looksActs_0_a 1 rfl
theorem dX12_looksActs_4 : decode cX12_looksActs 4 = .ok (.iconst 3, 1) := dkAt dk10aref7_cX12_looksActs_0_a 2 rfl
theorem dX12_looksActs_5 : decode cX12_looksActs 5 = .ok (.invokestatic 258, 3) := dkAt dk10aref7_cX12_looksActs_0_a 3 rfl
theorem dX12_looksActs_8 : decode cX12_looksActs 8 = .ok (.ifCond .eq 18, 3) := dkAt dk10aref7_cX12_looksActs_0_a 4 rfl
theorem dX12_looksActs_11 : decode cX12_looksActs 11 = .ok (.aload_n 0, 1) := dkAt dk10aref7_cX12_looksActs_0_a 5 rfl
theorem dX12_looksActs_12 : decode cX12_looksActs 12 = .ok (.bipush 31, 2) := dkAt dk10aref7_cX12_looksActs_0_a 6 rfl
theorem dX12_looksActs_14 : decode cX12_looksActs 14 = .ok (.invokevirtual 249, 3) := dkAt dk10aref7_cX12_looksActs_0_a 7 rfl
theorem dX12_looksActs_17 : decode cX12_looksActs 17 = .ok (.aload_n 0, 1) := dkAt dk10aref7_cX12_looksActs_0_a 8 rfl
theorem dX12_looksActs_18 : decode cX12_looksActs 18 = .ok (.iload_n 1, 1) := dkAt dk10aref7_cX12_looksActs_0_a 9 rfl
theorem dX12_looksActs_19 : decode cX12_looksActs 19 = .ok (.invokevirtual 276, 3) := dkAt dk10aref7_cX12_looksActs_0_a 10 rfl
theorem dX12_looksActs_22 : decode cX12_looksActs 22 = .ok (.bipush 7, 2) := dkAt dk10aref7_cX12_looksActs_0_a 11 rfl
theorem dX12_looksActs_24 : decode cX12_looksActs 24 = .ok (.ixor, 1) := dkAt dk10aref7_cX12_looksActs_0_a 12 rfl
theorem dX12_looksActs_25 : decode cX12_looksActs 25 = .ok (.ireturn, 1) := dkAt dk10aref7_cX12_looksActs_0_a 13 rfl
theorem dX12_looksActs_26 : decode cX12_looksActs 26 = .ok (.aload_n 0, 1) := dkAt dk10aref7_cX12_looksActs_0_a 14 rfl
theorem dX12_looksActs_27 : decode cX12_looksActs 27 = .ok (.getfield 255, 3) := dkAt dk10aref7_cX12_looksActs_0_a 15 rfl
theorem dX12_looksActs_30 : decode cX12_looksActs 30 = .ok (.iconst 4, 1) := dkAt dk10aref7_cX12_looksActs_0_a 16 rfl
theorem dX12_looksActs_31 : decode cX12_looksActs 31 = .ok (.if_icmp .ne 25, 3) := dkAt dk10aref7_cX12_looksActs_0_a 17 rfl
theorem dX12_looksActs_56 : decode cX12_looksActs 56 = .ok (.aload_n 0, 1) := dkAt dk10aref7_cX12_looksActs_0_a 18 rfl
theorem dX12_looksActs_57 : decode cX12_looksActs 57 = .ok (.iload_n 1, 1) := dkAt dk10aref7_cX12_looksActs_0_a 19 rfl
theorem dX12_looksActs_58 : decode cX12_looksActs 58 = .ok (.invokevirtual 276, 3) := dkAt dk10aref7_cX12_looksActs_0_a 20 rfl
theorem dX12_looksActs_61 : decode cX12_looksActs 61 = .ok (.ireturn, 1) := dkAt dk10aref7_cX12_looksActs_0_a 21 rfl
theorem dX12_looksActs_34 : decode cX12_looksActs 34 = .ok (.aload_n 0, 1) := dkAt dk10aref7_cX12_looksActs_0_a 22 rfl
theorem dX12_looksActs_35 : decode cX12_looksActs 35 = .ok (.bipush 41, 2) := dkAt dk10aref7_cX12_looksActs_0_a 23 rfl
theorem dX12_looksActs_37 : decode cX12_looksActs 37 = .ok (.invokevirtual 249, 3) := dkAt dk10aref7_cX12_looksActs_0_a 24 rfl
theorem dX12_looksActs_40 : decode cX12_looksActs 40 = .ok (.aload_n 0, 1) := dkAt dk10aref7_cX12_looksActs_0_a 25 rfl
theorem dX12_looksActs_41 : decode cX12_looksActs 41 = .ok (.iload_n 1, 1) := dkAt dk10aref7_cX12_looksActs_0_a 26 rfl
theorem dX12_looksActs_42 : decode cX12_looksActs 42 = .ok (.iconst 1, 1) := dkAt dk10aref7_cX12_looksActs_0_a 27 rfl
theorem dX12_looksActs_43 : decode cX12_looksActs 43 = .ok (.isub, 1) := dkAt dk10aref7_cX12_looksActs_0_a 28 rfl
theorem dX12_looksActs_44 : decode cX12_looksActs 44 = .ok (.invokevirtual 276, 3) := dkAt dk10aref7_cX12_looksActs_0_a 29 rfl
theorem dX12_looksActs_47 : decode cX12_looksActs 47 = .ok (.istore_n 2, 1) := dkAt dk10aref7_cX12_looksActs_0_a 30 rfl
theorem dX12_looksActs_48 : decode cX12_looksActs 48 = .ok (.iload_n 2, 1) := dkAt dk10aref7_cX12_looksActs_0_a 31 rfl
theorem dX12_looksActs_49 : decode cX12_looksActs 49 = .ok (.aload_n 0, 1) := dkAt dk10aref7_cX12_looksActs_0_a 32 rfl
theorem dX12_looksActs_50 : decode cX12_looksActs 50 = .ok (.iconst 2, 1) := dkAt dk10aref7_cX12_looksActs_0_a 33 rfl
theorem dX12_looksActs_51 : decode cX12_looksActs 51 = .ok (.invokevirtual 264, 3) := dkAt dk10aref7_cX12_looksActs_0_a 34 rfl
theorem dX12_looksActs_54 : decode cX12_looksActs 54 = .ok (.iadd, 1) := dkAt dk10aref7_cX12_looksActs_0_a 35 rfl
theorem dX12_looksActs_55 : decode cX12_looksActs 55 = .ok (.ireturn, 1) := dkAt dk10aref7_cX12_looksActs_0_a 36 rfl
noncomputable def dk10aref7_cX12_act_0 : List (Nat × Instr × Nat) := [(0, .aload_n 0, 1), (1, .iconst 0, 1), (2, .putfield 246, 3), (5, .aload_n 0, 1), (6, .iload_n 1, 1), (7, .invokevirtual 164, 3), (10, .ifCond .eq 12, 3), (13, .iload_n 2, 1), (14, .iconst 0, 1), (15, .iconst 2, 1), (16, .invokestatic 45, 3), (19, .ifCond .ne 5, 3), (24, .aload_n 0, 1), (25, .aload_n 0, 1), (26, .getfield 9, 3), (29, .bipush 10, 2), (31, .iload_n 1, 1), (32, .iadd, 1), (33, .iaload, 1), (34, .putfield 255, 3), (37, .aload_n 0, 1), (38, .iload_n 1, 1), (39, .putfield 252, 3), (42, .aload_n 0, 1), (43, .aload_n 0, 1), (44, .getfield 9, 3), (47, .bipush 19, 2), (49, .iload_n 1, 1), (50, .iadd, 1), (51, .iaload, 1), (52, .putfield 267, 3), (55, .iload_n 2, 1), (56, .ifCond .ne 11, 3), (67, .iload_n 2, 1), (68, .iconst 1, 1), (69, .if_icmp .ne 11, 3), (80, .aload_n 0, 1), (81, .iload_n 3, 1), (82, .invokevirtual 279, 3), (85, .ireturn, 1)]
set_option maxRecDepth 100000 in
theorem dk10aref7_cX12_act_0_a : dkA cX12_act dk10aref7_cX12_act_0 = true := by decide +kernel
theorem dX12_act_0 : decode cX12_act 0 = .ok (.aload_n 0, 1) := dkAt dk10aref7_cX12_act_0_a 0 rfl
theorem dX12_act_1 : decode cX12_act 1 = .ok (.iconst 0, 1) := dkAt dk10aref7_cX12_act_0_a 1 rfl
theorem dX12_act_2 : decode cX12_act 2 = .ok (.putfield 246, 3) := dkAt dk10aref7_cX12_act_0_a 2 rfl
theorem dX12_act_5 : decode cX12_act 5 = .ok (.aload_n 0, 1) := dkAt dk10aref7_cX12_act_0_a 3 rfl
theorem dX12_act_6 : decode cX12_act 6 = .ok (.iload_n 1, 1) := dkAt dk10aref7_cX12_act_0_a 4 rfl
theorem dX12_act_7 : decode cX12_act 7 = .ok (.invokevirtual 164, 3) := dkAt dk10aref7_cX12_act_0_a 5 rfl
theorem dX12_act_10 : decode cX12_act 10 = .ok (.ifCond .eq 12, 3) := dkAt dk10aref7_cX12_act_0_a 6 rfl
theorem dX12_act_13 : decode cX12_act 13 = .ok (.iload_n 2, 1) := dkAt dk10aref7_cX12_act_0_a 7 rfl
theorem dX12_act_14 : decode cX12_act 14 = .ok (.iconst 0, 1) := dkAt dk10aref7_cX12_act_0_a 8 rfl
theorem dX12_act_15 : decode cX12_act 15 = .ok (.iconst 2, 1) := dkAt dk10aref7_cX12_act_0_a 9 rfl
theorem dX12_act_16 : decode cX12_act 16 = .ok (.invokestatic 45, 3) := dkAt dk10aref7_cX12_act_0_a 10 rfl
theorem dX12_act_19 : decode cX12_act 19 = .ok (.ifCond .ne 5, 3) := dkAt dk10aref7_cX12_act_0_a 11 rfl
theorem dX12_act_24 : decode cX12_act 24 = .ok (.aload_n 0, 1) := dkAt dk10aref7_cX12_act_0_a 12 rfl
theorem dX12_act_25 : decode cX12_act 25 = .ok (.aload_n 0, 1) := dkAt dk10aref7_cX12_act_0_a 13 rfl
theorem dX12_act_26 : decode cX12_act 26 = .ok (.getfield 9, 3) := dkAt dk10aref7_cX12_act_0_a 14 rfl
theorem dX12_act_29 : decode cX12_act 29 = .ok (.bipush 10, 2) := dkAt dk10aref7_cX12_act_0_a 15 rfl
theorem dX12_act_31 : decode cX12_act 31 = .ok (.iload_n 1, 1) := dkAt dk10aref7_cX12_act_0_a 16 rfl
theorem dX12_act_32 : decode cX12_act 32 = .ok (.iadd, 1) := dkAt dk10aref7_cX12_act_0_a 17 rfl
theorem dX12_act_33 : decode cX12_act 33 = .ok (.iaload, 1) := dkAt dk10aref7_cX12_act_0_a 18 rfl
theorem dX12_act_34 : decode cX12_act 34 = .ok (.putfield 255, 3) := dkAt dk10aref7_cX12_act_0_a 19 rfl
theorem dX12_act_37 : decode cX12_act 37 = .ok (.aload_n 0, 1) := dkAt dk10aref7_cX12_act_0_a 20 rfl
theorem dX12_act_38 : decode cX12_act 38 = .ok (.iload_n 1, 1) := dkAt dk10aref7_cX12_act_0_a 21 rfl
theorem dX12_act_39 : decode cX12_act 39 = .ok (.putfield 252, 3) := dkAt dk10aref7_cX12_act_0_a 22 rfl
theorem dX12_act_42 : decode cX12_act 42 = .ok (.aload_n 0, 1) := dkAt dk10aref7_cX12_act_0_a 23 rfl
theorem dX12_act_43 : decode cX12_act 43 = .ok (.aload_n 0, 1) := dkAt dk10aref7_cX12_act_0_a 24 rfl
theorem dX12_act_44 : decode cX12_act 44 = .ok (.getfield 9, 3) := dkAt dk10aref7_cX12_act_0_a 25 rfl
theorem dX12_act_47 : decode cX12_act 47 = .ok (.bipush 19, 2) := dkAt dk10aref7_cX12_act_0_a 26 rfl
theorem dX12_act_49 : decode cX12_act 49 = .ok (.iload_n 1, 1) := dkAt dk10aref7_cX12_act_0_a 27 rfl
theorem dX12_act_50 : decode cX12_act 50 = .ok (.iadd, 1) := dkAt dk10aref7_cX12_act_0_a 28 rfl
theorem dX12_act_51 : decode cX12_act 51 = .ok (.iaload, 1) := dkAt dk10aref7_cX12_act_0_a 29 rfl
theorem dX12_act_52 : decode cX12_act 52 = .ok (.putfield 267, 3) := dkAt dk10aref7_cX12_act_0_a 30 rfl
theorem dX12_act_55 : decode cX12_act 55 = .ok (.iload_n 2, 1) := dkAt dk10aref7_cX12_act_0_a 31 rfl
theorem dX12_act_56 : decode cX12_act 56 = .ok (.ifCond .ne 11, 3) := dkAt dk10aref7_cX12_act_0_a 32 rfl
theorem dX12_act_67 : decode cX12_act 67 = .ok (.iload_n 2, 1) := dkAt dk10aref7_cX12_act_0_a 33 rfl
theorem dX12_act_68 : decode cX12_act 68 = .ok (.iconst 1, 1) := dkAt dk10aref7_cX12_act_0_a 34 rfl
theorem dX12_act_69 : decode cX12_act 69 = .ok (.if_icmp .ne 11, 3) := dkAt dk10aref7_cX12_act_0_a 35 rfl
theorem dX12_act_80 : decode cX12_act 80 = .ok (.aload_n 0, 1) := dkAt dk10aref7_cX12_act_0_a 36 rfl
theorem dX12_act_81 : decode cX12_act 81 = .ok (.iload_n 3, 1) := dkAt dk10aref7_cX12_act_0_a 37 rfl
theorem dX12_act_82 : decode cX12_act 82 = .ok (.invokevirtual 279, 3) := dkAt dk10aref7_cX12_act_0_a 38 rfl
theorem dX12_act_85 : decode cX12_act 85 = .ok (.ireturn, 1) := dkAt dk10aref7_cX12_act_0_a 39 rfl
noncomputable def dk10aref7_cX12_act_40 : List (Nat × Instr × Nat) := [(72, .aload_n 0, 1), (73, .iload_n 3, 1), (74, .invokevirtual 273, 3), (77, .goto 8, 3), (59, .aload_n 0, 1), (60, .iload_n 3, 1), (61, .invokevirtual 264, 3), (64, .goto 21, 3), (22, .iconst 0, 1), (23, .ireturn, 1)]
set_option maxRecDepth 100000 in
theorem dk10aref7_cX12_act_40_a : dkA cX12_act dk10aref7_cX12_act_40 = true := by decide +kernel
theorem dX12_act_72 : decode cX12_act 72 = .ok (.aload_n 0, 1) := dkAt dk10aref7_cX12_act_40_a 0 rfl
theorem dX12_act_73 : decode cX12_act 73 = .ok (.iload_n 3, 1) := dkAt dk10aref7_cX12_act_40_a 1 rfl
theorem dX12_act_74 : decode cX12_act 74 = .ok (.invokevirtual 273, 3) := dkAt dk10aref7_cX12_act_40_a 2 rfl
theorem dX12_act_77 : decode cX12_act 77 = .ok (.goto 8, 3) := dkAt dk10aref7_cX12_act_40_a 3 rfl
theorem dX12_act_59 : decode cX12_act 59 = .ok (.aload_n 0, 1) := dkAt dk10aref7_cX12_act_40_a 4 rfl
theorem dX12_act_60 : decode cX12_act 60 = .ok (.iload_n 3, 1) := dkAt dk10aref7_cX12_act_40_a 5 rfl
theorem dX12_act_61 : decode cX12_act 61 = .ok (.invokevirtual 264, 3) := dkAt dk10aref7_cX12_act_40_a 6 rfl
theorem dX12_act_64 : decode cX12_act 64 = .ok (.goto 21, 3) := dkAt dk10aref7_cX12_act_40_a 7 rfl
theorem dX12_act_22 : decode cX12_act 22 = .ok (.iconst 0, 1) := dkAt dk10aref7_cX12_act_40_a 8 rfl
theorem dX12_act_23 : decode cX12_act 23 = .ok (.ireturn, 1) := dkAt dk10aref7_cX12_act_40_a 9 rfl
theorem kc_mLine_0 : ∀ w ∈ wsX120, w ∈ wsX12_line := fun w h => List.mem_cons_of_mem _ (gin_wsX120 w h)
theorem kc_mLine_1 : (.fieldLink RX12 9 "MistHeapsModel" "s" "[I" : Cond) ∈ wsX12_line := kc_of 1141 rfl rfl rfl
set_option maxHeartbeats 4000000 in
set_option maxRecDepth 100000 in
theorem c_mLine (l : Launch) (dC : Nat → ClassId) (dI : Nat → Nat → Nat) (m0 aS aI aB aT aG aO aN aD aY : Nat) (th im ac sp en wg op se dn rn kd nu tv : Int32) (bv : Int64) (cS : ClassId) (fS : Nat → Int32) (n : Nat) (yc : Nat → Int32) (mi x y : Int32) (cz : List pCla) (zn : fS 0 = nI n) (hn : n ≤ 8) (zh : hol fS cz) (zc : ∀ k, k < n → fS (28 + k) = yc k) (zmi : fS 6 = mi) : Met l yX12_line wsX12_line ({ frames := 2, cells := 0, slots := 0, locals := 43 } : Room) (va_Pc [.ref m0, .int x, .int y] (fun U => va_P (dC, dI) vwCl [(zo14irriiiiiirriirrrrlriiii m0 th aS aI im ac sp en wg op aB aT se dn aG aO aN aD bv aY rn kd nu tv), (zaI aS cS 901 fS)] U.heap ∧ va_K (dC, dI) vwCl [(cS, .int)] U)) (vp_Si (fun r => r = lnR n yc (sgC cz) mi x y)) 0 0 (fun _ => False) := by
  refine met_ofQ (cc := cX12_line) (maxL := 6) (ret := (some .int)) (by decide) rfl ?_
  intro p e s m args below meth c s₁ Q B hml hv hQ
  obtain ⟨rfl, hP, hK⟩ := hv
  have hx := B.exec
  have hb := B.bytes
  have hr := B.returns
  have hts := atoms_spec (ws := wsX12_line) B.pre
  have hown : s.vm.findClass RX12 = some m.cls := findClass_of_methodNamed B.named
  have hlocks := B.notSynchronized
  obtain ⟨A, hAe⟩ : ∃ A : Nat → Prop, A = fun _ => False := ⟨_, rfl⟩
  rw [← hAe] at hQ
  have hS : va_S A s.heap s.heap [] := va_S.rf
  have hl := lv_entry [.ref m0, .int x, .int y] (n := 6) (Nat.le_of_ble_eq_true rfl)
  rw [lg_entry_eq]
  generalize (lg_sl [.ref m0, .int x, .int y] ++ List.replicate (6 - (lg_sl [.ref m0, .int x, .int y]).length) Slot.unset).toArray = ls at hl ⊢
  generalize hag : ([.ref m0, .int x, .int y] : List Value).toArray = args at hts hQ ⊢
  have hl : lv_has ls 6 [(0, .ref m0), (1, .int x), (2, .int y)] := hl
  refine lv_aload_n hx hb dX12_line_0 rfl (lv_at hl 0 rfl) ?_
  refine lv_iload_n hx hb dX12_line_1 rfl (lv_at hl 1 rfl) ?_
  have hPc := hP.sub (ws' := [(zo14irriiiiiirriirrrrlriiii m0 th aS aI im ac sp en wg op aB aT se dn aG aO aN aD bv aY rn kd nu tv), (zaI aS cS 901 fS)]) [0, 1] rfl
  have hKc := hK.sub (tys' := [(cS, .int)]) [0] rfl
  refine vp_callSi (va_runV (As := [.int x]) (rest := []) ⟨hx, hb, hml, hown, hts⟩ (c_isHeap l dC dI m0 aS aI aB aT aG aO aN aD aY th im ac sp en wg op se dn rn kd nu tv bv cS fS n x (zn) (hn)) (cwV 1 hts gX12_line_X12_isHeap rfl rfl rfl hd_yX12_isHeap ⟨Nat.le_of_ble_eq_true rfl, Nat.le_of_ble_eq_true rfl⟩) ⟨fun a U g mk q => by obtain ⟨q0, qP, qK⟩ := q; exact ⟨q0, qP, va_K.moved (u := U) (U := U.calling g mk a) (Vm.Alike.refl U.vm) qK⟩, va_recv hK hP (ci := 14) (q := (RX12, TX12, 23)) (q0 := 0) rfl rfl, fun U hU hW => ⟨rfl, by rw [hU]; exact hPc, va_K.moved hW.alike hKc⟩⟩ rfl rfl hl.1 rfl (lv_room (Nat.le_of_ble_eq_true rfl)) dX12_line_2 ⟨Nat.le_of_ble_eq_true rfl, Nat.le_of_ble_eq_true rfl⟩).run (fun r_1 hw_2 => ?_)
  rcases hw_2 with ⟨rfl, j_3, hj_4, rfl⟩ | ⟨rfl, h_5⟩
  · skip
    refine lv_if_ne (tgt := 10) hx hb dX12_line_5 (by decide) (fun _ => ?_) (fun c_6 => absurd c_6 (by decide))
    refine lv_iload_n hx hb dX12_line_10 rfl (lv_at hl 2 rfl) ?_
    refine lv_iconst (v := 1) hx hb dX12_line_11 (by decide) ?_
    refine lv_bipush (v := 9) hx hb dX12_line_12 (by decide) ?_
    refine vp_callSi (va_runS (As := [.int y, .int 1, .int 9]) (rest := []) ⟨hx, hb, hml, hown, hts⟩ (c_in l dC dI y 1 9) (va_cwS 3 hts gX12_line_X12_in rfl rfl rfl hd_yX12_in.2 ⟨Nat.le_of_ble_eq_true rfl, Nat.le_of_ble_eq_true rfl⟩) ⟨fun a U g mk q => ⟨q.1, trivial⟩, fun U hU hW => ⟨rfl, trivial⟩⟩ rfl rfl hl.1 rfl (lv_room (Nat.le_of_ble_eq_true rfl)) dX12_line_14 ⟨Nat.le_of_ble_eq_true rfl, Nat.le_of_ble_eq_true rfl⟩).run (fun r_7 hw_8 => ?_)
    rcases hw_8 with ⟨rfl, h_9, h_10⟩ | ⟨rfl, h_11⟩
    · skip
      refine lv_if_ne (tgt := 23) hx hb dX12_line_17 (by decide) (fun _ => ?_) (fun c_12 => absurd c_12 (by decide))
      refine lv_aload_n hx hb dX12_line_23 rfl (lv_at hl 0 rfl) ?_
      have hPc := hP.sub (ws' := [(zo14irriiiiiirriirrrrlriiii m0 th aS aI im ac sp en wg op aB aT se dn aG aO aN aD bv aY rn kd nu tv), (zaI aS cS 901 fS)]) [0, 1] rfl
      have hKc := hK.sub (tys' := [(cS, .int)]) [0] rfl
      refine vp_callSi (va_runV (As := []) (rest := []) ⟨hx, hb, hml, hown, hts⟩ (c_sight l dC dI m0 aS aI aB aT aG aO aN aD aY th im ac sp en wg op se dn rn kd nu tv bv cS fS cz (zh)) (cwV 0 hts gX12_line_X12_sight rfl rfl rfl hd_yX12_sight ⟨Nat.le_of_ble_eq_true rfl, Nat.le_of_ble_eq_true rfl⟩) ⟨fun a U g mk q => by obtain ⟨q0, qP, qK⟩ := q; exact ⟨q0, qP, va_K.moved (u := U) (U := U.calling g mk a) (Vm.Alike.refl U.vm) qK⟩, va_recv hK hP (ci := 14) (q := (RX12, TX12, 23)) (q0 := 0) rfl rfl, fun U hU hW => ⟨rfl, by rw [hU]; exact hPc, va_K.moved hW.alike hKc⟩⟩ rfl rfl hl.1 rfl (lv_room (Nat.le_of_ble_eq_true rfl)) dX12_line_24 ⟨Nat.le_of_ble_eq_true rfl, Nat.le_of_ble_eq_true rfl⟩).run (fun r_13 hw_14 => ?_)
      obtain rfl := hw_14
      refine lv_aload_n hx hb dX12_line_27 rfl (lv_at hl 0 rfl) ?_
      refine va_get (D := (dC, dI)) (ci := 14) (v := .ref aS) (C := RX12) (T := TX12) (N := 23) hx hb hts kc_mLine_0 hown hK hP 0 rfl rfl 1 (by decide) (hts (.fieldLink RX12 9 "MistHeapsModel" "s" "[I") kc_mLine_1) (fun _ h9 => h9) rfl dX12_line_28 ?_
      refine lv_bipush (v := 6) hx hb dX12_line_31 (by decide) ?_
      refine va_iald hx hb hK hP 1 0 rfl rfl (vp_in_nI (n := 6) (N := 901) (by omega) (by omega)) dX12_line_33 ?_
      refine qi_as (y := fS 6) (rfl) ?_
      have J34 : ∀ v_15 : Int32, (v_15 = lnE (sgC cz) (fS 6)) → W p l e ({ frames := 2, cells := 0, slots := 0, locals := 43 } : Room) s m args below meth c s.heap [] 0 0 Q (F0 m 53 ls [.int v_15]) := by
        intro v_15 hv_16
        subst hv_16
        refine lv_istore_n (lv' := [(3, .int (lnE (sgC cz) (fS 6))), (0, .ref m0), (1, .int (nI j_3)), (2, .int y)]) hx hb dX12_line_53 rfl hl (by decide) rfl (fun ls hl => ?_)
        obtain ⟨G9, hG9⟩ : ∃ G : Nat → Int32, G = lnB (fun k => apR (fS (28 + k)) (fS (28 + j_3))) j_3 ((y - 1) * lnE (sgC cz) (fS 6)) := ⟨_, rfl⟩
        refine lv_iconst (v := 0) hx hb dX12_line_54 (by decide) ?_
        refine lv_istore (lv' := [(4, .int 0), (3, .int (lnE (sgC cz) (fS 6))), (0, .ref m0), (1, .int (nI j_3)), (2, .int y)]) hx hb dX12_line_55 hl (by decide) rfl (fun ls hl => ?_)
        refine lv_iconst (v := 0) hx hb dX12_line_57 (by decide) ?_
        refine lv_istore (lv' := [(5, .int 0), (4, .int 0), (3, .int (lnE (sgC cz) (fS 6))), (0, .ref m0), (1, .int (nI j_3)), (2, .int y)]) hx hb dX12_line_58 hl (by decide) rfl (fun ls hl => ?_)
        have L60 : ∀ (nF : Nat) (i : Nat) (q : Int32), n - i < nF → (i ≤ n) → (q = G9 i) → ∀ (ls : Array Slot), lv_has ls 6 [(0, .ref m0), (1, .int (nI j_3)), (2, .int y), (3, .int (lnE (sgC cz) (fS 6))), (4, .int q), (5, .int (nI i))] → W p l e ({ frames := 2, cells := 0, slots := 0, locals := 43 } : Room) s m args below meth c s.heap [] 0 0 Q (F0 m 60 ls []) := by
          intro nF
          induction nF with
          | zero => intro i q hm; exact absurd hm (Nat.not_lt_zero _)
          | succ nF ih60 =>
            intro i q hm hi hq9 ls hl
            refine lv_iload hx hb dX12_line_60 (lv_at hl 5 rfl) ?_
            refine lv_aload_n hx hb dX12_line_62 rfl (lv_at hl 0 rfl) ?_
            refine va_get (D := (dC, dI)) (ci := 14) (v := .ref aS) (C := RX12) (T := TX12) (N := 23) hx hb hts kc_mLine_0 hown hK hP 0 rfl rfl 1 (by decide) (hts (.fieldLink RX12 9 "MistHeapsModel" "s" "[I") kc_mLine_1) (fun _ h9 => h9) rfl dX12_line_63 ?_
            refine lv_iconst (v := 0) hx hb dX12_line_66 (by decide) ?_
            refine va_iald hx hb hK hP 1 0 rfl rfl (vp_in_nI (n := 0) (N := 901) (by omega) (by omega)) dX12_line_67 ?_
            refine qi_as (y := nI n) ((show fS (0 : Int32).toNatClampNeg = fS 0 from rfl).trans (zn)) ?_
            refine lv_icmp_ge (tgt := 126) hx hb dX12_line_68 (by decide) (fun c_17 => ?_) (fun c_17 => ?_)
            · skip
              have c_17 : n ≤ i := (nI_leI (a := n) (b := i) (by omega) (by omega)).mp c_17
              refine lv_iload hx hb dX12_line_126 (lv_at hl 4 rfl) ?_
              rw [hQ]
              exact W.iret (v := q) hx hb hr (fun tQ htQ hWQ => ⟨q, rfl, ln_m hn (by omega) (by assumption) (by assumption) zc zmi hG9 hq9 (by omega), by rw [htQ]⟩) (fun q hq => absurd hq List.not_mem_nil) dX12_line_128
            · skip
              have c_17 : ¬ n ≤ i := fun q => c_17 ((nI_leI (a := n) (b := i) (by omega) (by omega)).mpr q)
              refine lv_iload hx hb dX12_line_71 (lv_at hl 4 rfl) ?_
              refine lv_iload hx hb dX12_line_73 (lv_at hl 5 rfl) ?_
              refine lv_iload_n hx hb dX12_line_75 rfl (lv_at hl 1 rfl) ?_
              refine lv_icmp_eq (tgt := 116) hx hb dX12_line_76 (by decide) (fun c_18 => ?_) (fun c_18 => ?_)
              · skip
                have c_18 : i = j_3 := (nI_eq (a := i) (b := j_3) (by omega) (by omega)).mp c_18
                refine lv_iconst (v := 0) hx hb dX12_line_116 (by decide) ?_
                refine lv_ior hx hb dX12_line_117 ?_
                refine lv_istore (lv' := [(4, .int (q ||| 0)), (0, .ref m0), (1, .int (nI j_3)), (2, .int y), (3, .int (lnE (sgC cz) (fS 6))), (5, .int (nI i))]) hx hb dX12_line_118 hl (by decide) rfl (fun ls hl => ?_)
                refine lv_iinc (v := nI (i + 1)) (lv' := [(5, .int (nI (i + 1))), (4, .int (q ||| 0)), (0, .ref m0), (1, .int (nI j_3)), (2, .int y), (3, .int (lnE (sgC cz) (fS 6)))]) hx hb dX12_line_120 hl (k := 5) rfl (nI_add i 1) (by decide) rfl (fun ls hl => ?_)
                refine lv_goto (tgt := 60) hx hb dX12_line_123 (by decide) ?_
                exact ih60 (i + 1) (q ||| 0) (by omega) (by omega) (ln_s0 hG9 hq9 (Or.inl (by omega))) ls (lv_sub hl [2, 3, 4, 5, 1, 0] rfl)
              · skip
                have c_18 : ¬ i = j_3 := fun q => c_18 ((nI_eq (a := i) (b := j_3) (by omega) (by omega)).mpr q)
                refine lv_aload_n hx hb dX12_line_79 rfl (lv_at hl 0 rfl) ?_
                refine va_get (D := (dC, dI)) (ci := 14) (v := .ref aS) (C := RX12) (T := TX12) (N := 23) hx hb hts kc_mLine_0 hown hK hP 0 rfl rfl 1 (by decide) (hts (.fieldLink RX12 9 "MistHeapsModel" "s" "[I") kc_mLine_1) (fun _ h9 => h9) rfl dX12_line_80 ?_
                refine lv_bipush (v := 28) hx hb dX12_line_83 (by decide) ?_
                refine lv_iload hx hb dX12_line_85 (lv_at hl 5 rfl) ?_
                refine lv_iadd hx hb dX12_line_87 ?_
                refine qi_as (y := nI (28 + i)) (nI_add 28 i) ?_
                refine va_iald hx hb hK hP 1 0 rfl rfl (vp_in_nI (n := 28 + i) (N := 901) (by omega) (by omega)) dX12_line_88 ?_
                refine qi_as (y := fS (28 + i)) (by rw [nI_clamp (by omega)]) ?_
                refine lv_aload_n hx hb dX12_line_89 rfl (lv_at hl 0 rfl) ?_
                refine va_get (D := (dC, dI)) (ci := 14) (v := .ref aS) (C := RX12) (T := TX12) (N := 23) hx hb hts kc_mLine_0 hown hK hP 0 rfl rfl 1 (by decide) (hts (.fieldLink RX12 9 "MistHeapsModel" "s" "[I") kc_mLine_1) (fun _ h9 => h9) rfl dX12_line_90 ?_
                refine lv_bipush (v := 28) hx hb dX12_line_93 (by decide) ?_
                refine lv_iload_n hx hb dX12_line_95 rfl (lv_at hl 1 rfl) ?_
                refine lv_iadd hx hb dX12_line_96 ?_
                refine qi_as (y := nI (28 + j_3)) (nI_add 28 j_3) ?_
                refine va_iald hx hb hK hP 1 0 rfl rfl (vp_in_nI (n := 28 + j_3) (N := 901) (by omega) (by omega)) dX12_line_97 ?_
                refine qi_as (y := fS (28 + j_3)) (by rw [nI_clamp (by omega)]) ?_
                refine vp_callSi (va_runS (As := [.int (fS (28 + i)), .int (fS (28 + j_3))]) (rest := [.int q]) ⟨hx, hb, hml, hown, hts⟩ (c_apart l dC dI (fS (28 + i)) (fS (28 + j_3))) (va_cwS 2 hts gX12_line_X12_apart rfl rfl rfl hd_yX12_apart.2 ⟨Nat.le_of_ble_eq_true rfl, Nat.le_of_ble_eq_true rfl⟩) ⟨fun a U g mk q => ⟨q.1, trivial⟩, fun U hU hW => ⟨rfl, trivial⟩⟩ rfl rfl hl.1 rfl (lv_room (Nat.le_of_ble_eq_true rfl)) dX12_line_98 ⟨Nat.le_of_ble_eq_true rfl, Nat.le_of_ble_eq_true rfl⟩).run (fun r_19 hw_20 => ?_)
                obtain rfl := hw_20
                refine lv_iload_n hx hb dX12_line_101 rfl (lv_at hl 2 rfl) ?_
                refine lv_iconst (v := 1) hx hb dX12_line_102 (by decide) ?_
                refine lv_isub hx hb dX12_line_103 ?_
                refine lv_iload_n hx hb dX12_line_104 rfl (lv_at hl 3 rfl) ?_
                refine lv_imul hx hb dX12_line_105 ?_
                refine lv_icmp_gt (tgt := 116) hx hb dX12_line_106 (by decide) (fun c_21 => ?_) (fun c_21 => ?_)
                · skip
                  refine lv_iconst (v := 0) hx hb dX12_line_116 (by decide) ?_
                  refine lv_ior hx hb dX12_line_117 ?_
                  refine lv_istore (lv' := [(4, .int (q ||| 0)), (0, .ref m0), (1, .int (nI j_3)), (2, .int y), (3, .int (lnE (sgC cz) (fS 6))), (5, .int (nI i))]) hx hb dX12_line_118 hl (by decide) rfl (fun ls hl => ?_)
                  refine lv_iinc (v := nI (i + 1)) (lv' := [(5, .int (nI (i + 1))), (4, .int (q ||| 0)), (0, .ref m0), (1, .int (nI j_3)), (2, .int y), (3, .int (lnE (sgC cz) (fS 6)))]) hx hb dX12_line_120 hl (k := 5) rfl (nI_add i 1) (by decide) rfl (fun ls hl => ?_)
                  refine lv_goto (tgt := 60) hx hb dX12_line_123 (by decide) ?_
                  exact ih60 (i + 1) (q ||| 0) (by omega) (by omega) (ln_s0 hG9 hq9 (Or.inr c_21)) ls (lv_sub hl [2, 3, 4, 5, 1, 0] rfl)
                · skip
                  refine lv_iconst (v := 1) hx hb dX12_line_109 (by decide) ?_
                  refine lv_iload hx hb dX12_line_110 (lv_at hl 5 rfl) ?_
                  refine lv_ishl hx hb dX12_line_112 ?_
                  refine lv_goto (tgt := 117) hx hb dX12_line_113 (by decide) ?_
                  refine lv_ior hx hb dX12_line_117 ?_
                  refine lv_istore (lv' := [(4, .int (q ||| (1 <<< ((nI i) &&& 31)))), (0, .ref m0), (1, .int (nI j_3)), (2, .int y), (3, .int (lnE (sgC cz) (fS 6))), (5, .int (nI i))]) hx hb dX12_line_118 hl (by decide) rfl (fun ls hl => ?_)
                  refine lv_iinc (v := nI (i + 1)) (lv' := [(5, .int (nI (i + 1))), (4, .int (q ||| (1 <<< ((nI i) &&& 31)))), (0, .ref m0), (1, .int (nI j_3)), (2, .int y), (3, .int (lnE (sgC cz) (fS 6)))]) hx hb dX12_line_120 hl (k := 5) rfl (nI_add i 1) (by decide) rfl (fun ls hl => ?_)
                  refine lv_goto (tgt := 60) hx hb dX12_line_123 (by decide) ?_
                  exact ih60 (i + 1) (q ||| (1 <<< ((nI i) &&& 31))) (by omega) (by omega) (ln_1 hG9 hq9 (by omega) c_21) ls (lv_sub hl [2, 3, 4, 5, 1, 0] rfl)
        exact L60 _ (0) (0) (Nat.lt_succ_self _) (by omega) (by rw [hG9]; rfl) ls (lv_sub hl [3, 4, 5, 2, 1, 0] rfl)
      refine lv_icmp_ge (tgt := 41) hx hb dX12_line_34 (by decide) (fun c_22 => ?_) (fun c_22 => ?_)
      · skip
        refine lv_aload_n hx hb dX12_line_41 rfl (lv_at hl 0 rfl) ?_
        have hPc := hP.sub (ws' := [(zo14irriiiiiirriirrrrlriiii m0 th aS aI im ac sp en wg op aB aT se dn aG aO aN aD bv aY rn kd nu tv), (zaI aS cS 901 fS)]) [0, 1] rfl
        have hKc := hK.sub (tys' := [(cS, .int)]) [0] rfl
        refine vp_callSi (va_runV (As := []) (rest := []) ⟨hx, hb, hml, hown, hts⟩ (c_sight l dC dI m0 aS aI aB aT aG aO aN aD aY th im ac sp en wg op se dn rn kd nu tv bv cS fS cz (zh)) (cwV 0 hts gX12_line_X12_sight rfl rfl rfl hd_yX12_sight ⟨Nat.le_of_ble_eq_true rfl, Nat.le_of_ble_eq_true rfl⟩) ⟨fun a U g mk q => by obtain ⟨q0, qP, qK⟩ := q; exact ⟨q0, qP, va_K.moved (u := U) (U := U.calling g mk a) (Vm.Alike.refl U.vm) qK⟩, va_recv hK hP (ci := 14) (q := (RX12, TX12, 23)) (q0 := 0) rfl rfl, fun U hU hW => ⟨rfl, by rw [hU]; exact hPc, va_K.moved hW.alike hKc⟩⟩ rfl rfl hl.1 rfl (lv_room (Nat.le_of_ble_eq_true rfl)) dX12_line_42 ⟨Nat.le_of_ble_eq_true rfl, Nat.le_of_ble_eq_true rfl⟩).run (fun r_23 hw_24 => ?_)
        obtain rfl := hw_24
        refine lv_aload_n hx hb dX12_line_45 rfl (lv_at hl 0 rfl) ?_
        refine va_get (D := (dC, dI)) (ci := 14) (v := .ref aS) (C := RX12) (T := TX12) (N := 23) hx hb hts kc_mLine_0 hown hK hP 0 rfl rfl 1 (by decide) (hts (.fieldLink RX12 9 "MistHeapsModel" "s" "[I") kc_mLine_1) (fun _ h9 => h9) rfl dX12_line_46 ?_
        refine lv_bipush (v := 6) hx hb dX12_line_49 (by decide) ?_
        refine va_iald hx hb hK hP 1 0 rfl rfl (vp_in_nI (n := 6) (N := 901) (by omega) (by omega)) dX12_line_51 ?_
        refine qi_as (y := fS 6) (rfl) ?_
        refine lv_isub hx hb dX12_line_52 ?_
        exact J34 ((nI (sgC cz)) - (fS 6)) (by first | exact (if_pos (by assumption)).symm | exact (if_neg (by assumption)).symm)
      · skip
        refine lv_iconst (v := 0) hx hb dX12_line_37 (by decide) ?_
        refine lv_goto (tgt := 53) hx hb dX12_line_38 (by decide) ?_
        exact J34 0 (by first | exact (if_pos (by assumption)).symm | exact (if_neg (by assumption)).symm)
    · skip
      refine lv_if_ne (tgt := 23) hx hb dX12_line_17 (by decide) (fun c_25 => absurd c_25 (by decide)) (fun _ => ?_)
      refine lv_bipush (v := (-2)) hx hb dX12_line_20 (by decide) ?_
      rw [hQ]
      exact W.iret (v := (-2)) hx hb hr (fun tQ htQ hWQ => ⟨(-2), rfl, ln_bad hn (by omega) (by assumption), by rw [htQ]⟩) (fun q hq => absurd hq List.not_mem_nil) dX12_line_22
  · skip
    refine lv_if_ne (tgt := 10) hx hb dX12_line_5 (by decide) (fun c_26 => absurd c_26 (by decide)) (fun _ => ?_)
    refine lv_iconst (v := (-1)) hx hb dX12_line_8 (by decide) ?_
    rw [hQ]
    exact W.iret (v := (-1)) hx hb hr (fun tQ htQ hWQ => ⟨(-1), rfl, ln_no (by assumption), by rw [htQ]⟩) (fun q hq => absurd hq List.not_mem_nil) dX12_line_9

theorem kc_mNext_0 : ∀ w ∈ wsX120, w ∈ wsX12_next := fun w h => List.mem_cons_of_mem _ (gin_wsX120 w h)
theorem kc_mNext_1 : (.fieldLink RX12 9 "MistHeapsModel" "s" "[I" : Cond) ∈ wsX12_next := kc_of 1141 rfl rfl rfl
set_option maxHeartbeats 4000000 in
set_option maxRecDepth 100000 in
theorem c_mNext (l : Launch) (dC : Nat → ClassId) (dI : Nat → Nat → Nat) (m0 aS aI aB aT aG aO aN aD aY : Nat) (th im ac sp en wg op se dn rn kd nu tv : Int32) (bv : Int64) (cS : ClassId) (fS : Nat → Int32) (n : Nat) (yc : Nat → Int32) (x y z : Int32) (zn : fS 0 = nI n) (hn : n ≤ 8) (zc : ∀ k, k < n → fS (28 + k) = yc k) : Met l yX12_next wsX12_next ({ frames := 2, cells := 0, slots := 0, locals := 43 } : Room) (va_Pc [.ref m0, .int x, .int y, .int z] (fun U => va_P (dC, dI) vwCl [(zo14irriiiiiirriirrrrlriiii m0 th aS aI im ac sp en wg op aB aT se dn aG aO aN aD bv aY rn kd nu tv), (zaI aS cS 901 fS)] U.heap ∧ va_K (dC, dI) vwCl [(cS, .int)] U)) (vp_Si (fun r => r = nxR n yc x y z)) 0 0 (fun _ => False) := by
  refine met_ofQ (cc := cX12_next) (maxL := 9) (ret := (some .int)) (by decide) rfl ?_
  intro p e s m args below meth c s₁ Q B hml hv hQ
  obtain ⟨rfl, hP, hK⟩ := hv
  have hx := B.exec
  have hb := B.bytes
  have hr := B.returns
  have hts := atoms_spec (ws := wsX12_next) B.pre
  have hown : s.vm.findClass RX12 = some m.cls := findClass_of_methodNamed B.named
  have hlocks := B.notSynchronized
  obtain ⟨A, hAe⟩ : ∃ A : Nat → Prop, A = fun _ => False := ⟨_, rfl⟩
  rw [← hAe] at hQ
  have hS : va_S A s.heap s.heap [] := va_S.rf
  have hl := lv_entry [.ref m0, .int x, .int y, .int z] (n := 9) (Nat.le_of_ble_eq_true rfl)
  rw [lg_entry_eq]
  generalize (lg_sl [.ref m0, .int x, .int y, .int z] ++ List.replicate (9 - (lg_sl [.ref m0, .int x, .int y, .int z]).length) Slot.unset).toArray = ls at hl ⊢
  generalize hag : ([.ref m0, .int x, .int y, .int z] : List Value).toArray = args at hts hQ ⊢
  have hl : lv_has ls 9 [(0, .ref m0), (1, .int x), (2, .int y), (3, .int z)] := hl
  refine lv_aload_n hx hb dX12_next_0 rfl (lv_at hl 0 rfl) ?_
  refine lv_iload_n hx hb dX12_next_1 rfl (lv_at hl 1 rfl) ?_
  have hPc := hP.sub (ws' := [(zo14irriiiiiirriirrrrlriiii m0 th aS aI im ac sp en wg op aB aT se dn aG aO aN aD bv aY rn kd nu tv), (zaI aS cS 901 fS)]) [0, 1] rfl
  have hKc := hK.sub (tys' := [(cS, .int)]) [0] rfl
  refine vp_callSi (va_runV (As := [.int x]) (rest := []) ⟨hx, hb, hml, hown, hts⟩ (c_isHeap l dC dI m0 aS aI aB aT aG aO aN aD aY th im ac sp en wg op se dn rn kd nu tv bv cS fS n x (zn) (hn)) (cwV 1 hts gX12_next_X12_isHeap rfl rfl rfl hd_yX12_isHeap ⟨Nat.le_of_ble_eq_true rfl, Nat.le_of_ble_eq_true rfl⟩) ⟨fun a U g mk q => by obtain ⟨q0, qP, qK⟩ := q; exact ⟨q0, qP, va_K.moved (u := U) (U := U.calling g mk a) (Vm.Alike.refl U.vm) qK⟩, va_recv hK hP (ci := 14) (q := (RX12, TX12, 23)) (q0 := 0) rfl rfl, fun U hU hW => ⟨rfl, by rw [hU]; exact hPc, va_K.moved hW.alike hKc⟩⟩ rfl rfl hl.1 rfl (lv_room (Nat.le_of_ble_eq_true rfl)) dX12_next_2 ⟨Nat.le_of_ble_eq_true rfl, Nat.le_of_ble_eq_true rfl⟩).run (fun r_1 hw_2 => ?_)
  rcases hw_2 with ⟨rfl, j_3, hj_4, rfl⟩ | ⟨rfl, h_5⟩
  · skip
    refine lv_if_eq (tgt := 24) hx hb dX12_next_5 (by decide) (fun c_6 => absurd c_6 (by decide)) (fun _ => ?_)
    refine lv_aload_n hx hb dX12_next_8 rfl (lv_at hl 0 rfl) ?_
    refine lv_iload_n hx hb dX12_next_9 rfl (lv_at hl 2 rfl) ?_
    have hPc := hP.sub (ws' := [(zo14irriiiiiirriirrrrlriiii m0 th aS aI im ac sp en wg op aB aT se dn aG aO aN aD bv aY rn kd nu tv), (zaI aS cS 901 fS)]) [0, 1] rfl
    have hKc := hK.sub (tys' := [(cS, .int)]) [0] rfl
    refine vp_callSi (va_runV (As := [.int y]) (rest := []) ⟨hx, hb, hml, hown, hts⟩ (c_isHeap l dC dI m0 aS aI aB aT aG aO aN aD aY th im ac sp en wg op se dn rn kd nu tv bv cS fS n y (zn) (hn)) (cwV 1 hts gX12_next_X12_isHeap rfl rfl rfl hd_yX12_isHeap ⟨Nat.le_of_ble_eq_true rfl, Nat.le_of_ble_eq_true rfl⟩) ⟨fun a U g mk q => by obtain ⟨q0, qP, qK⟩ := q; exact ⟨q0, qP, va_K.moved (u := U) (U := U.calling g mk a) (Vm.Alike.refl U.vm) qK⟩, va_recv hK hP (ci := 14) (q := (RX12, TX12, 23)) (q0 := 0) rfl rfl, fun U hU hW => ⟨rfl, by rw [hU]; exact hPc, va_K.moved hW.alike hKc⟩⟩ rfl rfl hl.1 rfl (lv_room (Nat.le_of_ble_eq_true rfl)) dX12_next_10 ⟨Nat.le_of_ble_eq_true rfl, Nat.le_of_ble_eq_true rfl⟩).run (fun r_7 hw_8 => ?_)
    rcases hw_8 with ⟨rfl, j_9, hj_10, rfl⟩ | ⟨rfl, h_11⟩
    · skip
      refine lv_if_eq (tgt := 24) hx hb dX12_next_13 (by decide) (fun c_12 => absurd c_12 (by decide)) (fun _ => ?_)
      refine lv_aload_n hx hb dX12_next_16 rfl (lv_at hl 0 rfl) ?_
      refine lv_iload_n hx hb dX12_next_17 rfl (lv_at hl 3 rfl) ?_
      have hPc := hP.sub (ws' := [(zo14irriiiiiirriirrrrlriiii m0 th aS aI im ac sp en wg op aB aT se dn aG aO aN aD bv aY rn kd nu tv), (zaI aS cS 901 fS)]) [0, 1] rfl
      have hKc := hK.sub (tys' := [(cS, .int)]) [0] rfl
      refine vp_callSi (va_runV (As := [.int z]) (rest := []) ⟨hx, hb, hml, hown, hts⟩ (c_isHeap l dC dI m0 aS aI aB aT aG aO aN aD aY th im ac sp en wg op se dn rn kd nu tv bv cS fS n z (zn) (hn)) (cwV 1 hts gX12_next_X12_isHeap rfl rfl rfl hd_yX12_isHeap ⟨Nat.le_of_ble_eq_true rfl, Nat.le_of_ble_eq_true rfl⟩) ⟨fun a U g mk q => by obtain ⟨q0, qP, qK⟩ := q; exact ⟨q0, qP, va_K.moved (u := U) (U := U.calling g mk a) (Vm.Alike.refl U.vm) qK⟩, va_recv hK hP (ci := 14) (q := (RX12, TX12, 23)) (q0 := 0) rfl rfl, fun U hU hW => ⟨rfl, by rw [hU]; exact hPc, va_K.moved hW.alike hKc⟩⟩ rfl rfl hl.1 rfl (lv_room (Nat.le_of_ble_eq_true rfl)) dX12_next_18 ⟨Nat.le_of_ble_eq_true rfl, Nat.le_of_ble_eq_true rfl⟩).run (fun r_13 hw_14 => ?_)
      rcases hw_14 with ⟨rfl, j_15, hj_16, rfl⟩ | ⟨rfl, h_17⟩
      · skip
        refine lv_if_ne (tgt := 26) hx hb dX12_next_21 (by decide) (fun _ => ?_) (fun c_18 => absurd c_18 (by decide))
        refine lv_aload_n hx hb dX12_next_26 rfl (lv_at hl 0 rfl) ?_
        refine va_get (D := (dC, dI)) (ci := 14) (v := .ref aS) (C := RX12) (T := TX12) (N := 23) hx hb hts kc_mNext_0 hown hK hP 0 rfl rfl 1 (by decide) (hts (.fieldLink RX12 9 "MistHeapsModel" "s" "[I") kc_mNext_1) (fun _ h9 => h9) rfl dX12_next_27 ?_
        refine lv_bipush (v := 28) hx hb dX12_next_30 (by decide) ?_
        refine lv_iload_n hx hb dX12_next_32 rfl (lv_at hl 1 rfl) ?_
        refine lv_iadd hx hb dX12_next_33 ?_
        refine qi_as (y := nI (28 + j_3)) (nI_add 28 j_3) ?_
        refine va_iald hx hb hK hP 1 0 rfl rfl (vp_in_nI (n := 28 + j_3) (N := 901) (by omega) (by omega)) dX12_next_34 ?_
        refine qi_as (y := yc j_3) ((show fS (nI (28 + j_3) : Int32).toNatClampNeg = fS (28 + j_3) from by rw [nI_clamp (by omega)]).trans (zc j_3 (by omega))) ?_
        refine lv_istore (lv' := [(4, .int (yc j_3)), (0, .ref m0), (1, .int (nI j_3)), (2, .int (nI j_9)), (3, .int (nI j_15))]) hx hb dX12_next_35 hl (by decide) rfl (fun ls hl => ?_)
        refine lv_aload_n hx hb dX12_next_37 rfl (lv_at hl 1 rfl) ?_
        refine va_get (D := (dC, dI)) (ci := 14) (v := .ref aS) (C := RX12) (T := TX12) (N := 23) hx hb hts kc_mNext_0 hown hK hP 0 rfl rfl 1 (by decide) (hts (.fieldLink RX12 9 "MistHeapsModel" "s" "[I") kc_mNext_1) (fun _ h9 => h9) rfl dX12_next_38 ?_
        refine lv_bipush (v := 28) hx hb dX12_next_41 (by decide) ?_
        refine lv_iload_n hx hb dX12_next_43 rfl (lv_at hl 3 rfl) ?_
        refine lv_iadd hx hb dX12_next_44 ?_
        refine qi_as (y := nI (28 + j_9)) (nI_add 28 j_9) ?_
        refine va_iald hx hb hK hP 1 0 rfl rfl (vp_in_nI (n := 28 + j_9) (N := 901) (by omega) (by omega)) dX12_next_45 ?_
        refine qi_as (y := yc j_9) ((show fS (nI (28 + j_9) : Int32).toNatClampNeg = fS (28 + j_9) from by rw [nI_clamp (by omega)]).trans (zc j_9 (by omega))) ?_
        refine lv_istore (lv' := [(5, .int (yc j_9)), (4, .int (yc j_3)), (0, .ref m0), (1, .int (nI j_3)), (2, .int (nI j_9)), (3, .int (nI j_15))]) hx hb dX12_next_46 hl (by decide) rfl (fun ls hl => ?_)
        refine lv_aload_n hx hb dX12_next_48 rfl (lv_at hl 2 rfl) ?_
        refine va_get (D := (dC, dI)) (ci := 14) (v := .ref aS) (C := RX12) (T := TX12) (N := 23) hx hb hts kc_mNext_0 hown hK hP 0 rfl rfl 1 (by decide) (hts (.fieldLink RX12 9 "MistHeapsModel" "s" "[I") kc_mNext_1) (fun _ h9 => h9) rfl dX12_next_49 ?_
        refine lv_bipush (v := 28) hx hb dX12_next_52 (by decide) ?_
        refine lv_iload_n hx hb dX12_next_54 rfl (lv_at hl 5 rfl) ?_
        refine lv_iadd hx hb dX12_next_55 ?_
        refine qi_as (y := nI (28 + j_15)) (nI_add 28 j_15) ?_
        refine va_iald hx hb hK hP 1 0 rfl rfl (vp_in_nI (n := 28 + j_15) (N := 901) (by omega) (by omega)) dX12_next_56 ?_
        refine qi_as (y := yc j_15) ((show fS (nI (28 + j_15) : Int32).toNatClampNeg = fS (28 + j_15) from by rw [nI_clamp (by omega)]).trans (zc j_15 (by omega))) ?_
        refine lv_istore (lv' := [(6, .int (yc j_15)), (5, .int (yc j_9)), (4, .int (yc j_3)), (0, .ref m0), (1, .int (nI j_3)), (2, .int (nI j_9)), (3, .int (nI j_15))]) hx hb dX12_next_57 hl (by decide) rfl (fun ls hl => ?_)
        refine lv_iconst (v := 3) hx hb dX12_next_59 (by decide) ?_
        refine lv_iload hx hb dX12_next_60 (lv_at hl 0 rfl) ?_
        refine lv_bipush (v := 6) hx hb dX12_next_62 (by decide) ?_
        refine lv_idiv hx hb dX12_next_64 (by decide) ?_
        refine lv_imul hx hb dX12_next_65 ?_
        refine lv_iconst (v := 3) hx hb dX12_next_66 (by decide) ?_
        refine lv_iload hx hb dX12_next_67 (lv_at hl 1 rfl) ?_
        refine lv_bipush (v := 6) hx hb dX12_next_69 (by decide) ?_
        refine lv_idiv hx hb dX12_next_71 (by decide) ?_
        refine lv_imul hx hb dX12_next_72 ?_
        refine lv_isub hx hb dX12_next_73 ?_
        refine lv_iload hx hb dX12_next_74 (lv_at hl 2 rfl) ?_
        refine lv_bipush (v := 6) hx hb dX12_next_76 (by decide) ?_
        refine lv_idiv hx hb dX12_next_78 (by decide) ?_
        refine lv_iadd hx hb dX12_next_79 ?_
        refine lv_istore (lv' := [(7, .int (((3 * ((yc j_15) / 6)) - (3 * ((yc j_9) / 6))) + ((yc j_3) / 6))), (6, .int (yc j_15)), (5, .int (yc j_9)), (4, .int (yc j_3)), (0, .ref m0), (1, .int (nI j_3)), (2, .int (nI j_9)), (3, .int (nI j_15))]) hx hb dX12_next_80 hl (by decide) rfl (fun ls hl => ?_)
        refine lv_iconst (v := 3) hx hb dX12_next_82 (by decide) ?_
        refine lv_iload hx hb dX12_next_83 (lv_at hl 1 rfl) ?_
        refine lv_bipush (v := 6) hx hb dX12_next_85 (by decide) ?_
        refine lv_irem hx hb dX12_next_87 (by decide) ?_
        refine lv_imul hx hb dX12_next_88 ?_
        refine lv_iconst (v := 3) hx hb dX12_next_89 (by decide) ?_
        refine lv_iload hx hb dX12_next_90 (lv_at hl 2 rfl) ?_
        refine lv_bipush (v := 6) hx hb dX12_next_92 (by decide) ?_
        refine lv_irem hx hb dX12_next_94 (by decide) ?_
        refine lv_imul hx hb dX12_next_95 ?_
        refine lv_isub hx hb dX12_next_96 ?_
        refine lv_iload hx hb dX12_next_97 (lv_at hl 3 rfl) ?_
        refine lv_bipush (v := 6) hx hb dX12_next_99 (by decide) ?_
        refine lv_irem hx hb dX12_next_101 (by decide) ?_
        refine lv_iadd hx hb dX12_next_102 ?_
        refine lv_istore (lv' := [(8, .int (((3 * ((yc j_15) - (yc j_15) / 6 * 6)) - (3 * ((yc j_9) - (yc j_9) / 6 * 6))) + ((yc j_3) - (yc j_3) / 6 * 6))), (7, .int (((3 * ((yc j_15) / 6)) - (3 * ((yc j_9) / 6))) + ((yc j_3) / 6))), (6, .int (yc j_15)), (5, .int (yc j_9)), (4, .int (yc j_3)), (0, .ref m0), (1, .int (nI j_3)), (2, .int (nI j_9)), (3, .int (nI j_15))]) hx hb dX12_next_103 hl (by decide) rfl (fun ls hl => ?_)
        refine lv_iload hx hb dX12_next_105 (lv_at hl 1 rfl) ?_
        refine lv_iconst (v := 0) hx hb dX12_next_107 (by decide) ?_
        refine lv_iconst (v := 5) hx hb dX12_next_108 (by decide) ?_
        refine vp_callSi (va_runS (As := [.int (((3 * ((yc j_15) / 6)) - (3 * ((yc j_9) / 6))) + ((yc j_3) / 6)), .int 0, .int 5]) (rest := []) ⟨hx, hb, hml, hown, hts⟩ (c_in l dC dI (((3 * ((yc j_15) / 6)) - (3 * ((yc j_9) / 6))) + ((yc j_3) / 6)) 0 5) (va_cwS 3 hts gX12_next_X12_in rfl rfl rfl hd_yX12_in.2 ⟨Nat.le_of_ble_eq_true rfl, Nat.le_of_ble_eq_true rfl⟩) ⟨fun a U g mk q => ⟨q.1, trivial⟩, fun U hU hW => ⟨rfl, trivial⟩⟩ rfl rfl hl.1 rfl (lv_room (Nat.le_of_ble_eq_true rfl)) dX12_next_109 ⟨Nat.le_of_ble_eq_true rfl, Nat.le_of_ble_eq_true rfl⟩).run (fun r_19 hw_20 => ?_)
        rcases hw_20 with ⟨rfl, h_21, h_22⟩ | ⟨rfl, h_23⟩
        · skip
          refine lv_if_eq (tgt := 136) hx hb dX12_next_112 (by decide) (fun c_24 => absurd c_24 (by decide)) (fun _ => ?_)
          refine lv_iload hx hb dX12_next_115 (lv_at hl 0 rfl) ?_
          refine lv_iconst (v := 0) hx hb dX12_next_117 (by decide) ?_
          refine lv_iconst (v := 5) hx hb dX12_next_118 (by decide) ?_
          refine vp_callSi (va_runS (As := [.int (((3 * ((yc j_15) - (yc j_15) / 6 * 6)) - (3 * ((yc j_9) - (yc j_9) / 6 * 6))) + ((yc j_3) - (yc j_3) / 6 * 6)), .int 0, .int 5]) (rest := []) ⟨hx, hb, hml, hown, hts⟩ (c_in l dC dI (((3 * ((yc j_15) - (yc j_15) / 6 * 6)) - (3 * ((yc j_9) - (yc j_9) / 6 * 6))) + ((yc j_3) - (yc j_3) / 6 * 6)) 0 5) (va_cwS 3 hts gX12_next_X12_in rfl rfl rfl hd_yX12_in.2 ⟨Nat.le_of_ble_eq_true rfl, Nat.le_of_ble_eq_true rfl⟩) ⟨fun a U g mk q => ⟨q.1, trivial⟩, fun U hU hW => ⟨rfl, trivial⟩⟩ rfl rfl hl.1 rfl (lv_room (Nat.le_of_ble_eq_true rfl)) dX12_next_119 ⟨Nat.le_of_ble_eq_true rfl, Nat.le_of_ble_eq_true rfl⟩).run (fun r_25 hw_26 => ?_)
          rcases hw_26 with ⟨rfl, h_27, h_28⟩ | ⟨rfl, h_29⟩
          · skip
            refine lv_if_eq (tgt := 136) hx hb dX12_next_122 (by decide) (fun c_30 => absurd c_30 (by decide)) (fun _ => ?_)
            refine lv_bipush (v := 6) hx hb dX12_next_125 (by decide) ?_
            refine lv_iload hx hb dX12_next_127 (lv_at hl 1 rfl) ?_
            refine lv_imul hx hb dX12_next_129 ?_
            refine lv_iload hx hb dX12_next_130 (lv_at hl 0 rfl) ?_
            refine lv_iadd hx hb dX12_next_132 ?_
            refine lv_goto (tgt := 138) hx hb dX12_next_133 (by decide) ?_
            rw [hQ]
            exact W.iret (v := (6 * (((3 * ((yc j_15) / 6)) - (3 * ((yc j_9) / 6))) + ((yc j_3) / 6))) + (((3 * ((yc j_15) - (yc j_15) / 6 * 6)) - (3 * ((yc j_9) - (yc j_9) / 6 * 6))) + ((yc j_3) - (yc j_3) / 6 * 6))) hx hb hr (fun tQ htQ hWQ => ⟨(6 * (((3 * ((yc j_15) / 6)) - (3 * ((yc j_9) / 6))) + ((yc j_3) / 6))) + (((3 * ((yc j_15) - (yc j_15) / 6 * 6)) - (3 * ((yc j_9) - (yc j_9) / 6 * 6))) + ((yc j_3) - (yc j_3) / 6 * 6)), rfl, (nx_in hn (by omega) (by omega) (by omega) (by assumption) (by assumption) (by assumption) (by assumption)), by rw [htQ]⟩) (fun q hq => absurd hq List.not_mem_nil) dX12_next_138
          · skip
            refine lv_if_eq (tgt := 136) hx hb dX12_next_122 (by decide) (fun _ => ?_) (fun c_31 => absurd c_31 (by decide))
            refine lv_bipush (v := (-5)) hx hb dX12_next_136 (by decide) ?_
            rw [hQ]
            exact W.iret (v := (-5)) hx hb hr (fun tQ htQ hWQ => ⟨(-5), rfl, (nx_off hn (by omega) (by omega) (by omega) (by first | exact Or.inl (by assumption) | exact Or.inr (by assumption))), by rw [htQ]⟩) (fun q hq => absurd hq List.not_mem_nil) dX12_next_138
        · skip
          refine lv_if_eq (tgt := 136) hx hb dX12_next_112 (by decide) (fun _ => ?_) (fun c_32 => absurd c_32 (by decide))
          refine lv_bipush (v := (-5)) hx hb dX12_next_136 (by decide) ?_
          rw [hQ]
          exact W.iret (v := (-5)) hx hb hr (fun tQ htQ hWQ => ⟨(-5), rfl, (nx_off hn (by omega) (by omega) (by omega) (by first | exact Or.inl (by assumption) | exact Or.inr (by assumption))), by rw [htQ]⟩) (fun q hq => absurd hq List.not_mem_nil) dX12_next_138
      · skip
        refine lv_if_ne (tgt := 26) hx hb dX12_next_21 (by decide) (fun c_33 => absurd c_33 (by decide)) (fun _ => ?_)
        refine lv_iconst (v := (-1)) hx hb dX12_next_24 (by decide) ?_
        rw [hQ]
        exact W.iret (v := (-1)) hx hb hr (fun tQ htQ hWQ => ⟨(-1), rfl, by first | exact nx_no1 (by assumption) | exact nx_no2 (by assumption) | exact nx_no3 (by assumption), by rw [htQ]⟩) (fun q hq => absurd hq List.not_mem_nil) dX12_next_25
    · skip
      refine lv_if_eq (tgt := 24) hx hb dX12_next_13 (by decide) (fun _ => ?_) (fun c_34 => absurd c_34 (by decide))
      refine lv_iconst (v := (-1)) hx hb dX12_next_24 (by decide) ?_
      rw [hQ]
      exact W.iret (v := (-1)) hx hb hr (fun tQ htQ hWQ => ⟨(-1), rfl, by first | exact nx_no1 (by assumption) | exact nx_no2 (by assumption) | exact nx_no3 (by assumption), by rw [htQ]⟩) (fun q hq => absurd hq List.not_mem_nil) dX12_next_25
  · skip
    refine lv_if_eq (tgt := 24) hx hb dX12_next_5 (by decide) (fun _ => ?_) (fun c_35 => absurd c_35 (by decide))
    refine lv_iconst (v := (-1)) hx hb dX12_next_24 (by decide) ?_
    rw [hQ]
    exact W.iret (v := (-1)) hx hb hr (fun tQ htQ hWQ => ⟨(-1), rfl, by first | exact nx_no1 (by assumption) | exact nx_no2 (by assumption) | exact nx_no3 (by assumption), by rw [htQ]⟩) (fun q hq => absurd hq List.not_mem_nil) dX12_next_25

theorem kc_mLooked_0 : ∀ w ∈ wsX120, w ∈ wsX12_looked := fun w h => List.mem_cons_of_mem _ (gin_wsX120 w h)
theorem kc_mLooked_1 : (.fieldLink RX12 9 "MistHeapsModel" "s" "[I" : Cond) ∈ wsX12_looked := kc_of 1141 rfl rfl rfl
set_option maxHeartbeats 4000000 in
set_option maxRecDepth 100000 in
theorem c_mLooked (l : Launch) (dC : Nat → ClassId) (dI : Nat → Nat → Nat) (m0 aS aI aB aT aG aO aN aD aY : Nat) (th im ac sp en wg op se dn rn kd nu tv : Int32) (bv : Int64) (cS cB cT : ClassId) (fS : Nat → Int32) (fB : Nat → Int32) (fT : Nat → Int32) (kb : Nat) (cz : List pCla) (sz : Nat) (zh : hol fS cz) (zk : fS 3 = nI kb) (hk12 : kb ≤ 12) (zb : ∀ i, i < 12 → ∃ j : Nat, j < 8 ∧ fS (79 + i) = nI j) : Met l yX12_looked wsX12_looked ({ frames := 4, cells := 0, slots := 0, locals := 103 } : Room) (va_Pc [.ref m0] (fun U => U.heap.size = sz ∧ va_P (dC, dI) vwCl [(zo14irriiiiiirriirrrrlriiii m0 th aS aI im ac sp en wg op aB aT se dn aG aO aN aD bv aY rn kd nu tv), (zaI aS cS 901 fS), (zaI aB cB 6 fB), (zaI aT cT 64 fT)] U.heap ∧ va_K (dC, dI) vwCl [(cS, .int), (cB, .int), (cT, .boolean)] U ∧ va_D (fun _ => True) [(zo14irriiiiiirriirrrrlriiii m0 th aS aI im ac sp en wg op aB aT se dn aG aO aN aD bv aY rn kd nu tv), (zaI aS cS 901 fS), (zaI aB cB 6 fB), (zaI aT cT 64 fT)])) (va_Qi (fun (r : Int32) (u : (Nat → Int32) × (Nat → Int32) × (Int32) × (Int32)) => match u with | (fB9, fT9, se9, dn9) => True) (fun (u : (Nat → Int32) × (Nat → Int32) × (Int32) × (Int32)) (t : State) => match u with | (fB9, fT9, se9, dn9) => va_P (dC, dI) vwCl [(zo14irriiiiiirriirrrrlriiii m0 th aS aI im ac sp en wg op aB aT se9 dn9 aG aO aN aD bv aY rn kd nu tv), (zaI aS cS 901 fS), (zaI aB cB 6 fB9), (zaI aT cT 64 fT9)] t.heap ∧ va_K (dC, dI) vwCl [(cS, .int), (cB, .int), (cT, .boolean)] t ∧ va_D (va_A [(zo14irriiiiiirriirrrrlriiii m0 th aS aI im ac sp en wg op aB aT se dn aG aO aN aD bv aY rn kd nu tv), (zaI aS cS 901 fS), (zaI aB cB 6 fB), (zaI aT cT 64 fT)] sz) [(zo14irriiiiiirriirrrrlriiii m0 th aS aI im ac sp en wg op aB aT se9 dn9 aG aO aN aD bv aY rn kd nu tv), (zaI aS cS 901 fS), (zaI aB cB 6 fB9), (zaI aT cT 64 fT9)]) (va_A [(zo14irriiiiiirriirrrrlriiii m0 th aS aI im ac sp en wg op aB aT se dn aG aO aN aD bv aY rn kd nu tv), (zaI aS cS 901 fS), (zaI aB cB 6 fB), (zaI aT cT 64 fT)] sz)) 0 0 (va_A [(zo14irriiiiiirriirrrrlriiii m0 th aS aI im ac sp en wg op aB aT se dn aG aO aN aD bv aY rn kd nu tv), (zaI aS cS 901 fS), (zaI aB cB 6 fB), (zaI aT cT 64 fT)] sz) := by
  refine met_ofQ (cc := cX12_looked) (maxL := 2) (ret := (some .int)) (by decide) rfl ?_
  intro p e s m args below meth c s₁ Q B hml hv hQ
  obtain ⟨rfl, hsz, hP, hK, hD0⟩ := hv
  have hx := B.exec
  have hb := B.bytes
  have hr := B.returns
  have hts := atoms_spec (ws := wsX12_looked) B.pre
  have hown : s.vm.findClass RX12 = some m.cls := findClass_of_methodNamed B.named
  have hlocks := B.notSynchronized
  subst hsz
  have hD := hD0.self (sz := s.heap.size)
  generalize hAe : va_A [(zo14irriiiiiirriirrrrlriiii m0 th aS aI im ac sp en wg op aB aT se dn aG aO aN aD bv aY rn kd nu tv), (zaI aS cS 901 fS), (zaI aB cB 6 fB), (zaI aT cT 64 fT)] s.heap.size = A at hD hQ ⊢
  have hA : ∀ q : Nat, s.heap.size ≤ q → A q := fun q h => by rw [← hAe]; exact Or.inr h
  have hS : va_S A s.heap s.heap [] := va_S.rf
  have hl := lv_entry [.ref m0] (n := 2) (Nat.le_of_ble_eq_true rfl)
  rw [lg_entry_eq]
  generalize (lg_sl [.ref m0] ++ List.replicate (2 - (lg_sl [.ref m0]).length) Slot.unset).toArray = ls at hl ⊢
  generalize hag : ([.ref m0] : List Value).toArray = args at hts hQ ⊢
  have hl : lv_has ls 2 [(0, .ref m0)] := hl
  obtain ⟨H, hH⟩ : ∃ H : Heap, H = s.heap := ⟨_, rfl⟩
  rw [← hH] at hP
  rw [← hH]
  have hS : va_S A s.heap H [] := by rw [hH]; exact hS
  obtain ⟨locs, hlo⟩ : ∃ L : List Loc, L = [] := ⟨_, rfl⟩
  rw [← hlo] at hS
  rw [← hlo]
  clear hH hlo
  refine lv_iconst (v := 1) hx hb dX12_looked_0 (by decide) ?_
  refine lv_istore_n (lv' := [(1, .int 1), (0, .ref m0)]) hx hb dX12_looked_1 rfl hl (by decide) rfl (fun ls hl => ?_)
  have L2 : ∀ (nF : Nat) (i : Nat) (se2 : Int32) (dn2 : Int32) (fB2 : Nat → Int32) (fT2 : Nat → Int32), kb + 1 - i < nF → (1 ≤ i ∧ i ≤ kb + 1) → ∀ (H : Heap) (locs : List Loc), va_K (dC, dI) vwCl [(cS, .int), (cB, .int), (cT, .boolean)] s → va_P (dC, dI) vwCl [(zo14irriiiiiirriirrrrlriiii m0 th aS aI im ac sp en wg op aB aT se2 dn2 aG aO aN aD bv aY rn kd nu tv), (zaI aS cS 901 fS), (zaI aB cB 6 fB2), (zaI aT cT 64 fT2)] H → va_D A [(zo14irriiiiiirriirrrrlriiii m0 th aS aI im ac sp en wg op aB aT se2 dn2 aG aO aN aD bv aY rn kd nu tv), (zaI aS cS 901 fS), (zaI aB cB 6 fB2), (zaI aT cT 64 fT2)] → va_S A s.heap H locs → ∀ (ls : Array Slot), lv_has ls 2 [(0, .ref m0), (1, .int (nI i))] → W p l e ({ frames := 4, cells := 0, slots := 0, locals := 103 } : Room) s m args below meth c H locs 0 0 Q (F0 m 2 ls []) := by
    intro nF
    induction nF with
    | zero => intro i se2 dn2 fB2 fT2 hm; exact absurd hm (Nat.not_lt_zero _)
    | succ nF ih2 =>
      intro i se2 dn2 fB2 fT2 hm hi H locs hK hP hD hS ls hl
      obtain ⟨hi1, hi2⟩ := hi
      refine lv_iload_n hx hb dX12_looked_2 rfl (lv_at hl 1 rfl) ?_
      refine lv_aload_n hx hb dX12_looked_3 rfl (lv_at hl 0 rfl) ?_
      refine va_get (D := (dC, dI)) (ci := 14) (v := .ref aS) (C := RX12) (T := TX12) (N := 23) hx hb hts kc_mLooked_0 hown hK hP 0 rfl rfl 1 (by decide) (hts (.fieldLink RX12 9 "MistHeapsModel" "s" "[I") kc_mLooked_1) (fun _ h9 => h9) rfl dX12_looked_4 ?_
      refine lv_iconst (v := 3) hx hb dX12_looked_7 (by decide) ?_
      refine va_iald hx hb hK hP 1 0 rfl rfl (vp_in_nI (n := 3) (N := 901) (by omega) (by omega)) dX12_looked_8 ?_
      refine qi_as (y := nI kb) ((show fS (3 : Int32).toNatClampNeg = fS 3 from rfl).trans (zk)) ?_
      refine lv_icmp_ge (tgt := 47) hx hb dX12_looked_9 (by decide) (fun c_1 => ?_) (fun c_1 => ?_)
      · skip
        have c_1 : kb ≤ i := (nI_leI (a := kb) (b := i) (by omega) (by omega)).mp c_1
        refine lv_bipush (v := (-5)) hx hb dX12_looked_47 (by decide) ?_
        rw [hQ]
        have hP9 := hP.sub (ws' := [(zo14irriiiiiirriirrrrlriiii m0 th aS aI im ac sp en wg op aB aT se2 dn2 aG aO aN aD bv aY rn kd nu tv), (zaI aS cS 901 fS), (zaI aB cB 6 fB2), (zaI aT cT 64 fT2)]) [0, 1, 2, 3] rfl
        have hD9 := hD.sub (ws' := [(zo14irriiiiiirriirrrrlriiii m0 th aS aI im ac sp en wg op aB aT se2 dn2 aG aO aN aD bv aY rn kd nu tv), (zaI aS cS 901 fS), (zaI aB cB 6 fB2), (zaI aT cT 64 fT2)]) [0, 1, 2, 3] (by decide) rfl
        have hK9 := hK.sub (tys' := [(cS, .int), (cB, .int), (cT, .boolean)]) [0, 1, 2] rfl
        exact W.iret (v := (-5)) hx hb hr (fun tQ htQ hWQ => ⟨⟨(-5), (fB2, fT2, se2, dn2), rfl, trivial, by rw [htQ]; exact hP9, va_K.moved hWQ.alike hK9, hD9⟩, hS.F htQ⟩) hS.2.2 dX12_looked_49
      · skip
        have c_1 : ¬ kb ≤ i := fun q => c_1 ((nI_leI (a := kb) (b := i) (by omega) (by omega)).mpr q)
        refine lv_aload_n hx hb dX12_looked_12 rfl (lv_at hl 0 rfl) ?_
        refine lv_aload_n hx hb dX12_looked_13 rfl (lv_at hl 0 rfl) ?_
        refine va_get (D := (dC, dI)) (ci := 14) (v := .ref aS) (C := RX12) (T := TX12) (N := 23) hx hb hts kc_mLooked_0 hown hK hP 0 rfl rfl 1 (by decide) (hts (.fieldLink RX12 9 "MistHeapsModel" "s" "[I") kc_mLooked_1) (fun _ h9 => h9) rfl dX12_looked_14 ?_
        refine lv_bipush (v := 79) hx hb dX12_looked_17 (by decide) ?_
        refine lv_iload_n hx hb dX12_looked_19 rfl (lv_at hl 1 rfl) ?_
        refine lv_iadd hx hb dX12_looked_20 ?_
        refine qi_as (y := nI (79 + i)) (nI_add 79 i) ?_
        refine lv_iconst (v := 1) hx hb dX12_looked_21 (by decide) ?_
        refine lv_isub hx hb dX12_looked_22 ?_
        refine qi_as (y := nI ((79 + i) - 1)) (pk_sub (a := 79 + i) (b := 1) (by omega)) ?_
        refine va_iald hx hb hK hP 1 0 rfl rfl (vp_in_nI (n := (79 + i) - 1) (N := 901) (by omega) (by omega)) dX12_looked_23 ?_
        obtain ⟨j1, hj1, e1⟩ := zb (i - 1) (by omega)
        refine qi_as (y := nI j1) ((show fS (nI ((79 + i) - 1) : Int32).toNatClampNeg = fS ((79 + i) - 1) from by rw [nI_clamp (by omega)]).trans ((congrArg fS (show 79 + i - 1 = 79 + (i - 1) by omega)).trans e1)) ?_
        refine lv_aload_n hx hb dX12_looked_24 rfl (lv_at hl 0 rfl) ?_
        refine va_get (D := (dC, dI)) (ci := 14) (v := .ref aS) (C := RX12) (T := TX12) (N := 23) hx hb hts kc_mLooked_0 hown hK hP 0 rfl rfl 1 (by decide) (hts (.fieldLink RX12 9 "MistHeapsModel" "s" "[I") kc_mLooked_1) (fun _ h9 => h9) rfl dX12_looked_25 ?_
        refine lv_bipush (v := 79) hx hb dX12_looked_28 (by decide) ?_
        refine lv_iload_n hx hb dX12_looked_30 rfl (lv_at hl 1 rfl) ?_
        refine lv_iadd hx hb dX12_looked_31 ?_
        refine qi_as (y := nI (79 + i)) (nI_add 79 i) ?_
        refine va_iald hx hb hK hP 1 0 rfl rfl (vp_in_nI (n := 79 + i) (N := 901) (by omega) (by omega)) dX12_looked_32 ?_
        obtain ⟨j2, hj2, e2⟩ := zb i (by omega)
        refine qi_as (y := nI j2) ((show fS (nI (79 + i) : Int32).toNatClampNeg = fS (79 + i) from by rw [nI_clamp (by omega)]).trans (e2)) ?_
        have hPc := hP.sub (ws' := [(zo14irriiiiiirriirrrrlriiii m0 th aS aI im ac sp en wg op aB aT se2 dn2 aG aO aN aD bv aY rn kd nu tv), (zaI aS cS 901 fS), (zaI aB cB 6 fB2), (zaI aT cT 64 fT2)]) [0, 1, 2, 3] rfl
        have hDc := hD.sub (ws' := [(zo14irriiiiiirriirrrrlriiii m0 th aS aI im ac sp en wg op aB aT se2 dn2 aG aO aN aD bv aY rn kd nu tv), (zaI aS cS 901 fS), (zaI aB cB 6 fB2), (zaI aT cT 64 fT2)]) [0, 1, 2, 3] (by decide) rfl
        have hKc := hK.sub (tys' := [(cS, .int), (cB, .int), (cT, .boolean)]) [0, 1, 2] rfl
        have hFc := va_free (wc := [(zo14irriiiiiirriirrrrlriiii m0 th aS aI im ac sp en wg op aB aT se2 dn2 aG aO aN aD bv aY rn kd nu tv), (zaI aS cS 901 fS), (zaI aB cB 6 fB2), (zaI aT cT 64 fT2)]) hD hS hA [0, 1, 2, 3] rfl
        refine va_calli (va_runV (As := [.int (nI j1), .int (nI j2)]) (rest := []) ⟨hx, hb, hml, hown, hts⟩ (c_doesGo l dC dI m0 aS aI aB aT aG aO aN aD aY th im ac sp en wg op se2 dn2 rn kd nu tv bv cS cB cT fS fB2 fT2 j1 j2 cz H.size (by omega) (by omega) (zh)) (cwV 2 hts gX12_looked_X12_doesGo rfl rfl rfl hd_yX12_doesGo ⟨Nat.le_of_ble_eq_true rfl, Nat.le_of_ble_eq_true rfl⟩) ⟨fun a U g mk q => by obtain ⟨q0, q1, qP, qK, qD⟩ := q; exact ⟨q0, q1, qP, va_K.moved (u := U) (U := U.calling g mk a) (Vm.Alike.refl U.vm) qK, qD⟩, va_recv hK hP (ci := 14) (q := (RX12, TX12, 23)) (q0 := 0) rfl rfl, fun U hU hW => ⟨rfl, by rw [hU], by rw [hU]; exact hPc, va_K.moved hW.alike hKc, hDc.weaken (fun _ _ _ _ => trivial)⟩⟩ rfl rfl hl.1 rfl (lv_room (Nat.le_of_ble_eq_true rfl)) dX12_looked_33 ⟨Nat.le_of_ble_eq_true rfl, Nat.le_of_ble_eq_true rfl⟩) hS (fun q _ h => hFc q h) hFc (fun r_2 u tC H1 locs htC hvm hw_3 hB hz1 hk1 hS => ?_)
        obtain ⟨fB9_4, fT9_5, se9_6, dn9_7⟩ := u
        try dsimp only at hw_3 hB
        obtain ⟨hP1, hK1, hD1⟩ := hB
        rw [htC] at hP1
        have hK1 := va_K.moved hvm.symm hK1
        obtain ⟨hP, hD⟩ := va_join (wr := []) (w1 := [(zo14irriiiiiirriirrrrlriiii m0 th aS aI im ac sp en wg op aB aT se9_6 dn9_7 aG aO aN aD bv aY rn kd nu tv), (zaI aS cS 901 fS), (zaI aB cB 6 fB9_4), (zaI aT cT 64 fT9_5)]) hP hD [0, 1, 2, 3] [] rfl rfl (by decide) (by decide) hk1 hFc hP1 hD1
        have hK := (hK.sub (tys' := []) [] rfl).app hK1
        generalize H1 = H at hP hS ⊢
        have hP : va_P (dC, dI) vwCl [(zo14irriiiiiirriirrrrlriiii m0 th aS aI im ac sp en wg op aB aT se9_6 dn9_7 aG aO aN aD bv aY rn kd nu tv), (zaI aS cS 901 fS), (zaI aB cB 6 fB9_4), (zaI aT cT 64 fT9_5)] H := hP
        have hD : va_D A [(zo14irriiiiiirriirrrrlriiii m0 th aS aI im ac sp en wg op aB aT se9_6 dn9_7 aG aO aN aD bv aY rn kd nu tv), (zaI aS cS 901 fS), (zaI aB cB 6 fB9_4), (zaI aT cT 64 fT9_5)] := hD
        have hK : va_K (dC, dI) vwCl [(cS, .int), (cB, .int), (cT, .boolean)] s := hK
        rcases hw_3 with ⟨rfl, hd_8⟩ | ⟨rfl, hd_8⟩
        · skip
          refine lv_if_ne (tgt := 41) hx hb dX12_looked_36 (by decide) (fun _ => ?_) (fun c_9 => absurd c_9 (by decide))
          refine lv_iinc (v := nI (i + 1)) (lv' := [(1, .int (nI (i + 1))), (0, .ref m0)]) hx hb dX12_looked_41 hl (k := 1) rfl (nI_add i 1) (by decide) rfl (fun ls hl => ?_)
          refine lv_goto (tgt := 2) hx hb dX12_looked_44 (by decide) ?_
          exact ih2 (i + 1) _ _ _ _ (by omega) (by omega) _ _ (hK.sub [0, 1, 2] rfl) (hP.sub [0, 1, 2, 3] rfl) (hD.sub [0, 1, 2, 3] (by decide) rfl) hS ls (lv_sub hl [1, 0] rfl)
        · skip
          refine lv_if_ne (tgt := 41) hx hb dX12_looked_36 (by decide) (fun c_10 => absurd c_10 (by decide)) (fun _ => ?_)
          refine lv_iload_n hx hb dX12_looked_39 rfl (lv_at hl 1 rfl) ?_
          rw [hQ]
          have hP9 := hP.sub (ws' := [(zo14irriiiiiirriirrrrlriiii m0 th aS aI im ac sp en wg op aB aT se9_6 dn9_7 aG aO aN aD bv aY rn kd nu tv), (zaI aS cS 901 fS), (zaI aB cB 6 fB9_4), (zaI aT cT 64 fT9_5)]) [0, 1, 2, 3] rfl
          have hD9 := hD.sub (ws' := [(zo14irriiiiiirriirrrrlriiii m0 th aS aI im ac sp en wg op aB aT se9_6 dn9_7 aG aO aN aD bv aY rn kd nu tv), (zaI aS cS 901 fS), (zaI aB cB 6 fB9_4), (zaI aT cT 64 fT9_5)]) [0, 1, 2, 3] (by decide) rfl
          have hK9 := hK.sub (tys' := [(cS, .int), (cB, .int), (cT, .boolean)]) [0, 1, 2] rfl
          exact W.iret (v := nI i) hx hb hr (fun tQ htQ hWQ => ⟨⟨(nI i), (fB9_4, fT9_5, se9_6, dn9_7), rfl, trivial, by rw [htQ]; exact hP9, va_K.moved hWQ.alike hK9, hD9⟩, hS.F htQ⟩) hS.2.2 dX12_looked_40
  exact L2 _ (1) _ _ _ _ (Nat.lt_succ_self _) (by omega) _ _ (hK.sub [0, 1, 2] rfl) (hP.sub [0, 1, 2, 3] rfl) (hD.sub [0, 1, 2, 3] (by decide) rfl) hS ls (lv_sub hl [1, 0] rfl)

set_option maxHeartbeats 4000000 in
set_option maxRecDepth 100000 in
theorem c_under (l : Launch) (dC : Nat → ClassId) (dI : Nat → Nat → Nat) (x y : Int32) : Met l yX12_isUnder wsX12_isUnder ({ frames := 0, cells := 0, slots := 0, locals := 0 } : Room) (va_Pc [.int x, .int y] (fun U => True)) (vp_Si (fun r => (r = 1 ∧ isU x y) ∨ (r = 0 ∧ ¬ isU x y))) 0 0 (fun _ => False) := by
  refine met_ofQ (cc := cX12_isUnder) (maxL := 2) (ret := (some .boolean)) (by decide) rfl ?_
  intro p e s m args below meth c s₁ Q B hml hv hQ
  obtain ⟨rfl, -⟩ := hv
  have hx := B.exec
  have hb := B.bytes
  have hr := B.returns
  have hts := atoms_spec (ws := wsX12_isUnder) B.pre
  have hown : s.vm.findClass RX12 = some m.cls := findClass_of_methodNamed B.named
  have hlocks := B.notSynchronized
  obtain ⟨A, hAe⟩ : ∃ A : Nat → Prop, A = fun _ => False := ⟨_, rfl⟩
  rw [← hAe] at hQ
  have hS : va_S A s.heap s.heap [] := va_S.rf
  have hl := lv_entry [.int x, .int y] (n := 2) (Nat.le_of_ble_eq_true rfl)
  rw [lg_entry_eq]
  generalize (lg_sl [.int x, .int y] ++ List.replicate (2 - (lg_sl [.int x, .int y]).length) Slot.unset).toArray = ls at hl ⊢
  generalize hag : ([.int x, .int y] : List Value).toArray = args at hts hQ ⊢
  have hl : lv_has ls 2 [(0, .int x), (1, .int y)] := hl
  refine lv_iload_n hx hb dX12_isUnder_0 rfl (lv_at hl 1 rfl) ?_
  refine lv_if_eq (tgt := 25) hx hb dX12_isUnder_1 (by decide) (fun c_1 => ?_) (fun c_1 => ?_)
  · skip
    refine lv_iconst (v := 1) hx hb dX12_isUnder_25 (by decide) ?_
    refine lv_goto (tgt := 30) hx hb dX12_isUnder_26 (by decide) ?_
    rw [hQ]
    exact W.zret (v := 1) hx hb hr rfl (fun tQ htQ hWQ => ⟨1, rfl, Or.inl ⟨rfl, by first | exact Or.inl (by assumption) | exact Or.inr (Or.inl (by assumption)) | exact Or.inr (Or.inr (Or.inl ⟨rfl, by assumption⟩)) | exact Or.inr (Or.inr (Or.inr (Or.inl ⟨rfl, by assumption⟩))) | exact Or.inr (Or.inr (Or.inr (Or.inr ⟨rfl, by assumption⟩)))⟩, by rw [htQ]⟩) (fun q hq => absurd hq List.not_mem_nil) dX12_isUnder_30
  · skip
    refine lv_iload_n hx hb dX12_isUnder_4 rfl (lv_at hl 1 rfl) ?_
    refine lv_iload_n hx hb dX12_isUnder_5 rfl (lv_at hl 0 rfl) ?_
    refine lv_icmp_eq (tgt := 25) hx hb dX12_isUnder_6 (by decide) (fun c_2 => ?_) (fun c_2 => ?_)
    · skip
      refine lv_iconst (v := 1) hx hb dX12_isUnder_25 (by decide) ?_
      refine lv_goto (tgt := 30) hx hb dX12_isUnder_26 (by decide) ?_
      rw [hQ]
      exact W.zret (v := 1) hx hb hr rfl (fun tQ htQ hWQ => ⟨1, rfl, Or.inl ⟨rfl, by first | exact Or.inl (by assumption) | exact Or.inr (Or.inl (by assumption)) | exact Or.inr (Or.inr (Or.inl ⟨rfl, by assumption⟩)) | exact Or.inr (Or.inr (Or.inr (Or.inl ⟨rfl, by assumption⟩))) | exact Or.inr (Or.inr (Or.inr (Or.inr ⟨rfl, by assumption⟩)))⟩, by rw [htQ]⟩) (fun q hq => absurd hq List.not_mem_nil) dX12_isUnder_30
    · skip
      refine lv_iload_n hx hb dX12_isUnder_9 rfl (lv_at hl 1 rfl) ?_
      refine lv_if_le (tgt := 29) hx hb dX12_isUnder_10 (by decide) (fun c_3 => ?_) (fun c_3 => ?_)
      · skip
        refine lv_iconst (v := 0) hx hb dX12_isUnder_29 (by decide) ?_
        rw [hQ]
        exact W.zret (v := 0) hx hb hr rfl (fun tQ htQ hWQ => ⟨0, rfl, Or.inr ⟨rfl, by first | exact isU_a (by assumption) (by assumption) (by assumption) | exact isU_b (by assumption) (by assumption) (by assumption) | exact isU_1 (by assumption) (by assumption) | exact isU_2 (by assumption) (by assumption) | exact isU_3 (by assumption) (by assumption)⟩, by rw [htQ]⟩) (fun q hq => absurd hq List.not_mem_nil) dX12_isUnder_30
      · skip
        refine lv_iload_n hx hb dX12_isUnder_13 rfl (lv_at hl 1 rfl) ?_
        refine lv_iconst (v := 4) hx hb dX12_isUnder_14 (by decide) ?_
        refine lv_icmp_ge (tgt := 29) hx hb dX12_isUnder_15 (by decide) (fun c_4 => ?_) (fun c_4 => ?_)
        · skip
          refine lv_iconst (v := 0) hx hb dX12_isUnder_29 (by decide) ?_
          rw [hQ]
          exact W.zret (v := 0) hx hb hr rfl (fun tQ htQ hWQ => ⟨0, rfl, Or.inr ⟨rfl, by first | exact isU_a (by assumption) (by assumption) (by assumption) | exact isU_b (by assumption) (by assumption) (by assumption) | exact isU_1 (by assumption) (by assumption) | exact isU_2 (by assumption) (by assumption) | exact isU_3 (by assumption) (by assumption)⟩, by rw [htQ]⟩) (fun q hq => absurd hq List.not_mem_nil) dX12_isUnder_30
        · skip
          rcases one3b (y := y) (by assumption) (by assumption) with rfl | rfl | rfl
          · skip
            refine lv_iload_n hx hb dX12_isUnder_18 rfl (lv_at hl 0 rfl) ?_
            refine lv_iload_n hx hb dX12_isUnder_19 rfl (lv_at hl 1 rfl) ?_
            refine lv_iconst (v := 3) hx hb dX12_isUnder_20 (by decide) ?_
            refine lv_iadd hx hb dX12_isUnder_21 ?_
            refine qi_as (y := 4) (by decide) ?_
            refine lv_icmp_ne (tgt := 29) hx hb dX12_isUnder_22 (by decide) (fun c_5 => ?_) (fun c_5 => ?_)
            · skip
              refine lv_iconst (v := 0) hx hb dX12_isUnder_29 (by decide) ?_
              rw [hQ]
              exact W.zret (v := 0) hx hb hr rfl (fun tQ htQ hWQ => ⟨0, rfl, Or.inr ⟨rfl, by first | exact isU_a (by assumption) (by assumption) (by assumption) | exact isU_b (by assumption) (by assumption) (by assumption) | exact isU_1 (by assumption) (by assumption) | exact isU_2 (by assumption) (by assumption) | exact isU_3 (by assumption) (by assumption)⟩, by rw [htQ]⟩) (fun q hq => absurd hq List.not_mem_nil) dX12_isUnder_30
            · skip
              refine lv_iconst (v := 1) hx hb dX12_isUnder_25 (by decide) ?_
              refine lv_goto (tgt := 30) hx hb dX12_isUnder_26 (by decide) ?_
              rw [hQ]
              exact W.zret (v := 1) hx hb hr rfl (fun tQ htQ hWQ => ⟨1, rfl, Or.inl ⟨rfl, by first | exact Or.inl (by assumption) | exact Or.inr (Or.inl (by assumption)) | exact Or.inr (Or.inr (Or.inl ⟨rfl, by assumption⟩)) | exact Or.inr (Or.inr (Or.inr (Or.inl ⟨rfl, by assumption⟩))) | exact Or.inr (Or.inr (Or.inr (Or.inr ⟨rfl, by assumption⟩)))⟩, by rw [htQ]⟩) (fun q hq => absurd hq List.not_mem_nil) dX12_isUnder_30
          · skip
            refine lv_iload_n hx hb dX12_isUnder_18 rfl (lv_at hl 0 rfl) ?_
            refine lv_iload_n hx hb dX12_isUnder_19 rfl (lv_at hl 1 rfl) ?_
            refine lv_iconst (v := 3) hx hb dX12_isUnder_20 (by decide) ?_
            refine lv_iadd hx hb dX12_isUnder_21 ?_
            refine qi_as (y := 5) (by decide) ?_
            refine lv_icmp_ne (tgt := 29) hx hb dX12_isUnder_22 (by decide) (fun c_6 => ?_) (fun c_6 => ?_)
            · skip
              refine lv_iconst (v := 0) hx hb dX12_isUnder_29 (by decide) ?_
              rw [hQ]
              exact W.zret (v := 0) hx hb hr rfl (fun tQ htQ hWQ => ⟨0, rfl, Or.inr ⟨rfl, by first | exact isU_a (by assumption) (by assumption) (by assumption) | exact isU_b (by assumption) (by assumption) (by assumption) | exact isU_1 (by assumption) (by assumption) | exact isU_2 (by assumption) (by assumption) | exact isU_3 (by assumption) (by assumption)⟩, by rw [htQ]⟩) (fun q hq => absurd hq List.not_mem_nil) dX12_isUnder_30
            · skip
              refine lv_iconst (v := 1) hx hb dX12_isUnder_25 (by decide) ?_
              refine lv_goto (tgt := 30) hx hb dX12_isUnder_26 (by decide) ?_
              rw [hQ]
              exact W.zret (v := 1) hx hb hr rfl (fun tQ htQ hWQ => ⟨1, rfl, Or.inl ⟨rfl, by first | exact Or.inl (by assumption) | exact Or.inr (Or.inl (by assumption)) | exact Or.inr (Or.inr (Or.inl ⟨rfl, by assumption⟩)) | exact Or.inr (Or.inr (Or.inr (Or.inl ⟨rfl, by assumption⟩))) | exact Or.inr (Or.inr (Or.inr (Or.inr ⟨rfl, by assumption⟩)))⟩, by rw [htQ]⟩) (fun q hq => absurd hq List.not_mem_nil) dX12_isUnder_30
          · skip
            refine lv_iload_n hx hb dX12_isUnder_18 rfl (lv_at hl 0 rfl) ?_
            refine lv_iload_n hx hb dX12_isUnder_19 rfl (lv_at hl 1 rfl) ?_
            refine lv_iconst (v := 3) hx hb dX12_isUnder_20 (by decide) ?_
            refine lv_iadd hx hb dX12_isUnder_21 ?_
            refine qi_as (y := 6) (by decide) ?_
            refine lv_icmp_ne (tgt := 29) hx hb dX12_isUnder_22 (by decide) (fun c_7 => ?_) (fun c_7 => ?_)
            · skip
              refine lv_iconst (v := 0) hx hb dX12_isUnder_29 (by decide) ?_
              rw [hQ]
              exact W.zret (v := 0) hx hb hr rfl (fun tQ htQ hWQ => ⟨0, rfl, Or.inr ⟨rfl, by first | exact isU_a (by assumption) (by assumption) (by assumption) | exact isU_b (by assumption) (by assumption) (by assumption) | exact isU_1 (by assumption) (by assumption) | exact isU_2 (by assumption) (by assumption) | exact isU_3 (by assumption) (by assumption)⟩, by rw [htQ]⟩) (fun q hq => absurd hq List.not_mem_nil) dX12_isUnder_30
            · skip
              refine lv_iconst (v := 1) hx hb dX12_isUnder_25 (by decide) ?_
              refine lv_goto (tgt := 30) hx hb dX12_isUnder_26 (by decide) ?_
              rw [hQ]
              exact W.zret (v := 1) hx hb hr rfl (fun tQ htQ hWQ => ⟨1, rfl, Or.inl ⟨rfl, by first | exact Or.inl (by assumption) | exact Or.inr (Or.inl (by assumption)) | exact Or.inr (Or.inr (Or.inl ⟨rfl, by assumption⟩)) | exact Or.inr (Or.inr (Or.inr (Or.inl ⟨rfl, by assumption⟩))) | exact Or.inr (Or.inr (Or.inr (Or.inr ⟨rfl, by assumption⟩)))⟩, by rw [htQ]⟩) (fun q hq => absurd hq List.not_mem_nil) dX12_isUnder_30

theorem kc_mAs_0 : ∀ w ∈ wsX120, w ∈ wsX12_as := fun w h => List.mem_cons_of_mem _ (gin_wsX120 w h)
theorem kc_mAs_1 : (.fieldLink RX12 9 "MistHeapsModel" "s" "[I" : Cond) ∈ wsX12_as := kc_of 1141 rfl rfl rfl
set_option maxHeartbeats 4000000 in
set_option maxRecDepth 100000 in
theorem c_mAs (l : Launch) (dC : Nat → ClassId) (dI : Nat → Nat → Nat) (m0 aS aI aB aT aG aO aN aD aY : Nat) (th im ac sp en wg op se dn rn kd nu tv : Int32) (bv : Int64) (cS : ClassId) (fS : Nat → Int32) (n : Nat) (yk yv : Nat → Int32) (x y : Int32) (zn : fS 0 = nI n) (hn : n ≤ 8) (zkd : ∀ k, k < n → fS (10 + k) = yk k) (zvv : ∀ k, k < n → fS (19 + k) = yv k) : Met l yX12_as wsX12_as ({ frames := 2, cells := 0, slots := 0, locals := 43 } : Room) (va_Pc [.ref m0, .int x, .int y] (fun U => va_P (dC, dI) vwCl [(zo14irriiiiiirriirrrrlriiii m0 th aS aI im ac sp en wg op aB aT se dn aG aO aN aD bv aY rn kd nu tv), (zaI aS cS 901 fS)] U.heap ∧ va_K (dC, dI) vwCl [(cS, .int)] U)) (vp_Si (fun r => r = asR n yk yv x y)) 0 0 (fun _ => False) := by
  refine met_ofQ (cc := cX12_as) (maxL := 3) (ret := (some .int)) (by decide) rfl ?_
  intro p e s m args below meth c s₁ Q B hml hv hQ
  obtain ⟨rfl, hP, hK⟩ := hv
  have hx := B.exec
  have hb := B.bytes
  have hr := B.returns
  have hts := atoms_spec (ws := wsX12_as) B.pre
  have hown : s.vm.findClass RX12 = some m.cls := findClass_of_methodNamed B.named
  have hlocks := B.notSynchronized
  obtain ⟨A, hAe⟩ : ∃ A : Nat → Prop, A = fun _ => False := ⟨_, rfl⟩
  rw [← hAe] at hQ
  have hS : va_S A s.heap s.heap [] := va_S.rf
  have hl := lv_entry [.ref m0, .int x, .int y] (n := 3) (Nat.le_of_ble_eq_true rfl)
  rw [lg_entry_eq]
  generalize (lg_sl [.ref m0, .int x, .int y] ++ List.replicate (3 - (lg_sl [.ref m0, .int x, .int y]).length) Slot.unset).toArray = ls at hl ⊢
  generalize hag : ([.ref m0, .int x, .int y] : List Value).toArray = args at hts hQ ⊢
  have hl : lv_has ls 3 [(0, .ref m0), (1, .int x), (2, .int y)] := hl
  refine lv_aload_n hx hb dX12_as_0 rfl (lv_at hl 0 rfl) ?_
  refine lv_iload_n hx hb dX12_as_1 rfl (lv_at hl 1 rfl) ?_
  have hPc := hP.sub (ws' := [(zo14irriiiiiirriirrrrlriiii m0 th aS aI im ac sp en wg op aB aT se dn aG aO aN aD bv aY rn kd nu tv), (zaI aS cS 901 fS)]) [0, 1] rfl
  have hKc := hK.sub (tys' := [(cS, .int)]) [0] rfl
  refine vp_callSi (va_runV (As := [.int x]) (rest := []) ⟨hx, hb, hml, hown, hts⟩ (c_isHeap l dC dI m0 aS aI aB aT aG aO aN aD aY th im ac sp en wg op se dn rn kd nu tv bv cS fS n x (zn) (hn)) (cwV 1 hts gX12_as_X12_isHeap rfl rfl rfl hd_yX12_isHeap ⟨Nat.le_of_ble_eq_true rfl, Nat.le_of_ble_eq_true rfl⟩) ⟨fun a U g mk q => by obtain ⟨q0, qP, qK⟩ := q; exact ⟨q0, qP, va_K.moved (u := U) (U := U.calling g mk a) (Vm.Alike.refl U.vm) qK⟩, va_recv hK hP (ci := 14) (q := (RX12, TX12, 23)) (q0 := 0) rfl rfl, fun U hU hW => ⟨rfl, by rw [hU]; exact hPc, va_K.moved hW.alike hKc⟩⟩ rfl rfl hl.1 rfl (lv_room (Nat.le_of_ble_eq_true rfl)) dX12_as_2 ⟨Nat.le_of_ble_eq_true rfl, Nat.le_of_ble_eq_true rfl⟩).run (fun r_1 hw_2 => ?_)
  rcases hw_2 with ⟨rfl, j_3, hj_4, rfl⟩ | ⟨rfl, h_5⟩
  · skip
    refine lv_if_eq (tgt := 18) hx hb dX12_as_5 (by decide) (fun c_6 => absurd c_6 (by decide)) (fun _ => ?_)
    refine lv_iload_n hx hb dX12_as_8 rfl (lv_at hl 2 rfl) ?_
    refine lv_iconst (v := 0) hx hb dX12_as_9 (by decide) ?_
    refine lv_bipush (v := 6) hx hb dX12_as_10 (by decide) ?_
    refine vp_callSi (va_runS (As := [.int y, .int 0, .int 6]) (rest := []) ⟨hx, hb, hml, hown, hts⟩ (c_in l dC dI y 0 6) (va_cwS 3 hts gX12_as_X12_in rfl rfl rfl hd_yX12_in.2 ⟨Nat.le_of_ble_eq_true rfl, Nat.le_of_ble_eq_true rfl⟩) ⟨fun a U g mk q => ⟨q.1, trivial⟩, fun U hU hW => ⟨rfl, trivial⟩⟩ rfl rfl hl.1 rfl (lv_room (Nat.le_of_ble_eq_true rfl)) dX12_as_12 ⟨Nat.le_of_ble_eq_true rfl, Nat.le_of_ble_eq_true rfl⟩).run (fun r_7 hw_8 => ?_)
    rcases hw_8 with ⟨rfl, h_9, h_10⟩ | ⟨rfl, h_11⟩
    · skip
      refine lv_if_ne (tgt := 20) hx hb dX12_as_15 (by decide) (fun _ => ?_) (fun c_12 => absurd c_12 (by decide))
      refine lv_aload_n hx hb dX12_as_20 rfl (lv_at hl 0 rfl) ?_
      refine va_get (D := (dC, dI)) (ci := 14) (v := .ref aS) (C := RX12) (T := TX12) (N := 23) hx hb hts kc_mAs_0 hown hK hP 0 rfl rfl 1 (by decide) (hts (.fieldLink RX12 9 "MistHeapsModel" "s" "[I") kc_mAs_1) (fun _ h9 => h9) rfl dX12_as_21 ?_
      refine lv_bipush (v := 10) hx hb dX12_as_24 (by decide) ?_
      refine lv_iload_n hx hb dX12_as_26 rfl (lv_at hl 1 rfl) ?_
      refine lv_iadd hx hb dX12_as_27 ?_
      refine qi_as (y := nI (10 + j_3)) (nI_add 10 j_3) ?_
      refine va_iald hx hb hK hP 1 0 rfl rfl (vp_in_nI (n := 10 + j_3) (N := 901) (by omega) (by omega)) dX12_as_28 ?_
      refine qi_as (y := yk j_3) ((show fS (nI (10 + j_3) : Int32).toNatClampNeg = fS (10 + j_3) from by rw [nI_clamp (by omega)]).trans (zkd j_3 (by omega))) ?_
      refine lv_iload_n hx hb dX12_as_29 rfl (lv_at hl 2 rfl) ?_
      refine vp_callSi (va_runS (As := [.int (yk j_3), .int y]) (rest := []) ⟨hx, hb, hml, hown, hts⟩ (c_under l dC dI (yk j_3) y) (va_cwS 2 hts gX12_as_X12_isUnder rfl rfl rfl hd_yX12_isUnder.2 ⟨Nat.le_of_ble_eq_true rfl, Nat.le_of_ble_eq_true rfl⟩) ⟨fun a U g mk q => ⟨q.1, trivial⟩, fun U hU hW => ⟨rfl, trivial⟩⟩ rfl rfl hl.1 rfl (lv_room (Nat.le_of_ble_eq_true rfl)) dX12_as_30 ⟨Nat.le_of_ble_eq_true rfl, Nat.le_of_ble_eq_true rfl⟩).run (fun r_13 hw_14 => ?_)
      rcases hw_14 with ⟨rfl, hU_15⟩ | ⟨rfl, hU_15⟩
      · skip
        refine lv_if_eq (tgt := 48) hx hb dX12_as_33 (by decide) (fun c_16 => absurd c_16 (by decide)) (fun _ => ?_)
        refine lv_aload_n hx hb dX12_as_36 rfl (lv_at hl 0 rfl) ?_
        refine va_get (D := (dC, dI)) (ci := 14) (v := .ref aS) (C := RX12) (T := TX12) (N := 23) hx hb hts kc_mAs_0 hown hK hP 0 rfl rfl 1 (by decide) (hts (.fieldLink RX12 9 "MistHeapsModel" "s" "[I") kc_mAs_1) (fun _ h9 => h9) rfl dX12_as_37 ?_
        refine lv_bipush (v := 19) hx hb dX12_as_40 (by decide) ?_
        refine lv_iload_n hx hb dX12_as_42 rfl (lv_at hl 1 rfl) ?_
        refine lv_iadd hx hb dX12_as_43 ?_
        refine qi_as (y := nI (19 + j_3)) (nI_add 19 j_3) ?_
        refine va_iald hx hb hK hP 1 0 rfl rfl (vp_in_nI (n := 19 + j_3) (N := 901) (by omega) (by omega)) dX12_as_44 ?_
        refine qi_as (y := yv j_3) ((show fS (nI (19 + j_3) : Int32).toNatClampNeg = fS (19 + j_3) from by rw [nI_clamp (by omega)]).trans (zvv j_3 (by omega))) ?_
        refine lv_goto (tgt := 50) hx hb dX12_as_45 (by decide) ?_
        rw [hQ]
        exact W.iret (v := yv j_3) hx hb hr (fun tQ htQ hWQ => ⟨yv j_3, rfl, as_yes hn (by assumption) (by assumption) (by assumption) (by assumption), by rw [htQ]⟩) (fun q hq => absurd hq List.not_mem_nil) dX12_as_50
      · skip
        refine lv_if_eq (tgt := 48) hx hb dX12_as_33 (by decide) (fun _ => ?_) (fun c_17 => absurd c_17 (by decide))
        refine lv_bipush (v := (-6)) hx hb dX12_as_48 (by decide) ?_
        rw [hQ]
        exact W.iret (v := (-6)) hx hb hr (fun tQ htQ hWQ => ⟨(-6), rfl, as_not hn (by assumption) (by assumption) (by assumption) (by assumption), by rw [htQ]⟩) (fun q hq => absurd hq List.not_mem_nil) dX12_as_50
    · skip
      refine lv_if_ne (tgt := 20) hx hb dX12_as_15 (by decide) (fun c_18 => absurd c_18 (by decide)) (fun _ => ?_)
      refine lv_iconst (v := (-1)) hx hb dX12_as_18 (by decide) ?_
      rw [hQ]
      exact W.iret (v := (-1)) hx hb hr (fun tQ htQ hWQ => ⟨(-1), rfl, by first | exact as_no (by assumption) | exact as_bad hn (by assumption) (by assumption), by rw [htQ]⟩) (fun q hq => absurd hq List.not_mem_nil) dX12_as_19
  · skip
    refine lv_if_eq (tgt := 18) hx hb dX12_as_5 (by decide) (fun _ => ?_) (fun c_19 => absurd c_19 (by decide))
    refine lv_iconst (v := (-1)) hx hb dX12_as_18 (by decide) ?_
    rw [hQ]
    exact W.iret (v := (-1)) hx hb hr (fun tQ htQ hWQ => ⟨(-1), rfl, by first | exact as_no (by assumption) | exact as_bad hn (by assumption) (by assumption), by rw [htQ]⟩) (fun q hq => absurd hq List.not_mem_nil) dX12_as_19

theorem tr_of {x : Int32} {k : Nat} (hk : k ≤ 20) (h1 : ¬ x < 0) (h2 : ¬ nI k - 1 < x) : ∃ j : Nat, j < 20 ∧ x = nI j := by
  rcases isheap_of (n := k) (r := 1) (h := x) (by omega) (Or.inl ⟨rfl, h1, h2⟩) with ⟨_, j, hj, e⟩ | ⟨e, _⟩
  · exact ⟨j, by omega, e⟩
  · exact absurd e (by decide)

theorem kc_mTrace_0 : ∀ w ∈ wsX120, w ∈ wsX12_trace := fun w h => List.mem_cons_of_mem _ (gin_wsX120 w h)
theorem kc_mTrace_1 : (.fieldLink RX12 246 "MistHeapsModel" "ran" "I" : Cond) ∈ wsX12_trace := kc_of 1159 rfl rfl rfl
theorem kc_mTrace_2 : (.fieldLink RX12 38 "MistHeapsModel" "bodies" "[I" : Cond) ∈ wsX12_trace := kc_of 1158 rfl rfl rfl
set_option maxHeartbeats 4000000 in
set_option maxRecDepth 100000 in
theorem c_mTrace (l : Launch) (dC : Nat → ClassId) (dI : Nat → Nat → Nat) (m0 aS aI aB aT aG aO aN aD aY : Nat) (th im ac sp en wg op se dn rn kd nu tv : Int32) (bv : Int64) (cY : ClassId) (fY : Nat → Int32) (tl : List Nat) (x : Int32) (hq : tl.length ≤ 20) (zY : okY fY tl) : Met l yX12_trace wsX12_trace ({ frames := 1, cells := 0, slots := 0, locals := 22 } : Room) (va_Pc [.ref m0, .int x] (fun U => va_P (dC, dI) vwCl [(zo14irriiiiiirriirrrrlriiii m0 th aS aI im ac sp en wg op aB aT se dn aG aO aN aD bv aY (nI tl.length) kd nu tv), (zaI aY cY 20 fY)] U.heap ∧ va_K (dC, dI) vwCl [(cY, .int)] U)) (vp_Si (fun r => r = trR tl x)) 0 0 (fun _ => False) := by
  refine met_ofQ (cc := cX12_trace) (maxL := 2) (ret := (some .int)) (by decide) rfl ?_
  intro p e s m args below meth c s₁ Q B hml hv hQ
  obtain ⟨rfl, hP, hK⟩ := hv
  have hx := B.exec
  have hb := B.bytes
  have hr := B.returns
  have hts := atoms_spec (ws := wsX12_trace) B.pre
  have hown : s.vm.findClass RX12 = some m.cls := findClass_of_methodNamed B.named
  have hlocks := B.notSynchronized
  obtain ⟨A, hAe⟩ : ∃ A : Nat → Prop, A = fun _ => False := ⟨_, rfl⟩
  rw [← hAe] at hQ
  have hS : va_S A s.heap s.heap [] := va_S.rf
  have hl := lv_entry [.ref m0, .int x] (n := 2) (Nat.le_of_ble_eq_true rfl)
  rw [lg_entry_eq]
  generalize (lg_sl [.ref m0, .int x] ++ List.replicate (2 - (lg_sl [.ref m0, .int x]).length) Slot.unset).toArray = ls at hl ⊢
  generalize hag : ([.ref m0, .int x] : List Value).toArray = args at hts hQ ⊢
  have hl : lv_has ls 2 [(0, .ref m0), (1, .int x)] := hl
  refine lv_iload_n hx hb dX12_trace_0 rfl (lv_at hl 1 rfl) ?_
  refine lv_iconst (v := 0) hx hb dX12_trace_1 (by decide) ?_
  refine lv_aload_n hx hb dX12_trace_2 rfl (lv_at hl 0 rfl) ?_
  refine va_get (D := (dC, dI)) (ci := 14) (v := .int (nI tl.length)) (C := RX12) (T := TX12) (N := 23) hx hb hts kc_mTrace_0 hown hK hP 0 rfl rfl 19 (by decide) (hts (.fieldLink RX12 246 "MistHeapsModel" "ran" "I") kc_mTrace_1) (fun _ h9 => h9) rfl dX12_trace_3 ?_
  refine lv_bipush (v := 20) hx hb dX12_trace_6 (by decide) ?_
  refine lv_icmp_ge (tgt := 18) hx hb dX12_trace_8 (by decide) (fun c_1 => ?_) (fun c_1 => ?_)
  · skip
    have c_1 : 20 ≤ tl.length := (nI_leI (a := 20) (b := tl.length) (by omega) (by omega)).mp c_1
    refine lv_bipush (v := 20) hx hb dX12_trace_18 (by decide) ?_
    refine lv_iconst (v := 1) hx hb dX12_trace_20 (by decide) ?_
    refine lv_isub hx hb dX12_trace_21 ?_
    refine qi_as (y := 19) (by decide) ?_
    refine vp_callSi (va_runS (As := [.int x, .int 0, .int 19]) (rest := []) ⟨hx, hb, hml, hown, hts⟩ (c_in l dC dI x 0 (nI 20 - 1)) (va_cwS 3 hts gX12_trace_X12_in rfl rfl rfl hd_yX12_in.2 ⟨Nat.le_of_ble_eq_true rfl, Nat.le_of_ble_eq_true rfl⟩) ⟨fun a U g mk q => ⟨q.1, trivial⟩, fun U hU hW => ⟨rfl, trivial⟩⟩ rfl rfl hl.1 rfl (lv_room (Nat.le_of_ble_eq_true rfl)) dX12_trace_22 ⟨Nat.le_of_ble_eq_true rfl, Nat.le_of_ble_eq_true rfl⟩).run (fun r_2 hw_3 => ?_)
    rcases hw_3 with ⟨rfl, h_4, h_5⟩ | ⟨rfl, h_6⟩
    · skip
      obtain ⟨jt, hjt, rfl⟩ := trL_of (k := 20) (by omega) h_4 h_5
      refine lv_if_eq (tgt := 37) hx hb dX12_trace_25 (by decide) (fun c_7 => absurd c_7 (by decide)) (fun _ => ?_)
      refine lv_aload_n hx hb dX12_trace_28 rfl (lv_at hl 0 rfl) ?_
      refine va_get (D := (dC, dI)) (ci := 14) (v := .ref aY) (C := RX12) (T := TX12) (N := 23) hx hb hts kc_mTrace_0 hown hK hP 0 rfl rfl 18 (by decide) (hts (.fieldLink RX12 38 "MistHeapsModel" "bodies" "[I") kc_mTrace_2) (fun _ h9 => h9) rfl dX12_trace_29 ?_
      refine lv_iload_n hx hb dX12_trace_32 rfl (lv_at hl 1 rfl) ?_
      refine va_iald hx hb hK hP 1 0 rfl rfl (vp_in_nI (n := jt) (N := 20) (by omega) (by omega)) dX12_trace_33 ?_
      refine qi_as (y := nI (tl.getD jt 0)) ((show fY (nI jt : Int32).toNatClampNeg = fY jt from by rw [nI_clamp (by omega)]).trans (zY jt (by omega))) ?_
      refine lv_goto (tgt := 38) hx hb dX12_trace_34 (by decide) ?_
      rw [hQ]
      exact W.iret (v := nI (tl.getD jt 0)) hx hb hr (fun tQ htQ hWQ => ⟨nI (tl.getD jt 0), rfl, tr_yes (by omega) (by omega), by rw [htQ]⟩) (fun q hq => absurd hq List.not_mem_nil) dX12_trace_38
    · skip
      have hno := trL_no (k := 20) (by omega) h_6
      refine lv_if_eq (tgt := 37) hx hb dX12_trace_25 (by decide) (fun _ => ?_) (fun c_8 => absurd c_8 (by decide))
      refine lv_iconst (v := (-1)) hx hb dX12_trace_37 (by decide) ?_
      rw [hQ]
      exact W.iret (v := (-1)) hx hb hr (fun tQ htQ hWQ => ⟨(-1), rfl, tr_no (fun j hj => hno j (by omega)), by rw [htQ]⟩) (fun q hq => absurd hq List.not_mem_nil) dX12_trace_38
  · skip
    have c_1 : ¬ 20 ≤ tl.length := fun q => c_1 ((nI_leI (a := 20) (b := tl.length) (by omega) (by omega)).mpr q)
    refine lv_aload_n hx hb dX12_trace_11 rfl (lv_at hl 0 rfl) ?_
    refine va_get (D := (dC, dI)) (ci := 14) (v := .int (nI tl.length)) (C := RX12) (T := TX12) (N := 23) hx hb hts kc_mTrace_0 hown hK hP 0 rfl rfl 19 (by decide) (hts (.fieldLink RX12 246 "MistHeapsModel" "ran" "I") kc_mTrace_1) (fun _ h9 => h9) rfl dX12_trace_12 ?_
    refine lv_goto (tgt := 20) hx hb dX12_trace_15 (by decide) ?_
    refine lv_iconst (v := 1) hx hb dX12_trace_20 (by decide) ?_
    refine lv_isub hx hb dX12_trace_21 ?_
    refine vp_callSi (va_runS (As := [.int x, .int 0, .int ((nI tl.length) - 1)]) (rest := []) ⟨hx, hb, hml, hown, hts⟩ (c_in l dC dI x 0 ((nI tl.length) - 1)) (va_cwS 3 hts gX12_trace_X12_in rfl rfl rfl hd_yX12_in.2 ⟨Nat.le_of_ble_eq_true rfl, Nat.le_of_ble_eq_true rfl⟩) ⟨fun a U g mk q => ⟨q.1, trivial⟩, fun U hU hW => ⟨rfl, trivial⟩⟩ rfl rfl hl.1 rfl (lv_room (Nat.le_of_ble_eq_true rfl)) dX12_trace_22 ⟨Nat.le_of_ble_eq_true rfl, Nat.le_of_ble_eq_true rfl⟩).run (fun r_9 hw_10 => ?_)
    rcases hw_10 with ⟨rfl, h_11, h_12⟩ | ⟨rfl, h_13⟩
    · skip
      obtain ⟨jt, hjt, rfl⟩ := trL_of (k := tl.length) (by omega) h_11 h_12
      refine lv_if_eq (tgt := 37) hx hb dX12_trace_25 (by decide) (fun c_14 => absurd c_14 (by decide)) (fun _ => ?_)
      refine lv_aload_n hx hb dX12_trace_28 rfl (lv_at hl 0 rfl) ?_
      refine va_get (D := (dC, dI)) (ci := 14) (v := .ref aY) (C := RX12) (T := TX12) (N := 23) hx hb hts kc_mTrace_0 hown hK hP 0 rfl rfl 18 (by decide) (hts (.fieldLink RX12 38 "MistHeapsModel" "bodies" "[I") kc_mTrace_2) (fun _ h9 => h9) rfl dX12_trace_29 ?_
      refine lv_iload_n hx hb dX12_trace_32 rfl (lv_at hl 1 rfl) ?_
      refine va_iald hx hb hK hP 1 0 rfl rfl (vp_in_nI (n := jt) (N := 20) (by omega) (by omega)) dX12_trace_33 ?_
      refine qi_as (y := nI (tl.getD jt 0)) ((show fY (nI jt : Int32).toNatClampNeg = fY jt from by rw [nI_clamp (by omega)]).trans (zY jt (by omega))) ?_
      refine lv_goto (tgt := 38) hx hb dX12_trace_34 (by decide) ?_
      rw [hQ]
      exact W.iret (v := nI (tl.getD jt 0)) hx hb hr (fun tQ htQ hWQ => ⟨nI (tl.getD jt 0), rfl, tr_yes (by omega) (by omega), by rw [htQ]⟩) (fun q hq => absurd hq List.not_mem_nil) dX12_trace_38
    · skip
      have hno := trL_no (k := tl.length) (by omega) h_13
      refine lv_if_eq (tgt := 37) hx hb dX12_trace_25 (by decide) (fun _ => ?_) (fun c_15 => absurd c_15 (by decide))
      refine lv_iconst (v := (-1)) hx hb dX12_trace_37 (by decide) ?_
      rw [hQ]
      exact W.iret (v := (-1)) hx hb hr (fun tQ htQ hWQ => ⟨(-1), rfl, tr_no (fun j hj => hno j (by omega)), by rw [htQ]⟩) (fun q hq => absurd hq List.not_mem_nil) dX12_trace_38

theorem kc_ranBody_0 : ∀ w ∈ wsX120, w ∈ wsX12_ranBody := fun w h => List.mem_cons_of_mem _ (gin_wsX120 w h)
theorem kc_ranBody_1 : (.fieldLink RX12 246 "MistHeapsModel" "ran" "I" : Cond) ∈ wsX12_ranBody := kc_of 1159 rfl rfl rfl
theorem kc_ranBody_2 : (.fieldLink RX12 38 "MistHeapsModel" "bodies" "[I" : Cond) ∈ wsX12_ranBody := kc_of 1158 rfl rfl rfl
set_option maxHeartbeats 4000000 in
set_option maxRecDepth 100000 in
theorem c_ranBody (l : Launch) (dC : Nat → ClassId) (dI : Nat → Nat → Nat) (m0 aS aI aB aT aG aO aN aD aY : Nat) (th im ac sp en wg op se dn rn kd nu tv : Int32) (bv : Int64) (cY : ClassId) (fY : Nat → Int32) (tl : List Nat) (k : Nat) (sz : Nat) (hq : tl.length ≤ 19) (zY : okY fY tl) : Met l yX12_ranBody wsX12_ranBody ({ frames := 0, cells := 0, slots := 0, locals := 0 } : Room) (va_Pc [.ref m0, .int (nI k)] (fun U => U.heap.size = sz ∧ va_P (dC, dI) vwCl [(zo14irriiiiiirriirrrrlriiii m0 th aS aI im ac sp en wg op aB aT se dn aG aO aN aD bv aY (nI tl.length) kd nu tv), (zaI aY cY 20 fY)] U.heap ∧ va_K (dC, dI) vwCl [(cY, .int)] U ∧ va_D (fun _ => True) [(zo14irriiiiiirriirrrrlriiii m0 th aS aI im ac sp en wg op aB aT se dn aG aO aN aD bv aY (nI tl.length) kd nu tv), (zaI aY cY 20 fY)])) (va_Qv (fun (u : (Nat → Int32) × (Int32)) => match u with | (fY9, rn9) => rn9 = nI (tl ++ [k]).length ∧ okY fY9 (tl ++ [k])) (fun (u : (Nat → Int32) × (Int32)) (t : State) => match u with | (fY9, rn9) => va_P (dC, dI) vwCl [(zo14irriiiiiirriirrrrlriiii m0 th aS aI im ac sp en wg op aB aT se dn aG aO aN aD bv aY rn9 kd nu tv), (zaI aY cY 20 fY9)] t.heap ∧ va_K (dC, dI) vwCl [(cY, .int)] t ∧ va_D (va_A [(zo14irriiiiiirriirrrrlriiii m0 th aS aI im ac sp en wg op aB aT se dn aG aO aN aD bv aY (nI tl.length) kd nu tv), (zaI aY cY 20 fY)] sz) [(zo14irriiiiiirriirrrrlriiii m0 th aS aI im ac sp en wg op aB aT se dn aG aO aN aD bv aY rn9 kd nu tv), (zaI aY cY 20 fY9)]) (va_A [(zo14irriiiiiirriirrrrlriiii m0 th aS aI im ac sp en wg op aB aT se dn aG aO aN aD bv aY (nI tl.length) kd nu tv), (zaI aY cY 20 fY)] sz)) 0 0 (va_A [(zo14irriiiiiirriirrrrlriiii m0 th aS aI im ac sp en wg op aB aT se dn aG aO aN aD bv aY (nI tl.length) kd nu tv), (zaI aY cY 20 fY)] sz) := by
  refine met_ofQ (cc := cX12_ranBody) (maxL := 2) (ret := none) (by decide) rfl ?_
  intro p e s m args below meth c s₁ Q B hml hv hQ
  obtain ⟨rfl, hsz, hP, hK, hD0⟩ := hv
  have hx := B.exec
  have hb := B.bytes
  have hr := B.returns
  have hts := atoms_spec (ws := wsX12_ranBody) B.pre
  have hown : s.vm.findClass RX12 = some m.cls := findClass_of_methodNamed B.named
  have hlocks := B.notSynchronized
  subst hsz
  have hD := hD0.self (sz := s.heap.size)
  generalize hAe : va_A [(zo14irriiiiiirriirrrrlriiii m0 th aS aI im ac sp en wg op aB aT se dn aG aO aN aD bv aY (nI tl.length) kd nu tv), (zaI aY cY 20 fY)] s.heap.size = A at hD hQ ⊢
  have hA : ∀ q : Nat, s.heap.size ≤ q → A q := fun q h => by rw [← hAe]; exact Or.inr h
  have hS : va_S A s.heap s.heap [] := va_S.rf
  have hl := lv_entry [.ref m0, .int (nI k)] (n := 2) (Nat.le_of_ble_eq_true rfl)
  rw [lg_entry_eq]
  generalize (lg_sl [.ref m0, .int (nI k)] ++ List.replicate (2 - (lg_sl [.ref m0, .int (nI k)]).length) Slot.unset).toArray = ls at hl ⊢
  generalize hag : ([.ref m0, .int (nI k)] : List Value).toArray = args at hts hQ ⊢
  have hl : lv_has ls 2 [(0, .ref m0), (1, .int (nI k))] := hl
  obtain ⟨H, hH⟩ : ∃ H : Heap, H = s.heap := ⟨_, rfl⟩
  rw [← hH] at hP
  rw [← hH]
  have hS : va_S A s.heap H [] := by rw [hH]; exact hS
  obtain ⟨locs, hlo⟩ : ∃ L : List Loc, L = [] := ⟨_, rfl⟩
  rw [← hlo] at hS
  rw [← hlo]
  clear hH hlo
  refine lv_aload_n hx hb dX12_ranBody_0 rfl (lv_at hl 0 rfl) ?_
  refine va_get (D := (dC, dI)) (ci := 14) (v := .int (nI tl.length)) (C := RX12) (T := TX12) (N := 23) hx hb hts kc_ranBody_0 hown hK hP 0 rfl rfl 19 (by decide) (hts (.fieldLink RX12 246 "MistHeapsModel" "ran" "I") kc_ranBody_1) (fun _ h9 => h9) rfl dX12_ranBody_1 ?_
  refine lv_bipush (v := 20) hx hb dX12_ranBody_4 (by decide) ?_
  refine lv_icmp_ge (tgt := 19) hx hb dX12_ranBody_6 (by decide) (fun c_1 => ?_) (fun c_1 => ?_)
  · skip
    have c_1 : 20 ≤ tl.length := (nI_leI (a := 20) (b := tl.length) (by omega) (by omega)).mp c_1
    exfalso
    omega
  · skip
    have c_1 : ¬ 20 ≤ tl.length := fun q => c_1 ((nI_leI (a := 20) (b := tl.length) (by omega) (by omega)).mpr q)
    refine lv_aload_n hx hb dX12_ranBody_9 rfl (lv_at hl 0 rfl) ?_
    refine va_get (D := (dC, dI)) (ci := 14) (v := .ref aY) (C := RX12) (T := TX12) (N := 23) hx hb hts kc_ranBody_0 hown hK hP 0 rfl rfl 18 (by decide) (hts (.fieldLink RX12 38 "MistHeapsModel" "bodies" "[I") kc_ranBody_2) (fun _ h9 => h9) rfl dX12_ranBody_10 ?_
    refine lv_aload_n hx hb dX12_ranBody_13 rfl (lv_at hl 0 rfl) ?_
    refine va_get (D := (dC, dI)) (ci := 14) (v := .int (nI tl.length)) (C := RX12) (T := TX12) (N := 23) hx hb hts kc_ranBody_0 hown hK hP 0 rfl rfl 19 (by decide) (hts (.fieldLink RX12 246 "MistHeapsModel" "ran" "I") kc_ranBody_1) (fun _ h9 => h9) rfl dX12_ranBody_14 ?_
    refine lv_iload_n hx hb dX12_ranBody_17 rfl (lv_at hl 1 rfl) ?_
    refine va_iast hx hb hK hP hD hS 1 0 rfl rfl (vp_in_nI (n := tl.length) (N := 20) (by omega) (by omega)) dX12_ranBody_18 (fun H locs hP hD hS => ?_)
    rw [nI_clamp (n := tl.length) (by omega)] at hP hD
    have hP : va_P (dC, dI) vwCl [(zo14irriiiiiirriirrrrlriiii m0 th aS aI im ac sp en wg op aB aT se dn aG aO aN aD bv aY (nI tl.length) kd nu tv), (zaI aY cY 20 (upd fY tl.length (nI k)))] H := hP
    have hD : va_D A [(zo14irriiiiiirriirrrrlriiii m0 th aS aI im ac sp en wg op aB aT se dn aG aO aN aD bv aY (nI tl.length) kd nu tv), (zaI aY cY 20 (upd fY tl.length (nI k)))] := hD
    refine lv_aload_n hx hb dX12_ranBody_19 rfl (lv_at hl 0 rfl) ?_
    refine lv_dup hx hb dX12_ranBody_20 rfl ?_
    refine va_get (D := (dC, dI)) (ci := 14) (v := .int (nI tl.length)) (C := RX12) (T := TX12) (N := 23) hx hb hts kc_ranBody_0 hown hK hP 0 rfl rfl 19 (by decide) (hts (.fieldLink RX12 246 "MistHeapsModel" "ran" "I") kc_ranBody_1) (fun _ h9 => h9) rfl dX12_ranBody_21 ?_
    refine lv_iconst (v := 1) hx hb dX12_ranBody_24 (by decide) ?_
    refine lv_iadd hx hb dX12_ranBody_25 ?_
    refine qi_as (y := nI (tl.length + 1)) (nI_add tl.length 1) ?_
    refine va_put (D := (dC, dI)) (ci := 14) (v := .int (nI (tl.length + 1))) (ty := .int) (C := RX12) (T := TX12) (N := 23) hx hb hts kc_ranBody_0 tyX12 tyX12_ok nmX12 hown hK hP hD hS 0 rfl rfl 19 (by decide) (hts (.fieldLink RX12 246 "MistHeapsModel" "ran" "I") kc_ranBody_1) (fun _ h9 => h9) rfl (by decide +kernel) rfl rfl (Nat.le_of_ble_eq_true rfl) dX12_ranBody_26 (fun H locs hP hD hS => ?_)
    have hP : va_P (dC, dI) vwCl [(zo14irriiiiiirriirrrrlriiii m0 th aS aI im ac sp en wg op aB aT se dn aG aO aN aD bv aY (nI (tl.length + 1)) kd nu tv), (zaI aY cY 20 (upd fY tl.length (nI k)))] H := hP
    have hD : va_D A [(zo14irriiiiiirriirrrrlriiii m0 th aS aI im ac sp en wg op aB aT se dn aG aO aN aD bv aY (nI (tl.length + 1)) kd nu tv), (zaI aY cY 20 (upd fY tl.length (nI k)))] := hD
    rw [hQ]
    have hP9 := hP.sub (ws' := [(zo14irriiiiiirriirrrrlriiii m0 th aS aI im ac sp en wg op aB aT se dn aG aO aN aD bv aY (nI (tl.length + 1)) kd nu tv), (zaI aY cY 20 (upd fY tl.length (nI k)))]) [0, 1] rfl
    have hD9 := hD.sub (ws' := [(zo14irriiiiiirriirrrrlriiii m0 th aS aI im ac sp en wg op aB aT se dn aG aO aN aD bv aY (nI (tl.length + 1)) kd nu tv), (zaI aY cY 20 (upd fY tl.length (nI k)))]) [0, 1] (by decide) rfl
    have hK9 := hK.sub (tys' := [(cY, .int)]) [0] rfl
    exact W.vret hx hb hr (fun tQ htQ hWQ => ⟨⟨((upd fY tl.length (nI k)), (nI (tl.length + 1))), rfl, ⟨by rw [List.length_append]; rfl, okY_add zY⟩, by rw [htQ]; exact hP9, va_K.moved hWQ.alike hK9, hD9⟩, hS.F htQ⟩) hS.2.2 dX12_ranBody_29

theorem kc_plainSees_0 : ∀ w ∈ wsX120, w ∈ wsX12_plainSees := fun w h => List.mem_cons_of_mem _ (gin_wsX120 w h)
theorem kc_plainSees_1 : (.fieldLink RX12 252 "MistHeapsModel" "number" "I" : Cond) ∈ wsX12_plainSees := kc_of 1161 rfl rfl rfl
set_option maxHeartbeats 4000000 in
set_option maxRecDepth 100000 in
theorem c_plainSees (l : Launch) (dC : Nat → ClassId) (dI : Nat → Nat → Nat) (m0 aS aI aB aT aG aO aN aD aY : Nat) (th im ac sp en wg op se dn rn kd nu tv : Int32) (bv : Int64) (cY : ClassId) (fY : Nat → Int32) (tl : List Nat) (x : Int32) (sz : Nat) (hq : tl.length ≤ 19) (zY : okY fY tl) : Met l yX12_plainSees wsX12_plainSees ({ frames := 1, cells := 0, slots := 0, locals := 21 } : Room) (va_Pc [.ref m0, .int x] (fun U => U.heap.size = sz ∧ va_P (dC, dI) vwCl [(zo14irriiiiiirriirrrrlriiii m0 th aS aI im ac sp en wg op aB aT se dn aG aO aN aD bv aY (nI tl.length) kd nu tv), (zaI aY cY 20 fY)] U.heap ∧ va_K (dC, dI) vwCl [(cY, .int)] U ∧ va_D (fun _ => True) [(zo14irriiiiiirriirrrrlriiii m0 th aS aI im ac sp en wg op aB aT se dn aG aO aN aD bv aY (nI tl.length) kd nu tv), (zaI aY cY 20 fY)])) (va_Qi (fun (r : Int32) (u : (Nat → Int32) × (Int32)) => match u with | (fY9, rn9) => r = x + nu ∧ rn9 = nI (tl ++ [1]).length ∧ okY fY9 (tl ++ [1])) (fun (u : (Nat → Int32) × (Int32)) (t : State) => match u with | (fY9, rn9) => va_P (dC, dI) vwCl [(zo14irriiiiiirriirrrrlriiii m0 th aS aI im ac sp en wg op aB aT se dn aG aO aN aD bv aY rn9 kd nu tv), (zaI aY cY 20 fY9)] t.heap ∧ va_K (dC, dI) vwCl [(cY, .int)] t ∧ va_D (va_A [(zo14irriiiiiirriirrrrlriiii m0 th aS aI im ac sp en wg op aB aT se dn aG aO aN aD bv aY (nI tl.length) kd nu tv), (zaI aY cY 20 fY)] sz) [(zo14irriiiiiirriirrrrlriiii m0 th aS aI im ac sp en wg op aB aT se dn aG aO aN aD bv aY rn9 kd nu tv), (zaI aY cY 20 fY9)]) (va_A [(zo14irriiiiiirriirrrrlriiii m0 th aS aI im ac sp en wg op aB aT se dn aG aO aN aD bv aY (nI tl.length) kd nu tv), (zaI aY cY 20 fY)] sz)) 0 0 (va_A [(zo14irriiiiiirriirrrrlriiii m0 th aS aI im ac sp en wg op aB aT se dn aG aO aN aD bv aY (nI tl.length) kd nu tv), (zaI aY cY 20 fY)] sz) := by
  refine met_ofQ (cc := cX12_plainSees) (maxL := 2) (ret := (some .int)) (by decide) rfl ?_
  intro p e s m args below meth c s₁ Q B hml hv hQ
  obtain ⟨rfl, hsz, hP, hK, hD0⟩ := hv
  have hx := B.exec
  have hb := B.bytes
  have hr := B.returns
  have hts := atoms_spec (ws := wsX12_plainSees) B.pre
  have hown : s.vm.findClass RX12 = some m.cls := findClass_of_methodNamed B.named
  have hlocks := B.notSynchronized
  subst hsz
  have hD := hD0.self (sz := s.heap.size)
  generalize hAe : va_A [(zo14irriiiiiirriirrrrlriiii m0 th aS aI im ac sp en wg op aB aT se dn aG aO aN aD bv aY (nI tl.length) kd nu tv), (zaI aY cY 20 fY)] s.heap.size = A at hD hQ ⊢
  have hA : ∀ q : Nat, s.heap.size ≤ q → A q := fun q h => by rw [← hAe]; exact Or.inr h
  have hS : va_S A s.heap s.heap [] := va_S.rf
  have hl := lv_entry [.ref m0, .int x] (n := 2) (Nat.le_of_ble_eq_true rfl)
  rw [lg_entry_eq]
  generalize (lg_sl [.ref m0, .int x] ++ List.replicate (2 - (lg_sl [.ref m0, .int x]).length) Slot.unset).toArray = ls at hl ⊢
  generalize hag : ([.ref m0, .int x] : List Value).toArray = args at hts hQ ⊢
  have hl : lv_has ls 2 [(0, .ref m0), (1, .int x)] := hl
  obtain ⟨H, hH⟩ : ∃ H : Heap, H = s.heap := ⟨_, rfl⟩
  rw [← hH] at hP
  rw [← hH]
  have hS : va_S A s.heap H [] := by rw [hH]; exact hS
  obtain ⟨locs, hlo⟩ : ∃ L : List Loc, L = [] := ⟨_, rfl⟩
  rw [← hlo] at hS
  rw [← hlo]
  clear hH hlo
  refine lv_aload_n hx hb dX12_plainSees_0 rfl (lv_at hl 0 rfl) ?_
  refine lv_iconst (v := 1) hx hb dX12_plainSees_1 (by decide) ?_
  have hPc := hP.sub (ws' := [(zo14irriiiiiirriirrrrlriiii m0 th aS aI im ac sp en wg op aB aT se dn aG aO aN aD bv aY (nI tl.length) kd nu tv), (zaI aY cY 20 fY)]) [0, 1] rfl
  have hDc := hD.sub (ws' := [(zo14irriiiiiirriirrrrlriiii m0 th aS aI im ac sp en wg op aB aT se dn aG aO aN aD bv aY (nI tl.length) kd nu tv), (zaI aY cY 20 fY)]) [0, 1] (by decide) rfl
  have hKc := hK.sub (tys' := [(cY, .int)]) [0] rfl
  have hFc := va_free (wc := [(zo14irriiiiiirriirrrrlriiii m0 th aS aI im ac sp en wg op aB aT se dn aG aO aN aD bv aY (nI tl.length) kd nu tv), (zaI aY cY 20 fY)]) hD hS hA [0, 1] rfl
  refine va_callv (va_runV (As := [.int 1]) (rest := []) ⟨hx, hb, hml, hown, hts⟩ (c_ranBody l dC dI m0 aS aI aB aT aG aO aN aD aY th im ac sp en wg op se dn (nI tl.length) kd nu tv bv cY fY tl 1 H.size (by have hbS := btS_le kd; have hbG := btG_le kd; have hbL := btL_le kd; (try simp only [List.length_append, List.length_cons, List.length_nil]); omega) (zY)) (cwV 1 hts gX12_plainSees_X12_ranBody rfl rfl rfl hd_yX12_ranBody ⟨Nat.le_of_ble_eq_true rfl, Nat.le_of_ble_eq_true rfl⟩) ⟨fun a U g mk q => by obtain ⟨q0, q1, qP, qK, qD⟩ := q; exact ⟨q0, q1, qP, va_K.moved (u := U) (U := U.calling g mk a) (Vm.Alike.refl U.vm) qK, qD⟩, va_recv hK hP (ci := 14) (q := (RX12, TX12, 23)) (q0 := 0) rfl rfl, fun U hU hW => ⟨rfl, by rw [hU], by rw [hU]; exact hPc, va_K.moved hW.alike hKc, hDc.weaken (fun _ _ _ _ => trivial)⟩⟩ rfl rfl hl.1 rfl (lv_room (Nat.le_of_ble_eq_true rfl)) dX12_plainSees_2 ⟨Nat.le_of_ble_eq_true rfl, Nat.le_of_ble_eq_true rfl⟩) hS (fun q _ h => hFc q h) hFc (fun u tC H1 locs htC hvm hw_2 hB hz1 hk1 hS => ?_)
  obtain ⟨fY9_3, rn9_4⟩ := u
  try dsimp only at hw_2 hB
  obtain ⟨hP1, hK1, hD1⟩ := hB
  rw [htC] at hP1
  have hK1 := va_K.moved hvm.symm hK1
  obtain ⟨hP, hD⟩ := va_join (wr := []) (w1 := [(zo14irriiiiiirriirrrrlriiii m0 th aS aI im ac sp en wg op aB aT se dn aG aO aN aD bv aY rn9_4 kd nu tv), (zaI aY cY 20 fY9_3)]) hP hD [0, 1] [] rfl rfl (by decide) (by decide) hk1 hFc hP1 hD1
  have hK := (hK.sub (tys' := []) [] rfl).app hK1
  generalize H1 = H at hP hS ⊢
  have hP : va_P (dC, dI) vwCl [(zo14irriiiiiirriirrrrlriiii m0 th aS aI im ac sp en wg op aB aT se dn aG aO aN aD bv aY rn9_4 kd nu tv), (zaI aY cY 20 fY9_3)] H := hP
  have hD : va_D A [(zo14irriiiiiirriirrrrlriiii m0 th aS aI im ac sp en wg op aB aT se dn aG aO aN aD bv aY rn9_4 kd nu tv), (zaI aY cY 20 fY9_3)] := hD
  have hK : va_K (dC, dI) vwCl [(cY, .int)] s := hK
  obtain ⟨e_5, hY_6⟩ := hw_2
  obtain rfl := e_5
  refine lv_iload_n hx hb dX12_plainSees_5 rfl (lv_at hl 1 rfl) ?_
  refine lv_aload_n hx hb dX12_plainSees_6 rfl (lv_at hl 0 rfl) ?_
  refine va_get (D := (dC, dI)) (ci := 14) (v := .int nu) (C := RX12) (T := TX12) (N := 23) hx hb hts kc_plainSees_0 hown hK hP 0 rfl rfl 21 (by decide) (hts (.fieldLink RX12 252 "MistHeapsModel" "number" "I") kc_plainSees_1) (fun _ h9 => h9) rfl dX12_plainSees_7 ?_
  refine lv_iadd hx hb dX12_plainSees_10 ?_
  rw [hQ]
  have hP9 := hP.sub (ws' := [(zo14irriiiiiirriirrrrlriiii m0 th aS aI im ac sp en wg op aB aT se dn aG aO aN aD bv aY (nI ((tl ++ [1]).length)) kd nu tv), (zaI aY cY 20 fY9_3)]) [0, 1] rfl
  have hD9 := hD.sub (ws' := [(zo14irriiiiiirriirrrrlriiii m0 th aS aI im ac sp en wg op aB aT se dn aG aO aN aD bv aY (nI ((tl ++ [1]).length)) kd nu tv), (zaI aY cY 20 fY9_3)]) [0, 1] (by decide) rfl
  have hK9 := hK.sub (tys' := [(cY, .int)]) [0] rfl
  exact W.iret (v := x + nu) hx hb hr (fun tQ htQ hWQ => ⟨⟨(x + nu), (fY9_3, (nI ((tl ++ [1]).length))), rfl, ⟨rfl, rfl, hY_6⟩, by rw [htQ]; exact hP9, va_K.moved hWQ.alike hK9, hD9⟩, hS.F htQ⟩) hS.2.2 dX12_plainSees_11

theorem kc_seesActs_0 : ∀ w ∈ wsX120, w ∈ wsX12_seesActs := fun w h => List.mem_cons_of_mem _ (gin_wsX120 w h)
theorem kc_seesActs_1 : (.fieldLink RX12 255 "MistHeapsModel" "kind" "I" : Cond) ∈ wsX12_seesActs := kc_of 1160 rfl rfl rfl
theorem kc_seesActs_2 : (.fieldLink RX12 252 "MistHeapsModel" "number" "I" : Cond) ∈ wsX12_seesActs := kc_of 1161 rfl rfl rfl
set_option maxHeartbeats 4000000 in
set_option maxRecDepth 100000 in
theorem c_seesActs (l : Launch) (dC : Nat → ClassId) (dI : Nat → Nat → Nat) (m0 aS aI aB aT aG aO aN aD aY : Nat) (th im ac sp en wg op se dn rn kd nu tv : Int32) (bv : Int64) (cY : ClassId) (fY : Nat → Int32) (tl : List Nat) (x : Int32) (sz : Nat) (hq : tl.length ≤ 18) (zY : okY fY tl) : Met l yX12_seesActs wsX12_seesActs ({ frames := 2, cells := 0, slots := 0, locals := 42 } : Room) (va_Pc [.ref m0, .int x] (fun U => U.heap.size = sz ∧ va_P (dC, dI) vwCl [(zo14irriiiiiirriirrrrlriiii m0 th aS aI im ac sp en wg op aB aT se dn aG aO aN aD bv aY (nI tl.length) kd nu tv), (zaI aY cY 20 fY)] U.heap ∧ va_K (dC, dI) vwCl [(cY, .int)] U ∧ va_D (fun _ => True) [(zo14irriiiiiirriirrrrlriiii m0 th aS aI im ac sp en wg op aB aT se dn aG aO aN aD bv aY (nI tl.length) kd nu tv), (zaI aY cY 20 fY)])) (va_Qi (fun (r : Int32) (u : (Nat → Int32) × (Int32)) => match u with | (fY9, rn9) => r = acS kd nu tv x ∧ rn9 = nI (tl ++ btS kd).length ∧ okY fY9 (tl ++ btS kd)) (fun (u : (Nat → Int32) × (Int32)) (t : State) => match u with | (fY9, rn9) => va_P (dC, dI) vwCl [(zo14irriiiiiirriirrrrlriiii m0 th aS aI im ac sp en wg op aB aT se dn aG aO aN aD bv aY rn9 kd nu tv), (zaI aY cY 20 fY9)] t.heap ∧ va_K (dC, dI) vwCl [(cY, .int)] t ∧ va_D (va_A [(zo14irriiiiiirriirrrrlriiii m0 th aS aI im ac sp en wg op aB aT se dn aG aO aN aD bv aY (nI tl.length) kd nu tv), (zaI aY cY 20 fY)] sz) [(zo14irriiiiiirriirrrrlriiii m0 th aS aI im ac sp en wg op aB aT se dn aG aO aN aD bv aY rn9 kd nu tv), (zaI aY cY 20 fY9)]) (va_A [(zo14irriiiiiirriirrrrlriiii m0 th aS aI im ac sp en wg op aB aT se dn aG aO aN aD bv aY (nI tl.length) kd nu tv), (zaI aY cY 20 fY)] sz)) 0 0 (va_A [(zo14irriiiiiirriirrrrlriiii m0 th aS aI im ac sp en wg op aB aT se dn aG aO aN aD bv aY (nI tl.length) kd nu tv), (zaI aY cY 20 fY)] sz) := by
  refine met_ofQ (cc := cX12_seesActs) (maxL := 2) (ret := (some .int)) (by decide) rfl ?_
  intro p e s m args below meth c s₁ Q B hml hv hQ
  obtain ⟨rfl, hsz, hP, hK, hD0⟩ := hv
  have hx := B.exec
  have hb := B.bytes
  have hr := B.returns
  have hts := atoms_spec (ws := wsX12_seesActs) B.pre
  have hown : s.vm.findClass RX12 = some m.cls := findClass_of_methodNamed B.named
  have hlocks := B.notSynchronized
  subst hsz
  have hD := hD0.self (sz := s.heap.size)
  generalize hAe : va_A [(zo14irriiiiiirriirrrrlriiii m0 th aS aI im ac sp en wg op aB aT se dn aG aO aN aD bv aY (nI tl.length) kd nu tv), (zaI aY cY 20 fY)] s.heap.size = A at hD hQ ⊢
  have hA : ∀ q : Nat, s.heap.size ≤ q → A q := fun q h => by rw [← hAe]; exact Or.inr h
  have hS : va_S A s.heap s.heap [] := va_S.rf
  have hl := lv_entry [.ref m0, .int x] (n := 2) (Nat.le_of_ble_eq_true rfl)
  rw [lg_entry_eq]
  generalize (lg_sl [.ref m0, .int x] ++ List.replicate (2 - (lg_sl [.ref m0, .int x]).length) Slot.unset).toArray = ls at hl ⊢
  generalize hag : ([.ref m0, .int x] : List Value).toArray = args at hts hQ ⊢
  have hl : lv_has ls 2 [(0, .ref m0), (1, .int x)] := hl
  obtain ⟨H, hH⟩ : ∃ H : Heap, H = s.heap := ⟨_, rfl⟩
  rw [← hH] at hP
  rw [← hH]
  have hS : va_S A s.heap H [] := by rw [hH]; exact hS
  obtain ⟨locs, hlo⟩ : ∃ L : List Loc, L = [] := ⟨_, rfl⟩
  rw [← hlo] at hS
  rw [← hlo]
  clear hH hlo
  refine lv_aload_n hx hb dX12_seesActs_0 rfl (lv_at hl 0 rfl) ?_
  refine va_get (D := (dC, dI)) (ci := 14) (v := .int kd) (C := RX12) (T := TX12) (N := 23) hx hb hts kc_seesActs_0 hown hK hP 0 rfl rfl 20 (by decide) (hts (.fieldLink RX12 255 "MistHeapsModel" "kind" "I") kc_seesActs_1) (fun _ h9 => h9) rfl dX12_seesActs_1 ?_
  refine lv_iconst (v := 1) hx hb dX12_seesActs_4 (by decide) ?_
  refine vp_callSi (va_runS (As := [.int kd, .int 1]) (rest := []) ⟨hx, hb, hml, hown, hts⟩ (c_under l dC dI kd 1) (va_cwS 2 hts gX12_seesActs_X12_isUnder rfl rfl rfl hd_yX12_isUnder.2 ⟨Nat.le_of_ble_eq_true rfl, Nat.le_of_ble_eq_true rfl⟩) ⟨fun a U g mk q => ⟨q.1, trivial⟩, fun U hU hW => ⟨rfl, trivial⟩⟩ rfl rfl hl.1 rfl (lv_room (Nat.le_of_ble_eq_true rfl)) dX12_seesActs_5 ⟨Nat.le_of_ble_eq_true rfl, Nat.le_of_ble_eq_true rfl⟩).run (fun r_1 hw_2 => ?_)
  rcases hw_2 with ⟨rfl, hU_3⟩ | ⟨rfl, hU_3⟩
  · skip
    refine lv_if_eq (tgt := 25) hx hb dX12_seesActs_8 (by decide) (fun c_4 => absurd c_4 (by decide)) (fun _ => ?_)
    refine lv_aload_n hx hb dX12_seesActs_11 rfl (lv_at hl 0 rfl) ?_
    refine lv_bipush (v := 11) hx hb dX12_seesActs_12 (by decide) ?_
    have hPc := hP.sub (ws' := [(zo14irriiiiiirriirrrrlriiii m0 th aS aI im ac sp en wg op aB aT se dn aG aO aN aD bv aY (nI tl.length) kd nu tv), (zaI aY cY 20 fY)]) [0, 1] rfl
    have hDc := hD.sub (ws' := [(zo14irriiiiiirriirrrrlriiii m0 th aS aI im ac sp en wg op aB aT se dn aG aO aN aD bv aY (nI tl.length) kd nu tv), (zaI aY cY 20 fY)]) [0, 1] (by decide) rfl
    have hKc := hK.sub (tys' := [(cY, .int)]) [0] rfl
    have hFc := va_free (wc := [(zo14irriiiiiirriirrrrlriiii m0 th aS aI im ac sp en wg op aB aT se dn aG aO aN aD bv aY (nI tl.length) kd nu tv), (zaI aY cY 20 fY)]) hD hS hA [0, 1] rfl
    refine va_callv (va_runV (As := [.int 11]) (rest := []) ⟨hx, hb, hml, hown, hts⟩ (c_ranBody l dC dI m0 aS aI aB aT aG aO aN aD aY th im ac sp en wg op se dn (nI tl.length) kd nu tv bv cY fY tl 11 H.size (by have hbS := btS_le kd; have hbG := btG_le kd; have hbL := btL_le kd; (try simp only [List.length_append, List.length_cons, List.length_nil]); omega) (zY)) (cwV 1 hts gX12_seesActs_X12_ranBody rfl rfl rfl hd_yX12_ranBody ⟨Nat.le_of_ble_eq_true rfl, Nat.le_of_ble_eq_true rfl⟩) ⟨fun a U g mk q => by obtain ⟨q0, q1, qP, qK, qD⟩ := q; exact ⟨q0, q1, qP, va_K.moved (u := U) (U := U.calling g mk a) (Vm.Alike.refl U.vm) qK, qD⟩, va_recv hK hP (ci := 14) (q := (RX12, TX12, 23)) (q0 := 0) rfl rfl, fun U hU hW => ⟨rfl, by rw [hU], by rw [hU]; exact hPc, va_K.moved hW.alike hKc, hDc.weaken (fun _ _ _ _ => trivial)⟩⟩ rfl rfl hl.1 rfl (lv_room (Nat.le_of_ble_eq_true rfl)) dX12_seesActs_14 ⟨Nat.le_of_ble_eq_true rfl, Nat.le_of_ble_eq_true rfl⟩) hS (fun q _ h => hFc q h) hFc (fun u tC H1 locs htC hvm hw_6 hB hz1 hk1 hS => ?_)
    obtain ⟨fY9_7, rn9_8⟩ := u
    try dsimp only at hw_6 hB
    obtain ⟨hP1, hK1, hD1⟩ := hB
    rw [htC] at hP1
    have hK1 := va_K.moved hvm.symm hK1
    obtain ⟨hP, hD⟩ := va_join (wr := []) (w1 := [(zo14irriiiiiirriirrrrlriiii m0 th aS aI im ac sp en wg op aB aT se dn aG aO aN aD bv aY rn9_8 kd nu tv), (zaI aY cY 20 fY9_7)]) hP hD [0, 1] [] rfl rfl (by decide) (by decide) hk1 hFc hP1 hD1
    have hK := (hK.sub (tys' := []) [] rfl).app hK1
    generalize H1 = H at hP hS ⊢
    have hP : va_P (dC, dI) vwCl [(zo14irriiiiiirriirrrrlriiii m0 th aS aI im ac sp en wg op aB aT se dn aG aO aN aD bv aY rn9_8 kd nu tv), (zaI aY cY 20 fY9_7)] H := hP
    have hD : va_D A [(zo14irriiiiiirriirrrrlriiii m0 th aS aI im ac sp en wg op aB aT se dn aG aO aN aD bv aY rn9_8 kd nu tv), (zaI aY cY 20 fY9_7)] := hD
    have hK : va_K (dC, dI) vwCl [(cY, .int)] s := hK
    obtain ⟨e_9, hY_10⟩ := hw_6
    obtain rfl := e_9
    refine lv_aload_n hx hb dX12_seesActs_17 rfl (lv_at hl 0 rfl) ?_
    refine lv_iload_n hx hb dX12_seesActs_18 rfl (lv_at hl 1 rfl) ?_
    refine lv_iconst (v := 3) hx hb dX12_seesActs_19 (by decide) ?_
    refine lv_imul hx hb dX12_seesActs_20 ?_
    have hPc := hP.sub (ws' := [(zo14irriiiiiirriirrrrlriiii m0 th aS aI im ac sp en wg op aB aT se dn aG aO aN aD bv aY (nI ((tl ++ [11]).length)) kd nu tv), (zaI aY cY 20 fY9_7)]) [0, 1] rfl
    have hDc := hD.sub (ws' := [(zo14irriiiiiirriirrrrlriiii m0 th aS aI im ac sp en wg op aB aT se dn aG aO aN aD bv aY (nI ((tl ++ [11]).length)) kd nu tv), (zaI aY cY 20 fY9_7)]) [0, 1] (by decide) rfl
    have hKc := hK.sub (tys' := [(cY, .int)]) [0] rfl
    have hFc := va_free (wc := [(zo14irriiiiiirriirrrrlriiii m0 th aS aI im ac sp en wg op aB aT se dn aG aO aN aD bv aY (nI ((tl ++ [11]).length)) kd nu tv), (zaI aY cY 20 fY9_7)]) hD hS hA [0, 1] rfl
    refine va_calli (va_runV (As := [.int (x * 3)]) (rest := []) ⟨hx, hb, hml, hown, hts⟩ (c_plainSees l dC dI m0 aS aI aB aT aG aO aN aD aY th im ac sp en wg op se dn (nI ((tl ++ [11]).length)) kd nu tv bv cY fY9_7 (tl ++ [11]) (x * 3) H.size (by have hbS := btS_le kd; have hbG := btG_le kd; have hbL := btL_le kd; (try simp only [List.length_append, List.length_cons, List.length_nil]); omega) (hY_10)) (cwV 1 hts gX12_seesActs_X12_plainSees rfl rfl rfl hd_yX12_plainSees ⟨Nat.le_of_ble_eq_true rfl, Nat.le_of_ble_eq_true rfl⟩) ⟨fun a U g mk q => by obtain ⟨q0, q1, qP, qK, qD⟩ := q; exact ⟨q0, q1, qP, va_K.moved (u := U) (U := U.calling g mk a) (Vm.Alike.refl U.vm) qK, qD⟩, va_recv hK hP (ci := 14) (q := (RX12, TX12, 23)) (q0 := 0) rfl rfl, fun U hU hW => ⟨rfl, by rw [hU], by rw [hU]; exact hPc, va_K.moved hW.alike hKc, hDc.weaken (fun _ _ _ _ => trivial)⟩⟩ rfl rfl hl.1 rfl (lv_room (Nat.le_of_ble_eq_true rfl)) dX12_seesActs_21 ⟨Nat.le_of_ble_eq_true rfl, Nat.le_of_ble_eq_true rfl⟩) hS (fun q _ h => hFc q h) hFc (fun r_11 u tC H1 locs htC hvm hw_12 hB hz1 hk1 hS => ?_)
    obtain ⟨fY9_13, rn9_14⟩ := u
    try dsimp only at hw_12 hB
    obtain ⟨hP1, hK1, hD1⟩ := hB
    rw [htC] at hP1
    have hK1 := va_K.moved hvm.symm hK1
    obtain ⟨hP, hD⟩ := va_join (wr := []) (w1 := [(zo14irriiiiiirriirrrrlriiii m0 th aS aI im ac sp en wg op aB aT se dn aG aO aN aD bv aY rn9_14 kd nu tv), (zaI aY cY 20 fY9_13)]) hP hD [0, 1] [] rfl rfl (by decide) (by decide) hk1 hFc hP1 hD1
    have hK := (hK.sub (tys' := []) [] rfl).app hK1
    generalize H1 = H at hP hS ⊢
    have hP : va_P (dC, dI) vwCl [(zo14irriiiiiirriirrrrlriiii m0 th aS aI im ac sp en wg op aB aT se dn aG aO aN aD bv aY rn9_14 kd nu tv), (zaI aY cY 20 fY9_13)] H := hP
    have hD : va_D A [(zo14irriiiiiirriirrrrlriiii m0 th aS aI im ac sp en wg op aB aT se dn aG aO aN aD bv aY rn9_14 kd nu tv), (zaI aY cY 20 fY9_13)] := hD
    have hK : va_K (dC, dI) vwCl [(cY, .int)] s := hK
    obtain ⟨er_15, h_16⟩ := hw_12
    obtain ⟨e_17, hY_18⟩ := h_16
    obtain rfl := e_17
    subst er_15
    rw [hQ]
    have hP9 := hP.sub (ws' := [(zo14irriiiiiirriirrrrlriiii m0 th aS aI im ac sp en wg op aB aT se dn aG aO aN aD bv aY (nI (((tl ++ [11]) ++ [1]).length)) kd nu tv), (zaI aY cY 20 fY9_13)]) [0, 1] rfl
    have hD9 := hD.sub (ws' := [(zo14irriiiiiirriirrrrlriiii m0 th aS aI im ac sp en wg op aB aT se dn aG aO aN aD bv aY (nI (((tl ++ [11]) ++ [1]).length)) kd nu tv), (zaI aY cY 20 fY9_13)]) [0, 1] (by decide) rfl
    have hK9 := hK.sub (tys' := [(cY, .int)]) [0] rfl
    exact W.iret (v := (x * 3) + nu) hx hb hr (fun tQ htQ hWQ => ⟨⟨((x * 3) + nu), (fY9_13, (nI (((tl ++ [11]) ++ [1]).length))), rfl, ⟨acS_1 (by assumption), by rw [show tl ++ btS kd = ((tl ++ [11]) ++ [1]) from (congrArg (fun z => tl ++ z) (btS_1 (by assumption))).trans (by simp)]; exact ⟨rfl, hY_18⟩⟩, by rw [htQ]; exact hP9, va_K.moved hWQ.alike hK9, hD9⟩, hS.F htQ⟩) hS.2.2 dX12_seesActs_24
  · skip
    refine lv_if_eq (tgt := 25) hx hb dX12_seesActs_8 (by decide) (fun _ => ?_) (fun c_19 => absurd c_19 (by decide))
    refine lv_aload_n hx hb dX12_seesActs_25 rfl (lv_at hl 0 rfl) ?_
    refine va_get (D := (dC, dI)) (ci := 14) (v := .int kd) (C := RX12) (T := TX12) (N := 23) hx hb hts kc_seesActs_0 hown hK hP 0 rfl rfl 20 (by decide) (hts (.fieldLink RX12 255 "MistHeapsModel" "kind" "I") kc_seesActs_1) (fun _ h9 => h9) rfl dX12_seesActs_26 ?_
    refine lv_iconst (v := 5) hx hb dX12_seesActs_29 (by decide) ?_
    refine lv_icmp_ne (tgt := 50) hx hb dX12_seesActs_30 (by decide) (fun c_20 => ?_) (fun c_20 => ?_)
    · skip
      refine lv_aload_n hx hb dX12_seesActs_50 rfl (lv_at hl 0 rfl) ?_
      refine lv_iload_n hx hb dX12_seesActs_51 rfl (lv_at hl 1 rfl) ?_
      have hPc := hP.sub (ws' := [(zo14irriiiiiirriirrrrlriiii m0 th aS aI im ac sp en wg op aB aT se dn aG aO aN aD bv aY (nI tl.length) kd nu tv), (zaI aY cY 20 fY)]) [0, 1] rfl
      have hDc := hD.sub (ws' := [(zo14irriiiiiirriirrrrlriiii m0 th aS aI im ac sp en wg op aB aT se dn aG aO aN aD bv aY (nI tl.length) kd nu tv), (zaI aY cY 20 fY)]) [0, 1] (by decide) rfl
      have hKc := hK.sub (tys' := [(cY, .int)]) [0] rfl
      have hFc := va_free (wc := [(zo14irriiiiiirriirrrrlriiii m0 th aS aI im ac sp en wg op aB aT se dn aG aO aN aD bv aY (nI tl.length) kd nu tv), (zaI aY cY 20 fY)]) hD hS hA [0, 1] rfl
      refine va_calli (va_runV (As := [.int x]) (rest := []) ⟨hx, hb, hml, hown, hts⟩ (c_plainSees l dC dI m0 aS aI aB aT aG aO aN aD aY th im ac sp en wg op se dn (nI tl.length) kd nu tv bv cY fY tl x H.size (by have hbS := btS_le kd; have hbG := btG_le kd; have hbL := btL_le kd; (try simp only [List.length_append, List.length_cons, List.length_nil]); omega) (zY)) (cwV 1 hts gX12_seesActs_X12_plainSees rfl rfl rfl hd_yX12_plainSees ⟨Nat.le_of_ble_eq_true rfl, Nat.le_of_ble_eq_true rfl⟩) ⟨fun a U g mk q => by obtain ⟨q0, q1, qP, qK, qD⟩ := q; exact ⟨q0, q1, qP, va_K.moved (u := U) (U := U.calling g mk a) (Vm.Alike.refl U.vm) qK, qD⟩, va_recv hK hP (ci := 14) (q := (RX12, TX12, 23)) (q0 := 0) rfl rfl, fun U hU hW => ⟨rfl, by rw [hU], by rw [hU]; exact hPc, va_K.moved hW.alike hKc, hDc.weaken (fun _ _ _ _ => trivial)⟩⟩ rfl rfl hl.1 rfl (lv_room (Nat.le_of_ble_eq_true rfl)) dX12_seesActs_52 ⟨Nat.le_of_ble_eq_true rfl, Nat.le_of_ble_eq_true rfl⟩) hS (fun q _ h => hFc q h) hFc (fun r_21 u tC H1 locs htC hvm hw_22 hB hz1 hk1 hS => ?_)
      obtain ⟨fY9_23, rn9_24⟩ := u
      try dsimp only at hw_22 hB
      obtain ⟨hP1, hK1, hD1⟩ := hB
      rw [htC] at hP1
      have hK1 := va_K.moved hvm.symm hK1
      obtain ⟨hP, hD⟩ := va_join (wr := []) (w1 := [(zo14irriiiiiirriirrrrlriiii m0 th aS aI im ac sp en wg op aB aT se dn aG aO aN aD bv aY rn9_24 kd nu tv), (zaI aY cY 20 fY9_23)]) hP hD [0, 1] [] rfl rfl (by decide) (by decide) hk1 hFc hP1 hD1
      have hK := (hK.sub (tys' := []) [] rfl).app hK1
      generalize H1 = H at hP hS ⊢
      have hP : va_P (dC, dI) vwCl [(zo14irriiiiiirriirrrrlriiii m0 th aS aI im ac sp en wg op aB aT se dn aG aO aN aD bv aY rn9_24 kd nu tv), (zaI aY cY 20 fY9_23)] H := hP
      have hD : va_D A [(zo14irriiiiiirriirrrrlriiii m0 th aS aI im ac sp en wg op aB aT se dn aG aO aN aD bv aY rn9_24 kd nu tv), (zaI aY cY 20 fY9_23)] := hD
      have hK : va_K (dC, dI) vwCl [(cY, .int)] s := hK
      obtain ⟨er_25, h_26⟩ := hw_22
      obtain ⟨e_27, hY_28⟩ := h_26
      obtain rfl := e_27
      subst er_25
      rw [hQ]
      have hP9 := hP.sub (ws' := [(zo14irriiiiiirriirrrrlriiii m0 th aS aI im ac sp en wg op aB aT se dn aG aO aN aD bv aY (nI ((tl ++ [1]).length)) kd nu tv), (zaI aY cY 20 fY9_23)]) [0, 1] rfl
      have hD9 := hD.sub (ws' := [(zo14irriiiiiirriirrrrlriiii m0 th aS aI im ac sp en wg op aB aT se dn aG aO aN aD bv aY (nI ((tl ++ [1]).length)) kd nu tv), (zaI aY cY 20 fY9_23)]) [0, 1] (by decide) rfl
      have hK9 := hK.sub (tys' := [(cY, .int)]) [0] rfl
      exact W.iret (v := x + nu) hx hb hr (fun tQ htQ hWQ => ⟨⟨(x + nu), (fY9_23, (nI ((tl ++ [1]).length))), rfl, ⟨acS_0 (by assumption) (by assumption), by rw [show tl ++ btS kd = (tl ++ [1]) from (congrArg (fun z => tl ++ z) (btS_0 (by assumption) (by assumption))).trans (by simp)]; exact ⟨rfl, hY_28⟩⟩, by rw [htQ]; exact hP9, va_K.moved hWQ.alike hK9, hD9⟩, hS.F htQ⟩) hS.2.2 dX12_seesActs_55
    · skip
      refine lv_aload_n hx hb dX12_seesActs_33 rfl (lv_at hl 0 rfl) ?_
      refine lv_bipush (v := 51) hx hb dX12_seesActs_34 (by decide) ?_
      have hPc := hP.sub (ws' := [(zo14irriiiiiirriirrrrlriiii m0 th aS aI im ac sp en wg op aB aT se dn aG aO aN aD bv aY (nI tl.length) kd nu tv), (zaI aY cY 20 fY)]) [0, 1] rfl
      have hDc := hD.sub (ws' := [(zo14irriiiiiirriirrrrlriiii m0 th aS aI im ac sp en wg op aB aT se dn aG aO aN aD bv aY (nI tl.length) kd nu tv), (zaI aY cY 20 fY)]) [0, 1] (by decide) rfl
      have hKc := hK.sub (tys' := [(cY, .int)]) [0] rfl
      have hFc := va_free (wc := [(zo14irriiiiiirriirrrrlriiii m0 th aS aI im ac sp en wg op aB aT se dn aG aO aN aD bv aY (nI tl.length) kd nu tv), (zaI aY cY 20 fY)]) hD hS hA [0, 1] rfl
      refine va_callv (va_runV (As := [.int 51]) (rest := []) ⟨hx, hb, hml, hown, hts⟩ (c_ranBody l dC dI m0 aS aI aB aT aG aO aN aD aY th im ac sp en wg op se dn (nI tl.length) kd nu tv bv cY fY tl 51 H.size (by have hbS := btS_le kd; have hbG := btG_le kd; have hbL := btL_le kd; (try simp only [List.length_append, List.length_cons, List.length_nil]); omega) (zY)) (cwV 1 hts gX12_seesActs_X12_ranBody rfl rfl rfl hd_yX12_ranBody ⟨Nat.le_of_ble_eq_true rfl, Nat.le_of_ble_eq_true rfl⟩) ⟨fun a U g mk q => by obtain ⟨q0, q1, qP, qK, qD⟩ := q; exact ⟨q0, q1, qP, va_K.moved (u := U) (U := U.calling g mk a) (Vm.Alike.refl U.vm) qK, qD⟩, va_recv hK hP (ci := 14) (q := (RX12, TX12, 23)) (q0 := 0) rfl rfl, fun U hU hW => ⟨rfl, by rw [hU], by rw [hU]; exact hPc, va_K.moved hW.alike hKc, hDc.weaken (fun _ _ _ _ => trivial)⟩⟩ rfl rfl hl.1 rfl (lv_room (Nat.le_of_ble_eq_true rfl)) dX12_seesActs_36 ⟨Nat.le_of_ble_eq_true rfl, Nat.le_of_ble_eq_true rfl⟩) hS (fun q _ h => hFc q h) hFc (fun u tC H1 locs htC hvm hw_30 hB hz1 hk1 hS => ?_)
      obtain ⟨fY9_31, rn9_32⟩ := u
      try dsimp only at hw_30 hB
      obtain ⟨hP1, hK1, hD1⟩ := hB
      rw [htC] at hP1
      have hK1 := va_K.moved hvm.symm hK1
      obtain ⟨hP, hD⟩ := va_join (wr := []) (w1 := [(zo14irriiiiiirriirrrrlriiii m0 th aS aI im ac sp en wg op aB aT se dn aG aO aN aD bv aY rn9_32 kd nu tv), (zaI aY cY 20 fY9_31)]) hP hD [0, 1] [] rfl rfl (by decide) (by decide) hk1 hFc hP1 hD1
      have hK := (hK.sub (tys' := []) [] rfl).app hK1
      generalize H1 = H at hP hS ⊢
      have hP : va_P (dC, dI) vwCl [(zo14irriiiiiirriirrrrlriiii m0 th aS aI im ac sp en wg op aB aT se dn aG aO aN aD bv aY rn9_32 kd nu tv), (zaI aY cY 20 fY9_31)] H := hP
      have hD : va_D A [(zo14irriiiiiirriirrrrlriiii m0 th aS aI im ac sp en wg op aB aT se dn aG aO aN aD bv aY rn9_32 kd nu tv), (zaI aY cY 20 fY9_31)] := hD
      have hK : va_K (dC, dI) vwCl [(cY, .int)] s := hK
      obtain ⟨e_33, hY_34⟩ := hw_30
      obtain rfl := e_33
      refine lv_aload_n hx hb dX12_seesActs_39 rfl (lv_at hl 0 rfl) ?_
      refine lv_iload_n hx hb dX12_seesActs_40 rfl (lv_at hl 1 rfl) ?_
      have hPc := hP.sub (ws' := [(zo14irriiiiiirriirrrrlriiii m0 th aS aI im ac sp en wg op aB aT se dn aG aO aN aD bv aY (nI ((tl ++ [51]).length)) kd nu tv), (zaI aY cY 20 fY9_31)]) [0, 1] rfl
      have hDc := hD.sub (ws' := [(zo14irriiiiiirriirrrrlriiii m0 th aS aI im ac sp en wg op aB aT se dn aG aO aN aD bv aY (nI ((tl ++ [51]).length)) kd nu tv), (zaI aY cY 20 fY9_31)]) [0, 1] (by decide) rfl
      have hKc := hK.sub (tys' := [(cY, .int)]) [0] rfl
      have hFc := va_free (wc := [(zo14irriiiiiirriirrrrlriiii m0 th aS aI im ac sp en wg op aB aT se dn aG aO aN aD bv aY (nI ((tl ++ [51]).length)) kd nu tv), (zaI aY cY 20 fY9_31)]) hD hS hA [0, 1] rfl
      refine va_calli (va_runV (As := [.int x]) (rest := []) ⟨hx, hb, hml, hown, hts⟩ (c_plainSees l dC dI m0 aS aI aB aT aG aO aN aD aY th im ac sp en wg op se dn (nI ((tl ++ [51]).length)) kd nu tv bv cY fY9_31 (tl ++ [51]) x H.size (by have hbS := btS_le kd; have hbG := btG_le kd; have hbL := btL_le kd; (try simp only [List.length_append, List.length_cons, List.length_nil]); omega) (hY_34)) (cwV 1 hts gX12_seesActs_X12_plainSees rfl rfl rfl hd_yX12_plainSees ⟨Nat.le_of_ble_eq_true rfl, Nat.le_of_ble_eq_true rfl⟩) ⟨fun a U g mk q => by obtain ⟨q0, q1, qP, qK, qD⟩ := q; exact ⟨q0, q1, qP, va_K.moved (u := U) (U := U.calling g mk a) (Vm.Alike.refl U.vm) qK, qD⟩, va_recv hK hP (ci := 14) (q := (RX12, TX12, 23)) (q0 := 0) rfl rfl, fun U hU hW => ⟨rfl, by rw [hU], by rw [hU]; exact hPc, va_K.moved hW.alike hKc, hDc.weaken (fun _ _ _ _ => trivial)⟩⟩ rfl rfl hl.1 rfl (lv_room (Nat.le_of_ble_eq_true rfl)) dX12_seesActs_41 ⟨Nat.le_of_ble_eq_true rfl, Nat.le_of_ble_eq_true rfl⟩) hS (fun q _ h => hFc q h) hFc (fun r_35 u tC H1 locs htC hvm hw_36 hB hz1 hk1 hS => ?_)
      obtain ⟨fY9_37, rn9_38⟩ := u
      try dsimp only at hw_36 hB
      obtain ⟨hP1, hK1, hD1⟩ := hB
      rw [htC] at hP1
      have hK1 := va_K.moved hvm.symm hK1
      obtain ⟨hP, hD⟩ := va_join (wr := []) (w1 := [(zo14irriiiiiirriirrrrlriiii m0 th aS aI im ac sp en wg op aB aT se dn aG aO aN aD bv aY rn9_38 kd nu tv), (zaI aY cY 20 fY9_37)]) hP hD [0, 1] [] rfl rfl (by decide) (by decide) hk1 hFc hP1 hD1
      have hK := (hK.sub (tys' := []) [] rfl).app hK1
      generalize H1 = H at hP hS ⊢
      have hP : va_P (dC, dI) vwCl [(zo14irriiiiiirriirrrrlriiii m0 th aS aI im ac sp en wg op aB aT se dn aG aO aN aD bv aY rn9_38 kd nu tv), (zaI aY cY 20 fY9_37)] H := hP
      have hD : va_D A [(zo14irriiiiiirriirrrrlriiii m0 th aS aI im ac sp en wg op aB aT se dn aG aO aN aD bv aY rn9_38 kd nu tv), (zaI aY cY 20 fY9_37)] := hD
      have hK : va_K (dC, dI) vwCl [(cY, .int)] s := hK
      obtain ⟨er_39, h_40⟩ := hw_36
      obtain ⟨e_41, hY_42⟩ := h_40
      obtain rfl := e_41
      subst er_39
      refine lv_aload_n hx hb dX12_seesActs_44 rfl (lv_at hl 0 rfl) ?_
      refine va_get (D := (dC, dI)) (ci := 14) (v := .int nu) (C := RX12) (T := TX12) (N := 23) hx hb hts kc_seesActs_0 hown hK hP 0 rfl rfl 21 (by decide) (hts (.fieldLink RX12 252 "MistHeapsModel" "number" "I") kc_seesActs_2) (fun _ h9 => h9) rfl dX12_seesActs_45 ?_
      refine lv_ixor hx hb dX12_seesActs_48 ?_
      rw [hQ]
      have hP9 := hP.sub (ws' := [(zo14irriiiiiirriirrrrlriiii m0 th aS aI im ac sp en wg op aB aT se dn aG aO aN aD bv aY (nI (((tl ++ [51]) ++ [1]).length)) kd nu tv), (zaI aY cY 20 fY9_37)]) [0, 1] rfl
      have hD9 := hD.sub (ws' := [(zo14irriiiiiirriirrrrlriiii m0 th aS aI im ac sp en wg op aB aT se dn aG aO aN aD bv aY (nI (((tl ++ [51]) ++ [1]).length)) kd nu tv), (zaI aY cY 20 fY9_37)]) [0, 1] (by decide) rfl
      have hK9 := hK.sub (tys' := [(cY, .int)]) [0] rfl
      exact W.iret (v := (x + nu) ^^^ nu) hx hb hr (fun tQ htQ hWQ => ⟨⟨((x + nu) ^^^ nu), (fY9_37, (nI (((tl ++ [51]) ++ [1]).length))), rfl, ⟨acS_5 (by assumption) (by assumption), by rw [show tl ++ btS kd = ((tl ++ [51]) ++ [1]) from (congrArg (fun z => tl ++ z) (btS_5 (by assumption) (by assumption))).trans (by simp)]; exact ⟨rfl, hY_42⟩⟩, by rw [htQ]; exact hP9, va_K.moved hWQ.alike hK9, hD9⟩, hS.F htQ⟩) hS.2.2 dX12_seesActs_49

theorem kc_plainGoes_0 : ∀ w ∈ wsX120, w ∈ wsX12_plainGoes := fun w h => List.mem_cons_of_mem _ (gin_wsX120 w h)
theorem kc_plainGoes_1 : (.fieldLink RX12 267 "MistHeapsModel" "tellsV" "I" : Cond) ∈ wsX12_plainGoes := kc_of 1162 rfl rfl rfl
set_option maxHeartbeats 4000000 in
set_option maxRecDepth 100000 in
theorem c_plainGoes (l : Launch) (dC : Nat → ClassId) (dI : Nat → Nat → Nat) (m0 aS aI aB aT aG aO aN aD aY : Nat) (th im ac sp en wg op se dn rn kd nu tv : Int32) (bv : Int64) (cY : ClassId) (fY : Nat → Int32) (tl : List Nat) (x : Int32) (sz : Nat) (hq : tl.length ≤ 17) (zY : okY fY tl) : Met l yX12_plainGoes wsX12_plainGoes ({ frames := 3, cells := 0, slots := 0, locals := 63 } : Room) (va_Pc [.ref m0, .int x] (fun U => U.heap.size = sz ∧ va_P (dC, dI) vwCl [(zo14irriiiiiirriirrrrlriiii m0 th aS aI im ac sp en wg op aB aT se dn aG aO aN aD bv aY (nI tl.length) kd nu tv), (zaI aY cY 20 fY)] U.heap ∧ va_K (dC, dI) vwCl [(cY, .int)] U ∧ va_D (fun _ => True) [(zo14irriiiiiirriirrrrlriiii m0 th aS aI im ac sp en wg op aB aT se dn aG aO aN aD bv aY (nI tl.length) kd nu tv), (zaI aY cY 20 fY)])) (va_Qi (fun (r : Int32) (u : (Nat → Int32) × (Int32)) => match u with | (fY9, rn9) => r = acS kd nu tv x - tv ∧ rn9 = nI (tl ++ (2 :: btS kd)).length ∧ okY fY9 (tl ++ (2 :: btS kd))) (fun (u : (Nat → Int32) × (Int32)) (t : State) => match u with | (fY9, rn9) => va_P (dC, dI) vwCl [(zo14irriiiiiirriirrrrlriiii m0 th aS aI im ac sp en wg op aB aT se dn aG aO aN aD bv aY rn9 kd nu tv), (zaI aY cY 20 fY9)] t.heap ∧ va_K (dC, dI) vwCl [(cY, .int)] t ∧ va_D (va_A [(zo14irriiiiiirriirrrrlriiii m0 th aS aI im ac sp en wg op aB aT se dn aG aO aN aD bv aY (nI tl.length) kd nu tv), (zaI aY cY 20 fY)] sz) [(zo14irriiiiiirriirrrrlriiii m0 th aS aI im ac sp en wg op aB aT se dn aG aO aN aD bv aY rn9 kd nu tv), (zaI aY cY 20 fY9)]) (va_A [(zo14irriiiiiirriirrrrlriiii m0 th aS aI im ac sp en wg op aB aT se dn aG aO aN aD bv aY (nI tl.length) kd nu tv), (zaI aY cY 20 fY)] sz)) 0 0 (va_A [(zo14irriiiiiirriirrrrlriiii m0 th aS aI im ac sp en wg op aB aT se dn aG aO aN aD bv aY (nI tl.length) kd nu tv), (zaI aY cY 20 fY)] sz) := by
  refine met_ofQ (cc := cX12_plainGoes) (maxL := 2) (ret := (some .int)) (by decide) rfl ?_
  intro p e s m args below meth c s₁ Q B hml hv hQ
  obtain ⟨rfl, hsz, hP, hK, hD0⟩ := hv
  have hx := B.exec
  have hb := B.bytes
  have hr := B.returns
  have hts := atoms_spec (ws := wsX12_plainGoes) B.pre
  have hown : s.vm.findClass RX12 = some m.cls := findClass_of_methodNamed B.named
  have hlocks := B.notSynchronized
  subst hsz
  have hD := hD0.self (sz := s.heap.size)
  generalize hAe : va_A [(zo14irriiiiiirriirrrrlriiii m0 th aS aI im ac sp en wg op aB aT se dn aG aO aN aD bv aY (nI tl.length) kd nu tv), (zaI aY cY 20 fY)] s.heap.size = A at hD hQ ⊢
  have hA : ∀ q : Nat, s.heap.size ≤ q → A q := fun q h => by rw [← hAe]; exact Or.inr h
  have hS : va_S A s.heap s.heap [] := va_S.rf
  have hl := lv_entry [.ref m0, .int x] (n := 2) (Nat.le_of_ble_eq_true rfl)
  rw [lg_entry_eq]
  generalize (lg_sl [.ref m0, .int x] ++ List.replicate (2 - (lg_sl [.ref m0, .int x]).length) Slot.unset).toArray = ls at hl ⊢
  generalize hag : ([.ref m0, .int x] : List Value).toArray = args at hts hQ ⊢
  have hl : lv_has ls 2 [(0, .ref m0), (1, .int x)] := hl
  obtain ⟨H, hH⟩ : ∃ H : Heap, H = s.heap := ⟨_, rfl⟩
  rw [← hH] at hP
  rw [← hH]
  have hS : va_S A s.heap H [] := by rw [hH]; exact hS
  obtain ⟨locs, hlo⟩ : ∃ L : List Loc, L = [] := ⟨_, rfl⟩
  rw [← hlo] at hS
  rw [← hlo]
  clear hH hlo
  refine lv_aload_n hx hb dX12_plainGoes_0 rfl (lv_at hl 0 rfl) ?_
  refine lv_iconst (v := 2) hx hb dX12_plainGoes_1 (by decide) ?_
  have hPc := hP.sub (ws' := [(zo14irriiiiiirriirrrrlriiii m0 th aS aI im ac sp en wg op aB aT se dn aG aO aN aD bv aY (nI tl.length) kd nu tv), (zaI aY cY 20 fY)]) [0, 1] rfl
  have hDc := hD.sub (ws' := [(zo14irriiiiiirriirrrrlriiii m0 th aS aI im ac sp en wg op aB aT se dn aG aO aN aD bv aY (nI tl.length) kd nu tv), (zaI aY cY 20 fY)]) [0, 1] (by decide) rfl
  have hKc := hK.sub (tys' := [(cY, .int)]) [0] rfl
  have hFc := va_free (wc := [(zo14irriiiiiirriirrrrlriiii m0 th aS aI im ac sp en wg op aB aT se dn aG aO aN aD bv aY (nI tl.length) kd nu tv), (zaI aY cY 20 fY)]) hD hS hA [0, 1] rfl
  refine va_callv (va_runV (As := [.int 2]) (rest := []) ⟨hx, hb, hml, hown, hts⟩ (c_ranBody l dC dI m0 aS aI aB aT aG aO aN aD aY th im ac sp en wg op se dn (nI tl.length) kd nu tv bv cY fY tl 2 H.size (by have hbS := btS_le kd; have hbG := btG_le kd; have hbL := btL_le kd; (try simp only [List.length_append, List.length_cons, List.length_nil]); omega) (zY)) (cwV 1 hts gX12_plainGoes_X12_ranBody rfl rfl rfl hd_yX12_ranBody ⟨Nat.le_of_ble_eq_true rfl, Nat.le_of_ble_eq_true rfl⟩) ⟨fun a U g mk q => by obtain ⟨q0, q1, qP, qK, qD⟩ := q; exact ⟨q0, q1, qP, va_K.moved (u := U) (U := U.calling g mk a) (Vm.Alike.refl U.vm) qK, qD⟩, va_recv hK hP (ci := 14) (q := (RX12, TX12, 23)) (q0 := 0) rfl rfl, fun U hU hW => ⟨rfl, by rw [hU], by rw [hU]; exact hPc, va_K.moved hW.alike hKc, hDc.weaken (fun _ _ _ _ => trivial)⟩⟩ rfl rfl hl.1 rfl (lv_room (Nat.le_of_ble_eq_true rfl)) dX12_plainGoes_2 ⟨Nat.le_of_ble_eq_true rfl, Nat.le_of_ble_eq_true rfl⟩) hS (fun q _ h => hFc q h) hFc (fun u tC H1 locs htC hvm hw_2 hB hz1 hk1 hS => ?_)
  obtain ⟨fY9_3, rn9_4⟩ := u
  try dsimp only at hw_2 hB
  obtain ⟨hP1, hK1, hD1⟩ := hB
  rw [htC] at hP1
  have hK1 := va_K.moved hvm.symm hK1
  obtain ⟨hP, hD⟩ := va_join (wr := []) (w1 := [(zo14irriiiiiirriirrrrlriiii m0 th aS aI im ac sp en wg op aB aT se dn aG aO aN aD bv aY rn9_4 kd nu tv), (zaI aY cY 20 fY9_3)]) hP hD [0, 1] [] rfl rfl (by decide) (by decide) hk1 hFc hP1 hD1
  have hK := (hK.sub (tys' := []) [] rfl).app hK1
  generalize H1 = H at hP hS ⊢
  have hP : va_P (dC, dI) vwCl [(zo14irriiiiiirriirrrrlriiii m0 th aS aI im ac sp en wg op aB aT se dn aG aO aN aD bv aY rn9_4 kd nu tv), (zaI aY cY 20 fY9_3)] H := hP
  have hD : va_D A [(zo14irriiiiiirriirrrrlriiii m0 th aS aI im ac sp en wg op aB aT se dn aG aO aN aD bv aY rn9_4 kd nu tv), (zaI aY cY 20 fY9_3)] := hD
  have hK : va_K (dC, dI) vwCl [(cY, .int)] s := hK
  obtain ⟨e_5, hY_6⟩ := hw_2
  obtain rfl := e_5
  refine lv_aload_n hx hb dX12_plainGoes_5 rfl (lv_at hl 0 rfl) ?_
  refine lv_iload_n hx hb dX12_plainGoes_6 rfl (lv_at hl 1 rfl) ?_
  have hPc := hP.sub (ws' := [(zo14irriiiiiirriirrrrlriiii m0 th aS aI im ac sp en wg op aB aT se dn aG aO aN aD bv aY (nI ((tl ++ [2]).length)) kd nu tv), (zaI aY cY 20 fY9_3)]) [0, 1] rfl
  have hDc := hD.sub (ws' := [(zo14irriiiiiirriirrrrlriiii m0 th aS aI im ac sp en wg op aB aT se dn aG aO aN aD bv aY (nI ((tl ++ [2]).length)) kd nu tv), (zaI aY cY 20 fY9_3)]) [0, 1] (by decide) rfl
  have hKc := hK.sub (tys' := [(cY, .int)]) [0] rfl
  have hFc := va_free (wc := [(zo14irriiiiiirriirrrrlriiii m0 th aS aI im ac sp en wg op aB aT se dn aG aO aN aD bv aY (nI ((tl ++ [2]).length)) kd nu tv), (zaI aY cY 20 fY9_3)]) hD hS hA [0, 1] rfl
  refine va_calli (va_runV (As := [.int x]) (rest := []) ⟨hx, hb, hml, hown, hts⟩ (c_seesActs l dC dI m0 aS aI aB aT aG aO aN aD aY th im ac sp en wg op se dn (nI ((tl ++ [2]).length)) kd nu tv bv cY fY9_3 (tl ++ [2]) x H.size (by have hbS := btS_le kd; have hbG := btG_le kd; have hbL := btL_le kd; (try simp only [List.length_append, List.length_cons, List.length_nil]); omega) (hY_6)) (cwV 1 hts gX12_plainGoes_X12_seesActs rfl rfl rfl hd_yX12_seesActs ⟨Nat.le_of_ble_eq_true rfl, Nat.le_of_ble_eq_true rfl⟩) ⟨fun a U g mk q => by obtain ⟨q0, q1, qP, qK, qD⟩ := q; exact ⟨q0, q1, qP, va_K.moved (u := U) (U := U.calling g mk a) (Vm.Alike.refl U.vm) qK, qD⟩, va_recv hK hP (ci := 14) (q := (RX12, TX12, 23)) (q0 := 0) rfl rfl, fun U hU hW => ⟨rfl, by rw [hU], by rw [hU]; exact hPc, va_K.moved hW.alike hKc, hDc.weaken (fun _ _ _ _ => trivial)⟩⟩ rfl rfl hl.1 rfl (lv_room (Nat.le_of_ble_eq_true rfl)) dX12_plainGoes_7 ⟨Nat.le_of_ble_eq_true rfl, Nat.le_of_ble_eq_true rfl⟩) hS (fun q _ h => hFc q h) hFc (fun r_7 u tC H1 locs htC hvm hw_8 hB hz1 hk1 hS => ?_)
  obtain ⟨fY9_9, rn9_10⟩ := u
  try dsimp only at hw_8 hB
  obtain ⟨hP1, hK1, hD1⟩ := hB
  rw [htC] at hP1
  have hK1 := va_K.moved hvm.symm hK1
  obtain ⟨hP, hD⟩ := va_join (wr := []) (w1 := [(zo14irriiiiiirriirrrrlriiii m0 th aS aI im ac sp en wg op aB aT se dn aG aO aN aD bv aY rn9_10 kd nu tv), (zaI aY cY 20 fY9_9)]) hP hD [0, 1] [] rfl rfl (by decide) (by decide) hk1 hFc hP1 hD1
  have hK := (hK.sub (tys' := []) [] rfl).app hK1
  generalize H1 = H at hP hS ⊢
  have hP : va_P (dC, dI) vwCl [(zo14irriiiiiirriirrrrlriiii m0 th aS aI im ac sp en wg op aB aT se dn aG aO aN aD bv aY rn9_10 kd nu tv), (zaI aY cY 20 fY9_9)] H := hP
  have hD : va_D A [(zo14irriiiiiirriirrrrlriiii m0 th aS aI im ac sp en wg op aB aT se dn aG aO aN aD bv aY rn9_10 kd nu tv), (zaI aY cY 20 fY9_9)] := hD
  have hK : va_K (dC, dI) vwCl [(cY, .int)] s := hK
  obtain ⟨er_11, h_12⟩ := hw_8
  obtain ⟨e_13, hY_14⟩ := h_12
  obtain rfl := e_13
  subst er_11
  refine lv_aload_n hx hb dX12_plainGoes_10 rfl (lv_at hl 0 rfl) ?_
  refine va_get (D := (dC, dI)) (ci := 14) (v := .int tv) (C := RX12) (T := TX12) (N := 23) hx hb hts kc_plainGoes_0 hown hK hP 0 rfl rfl 22 (by decide) (hts (.fieldLink RX12 267 "MistHeapsModel" "tellsV" "I") kc_plainGoes_1) (fun _ h9 => h9) rfl dX12_plainGoes_11 ?_
  refine lv_isub hx hb dX12_plainGoes_14 ?_
  rw [hQ]
  have hP9 := hP.sub (ws' := [(zo14irriiiiiirriirrrrlriiii m0 th aS aI im ac sp en wg op aB aT se dn aG aO aN aD bv aY (nI (((tl ++ [2]) ++ btS kd).length)) kd nu tv), (zaI aY cY 20 fY9_9)]) [0, 1] rfl
  have hD9 := hD.sub (ws' := [(zo14irriiiiiirriirrrrlriiii m0 th aS aI im ac sp en wg op aB aT se dn aG aO aN aD bv aY (nI (((tl ++ [2]) ++ btS kd).length)) kd nu tv), (zaI aY cY 20 fY9_9)]) [0, 1] (by decide) rfl
  have hK9 := hK.sub (tys' := [(cY, .int)]) [0] rfl
  exact W.iret (v := (acS kd nu tv x) - tv) hx hb hr (fun tQ htQ hWQ => ⟨⟨((acS kd nu tv x) - tv), (fY9_9, (nI (((tl ++ [2]) ++ btS kd).length))), rfl, ⟨rfl, by rw [show tl ++ (2 :: btS kd) = ((tl ++ [2]) ++ btS kd) from by simp]; exact ⟨rfl, hY_14⟩⟩, by rw [htQ]; exact hP9, va_K.moved hWQ.alike hK9, hD9⟩, hS.F htQ⟩) hS.2.2 dX12_plainGoes_15

theorem kc_goesActs_0 : ∀ w ∈ wsX120, w ∈ wsX12_goesActs := fun w h => List.mem_cons_of_mem _ (gin_wsX120 w h)
theorem kc_goesActs_1 : (.fieldLink RX12 255 "MistHeapsModel" "kind" "I" : Cond) ∈ wsX12_goesActs := kc_of 1160 rfl rfl rfl
theorem kc_goesActs_2 : (.fieldLink RX12 267 "MistHeapsModel" "tellsV" "I" : Cond) ∈ wsX12_goesActs := kc_of 1162 rfl rfl rfl
set_option maxHeartbeats 4000000 in
set_option maxRecDepth 100000 in
theorem c_goesActs (l : Launch) (dC : Nat → ClassId) (dI : Nat → Nat → Nat) (m0 aS aI aB aT aG aO aN aD aY : Nat) (th im ac sp en wg op se dn rn kd nu tv : Int32) (bv : Int64) (cY : ClassId) (fY : Nat → Int32) (tl : List Nat) (x : Int32) (sz : Nat) (hq : tl.length ≤ 16) (zY : okY fY tl) : Met l yX12_goesActs wsX12_goesActs ({ frames := 4, cells := 0, slots := 0, locals := 84 } : Room) (va_Pc [.ref m0, .int x] (fun U => U.heap.size = sz ∧ va_P (dC, dI) vwCl [(zo14irriiiiiirriirrrrlriiii m0 th aS aI im ac sp en wg op aB aT se dn aG aO aN aD bv aY (nI tl.length) kd nu tv), (zaI aY cY 20 fY)] U.heap ∧ va_K (dC, dI) vwCl [(cY, .int)] U ∧ va_D (fun _ => True) [(zo14irriiiiiirriirrrrlriiii m0 th aS aI im ac sp en wg op aB aT se dn aG aO aN aD bv aY (nI tl.length) kd nu tv), (zaI aY cY 20 fY)])) (va_Qi (fun (r : Int32) (u : (Nat → Int32) × (Int32)) => match u with | (fY9, rn9) => r = acG kd nu tv x ∧ rn9 = nI (tl ++ btG kd).length ∧ okY fY9 (tl ++ btG kd)) (fun (u : (Nat → Int32) × (Int32)) (t : State) => match u with | (fY9, rn9) => va_P (dC, dI) vwCl [(zo14irriiiiiirriirrrrlriiii m0 th aS aI im ac sp en wg op aB aT se dn aG aO aN aD bv aY rn9 kd nu tv), (zaI aY cY 20 fY9)] t.heap ∧ va_K (dC, dI) vwCl [(cY, .int)] t ∧ va_D (va_A [(zo14irriiiiiirriirrrrlriiii m0 th aS aI im ac sp en wg op aB aT se dn aG aO aN aD bv aY (nI tl.length) kd nu tv), (zaI aY cY 20 fY)] sz) [(zo14irriiiiiirriirrrrlriiii m0 th aS aI im ac sp en wg op aB aT se dn aG aO aN aD bv aY rn9 kd nu tv), (zaI aY cY 20 fY9)]) (va_A [(zo14irriiiiiirriirrrrlriiii m0 th aS aI im ac sp en wg op aB aT se dn aG aO aN aD bv aY (nI tl.length) kd nu tv), (zaI aY cY 20 fY)] sz)) 0 0 (va_A [(zo14irriiiiiirriirrrrlriiii m0 th aS aI im ac sp en wg op aB aT se dn aG aO aN aD bv aY (nI tl.length) kd nu tv), (zaI aY cY 20 fY)] sz) := by
  refine met_ofQ (cc := cX12_goesActs) (maxL := 2) (ret := (some .int)) (by decide) rfl ?_
  intro p e s m args below meth c s₁ Q B hml hv hQ
  obtain ⟨rfl, hsz, hP, hK, hD0⟩ := hv
  have hx := B.exec
  have hb := B.bytes
  have hr := B.returns
  have hts := atoms_spec (ws := wsX12_goesActs) B.pre
  have hown : s.vm.findClass RX12 = some m.cls := findClass_of_methodNamed B.named
  have hlocks := B.notSynchronized
  subst hsz
  have hD := hD0.self (sz := s.heap.size)
  generalize hAe : va_A [(zo14irriiiiiirriirrrrlriiii m0 th aS aI im ac sp en wg op aB aT se dn aG aO aN aD bv aY (nI tl.length) kd nu tv), (zaI aY cY 20 fY)] s.heap.size = A at hD hQ ⊢
  have hA : ∀ q : Nat, s.heap.size ≤ q → A q := fun q h => by rw [← hAe]; exact Or.inr h
  have hS : va_S A s.heap s.heap [] := va_S.rf
  have hl := lv_entry [.ref m0, .int x] (n := 2) (Nat.le_of_ble_eq_true rfl)
  rw [lg_entry_eq]
  generalize (lg_sl [.ref m0, .int x] ++ List.replicate (2 - (lg_sl [.ref m0, .int x]).length) Slot.unset).toArray = ls at hl ⊢
  generalize hag : ([.ref m0, .int x] : List Value).toArray = args at hts hQ ⊢
  have hl : lv_has ls 2 [(0, .ref m0), (1, .int x)] := hl
  obtain ⟨H, hH⟩ : ∃ H : Heap, H = s.heap := ⟨_, rfl⟩
  rw [← hH] at hP
  rw [← hH]
  have hS : va_S A s.heap H [] := by rw [hH]; exact hS
  obtain ⟨locs, hlo⟩ : ∃ L : List Loc, L = [] := ⟨_, rfl⟩
  rw [← hlo] at hS
  rw [← hlo]
  clear hH hlo
  refine lv_aload_n hx hb dX12_goesActs_0 rfl (lv_at hl 0 rfl) ?_
  refine va_get (D := (dC, dI)) (ci := 14) (v := .int kd) (C := RX12) (T := TX12) (N := 23) hx hb hts kc_goesActs_0 hown hK hP 0 rfl rfl 20 (by decide) (hts (.fieldLink RX12 255 "MistHeapsModel" "kind" "I") kc_goesActs_1) (fun _ h9 => h9) rfl dX12_goesActs_1 ?_
  refine lv_iconst (v := 2) hx hb dX12_goesActs_4 (by decide) ?_
  refine vp_callSi (va_runS (As := [.int kd, .int 2]) (rest := []) ⟨hx, hb, hml, hown, hts⟩ (c_under l dC dI kd 2) (va_cwS 2 hts gX12_goesActs_X12_isUnder rfl rfl rfl hd_yX12_isUnder.2 ⟨Nat.le_of_ble_eq_true rfl, Nat.le_of_ble_eq_true rfl⟩) ⟨fun a U g mk q => ⟨q.1, trivial⟩, fun U hU hW => ⟨rfl, trivial⟩⟩ rfl rfl hl.1 rfl (lv_room (Nat.le_of_ble_eq_true rfl)) dX12_goesActs_5 ⟨Nat.le_of_ble_eq_true rfl, Nat.le_of_ble_eq_true rfl⟩).run (fun r_1 hw_2 => ?_)
  rcases hw_2 with ⟨rfl, hU_3⟩ | ⟨rfl, hU_3⟩
  · skip
    refine lv_if_eq (tgt := 24) hx hb dX12_goesActs_8 (by decide) (fun c_4 => absurd c_4 (by decide)) (fun _ => ?_)
    refine lv_aload_n hx hb dX12_goesActs_11 rfl (lv_at hl 0 rfl) ?_
    refine lv_bipush (v := 21) hx hb dX12_goesActs_12 (by decide) ?_
    have hPc := hP.sub (ws' := [(zo14irriiiiiirriirrrrlriiii m0 th aS aI im ac sp en wg op aB aT se dn aG aO aN aD bv aY (nI tl.length) kd nu tv), (zaI aY cY 20 fY)]) [0, 1] rfl
    have hDc := hD.sub (ws' := [(zo14irriiiiiirriirrrrlriiii m0 th aS aI im ac sp en wg op aB aT se dn aG aO aN aD bv aY (nI tl.length) kd nu tv), (zaI aY cY 20 fY)]) [0, 1] (by decide) rfl
    have hKc := hK.sub (tys' := [(cY, .int)]) [0] rfl
    have hFc := va_free (wc := [(zo14irriiiiiirriirrrrlriiii m0 th aS aI im ac sp en wg op aB aT se dn aG aO aN aD bv aY (nI tl.length) kd nu tv), (zaI aY cY 20 fY)]) hD hS hA [0, 1] rfl
    refine va_callv (va_runV (As := [.int 21]) (rest := []) ⟨hx, hb, hml, hown, hts⟩ (c_ranBody l dC dI m0 aS aI aB aT aG aO aN aD aY th im ac sp en wg op se dn (nI tl.length) kd nu tv bv cY fY tl 21 H.size (by have hbS := btS_le kd; have hbG := btG_le kd; have hbL := btL_le kd; (try simp only [List.length_append, List.length_cons, List.length_nil]); omega) (zY)) (cwV 1 hts gX12_goesActs_X12_ranBody rfl rfl rfl hd_yX12_ranBody ⟨Nat.le_of_ble_eq_true rfl, Nat.le_of_ble_eq_true rfl⟩) ⟨fun a U g mk q => by obtain ⟨q0, q1, qP, qK, qD⟩ := q; exact ⟨q0, q1, qP, va_K.moved (u := U) (U := U.calling g mk a) (Vm.Alike.refl U.vm) qK, qD⟩, va_recv hK hP (ci := 14) (q := (RX12, TX12, 23)) (q0 := 0) rfl rfl, fun U hU hW => ⟨rfl, by rw [hU], by rw [hU]; exact hPc, va_K.moved hW.alike hKc, hDc.weaken (fun _ _ _ _ => trivial)⟩⟩ rfl rfl hl.1 rfl (lv_room (Nat.le_of_ble_eq_true rfl)) dX12_goesActs_14 ⟨Nat.le_of_ble_eq_true rfl, Nat.le_of_ble_eq_true rfl⟩) hS (fun q _ h => hFc q h) hFc (fun u tC H1 locs htC hvm hw_6 hB hz1 hk1 hS => ?_)
    obtain ⟨fY9_7, rn9_8⟩ := u
    try dsimp only at hw_6 hB
    obtain ⟨hP1, hK1, hD1⟩ := hB
    rw [htC] at hP1
    have hK1 := va_K.moved hvm.symm hK1
    obtain ⟨hP, hD⟩ := va_join (wr := []) (w1 := [(zo14irriiiiiirriirrrrlriiii m0 th aS aI im ac sp en wg op aB aT se dn aG aO aN aD bv aY rn9_8 kd nu tv), (zaI aY cY 20 fY9_7)]) hP hD [0, 1] [] rfl rfl (by decide) (by decide) hk1 hFc hP1 hD1
    have hK := (hK.sub (tys' := []) [] rfl).app hK1
    generalize H1 = H at hP hS ⊢
    have hP : va_P (dC, dI) vwCl [(zo14irriiiiiirriirrrrlriiii m0 th aS aI im ac sp en wg op aB aT se dn aG aO aN aD bv aY rn9_8 kd nu tv), (zaI aY cY 20 fY9_7)] H := hP
    have hD : va_D A [(zo14irriiiiiirriirrrrlriiii m0 th aS aI im ac sp en wg op aB aT se dn aG aO aN aD bv aY rn9_8 kd nu tv), (zaI aY cY 20 fY9_7)] := hD
    have hK : va_K (dC, dI) vwCl [(cY, .int)] s := hK
    obtain ⟨e_9, hY_10⟩ := hw_6
    obtain rfl := e_9
    refine lv_aload_n hx hb dX12_goesActs_17 rfl (lv_at hl 0 rfl) ?_
    refine lv_iload_n hx hb dX12_goesActs_18 rfl (lv_at hl 1 rfl) ?_
    have hPc := hP.sub (ws' := [(zo14irriiiiiirriirrrrlriiii m0 th aS aI im ac sp en wg op aB aT se dn aG aO aN aD bv aY (nI ((tl ++ [21]).length)) kd nu tv), (zaI aY cY 20 fY9_7)]) [0, 1] rfl
    have hDc := hD.sub (ws' := [(zo14irriiiiiirriirrrrlriiii m0 th aS aI im ac sp en wg op aB aT se dn aG aO aN aD bv aY (nI ((tl ++ [21]).length)) kd nu tv), (zaI aY cY 20 fY9_7)]) [0, 1] (by decide) rfl
    have hKc := hK.sub (tys' := [(cY, .int)]) [0] rfl
    have hFc := va_free (wc := [(zo14irriiiiiirriirrrrlriiii m0 th aS aI im ac sp en wg op aB aT se dn aG aO aN aD bv aY (nI ((tl ++ [21]).length)) kd nu tv), (zaI aY cY 20 fY9_7)]) hD hS hA [0, 1] rfl
    refine va_calli (va_runV (As := [.int x]) (rest := []) ⟨hx, hb, hml, hown, hts⟩ (c_plainGoes l dC dI m0 aS aI aB aT aG aO aN aD aY th im ac sp en wg op se dn (nI ((tl ++ [21]).length)) kd nu tv bv cY fY9_7 (tl ++ [21]) x H.size (by have hbS := btS_le kd; have hbG := btG_le kd; have hbL := btL_le kd; (try simp only [List.length_append, List.length_cons, List.length_nil]); omega) (hY_10)) (cwV 1 hts gX12_goesActs_X12_plainGoes rfl rfl rfl hd_yX12_plainGoes ⟨Nat.le_of_ble_eq_true rfl, Nat.le_of_ble_eq_true rfl⟩) ⟨fun a U g mk q => by obtain ⟨q0, q1, qP, qK, qD⟩ := q; exact ⟨q0, q1, qP, va_K.moved (u := U) (U := U.calling g mk a) (Vm.Alike.refl U.vm) qK, qD⟩, va_recv hK hP (ci := 14) (q := (RX12, TX12, 23)) (q0 := 0) rfl rfl, fun U hU hW => ⟨rfl, by rw [hU], by rw [hU]; exact hPc, va_K.moved hW.alike hKc, hDc.weaken (fun _ _ _ _ => trivial)⟩⟩ rfl rfl hl.1 rfl (lv_room (Nat.le_of_ble_eq_true rfl)) dX12_goesActs_19 ⟨Nat.le_of_ble_eq_true rfl, Nat.le_of_ble_eq_true rfl⟩) hS (fun q _ h => hFc q h) hFc (fun r_11 u tC H1 locs htC hvm hw_12 hB hz1 hk1 hS => ?_)
    obtain ⟨fY9_13, rn9_14⟩ := u
    try dsimp only at hw_12 hB
    obtain ⟨hP1, hK1, hD1⟩ := hB
    rw [htC] at hP1
    have hK1 := va_K.moved hvm.symm hK1
    obtain ⟨hP, hD⟩ := va_join (wr := []) (w1 := [(zo14irriiiiiirriirrrrlriiii m0 th aS aI im ac sp en wg op aB aT se dn aG aO aN aD bv aY rn9_14 kd nu tv), (zaI aY cY 20 fY9_13)]) hP hD [0, 1] [] rfl rfl (by decide) (by decide) hk1 hFc hP1 hD1
    have hK := (hK.sub (tys' := []) [] rfl).app hK1
    generalize H1 = H at hP hS ⊢
    have hP : va_P (dC, dI) vwCl [(zo14irriiiiiirriirrrrlriiii m0 th aS aI im ac sp en wg op aB aT se dn aG aO aN aD bv aY rn9_14 kd nu tv), (zaI aY cY 20 fY9_13)] H := hP
    have hD : va_D A [(zo14irriiiiiirriirrrrlriiii m0 th aS aI im ac sp en wg op aB aT se dn aG aO aN aD bv aY rn9_14 kd nu tv), (zaI aY cY 20 fY9_13)] := hD
    have hK : va_K (dC, dI) vwCl [(cY, .int)] s := hK
    obtain ⟨er_15, h_16⟩ := hw_12
    obtain ⟨e_17, hY_18⟩ := h_16
    obtain rfl := e_17
    subst er_15
    refine lv_ineg hx hb dX12_goesActs_22 ?_
    rw [hQ]
    have hP9 := hP.sub (ws' := [(zo14irriiiiiirriirrrrlriiii m0 th aS aI im ac sp en wg op aB aT se dn aG aO aN aD bv aY (nI (((tl ++ [21]) ++ (2 :: btS kd)).length)) kd nu tv), (zaI aY cY 20 fY9_13)]) [0, 1] rfl
    have hD9 := hD.sub (ws' := [(zo14irriiiiiirriirrrrlriiii m0 th aS aI im ac sp en wg op aB aT se dn aG aO aN aD bv aY (nI (((tl ++ [21]) ++ (2 :: btS kd)).length)) kd nu tv), (zaI aY cY 20 fY9_13)]) [0, 1] (by decide) rfl
    have hK9 := hK.sub (tys' := [(cY, .int)]) [0] rfl
    exact W.iret (v := -(acS kd nu tv x - tv)) hx hb hr (fun tQ htQ hWQ => ⟨⟨(-(acS kd nu tv x - tv)), (fY9_13, (nI (((tl ++ [21]) ++ (2 :: btS kd)).length))), rfl, ⟨acG_2 (by assumption), by rw [show tl ++ btG kd = ((tl ++ [21]) ++ (2 :: btS kd)) from (congrArg (fun z => tl ++ z) (btG_2 (by assumption))).trans (by simp)]; exact ⟨rfl, hY_18⟩⟩, by rw [htQ]; exact hP9, va_K.moved hWQ.alike hK9, hD9⟩, hS.F htQ⟩) hS.2.2 dX12_goesActs_23
  · skip
    refine lv_if_eq (tgt := 24) hx hb dX12_goesActs_8 (by decide) (fun _ => ?_) (fun c_19 => absurd c_19 (by decide))
    refine lv_aload_n hx hb dX12_goesActs_24 rfl (lv_at hl 0 rfl) ?_
    refine va_get (D := (dC, dI)) (ci := 14) (v := .int kd) (C := RX12) (T := TX12) (N := 23) hx hb hts kc_goesActs_0 hown hK hP 0 rfl rfl 20 (by decide) (hts (.fieldLink RX12 255 "MistHeapsModel" "kind" "I") kc_goesActs_1) (fun _ h9 => h9) rfl dX12_goesActs_25 ?_
    refine lv_bipush (v := 6) hx hb dX12_goesActs_28 (by decide) ?_
    refine lv_icmp_ne (tgt := 50) hx hb dX12_goesActs_30 (by decide) (fun c_20 => ?_) (fun c_20 => ?_)
    · skip
      refine lv_aload_n hx hb dX12_goesActs_50 rfl (lv_at hl 0 rfl) ?_
      refine lv_iload_n hx hb dX12_goesActs_51 rfl (lv_at hl 1 rfl) ?_
      have hPc := hP.sub (ws' := [(zo14irriiiiiirriirrrrlriiii m0 th aS aI im ac sp en wg op aB aT se dn aG aO aN aD bv aY (nI tl.length) kd nu tv), (zaI aY cY 20 fY)]) [0, 1] rfl
      have hDc := hD.sub (ws' := [(zo14irriiiiiirriirrrrlriiii m0 th aS aI im ac sp en wg op aB aT se dn aG aO aN aD bv aY (nI tl.length) kd nu tv), (zaI aY cY 20 fY)]) [0, 1] (by decide) rfl
      have hKc := hK.sub (tys' := [(cY, .int)]) [0] rfl
      have hFc := va_free (wc := [(zo14irriiiiiirriirrrrlriiii m0 th aS aI im ac sp en wg op aB aT se dn aG aO aN aD bv aY (nI tl.length) kd nu tv), (zaI aY cY 20 fY)]) hD hS hA [0, 1] rfl
      refine va_calli (va_runV (As := [.int x]) (rest := []) ⟨hx, hb, hml, hown, hts⟩ (c_plainGoes l dC dI m0 aS aI aB aT aG aO aN aD aY th im ac sp en wg op se dn (nI tl.length) kd nu tv bv cY fY tl x H.size (by have hbS := btS_le kd; have hbG := btG_le kd; have hbL := btL_le kd; (try simp only [List.length_append, List.length_cons, List.length_nil]); omega) (zY)) (cwV 1 hts gX12_goesActs_X12_plainGoes rfl rfl rfl hd_yX12_plainGoes ⟨Nat.le_of_ble_eq_true rfl, Nat.le_of_ble_eq_true rfl⟩) ⟨fun a U g mk q => by obtain ⟨q0, q1, qP, qK, qD⟩ := q; exact ⟨q0, q1, qP, va_K.moved (u := U) (U := U.calling g mk a) (Vm.Alike.refl U.vm) qK, qD⟩, va_recv hK hP (ci := 14) (q := (RX12, TX12, 23)) (q0 := 0) rfl rfl, fun U hU hW => ⟨rfl, by rw [hU], by rw [hU]; exact hPc, va_K.moved hW.alike hKc, hDc.weaken (fun _ _ _ _ => trivial)⟩⟩ rfl rfl hl.1 rfl (lv_room (Nat.le_of_ble_eq_true rfl)) dX12_goesActs_52 ⟨Nat.le_of_ble_eq_true rfl, Nat.le_of_ble_eq_true rfl⟩) hS (fun q _ h => hFc q h) hFc (fun r_21 u tC H1 locs htC hvm hw_22 hB hz1 hk1 hS => ?_)
      obtain ⟨fY9_23, rn9_24⟩ := u
      try dsimp only at hw_22 hB
      obtain ⟨hP1, hK1, hD1⟩ := hB
      rw [htC] at hP1
      have hK1 := va_K.moved hvm.symm hK1
      obtain ⟨hP, hD⟩ := va_join (wr := []) (w1 := [(zo14irriiiiiirriirrrrlriiii m0 th aS aI im ac sp en wg op aB aT se dn aG aO aN aD bv aY rn9_24 kd nu tv), (zaI aY cY 20 fY9_23)]) hP hD [0, 1] [] rfl rfl (by decide) (by decide) hk1 hFc hP1 hD1
      have hK := (hK.sub (tys' := []) [] rfl).app hK1
      generalize H1 = H at hP hS ⊢
      have hP : va_P (dC, dI) vwCl [(zo14irriiiiiirriirrrrlriiii m0 th aS aI im ac sp en wg op aB aT se dn aG aO aN aD bv aY rn9_24 kd nu tv), (zaI aY cY 20 fY9_23)] H := hP
      have hD : va_D A [(zo14irriiiiiirriirrrrlriiii m0 th aS aI im ac sp en wg op aB aT se dn aG aO aN aD bv aY rn9_24 kd nu tv), (zaI aY cY 20 fY9_23)] := hD
      have hK : va_K (dC, dI) vwCl [(cY, .int)] s := hK
      obtain ⟨er_25, h_26⟩ := hw_22
      obtain ⟨e_27, hY_28⟩ := h_26
      obtain rfl := e_27
      subst er_25
      rw [hQ]
      have hP9 := hP.sub (ws' := [(zo14irriiiiiirriirrrrlriiii m0 th aS aI im ac sp en wg op aB aT se dn aG aO aN aD bv aY (nI ((tl ++ (2 :: btS kd)).length)) kd nu tv), (zaI aY cY 20 fY9_23)]) [0, 1] rfl
      have hD9 := hD.sub (ws' := [(zo14irriiiiiirriirrrrlriiii m0 th aS aI im ac sp en wg op aB aT se dn aG aO aN aD bv aY (nI ((tl ++ (2 :: btS kd)).length)) kd nu tv), (zaI aY cY 20 fY9_23)]) [0, 1] (by decide) rfl
      have hK9 := hK.sub (tys' := [(cY, .int)]) [0] rfl
      exact W.iret (v := acS kd nu tv x - tv) hx hb hr (fun tQ htQ hWQ => ⟨⟨(acS kd nu tv x - tv), (fY9_23, (nI ((tl ++ (2 :: btS kd)).length))), rfl, ⟨acG_0 (by assumption) (by assumption), by rw [show tl ++ btG kd = (tl ++ (2 :: btS kd)) from (congrArg (fun z => tl ++ z) (btG_0 (by assumption) (by assumption))).trans (by simp)]; exact ⟨rfl, hY_28⟩⟩, by rw [htQ]; exact hP9, va_K.moved hWQ.alike hK9, hD9⟩, hS.F htQ⟩) hS.2.2 dX12_goesActs_55
    · skip
      refine lv_aload_n hx hb dX12_goesActs_33 rfl (lv_at hl 0 rfl) ?_
      refine lv_bipush (v := 61) hx hb dX12_goesActs_34 (by decide) ?_
      have hPc := hP.sub (ws' := [(zo14irriiiiiirriirrrrlriiii m0 th aS aI im ac sp en wg op aB aT se dn aG aO aN aD bv aY (nI tl.length) kd nu tv), (zaI aY cY 20 fY)]) [0, 1] rfl
      have hDc := hD.sub (ws' := [(zo14irriiiiiirriirrrrlriiii m0 th aS aI im ac sp en wg op aB aT se dn aG aO aN aD bv aY (nI tl.length) kd nu tv), (zaI aY cY 20 fY)]) [0, 1] (by decide) rfl
      have hKc := hK.sub (tys' := [(cY, .int)]) [0] rfl
      have hFc := va_free (wc := [(zo14irriiiiiirriirrrrlriiii m0 th aS aI im ac sp en wg op aB aT se dn aG aO aN aD bv aY (nI tl.length) kd nu tv), (zaI aY cY 20 fY)]) hD hS hA [0, 1] rfl
      refine va_callv (va_runV (As := [.int 61]) (rest := []) ⟨hx, hb, hml, hown, hts⟩ (c_ranBody l dC dI m0 aS aI aB aT aG aO aN aD aY th im ac sp en wg op se dn (nI tl.length) kd nu tv bv cY fY tl 61 H.size (by have hbS := btS_le kd; have hbG := btG_le kd; have hbL := btL_le kd; (try simp only [List.length_append, List.length_cons, List.length_nil]); omega) (zY)) (cwV 1 hts gX12_goesActs_X12_ranBody rfl rfl rfl hd_yX12_ranBody ⟨Nat.le_of_ble_eq_true rfl, Nat.le_of_ble_eq_true rfl⟩) ⟨fun a U g mk q => by obtain ⟨q0, q1, qP, qK, qD⟩ := q; exact ⟨q0, q1, qP, va_K.moved (u := U) (U := U.calling g mk a) (Vm.Alike.refl U.vm) qK, qD⟩, va_recv hK hP (ci := 14) (q := (RX12, TX12, 23)) (q0 := 0) rfl rfl, fun U hU hW => ⟨rfl, by rw [hU], by rw [hU]; exact hPc, va_K.moved hW.alike hKc, hDc.weaken (fun _ _ _ _ => trivial)⟩⟩ rfl rfl hl.1 rfl (lv_room (Nat.le_of_ble_eq_true rfl)) dX12_goesActs_36 ⟨Nat.le_of_ble_eq_true rfl, Nat.le_of_ble_eq_true rfl⟩) hS (fun q _ h => hFc q h) hFc (fun u tC H1 locs htC hvm hw_30 hB hz1 hk1 hS => ?_)
      obtain ⟨fY9_31, rn9_32⟩ := u
      try dsimp only at hw_30 hB
      obtain ⟨hP1, hK1, hD1⟩ := hB
      rw [htC] at hP1
      have hK1 := va_K.moved hvm.symm hK1
      obtain ⟨hP, hD⟩ := va_join (wr := []) (w1 := [(zo14irriiiiiirriirrrrlriiii m0 th aS aI im ac sp en wg op aB aT se dn aG aO aN aD bv aY rn9_32 kd nu tv), (zaI aY cY 20 fY9_31)]) hP hD [0, 1] [] rfl rfl (by decide) (by decide) hk1 hFc hP1 hD1
      have hK := (hK.sub (tys' := []) [] rfl).app hK1
      generalize H1 = H at hP hS ⊢
      have hP : va_P (dC, dI) vwCl [(zo14irriiiiiirriirrrrlriiii m0 th aS aI im ac sp en wg op aB aT se dn aG aO aN aD bv aY rn9_32 kd nu tv), (zaI aY cY 20 fY9_31)] H := hP
      have hD : va_D A [(zo14irriiiiiirriirrrrlriiii m0 th aS aI im ac sp en wg op aB aT se dn aG aO aN aD bv aY rn9_32 kd nu tv), (zaI aY cY 20 fY9_31)] := hD
      have hK : va_K (dC, dI) vwCl [(cY, .int)] s := hK
      obtain ⟨e_33, hY_34⟩ := hw_30
      obtain rfl := e_33
      refine lv_aload_n hx hb dX12_goesActs_39 rfl (lv_at hl 0 rfl) ?_
      refine lv_iload_n hx hb dX12_goesActs_40 rfl (lv_at hl 1 rfl) ?_
      have hPc := hP.sub (ws' := [(zo14irriiiiiirriirrrrlriiii m0 th aS aI im ac sp en wg op aB aT se dn aG aO aN aD bv aY (nI ((tl ++ [61]).length)) kd nu tv), (zaI aY cY 20 fY9_31)]) [0, 1] rfl
      have hDc := hD.sub (ws' := [(zo14irriiiiiirriirrrrlriiii m0 th aS aI im ac sp en wg op aB aT se dn aG aO aN aD bv aY (nI ((tl ++ [61]).length)) kd nu tv), (zaI aY cY 20 fY9_31)]) [0, 1] (by decide) rfl
      have hKc := hK.sub (tys' := [(cY, .int)]) [0] rfl
      have hFc := va_free (wc := [(zo14irriiiiiirriirrrrlriiii m0 th aS aI im ac sp en wg op aB aT se dn aG aO aN aD bv aY (nI ((tl ++ [61]).length)) kd nu tv), (zaI aY cY 20 fY9_31)]) hD hS hA [0, 1] rfl
      refine va_calli (va_runV (As := [.int x]) (rest := []) ⟨hx, hb, hml, hown, hts⟩ (c_plainGoes l dC dI m0 aS aI aB aT aG aO aN aD aY th im ac sp en wg op se dn (nI ((tl ++ [61]).length)) kd nu tv bv cY fY9_31 (tl ++ [61]) x H.size (by have hbS := btS_le kd; have hbG := btG_le kd; have hbL := btL_le kd; (try simp only [List.length_append, List.length_cons, List.length_nil]); omega) (hY_34)) (cwV 1 hts gX12_goesActs_X12_plainGoes rfl rfl rfl hd_yX12_plainGoes ⟨Nat.le_of_ble_eq_true rfl, Nat.le_of_ble_eq_true rfl⟩) ⟨fun a U g mk q => by obtain ⟨q0, q1, qP, qK, qD⟩ := q; exact ⟨q0, q1, qP, va_K.moved (u := U) (U := U.calling g mk a) (Vm.Alike.refl U.vm) qK, qD⟩, va_recv hK hP (ci := 14) (q := (RX12, TX12, 23)) (q0 := 0) rfl rfl, fun U hU hW => ⟨rfl, by rw [hU], by rw [hU]; exact hPc, va_K.moved hW.alike hKc, hDc.weaken (fun _ _ _ _ => trivial)⟩⟩ rfl rfl hl.1 rfl (lv_room (Nat.le_of_ble_eq_true rfl)) dX12_goesActs_41 ⟨Nat.le_of_ble_eq_true rfl, Nat.le_of_ble_eq_true rfl⟩) hS (fun q _ h => hFc q h) hFc (fun r_35 u tC H1 locs htC hvm hw_36 hB hz1 hk1 hS => ?_)
      obtain ⟨fY9_37, rn9_38⟩ := u
      try dsimp only at hw_36 hB
      obtain ⟨hP1, hK1, hD1⟩ := hB
      rw [htC] at hP1
      have hK1 := va_K.moved hvm.symm hK1
      obtain ⟨hP, hD⟩ := va_join (wr := []) (w1 := [(zo14irriiiiiirriirrrrlriiii m0 th aS aI im ac sp en wg op aB aT se dn aG aO aN aD bv aY rn9_38 kd nu tv), (zaI aY cY 20 fY9_37)]) hP hD [0, 1] [] rfl rfl (by decide) (by decide) hk1 hFc hP1 hD1
      have hK := (hK.sub (tys' := []) [] rfl).app hK1
      generalize H1 = H at hP hS ⊢
      have hP : va_P (dC, dI) vwCl [(zo14irriiiiiirriirrrrlriiii m0 th aS aI im ac sp en wg op aB aT se dn aG aO aN aD bv aY rn9_38 kd nu tv), (zaI aY cY 20 fY9_37)] H := hP
      have hD : va_D A [(zo14irriiiiiirriirrrrlriiii m0 th aS aI im ac sp en wg op aB aT se dn aG aO aN aD bv aY rn9_38 kd nu tv), (zaI aY cY 20 fY9_37)] := hD
      have hK : va_K (dC, dI) vwCl [(cY, .int)] s := hK
      obtain ⟨er_39, h_40⟩ := hw_36
      obtain ⟨e_41, hY_42⟩ := h_40
      obtain rfl := e_41
      subst er_39
      refine lv_aload_n hx hb dX12_goesActs_44 rfl (lv_at hl 0 rfl) ?_
      refine va_get (D := (dC, dI)) (ci := 14) (v := .int tv) (C := RX12) (T := TX12) (N := 23) hx hb hts kc_goesActs_0 hown hK hP 0 rfl rfl 22 (by decide) (hts (.fieldLink RX12 267 "MistHeapsModel" "tellsV" "I") kc_goesActs_2) (fun _ h9 => h9) rfl dX12_goesActs_45 ?_
      refine lv_iadd hx hb dX12_goesActs_48 ?_
      rw [hQ]
      have hP9 := hP.sub (ws' := [(zo14irriiiiiirriirrrrlriiii m0 th aS aI im ac sp en wg op aB aT se dn aG aO aN aD bv aY (nI (((tl ++ [61]) ++ (2 :: btS kd)).length)) kd nu tv), (zaI aY cY 20 fY9_37)]) [0, 1] rfl
      have hD9 := hD.sub (ws' := [(zo14irriiiiiirriirrrrlriiii m0 th aS aI im ac sp en wg op aB aT se dn aG aO aN aD bv aY (nI (((tl ++ [61]) ++ (2 :: btS kd)).length)) kd nu tv), (zaI aY cY 20 fY9_37)]) [0, 1] (by decide) rfl
      have hK9 := hK.sub (tys' := [(cY, .int)]) [0] rfl
      exact W.iret (v := (acS kd nu tv x - tv) + tv) hx hb hr (fun tQ htQ hWQ => ⟨⟨((acS kd nu tv x - tv) + tv), (fY9_37, (nI (((tl ++ [61]) ++ (2 :: btS kd)).length))), rfl, ⟨acG_6 (by assumption) (by assumption), by rw [show tl ++ btG kd = ((tl ++ [61]) ++ (2 :: btS kd)) from (congrArg (fun z => tl ++ z) (btG_6 (by assumption) (by assumption))).trans (by simp)]; exact ⟨rfl, hY_42⟩⟩, by rw [htQ]; exact hP9, va_K.moved hWQ.alike hK9, hD9⟩, hS.F htQ⟩) hS.2.2 dX12_goesActs_49

set_option maxHeartbeats 4000000 in
set_option maxRecDepth 100000 in
theorem c_plainLooks (l : Launch) (dC : Nat → ClassId) (dI : Nat → Nat → Nat) (m0 aS aI aB aT aG aO aN aD aY : Nat) (th im ac sp en wg op se dn rn kd nu tv : Int32) (bv : Int64) (cY : ClassId) (fY : Nat → Int32) (tl : List Nat) (x : Int32) (sz : Nat) (hq : tl.length ≤ 15) (zY : okY fY tl) : Met l yX12_plainLooks wsX12_plainLooks ({ frames := 5, cells := 0, slots := 0, locals := 105 } : Room) (va_Pc [.ref m0, .int x] (fun U => U.heap.size = sz ∧ va_P (dC, dI) vwCl [(zo14irriiiiiirriirrrrlriiii m0 th aS aI im ac sp en wg op aB aT se dn aG aO aN aD bv aY (nI tl.length) kd nu tv), (zaI aY cY 20 fY)] U.heap ∧ va_K (dC, dI) vwCl [(cY, .int)] U ∧ va_D (fun _ => True) [(zo14irriiiiiirriirrrrlriiii m0 th aS aI im ac sp en wg op aB aT se dn aG aO aN aD bv aY (nI tl.length) kd nu tv), (zaI aY cY 20 fY)])) (va_Qi (fun (r : Int32) (u : (Nat → Int32) × (Int32)) => match u with | (fY9, rn9) => r = acG kd nu tv x * 2 ∧ rn9 = nI (tl ++ (3 :: btG kd)).length ∧ okY fY9 (tl ++ (3 :: btG kd))) (fun (u : (Nat → Int32) × (Int32)) (t : State) => match u with | (fY9, rn9) => va_P (dC, dI) vwCl [(zo14irriiiiiirriirrrrlriiii m0 th aS aI im ac sp en wg op aB aT se dn aG aO aN aD bv aY rn9 kd nu tv), (zaI aY cY 20 fY9)] t.heap ∧ va_K (dC, dI) vwCl [(cY, .int)] t ∧ va_D (va_A [(zo14irriiiiiirriirrrrlriiii m0 th aS aI im ac sp en wg op aB aT se dn aG aO aN aD bv aY (nI tl.length) kd nu tv), (zaI aY cY 20 fY)] sz) [(zo14irriiiiiirriirrrrlriiii m0 th aS aI im ac sp en wg op aB aT se dn aG aO aN aD bv aY rn9 kd nu tv), (zaI aY cY 20 fY9)]) (va_A [(zo14irriiiiiirriirrrrlriiii m0 th aS aI im ac sp en wg op aB aT se dn aG aO aN aD bv aY (nI tl.length) kd nu tv), (zaI aY cY 20 fY)] sz)) 0 0 (va_A [(zo14irriiiiiirriirrrrlriiii m0 th aS aI im ac sp en wg op aB aT se dn aG aO aN aD bv aY (nI tl.length) kd nu tv), (zaI aY cY 20 fY)] sz) := by
  refine met_ofQ (cc := cX12_plainLooks) (maxL := 2) (ret := (some .int)) (by decide) rfl ?_
  intro p e s m args below meth c s₁ Q B hml hv hQ
  obtain ⟨rfl, hsz, hP, hK, hD0⟩ := hv
  have hx := B.exec
  have hb := B.bytes
  have hr := B.returns
  have hts := atoms_spec (ws := wsX12_plainLooks) B.pre
  have hown : s.vm.findClass RX12 = some m.cls := findClass_of_methodNamed B.named
  have hlocks := B.notSynchronized
  subst hsz
  have hD := hD0.self (sz := s.heap.size)
  generalize hAe : va_A [(zo14irriiiiiirriirrrrlriiii m0 th aS aI im ac sp en wg op aB aT se dn aG aO aN aD bv aY (nI tl.length) kd nu tv), (zaI aY cY 20 fY)] s.heap.size = A at hD hQ ⊢
  have hA : ∀ q : Nat, s.heap.size ≤ q → A q := fun q h => by rw [← hAe]; exact Or.inr h
  have hS : va_S A s.heap s.heap [] := va_S.rf
  have hl := lv_entry [.ref m0, .int x] (n := 2) (Nat.le_of_ble_eq_true rfl)
  rw [lg_entry_eq]
  generalize (lg_sl [.ref m0, .int x] ++ List.replicate (2 - (lg_sl [.ref m0, .int x]).length) Slot.unset).toArray = ls at hl ⊢
  generalize hag : ([.ref m0, .int x] : List Value).toArray = args at hts hQ ⊢
  have hl : lv_has ls 2 [(0, .ref m0), (1, .int x)] := hl
  obtain ⟨H, hH⟩ : ∃ H : Heap, H = s.heap := ⟨_, rfl⟩
  rw [← hH] at hP
  rw [← hH]
  have hS : va_S A s.heap H [] := by rw [hH]; exact hS
  obtain ⟨locs, hlo⟩ : ∃ L : List Loc, L = [] := ⟨_, rfl⟩
  rw [← hlo] at hS
  rw [← hlo]
  clear hH hlo
  refine lv_aload_n hx hb dX12_plainLooks_0 rfl (lv_at hl 0 rfl) ?_
  refine lv_iconst (v := 3) hx hb dX12_plainLooks_1 (by decide) ?_
  have hPc := hP.sub (ws' := [(zo14irriiiiiirriirrrrlriiii m0 th aS aI im ac sp en wg op aB aT se dn aG aO aN aD bv aY (nI tl.length) kd nu tv), (zaI aY cY 20 fY)]) [0, 1] rfl
  have hDc := hD.sub (ws' := [(zo14irriiiiiirriirrrrlriiii m0 th aS aI im ac sp en wg op aB aT se dn aG aO aN aD bv aY (nI tl.length) kd nu tv), (zaI aY cY 20 fY)]) [0, 1] (by decide) rfl
  have hKc := hK.sub (tys' := [(cY, .int)]) [0] rfl
  have hFc := va_free (wc := [(zo14irriiiiiirriirrrrlriiii m0 th aS aI im ac sp en wg op aB aT se dn aG aO aN aD bv aY (nI tl.length) kd nu tv), (zaI aY cY 20 fY)]) hD hS hA [0, 1] rfl
  refine va_callv (va_runV (As := [.int 3]) (rest := []) ⟨hx, hb, hml, hown, hts⟩ (c_ranBody l dC dI m0 aS aI aB aT aG aO aN aD aY th im ac sp en wg op se dn (nI tl.length) kd nu tv bv cY fY tl 3 H.size (by have hbS := btS_le kd; have hbG := btG_le kd; have hbL := btL_le kd; (try simp only [List.length_append, List.length_cons, List.length_nil]); omega) (zY)) (cwV 1 hts gX12_plainLooks_X12_ranBody rfl rfl rfl hd_yX12_ranBody ⟨Nat.le_of_ble_eq_true rfl, Nat.le_of_ble_eq_true rfl⟩) ⟨fun a U g mk q => by obtain ⟨q0, q1, qP, qK, qD⟩ := q; exact ⟨q0, q1, qP, va_K.moved (u := U) (U := U.calling g mk a) (Vm.Alike.refl U.vm) qK, qD⟩, va_recv hK hP (ci := 14) (q := (RX12, TX12, 23)) (q0 := 0) rfl rfl, fun U hU hW => ⟨rfl, by rw [hU], by rw [hU]; exact hPc, va_K.moved hW.alike hKc, hDc.weaken (fun _ _ _ _ => trivial)⟩⟩ rfl rfl hl.1 rfl (lv_room (Nat.le_of_ble_eq_true rfl)) dX12_plainLooks_2 ⟨Nat.le_of_ble_eq_true rfl, Nat.le_of_ble_eq_true rfl⟩) hS (fun q _ h => hFc q h) hFc (fun u tC H1 locs htC hvm hw_2 hB hz1 hk1 hS => ?_)
  obtain ⟨fY9_3, rn9_4⟩ := u
  try dsimp only at hw_2 hB
  obtain ⟨hP1, hK1, hD1⟩ := hB
  rw [htC] at hP1
  have hK1 := va_K.moved hvm.symm hK1
  obtain ⟨hP, hD⟩ := va_join (wr := []) (w1 := [(zo14irriiiiiirriirrrrlriiii m0 th aS aI im ac sp en wg op aB aT se dn aG aO aN aD bv aY rn9_4 kd nu tv), (zaI aY cY 20 fY9_3)]) hP hD [0, 1] [] rfl rfl (by decide) (by decide) hk1 hFc hP1 hD1
  have hK := (hK.sub (tys' := []) [] rfl).app hK1
  generalize H1 = H at hP hS ⊢
  have hP : va_P (dC, dI) vwCl [(zo14irriiiiiirriirrrrlriiii m0 th aS aI im ac sp en wg op aB aT se dn aG aO aN aD bv aY rn9_4 kd nu tv), (zaI aY cY 20 fY9_3)] H := hP
  have hD : va_D A [(zo14irriiiiiirriirrrrlriiii m0 th aS aI im ac sp en wg op aB aT se dn aG aO aN aD bv aY rn9_4 kd nu tv), (zaI aY cY 20 fY9_3)] := hD
  have hK : va_K (dC, dI) vwCl [(cY, .int)] s := hK
  obtain ⟨e_5, hY_6⟩ := hw_2
  obtain rfl := e_5
  refine lv_aload_n hx hb dX12_plainLooks_5 rfl (lv_at hl 0 rfl) ?_
  refine lv_iload_n hx hb dX12_plainLooks_6 rfl (lv_at hl 1 rfl) ?_
  have hPc := hP.sub (ws' := [(zo14irriiiiiirriirrrrlriiii m0 th aS aI im ac sp en wg op aB aT se dn aG aO aN aD bv aY (nI ((tl ++ [3]).length)) kd nu tv), (zaI aY cY 20 fY9_3)]) [0, 1] rfl
  have hDc := hD.sub (ws' := [(zo14irriiiiiirriirrrrlriiii m0 th aS aI im ac sp en wg op aB aT se dn aG aO aN aD bv aY (nI ((tl ++ [3]).length)) kd nu tv), (zaI aY cY 20 fY9_3)]) [0, 1] (by decide) rfl
  have hKc := hK.sub (tys' := [(cY, .int)]) [0] rfl
  have hFc := va_free (wc := [(zo14irriiiiiirriirrrrlriiii m0 th aS aI im ac sp en wg op aB aT se dn aG aO aN aD bv aY (nI ((tl ++ [3]).length)) kd nu tv), (zaI aY cY 20 fY9_3)]) hD hS hA [0, 1] rfl
  refine va_calli (va_runV (As := [.int x]) (rest := []) ⟨hx, hb, hml, hown, hts⟩ (c_goesActs l dC dI m0 aS aI aB aT aG aO aN aD aY th im ac sp en wg op se dn (nI ((tl ++ [3]).length)) kd nu tv bv cY fY9_3 (tl ++ [3]) x H.size (by have hbS := btS_le kd; have hbG := btG_le kd; have hbL := btL_le kd; (try simp only [List.length_append, List.length_cons, List.length_nil]); omega) (hY_6)) (cwV 1 hts gX12_plainLooks_X12_goesActs rfl rfl rfl hd_yX12_goesActs ⟨Nat.le_of_ble_eq_true rfl, Nat.le_of_ble_eq_true rfl⟩) ⟨fun a U g mk q => by obtain ⟨q0, q1, qP, qK, qD⟩ := q; exact ⟨q0, q1, qP, va_K.moved (u := U) (U := U.calling g mk a) (Vm.Alike.refl U.vm) qK, qD⟩, va_recv hK hP (ci := 14) (q := (RX12, TX12, 23)) (q0 := 0) rfl rfl, fun U hU hW => ⟨rfl, by rw [hU], by rw [hU]; exact hPc, va_K.moved hW.alike hKc, hDc.weaken (fun _ _ _ _ => trivial)⟩⟩ rfl rfl hl.1 rfl (lv_room (Nat.le_of_ble_eq_true rfl)) dX12_plainLooks_7 ⟨Nat.le_of_ble_eq_true rfl, Nat.le_of_ble_eq_true rfl⟩) hS (fun q _ h => hFc q h) hFc (fun r_7 u tC H1 locs htC hvm hw_8 hB hz1 hk1 hS => ?_)
  obtain ⟨fY9_9, rn9_10⟩ := u
  try dsimp only at hw_8 hB
  obtain ⟨hP1, hK1, hD1⟩ := hB
  rw [htC] at hP1
  have hK1 := va_K.moved hvm.symm hK1
  obtain ⟨hP, hD⟩ := va_join (wr := []) (w1 := [(zo14irriiiiiirriirrrrlriiii m0 th aS aI im ac sp en wg op aB aT se dn aG aO aN aD bv aY rn9_10 kd nu tv), (zaI aY cY 20 fY9_9)]) hP hD [0, 1] [] rfl rfl (by decide) (by decide) hk1 hFc hP1 hD1
  have hK := (hK.sub (tys' := []) [] rfl).app hK1
  generalize H1 = H at hP hS ⊢
  have hP : va_P (dC, dI) vwCl [(zo14irriiiiiirriirrrrlriiii m0 th aS aI im ac sp en wg op aB aT se dn aG aO aN aD bv aY rn9_10 kd nu tv), (zaI aY cY 20 fY9_9)] H := hP
  have hD : va_D A [(zo14irriiiiiirriirrrrlriiii m0 th aS aI im ac sp en wg op aB aT se dn aG aO aN aD bv aY rn9_10 kd nu tv), (zaI aY cY 20 fY9_9)] := hD
  have hK : va_K (dC, dI) vwCl [(cY, .int)] s := hK
  obtain ⟨er_11, h_12⟩ := hw_8
  obtain ⟨e_13, hY_14⟩ := h_12
  obtain rfl := e_13
  subst er_11
  refine lv_iconst (v := 2) hx hb dX12_plainLooks_10 (by decide) ?_
  refine lv_imul hx hb dX12_plainLooks_11 ?_
  rw [hQ]
  have hP9 := hP.sub (ws' := [(zo14irriiiiiirriirrrrlriiii m0 th aS aI im ac sp en wg op aB aT se dn aG aO aN aD bv aY (nI (((tl ++ [3]) ++ btG kd).length)) kd nu tv), (zaI aY cY 20 fY9_9)]) [0, 1] rfl
  have hD9 := hD.sub (ws' := [(zo14irriiiiiirriirrrrlriiii m0 th aS aI im ac sp en wg op aB aT se dn aG aO aN aD bv aY (nI (((tl ++ [3]) ++ btG kd).length)) kd nu tv), (zaI aY cY 20 fY9_9)]) [0, 1] (by decide) rfl
  have hK9 := hK.sub (tys' := [(cY, .int)]) [0] rfl
  exact W.iret (v := (acG kd nu tv x) * 2) hx hb hr (fun tQ htQ hWQ => ⟨⟨((acG kd nu tv x) * 2), (fY9_9, (nI (((tl ++ [3]) ++ btG kd).length))), rfl, ⟨rfl, by rw [show tl ++ (3 :: btG kd) = ((tl ++ [3]) ++ btG kd) from by simp]; exact ⟨rfl, hY_14⟩⟩, by rw [htQ]; exact hP9, va_K.moved hWQ.alike hK9, hD9⟩, hS.F htQ⟩) hS.2.2 dX12_plainLooks_12

theorem kc_looksActs_0 : ∀ w ∈ wsX120, w ∈ wsX12_looksActs := fun w h => List.mem_cons_of_mem _ (gin_wsX120 w h)
theorem kc_looksActs_1 : (.fieldLink RX12 255 "MistHeapsModel" "kind" "I" : Cond) ∈ wsX12_looksActs := kc_of 1160 rfl rfl rfl
set_option maxHeartbeats 4000000 in
set_option maxRecDepth 100000 in
theorem c_looksActs (l : Launch) (dC : Nat → ClassId) (dI : Nat → Nat → Nat) (m0 aS aI aB aT aG aO aN aD aY : Nat) (th im ac sp en wg op se dn rn kd nu tv : Int32) (bv : Int64) (cY : ClassId) (fY : Nat → Int32) (tl : List Nat) (x : Int32) (sz : Nat) (hq : tl.length ≤ 12) (zY : okY fY tl) : Met l yX12_looksActs wsX12_looksActs ({ frames := 6, cells := 0, slots := 0, locals := 126 } : Room) (va_Pc [.ref m0, .int x] (fun U => U.heap.size = sz ∧ va_P (dC, dI) vwCl [(zo14irriiiiiirriirrrrlriiii m0 th aS aI im ac sp en wg op aB aT se dn aG aO aN aD bv aY (nI tl.length) kd nu tv), (zaI aY cY 20 fY)] U.heap ∧ va_K (dC, dI) vwCl [(cY, .int)] U ∧ va_D (fun _ => True) [(zo14irriiiiiirriirrrrlriiii m0 th aS aI im ac sp en wg op aB aT se dn aG aO aN aD bv aY (nI tl.length) kd nu tv), (zaI aY cY 20 fY)])) (va_Qi (fun (r : Int32) (u : (Nat → Int32) × (Int32)) => match u with | (fY9, rn9) => r = acL kd nu tv x ∧ rn9 = nI (tl ++ btL kd).length ∧ okY fY9 (tl ++ btL kd)) (fun (u : (Nat → Int32) × (Int32)) (t : State) => match u with | (fY9, rn9) => va_P (dC, dI) vwCl [(zo14irriiiiiirriirrrrlriiii m0 th aS aI im ac sp en wg op aB aT se dn aG aO aN aD bv aY rn9 kd nu tv), (zaI aY cY 20 fY9)] t.heap ∧ va_K (dC, dI) vwCl [(cY, .int)] t ∧ va_D (va_A [(zo14irriiiiiirriirrrrlriiii m0 th aS aI im ac sp en wg op aB aT se dn aG aO aN aD bv aY (nI tl.length) kd nu tv), (zaI aY cY 20 fY)] sz) [(zo14irriiiiiirriirrrrlriiii m0 th aS aI im ac sp en wg op aB aT se dn aG aO aN aD bv aY rn9 kd nu tv), (zaI aY cY 20 fY9)]) (va_A [(zo14irriiiiiirriirrrrlriiii m0 th aS aI im ac sp en wg op aB aT se dn aG aO aN aD bv aY (nI tl.length) kd nu tv), (zaI aY cY 20 fY)] sz)) 0 0 (va_A [(zo14irriiiiiirriirrrrlriiii m0 th aS aI im ac sp en wg op aB aT se dn aG aO aN aD bv aY (nI tl.length) kd nu tv), (zaI aY cY 20 fY)] sz) := by
  refine met_ofQ (cc := cX12_looksActs) (maxL := 3) (ret := (some .int)) (by decide) rfl ?_
  intro p e s m args below meth c s₁ Q B hml hv hQ
  obtain ⟨rfl, hsz, hP, hK, hD0⟩ := hv
  have hx := B.exec
  have hb := B.bytes
  have hr := B.returns
  have hts := atoms_spec (ws := wsX12_looksActs) B.pre
  have hown : s.vm.findClass RX12 = some m.cls := findClass_of_methodNamed B.named
  have hlocks := B.notSynchronized
  subst hsz
  have hD := hD0.self (sz := s.heap.size)
  generalize hAe : va_A [(zo14irriiiiiirriirrrrlriiii m0 th aS aI im ac sp en wg op aB aT se dn aG aO aN aD bv aY (nI tl.length) kd nu tv), (zaI aY cY 20 fY)] s.heap.size = A at hD hQ ⊢
  have hA : ∀ q : Nat, s.heap.size ≤ q → A q := fun q h => by rw [← hAe]; exact Or.inr h
  have hS : va_S A s.heap s.heap [] := va_S.rf
  have hl := lv_entry [.ref m0, .int x] (n := 3) (Nat.le_of_ble_eq_true rfl)
  rw [lg_entry_eq]
  generalize (lg_sl [.ref m0, .int x] ++ List.replicate (3 - (lg_sl [.ref m0, .int x]).length) Slot.unset).toArray = ls at hl ⊢
  generalize hag : ([.ref m0, .int x] : List Value).toArray = args at hts hQ ⊢
  have hl : lv_has ls 3 [(0, .ref m0), (1, .int x)] := hl
  obtain ⟨H, hH⟩ : ∃ H : Heap, H = s.heap := ⟨_, rfl⟩
  rw [← hH] at hP
  rw [← hH]
  have hS : va_S A s.heap H [] := by rw [hH]; exact hS
  obtain ⟨locs, hlo⟩ : ∃ L : List Loc, L = [] := ⟨_, rfl⟩
  rw [← hlo] at hS
  rw [← hlo]
  clear hH hlo
  refine lv_aload_n hx hb dX12_looksActs_0 rfl (lv_at hl 0 rfl) ?_
  refine va_get (D := (dC, dI)) (ci := 14) (v := .int kd) (C := RX12) (T := TX12) (N := 23) hx hb hts kc_looksActs_0 hown hK hP 0 rfl rfl 20 (by decide) (hts (.fieldLink RX12 255 "MistHeapsModel" "kind" "I") kc_looksActs_1) (fun _ h9 => h9) rfl dX12_looksActs_1 ?_
  refine lv_iconst (v := 3) hx hb dX12_looksActs_4 (by decide) ?_
  refine vp_callSi (va_runS (As := [.int kd, .int 3]) (rest := []) ⟨hx, hb, hml, hown, hts⟩ (c_under l dC dI kd 3) (va_cwS 2 hts gX12_looksActs_X12_isUnder rfl rfl rfl hd_yX12_isUnder.2 ⟨Nat.le_of_ble_eq_true rfl, Nat.le_of_ble_eq_true rfl⟩) ⟨fun a U g mk q => ⟨q.1, trivial⟩, fun U hU hW => ⟨rfl, trivial⟩⟩ rfl rfl hl.1 rfl (lv_room (Nat.le_of_ble_eq_true rfl)) dX12_looksActs_5 ⟨Nat.le_of_ble_eq_true rfl, Nat.le_of_ble_eq_true rfl⟩).run (fun r_1 hw_2 => ?_)
  rcases hw_2 with ⟨rfl, hU_3⟩ | ⟨rfl, hU_3⟩
  · skip
    refine lv_if_eq (tgt := 26) hx hb dX12_looksActs_8 (by decide) (fun c_4 => absurd c_4 (by decide)) (fun _ => ?_)
    refine lv_aload_n hx hb dX12_looksActs_11 rfl (lv_at hl 0 rfl) ?_
    refine lv_bipush (v := 31) hx hb dX12_looksActs_12 (by decide) ?_
    have hPc := hP.sub (ws' := [(zo14irriiiiiirriirrrrlriiii m0 th aS aI im ac sp en wg op aB aT se dn aG aO aN aD bv aY (nI tl.length) kd nu tv), (zaI aY cY 20 fY)]) [0, 1] rfl
    have hDc := hD.sub (ws' := [(zo14irriiiiiirriirrrrlriiii m0 th aS aI im ac sp en wg op aB aT se dn aG aO aN aD bv aY (nI tl.length) kd nu tv), (zaI aY cY 20 fY)]) [0, 1] (by decide) rfl
    have hKc := hK.sub (tys' := [(cY, .int)]) [0] rfl
    have hFc := va_free (wc := [(zo14irriiiiiirriirrrrlriiii m0 th aS aI im ac sp en wg op aB aT se dn aG aO aN aD bv aY (nI tl.length) kd nu tv), (zaI aY cY 20 fY)]) hD hS hA [0, 1] rfl
    refine va_callv (va_runV (As := [.int 31]) (rest := []) ⟨hx, hb, hml, hown, hts⟩ (c_ranBody l dC dI m0 aS aI aB aT aG aO aN aD aY th im ac sp en wg op se dn (nI tl.length) kd nu tv bv cY fY tl 31 H.size (by have hbS := btS_le kd; have hbG := btG_le kd; have hbL := btL_le kd; (try simp only [List.length_append, List.length_cons, List.length_nil]); omega) (zY)) (cwV 1 hts gX12_looksActs_X12_ranBody rfl rfl rfl hd_yX12_ranBody ⟨Nat.le_of_ble_eq_true rfl, Nat.le_of_ble_eq_true rfl⟩) ⟨fun a U g mk q => by obtain ⟨q0, q1, qP, qK, qD⟩ := q; exact ⟨q0, q1, qP, va_K.moved (u := U) (U := U.calling g mk a) (Vm.Alike.refl U.vm) qK, qD⟩, va_recv hK hP (ci := 14) (q := (RX12, TX12, 23)) (q0 := 0) rfl rfl, fun U hU hW => ⟨rfl, by rw [hU], by rw [hU]; exact hPc, va_K.moved hW.alike hKc, hDc.weaken (fun _ _ _ _ => trivial)⟩⟩ rfl rfl hl.1 rfl (lv_room (Nat.le_of_ble_eq_true rfl)) dX12_looksActs_14 ⟨Nat.le_of_ble_eq_true rfl, Nat.le_of_ble_eq_true rfl⟩) hS (fun q _ h => hFc q h) hFc (fun u tC H1 locs htC hvm hw_6 hB hz1 hk1 hS => ?_)
    obtain ⟨fY9_7, rn9_8⟩ := u
    try dsimp only at hw_6 hB
    obtain ⟨hP1, hK1, hD1⟩ := hB
    rw [htC] at hP1
    have hK1 := va_K.moved hvm.symm hK1
    obtain ⟨hP, hD⟩ := va_join (wr := []) (w1 := [(zo14irriiiiiirriirrrrlriiii m0 th aS aI im ac sp en wg op aB aT se dn aG aO aN aD bv aY rn9_8 kd nu tv), (zaI aY cY 20 fY9_7)]) hP hD [0, 1] [] rfl rfl (by decide) (by decide) hk1 hFc hP1 hD1
    have hK := (hK.sub (tys' := []) [] rfl).app hK1
    generalize H1 = H at hP hS ⊢
    have hP : va_P (dC, dI) vwCl [(zo14irriiiiiirriirrrrlriiii m0 th aS aI im ac sp en wg op aB aT se dn aG aO aN aD bv aY rn9_8 kd nu tv), (zaI aY cY 20 fY9_7)] H := hP
    have hD : va_D A [(zo14irriiiiiirriirrrrlriiii m0 th aS aI im ac sp en wg op aB aT se dn aG aO aN aD bv aY rn9_8 kd nu tv), (zaI aY cY 20 fY9_7)] := hD
    have hK : va_K (dC, dI) vwCl [(cY, .int)] s := hK
    obtain ⟨e_9, hY_10⟩ := hw_6
    obtain rfl := e_9
    refine lv_aload_n hx hb dX12_looksActs_17 rfl (lv_at hl 0 rfl) ?_
    refine lv_iload_n hx hb dX12_looksActs_18 rfl (lv_at hl 1 rfl) ?_
    have hPc := hP.sub (ws' := [(zo14irriiiiiirriirrrrlriiii m0 th aS aI im ac sp en wg op aB aT se dn aG aO aN aD bv aY (nI ((tl ++ [31]).length)) kd nu tv), (zaI aY cY 20 fY9_7)]) [0, 1] rfl
    have hDc := hD.sub (ws' := [(zo14irriiiiiirriirrrrlriiii m0 th aS aI im ac sp en wg op aB aT se dn aG aO aN aD bv aY (nI ((tl ++ [31]).length)) kd nu tv), (zaI aY cY 20 fY9_7)]) [0, 1] (by decide) rfl
    have hKc := hK.sub (tys' := [(cY, .int)]) [0] rfl
    have hFc := va_free (wc := [(zo14irriiiiiirriirrrrlriiii m0 th aS aI im ac sp en wg op aB aT se dn aG aO aN aD bv aY (nI ((tl ++ [31]).length)) kd nu tv), (zaI aY cY 20 fY9_7)]) hD hS hA [0, 1] rfl
    refine va_calli (va_runV (As := [.int x]) (rest := []) ⟨hx, hb, hml, hown, hts⟩ (c_plainLooks l dC dI m0 aS aI aB aT aG aO aN aD aY th im ac sp en wg op se dn (nI ((tl ++ [31]).length)) kd nu tv bv cY fY9_7 (tl ++ [31]) x H.size (by have hbS := btS_le kd; have hbG := btG_le kd; have hbL := btL_le kd; (try simp only [List.length_append, List.length_cons, List.length_nil]); omega) (hY_10)) (cwV 1 hts gX12_looksActs_X12_plainLooks rfl rfl rfl hd_yX12_plainLooks ⟨Nat.le_of_ble_eq_true rfl, Nat.le_of_ble_eq_true rfl⟩) ⟨fun a U g mk q => by obtain ⟨q0, q1, qP, qK, qD⟩ := q; exact ⟨q0, q1, qP, va_K.moved (u := U) (U := U.calling g mk a) (Vm.Alike.refl U.vm) qK, qD⟩, va_recv hK hP (ci := 14) (q := (RX12, TX12, 23)) (q0 := 0) rfl rfl, fun U hU hW => ⟨rfl, by rw [hU], by rw [hU]; exact hPc, va_K.moved hW.alike hKc, hDc.weaken (fun _ _ _ _ => trivial)⟩⟩ rfl rfl hl.1 rfl (lv_room (Nat.le_of_ble_eq_true rfl)) dX12_looksActs_19 ⟨Nat.le_of_ble_eq_true rfl, Nat.le_of_ble_eq_true rfl⟩) hS (fun q _ h => hFc q h) hFc (fun r_11 u tC H1 locs htC hvm hw_12 hB hz1 hk1 hS => ?_)
    obtain ⟨fY9_13, rn9_14⟩ := u
    try dsimp only at hw_12 hB
    obtain ⟨hP1, hK1, hD1⟩ := hB
    rw [htC] at hP1
    have hK1 := va_K.moved hvm.symm hK1
    obtain ⟨hP, hD⟩ := va_join (wr := []) (w1 := [(zo14irriiiiiirriirrrrlriiii m0 th aS aI im ac sp en wg op aB aT se dn aG aO aN aD bv aY rn9_14 kd nu tv), (zaI aY cY 20 fY9_13)]) hP hD [0, 1] [] rfl rfl (by decide) (by decide) hk1 hFc hP1 hD1
    have hK := (hK.sub (tys' := []) [] rfl).app hK1
    generalize H1 = H at hP hS ⊢
    have hP : va_P (dC, dI) vwCl [(zo14irriiiiiirriirrrrlriiii m0 th aS aI im ac sp en wg op aB aT se dn aG aO aN aD bv aY rn9_14 kd nu tv), (zaI aY cY 20 fY9_13)] H := hP
    have hD : va_D A [(zo14irriiiiiirriirrrrlriiii m0 th aS aI im ac sp en wg op aB aT se dn aG aO aN aD bv aY rn9_14 kd nu tv), (zaI aY cY 20 fY9_13)] := hD
    have hK : va_K (dC, dI) vwCl [(cY, .int)] s := hK
    obtain ⟨er_15, h_16⟩ := hw_12
    obtain ⟨e_17, hY_18⟩ := h_16
    obtain rfl := e_17
    subst er_15
    refine lv_bipush (v := 7) hx hb dX12_looksActs_22 (by decide) ?_
    refine lv_ixor hx hb dX12_looksActs_24 ?_
    rw [hQ]
    have hP9 := hP.sub (ws' := [(zo14irriiiiiirriirrrrlriiii m0 th aS aI im ac sp en wg op aB aT se dn aG aO aN aD bv aY (nI (((tl ++ [31]) ++ (3 :: btG kd)).length)) kd nu tv), (zaI aY cY 20 fY9_13)]) [0, 1] rfl
    have hD9 := hD.sub (ws' := [(zo14irriiiiiirriirrrrlriiii m0 th aS aI im ac sp en wg op aB aT se dn aG aO aN aD bv aY (nI (((tl ++ [31]) ++ (3 :: btG kd)).length)) kd nu tv), (zaI aY cY 20 fY9_13)]) [0, 1] (by decide) rfl
    have hK9 := hK.sub (tys' := [(cY, .int)]) [0] rfl
    exact W.iret (v := (acG kd nu tv x * 2) ^^^ 7) hx hb hr (fun tQ htQ hWQ => ⟨⟨((acG kd nu tv x * 2) ^^^ 7), (fY9_13, (nI (((tl ++ [31]) ++ (3 :: btG kd)).length))), rfl, ⟨acL_3 (by assumption), by rw [show tl ++ btL kd = ((tl ++ [31]) ++ (3 :: btG kd)) from (congrArg (fun z => tl ++ z) (btL_3 (by assumption))).trans (by simp)]; exact ⟨rfl, hY_18⟩⟩, by rw [htQ]; exact hP9, va_K.moved hWQ.alike hK9, hD9⟩, hS.F htQ⟩) hS.2.2 dX12_looksActs_25
  · skip
    refine lv_if_eq (tgt := 26) hx hb dX12_looksActs_8 (by decide) (fun _ => ?_) (fun c_19 => absurd c_19 (by decide))
    refine lv_aload_n hx hb dX12_looksActs_26 rfl (lv_at hl 0 rfl) ?_
    refine va_get (D := (dC, dI)) (ci := 14) (v := .int kd) (C := RX12) (T := TX12) (N := 23) hx hb hts kc_looksActs_0 hown hK hP 0 rfl rfl 20 (by decide) (hts (.fieldLink RX12 255 "MistHeapsModel" "kind" "I") kc_looksActs_1) (fun _ h9 => h9) rfl dX12_looksActs_27 ?_
    refine lv_iconst (v := 4) hx hb dX12_looksActs_30 (by decide) ?_
    refine lv_icmp_ne (tgt := 56) hx hb dX12_looksActs_31 (by decide) (fun c_20 => ?_) (fun c_20 => ?_)
    · skip
      refine lv_aload_n hx hb dX12_looksActs_56 rfl (lv_at hl 0 rfl) ?_
      refine lv_iload_n hx hb dX12_looksActs_57 rfl (lv_at hl 1 rfl) ?_
      have hPc := hP.sub (ws' := [(zo14irriiiiiirriirrrrlriiii m0 th aS aI im ac sp en wg op aB aT se dn aG aO aN aD bv aY (nI tl.length) kd nu tv), (zaI aY cY 20 fY)]) [0, 1] rfl
      have hDc := hD.sub (ws' := [(zo14irriiiiiirriirrrrlriiii m0 th aS aI im ac sp en wg op aB aT se dn aG aO aN aD bv aY (nI tl.length) kd nu tv), (zaI aY cY 20 fY)]) [0, 1] (by decide) rfl
      have hKc := hK.sub (tys' := [(cY, .int)]) [0] rfl
      have hFc := va_free (wc := [(zo14irriiiiiirriirrrrlriiii m0 th aS aI im ac sp en wg op aB aT se dn aG aO aN aD bv aY (nI tl.length) kd nu tv), (zaI aY cY 20 fY)]) hD hS hA [0, 1] rfl
      refine va_calli (va_runV (As := [.int x]) (rest := []) ⟨hx, hb, hml, hown, hts⟩ (c_plainLooks l dC dI m0 aS aI aB aT aG aO aN aD aY th im ac sp en wg op se dn (nI tl.length) kd nu tv bv cY fY tl x H.size (by have hbS := btS_le kd; have hbG := btG_le kd; have hbL := btL_le kd; (try simp only [List.length_append, List.length_cons, List.length_nil]); omega) (zY)) (cwV 1 hts gX12_looksActs_X12_plainLooks rfl rfl rfl hd_yX12_plainLooks ⟨Nat.le_of_ble_eq_true rfl, Nat.le_of_ble_eq_true rfl⟩) ⟨fun a U g mk q => by obtain ⟨q0, q1, qP, qK, qD⟩ := q; exact ⟨q0, q1, qP, va_K.moved (u := U) (U := U.calling g mk a) (Vm.Alike.refl U.vm) qK, qD⟩, va_recv hK hP (ci := 14) (q := (RX12, TX12, 23)) (q0 := 0) rfl rfl, fun U hU hW => ⟨rfl, by rw [hU], by rw [hU]; exact hPc, va_K.moved hW.alike hKc, hDc.weaken (fun _ _ _ _ => trivial)⟩⟩ rfl rfl hl.1 rfl (lv_room (Nat.le_of_ble_eq_true rfl)) dX12_looksActs_58 ⟨Nat.le_of_ble_eq_true rfl, Nat.le_of_ble_eq_true rfl⟩) hS (fun q _ h => hFc q h) hFc (fun r_21 u tC H1 locs htC hvm hw_22 hB hz1 hk1 hS => ?_)
      obtain ⟨fY9_23, rn9_24⟩ := u
      try dsimp only at hw_22 hB
      obtain ⟨hP1, hK1, hD1⟩ := hB
      rw [htC] at hP1
      have hK1 := va_K.moved hvm.symm hK1
      obtain ⟨hP, hD⟩ := va_join (wr := []) (w1 := [(zo14irriiiiiirriirrrrlriiii m0 th aS aI im ac sp en wg op aB aT se dn aG aO aN aD bv aY rn9_24 kd nu tv), (zaI aY cY 20 fY9_23)]) hP hD [0, 1] [] rfl rfl (by decide) (by decide) hk1 hFc hP1 hD1
      have hK := (hK.sub (tys' := []) [] rfl).app hK1
      generalize H1 = H at hP hS ⊢
      have hP : va_P (dC, dI) vwCl [(zo14irriiiiiirriirrrrlriiii m0 th aS aI im ac sp en wg op aB aT se dn aG aO aN aD bv aY rn9_24 kd nu tv), (zaI aY cY 20 fY9_23)] H := hP
      have hD : va_D A [(zo14irriiiiiirriirrrrlriiii m0 th aS aI im ac sp en wg op aB aT se dn aG aO aN aD bv aY rn9_24 kd nu tv), (zaI aY cY 20 fY9_23)] := hD
      have hK : va_K (dC, dI) vwCl [(cY, .int)] s := hK
      obtain ⟨er_25, h_26⟩ := hw_22
      obtain ⟨e_27, hY_28⟩ := h_26
      obtain rfl := e_27
      subst er_25
      rw [hQ]
      have hP9 := hP.sub (ws' := [(zo14irriiiiiirriirrrrlriiii m0 th aS aI im ac sp en wg op aB aT se dn aG aO aN aD bv aY (nI ((tl ++ (3 :: btG kd)).length)) kd nu tv), (zaI aY cY 20 fY9_23)]) [0, 1] rfl
      have hD9 := hD.sub (ws' := [(zo14irriiiiiirriirrrrlriiii m0 th aS aI im ac sp en wg op aB aT se dn aG aO aN aD bv aY (nI ((tl ++ (3 :: btG kd)).length)) kd nu tv), (zaI aY cY 20 fY9_23)]) [0, 1] (by decide) rfl
      have hK9 := hK.sub (tys' := [(cY, .int)]) [0] rfl
      exact W.iret (v := acG kd nu tv x * 2) hx hb hr (fun tQ htQ hWQ => ⟨⟨(acG kd nu tv x * 2), (fY9_23, (nI ((tl ++ (3 :: btG kd)).length))), rfl, ⟨acL_0 (by assumption) (by assumption), by rw [show tl ++ btL kd = (tl ++ (3 :: btG kd)) from (congrArg (fun z => tl ++ z) (btL_0 (by assumption) (by assumption))).trans (by simp)]; exact ⟨rfl, hY_28⟩⟩, by rw [htQ]; exact hP9, va_K.moved hWQ.alike hK9, hD9⟩, hS.F htQ⟩) hS.2.2 dX12_looksActs_61
    · skip
      refine lv_aload_n hx hb dX12_looksActs_34 rfl (lv_at hl 0 rfl) ?_
      refine lv_bipush (v := 41) hx hb dX12_looksActs_35 (by decide) ?_
      have hPc := hP.sub (ws' := [(zo14irriiiiiirriirrrrlriiii m0 th aS aI im ac sp en wg op aB aT se dn aG aO aN aD bv aY (nI tl.length) kd nu tv), (zaI aY cY 20 fY)]) [0, 1] rfl
      have hDc := hD.sub (ws' := [(zo14irriiiiiirriirrrrlriiii m0 th aS aI im ac sp en wg op aB aT se dn aG aO aN aD bv aY (nI tl.length) kd nu tv), (zaI aY cY 20 fY)]) [0, 1] (by decide) rfl
      have hKc := hK.sub (tys' := [(cY, .int)]) [0] rfl
      have hFc := va_free (wc := [(zo14irriiiiiirriirrrrlriiii m0 th aS aI im ac sp en wg op aB aT se dn aG aO aN aD bv aY (nI tl.length) kd nu tv), (zaI aY cY 20 fY)]) hD hS hA [0, 1] rfl
      refine va_callv (va_runV (As := [.int 41]) (rest := []) ⟨hx, hb, hml, hown, hts⟩ (c_ranBody l dC dI m0 aS aI aB aT aG aO aN aD aY th im ac sp en wg op se dn (nI tl.length) kd nu tv bv cY fY tl 41 H.size (by have hbS := btS_le kd; have hbG := btG_le kd; have hbL := btL_le kd; (try simp only [List.length_append, List.length_cons, List.length_nil]); omega) (zY)) (cwV 1 hts gX12_looksActs_X12_ranBody rfl rfl rfl hd_yX12_ranBody ⟨Nat.le_of_ble_eq_true rfl, Nat.le_of_ble_eq_true rfl⟩) ⟨fun a U g mk q => by obtain ⟨q0, q1, qP, qK, qD⟩ := q; exact ⟨q0, q1, qP, va_K.moved (u := U) (U := U.calling g mk a) (Vm.Alike.refl U.vm) qK, qD⟩, va_recv hK hP (ci := 14) (q := (RX12, TX12, 23)) (q0 := 0) rfl rfl, fun U hU hW => ⟨rfl, by rw [hU], by rw [hU]; exact hPc, va_K.moved hW.alike hKc, hDc.weaken (fun _ _ _ _ => trivial)⟩⟩ rfl rfl hl.1 rfl (lv_room (Nat.le_of_ble_eq_true rfl)) dX12_looksActs_37 ⟨Nat.le_of_ble_eq_true rfl, Nat.le_of_ble_eq_true rfl⟩) hS (fun q _ h => hFc q h) hFc (fun u tC H1 locs htC hvm hw_30 hB hz1 hk1 hS => ?_)
      obtain ⟨fY9_31, rn9_32⟩ := u
      try dsimp only at hw_30 hB
      obtain ⟨hP1, hK1, hD1⟩ := hB
      rw [htC] at hP1
      have hK1 := va_K.moved hvm.symm hK1
      obtain ⟨hP, hD⟩ := va_join (wr := []) (w1 := [(zo14irriiiiiirriirrrrlriiii m0 th aS aI im ac sp en wg op aB aT se dn aG aO aN aD bv aY rn9_32 kd nu tv), (zaI aY cY 20 fY9_31)]) hP hD [0, 1] [] rfl rfl (by decide) (by decide) hk1 hFc hP1 hD1
      have hK := (hK.sub (tys' := []) [] rfl).app hK1
      generalize H1 = H at hP hS ⊢
      have hP : va_P (dC, dI) vwCl [(zo14irriiiiiirriirrrrlriiii m0 th aS aI im ac sp en wg op aB aT se dn aG aO aN aD bv aY rn9_32 kd nu tv), (zaI aY cY 20 fY9_31)] H := hP
      have hD : va_D A [(zo14irriiiiiirriirrrrlriiii m0 th aS aI im ac sp en wg op aB aT se dn aG aO aN aD bv aY rn9_32 kd nu tv), (zaI aY cY 20 fY9_31)] := hD
      have hK : va_K (dC, dI) vwCl [(cY, .int)] s := hK
      obtain ⟨e_33, hY_34⟩ := hw_30
      obtain rfl := e_33
      refine lv_aload_n hx hb dX12_looksActs_40 rfl (lv_at hl 0 rfl) ?_
      refine lv_iload_n hx hb dX12_looksActs_41 rfl (lv_at hl 1 rfl) ?_
      refine lv_iconst (v := 1) hx hb dX12_looksActs_42 (by decide) ?_
      refine lv_isub hx hb dX12_looksActs_43 ?_
      have hPc := hP.sub (ws' := [(zo14irriiiiiirriirrrrlriiii m0 th aS aI im ac sp en wg op aB aT se dn aG aO aN aD bv aY (nI ((tl ++ [41]).length)) kd nu tv), (zaI aY cY 20 fY9_31)]) [0, 1] rfl
      have hDc := hD.sub (ws' := [(zo14irriiiiiirriirrrrlriiii m0 th aS aI im ac sp en wg op aB aT se dn aG aO aN aD bv aY (nI ((tl ++ [41]).length)) kd nu tv), (zaI aY cY 20 fY9_31)]) [0, 1] (by decide) rfl
      have hKc := hK.sub (tys' := [(cY, .int)]) [0] rfl
      have hFc := va_free (wc := [(zo14irriiiiiirriirrrrlriiii m0 th aS aI im ac sp en wg op aB aT se dn aG aO aN aD bv aY (nI ((tl ++ [41]).length)) kd nu tv), (zaI aY cY 20 fY9_31)]) hD hS hA [0, 1] rfl
      refine va_calli (va_runV (As := [.int (x - 1)]) (rest := []) ⟨hx, hb, hml, hown, hts⟩ (c_plainLooks l dC dI m0 aS aI aB aT aG aO aN aD aY th im ac sp en wg op se dn (nI ((tl ++ [41]).length)) kd nu tv bv cY fY9_31 (tl ++ [41]) (x - 1) H.size (by have hbS := btS_le kd; have hbG := btG_le kd; have hbL := btL_le kd; (try simp only [List.length_append, List.length_cons, List.length_nil]); omega) (hY_34)) (cwV 1 hts gX12_looksActs_X12_plainLooks rfl rfl rfl hd_yX12_plainLooks ⟨Nat.le_of_ble_eq_true rfl, Nat.le_of_ble_eq_true rfl⟩) ⟨fun a U g mk q => by obtain ⟨q0, q1, qP, qK, qD⟩ := q; exact ⟨q0, q1, qP, va_K.moved (u := U) (U := U.calling g mk a) (Vm.Alike.refl U.vm) qK, qD⟩, va_recv hK hP (ci := 14) (q := (RX12, TX12, 23)) (q0 := 0) rfl rfl, fun U hU hW => ⟨rfl, by rw [hU], by rw [hU]; exact hPc, va_K.moved hW.alike hKc, hDc.weaken (fun _ _ _ _ => trivial)⟩⟩ rfl rfl hl.1 rfl (lv_room (Nat.le_of_ble_eq_true rfl)) dX12_looksActs_44 ⟨Nat.le_of_ble_eq_true rfl, Nat.le_of_ble_eq_true rfl⟩) hS (fun q _ h => hFc q h) hFc (fun r_35 u tC H1 locs htC hvm hw_36 hB hz1 hk1 hS => ?_)
      obtain ⟨fY9_37, rn9_38⟩ := u
      try dsimp only at hw_36 hB
      obtain ⟨hP1, hK1, hD1⟩ := hB
      rw [htC] at hP1
      have hK1 := va_K.moved hvm.symm hK1
      obtain ⟨hP, hD⟩ := va_join (wr := []) (w1 := [(zo14irriiiiiirriirrrrlriiii m0 th aS aI im ac sp en wg op aB aT se dn aG aO aN aD bv aY rn9_38 kd nu tv), (zaI aY cY 20 fY9_37)]) hP hD [0, 1] [] rfl rfl (by decide) (by decide) hk1 hFc hP1 hD1
      have hK := (hK.sub (tys' := []) [] rfl).app hK1
      generalize H1 = H at hP hS ⊢
      have hP : va_P (dC, dI) vwCl [(zo14irriiiiiirriirrrrlriiii m0 th aS aI im ac sp en wg op aB aT se dn aG aO aN aD bv aY rn9_38 kd nu tv), (zaI aY cY 20 fY9_37)] H := hP
      have hD : va_D A [(zo14irriiiiiirriirrrrlriiii m0 th aS aI im ac sp en wg op aB aT se dn aG aO aN aD bv aY rn9_38 kd nu tv), (zaI aY cY 20 fY9_37)] := hD
      have hK : va_K (dC, dI) vwCl [(cY, .int)] s := hK
      obtain ⟨er_39, h_40⟩ := hw_36
      obtain ⟨e_41, hY_42⟩ := h_40
      obtain rfl := e_41
      subst er_39
      refine lv_istore_n (lv' := [(2, .int (acG kd nu tv (x - 1) * 2)), (0, .ref m0), (1, .int x)]) hx hb dX12_looksActs_47 rfl hl (by decide) rfl (fun ls hl => ?_)
      refine lv_iload_n hx hb dX12_looksActs_48 rfl (lv_at hl 0 rfl) ?_
      refine lv_aload_n hx hb dX12_looksActs_49 rfl (lv_at hl 1 rfl) ?_
      refine lv_iconst (v := 2) hx hb dX12_looksActs_50 (by decide) ?_
      have hPc := hP.sub (ws' := [(zo14irriiiiiirriirrrrlriiii m0 th aS aI im ac sp en wg op aB aT se dn aG aO aN aD bv aY (nI (((tl ++ [41]) ++ (3 :: btG kd)).length)) kd nu tv), (zaI aY cY 20 fY9_37)]) [0, 1] rfl
      have hDc := hD.sub (ws' := [(zo14irriiiiiirriirrrrlriiii m0 th aS aI im ac sp en wg op aB aT se dn aG aO aN aD bv aY (nI (((tl ++ [41]) ++ (3 :: btG kd)).length)) kd nu tv), (zaI aY cY 20 fY9_37)]) [0, 1] (by decide) rfl
      have hKc := hK.sub (tys' := [(cY, .int)]) [0] rfl
      have hFc := va_free (wc := [(zo14irriiiiiirriirrrrlriiii m0 th aS aI im ac sp en wg op aB aT se dn aG aO aN aD bv aY (nI (((tl ++ [41]) ++ (3 :: btG kd)).length)) kd nu tv), (zaI aY cY 20 fY9_37)]) hD hS hA [0, 1] rfl
      refine va_calli (va_runV (As := [.int 2]) (rest := [.int (acG kd nu tv (x - 1) * 2)]) ⟨hx, hb, hml, hown, hts⟩ (c_seesActs l dC dI m0 aS aI aB aT aG aO aN aD aY th im ac sp en wg op se dn (nI (((tl ++ [41]) ++ (3 :: btG kd)).length)) kd nu tv bv cY fY9_37 ((tl ++ [41]) ++ (3 :: btG kd)) 2 H.size (by have hbS := btS_le kd; have hbG := btG_le kd; have hbL := btL_le kd; (try simp only [List.length_append, List.length_cons, List.length_nil]); omega) (hY_42)) (cwV 1 hts gX12_looksActs_X12_seesActs rfl rfl rfl hd_yX12_seesActs ⟨Nat.le_of_ble_eq_true rfl, Nat.le_of_ble_eq_true rfl⟩) ⟨fun a U g mk q => by obtain ⟨q0, q1, qP, qK, qD⟩ := q; exact ⟨q0, q1, qP, va_K.moved (u := U) (U := U.calling g mk a) (Vm.Alike.refl U.vm) qK, qD⟩, va_recv hK hP (ci := 14) (q := (RX12, TX12, 23)) (q0 := 0) rfl rfl, fun U hU hW => ⟨rfl, by rw [hU], by rw [hU]; exact hPc, va_K.moved hW.alike hKc, hDc.weaken (fun _ _ _ _ => trivial)⟩⟩ rfl rfl hl.1 rfl (lv_room (Nat.le_of_ble_eq_true rfl)) dX12_looksActs_51 ⟨Nat.le_of_ble_eq_true rfl, Nat.le_of_ble_eq_true rfl⟩) hS (fun q _ h => hFc q h) hFc (fun r_43 u tC H1 locs htC hvm hw_44 hB hz1 hk1 hS => ?_)
      obtain ⟨fY9_45, rn9_46⟩ := u
      try dsimp only at hw_44 hB
      obtain ⟨hP1, hK1, hD1⟩ := hB
      rw [htC] at hP1
      have hK1 := va_K.moved hvm.symm hK1
      obtain ⟨hP, hD⟩ := va_join (wr := []) (w1 := [(zo14irriiiiiirriirrrrlriiii m0 th aS aI im ac sp en wg op aB aT se dn aG aO aN aD bv aY rn9_46 kd nu tv), (zaI aY cY 20 fY9_45)]) hP hD [0, 1] [] rfl rfl (by decide) (by decide) hk1 hFc hP1 hD1
      have hK := (hK.sub (tys' := []) [] rfl).app hK1
      generalize H1 = H at hP hS ⊢
      have hP : va_P (dC, dI) vwCl [(zo14irriiiiiirriirrrrlriiii m0 th aS aI im ac sp en wg op aB aT se dn aG aO aN aD bv aY rn9_46 kd nu tv), (zaI aY cY 20 fY9_45)] H := hP
      have hD : va_D A [(zo14irriiiiiirriirrrrlriiii m0 th aS aI im ac sp en wg op aB aT se dn aG aO aN aD bv aY rn9_46 kd nu tv), (zaI aY cY 20 fY9_45)] := hD
      have hK : va_K (dC, dI) vwCl [(cY, .int)] s := hK
      obtain ⟨er_47, h_48⟩ := hw_44
      obtain ⟨e_49, hY_50⟩ := h_48
      obtain rfl := e_49
      subst er_47
      refine lv_iadd hx hb dX12_looksActs_54 ?_
      rw [hQ]
      have hP9 := hP.sub (ws' := [(zo14irriiiiiirriirrrrlriiii m0 th aS aI im ac sp en wg op aB aT se dn aG aO aN aD bv aY (nI ((((tl ++ [41]) ++ (3 :: btG kd)) ++ btS kd).length)) kd nu tv), (zaI aY cY 20 fY9_45)]) [0, 1] rfl
      have hD9 := hD.sub (ws' := [(zo14irriiiiiirriirrrrlriiii m0 th aS aI im ac sp en wg op aB aT se dn aG aO aN aD bv aY (nI ((((tl ++ [41]) ++ (3 :: btG kd)) ++ btS kd).length)) kd nu tv), (zaI aY cY 20 fY9_45)]) [0, 1] (by decide) rfl
      have hK9 := hK.sub (tys' := [(cY, .int)]) [0] rfl
      exact W.iret (v := (acG kd nu tv (x - 1) * 2) + (acS kd nu tv 2)) hx hb hr (fun tQ htQ hWQ => ⟨⟨((acG kd nu tv (x - 1) * 2) + (acS kd nu tv 2)), (fY9_45, (nI ((((tl ++ [41]) ++ (3 :: btG kd)) ++ btS kd).length))), rfl, ⟨acL_4 (by assumption) (by assumption), by rw [show tl ++ btL kd = (((tl ++ [41]) ++ (3 :: btG kd)) ++ btS kd) from (congrArg (fun z => tl ++ z) (btL_4 (by assumption) (by assumption))).trans (by simp)]; exact ⟨rfl, hY_50⟩⟩, by rw [htQ]; exact hP9, va_K.moved hWQ.alike hK9, hD9⟩, hS.F htQ⟩) hS.2.2 dX12_looksActs_55

theorem kc_mAct_0 : ∀ w ∈ wsX120, w ∈ wsX12_act := fun w h => List.mem_cons_of_mem _ (gin_wsX120 w h)
theorem kc_mAct_1 : (.fieldLink RX12 246 "MistHeapsModel" "ran" "I" : Cond) ∈ wsX12_act := kc_of 1159 rfl rfl rfl
theorem kc_mAct_2 : (.fieldLink RX12 9 "MistHeapsModel" "s" "[I" : Cond) ∈ wsX12_act := kc_of 1141 rfl rfl rfl
theorem kc_mAct_3 : (.fieldLink RX12 255 "MistHeapsModel" "kind" "I" : Cond) ∈ wsX12_act := kc_of 1160 rfl rfl rfl
theorem kc_mAct_4 : (.fieldLink RX12 252 "MistHeapsModel" "number" "I" : Cond) ∈ wsX12_act := kc_of 1161 rfl rfl rfl
theorem kc_mAct_5 : (.fieldLink RX12 267 "MistHeapsModel" "tellsV" "I" : Cond) ∈ wsX12_act := kc_of 1162 rfl rfl rfl
set_option maxHeartbeats 4000000 in
set_option maxRecDepth 100000 in
theorem c_mAct (l : Launch) (dC : Nat → ClassId) (dI : Nat → Nat → Nat) (m0 aS aI aB aT aG aO aN aD aY : Nat) (th im ac sp en wg op se dn rn kd nu tv : Int32) (bv : Int64) (cS cY : ClassId) (fS : Nat → Int32) (fY : Nat → Int32) (n : Nat) (yk yv : Nat → Int32) (x y z : Int32) (sz : Nat) (zn : fS 0 = nI n) (hn : n ≤ 8) (zkd : ∀ k, k < n → fS (10 + k) = yk k) (zvv : ∀ k, k < n → fS (19 + k) = yv k) : Met l yX12_act wsX12_act ({ frames := 7, cells := 0, slots := 0, locals := 148 } : Room) (va_Pc [.ref m0, .int x, .int y, .int z] (fun U => U.heap.size = sz ∧ va_P (dC, dI) vwCl [(zo14irriiiiiirriirrrrlriiii m0 th aS aI im ac sp en wg op aB aT se dn aG aO aN aD bv aY rn kd nu tv), (zaI aS cS 901 fS), (zaI aY cY 20 fY)] U.heap ∧ va_K (dC, dI) vwCl [(cS, .int), (cY, .int)] U ∧ va_D (fun _ => True) [(zo14irriiiiiirriirrrrlriiii m0 th aS aI im ac sp en wg op aB aT se dn aG aO aN aD bv aY rn kd nu tv), (zaI aS cS 901 fS), (zaI aY cY 20 fY)])) (va_Qi (fun (r : Int32) (u : (Nat → Int32) × (Int32) × (Int32) × (Int32) × (Int32)) => match u with | (fY9, rn9, kd9, nu9, tv9) => r = acR n yk yv x y z ∧ rn9 = nI (acT n yk x y).length ∧ okY fY9 (acT n yk x y)) (fun (u : (Nat → Int32) × (Int32) × (Int32) × (Int32) × (Int32)) (t : State) => match u with | (fY9, rn9, kd9, nu9, tv9) => va_P (dC, dI) vwCl [(zo14irriiiiiirriirrrrlriiii m0 th aS aI im ac sp en wg op aB aT se dn aG aO aN aD bv aY rn9 kd9 nu9 tv9), (zaI aS cS 901 fS), (zaI aY cY 20 fY9)] t.heap ∧ va_K (dC, dI) vwCl [(cS, .int), (cY, .int)] t ∧ va_D (va_A [(zo14irriiiiiirriirrrrlriiii m0 th aS aI im ac sp en wg op aB aT se dn aG aO aN aD bv aY rn kd nu tv), (zaI aS cS 901 fS), (zaI aY cY 20 fY)] sz) [(zo14irriiiiiirriirrrrlriiii m0 th aS aI im ac sp en wg op aB aT se dn aG aO aN aD bv aY rn9 kd9 nu9 tv9), (zaI aS cS 901 fS), (zaI aY cY 20 fY9)]) (va_A [(zo14irriiiiiirriirrrrlriiii m0 th aS aI im ac sp en wg op aB aT se dn aG aO aN aD bv aY rn kd nu tv), (zaI aS cS 901 fS), (zaI aY cY 20 fY)] sz)) 0 0 (va_A [(zo14irriiiiiirriirrrrlriiii m0 th aS aI im ac sp en wg op aB aT se dn aG aO aN aD bv aY rn kd nu tv), (zaI aS cS 901 fS), (zaI aY cY 20 fY)] sz) := by
  refine met_ofQ (cc := cX12_act) (maxL := 4) (ret := (some .int)) (by decide) rfl ?_
  intro p e s m args below meth c s₁ Q B hml hv hQ
  obtain ⟨rfl, hsz, hP, hK, hD0⟩ := hv
  have hx := B.exec
  have hb := B.bytes
  have hr := B.returns
  have hts := atoms_spec (ws := wsX12_act) B.pre
  have hown : s.vm.findClass RX12 = some m.cls := findClass_of_methodNamed B.named
  have hlocks := B.notSynchronized
  subst hsz
  have hD := hD0.self (sz := s.heap.size)
  generalize hAe : va_A [(zo14irriiiiiirriirrrrlriiii m0 th aS aI im ac sp en wg op aB aT se dn aG aO aN aD bv aY rn kd nu tv), (zaI aS cS 901 fS), (zaI aY cY 20 fY)] s.heap.size = A at hD hQ ⊢
  have hA : ∀ q : Nat, s.heap.size ≤ q → A q := fun q h => by rw [← hAe]; exact Or.inr h
  have hS : va_S A s.heap s.heap [] := va_S.rf
  have hl := lv_entry [.ref m0, .int x, .int y, .int z] (n := 4) (Nat.le_of_ble_eq_true rfl)
  rw [lg_entry_eq]
  generalize (lg_sl [.ref m0, .int x, .int y, .int z] ++ List.replicate (4 - (lg_sl [.ref m0, .int x, .int y, .int z]).length) Slot.unset).toArray = ls at hl ⊢
  generalize hag : ([.ref m0, .int x, .int y, .int z] : List Value).toArray = args at hts hQ ⊢
  have hl : lv_has ls 4 [(0, .ref m0), (1, .int x), (2, .int y), (3, .int z)] := hl
  obtain ⟨H, hH⟩ : ∃ H : Heap, H = s.heap := ⟨_, rfl⟩
  rw [← hH] at hP
  rw [← hH]
  have hS : va_S A s.heap H [] := by rw [hH]; exact hS
  obtain ⟨locs, hlo⟩ : ∃ L : List Loc, L = [] := ⟨_, rfl⟩
  rw [← hlo] at hS
  rw [← hlo]
  clear hH hlo
  refine lv_aload_n hx hb dX12_act_0 rfl (lv_at hl 0 rfl) ?_
  refine lv_iconst (v := 0) hx hb dX12_act_1 (by decide) ?_
  refine va_put (D := (dC, dI)) (ci := 14) (v := .int 0) (ty := .int) (C := RX12) (T := TX12) (N := 23) hx hb hts kc_mAct_0 tyX12 tyX12_ok nmX12 hown hK hP hD hS 0 rfl rfl 19 (by decide) (hts (.fieldLink RX12 246 "MistHeapsModel" "ran" "I") kc_mAct_1) (fun _ h9 => h9) rfl (by decide +kernel) rfl rfl (Nat.le_of_ble_eq_true rfl) dX12_act_2 (fun H locs hP hD hS => ?_)
  have hP : va_P (dC, dI) vwCl [(zo14irriiiiiirriirrrrlriiii m0 th aS aI im ac sp en wg op aB aT se dn aG aO aN aD bv aY 0 kd nu tv), (zaI aS cS 901 fS), (zaI aY cY 20 fY)] H := hP
  have hD : va_D A [(zo14irriiiiiirriirrrrlriiii m0 th aS aI im ac sp en wg op aB aT se dn aG aO aN aD bv aY 0 kd nu tv), (zaI aS cS 901 fS), (zaI aY cY 20 fY)] := hD
  refine lv_aload_n hx hb dX12_act_5 rfl (lv_at hl 0 rfl) ?_
  refine lv_iload_n hx hb dX12_act_6 rfl (lv_at hl 1 rfl) ?_
  have hPc := hP.sub (ws' := [(zo14irriiiiiirriirrrrlriiii m0 th aS aI im ac sp en wg op aB aT se dn aG aO aN aD bv aY 0 kd nu tv), (zaI aS cS 901 fS)]) [0, 1] rfl
  have hKc := hK.sub (tys' := [(cS, .int)]) [0] rfl
  refine vp_callSi (va_runV (As := [.int x]) (rest := []) ⟨hx, hb, hml, hown, hts⟩ (c_isHeap l dC dI m0 aS aI aB aT aG aO aN aD aY th im ac sp en wg op se dn 0 kd nu tv bv cS fS n x (zn) (hn)) (cwV 1 hts gX12_act_X12_isHeap rfl rfl rfl hd_yX12_isHeap ⟨Nat.le_of_ble_eq_true rfl, Nat.le_of_ble_eq_true rfl⟩) ⟨fun a U g mk q => by obtain ⟨q0, qP, qK⟩ := q; exact ⟨q0, qP, va_K.moved (u := U) (U := U.calling g mk a) (Vm.Alike.refl U.vm) qK⟩, va_recv hK hP (ci := 14) (q := (RX12, TX12, 23)) (q0 := 0) rfl rfl, fun U hU hW => ⟨rfl, by rw [hU]; exact hPc, va_K.moved hW.alike hKc⟩⟩ rfl rfl hl.1 rfl (lv_room (Nat.le_of_ble_eq_true rfl)) dX12_act_7 ⟨Nat.le_of_ble_eq_true rfl, Nat.le_of_ble_eq_true rfl⟩).run (fun r_1 hw_2 => ?_)
  rcases hw_2 with ⟨rfl, j_3, hj_4, rfl⟩ | ⟨rfl, h_5⟩
  · skip
    refine lv_if_eq (tgt := 22) hx hb dX12_act_10 (by decide) (fun c_6 => absurd c_6 (by decide)) (fun _ => ?_)
    refine lv_iload_n hx hb dX12_act_13 rfl (lv_at hl 2 rfl) ?_
    refine lv_iconst (v := 0) hx hb dX12_act_14 (by decide) ?_
    refine lv_iconst (v := 2) hx hb dX12_act_15 (by decide) ?_
    refine vp_callSi (va_runS (As := [.int y, .int 0, .int 2]) (rest := []) ⟨hx, hb, hml, hown, hts⟩ (c_in l dC dI y 0 2) (va_cwS 3 hts gX12_act_X12_in rfl rfl rfl hd_yX12_in.2 ⟨Nat.le_of_ble_eq_true rfl, Nat.le_of_ble_eq_true rfl⟩) ⟨fun a U g mk q => ⟨q.1, trivial⟩, fun U hU hW => ⟨rfl, trivial⟩⟩ rfl rfl hl.1 rfl (lv_room (Nat.le_of_ble_eq_true rfl)) dX12_act_16 ⟨Nat.le_of_ble_eq_true rfl, Nat.le_of_ble_eq_true rfl⟩).run (fun r_7 hw_8 => ?_)
    rcases hw_8 with ⟨rfl, h_9, h_10⟩ | ⟨rfl, h_11⟩
    · skip
      refine lv_if_ne (tgt := 24) hx hb dX12_act_19 (by decide) (fun _ => ?_) (fun c_12 => absurd c_12 (by decide))
      refine lv_aload_n hx hb dX12_act_24 rfl (lv_at hl 0 rfl) ?_
      refine lv_aload_n hx hb dX12_act_25 rfl (lv_at hl 0 rfl) ?_
      refine va_get (D := (dC, dI)) (ci := 14) (v := .ref aS) (C := RX12) (T := TX12) (N := 23) hx hb hts kc_mAct_0 hown hK hP 0 rfl rfl 1 (by decide) (hts (.fieldLink RX12 9 "MistHeapsModel" "s" "[I") kc_mAct_2) (fun _ h9 => h9) rfl dX12_act_26 ?_
      refine lv_bipush (v := 10) hx hb dX12_act_29 (by decide) ?_
      refine lv_iload_n hx hb dX12_act_31 rfl (lv_at hl 1 rfl) ?_
      refine lv_iadd hx hb dX12_act_32 ?_
      refine qi_as (y := nI (10 + j_3)) (nI_add 10 j_3) ?_
      refine va_iald hx hb hK hP 1 0 rfl rfl (vp_in_nI (n := 10 + j_3) (N := 901) (by omega) (by omega)) dX12_act_33 ?_
      refine qi_as (y := yk j_3) ((show fS (nI (10 + j_3) : Int32).toNatClampNeg = fS (10 + j_3) from by rw [nI_clamp (by omega)]).trans (zkd j_3 (by omega))) ?_
      refine va_put (D := (dC, dI)) (ci := 14) (v := .int (yk j_3)) (ty := .int) (C := RX12) (T := TX12) (N := 23) hx hb hts kc_mAct_0 tyX12 tyX12_ok nmX12 hown hK hP hD hS 0 rfl rfl 20 (by decide) (hts (.fieldLink RX12 255 "MistHeapsModel" "kind" "I") kc_mAct_3) (fun _ h9 => h9) rfl (by decide +kernel) rfl rfl (Nat.le_of_ble_eq_true rfl) dX12_act_34 (fun H locs hP hD hS => ?_)
      have hP : va_P (dC, dI) vwCl [(zo14irriiiiiirriirrrrlriiii m0 th aS aI im ac sp en wg op aB aT se dn aG aO aN aD bv aY 0 (yk j_3) nu tv), (zaI aS cS 901 fS), (zaI aY cY 20 fY)] H := hP
      have hD : va_D A [(zo14irriiiiiirriirrrrlriiii m0 th aS aI im ac sp en wg op aB aT se dn aG aO aN aD bv aY 0 (yk j_3) nu tv), (zaI aS cS 901 fS), (zaI aY cY 20 fY)] := hD
      refine lv_aload_n hx hb dX12_act_37 rfl (lv_at hl 0 rfl) ?_
      refine lv_iload_n hx hb dX12_act_38 rfl (lv_at hl 1 rfl) ?_
      refine va_put (D := (dC, dI)) (ci := 14) (v := .int (nI j_3)) (ty := .int) (C := RX12) (T := TX12) (N := 23) hx hb hts kc_mAct_0 tyX12 tyX12_ok nmX12 hown hK hP hD hS 0 rfl rfl 21 (by decide) (hts (.fieldLink RX12 252 "MistHeapsModel" "number" "I") kc_mAct_4) (fun _ h9 => h9) rfl (by decide +kernel) rfl rfl (Nat.le_of_ble_eq_true rfl) dX12_act_39 (fun H locs hP hD hS => ?_)
      have hP : va_P (dC, dI) vwCl [(zo14irriiiiiirriirrrrlriiii m0 th aS aI im ac sp en wg op aB aT se dn aG aO aN aD bv aY 0 (yk j_3) (nI j_3) tv), (zaI aS cS 901 fS), (zaI aY cY 20 fY)] H := hP
      have hD : va_D A [(zo14irriiiiiirriirrrrlriiii m0 th aS aI im ac sp en wg op aB aT se dn aG aO aN aD bv aY 0 (yk j_3) (nI j_3) tv), (zaI aS cS 901 fS), (zaI aY cY 20 fY)] := hD
      refine lv_aload_n hx hb dX12_act_42 rfl (lv_at hl 0 rfl) ?_
      refine lv_aload_n hx hb dX12_act_43 rfl (lv_at hl 0 rfl) ?_
      refine va_get (D := (dC, dI)) (ci := 14) (v := .ref aS) (C := RX12) (T := TX12) (N := 23) hx hb hts kc_mAct_0 hown hK hP 0 rfl rfl 1 (by decide) (hts (.fieldLink RX12 9 "MistHeapsModel" "s" "[I") kc_mAct_2) (fun _ h9 => h9) rfl dX12_act_44 ?_
      refine lv_bipush (v := 19) hx hb dX12_act_47 (by decide) ?_
      refine lv_iload_n hx hb dX12_act_49 rfl (lv_at hl 1 rfl) ?_
      refine lv_iadd hx hb dX12_act_50 ?_
      refine qi_as (y := nI (19 + j_3)) (nI_add 19 j_3) ?_
      refine va_iald hx hb hK hP 1 0 rfl rfl (vp_in_nI (n := 19 + j_3) (N := 901) (by omega) (by omega)) dX12_act_51 ?_
      refine qi_as (y := yv j_3) ((show fS (nI (19 + j_3) : Int32).toNatClampNeg = fS (19 + j_3) from by rw [nI_clamp (by omega)]).trans (zvv j_3 (by omega))) ?_
      refine va_put (D := (dC, dI)) (ci := 14) (v := .int (yv j_3)) (ty := .int) (C := RX12) (T := TX12) (N := 23) hx hb hts kc_mAct_0 tyX12 tyX12_ok nmX12 hown hK hP hD hS 0 rfl rfl 22 (by decide) (hts (.fieldLink RX12 267 "MistHeapsModel" "tellsV" "I") kc_mAct_5) (fun _ h9 => h9) rfl (by decide +kernel) rfl rfl (Nat.le_of_ble_eq_true rfl) dX12_act_52 (fun H locs hP hD hS => ?_)
      have hP : va_P (dC, dI) vwCl [(zo14irriiiiiirriirrrrlriiii m0 th aS aI im ac sp en wg op aB aT se dn aG aO aN aD bv aY 0 (yk j_3) (nI j_3) (yv j_3)), (zaI aS cS 901 fS), (zaI aY cY 20 fY)] H := hP
      have hD : va_D A [(zo14irriiiiiirriirrrrlriiii m0 th aS aI im ac sp en wg op aB aT se dn aG aO aN aD bv aY 0 (yk j_3) (nI j_3) (yv j_3)), (zaI aS cS 901 fS), (zaI aY cY 20 fY)] := hD
      refine lv_iload_n hx hb dX12_act_55 rfl (lv_at hl 2 rfl) ?_
      refine lv_if_ne (tgt := 67) hx hb dX12_act_56 (by decide) (fun c_13 => ?_) (fun c_13 => ?_)
      · skip
        refine lv_iload_n hx hb dX12_act_67 rfl (lv_at hl 2 rfl) ?_
        refine lv_iconst (v := 1) hx hb dX12_act_68 (by decide) ?_
        refine lv_icmp_ne (tgt := 80) hx hb dX12_act_69 (by decide) (fun c_14 => ?_) (fun c_14 => ?_)
        · skip
          refine lv_aload_n hx hb dX12_act_80 rfl (lv_at hl 0 rfl) ?_
          refine lv_iload_n hx hb dX12_act_81 rfl (lv_at hl 3 rfl) ?_
          have hPc := hP.sub (ws' := [(zo14irriiiiiirriirrrrlriiii m0 th aS aI im ac sp en wg op aB aT se dn aG aO aN aD bv aY 0 (yk j_3) (nI j_3) (yv j_3)), (zaI aY cY 20 fY)]) [0, 2] rfl
          have hDc := hD.sub (ws' := [(zo14irriiiiiirriirrrrlriiii m0 th aS aI im ac sp en wg op aB aT se dn aG aO aN aD bv aY 0 (yk j_3) (nI j_3) (yv j_3)), (zaI aY cY 20 fY)]) [0, 2] (by decide) rfl
          have hKc := hK.sub (tys' := [(cY, .int)]) [1] rfl
          have hFc := va_free (wc := [(zo14irriiiiiirriirrrrlriiii m0 th aS aI im ac sp en wg op aB aT se dn aG aO aN aD bv aY 0 (yk j_3) (nI j_3) (yv j_3)), (zaI aY cY 20 fY)]) hD hS hA [0, 2] rfl
          refine va_calli (va_runV (As := [.int z]) (rest := []) ⟨hx, hb, hml, hown, hts⟩ (c_looksActs l dC dI m0 aS aI aB aT aG aO aN aD aY th im ac sp en wg op se dn 0 (yk j_3) (nI j_3) (yv j_3) bv cY fY ([] : List Nat) z H.size (by have hbS := btS_le (yk j_3); have hbG := btG_le (yk j_3); have hbL := btL_le (yk j_3); (try simp only [List.length_append, List.length_cons, List.length_nil]); omega) (okY_nil)) (cwV 1 hts gX12_act_X12_looksActs rfl rfl rfl hd_yX12_looksActs ⟨Nat.le_of_ble_eq_true rfl, Nat.le_of_ble_eq_true rfl⟩) ⟨fun a U g mk q => by obtain ⟨q0, q1, qP, qK, qD⟩ := q; exact ⟨q0, q1, qP, va_K.moved (u := U) (U := U.calling g mk a) (Vm.Alike.refl U.vm) qK, qD⟩, va_recv hK hP (ci := 14) (q := (RX12, TX12, 23)) (q0 := 0) rfl rfl, fun U hU hW => ⟨rfl, by rw [hU], by rw [hU]; exact hPc, va_K.moved hW.alike hKc, hDc.weaken (fun _ _ _ _ => trivial)⟩⟩ rfl rfl hl.1 rfl (lv_room (Nat.le_of_ble_eq_true rfl)) dX12_act_82 ⟨Nat.le_of_ble_eq_true rfl, Nat.le_of_ble_eq_true rfl⟩) hS (fun q _ h => hFc q h) hFc (fun r_15 u tC H1 locs htC hvm hw_16 hB hz1 hk1 hS => ?_)
          obtain ⟨fY9_17, rn9_18⟩ := u
          try dsimp only at hw_16 hB
          obtain ⟨hP1, hK1, hD1⟩ := hB
          rw [htC] at hP1
          have hK1 := va_K.moved hvm.symm hK1
          obtain ⟨hP, hD⟩ := va_join (wr := [(zaI aS cS 901 fS)]) (w1 := [(zo14irriiiiiirriirrrrlriiii m0 th aS aI im ac sp en wg op aB aT se dn aG aO aN aD bv aY rn9_18 (yk j_3) (nI j_3) (yv j_3)), (zaI aY cY 20 fY9_17)]) hP hD [0, 2] [1] rfl rfl (by decide) (by decide) hk1 hFc hP1 hD1
          have hK := (hK.sub (tys' := [(cS, .int)]) [0] rfl).app hK1
          generalize H1 = H at hP hS ⊢
          have hP : va_P (dC, dI) vwCl [(zaI aS cS 901 fS), (zo14irriiiiiirriirrrrlriiii m0 th aS aI im ac sp en wg op aB aT se dn aG aO aN aD bv aY rn9_18 (yk j_3) (nI j_3) (yv j_3)), (zaI aY cY 20 fY9_17)] H := hP
          have hD : va_D A [(zaI aS cS 901 fS), (zo14irriiiiiirriirrrrlriiii m0 th aS aI im ac sp en wg op aB aT se dn aG aO aN aD bv aY rn9_18 (yk j_3) (nI j_3) (yv j_3)), (zaI aY cY 20 fY9_17)] := hD
          have hK : va_K (dC, dI) vwCl [(cS, .int), (cY, .int)] s := hK
          obtain ⟨er_19, h_20⟩ := hw_16
          obtain ⟨e_21, hY_22⟩ := h_20
          obtain rfl := e_21
          subst er_19
          rw [hQ]
          have hP9 := hP.sub (ws' := [(zo14irriiiiiirriirrrrlriiii m0 th aS aI im ac sp en wg op aB aT se dn aG aO aN aD bv aY (nI ((([] : List Nat) ++ btL (yk j_3)).length)) (yk j_3) (nI j_3) (yv j_3)), (zaI aS cS 901 fS), (zaI aY cY 20 fY9_17)]) [1, 0, 2] rfl
          have hD9 := hD.sub (ws' := [(zo14irriiiiiirriirrrrlriiii m0 th aS aI im ac sp en wg op aB aT se dn aG aO aN aD bv aY (nI ((([] : List Nat) ++ btL (yk j_3)).length)) (yk j_3) (nI j_3) (yv j_3)), (zaI aS cS 901 fS), (zaI aY cY 20 fY9_17)]) [1, 0, 2] (by decide) rfl
          have hK9 := hK.sub (tys' := [(cS, .int), (cY, .int)]) [0, 1] rfl
          exact W.iret (v := acL (yk j_3) (nI j_3) (yv j_3) z) hx hb hr (fun tQ htQ hWQ => ⟨⟨(acL (yk j_3) (nI j_3) (yv j_3) z), (fY9_17, (nI ((([] : List Nat) ++ btL (yk j_3)).length)), (yk j_3), (nI j_3), (yv j_3)), rfl, ⟨(ac_2 (n := n) (yk := yk) (yv := yv) (j := j_3) (y := y) (z := z) hn (by omega) (y_is2 (by assumption) (by assumption) (by assumption) (by assumption))).1, by rw [(ac_2 (n := n) (yk := yk) (yv := yv) (j := j_3) (y := y) (z := z) hn (by omega) (y_is2 (by assumption) (by assumption) (by assumption) (by assumption))).2]; exact ⟨rfl, hY_22⟩⟩, by rw [htQ]; exact hP9, va_K.moved hWQ.alike hK9, hD9⟩, hS.F htQ⟩) hS.2.2 dX12_act_85
        · skip
          refine lv_aload_n hx hb dX12_act_72 rfl (lv_at hl 0 rfl) ?_
          refine lv_iload_n hx hb dX12_act_73 rfl (lv_at hl 3 rfl) ?_
          have hPc := hP.sub (ws' := [(zo14irriiiiiirriirrrrlriiii m0 th aS aI im ac sp en wg op aB aT se dn aG aO aN aD bv aY 0 (yk j_3) (nI j_3) (yv j_3)), (zaI aY cY 20 fY)]) [0, 2] rfl
          have hDc := hD.sub (ws' := [(zo14irriiiiiirriirrrrlriiii m0 th aS aI im ac sp en wg op aB aT se dn aG aO aN aD bv aY 0 (yk j_3) (nI j_3) (yv j_3)), (zaI aY cY 20 fY)]) [0, 2] (by decide) rfl
          have hKc := hK.sub (tys' := [(cY, .int)]) [1] rfl
          have hFc := va_free (wc := [(zo14irriiiiiirriirrrrlriiii m0 th aS aI im ac sp en wg op aB aT se dn aG aO aN aD bv aY 0 (yk j_3) (nI j_3) (yv j_3)), (zaI aY cY 20 fY)]) hD hS hA [0, 2] rfl
          refine va_calli (va_runV (As := [.int z]) (rest := []) ⟨hx, hb, hml, hown, hts⟩ (c_goesActs l dC dI m0 aS aI aB aT aG aO aN aD aY th im ac sp en wg op se dn 0 (yk j_3) (nI j_3) (yv j_3) bv cY fY ([] : List Nat) z H.size (by have hbS := btS_le (yk j_3); have hbG := btG_le (yk j_3); have hbL := btL_le (yk j_3); (try simp only [List.length_append, List.length_cons, List.length_nil]); omega) (okY_nil)) (cwV 1 hts gX12_act_X12_goesActs rfl rfl rfl hd_yX12_goesActs ⟨Nat.le_of_ble_eq_true rfl, Nat.le_of_ble_eq_true rfl⟩) ⟨fun a U g mk q => by obtain ⟨q0, q1, qP, qK, qD⟩ := q; exact ⟨q0, q1, qP, va_K.moved (u := U) (U := U.calling g mk a) (Vm.Alike.refl U.vm) qK, qD⟩, va_recv hK hP (ci := 14) (q := (RX12, TX12, 23)) (q0 := 0) rfl rfl, fun U hU hW => ⟨rfl, by rw [hU], by rw [hU]; exact hPc, va_K.moved hW.alike hKc, hDc.weaken (fun _ _ _ _ => trivial)⟩⟩ rfl rfl hl.1 rfl (lv_room (Nat.le_of_ble_eq_true rfl)) dX12_act_74 ⟨Nat.le_of_ble_eq_true rfl, Nat.le_of_ble_eq_true rfl⟩) hS (fun q _ h => hFc q h) hFc (fun r_23 u tC H1 locs htC hvm hw_24 hB hz1 hk1 hS => ?_)
          obtain ⟨fY9_25, rn9_26⟩ := u
          try dsimp only at hw_24 hB
          obtain ⟨hP1, hK1, hD1⟩ := hB
          rw [htC] at hP1
          have hK1 := va_K.moved hvm.symm hK1
          obtain ⟨hP, hD⟩ := va_join (wr := [(zaI aS cS 901 fS)]) (w1 := [(zo14irriiiiiirriirrrrlriiii m0 th aS aI im ac sp en wg op aB aT se dn aG aO aN aD bv aY rn9_26 (yk j_3) (nI j_3) (yv j_3)), (zaI aY cY 20 fY9_25)]) hP hD [0, 2] [1] rfl rfl (by decide) (by decide) hk1 hFc hP1 hD1
          have hK := (hK.sub (tys' := [(cS, .int)]) [0] rfl).app hK1
          generalize H1 = H at hP hS ⊢
          have hP : va_P (dC, dI) vwCl [(zaI aS cS 901 fS), (zo14irriiiiiirriirrrrlriiii m0 th aS aI im ac sp en wg op aB aT se dn aG aO aN aD bv aY rn9_26 (yk j_3) (nI j_3) (yv j_3)), (zaI aY cY 20 fY9_25)] H := hP
          have hD : va_D A [(zaI aS cS 901 fS), (zo14irriiiiiirriirrrrlriiii m0 th aS aI im ac sp en wg op aB aT se dn aG aO aN aD bv aY rn9_26 (yk j_3) (nI j_3) (yv j_3)), (zaI aY cY 20 fY9_25)] := hD
          have hK : va_K (dC, dI) vwCl [(cS, .int), (cY, .int)] s := hK
          obtain ⟨er_27, h_28⟩ := hw_24
          obtain ⟨e_29, hY_30⟩ := h_28
          obtain rfl := e_29
          subst er_27
          refine lv_goto (tgt := 85) hx hb dX12_act_77 (by decide) ?_
          rw [hQ]
          have hP9 := hP.sub (ws' := [(zo14irriiiiiirriirrrrlriiii m0 th aS aI im ac sp en wg op aB aT se dn aG aO aN aD bv aY (nI ((([] : List Nat) ++ btG (yk j_3)).length)) (yk j_3) (nI j_3) (yv j_3)), (zaI aS cS 901 fS), (zaI aY cY 20 fY9_25)]) [1, 0, 2] rfl
          have hD9 := hD.sub (ws' := [(zo14irriiiiiirriirrrrlriiii m0 th aS aI im ac sp en wg op aB aT se dn aG aO aN aD bv aY (nI ((([] : List Nat) ++ btG (yk j_3)).length)) (yk j_3) (nI j_3) (yv j_3)), (zaI aS cS 901 fS), (zaI aY cY 20 fY9_25)]) [1, 0, 2] (by decide) rfl
          have hK9 := hK.sub (tys' := [(cS, .int), (cY, .int)]) [0, 1] rfl
          exact W.iret (v := acG (yk j_3) (nI j_3) (yv j_3) z) hx hb hr (fun tQ htQ hWQ => ⟨⟨(acG (yk j_3) (nI j_3) (yv j_3) z), (fY9_25, (nI ((([] : List Nat) ++ btG (yk j_3)).length)), (yk j_3), (nI j_3), (yv j_3)), rfl, ⟨(ac_1 (n := n) (yk := yk) (yv := yv) (j := j_3) (y := y) (z := z) hn (by omega) (by assumption)).1, by rw [(ac_1 (n := n) (yk := yk) (yv := yv) (j := j_3) (y := y) (z := z) hn (by omega) (by assumption)).2]; exact ⟨rfl, hY_30⟩⟩, by rw [htQ]; exact hP9, va_K.moved hWQ.alike hK9, hD9⟩, hS.F htQ⟩) hS.2.2 dX12_act_85
      · skip
        refine lv_aload_n hx hb dX12_act_59 rfl (lv_at hl 0 rfl) ?_
        refine lv_iload_n hx hb dX12_act_60 rfl (lv_at hl 3 rfl) ?_
        have hPc := hP.sub (ws' := [(zo14irriiiiiirriirrrrlriiii m0 th aS aI im ac sp en wg op aB aT se dn aG aO aN aD bv aY 0 (yk j_3) (nI j_3) (yv j_3)), (zaI aY cY 20 fY)]) [0, 2] rfl
        have hDc := hD.sub (ws' := [(zo14irriiiiiirriirrrrlriiii m0 th aS aI im ac sp en wg op aB aT se dn aG aO aN aD bv aY 0 (yk j_3) (nI j_3) (yv j_3)), (zaI aY cY 20 fY)]) [0, 2] (by decide) rfl
        have hKc := hK.sub (tys' := [(cY, .int)]) [1] rfl
        have hFc := va_free (wc := [(zo14irriiiiiirriirrrrlriiii m0 th aS aI im ac sp en wg op aB aT se dn aG aO aN aD bv aY 0 (yk j_3) (nI j_3) (yv j_3)), (zaI aY cY 20 fY)]) hD hS hA [0, 2] rfl
        refine va_calli (va_runV (As := [.int z]) (rest := []) ⟨hx, hb, hml, hown, hts⟩ (c_seesActs l dC dI m0 aS aI aB aT aG aO aN aD aY th im ac sp en wg op se dn 0 (yk j_3) (nI j_3) (yv j_3) bv cY fY ([] : List Nat) z H.size (by have hbS := btS_le (yk j_3); have hbG := btG_le (yk j_3); have hbL := btL_le (yk j_3); (try simp only [List.length_append, List.length_cons, List.length_nil]); omega) (okY_nil)) (cwV 1 hts gX12_act_X12_seesActs rfl rfl rfl hd_yX12_seesActs ⟨Nat.le_of_ble_eq_true rfl, Nat.le_of_ble_eq_true rfl⟩) ⟨fun a U g mk q => by obtain ⟨q0, q1, qP, qK, qD⟩ := q; exact ⟨q0, q1, qP, va_K.moved (u := U) (U := U.calling g mk a) (Vm.Alike.refl U.vm) qK, qD⟩, va_recv hK hP (ci := 14) (q := (RX12, TX12, 23)) (q0 := 0) rfl rfl, fun U hU hW => ⟨rfl, by rw [hU], by rw [hU]; exact hPc, va_K.moved hW.alike hKc, hDc.weaken (fun _ _ _ _ => trivial)⟩⟩ rfl rfl hl.1 rfl (lv_room (Nat.le_of_ble_eq_true rfl)) dX12_act_61 ⟨Nat.le_of_ble_eq_true rfl, Nat.le_of_ble_eq_true rfl⟩) hS (fun q _ h => hFc q h) hFc (fun r_31 u tC H1 locs htC hvm hw_32 hB hz1 hk1 hS => ?_)
        obtain ⟨fY9_33, rn9_34⟩ := u
        try dsimp only at hw_32 hB
        obtain ⟨hP1, hK1, hD1⟩ := hB
        rw [htC] at hP1
        have hK1 := va_K.moved hvm.symm hK1
        obtain ⟨hP, hD⟩ := va_join (wr := [(zaI aS cS 901 fS)]) (w1 := [(zo14irriiiiiirriirrrrlriiii m0 th aS aI im ac sp en wg op aB aT se dn aG aO aN aD bv aY rn9_34 (yk j_3) (nI j_3) (yv j_3)), (zaI aY cY 20 fY9_33)]) hP hD [0, 2] [1] rfl rfl (by decide) (by decide) hk1 hFc hP1 hD1
        have hK := (hK.sub (tys' := [(cS, .int)]) [0] rfl).app hK1
        generalize H1 = H at hP hS ⊢
        have hP : va_P (dC, dI) vwCl [(zaI aS cS 901 fS), (zo14irriiiiiirriirrrrlriiii m0 th aS aI im ac sp en wg op aB aT se dn aG aO aN aD bv aY rn9_34 (yk j_3) (nI j_3) (yv j_3)), (zaI aY cY 20 fY9_33)] H := hP
        have hD : va_D A [(zaI aS cS 901 fS), (zo14irriiiiiirriirrrrlriiii m0 th aS aI im ac sp en wg op aB aT se dn aG aO aN aD bv aY rn9_34 (yk j_3) (nI j_3) (yv j_3)), (zaI aY cY 20 fY9_33)] := hD
        have hK : va_K (dC, dI) vwCl [(cS, .int), (cY, .int)] s := hK
        obtain ⟨er_35, h_36⟩ := hw_32
        obtain ⟨e_37, hY_38⟩ := h_36
        obtain rfl := e_37
        subst er_35
        refine lv_goto (tgt := 85) hx hb dX12_act_64 (by decide) ?_
        rw [hQ]
        have hP9 := hP.sub (ws' := [(zo14irriiiiiirriirrrrlriiii m0 th aS aI im ac sp en wg op aB aT se dn aG aO aN aD bv aY (nI ((([] : List Nat) ++ btS (yk j_3)).length)) (yk j_3) (nI j_3) (yv j_3)), (zaI aS cS 901 fS), (zaI aY cY 20 fY9_33)]) [1, 0, 2] rfl
        have hD9 := hD.sub (ws' := [(zo14irriiiiiirriirrrrlriiii m0 th aS aI im ac sp en wg op aB aT se dn aG aO aN aD bv aY (nI ((([] : List Nat) ++ btS (yk j_3)).length)) (yk j_3) (nI j_3) (yv j_3)), (zaI aS cS 901 fS), (zaI aY cY 20 fY9_33)]) [1, 0, 2] (by decide) rfl
        have hK9 := hK.sub (tys' := [(cS, .int), (cY, .int)]) [0, 1] rfl
        exact W.iret (v := acS (yk j_3) (nI j_3) (yv j_3) z) hx hb hr (fun tQ htQ hWQ => ⟨⟨(acS (yk j_3) (nI j_3) (yv j_3) z), (fY9_33, (nI ((([] : List Nat) ++ btS (yk j_3)).length)), (yk j_3), (nI j_3), (yv j_3)), rfl, ⟨(ac_0 (n := n) (yk := yk) (yv := yv) (j := j_3) (y := y) (z := z) hn (by omega) (by assumption)).1, by rw [(ac_0 (n := n) (yk := yk) (yv := yv) (j := j_3) (y := y) (z := z) hn (by omega) (by assumption)).2]; exact ⟨rfl, hY_38⟩⟩, by rw [htQ]; exact hP9, va_K.moved hWQ.alike hK9, hD9⟩, hS.F htQ⟩) hS.2.2 dX12_act_85
    · skip
      refine lv_if_ne (tgt := 24) hx hb dX12_act_19 (by decide) (fun c_39 => absurd c_39 (by decide)) (fun _ => ?_)
      refine lv_iconst (v := 0) hx hb dX12_act_22 (by decide) ?_
      rw [hQ]
      have hP9 := hP.sub (ws' := [(zo14irriiiiiirriirrrrlriiii m0 th aS aI im ac sp en wg op aB aT se dn aG aO aN aD bv aY 0 kd nu tv), (zaI aS cS 901 fS), (zaI aY cY 20 fY)]) [0, 1, 2] rfl
      have hD9 := hD.sub (ws' := [(zo14irriiiiiirriirrrrlriiii m0 th aS aI im ac sp en wg op aB aT se dn aG aO aN aD bv aY 0 kd nu tv), (zaI aS cS 901 fS), (zaI aY cY 20 fY)]) [0, 1, 2] (by decide) rfl
      have hK9 := hK.sub (tys' := [(cS, .int), (cY, .int)]) [0, 1] rfl
      exact W.iret (v := 0) hx hb hr (fun tQ htQ hWQ => ⟨⟨0, (fY, 0, kd, nu, tv), rfl, ⟨(ac_bad2 (n := n) (yk := yk) (yv := yv) (j := j_3) (y := y) (z := z) (by assumption) (by assumption)).1, by rw [(ac_bad2 (n := n) (yk := yk) (yv := yv) (j := j_3) (y := y) (z := z) (by assumption) (by assumption)).2]; exact ⟨rfl, okY_nil⟩⟩, by rw [htQ]; exact hP9, va_K.moved hWQ.alike hK9, hD9⟩, hS.F htQ⟩) hS.2.2 dX12_act_23
  · skip
    refine lv_if_eq (tgt := 22) hx hb dX12_act_10 (by decide) (fun _ => ?_) (fun c_40 => absurd c_40 (by decide))
    refine lv_iconst (v := 0) hx hb dX12_act_22 (by decide) ?_
    rw [hQ]
    have hP9 := hP.sub (ws' := [(zo14irriiiiiirriirrrrlriiii m0 th aS aI im ac sp en wg op aB aT se dn aG aO aN aD bv aY 0 kd nu tv), (zaI aS cS 901 fS), (zaI aY cY 20 fY)]) [0, 1, 2] rfl
    have hD9 := hD.sub (ws' := [(zo14irriiiiiirriirrrrlriiii m0 th aS aI im ac sp en wg op aB aT se dn aG aO aN aD bv aY 0 kd nu tv), (zaI aS cS 901 fS), (zaI aY cY 20 fY)]) [0, 1, 2] (by decide) rfl
    have hK9 := hK.sub (tys' := [(cS, .int), (cY, .int)]) [0, 1] rfl
    exact W.iret (v := 0) hx hb hr (fun tQ htQ hWQ => ⟨⟨0, (fY, 0, kd, nu, tv), rfl, ⟨(ac_no (n := n) (yk := yk) (yv := yv) (x := x) (y := y) (z := z) (by assumption)).1, by rw [(ac_no (n := n) (yk := yk) (yv := yv) (x := x) (y := y) (z := z) (by assumption)).2]; exact ⟨rfl, okY_nil⟩⟩, by rw [htQ]; exact hP9, va_K.moved hWQ.alike hK9, hD9⟩, hS.F htQ⟩) hS.2.2 dX12_act_23
