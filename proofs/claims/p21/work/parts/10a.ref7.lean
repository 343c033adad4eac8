section mg10a
theorem ggX12_line_X12_isHeap : GoodIn wsX12_line wsX12_isHeap := gga_of 1320 rfl rfl rfl
theorem gX12_line_X12_isHeap : GoodIn wsX12_line (wsV RX12 164 RX12 yX12_isHeap wsX12_isHeap) := goodIn_app (ggh_of [1317, 1319, 37, 72] rfl rfl rfl) ggX12_line_X12_isHeap
theorem ggX12_line_X12_in : GoodIn wsX12_line wsX12_in := gga_of 1217 rfl rfl rfl
theorem gX12_line_X12_in : GoodIn wsX12_line (va_wsS RX12 45 yX12_in wsX12_in) := goodIn_app (ggh_of [1215, 1216, 72] rfl rfl rfl) ggX12_line_X12_in
theorem ggX12_line_X12_sight : GoodIn wsX12_line wsX12_sight := gga_of 1297 rfl rfl rfl
theorem gX12_line_X12_sight : GoodIn wsX12_line (wsV RX12 140 RX12 yX12_sight wsX12_sight) := goodIn_app (ggh_of [1294, 1296, 34, 72] rfl rfl rfl) ggX12_line_X12_sight
theorem ggX12_line_X12_apart : GoodIn wsX12_line wsX12_apart := gga_of 1343 rfl rfl rfl
theorem gX12_line_X12_apart : GoodIn wsX12_line (va_wsS RX12 170 yX12_apart wsX12_apart) := goodIn_app (ggh_of [1341, 1342, 72] rfl rfl rfl) ggX12_line_X12_apart
theorem ggX12_next_X12_isHeap : GoodIn wsX12_next wsX12_isHeap := gga_of 1320 rfl rfl rfl
theorem gX12_next_X12_isHeap : GoodIn wsX12_next (wsV RX12 164 RX12 yX12_isHeap wsX12_isHeap) := goodIn_app (ggh_of [1317, 1319, 37, 72] rfl rfl rfl) ggX12_next_X12_isHeap
theorem ggX12_next_X12_in : GoodIn wsX12_next wsX12_in := gga_of 1217 rfl rfl rfl
theorem gX12_next_X12_in : GoodIn wsX12_next (va_wsS RX12 45 yX12_in wsX12_in) := goodIn_app (ggh_of [1215, 1216, 72] rfl rfl rfl) ggX12_next_X12_in
theorem ggX12_looked_X12_doesGo : GoodIn wsX12_looked wsX12_doesGo := gga_of 1367 rfl rfl rfl
theorem gX12_looked_X12_doesGo : GoodIn wsX12_looked (wsV RX12 186 RX12 yX12_doesGo wsX12_doesGo) := goodIn_app (ggh_of [1364, 1366, 44, 72] rfl rfl rfl) ggX12_looked_X12_doesGo
theorem ggX12_as_X12_isHeap : GoodIn wsX12_as wsX12_isHeap := gga_of 1320 rfl rfl rfl
theorem gX12_as_X12_isHeap : GoodIn wsX12_as (wsV RX12 164 RX12 yX12_isHeap wsX12_isHeap) := goodIn_app (ggh_of [1317, 1319, 37, 72] rfl rfl rfl) ggX12_as_X12_isHeap
theorem ggX12_as_X12_in : GoodIn wsX12_as wsX12_in := gga_of 1217 rfl rfl rfl
theorem gX12_as_X12_in : GoodIn wsX12_as (va_wsS RX12 45 yX12_in wsX12_in) := goodIn_app (ggh_of [1215, 1216, 72] rfl rfl rfl) ggX12_as_X12_in
theorem ggX12_as_X12_isUnder : GoodIn wsX12_as wsX12_isUnder := gga_of 1496 rfl rfl rfl
theorem gX12_as_X12_isUnder : GoodIn wsX12_as (va_wsS RX12 258 yX12_isUnder wsX12_isUnder) := goodIn_app (ggh_of [1494, 1495, 72] rfl rfl rfl) ggX12_as_X12_isUnder
theorem ggX12_trace_X12_in : GoodIn wsX12_trace wsX12_in := gga_of 1217 rfl rfl rfl
theorem gX12_trace_X12_in : GoodIn wsX12_trace (va_wsS RX12 45 yX12_in wsX12_in) := goodIn_app (ggh_of [1215, 1216, 72] rfl rfl rfl) ggX12_trace_X12_in
theorem ggX12_plainSees_X12_ranBody : GoodIn wsX12_plainSees wsX12_ranBody := gga_of 1500 rfl rfl rfl
theorem gX12_plainSees_X12_ranBody : GoodIn wsX12_plainSees (wsV RX12 249 RX12 yX12_ranBody wsX12_ranBody) := goodIn_app (ggh_of [1497, 1499, 56, 72] rfl rfl rfl) ggX12_plainSees_X12_ranBody
theorem ggX12_seesActs_X12_isUnder : GoodIn wsX12_seesActs wsX12_isUnder := gga_of 1496 rfl rfl rfl
theorem gX12_seesActs_X12_isUnder : GoodIn wsX12_seesActs (va_wsS RX12 258 yX12_isUnder wsX12_isUnder) := goodIn_app (ggh_of [1494, 1495, 72] rfl rfl rfl) ggX12_seesActs_X12_isUnder
theorem ggX12_seesActs_X12_ranBody : GoodIn wsX12_seesActs wsX12_ranBody := gga_of 1500 rfl rfl rfl
theorem gX12_seesActs_X12_ranBody : GoodIn wsX12_seesActs (wsV RX12 249 RX12 yX12_ranBody wsX12_ranBody) := goodIn_app (ggh_of [1497, 1499, 56, 72] rfl rfl rfl) ggX12_seesActs_X12_ranBody
theorem ggX12_seesActs_X12_plainSees : GoodIn wsX12_seesActs wsX12_plainSees := gga_of 1504 rfl rfl rfl
theorem gX12_seesActs_X12_plainSees : GoodIn wsX12_seesActs (wsV RX12 261 RX12 yX12_plainSees wsX12_plainSees) := goodIn_app (ggh_of [1501, 1503, 57, 72] rfl rfl rfl) ggX12_seesActs_X12_plainSees
theorem ggX12_plainGoes_X12_ranBody : GoodIn wsX12_plainGoes wsX12_ranBody := gga_of 1500 rfl rfl rfl
theorem gX12_plainGoes_X12_ranBody : GoodIn wsX12_plainGoes (wsV RX12 249 RX12 yX12_ranBody wsX12_ranBody) := goodIn_app (ggh_of [1497, 1499, 56, 72] rfl rfl rfl) ggX12_plainGoes_X12_ranBody
theorem ggX12_plainGoes_X12_seesActs : GoodIn wsX12_plainGoes wsX12_seesActs := gga_of 1493 rfl rfl rfl
theorem gX12_plainGoes_X12_seesActs : GoodIn wsX12_plainGoes (wsV RX12 264 RX12 yX12_seesActs wsX12_seesActs) := goodIn_app (ggh_of [1490, 1492, 55, 72] rfl rfl rfl) ggX12_plainGoes_X12_seesActs
theorem ggX12_goesActs_X12_isUnder : GoodIn wsX12_goesActs wsX12_isUnder := gga_of 1496 rfl rfl rfl
theorem gX12_goesActs_X12_isUnder : GoodIn wsX12_goesActs (va_wsS RX12 258 yX12_isUnder wsX12_isUnder) := goodIn_app (ggh_of [1494, 1495, 72] rfl rfl rfl) ggX12_goesActs_X12_isUnder
theorem ggX12_goesActs_X12_ranBody : GoodIn wsX12_goesActs wsX12_ranBody := gga_of 1500 rfl rfl rfl
theorem gX12_goesActs_X12_ranBody : GoodIn wsX12_goesActs (wsV RX12 249 RX12 yX12_ranBody wsX12_ranBody) := goodIn_app (ggh_of [1497, 1499, 56, 72] rfl rfl rfl) ggX12_goesActs_X12_ranBody
theorem ggX12_goesActs_X12_plainGoes : GoodIn wsX12_goesActs wsX12_plainGoes := gga_of 1512 rfl rfl rfl
theorem gX12_goesActs_X12_plainGoes : GoodIn wsX12_goesActs (wsV RX12 270 RX12 yX12_plainGoes wsX12_plainGoes) := goodIn_app (ggh_of [1509, 1511, 59, 72] rfl rfl rfl) ggX12_goesActs_X12_plainGoes
theorem ggX12_plainLooks_X12_ranBody : GoodIn wsX12_plainLooks wsX12_ranBody := gga_of 1500 rfl rfl rfl
theorem gX12_plainLooks_X12_ranBody : GoodIn wsX12_plainLooks (wsV RX12 249 RX12 yX12_ranBody wsX12_ranBody) := goodIn_app (ggh_of [1497, 1499, 56, 72] rfl rfl rfl) ggX12_plainLooks_X12_ranBody
theorem ggX12_plainLooks_X12_goesActs : GoodIn wsX12_plainLooks wsX12_goesActs := gga_of 1508 rfl rfl rfl
theorem gX12_plainLooks_X12_goesActs : GoodIn wsX12_plainLooks (wsV RX12 273 RX12 yX12_goesActs wsX12_goesActs) := goodIn_app (ggh_of [1505, 1507, 58, 72] rfl rfl rfl) ggX12_plainLooks_X12_goesActs
theorem ggX12_looksActs_X12_isUnder : GoodIn wsX12_looksActs wsX12_isUnder := gga_of 1496 rfl rfl rfl
theorem gX12_looksActs_X12_isUnder : GoodIn wsX12_looksActs (va_wsS RX12 258 yX12_isUnder wsX12_isUnder) := goodIn_app (ggh_of [1494, 1495, 72] rfl rfl rfl) ggX12_looksActs_X12_isUnder
theorem ggX12_looksActs_X12_ranBody : GoodIn wsX12_looksActs wsX12_ranBody := gga_of 1500 rfl rfl rfl
theorem gX12_looksActs_X12_ranBody : GoodIn wsX12_looksActs (wsV RX12 249 RX12 yX12_ranBody wsX12_ranBody) := goodIn_app (ggh_of [1497, 1499, 56, 72] rfl rfl rfl) ggX12_looksActs_X12_ranBody
theorem ggX12_looksActs_X12_plainLooks : GoodIn wsX12_looksActs wsX12_plainLooks := gga_of 1520 rfl rfl rfl
theorem gX12_looksActs_X12_plainLooks : GoodIn wsX12_looksActs (wsV RX12 276 RX12 yX12_plainLooks wsX12_plainLooks) := goodIn_app (ggh_of [1517, 1519, 61, 72] rfl rfl rfl) ggX12_looksActs_X12_plainLooks
theorem ggX12_looksActs_X12_seesActs : GoodIn wsX12_looksActs wsX12_seesActs := gga_of 1493 rfl rfl rfl
theorem gX12_looksActs_X12_seesActs : GoodIn wsX12_looksActs (wsV RX12 264 RX12 yX12_seesActs wsX12_seesActs) := goodIn_app (ggh_of [1490, 1492, 55, 72] rfl rfl rfl) ggX12_looksActs_X12_seesActs
theorem ggX12_act_X12_isHeap : GoodIn wsX12_act wsX12_isHeap := gga_of 1320 rfl rfl rfl
theorem gX12_act_X12_isHeap : GoodIn wsX12_act (wsV RX12 164 RX12 yX12_isHeap wsX12_isHeap) := goodIn_app (ggh_of [1317, 1319, 37, 72] rfl rfl rfl) ggX12_act_X12_isHeap
theorem ggX12_act_X12_in : GoodIn wsX12_act wsX12_in := gga_of 1217 rfl rfl rfl
theorem gX12_act_X12_in : GoodIn wsX12_act (va_wsS RX12 45 yX12_in wsX12_in) := goodIn_app (ggh_of [1215, 1216, 72] rfl rfl rfl) ggX12_act_X12_in
theorem ggX12_act_X12_looksActs : GoodIn wsX12_act wsX12_looksActs := gga_of 1516 rfl rfl rfl
theorem gX12_act_X12_looksActs : GoodIn wsX12_act (wsV RX12 279 RX12 yX12_looksActs wsX12_looksActs) := goodIn_app (ggh_of [1513, 1515, 60, 72] rfl rfl rfl) ggX12_act_X12_looksActs
theorem ggX12_act_X12_goesActs : GoodIn wsX12_act wsX12_goesActs := gga_of 1508 rfl rfl rfl
theorem gX12_act_X12_goesActs : GoodIn wsX12_act (wsV RX12 273 RX12 yX12_goesActs wsX12_goesActs) := goodIn_app (ggh_of [1505, 1507, 58, 72] rfl rfl rfl) ggX12_act_X12_goesActs
theorem ggX12_act_X12_seesActs : GoodIn wsX12_act wsX12_seesActs := gga_of 1493 rfl rfl rfl
theorem gX12_act_X12_seesActs : GoodIn wsX12_act (wsV RX12 264 RX12 yX12_seesActs wsX12_seesActs) := goodIn_app (ggh_of [1490, 1492, 55, 72] rfl rfl rfl) ggX12_act_X12_seesActs
noncomputable def dk10aref7_cX12_line_0 : List (Nat × List Nat) := [(0, [42]), (1, [27]), (2, [182, 0, 164]), (5, [154, 0, 5]), (10, [28]), (11, [4]), (12, [16, 9]), (14, [184, 0, 45]), (17, [154, 0, 6]), (23, [42]), (24, [182, 0, 140]), (27, [42]), (28, [180, 0, 9]), (31, [16, 6]), (33, [46]), (53, [62]), (54, [3]), (55, [54, 4]), (57, [3]), (58, [54, 5]), (60, [21, 5]), (62, [42]), (63, [180, 0, 9]), (66, [3]), (67, [46]), (68, [162, 0, 58]), (71, [21, 4]), (73, [21, 5]), (75, [27]), (76, [159, 0, 40]), (79, [42]), (80, [180, 0, 9]), (83, [16, 28]), (116, [3]), (117, [128]), (118, [54, 4]), (120, [132, 5, 1]), (123, [167, 255, 193]), (126, [21, 4]), (128, [172])]
set_option maxRecDepth 100000 in
theorem dk10aref7_cX12_line_0_a : btA cX12_line dk10aref7_cX12_line_0 = true := by decide +kernel
theorem dX12_line_0 : decode cX12_line 0 = .ok (.aload_n 0, 1) := bd42 (btAt dk10aref7_cX12_line_0_a 0 rfl)
theorem dX12_line_1 : decode cX12_line 1 = .ok (.iload_n 1, 1) := bd27 (btAt dk10aref7_cX12_line_0_a 1 rfl)
theorem dX12_line_2 : decode cX12_line 2 = .ok (.invokevirtual 164, 3) := bd182 (a := 0) (b := 164) (btAt dk10aref7_cX12_line_0_a 2 rfl)
theorem dX12_line_5 : decode cX12_line 5 = .ok (.ifCond .ne 5, 3) := bd154 (a := 0) (b := 5) (btAt dk10aref7_cX12_line_0_a 3 rfl)
theorem dX12_line_10 : decode cX12_line 10 = .ok (.iload_n 2, 1) := bd28 (btAt dk10aref7_cX12_line_0_a 4 rfl)
theorem dX12_line_11 : decode cX12_line 11 = .ok (.iconst 1, 1) := bd4 (btAt dk10aref7_cX12_line_0_a 5 rfl)
theorem dX12_line_12 : decode cX12_line 12 = .ok (.bipush 9, 2) := bd16 (a := 9) (btAt dk10aref7_cX12_line_0_a 6 rfl)
theorem dX12_line_14 : decode cX12_line 14 = .ok (.invokestatic 45, 3) := bd184 (a := 0) (b := 45) (btAt dk10aref7_cX12_line_0_a 7 rfl)
theorem dX12_line_17 : decode cX12_line 17 = .ok (.ifCond .ne 6, 3) := bd154 (a := 0) (b := 6) (btAt dk10aref7_cX12_line_0_a 8 rfl)
theorem dX12_line_23 : decode cX12_line 23 = .ok (.aload_n 0, 1) := bd42 (btAt dk10aref7_cX12_line_0_a 9 rfl)
theorem dX12_line_24 : decode cX12_line 24 = .ok (.invokevirtual 140, 3) := bd182 (a := 0) (b := 140) (btAt dk10aref7_cX12_line_0_a 10 rfl)
theorem dX12_line_27 : decode cX12_line 27 = .ok (.aload_n 0, 1) := bd42 (btAt dk10aref7_cX12_line_0_a 11 rfl)
theorem dX12_line_28 : decode cX12_line 28 = .ok (.getfield 9, 3) := bd180 (a := 0) (b := 9) (btAt dk10aref7_cX12_line_0_a 12 rfl)
theorem dX12_line_31 : decode cX12_line 31 = .ok (.bipush 6, 2) := bd16 (a := 6) (btAt dk10aref7_cX12_line_0_a 13 rfl)
theorem dX12_line_33 : decode cX12_line 33 = .ok (.iaload, 1) := bd46 (btAt dk10aref7_cX12_line_0_a 14 rfl)
theorem dX12_line_53 : decode cX12_line 53 = .ok (.istore_n 3, 1) := bd62 (btAt dk10aref7_cX12_line_0_a 15 rfl)
theorem dX12_line_54 : decode cX12_line 54 = .ok (.iconst 0, 1) := bd3 (btAt dk10aref7_cX12_line_0_a 16 rfl)
theorem dX12_line_55 : decode cX12_line 55 = .ok (.istore 4, 2) := bd54 (a := 4) (btAt dk10aref7_cX12_line_0_a 17 rfl)
theorem dX12_line_57 : decode cX12_line 57 = .ok (.iconst 0, 1) := bd3 (btAt dk10aref7_cX12_line_0_a 18 rfl)
theorem dX12_line_58 : decode cX12_line 58 = .ok (.istore 5, 2) := bd54 (a := 5) (btAt dk10aref7_cX12_line_0_a 19 rfl)
theorem dX12_line_60 : decode cX12_line 60 = .ok (.iload 5, 2) := bd21 (a := 5) (btAt dk10aref7_cX12_line_0_a 20 rfl)
theorem dX12_line_62 : decode cX12_line 62 = .ok (.aload_n 0, 1) := bd42 (btAt dk10aref7_cX12_line_0_a 21 rfl)
theorem dX12_line_63 : decode cX12_line 63 = .ok (.getfield 9, 3) := bd180 (a := 0) (b := 9) (btAt dk10aref7_cX12_line_0_a 22 rfl)
theorem dX12_line_66 : decode cX12_line 66 = .ok (.iconst 0, 1) := bd3 (btAt dk10aref7_cX12_line_0_a 23 rfl)
theorem dX12_line_67 : decode cX12_line 67 = .ok (.iaload, 1) := bd46 (btAt dk10aref7_cX12_line_0_a 24 rfl)
theorem dX12_line_68 : decode cX12_line 68 = .ok (.if_icmp .ge 58, 3) := bd162 (a := 0) (b := 58) (btAt dk10aref7_cX12_line_0_a 25 rfl)
theorem dX12_line_71 : decode cX12_line 71 = .ok (.iload 4, 2) := bd21 (a := 4) (btAt dk10aref7_cX12_line_0_a 26 rfl)
theorem dX12_line_73 : decode cX12_line 73 = .ok (.iload 5, 2) := bd21 (a := 5) (btAt dk10aref7_cX12_line_0_a 27 rfl)
theorem dX12_line_75 : decode cX12_line 75 = .ok (.iload_n 1, 1) := bd27 (btAt dk10aref7_cX12_line_0_a 28 rfl)
theorem dX12_line_76 : decode cX12_line 76 = .ok (.if_icmp .eq 40, 3) := bd159 (a := 0) (b := 40) (btAt dk10aref7_cX12_line_0_a 29 rfl)
theorem dX12_line_79 : decode cX12_line 79 = .ok (.aload_n 0, 1) := bd42 (btAt dk10aref7_cX12_line_0_a 30 rfl)
theorem dX12_line_80 : decode cX12_line 80 = .ok (.getfield 9, 3) := bd180 (a := 0) (b := 9) (btAt dk10aref7_cX12_line_0_a 31 rfl)
theorem dX12_line_83 : decode cX12_line 83 = .ok (.bipush 28, 2) := bd16 (a := 28) (btAt dk10aref7_cX12_line_0_a 32 rfl)
theorem dX12_line_116 : decode cX12_line 116 = .ok (.iconst 0, 1) := bd3 (btAt dk10aref7_cX12_line_0_a 33 rfl)
theorem dX12_line_117 : decode cX12_line 117 = .ok (.ior, 1) := bd128 (btAt dk10aref7_cX12_line_0_a 34 rfl)
theorem dX12_line_118 : decode cX12_line 118 = .ok (.istore 4, 2) := bd54 (a := 4) (btAt dk10aref7_cX12_line_0_a 35 rfl)
theorem dX12_line_120 : decode cX12_line 120 = .ok (.iinc 5 1, 3) := bd132 (a := 5) (b := 1) (btAt dk10aref7_cX12_line_0_a 36 rfl)
theorem dX12_line_123 : decode cX12_line 123 = .ok (.goto (-63), 3) := bd167 (a := 255) (b := 193) (btAt dk10aref7_cX12_line_0_a 37 rfl)
theorem dX12_line_126 : decode cX12_line 126 = .ok (.iload 4, 2) := bd21 (a := 4) (btAt dk10aref7_cX12_line_0_a 38 rfl)
theorem dX12_line_128 : decode cX12_line 128 = .ok (.ireturn, 1) := bd172 (btAt dk10aref7_cX12_line_0_a 39 rfl)
noncomputable def dk10aref7_cX12_line_40 : List (Nat × List Nat) := [(8, [2]), (9, [172]), (20, [16, 254]), (22, [172]), (34, [162, 0, 7]), (37, [3]), (38, [167, 0, 15]), (41, [42]), (42, [182, 0, 140]), (45, [42]), (46, [180, 0, 9]), (49, [16, 6]), (51, [46]), (52, [100]), (85, [21, 5]), (87, [96]), (88, [46]), (89, [42]), (90, [180, 0, 9]), (93, [16, 28]), (95, [27]), (96, [96]), (97, [46]), (98, [184, 0, 170]), (101, [28]), (102, [4]), (103, [100]), (104, [29]), (105, [104]), (106, [163, 0, 10]), (109, [4]), (110, [21, 5]), (112, [120]), (113, [167, 0, 4])]
set_option maxRecDepth 100000 in
theorem dk10aref7_cX12_line_40_a : btA cX12_line dk10aref7_cX12_line_40 = true := by decide +kernel
theorem dX12_line_8 : decode cX12_line 8 = .ok (.iconst (-1), 1) := bd2 (btAt dk10aref7_cX12_line_40_a 0 rfl)
theorem dX12_line_9 : decode cX12_line 9 = .ok (.ireturn, 1) := bd172 (btAt dk10aref7_cX12_line_40_a 1 rfl)
theorem dX12_line_20 : decode cX12_line 20 = .ok (.bipush (-2), 2) := bd16 (a := 254) (btAt dk10aref7_cX12_line_40_a 2 rfl)
theorem dX12_line_22 : decode cX12_line 22 = .ok (.ireturn, 1) := bd172 (btAt dk10aref7_cX12_line_40_a 3 rfl)
theorem dX12_line_34 : decode cX12_line 34 = .ok (.if_icmp .ge 7, 3) := bd162 (a := 0) (b := 7) (btAt dk10aref7_cX12_line_40_a 4 rfl)
theorem dX12_line_37 : decode cX12_line 37 = .ok (.iconst 0, 1) := bd3 (btAt dk10aref7_cX12_line_40_a 5 rfl)
theorem dX12_line_38 : decode cX12_line 38 = .ok (.goto 15, 3) := bd167 (a := 0) (b := 15) (btAt dk10aref7_cX12_line_40_a 6 rfl)
theorem dX12_line_41 : decode cX12_line 41 = .ok (.aload_n 0, 1) := bd42 (btAt dk10aref7_cX12_line_40_a 7 rfl)
theorem dX12_line_42 : decode cX12_line 42 = .ok (.invokevirtual 140, 3) := bd182 (a := 0) (b := 140) (btAt dk10aref7_cX12_line_40_a 8 rfl)
theorem dX12_line_45 : decode cX12_line 45 = .ok (.aload_n 0, 1) := bd42 (btAt dk10aref7_cX12_line_40_a 9 rfl)
theorem dX12_line_46 : decode cX12_line 46 = .ok (.getfield 9, 3) := bd180 (a := 0) (b := 9) (btAt dk10aref7_cX12_line_40_a 10 rfl)
theorem dX12_line_49 : decode cX12_line 49 = .ok (.bipush 6, 2) := bd16 (a := 6) (btAt dk10aref7_cX12_line_40_a 11 rfl)
theorem dX12_line_51 : decode cX12_line 51 = .ok (.iaload, 1) := bd46 (btAt dk10aref7_cX12_line_40_a 12 rfl)
theorem dX12_line_52 : decode cX12_line 52 = .ok (.isub, 1) := bd100 (btAt dk10aref7_cX12_line_40_a 13 rfl)
theorem dX12_line_85 : decode cX12_line 85 = .ok (.iload 5, 2) := bd21 (a := 5) (btAt dk10aref7_cX12_line_40_a 14 rfl)
theorem dX12_line_87 : decode cX12_line 87 = .ok (.iadd, 1) := bd96 (btAt dk10aref7_cX12_line_40_a 15 rfl)
theorem dX12_line_88 : decode cX12_line 88 = .ok (.iaload, 1) := bd46 (btAt dk10aref7_cX12_line_40_a 16 rfl)
theorem dX12_line_89 : decode cX12_line 89 = .ok (.aload_n 0, 1) := bd42 (btAt dk10aref7_cX12_line_40_a 17 rfl)
theorem dX12_line_90 : decode cX12_line 90 = .ok (.getfield 9, 3) := bd180 (a := 0) (b := 9) (btAt dk10aref7_cX12_line_40_a 18 rfl)
theorem dX12_line_93 : decode cX12_line 93 = .ok (.bipush 28, 2) := bd16 (a := 28) (btAt dk10aref7_cX12_line_40_a 19 rfl)
theorem dX12_line_95 : decode cX12_line 95 = .ok (.iload_n 1, 1) := bd27 (btAt dk10aref7_cX12_line_40_a 20 rfl)
theorem dX12_line_96 : decode cX12_line 96 = .ok (.iadd, 1) := bd96 (btAt dk10aref7_cX12_line_40_a 21 rfl)
theorem dX12_line_97 : decode cX12_line 97 = .ok (.iaload, 1) := bd46 (btAt dk10aref7_cX12_line_40_a 22 rfl)
theorem dX12_line_98 : decode cX12_line 98 = .ok (.invokestatic 170, 3) := bd184 (a := 0) (b := 170) (btAt dk10aref7_cX12_line_40_a 23 rfl)
theorem dX12_line_101 : decode cX12_line 101 = .ok (.iload_n 2, 1) := bd28 (btAt dk10aref7_cX12_line_40_a 24 rfl)
theorem dX12_line_102 : decode cX12_line 102 = .ok (.iconst 1, 1) := bd4 (btAt dk10aref7_cX12_line_40_a 25 rfl)
theorem dX12_line_103 : decode cX12_line 103 = .ok (.isub, 1) := bd100 (btAt dk10aref7_cX12_line_40_a 26 rfl)
theorem dX12_line_104 : decode cX12_line 104 = .ok (.iload_n 3, 1) := bd29 (btAt dk10aref7_cX12_line_40_a 27 rfl)
theorem dX12_line_105 : decode cX12_line 105 = .ok (.imul, 1) := bd104 (btAt dk10aref7_cX12_line_40_a 28 rfl)
theorem dX12_line_106 : decode cX12_line 106 = .ok (.if_icmp .gt 10, 3) := bd163 (a := 0) (b := 10) (btAt dk10aref7_cX12_line_40_a 29 rfl)
theorem dX12_line_109 : decode cX12_line 109 = .ok (.iconst 1, 1) := bd4 (btAt dk10aref7_cX12_line_40_a 30 rfl)
theorem dX12_line_110 : decode cX12_line 110 = .ok (.iload 5, 2) := bd21 (a := 5) (btAt dk10aref7_cX12_line_40_a 31 rfl)
theorem dX12_line_112 : decode cX12_line 112 = .ok (.ishl, 1) := bd120 (btAt dk10aref7_cX12_line_40_a 32 rfl)
theorem dX12_line_113 : decode cX12_line 113 = .ok (.goto 4, 3) := bd167 (a := 0) (b := 4) (btAt dk10aref7_cX12_line_40_a 33 rfl)
noncomputable def dk10aref7_cX12_next_0 : List (Nat × List Nat) := [(0, [42]), (1, [27]), (2, [182, 0, 164]), (5, [153, 0, 19]), (8, [42]), (9, [28]), (10, [182, 0, 164]), (13, [153, 0, 11]), (16, [42]), (17, [29]), (18, [182, 0, 164]), (21, [154, 0, 5]), (26, [42]), (27, [180, 0, 9]), (30, [16, 28]), (32, [27]), (33, [96]), (34, [46]), (35, [54, 4]), (37, [42]), (38, [180, 0, 9]), (41, [16, 28]), (43, [28]), (44, [96]), (45, [46]), (46, [54, 5]), (48, [42]), (49, [180, 0, 9]), (52, [16, 28]), (54, [29]), (55, [96]), (56, [46]), (57, [54, 6]), (59, [6]), (60, [21, 6]), (62, [16, 6]), (64, [108]), (65, [104]), (66, [6]), (67, [21, 5])]
set_option maxRecDepth 100000 in
theorem dk10aref7_cX12_next_0_a : btA cX12_next dk10aref7_cX12_next_0 = true := by decide +kernel
theorem dX12_next_0 : decode cX12_next 0 = .ok (.aload_n 0, 1) := bd42 (btAt dk10aref7_cX12_next_0_a 0 rfl)
theorem dX12_next_1 : decode cX12_next 1 = .ok (.iload_n 1, 1) := bd27 (btAt dk10aref7_cX12_next_0_a 1 rfl)
theorem dX12_next_2 : decode cX12_next 2 = .ok (.invokevirtual 164, 3) := bd182 (a := 0) (b := 164) (btAt dk10aref7_cX12_next_0_a 2 rfl)
theorem dX12_next_5 : decode cX12_next 5 = .ok (.ifCond .eq 19, 3) := bd153 (a := 0) (b := 19) (btAt dk10aref7_cX12_next_0_a 3 rfl)
theorem dX12_next_8 : decode cX12_next 8 = .ok (.aload_n 0, 1) := bd42 (btAt dk10aref7_cX12_next_0_a 4 rfl)
theorem dX12_next_9 : decode cX12_next 9 = .ok (.iload_n 2, 1) := bd28 (btAt dk10aref7_cX12_next_0_a 5 rfl)
theorem dX12_next_10 : decode cX12_next 10 = .ok (.invokevirtual 164, 3) := bd182 (a := 0) (b := 164) (btAt dk10aref7_cX12_next_0_a 6 rfl)
theorem dX12_next_13 : decode cX12_next 13 = .ok (.ifCond .eq 11, 3) := bd153 (a := 0) (b := 11) (btAt dk10aref7_cX12_next_0_a 7 rfl)
theorem dX12_next_16 : decode cX12_next 16 = .ok (.aload_n 0, 1) := bd42 (btAt dk10aref7_cX12_next_0_a 8 rfl)
theorem dX12_next_17 : decode cX12_next 17 = .ok (.iload_n 3, 1) := bd29 (btAt dk10aref7_cX12_next_0_a 9 rfl)
theorem dX12_next_18 : decode cX12_next 18 = .ok (.invokevirtual 164, 3) := bd182 (a := 0) (b := 164) (btAt dk10aref7_cX12_next_0_a 10 rfl)
theorem dX12_next_21 : decode cX12_next 21 = .ok (.ifCond .ne 5, 3) := bd154 (a := 0) (b := 5) (btAt dk10aref7_cX12_next_0_a 11 rfl)
theorem dX12_next_26 : decode cX12_next 26 = .ok (.aload_n 0, 1) := bd42 (btAt dk10aref7_cX12_next_0_a 12 rfl)
theorem dX12_next_27 : decode cX12_next 27 = .ok (.getfield 9, 3) := bd180 (a := 0) (b := 9) (btAt dk10aref7_cX12_next_0_a 13 rfl)
theorem dX12_next_30 : decode cX12_next 30 = .ok (.bipush 28, 2) := bd16 (a := 28) (btAt dk10aref7_cX12_next_0_a 14 rfl)
theorem dX12_next_32 : decode cX12_next 32 = .ok (.iload_n 1, 1) := bd27 (btAt dk10aref7_cX12_next_0_a 15 rfl)
theorem dX12_next_33 : decode cX12_next 33 = .ok (.iadd, 1) := bd96 (btAt dk10aref7_cX12_next_0_a 16 rfl)
theorem dX12_next_34 : decode cX12_next 34 = .ok (.iaload, 1) := bd46 (btAt dk10aref7_cX12_next_0_a 17 rfl)
theorem dX12_next_35 : decode cX12_next 35 = .ok (.istore 4, 2) := bd54 (a := 4) (btAt dk10aref7_cX12_next_0_a 18 rfl)
theorem dX12_next_37 : decode cX12_next 37 = .ok (.aload_n 0, 1) := bd42 (btAt dk10aref7_cX12_next_0_a 19 rfl)
theorem dX12_next_38 : decode cX12_next 38 = .ok (.getfield 9, 3) := bd180 (a := 0) (b := 9) (btAt dk10aref7_cX12_next_0_a 20 rfl)
theorem dX12_next_41 : decode cX12_next 41 = .ok (.bipush 28, 2) := bd16 (a := 28) (btAt dk10aref7_cX12_next_0_a 21 rfl)
theorem dX12_next_43 : decode cX12_next 43 = .ok (.iload_n 2, 1) := bd28 (btAt dk10aref7_cX12_next_0_a 22 rfl)
theorem dX12_next_44 : decode cX12_next 44 = .ok (.iadd, 1) := bd96 (btAt dk10aref7_cX12_next_0_a 23 rfl)
theorem dX12_next_45 : decode cX12_next 45 = .ok (.iaload, 1) := bd46 (btAt dk10aref7_cX12_next_0_a 24 rfl)
theorem dX12_next_46 : decode cX12_next 46 = .ok (.istore 5, 2) := bd54 (a := 5) (btAt dk10aref7_cX12_next_0_a 25 rfl)
theorem dX12_next_48 : decode cX12_next 48 = .ok (.aload_n 0, 1) := bd42 (btAt dk10aref7_cX12_next_0_a 26 rfl)
theorem dX12_next_49 : decode cX12_next 49 = .ok (.getfield 9, 3) := bd180 (a := 0) (b := 9) (btAt dk10aref7_cX12_next_0_a 27 rfl)
theorem dX12_next_52 : decode cX12_next 52 = .ok (.bipush 28, 2) := bd16 (a := 28) (btAt dk10aref7_cX12_next_0_a 28 rfl)
theorem dX12_next_54 : decode cX12_next 54 = .ok (.iload_n 3, 1) := bd29 (btAt dk10aref7_cX12_next_0_a 29 rfl)
theorem dX12_next_55 : decode cX12_next 55 = .ok (.iadd, 1) := bd96 (btAt dk10aref7_cX12_next_0_a 30 rfl)
theorem dX12_next_56 : decode cX12_next 56 = .ok (.iaload, 1) := bd46 (btAt dk10aref7_cX12_next_0_a 31 rfl)
theorem dX12_next_57 : decode cX12_next 57 = .ok (.istore 6, 2) := bd54 (a := 6) (btAt dk10aref7_cX12_next_0_a 32 rfl)
theorem dX12_next_59 : decode cX12_next 59 = .ok (.iconst 3, 1) := bd6 (btAt dk10aref7_cX12_next_0_a 33 rfl)
theorem dX12_next_60 : decode cX12_next 60 = .ok (.iload 6, 2) := bd21 (a := 6) (btAt dk10aref7_cX12_next_0_a 34 rfl)
theorem dX12_next_62 : decode cX12_next 62 = .ok (.bipush 6, 2) := bd16 (a := 6) (btAt dk10aref7_cX12_next_0_a 35 rfl)
theorem dX12_next_64 : decode cX12_next 64 = .ok (.idiv, 1) := bd108 (btAt dk10aref7_cX12_next_0_a 36 rfl)
theorem dX12_next_65 : decode cX12_next 65 = .ok (.imul, 1) := bd104 (btAt dk10aref7_cX12_next_0_a 37 rfl)
theorem dX12_next_66 : decode cX12_next 66 = .ok (.iconst 3, 1) := bd6 (btAt dk10aref7_cX12_next_0_a 38 rfl)
theorem dX12_next_67 : decode cX12_next 67 = .ok (.iload 5, 2) := bd21 (a := 5) (btAt dk10aref7_cX12_next_0_a 39 rfl)
noncomputable def dk10aref7_cX12_next_40 : List (Nat × List Nat) := [(69, [16, 6]), (71, [108]), (72, [104]), (73, [100]), (74, [21, 4]), (76, [16, 6]), (78, [108]), (79, [96]), (80, [54, 7]), (82, [6]), (83, [21, 6]), (85, [16, 6]), (87, [112]), (88, [104]), (89, [6]), (90, [21, 5]), (92, [16, 6]), (94, [112]), (95, [104]), (96, [100]), (97, [21, 4]), (99, [16, 6]), (101, [112]), (102, [96]), (103, [54, 8]), (105, [21, 7]), (107, [3]), (108, [8]), (109, [184, 0, 45]), (112, [153, 0, 24]), (115, [21, 8]), (117, [3]), (118, [8]), (119, [184, 0, 45]), (122, [153, 0, 14]), (125, [16, 6]), (127, [21, 7]), (129, [104]), (130, [21, 8]), (132, [96])]
set_option maxRecDepth 100000 in
theorem dk10aref7_cX12_next_40_a : btA cX12_next dk10aref7_cX12_next_40 = true := by decide +kernel
theorem dX12_next_69 : decode cX12_next 69 = .ok (.bipush 6, 2) := bd16 (a := 6) (btAt dk10aref7_cX12_next_40_a 0 rfl)
theorem dX12_next_71 : decode cX12_next 71 = .ok (.idiv, 1) := bd108 (btAt dk10aref7_cX12_next_40_a 1 rfl)
theorem dX12_next_72 : decode cX12_next 72 = .ok (.imul, 1) := bd104 (btAt dk10aref7_cX12_next_40_a 2 rfl)
theorem dX12_next_73 : decode cX12_next 73 = .ok (.isub, 1) := bd100 (btAt dk10aref7_cX12_next_40_a 3 rfl)
theorem dX12_next_74 : decode cX12_next 74 = .ok (.iload 4, 2) := bd21 (a := 4) (btAt dk10aref7_cX12_next_40_a 4 rfl)
theorem dX12_next_76 : decode cX12_next 76 = .ok (.bipush 6, 2) := bd16 (a := 6) (btAt dk10aref7_cX12_next_40_a 5 rfl)
theorem dX12_next_78 : decode cX12_next 78 = .ok (.idiv, 1) := bd108 (btAt dk10aref7_cX12_next_40_a 6 rfl)
theorem dX12_next_79 : decode cX12_next 79 = .ok (.iadd, 1) := bd96 (btAt dk10aref7_cX12_next_40_a 7 rfl)
theorem dX12_next_80 : decode cX12_next 80 = .ok (.istore 7, 2) := bd54 (a := 7) (btAt dk10aref7_cX12_next_40_a 8 rfl)
theorem dX12_next_82 : decode cX12_next 82 = .ok (.iconst 3, 1) := bd6 (btAt dk10aref7_cX12_next_40_a 9 rfl)
theorem dX12_next_83 : decode cX12_next 83 = .ok (.iload 6, 2) := bd21 (a := 6) (btAt dk10aref7_cX12_next_40_a 10 rfl)
theorem dX12_next_85 : decode cX12_next 85 = .ok (.bipush 6, 2) := bd16 (a := 6) (btAt dk10aref7_cX12_next_40_a 11 rfl)
theorem dX12_next_87 : decode cX12_next 87 = .ok (.irem, 1) := bd112 (btAt dk10aref7_cX12_next_40_a 12 rfl)
theorem dX12_next_88 : decode cX12_next 88 = .ok (.imul, 1) := bd104 (btAt dk10aref7_cX12_next_40_a 13 rfl)
theorem dX12_next_89 : decode cX12_next 89 = .ok (.iconst 3, 1) := bd6 (btAt dk10aref7_cX12_next_40_a 14 rfl)
theorem dX12_next_90 : decode cX12_next 90 = .ok (.iload 5, 2) := bd21 (a := 5) (btAt dk10aref7_cX12_next_40_a 15 rfl)
theorem dX12_next_92 : decode cX12_next 92 = .ok (.bipush 6, 2) := bd16 (a := 6) (btAt dk10aref7_cX12_next_40_a 16 rfl)
theorem dX12_next_94 : decode cX12_next 94 = .ok (.irem, 1) := bd112 (btAt dk10aref7_cX12_next_40_a 17 rfl)
theorem dX12_next_95 : decode cX12_next 95 = .ok (.imul, 1) := bd104 (btAt dk10aref7_cX12_next_40_a 18 rfl)
theorem dX12_next_96 : decode cX12_next 96 = .ok (.isub, 1) := bd100 (btAt dk10aref7_cX12_next_40_a 19 rfl)
theorem dX12_next_97 : decode cX12_next 97 = .ok (.iload 4, 2) := bd21 (a := 4) (btAt dk10aref7_cX12_next_40_a 20 rfl)
theorem dX12_next_99 : decode cX12_next 99 = .ok (.bipush 6, 2) := bd16 (a := 6) (btAt dk10aref7_cX12_next_40_a 21 rfl)
theorem dX12_next_101 : decode cX12_next 101 = .ok (.irem, 1) := bd112 (btAt dk10aref7_cX12_next_40_a 22 rfl)
theorem dX12_next_102 : decode cX12_next 102 = .ok (.iadd, 1) := bd96 (btAt dk10aref7_cX12_next_40_a 23 rfl)
theorem dX12_next_103 : decode cX12_next 103 = .ok (.istore 8, 2) := bd54 (a := 8) (btAt dk10aref7_cX12_next_40_a 24 rfl)
theorem dX12_next_105 : decode cX12_next 105 = .ok (.iload 7, 2) := bd21 (a := 7) (btAt dk10aref7_cX12_next_40_a 25 rfl)
theorem dX12_next_107 : decode cX12_next 107 = .ok (.iconst 0, 1) := bd3 (btAt dk10aref7_cX12_next_40_a 26 rfl)
theorem dX12_next_108 : decode cX12_next 108 = .ok (.iconst 5, 1) := bd8 (btAt dk10aref7_cX12_next_40_a 27 rfl)
theorem dX12_next_109 : decode cX12_next 109 = .ok (.invokestatic 45, 3) := bd184 (a := 0) (b := 45) (btAt dk10aref7_cX12_next_40_a 28 rfl)
theorem dX12_next_112 : decode cX12_next 112 = .ok (.ifCond .eq 24, 3) := bd153 (a := 0) (b := 24) (btAt dk10aref7_cX12_next_40_a 29 rfl)
theorem dX12_next_115 : decode cX12_next 115 = .ok (.iload 8, 2) := bd21 (a := 8) (btAt dk10aref7_cX12_next_40_a 30 rfl)
theorem dX12_next_117 : decode cX12_next 117 = .ok (.iconst 0, 1) := bd3 (btAt dk10aref7_cX12_next_40_a 31 rfl)
theorem dX12_next_118 : decode cX12_next 118 = .ok (.iconst 5, 1) := bd8 (btAt dk10aref7_cX12_next_40_a 32 rfl)
theorem dX12_next_119 : decode cX12_next 119 = .ok (.invokestatic 45, 3) := bd184 (a := 0) (b := 45) (btAt dk10aref7_cX12_next_40_a 33 rfl)
theorem dX12_next_122 : decode cX12_next 122 = .ok (.ifCond .eq 14, 3) := bd153 (a := 0) (b := 14) (btAt dk10aref7_cX12_next_40_a 34 rfl)
theorem dX12_next_125 : decode cX12_next 125 = .ok (.bipush 6, 2) := bd16 (a := 6) (btAt dk10aref7_cX12_next_40_a 35 rfl)
theorem dX12_next_127 : decode cX12_next 127 = .ok (.iload 7, 2) := bd21 (a := 7) (btAt dk10aref7_cX12_next_40_a 36 rfl)
theorem dX12_next_129 : decode cX12_next 129 = .ok (.imul, 1) := bd104 (btAt dk10aref7_cX12_next_40_a 37 rfl)
theorem dX12_next_130 : decode cX12_next 130 = .ok (.iload 8, 2) := bd21 (a := 8) (btAt dk10aref7_cX12_next_40_a 38 rfl)
theorem dX12_next_132 : decode cX12_next 132 = .ok (.iadd, 1) := bd96 (btAt dk10aref7_cX12_next_40_a 39 rfl)
noncomputable def dk10aref7_cX12_next_80 : List (Nat × List Nat) := [(24, [2]), (25, [172]), (133, [167, 0, 5]), (136, [16, 251]), (138, [172])]
set_option maxRecDepth 100000 in
theorem dk10aref7_cX12_next_80_a : btA cX12_next dk10aref7_cX12_next_80 = true := by decide +kernel
theorem dX12_next_24 : decode cX12_next 24 = .ok (.iconst (-1), 1) := bd2 (btAt dk10aref7_cX12_next_80_a 0 rfl)
theorem dX12_next_25 : decode cX12_next 25 = .ok (.ireturn, 1) := bd172 (btAt dk10aref7_cX12_next_80_a 1 rfl)
theorem dX12_next_133 : decode cX12_next 133 = .ok (.goto 5, 3) := bd167 (a := 0) (b := 5) (btAt dk10aref7_cX12_next_80_a 2 rfl)
theorem dX12_next_136 : decode cX12_next 136 = .ok (.bipush (-5), 2) := bd16 (a := 251) (btAt dk10aref7_cX12_next_80_a 3 rfl)
theorem dX12_next_138 : decode cX12_next 138 = .ok (.ireturn, 1) := bd172 (btAt dk10aref7_cX12_next_80_a 4 rfl)
noncomputable def dk10aref7_cX12_looked_0 : List (Nat × List Nat) := [(0, [4]), (1, [60]), (2, [27]), (3, [42]), (4, [180, 0, 9]), (7, [6]), (8, [46]), (9, [162, 0, 38]), (12, [42]), (13, [42]), (14, [180, 0, 9]), (17, [16, 79]), (19, [27]), (20, [96]), (21, [4]), (22, [100]), (23, [46]), (24, [42]), (25, [180, 0, 9]), (28, [16, 79]), (30, [27]), (31, [96]), (32, [46]), (33, [182, 0, 186]), (36, [154, 0, 5]), (39, [27]), (40, [172]), (41, [132, 1, 1]), (44, [167, 255, 214]), (47, [16, 251]), (49, [172])]
set_option maxRecDepth 100000 in
theorem dk10aref7_cX12_looked_0_a : btA cX12_looked dk10aref7_cX12_looked_0 = true := by decide +kernel
theorem dX12_looked_0 : decode cX12_looked 0 = .ok (.iconst 1, 1) := bd4 (btAt dk10aref7_cX12_looked_0_a 0 rfl)
theorem dX12_looked_1 : decode cX12_looked 1 = .ok (.istore_n 1, 1) := bd60 (btAt dk10aref7_cX12_looked_0_a 1 rfl)
theorem dX12_looked_2 : decode cX12_looked 2 = .ok (.iload_n 1, 1) := bd27 (btAt dk10aref7_cX12_looked_0_a 2 rfl)
theorem dX12_looked_3 : decode cX12_looked 3 = .ok (.aload_n 0, 1) := bd42 (btAt dk10aref7_cX12_looked_0_a 3 rfl)
theorem dX12_looked_4 : decode cX12_looked 4 = .ok (.getfield 9, 3) := bd180 (a := 0) (b := 9) (btAt dk10aref7_cX12_looked_0_a 4 rfl)
theorem dX12_looked_7 : decode cX12_looked 7 = .ok (.iconst 3, 1) := bd6 (btAt dk10aref7_cX12_looked_0_a 5 rfl)
theorem dX12_looked_8 : decode cX12_looked 8 = .ok (.iaload, 1) := bd46 (btAt dk10aref7_cX12_looked_0_a 6 rfl)
theorem dX12_looked_9 : decode cX12_looked 9 = .ok (.if_icmp .ge 38, 3) := bd162 (a := 0) (b := 38) (btAt dk10aref7_cX12_looked_0_a 7 rfl)
theorem dX12_looked_12 : decode cX12_looked 12 = .ok (.aload_n 0, 1) := bd42 (btAt dk10aref7_cX12_looked_0_a 8 rfl)
theorem dX12_looked_13 : decode cX12_looked 13 = .ok (.aload_n 0, 1) := bd42 (btAt dk10aref7_cX12_looked_0_a 9 rfl)
theorem dX12_looked_14 : decode cX12_looked 14 = .ok (.getfield 9, 3) := bd180 (a := 0) (b := 9) (btAt dk10aref7_cX12_looked_0_a 10 rfl)
theorem dX12_looked_17 : decode cX12_looked 17 = .ok (.bipush 79, 2) := bd16 (a := 79) (btAt dk10aref7_cX12_looked_0_a 11 rfl)
theorem dX12_looked_19 : decode cX12_looked 19 = .ok (.iload_n 1, 1) := bd27 (btAt dk10aref7_cX12_looked_0_a 12 rfl)
theorem dX12_looked_20 : decode cX12_looked 20 = .ok (.iadd, 1) := bd96 (btAt dk10aref7_cX12_looked_0_a 13 rfl)
theorem dX12_looked_21 : decode cX12_looked 21 = .ok (.iconst 1, 1) := bd4 (btAt dk10aref7_cX12_looked_0_a 14 rfl)
theorem dX12_looked_22 : decode cX12_looked 22 = .ok (.isub, 1) := bd100 (btAt dk10aref7_cX12_looked_0_a 15 rfl)
theorem dX12_looked_23 : decode cX12_looked 23 = .ok (.iaload, 1) := bd46 (btAt dk10aref7_cX12_looked_0_a 16 rfl)
theorem dX12_looked_24 : decode cX12_looked 24 = .ok (.aload_n 0, 1) := bd42 (btAt dk10aref7_cX12_looked_0_a 17 rfl)
theorem dX12_looked_25 : decode cX12_looked 25 = .ok (.getfield 9, 3) := bd180 (a := 0) (b := 9) (btAt dk10aref7_cX12_looked_0_a 18 rfl)
theorem dX12_looked_28 : decode cX12_looked 28 = .ok (.bipush 79, 2) := bd16 (a := 79) (btAt dk10aref7_cX12_looked_0_a 19 rfl)
theorem dX12_looked_30 : decode cX12_looked 30 = .ok (.iload_n 1, 1) := bd27 (btAt dk10aref7_cX12_looked_0_a 20 rfl)
theorem dX12_looked_31 : decode cX12_looked 31 = .ok (.iadd, 1) := bd96 (btAt dk10aref7_cX12_looked_0_a 21 rfl)
theorem dX12_looked_32 : decode cX12_looked 32 = .ok (.iaload, 1) := bd46 (btAt dk10aref7_cX12_looked_0_a 22 rfl)
theorem dX12_looked_33 : decode cX12_looked 33 = .ok (.invokevirtual 186, 3) := bd182 (a := 0) (b := 186) (btAt dk10aref7_cX12_looked_0_a 23 rfl)
theorem dX12_looked_36 : decode cX12_looked 36 = .ok (.ifCond .ne 5, 3) := bd154 (a := 0) (b := 5) (btAt dk10aref7_cX12_looked_0_a 24 rfl)
theorem dX12_looked_39 : decode cX12_looked 39 = .ok (.iload_n 1, 1) := bd27 (btAt dk10aref7_cX12_looked_0_a 25 rfl)
theorem dX12_looked_40 : decode cX12_looked 40 = .ok (.ireturn, 1) := bd172 (btAt dk10aref7_cX12_looked_0_a 26 rfl)
theorem dX12_looked_41 : decode cX12_looked 41 = .ok (.iinc 1 1, 3) := bd132 (a := 1) (b := 1) (btAt dk10aref7_cX12_looked_0_a 27 rfl)
theorem dX12_looked_44 : decode cX12_looked 44 = .ok (.goto (-42), 3) := bd167 (a := 255) (b := 214) (btAt dk10aref7_cX12_looked_0_a 28 rfl)
theorem dX12_looked_47 : decode cX12_looked 47 = .ok (.bipush (-5), 2) := bd16 (a := 251) (btAt dk10aref7_cX12_looked_0_a 29 rfl)
theorem dX12_looked_49 : decode cX12_looked 49 = .ok (.ireturn, 1) := bd172 (btAt dk10aref7_cX12_looked_0_a 30 rfl)
noncomputable def dk10aref7_cX12_isUnder_0 : List (Nat × List Nat) := [(0, [27]), (1, [153, 0, 24]), (4, [27]), (5, [26]), (6, [159, 0, 19]), (9, [27]), (10, [158, 0, 19]), (13, [27]), (14, [7]), (15, [162, 0, 14]), (18, [26]), (19, [27]), (20, [6]), (21, [96]), (22, [160, 0, 7]), (25, [4]), (26, [167, 0, 4]), (29, [3]), (30, [172])]
set_option maxRecDepth 100000 in
theorem dk10aref7_cX12_isUnder_0_a : btA cX12_isUnder dk10aref7_cX12_isUnder_0 = true := by decide +kernel
theorem dX12_isUnder_0 : decode cX12_isUnder 0 = .ok (.iload_n 1, 1) := bd27 (btAt dk10aref7_cX12_isUnder_0_a 0 rfl)
theorem dX12_isUnder_1 : decode cX12_isUnder 1 = .ok (.ifCond .eq 24, 3) := bd153 (a := 0) (b := 24) (btAt dk10aref7_cX12_isUnder_0_a 1 rfl)
theorem dX12_isUnder_4 : decode cX12_isUnder 4 = .ok (.iload_n 1, 1) := bd27 (btAt dk10aref7_cX12_isUnder_0_a 2 rfl)
theorem dX12_isUnder_5 : decode cX12_isUnder 5 = .ok (.iload_n 0, 1) := bd26 (btAt dk10aref7_cX12_isUnder_0_a 3 rfl)
theorem dX12_isUnder_6 : decode cX12_isUnder 6 = .ok (.if_icmp .eq 19, 3) := bd159 (a := 0) (b := 19) (btAt dk10aref7_cX12_isUnder_0_a 4 rfl)
theorem dX12_isUnder_9 : decode cX12_isUnder 9 = .ok (.iload_n 1, 1) := bd27 (btAt dk10aref7_cX12_isUnder_0_a 5 rfl)
theorem dX12_isUnder_10 : decode cX12_isUnder 10 = .ok (.ifCond .le 19, 3) := bd158 (a := 0) (b := 19) (btAt dk10aref7_cX12_isUnder_0_a 6 rfl)
theorem dX12_isUnder_13 : decode cX12_isUnder 13 = .ok (.iload_n 1, 1) := bd27 (btAt dk10aref7_cX12_isUnder_0_a 7 rfl)
theorem dX12_isUnder_14 : decode cX12_isUnder 14 = .ok (.iconst 4, 1) := bd7 (btAt dk10aref7_cX12_isUnder_0_a 8 rfl)
theorem dX12_isUnder_15 : decode cX12_isUnder 15 = .ok (.if_icmp .ge 14, 3) := bd162 (a := 0) (b := 14) (btAt dk10aref7_cX12_isUnder_0_a 9 rfl)
theorem dX12_isUnder_18 : decode cX12_isUnder 18 = .ok (.iload_n 0, 1) := bd26 (btAt dk10aref7_cX12_isUnder_0_a 10 rfl)
theorem dX12_isUnder_19 : decode cX12_isUnder 19 = .ok (.iload_n 1, 1) := bd27 (btAt dk10aref7_cX12_isUnder_0_a 11 rfl)
theorem dX12_isUnder_20 : decode cX12_isUnder 20 = .ok (.iconst 3, 1) := bd6 (btAt dk10aref7_cX12_isUnder_0_a 12 rfl)
theorem dX12_isUnder_21 : decode cX12_isUnder 21 = .ok (.iadd, 1) := bd96 (btAt dk10aref7_cX12_isUnder_0_a 13 rfl)
theorem dX12_isUnder_22 : decode cX12_isUnder 22 = .ok (.if_icmp .ne 7, 3) := bd160 (a := 0) (b := 7) (btAt dk10aref7_cX12_isUnder_0_a 14 rfl)
theorem dX12_isUnder_25 : decode cX12_isUnder 25 = .ok (.iconst 1, 1) := bd4 (btAt dk10aref7_cX12_isUnder_0_a 15 rfl)
theorem dX12_isUnder_26 : decode cX12_isUnder 26 = .ok (.goto 4, 3) := bd167 (a := 0) (b := 4) (btAt dk10aref7_cX12_isUnder_0_a 16 rfl)
theorem dX12_isUnder_29 : decode cX12_isUnder 29 = .ok (.iconst 0, 1) := bd3 (btAt dk10aref7_cX12_isUnder_0_a 17 rfl)
theorem dX12_isUnder_30 : decode cX12_isUnder 30 = .ok (.ireturn, 1) := bd172 (btAt dk10aref7_cX12_isUnder_0_a 18 rfl)
noncomputable def dk10aref7_cX12_as_0 : List (Nat × List Nat) := [(0, [42]), (1, [27]), (2, [182, 0, 164]), (5, [153, 0, 13]), (8, [28]), (9, [3]), (10, [16, 6]), (12, [184, 0, 45]), (15, [154, 0, 5]), (18, [2]), (19, [172]), (20, [42]), (21, [180, 0, 9]), (24, [16, 10]), (26, [27]), (27, [96]), (28, [46]), (29, [28]), (30, [184, 1, 2]), (33, [153, 0, 15]), (36, [42]), (37, [180, 0, 9]), (40, [16, 19]), (42, [27]), (43, [96]), (44, [46]), (45, [167, 0, 5]), (48, [16, 250]), (50, [172])]
set_option maxRecDepth 100000 in
theorem dk10aref7_cX12_as_0_a : btA cX12_as dk10aref7_cX12_as_0 = true := by decide +kernel
theorem dX12_as_0 : decode cX12_as 0 = .ok (.aload_n 0, 1) := bd42 (btAt dk10aref7_cX12_as_0_a 0 rfl)
theorem dX12_as_1 : decode cX12_as 1 = .ok (.iload_n 1, 1) := bd27 (btAt dk10aref7_cX12_as_0_a 1 rfl)
theorem dX12_as_2 : decode cX12_as 2 = .ok (.invokevirtual 164, 3) := bd182 (a := 0) (b := 164) (btAt dk10aref7_cX12_as_0_a 2 rfl)
theorem dX12_as_5 : decode cX12_as 5 = .ok (.ifCond .eq 13, 3) := bd153 (a := 0) (b := 13) (btAt dk10aref7_cX12_as_0_a 3 rfl)
theorem dX12_as_8 : decode cX12_as 8 = .ok (.iload_n 2, 1) := bd28 (btAt dk10aref7_cX12_as_0_a 4 rfl)
theorem dX12_as_9 : decode cX12_as 9 = .ok (.iconst 0, 1) := bd3 (btAt dk10aref7_cX12_as_0_a 5 rfl)
theorem dX12_as_10 : decode cX12_as 10 = .ok (.bipush 6, 2) := bd16 (a := 6) (btAt dk10aref7_cX12_as_0_a 6 rfl)
theorem dX12_as_12 : decode cX12_as 12 = .ok (.invokestatic 45, 3) := bd184 (a := 0) (b := 45) (btAt dk10aref7_cX12_as_0_a 7 rfl)
theorem dX12_as_15 : decode cX12_as 15 = .ok (.ifCond .ne 5, 3) := bd154 (a := 0) (b := 5) (btAt dk10aref7_cX12_as_0_a 8 rfl)
theorem dX12_as_18 : decode cX12_as 18 = .ok (.iconst (-1), 1) := bd2 (btAt dk10aref7_cX12_as_0_a 9 rfl)
theorem dX12_as_19 : decode cX12_as 19 = .ok (.ireturn, 1) := bd172 (btAt dk10aref7_cX12_as_0_a 10 rfl)
theorem dX12_as_20 : decode cX12_as 20 = .ok (.aload_n 0, 1) := bd42 (btAt dk10aref7_cX12_as_0_a 11 rfl)
theorem dX12_as_21 : decode cX12_as 21 = .ok (.getfield 9, 3) := bd180 (a := 0) (b := 9) (btAt dk10aref7_cX12_as_0_a 12 rfl)
theorem dX12_as_24 : decode cX12_as 24 = .ok (.bipush 10, 2) := bd16 (a := 10) (btAt dk10aref7_cX12_as_0_a 13 rfl)
theorem dX12_as_26 : decode cX12_as 26 = .ok (.iload_n 1, 1) := bd27 (btAt dk10aref7_cX12_as_0_a 14 rfl)
theorem dX12_as_27 : decode cX12_as 27 = .ok (.iadd, 1) := bd96 (btAt dk10aref7_cX12_as_0_a 15 rfl)
theorem dX12_as_28 : decode cX12_as 28 = .ok (.iaload, 1) := bd46 (btAt dk10aref7_cX12_as_0_a 16 rfl)
theorem dX12_as_29 : decode cX12_as 29 = .ok (.iload_n 2, 1) := bd28 (btAt dk10aref7_cX12_as_0_a 17 rfl)
theorem dX12_as_30 : decode cX12_as 30 = .ok (.invokestatic 258, 3) := bd184 (a := 1) (b := 2) (btAt dk10aref7_cX12_as_0_a 18 rfl)
theorem dX12_as_33 : decode cX12_as 33 = .ok (.ifCond .eq 15, 3) := bd153 (a := 0) (b := 15) (btAt dk10aref7_cX12_as_0_a 19 rfl)
theorem dX12_as_36 : decode cX12_as 36 = .ok (.aload_n 0, 1) := bd42 (btAt dk10aref7_cX12_as_0_a 20 rfl)
theorem dX12_as_37 : decode cX12_as 37 = .ok (.getfield 9, 3) := bd180 (a := 0) (b := 9) (btAt dk10aref7_cX12_as_0_a 21 rfl)
theorem dX12_as_40 : decode cX12_as 40 = .ok (.bipush 19, 2) := bd16 (a := 19) (btAt dk10aref7_cX12_as_0_a 22 rfl)
theorem dX12_as_42 : decode cX12_as 42 = .ok (.iload_n 1, 1) := bd27 (btAt dk10aref7_cX12_as_0_a 23 rfl)
theorem dX12_as_43 : decode cX12_as 43 = .ok (.iadd, 1) := bd96 (btAt dk10aref7_cX12_as_0_a 24 rfl)
theorem dX12_as_44 : decode cX12_as 44 = .ok (.iaload, 1) := bd46 (btAt dk10aref7_cX12_as_0_a 25 rfl)
theorem dX12_as_45 : decode cX12_as 45 = .ok (.goto 5, 3) := bd167 (a := 0) (b := 5) (btAt dk10aref7_cX12_as_0_a 26 rfl)
theorem dX12_as_48 : decode cX12_as 48 = .ok (.bipush (-6), 2) := bd16 (a := 250) (btAt dk10aref7_cX12_as_0_a 27 rfl)
theorem dX12_as_50 : decode cX12_as 50 = .ok (.ireturn, 1) := bd172 (btAt dk10aref7_cX12_as_0_a 28 rfl)
noncomputable def dk10aref7_cX12_trace_0 : List (Nat × List Nat) := [(0, [27]), (1, [3]), (2, [42]), (3, [180, 0, 246]), (6, [16, 20]), (8, [162, 0, 10]), (11, [42]), (12, [180, 0, 246]), (15, [167, 0, 5]), (18, [16, 20]), (20, [4]), (21, [100]), (22, [184, 0, 45]), (25, [153, 0, 12]), (28, [42]), (29, [180, 0, 38]), (32, [27]), (33, [46]), (34, [167, 0, 4]), (37, [2]), (38, [172])]
set_option maxRecDepth 100000 in
theorem dk10aref7_cX12_trace_0_a : btA cX12_trace dk10aref7_cX12_trace_0 = true := by decide +kernel
theorem dX12_trace_0 : decode cX12_trace 0 = .ok (.iload_n 1, 1) := bd27 (btAt dk10aref7_cX12_trace_0_a 0 rfl)
theorem dX12_trace_1 : decode cX12_trace 1 = .ok (.iconst 0, 1) := bd3 (btAt dk10aref7_cX12_trace_0_a 1 rfl)
theorem dX12_trace_2 : decode cX12_trace 2 = .ok (.aload_n 0, 1) := bd42 (btAt dk10aref7_cX12_trace_0_a 2 rfl)
theorem dX12_trace_3 : decode cX12_trace 3 = .ok (.getfield 246, 3) := bd180 (a := 0) (b := 246) (btAt dk10aref7_cX12_trace_0_a 3 rfl)
theorem dX12_trace_6 : decode cX12_trace 6 = .ok (.bipush 20, 2) := bd16 (a := 20) (btAt dk10aref7_cX12_trace_0_a 4 rfl)
theorem dX12_trace_8 : decode cX12_trace 8 = .ok (.if_icmp .ge 10, 3) := bd162 (a := 0) (b := 10) (btAt dk10aref7_cX12_trace_0_a 5 rfl)
theorem dX12_trace_11 : decode cX12_trace 11 = .ok (.aload_n 0, 1) := bd42 (btAt dk10aref7_cX12_trace_0_a 6 rfl)
theorem dX12_trace_12 : decode cX12_trace 12 = .ok (.getfield 246, 3) := bd180 (a := 0) (b := 246) (btAt dk10aref7_cX12_trace_0_a 7 rfl)
theorem dX12_trace_15 : decode cX12_trace 15 = .ok (.goto 5, 3) := bd167 (a := 0) (b := 5) (btAt dk10aref7_cX12_trace_0_a 8 rfl)
theorem dX12_trace_18 : decode cX12_trace 18 = .ok (.bipush 20, 2) := bd16 (a := 20) (btAt dk10aref7_cX12_trace_0_a 9 rfl)
theorem dX12_trace_20 : decode cX12_trace 20 = .ok (.iconst 1, 1) := bd4 (btAt dk10aref7_cX12_trace_0_a 10 rfl)
theorem dX12_trace_21 : decode cX12_trace 21 = .ok (.isub, 1) := bd100 (btAt dk10aref7_cX12_trace_0_a 11 rfl)
theorem dX12_trace_22 : decode cX12_trace 22 = .ok (.invokestatic 45, 3) := bd184 (a := 0) (b := 45) (btAt dk10aref7_cX12_trace_0_a 12 rfl)
theorem dX12_trace_25 : decode cX12_trace 25 = .ok (.ifCond .eq 12, 3) := bd153 (a := 0) (b := 12) (btAt dk10aref7_cX12_trace_0_a 13 rfl)
theorem dX12_trace_28 : decode cX12_trace 28 = .ok (.aload_n 0, 1) := bd42 (btAt dk10aref7_cX12_trace_0_a 14 rfl)
theorem dX12_trace_29 : decode cX12_trace 29 = .ok (.getfield 38, 3) := bd180 (a := 0) (b := 38) (btAt dk10aref7_cX12_trace_0_a 15 rfl)
theorem dX12_trace_32 : decode cX12_trace 32 = .ok (.iload_n 1, 1) := bd27 (btAt dk10aref7_cX12_trace_0_a 16 rfl)
theorem dX12_trace_33 : decode cX12_trace 33 = .ok (.iaload, 1) := bd46 (btAt dk10aref7_cX12_trace_0_a 17 rfl)
theorem dX12_trace_34 : decode cX12_trace 34 = .ok (.goto 4, 3) := bd167 (a := 0) (b := 4) (btAt dk10aref7_cX12_trace_0_a 18 rfl)
theorem dX12_trace_37 : decode cX12_trace 37 = .ok (.iconst (-1), 1) := bd2 (btAt dk10aref7_cX12_trace_0_a 19 rfl)
theorem dX12_trace_38 : decode cX12_trace 38 = .ok (.ireturn, 1) := bd172 (btAt dk10aref7_cX12_trace_0_a 20 rfl)
noncomputable def dk10aref7_cX12_ranBody_0 : List (Nat × List Nat) := [(0, [42]), (1, [180, 0, 246]), (4, [16, 20]), (6, [162, 0, 13]), (9, [42]), (10, [180, 0, 38]), (13, [42]), (14, [180, 0, 246]), (17, [27]), (18, [79]), (19, [42]), (20, [89]), (21, [180, 0, 246]), (24, [4]), (25, [96]), (26, [181, 0, 246]), (29, [177])]
set_option maxRecDepth 100000 in
theorem dk10aref7_cX12_ranBody_0_a : btA cX12_ranBody dk10aref7_cX12_ranBody_0 = true := by decide +kernel
theorem dX12_ranBody_0 : decode cX12_ranBody 0 = .ok (.aload_n 0, 1) := bd42 (btAt dk10aref7_cX12_ranBody_0_a 0 rfl)
theorem dX12_ranBody_1 : decode cX12_ranBody 1 = .ok (.getfield 246, 3) := bd180 (a := 0) (b := 246) (btAt dk10aref7_cX12_ranBody_0_a 1 rfl)
theorem dX12_ranBody_4 : decode cX12_ranBody 4 = .ok (.bipush 20, 2) := bd16 (a := 20) (btAt dk10aref7_cX12_ranBody_0_a 2 rfl)
theorem dX12_ranBody_6 : decode cX12_ranBody 6 = .ok (.if_icmp .ge 13, 3) := bd162 (a := 0) (b := 13) (btAt dk10aref7_cX12_ranBody_0_a 3 rfl)
theorem dX12_ranBody_9 : decode cX12_ranBody 9 = .ok (.aload_n 0, 1) := bd42 (btAt dk10aref7_cX12_ranBody_0_a 4 rfl)
theorem dX12_ranBody_10 : decode cX12_ranBody 10 = .ok (.getfield 38, 3) := bd180 (a := 0) (b := 38) (btAt dk10aref7_cX12_ranBody_0_a 5 rfl)
theorem dX12_ranBody_13 : decode cX12_ranBody 13 = .ok (.aload_n 0, 1) := bd42 (btAt dk10aref7_cX12_ranBody_0_a 6 rfl)
theorem dX12_ranBody_14 : decode cX12_ranBody 14 = .ok (.getfield 246, 3) := bd180 (a := 0) (b := 246) (btAt dk10aref7_cX12_ranBody_0_a 7 rfl)
theorem dX12_ranBody_17 : decode cX12_ranBody 17 = .ok (.iload_n 1, 1) := bd27 (btAt dk10aref7_cX12_ranBody_0_a 8 rfl)
theorem dX12_ranBody_18 : decode cX12_ranBody 18 = .ok (.iastore, 1) := bd79 (btAt dk10aref7_cX12_ranBody_0_a 9 rfl)
theorem dX12_ranBody_19 : decode cX12_ranBody 19 = .ok (.aload_n 0, 1) := bd42 (btAt dk10aref7_cX12_ranBody_0_a 10 rfl)
theorem dX12_ranBody_20 : decode cX12_ranBody 20 = .ok (.dup, 1) := bd89 (btAt dk10aref7_cX12_ranBody_0_a 11 rfl)
theorem dX12_ranBody_21 : decode cX12_ranBody 21 = .ok (.getfield 246, 3) := bd180 (a := 0) (b := 246) (btAt dk10aref7_cX12_ranBody_0_a 12 rfl)
theorem dX12_ranBody_24 : decode cX12_ranBody 24 = .ok (.iconst 1, 1) := bd4 (btAt dk10aref7_cX12_ranBody_0_a 13 rfl)
theorem dX12_ranBody_25 : decode cX12_ranBody 25 = .ok (.iadd, 1) := bd96 (btAt dk10aref7_cX12_ranBody_0_a 14 rfl)
theorem dX12_ranBody_26 : decode cX12_ranBody 26 = .ok (.putfield 246, 3) := bd181 (a := 0) (b := 246) (btAt dk10aref7_cX12_ranBody_0_a 15 rfl)
theorem dX12_ranBody_29 : decode cX12_ranBody 29 = .ok (.return_, 1) := bd177 (btAt dk10aref7_cX12_ranBody_0_a 16 rfl)
noncomputable def dk10aref7_cX12_plainSees_0 : List (Nat × List Nat) := [(0, [42]), (1, [4]), (2, [182, 0, 249]), (5, [27]), (6, [42]), (7, [180, 0, 252]), (10, [96]), (11, [172])]
set_option maxRecDepth 100000 in
theorem dk10aref7_cX12_plainSees_0_a : btA cX12_plainSees dk10aref7_cX12_plainSees_0 = true := by decide +kernel
theorem dX12_plainSees_0 : decode cX12_plainSees 0 = .ok (.aload_n 0, 1) := bd42 (btAt dk10aref7_cX12_plainSees_0_a 0 rfl)
theorem dX12_plainSees_1 : decode cX12_plainSees 1 = .ok (.iconst 1, 1) := bd4 (btAt dk10aref7_cX12_plainSees_0_a 1 rfl)
theorem dX12_plainSees_2 : decode cX12_plainSees 2 = .ok (.invokevirtual 249, 3) := bd182 (a := 0) (b := 249) (btAt dk10aref7_cX12_plainSees_0_a 2 rfl)
theorem dX12_plainSees_5 : decode cX12_plainSees 5 = .ok (.iload_n 1, 1) := bd27 (btAt dk10aref7_cX12_plainSees_0_a 3 rfl)
theorem dX12_plainSees_6 : decode cX12_plainSees 6 = .ok (.aload_n 0, 1) := bd42 (btAt dk10aref7_cX12_plainSees_0_a 4 rfl)
theorem dX12_plainSees_7 : decode cX12_plainSees 7 = .ok (.getfield 252, 3) := bd180 (a := 0) (b := 252) (btAt dk10aref7_cX12_plainSees_0_a 5 rfl)
theorem dX12_plainSees_10 : decode cX12_plainSees 10 = .ok (.iadd, 1) := bd96 (btAt dk10aref7_cX12_plainSees_0_a 6 rfl)
theorem dX12_plainSees_11 : decode cX12_plainSees 11 = .ok (.ireturn, 1) := bd172 (btAt dk10aref7_cX12_plainSees_0_a 7 rfl)
noncomputable def dk10aref7_cX12_seesActs_0 : List (Nat × List Nat) := [(0, [42]), (1, [180, 0, 255]), (4, [4]), (5, [184, 1, 2]), (8, [153, 0, 17]), (11, [42]), (12, [16, 11]), (14, [182, 0, 249]), (17, [42]), (18, [27]), (19, [6]), (20, [104]), (21, [182, 1, 5]), (24, [172]), (25, [42]), (26, [180, 0, 255]), (29, [8]), (30, [160, 0, 20]), (33, [42]), (34, [16, 51]), (36, [182, 0, 249]), (39, [42]), (40, [27]), (41, [182, 1, 5]), (44, [42]), (45, [180, 0, 252]), (48, [130]), (49, [172]), (50, [42]), (51, [27]), (52, [182, 1, 5]), (55, [172])]
set_option maxRecDepth 100000 in
theorem dk10aref7_cX12_seesActs_0_a : btA cX12_seesActs dk10aref7_cX12_seesActs_0 = true := by decide +kernel
theorem dX12_seesActs_0 : decode cX12_seesActs 0 = .ok (.aload_n 0, 1) := bd42 (btAt dk10aref7_cX12_seesActs_0_a 0 rfl)
theorem dX12_seesActs_1 : decode cX12_seesActs 1 = .ok (.getfield 255, 3) := bd180 (a := 0) (b := 255) (btAt dk10aref7_cX12_seesActs_0_a 1 rfl)
theorem dX12_seesActs_4 : decode cX12_seesActs 4 = .ok (.iconst 1, 1) := bd4 (btAt dk10aref7_cX12_seesActs_0_a 2 rfl)
theorem dX12_seesActs_5 : decode cX12_seesActs 5 = .ok (.invokestatic 258, 3) := bd184 (a := 1) (b := 2) (btAt dk10aref7_cX12_seesActs_0_a 3 rfl)
theorem dX12_seesActs_8 : decode cX12_seesActs 8 = .ok (.ifCond .eq 17, 3) := bd153 (a := 0) (b := 17) (btAt dk10aref7_cX12_seesActs_0_a 4 rfl)
theorem dX12_seesActs_11 : decode cX12_seesActs 11 = .ok (.aload_n 0, 1) := bd42 (btAt dk10aref7_cX12_seesActs_0_a 5 rfl)
theorem dX12_seesActs_12 : decode cX12_seesActs 12 = .ok (.bipush 11, 2) := bd16 (a := 11) (btAt dk10aref7_cX12_seesActs_0_a 6 rfl)
theorem dX12_seesActs_14 : decode cX12_seesActs 14 = .ok (.invokevirtual 249, 3) := bd182 (a := 0) (b := 249) (btAt dk10aref7_cX12_seesActs_0_a 7 rfl)
theorem dX12_seesActs_17 : decode cX12_seesActs 17 = .ok (.aload_n 0, 1) := bd42 (btAt dk10aref7_cX12_seesActs_0_a 8 rfl)
theorem dX12_seesActs_18 : decode cX12_seesActs 18 = .ok (.iload_n 1, 1) := bd27 (btAt dk10aref7_cX12_seesActs_0_a 9 rfl)
theorem dX12_seesActs_19 : decode cX12_seesActs 19 = .ok (.iconst 3, 1) := bd6 (btAt dk10aref7_cX12_seesActs_0_a 10 rfl)
theorem dX12_seesActs_20 : decode cX12_seesActs 20 = .ok (.imul, 1) := bd104 (btAt dk10aref7_cX12_seesActs_0_a 11 rfl)
theorem dX12_seesActs_21 : decode cX12_seesActs 21 = .ok (.invokevirtual 261, 3) := bd182 (a := 1) (b := 5) (btAt dk10aref7_cX12_seesActs_0_a 12 rfl)
theorem dX12_seesActs_24 : decode cX12_seesActs 24 = .ok (.ireturn, 1) := bd172 (btAt dk10aref7_cX12_seesActs_0_a 13 rfl)
theorem dX12_seesActs_25 : decode cX12_seesActs 25 = .ok (.aload_n 0, 1) := bd42 (btAt dk10aref7_cX12_seesActs_0_a 14 rfl)
theorem dX12_seesActs_26 : decode cX12_seesActs 26 = .ok (.getfield 255, 3) := bd180 (a := 0) (b := 255) (btAt dk10aref7_cX12_seesActs_0_a 15 rfl)
theorem dX12_seesActs_29 : decode cX12_seesActs 29 = .ok (.iconst 5, 1) := bd8 (btAt dk10aref7_cX12_seesActs_0_a 16 rfl)
theorem dX12_seesActs_30 : decode cX12_seesActs 30 = .ok (.if_icmp .ne 20, 3) := bd160 (a := 0) (b := 20) (btAt dk10aref7_cX12_seesActs_0_a 17 rfl)
theorem dX12_seesActs_33 : decode cX12_seesActs 33 = .ok (.aload_n 0, 1) := bd42 (btAt dk10aref7_cX12_seesActs_0_a 18 rfl)
theorem dX12_seesActs_34 : decode cX12_seesActs 34 = .ok (.bipush 51, 2) := bd16 (a := 51) (btAt dk10aref7_cX12_seesActs_0_a 19 rfl)
theorem dX12_seesActs_36 : decode cX12_seesActs 36 = .ok (.invokevirtual 249, 3) := bd182 (a := 0) (b := 249) (btAt dk10aref7_cX12_seesActs_0_a 20 rfl)
theorem dX12_seesActs_39 : decode cX12_seesActs 39 = .ok (.aload_n 0, 1) := bd42 (btAt dk10aref7_cX12_seesActs_0_a 21 rfl)
theorem dX12_seesActs_40 : decode cX12_seesActs 40 = .ok (.iload_n 1, 1) := bd27 (btAt dk10aref7_cX12_seesActs_0_a 22 rfl)
theorem dX12_seesActs_41 : decode cX12_seesActs 41 = .ok (.invokevirtual 261, 3) := bd182 (a := 1) (b := 5) (btAt dk10aref7_cX12_seesActs_0_a 23 rfl)
theorem dX12_seesActs_44 : decode cX12_seesActs 44 = .ok (.aload_n 0, 1) := bd42 (btAt dk10aref7_cX12_seesActs_0_a 24 rfl)
theorem dX12_seesActs_45 : decode cX12_seesActs 45 = .ok (.getfield 252, 3) := bd180 (a := 0) (b := 252) (btAt dk10aref7_cX12_seesActs_0_a 25 rfl)
theorem dX12_seesActs_48 : decode cX12_seesActs 48 = .ok (.ixor, 1) := bd130 (btAt dk10aref7_cX12_seesActs_0_a 26 rfl)
theorem dX12_seesActs_49 : decode cX12_seesActs 49 = .ok (.ireturn, 1) := bd172 (btAt dk10aref7_cX12_seesActs_0_a 27 rfl)
theorem dX12_seesActs_50 : decode cX12_seesActs 50 = .ok (.aload_n 0, 1) := bd42 (btAt dk10aref7_cX12_seesActs_0_a 28 rfl)
theorem dX12_seesActs_51 : decode cX12_seesActs 51 = .ok (.iload_n 1, 1) := bd27 (btAt dk10aref7_cX12_seesActs_0_a 29 rfl)
theorem dX12_seesActs_52 : decode cX12_seesActs 52 = .ok (.invokevirtual 261, 3) := bd182 (a := 1) (b := 5) (btAt dk10aref7_cX12_seesActs_0_a 30 rfl)
theorem dX12_seesActs_55 : decode cX12_seesActs 55 = .ok (.ireturn, 1) := bd172 (btAt dk10aref7_cX12_seesActs_0_a 31 rfl)
noncomputable def dk10aref7_cX12_plainGoes_0 : List (Nat × List Nat) := [(0, [42]), (1, [5]), (2, [182, 0, 249]), (5, [42]), (6, [27]), (7, [182, 1, 8]), (10, [42]), (11, [180, 1, 11]), (14, [100]), (15, [172])]
set_option maxRecDepth 100000 in
theorem dk10aref7_cX12_plainGoes_0_a : btA cX12_plainGoes dk10aref7_cX12_plainGoes_0 = true := by decide +kernel
theorem dX12_plainGoes_0 : decode cX12_plainGoes 0 = .ok (.aload_n 0, 1) := bd42 (btAt dk10aref7_cX12_plainGoes_0_a 0 rfl)
theorem dX12_plainGoes_1 : decode cX12_plainGoes 1 = .ok (.iconst 2, 1) := bd5 (btAt dk10aref7_cX12_plainGoes_0_a 1 rfl)
theorem dX12_plainGoes_2 : decode cX12_plainGoes 2 = .ok (.invokevirtual 249, 3) := bd182 (a := 0) (b := 249) (btAt dk10aref7_cX12_plainGoes_0_a 2 rfl)
theorem dX12_plainGoes_5 : decode cX12_plainGoes 5 = .ok (.aload_n 0, 1) := bd42 (btAt dk10aref7_cX12_plainGoes_0_a 3 rfl)
theorem dX12_plainGoes_6 : decode cX12_plainGoes 6 = .ok (.iload_n 1, 1) := bd27 (btAt dk10aref7_cX12_plainGoes_0_a 4 rfl)
theorem dX12_plainGoes_7 : decode cX12_plainGoes 7 = .ok (.invokevirtual 264, 3) := bd182 (a := 1) (b := 8) (btAt dk10aref7_cX12_plainGoes_0_a 5 rfl)
theorem dX12_plainGoes_10 : decode cX12_plainGoes 10 = .ok (.aload_n 0, 1) := bd42 (btAt dk10aref7_cX12_plainGoes_0_a 6 rfl)
theorem dX12_plainGoes_11 : decode cX12_plainGoes 11 = .ok (.getfield 267, 3) := bd180 (a := 1) (b := 11) (btAt dk10aref7_cX12_plainGoes_0_a 7 rfl)
theorem dX12_plainGoes_14 : decode cX12_plainGoes 14 = .ok (.isub, 1) := bd100 (btAt dk10aref7_cX12_plainGoes_0_a 8 rfl)
theorem dX12_plainGoes_15 : decode cX12_plainGoes 15 = .ok (.ireturn, 1) := bd172 (btAt dk10aref7_cX12_plainGoes_0_a 9 rfl)
noncomputable def dk10aref7_cX12_goesActs_0 : List (Nat × List Nat) := [(0, [42]), (1, [180, 0, 255]), (4, [5]), (5, [184, 1, 2]), (8, [153, 0, 16]), (11, [42]), (12, [16, 21]), (14, [182, 0, 249]), (17, [42]), (18, [27]), (19, [182, 1, 14]), (22, [116]), (23, [172]), (24, [42]), (25, [180, 0, 255]), (28, [16, 6]), (30, [160, 0, 20]), (33, [42]), (34, [16, 61]), (36, [182, 0, 249]), (39, [42]), (40, [27]), (41, [182, 1, 14]), (44, [42]), (45, [180, 1, 11]), (48, [96]), (49, [172]), (50, [42]), (51, [27]), (52, [182, 1, 14]), (55, [172])]
set_option maxRecDepth 100000 in
theorem dk10aref7_cX12_goesActs_0_a : btA cX12_goesActs dk10aref7_cX12_goesActs_0 = true := by decide +kernel
theorem dX12_goesActs_0 : decode cX12_goesActs 0 = .ok (.aload_n 0, 1) := bd42 (btAt dk10aref7_cX12_goesActs_0_a 0 rfl)
theorem dX12_goesActs_1 : decode cX12_goesActs 1 = .ok (.getfield 255, 3) := bd180 (a := 0) (b := 255) (btAt dk10aref7_cX12_goesActs_0_a 1 rfl)
theorem dX12_goesActs_4 : decode cX12_goesActs 4 = .ok (.iconst 2, 1) := bd5 (btAt dk10aref7_cX12_goesActs_0_a 2 rfl)
theorem dX12_goesActs_5 : decode cX12_goesActs 5 = .ok (.invokestatic 258, 3) := bd184 (a := 1) (b := 2) (btAt dk10aref7_cX12_goesActs_0_a 3 rfl)
theorem dX12_goesActs_8 : decode cX12_goesActs 8 = .ok (.ifCond .eq 16, 3) := bd153 (a := 0) (b := 16) (btAt dk10aref7_cX12_goesActs_0_a 4 rfl)
theorem dX12_goesActs_11 : decode cX12_goesActs 11 = .ok (.aload_n 0, 1) := bd42 (btAt dk10aref7_cX12_goesActs_0_a 5 rfl)
theorem dX12_goesActs_12 : decode cX12_goesActs 12 = .ok (.bipush 21, 2) := bd16 (a := 21) (btAt dk10aref7_cX12_goesActs_0_a 6 rfl)
theorem dX12_goesActs_14 : decode cX12_goesActs 14 = .ok (.invokevirtual 249, 3) := bd182 (a := 0) (b := 249) (btAt dk10aref7_cX12_goesActs_0_a 7 rfl)
theorem dX12_goesActs_17 : decode cX12_goesActs 17 = .ok (.aload_n 0, 1) := bd42 (btAt dk10aref7_cX12_goesActs_0_a 8 rfl)
theorem dX12_goesActs_18 : decode cX12_goesActs 18 = .ok (.iload_n 1, 1) := bd27 (btAt dk10aref7_cX12_goesActs_0_a 9 rfl)
theorem dX12_goesActs_19 : decode cX12_goesActs 19 = .ok (.invokevirtual 270, 3) := bd182 (a := 1) (b := 14) (btAt dk10aref7_cX12_goesActs_0_a 10 rfl)
theorem dX12_goesActs_22 : decode cX12_goesActs 22 = .ok (.ineg, 1) := bd116 (btAt dk10aref7_cX12_goesActs_0_a 11 rfl)
theorem dX12_goesActs_23 : decode cX12_goesActs 23 = .ok (.ireturn, 1) := bd172 (btAt dk10aref7_cX12_goesActs_0_a 12 rfl)
theorem dX12_goesActs_24 : decode cX12_goesActs 24 = .ok (.aload_n 0, 1) := bd42 (btAt dk10aref7_cX12_goesActs_0_a 13 rfl)
theorem dX12_goesActs_25 : decode cX12_goesActs 25 = .ok (.getfield 255, 3) := bd180 (a := 0) (b := 255) (btAt dk10aref7_cX12_goesActs_0_a 14 rfl)
theorem dX12_goesActs_28 : decode cX12_goesActs 28 = .ok (.bipush 6, 2) := bd16 (a := 6) (btAt dk10aref7_cX12_goesActs_0_a 15 rfl)
theorem dX12_goesActs_30 : decode cX12_goesActs 30 = .ok (.if_icmp .ne 20, 3) := bd160 (a := 0) (b := 20) (btAt dk10aref7_cX12_goesActs_0_a 16 rfl)
theorem dX12_goesActs_33 : decode cX12_goesActs 33 = .ok (.aload_n 0, 1) := bd42 (btAt dk10aref7_cX12_goesActs_0_a 17 rfl)
theorem dX12_goesActs_34 : decode cX12_goesActs 34 = .ok (.bipush 61, 2) := bd16 (a := 61) (btAt dk10aref7_cX12_goesActs_0_a 18 rfl)
theorem dX12_goesActs_36 : decode cX12_goesActs 36 = .ok (.invokevirtual 249, 3) := bd182 (a := 0) (b := 249) (btAt dk10aref7_cX12_goesActs_0_a 19 rfl)
theorem dX12_goesActs_39 : decode cX12_goesActs 39 = .ok (.aload_n 0, 1) := bd42 (btAt dk10aref7_cX12_goesActs_0_a 20 rfl)
theorem dX12_goesActs_40 : decode cX12_goesActs 40 = .ok (.iload_n 1, 1) := bd27 (btAt dk10aref7_cX12_goesActs_0_a 21 rfl)
theorem dX12_goesActs_41 : decode cX12_goesActs 41 = .ok (.invokevirtual 270, 3) := bd182 (a := 1) (b := 14) (btAt dk10aref7_cX12_goesActs_0_a 22 rfl)
theorem dX12_goesActs_44 : decode cX12_goesActs 44 = .ok (.aload_n 0, 1) := bd42 (btAt dk10aref7_cX12_goesActs_0_a 23 rfl)
theorem dX12_goesActs_45 : decode cX12_goesActs 45 = .ok (.getfield 267, 3) := bd180 (a := 1) (b := 11) (btAt dk10aref7_cX12_goesActs_0_a 24 rfl)
theorem dX12_goesActs_48 : decode cX12_goesActs 48 = .ok (.iadd, 1) := bd96 (btAt dk10aref7_cX12_goesActs_0_a 25 rfl)
theorem dX12_goesActs_49 : decode cX12_goesActs 49 = .ok (.ireturn, 1) := bd172 (btAt dk10aref7_cX12_goesActs_0_a 26 rfl)
theorem dX12_goesActs_50 : decode cX12_goesActs 50 = .ok (.aload_n 0, 1) := bd42 (btAt dk10aref7_cX12_goesActs_0_a 27 rfl)
theorem dX12_goesActs_51 : decode cX12_goesActs 51 = .ok (.iload_n 1, 1) := bd27 (btAt dk10aref7_cX12_goesActs_0_a 28 rfl)
theorem dX12_goesActs_52 : decode cX12_goesActs 52 = .ok (.invokevirtual 270, 3) := bd182 (a := 1) (b := 14) (btAt dk10aref7_cX12_goesActs_0_a 29 rfl)
theorem dX12_goesActs_55 : decode cX12_goesActs 55 = .ok (.ireturn, 1) := bd172 (btAt dk10aref7_cX12_goesActs_0_a 30 rfl)
noncomputable def dk10aref7_cX12_plainLooks_0 : List (Nat × List Nat) := [(0, [42]), (1, [6]), (2, [182, 0, 249]), (5, [42]), (6, [27]), (7, [182, 1, 17]), (10, [5]), (11, [104]), (12, [172])]
set_option maxRecDepth 100000 in
theorem dk10aref7_cX12_plainLooks_0_a : btA cX12_plainLooks dk10aref7_cX12_plainLooks_0 = true := by decide +kernel
theorem dX12_plainLooks_0 : decode cX12_plainLooks 0 = .ok (.aload_n 0, 1) := bd42 (btAt dk10aref7_cX12_plainLooks_0_a 0 rfl)
theorem dX12_plainLooks_1 : decode cX12_plainLooks 1 = .ok (.iconst 3, 1) := bd6 (btAt dk10aref7_cX12_plainLooks_0_a 1 rfl)
theorem dX12_plainLooks_2 : decode cX12_plainLooks 2 = .ok (.invokevirtual 249, 3) := bd182 (a := 0) (b := 249) (btAt dk10aref7_cX12_plainLooks_0_a 2 rfl)
theorem dX12_plainLooks_5 : decode cX12_plainLooks 5 = .ok (.aload_n 0, 1) := bd42 (btAt dk10aref7_cX12_plainLooks_0_a 3 rfl)
theorem dX12_plainLooks_6 : decode cX12_plainLooks 6 = .ok (.iload_n 1, 1) := bd27 (btAt dk10aref7_cX12_plainLooks_0_a 4 rfl)
theorem dX12_plainLooks_7 : decode cX12_plainLooks 7 = .ok (.invokevirtual 273, 3) := bd182 (a := 1) (b := 17) (btAt dk10aref7_cX12_plainLooks_0_a 5 rfl)
theorem dX12_plainLooks_10 : decode cX12_plainLooks 10 = .ok (.iconst 2, 1) := bd5 (btAt dk10aref7_cX12_plainLooks_0_a 6 rfl)
theorem dX12_plainLooks_11 : decode cX12_plainLooks 11 = .ok (.imul, 1) := bd104 (btAt dk10aref7_cX12_plainLooks_0_a 7 rfl)
theorem dX12_plainLooks_12 : decode cX12_plainLooks 12 = .ok (.ireturn, 1) := bd172 (btAt dk10aref7_cX12_plainLooks_0_a 8 rfl)
noncomputable def dk10aref7_cX12_looksActs_0 : List (Nat × List Nat) := [(0, [42]), (1, [180, 0, 255]), (4, [6]), (5, [184, 1, 2]), (8, [153, 0, 18]), (11, [42]), (12, [16, 31]), (14, [182, 0, 249]), (17, [42]), (18, [27]), (19, [182, 1, 20]), (22, [16, 7]), (24, [130]), (25, [172]), (26, [42]), (27, [180, 0, 255]), (30, [7]), (31, [160, 0, 25]), (34, [42]), (35, [16, 41]), (37, [182, 0, 249]), (40, [42]), (41, [27]), (42, [4]), (43, [100]), (44, [182, 1, 20]), (47, [61]), (48, [28]), (49, [42]), (50, [5]), (51, [182, 1, 8]), (54, [96]), (55, [172]), (56, [42]), (57, [27]), (58, [182, 1, 20]), (61, [172])]
set_option maxRecDepth 100000 in
theorem dk10aref7_cX12_looksActs_0_a : btA cX12_looksActs dk10aref7_cX12_looksActs_0 = true := by decide +kernel
theorem dX12_looksActs_0 : decode cX12_looksActs 0 = .ok (.aload_n 0, 1) := bd42 (btAt dk10aref7_cX12_looksActs_0_a 0 rfl)
theorem dX12_looksActs_1 : decode cX12_looksActs 1 = .ok (.getfield 255, 3) := bd180 (a := 0) (b := 255) (btAt dk10aref7_cX12_looksActs_0_a 1 rfl)
theorem dX12_looksActs_4 : decode cX12_looksActs 4 = .ok (.iconst 3, 1) := bd6 (btAt dk10aref7_cX12_looksActs_0_a 2 rfl)
theorem dX12_looksActs_5 : decode cX12_looksActs 5 = .ok (.invokestatic 258, 3) := bd184 (a := 1) (b := 2) (btAt dk10aref7_cX12_looksActs_0_a 3 rfl)
theorem dX12_looksActs_8 : decode cX12_looksActs 8 = .ok (.ifCond .eq 18, 3) := bd153 (a := 0) (b := 18) (btAt dk10aref7_cX12_looksActs_0_a 4 rfl)
theorem dX12_looksActs_11 : decode cX12_looksActs 11 = .ok (.aload_n 0, 1) := bd42 (btAt dk10aref7_cX12_looksActs_0_a 5 rfl)
theorem dX12_looksActs_12 : decode cX12_looksActs 12 = .ok (.bipush 31, 2) := bd16 (a := 31) (btAt dk10aref7_cX12_looksActs_0_a 6 rfl)
theorem dX12_looksActs_14 : decode cX12_looksActs 14 = .ok (.invokevirtual 249, 3) := bd182 (a := 0) (b := 249) (btAt dk10aref7_cX12_looksActs_0_a 7 rfl)
theorem dX12_looksActs_17 : decode cX12_looksActs 17 = .ok (.aload_n 0, 1) := bd42 (btAt dk10aref7_cX12_looksActs_0_a 8 rfl)
theorem dX12_looksActs_18 : decode cX12_looksActs 18 = .ok (.iload_n 1, 1) := bd27 (btAt dk10aref7_cX12_looksActs_0_a 9 rfl)
theorem dX12_looksActs_19 : decode cX12_looksActs 19 = .ok (.invokevirtual 276, 3) := bd182 (a := 1) (b := 20) (btAt dk10aref7_cX12_looksActs_0_a 10 rfl)
theorem dX12_looksActs_22 : decode cX12_looksActs 22 = .ok (.bipush 7, 2) := bd16 (a := 7) (btAt dk10aref7_cX12_looksActs_0_a 11 rfl)
theorem dX12_looksActs_24 : decode cX12_looksActs 24 = .ok (.ixor, 1) := bd130 (btAt dk10aref7_cX12_looksActs_0_a 12 rfl)
theorem dX12_looksActs_25 : decode cX12_looksActs 25 = .ok (.ireturn, 1) := bd172 (btAt dk10aref7_cX12_looksActs_0_a 13 rfl)
theorem dX12_looksActs_26 : decode cX12_looksActs 26 = .ok (.aload_n 0, 1) := bd42 (btAt dk10aref7_cX12_looksActs_0_a 14 rfl)
theorem dX12_looksActs_27 : decode cX12_looksActs 27 = .ok (.getfield 255, 3) := bd180 (a := 0) (b := 255) (btAt dk10aref7_cX12_looksActs_0_a 15 rfl)
theorem dX12_looksActs_30 : decode cX12_looksActs 30 = .ok (.iconst 4, 1) := bd7 (btAt dk10aref7_cX12_looksActs_0_a 16 rfl)
theorem dX12_looksActs_31 : decode cX12_looksActs 31 = .ok (.if_icmp .ne 25, 3) := bd160 (a := 0) (b := 25) (btAt dk10aref7_cX12_looksActs_0_a 17 rfl)
theorem dX12_looksActs_34 : decode cX12_looksActs 34 = .ok (.aload_n 0, 1) := bd42 (btAt dk10aref7_cX12_looksActs_0_a 18 rfl)
theorem dX12_looksActs_35 : decode cX12_looksActs 35 = .ok (.bipush 41, 2) := bd16 (a := 41) (btAt dk10aref7_cX12_looksActs_0_a 19 rfl)
theorem dX12_looksActs_37 : decode cX12_looksActs 37 = .ok (.invokevirtual 249, 3) := bd182 (a := 0) (b := 249) (btAt dk10aref7_cX12_looksActs_0_a 20 rfl)
theorem dX12_looksActs_40 : decode cX12_looksActs 40 = .ok (.aload_n 0, 1) := bd42 (btAt dk10aref7_cX12_looksActs_0_a 21 rfl)
theorem dX12_looksActs_41 : decode cX12_looksActs 41 = .ok (.iload_n 1, 1) := bd27 (btAt dk10aref7_cX12_looksActs_0_a 22 rfl)
theorem dX12_looksActs_42 : decode cX12_looksActs 42 = .ok (.iconst 1, 1) := bd4 (btAt dk10aref7_cX12_looksActs_0_a 23 rfl)
theorem dX12_looksActs_43 : decode cX12_looksActs 43 = .ok (.isub, 1) := bd100 (btAt dk10aref7_cX12_looksActs_0_a 24 rfl)
theorem dX12_looksActs_44 : decode cX12_looksActs 44 = .ok (.invokevirtual 276, 3) := bd182 (a := 1) (b := 20) (btAt dk10aref7_cX12_looksActs_0_a 25 rfl)
theorem dX12_looksActs_47 : decode cX12_looksActs 47 = .ok (.istore_n 2, 1) := bd61 (btAt dk10aref7_cX12_looksActs_0_a 26 rfl)
theorem dX12_looksActs_48 : decode cX12_looksActs 48 = .ok (.iload_n 2, 1) := bd28 (btAt dk10aref7_cX12_looksActs_0_a 27 rfl)
theorem dX12_looksActs_49 : decode cX12_looksActs 49 = .ok (.aload_n 0, 1) := bd42 (btAt dk10aref7_cX12_looksActs_0_a 28 rfl)
theorem dX12_looksActs_50 : decode cX12_looksActs 50 = .ok (.iconst 2, 1) := bd5 (btAt dk10aref7_cX12_looksActs_0_a 29 rfl)
theorem dX12_looksActs_51 : decode cX12_looksActs 51 = .ok (.invokevirtual 264, 3) := bd182 (a := 1) (b := 8) (btAt dk10aref7_cX12_looksActs_0_a 30 rfl)
theorem dX12_looksActs_54 : decode cX12_looksActs 54 = .ok (.iadd, 1) := bd96 (btAt dk10aref7_cX12_looksActs_0_a 31 rfl)
theorem dX12_looksActs_55 : decode cX12_looksActs 55 = .ok (.ireturn, 1) := bd172 (btAt dk10aref7_cX12_looksActs_0_a 32 rfl)
theorem dX12_looksActs_56 : decode cX12_looksActs 56 = .ok (.aload_n 0, 1) := bd42 (btAt dk10aref7_cX12_looksActs_0_a 33 rfl)
theorem dX12_looksActs_57 : decode cX12_looksActs 57 = .ok (.iload_n 1, 1) := bd27 (btAt dk10aref7_cX12_looksActs_0_a 34 rfl)
theorem dX12_looksActs_58 : decode cX12_looksActs 58 = .ok (.invokevirtual 276, 3) := bd182 (a := 1) (b := 20) (btAt dk10aref7_cX12_looksActs_0_a 35 rfl)
theorem dX12_looksActs_61 : decode cX12_looksActs 61 = .ok (.ireturn, 1) := bd172 (btAt dk10aref7_cX12_looksActs_0_a 36 rfl)
noncomputable def dk10aref7_cX12_act_0 : List (Nat × List Nat) := [(0, [42]), (1, [3]), (2, [181, 0, 246]), (5, [42]), (6, [27]), (7, [182, 0, 164]), (10, [153, 0, 12]), (13, [28]), (14, [3]), (15, [5]), (16, [184, 0, 45]), (19, [154, 0, 5]), (24, [42]), (25, [42]), (26, [180, 0, 9]), (29, [16, 10]), (31, [27]), (32, [96]), (33, [46]), (34, [181, 0, 255]), (37, [42]), (38, [27]), (39, [181, 0, 252]), (42, [42]), (43, [42]), (44, [180, 0, 9]), (47, [16, 19]), (49, [27]), (50, [96]), (51, [46]), (52, [181, 1, 11]), (55, [28]), (56, [154, 0, 11]), (67, [28]), (68, [4]), (69, [160, 0, 11]), (80, [42]), (81, [29]), (82, [182, 1, 23]), (85, [172])]
set_option maxRecDepth 100000 in
theorem dk10aref7_cX12_act_0_a : btA cX12_act dk10aref7_cX12_act_0 = true := by decide +kernel
theorem dX12_act_0 : decode cX12_act 0 = .ok (.aload_n 0, 1) := bd42 (btAt dk10aref7_cX12_act_0_a 0 rfl)
theorem dX12_act_1 : decode cX12_act 1 = .ok (.iconst 0, 1) := bd3 (btAt dk10aref7_cX12_act_0_a 1 rfl)
theorem dX12_act_2 : decode cX12_act 2 = .ok (.putfield 246, 3) := bd181 (a := 0) (b := 246) (btAt dk10aref7_cX12_act_0_a 2 rfl)
theorem dX12_act_5 : decode cX12_act 5 = .ok (.aload_n 0, 1) := bd42 (btAt dk10aref7_cX12_act_0_a 3 rfl)
theorem dX12_act_6 : decode cX12_act 6 = .ok (.iload_n 1, 1) := bd27 (btAt dk10aref7_cX12_act_0_a 4 rfl)
theorem dX12_act_7 : decode cX12_act 7 = .ok (.invokevirtual 164, 3) := bd182 (a := 0) (b := 164) (btAt dk10aref7_cX12_act_0_a 5 rfl)
theorem dX12_act_10 : decode cX12_act 10 = .ok (.ifCond .eq 12, 3) := bd153 (a := 0) (b := 12) (btAt dk10aref7_cX12_act_0_a 6 rfl)
theorem dX12_act_13 : decode cX12_act 13 = .ok (.iload_n 2, 1) := bd28 (btAt dk10aref7_cX12_act_0_a 7 rfl)
theorem dX12_act_14 : decode cX12_act 14 = .ok (.iconst 0, 1) := bd3 (btAt dk10aref7_cX12_act_0_a 8 rfl)
theorem dX12_act_15 : decode cX12_act 15 = .ok (.iconst 2, 1) := bd5 (btAt dk10aref7_cX12_act_0_a 9 rfl)
theorem dX12_act_16 : decode cX12_act 16 = .ok (.invokestatic 45, 3) := bd184 (a := 0) (b := 45) (btAt dk10aref7_cX12_act_0_a 10 rfl)
theorem dX12_act_19 : decode cX12_act 19 = .ok (.ifCond .ne 5, 3) := bd154 (a := 0) (b := 5) (btAt dk10aref7_cX12_act_0_a 11 rfl)
theorem dX12_act_24 : decode cX12_act 24 = .ok (.aload_n 0, 1) := bd42 (btAt dk10aref7_cX12_act_0_a 12 rfl)
theorem dX12_act_25 : decode cX12_act 25 = .ok (.aload_n 0, 1) := bd42 (btAt dk10aref7_cX12_act_0_a 13 rfl)
theorem dX12_act_26 : decode cX12_act 26 = .ok (.getfield 9, 3) := bd180 (a := 0) (b := 9) (btAt dk10aref7_cX12_act_0_a 14 rfl)
theorem dX12_act_29 : decode cX12_act 29 = .ok (.bipush 10, 2) := bd16 (a := 10) (btAt dk10aref7_cX12_act_0_a 15 rfl)
theorem dX12_act_31 : decode cX12_act 31 = .ok (.iload_n 1, 1) := bd27 (btAt dk10aref7_cX12_act_0_a 16 rfl)
theorem dX12_act_32 : decode cX12_act 32 = .ok (.iadd, 1) := bd96 (btAt dk10aref7_cX12_act_0_a 17 rfl)
theorem dX12_act_33 : decode cX12_act 33 = .ok (.iaload, 1) := bd46 (btAt dk10aref7_cX12_act_0_a 18 rfl)
theorem dX12_act_34 : decode cX12_act 34 = .ok (.putfield 255, 3) := bd181 (a := 0) (b := 255) (btAt dk10aref7_cX12_act_0_a 19 rfl)
theorem dX12_act_37 : decode cX12_act 37 = .ok (.aload_n 0, 1) := bd42 (btAt dk10aref7_cX12_act_0_a 20 rfl)
theorem dX12_act_38 : decode cX12_act 38 = .ok (.iload_n 1, 1) := bd27 (btAt dk10aref7_cX12_act_0_a 21 rfl)
theorem dX12_act_39 : decode cX12_act 39 = .ok (.putfield 252, 3) := bd181 (a := 0) (b := 252) (btAt dk10aref7_cX12_act_0_a 22 rfl)
theorem dX12_act_42 : decode cX12_act 42 = .ok (.aload_n 0, 1) := bd42 (btAt dk10aref7_cX12_act_0_a 23 rfl)
theorem dX12_act_43 : decode cX12_act 43 = .ok (.aload_n 0, 1) := bd42 (btAt dk10aref7_cX12_act_0_a 24 rfl)
theorem dX12_act_44 : decode cX12_act 44 = .ok (.getfield 9, 3) := bd180 (a := 0) (b := 9) (btAt dk10aref7_cX12_act_0_a 25 rfl)
theorem dX12_act_47 : decode cX12_act 47 = .ok (.bipush 19, 2) := bd16 (a := 19) (btAt dk10aref7_cX12_act_0_a 26 rfl)
theorem dX12_act_49 : decode cX12_act 49 = .ok (.iload_n 1, 1) := bd27 (btAt dk10aref7_cX12_act_0_a 27 rfl)
theorem dX12_act_50 : decode cX12_act 50 = .ok (.iadd, 1) := bd96 (btAt dk10aref7_cX12_act_0_a 28 rfl)
theorem dX12_act_51 : decode cX12_act 51 = .ok (.iaload, 1) := bd46 (btAt dk10aref7_cX12_act_0_a 29 rfl)
theorem dX12_act_52 : decode cX12_act 52 = .ok (.putfield 267, 3) := bd181 (a := 1) (b := 11) (btAt dk10aref7_cX12_act_0_a 30 rfl)
theorem dX12_act_55 : decode cX12_act 55 = .ok (.iload_n 2, 1) := bd28 (btAt dk10aref7_cX12_act_0_a 31 rfl)
theorem dX12_act_56 : decode cX12_act 56 = .ok (.ifCond .ne 11, 3) := bd154 (a := 0) (b := 11) (btAt dk10aref7_cX12_act_0_a 32 rfl)
theorem dX12_act_67 : decode cX12_act 67 = .ok (.iload_n 2, 1) := bd28 (btAt dk10aref7_cX12_act_0_a 33 rfl)
theorem dX12_act_68 : decode cX12_act 68 = .ok (.iconst 1, 1) := bd4 (btAt dk10aref7_cX12_act_0_a 34 rfl)
theorem dX12_act_69 : decode cX12_act 69 = .ok (.if_icmp .ne 11, 3) := bd160 (a := 0) (b := 11) (btAt dk10aref7_cX12_act_0_a 35 rfl)
theorem dX12_act_80 : decode cX12_act 80 = .ok (.aload_n 0, 1) := bd42 (btAt dk10aref7_cX12_act_0_a 36 rfl)
theorem dX12_act_81 : decode cX12_act 81 = .ok (.iload_n 3, 1) := bd29 (btAt dk10aref7_cX12_act_0_a 37 rfl)
theorem dX12_act_82 : decode cX12_act 82 = .ok (.invokevirtual 279, 3) := bd182 (a := 1) (b := 23) (btAt dk10aref7_cX12_act_0_a 38 rfl)
theorem dX12_act_85 : decode cX12_act 85 = .ok (.ireturn, 1) := bd172 (btAt dk10aref7_cX12_act_0_a 39 rfl)
noncomputable def dk10aref7_cX12_act_40 : List (Nat × List Nat) := [(22, [3]), (23, [172]), (59, [42]), (60, [29]), (61, [182, 1, 8]), (64, [167, 0, 21]), (72, [42]), (73, [29]), (74, [182, 1, 17]), (77, [167, 0, 8])]
set_option maxRecDepth 100000 in
theorem dk10aref7_cX12_act_40_a : btA cX12_act dk10aref7_cX12_act_40 = true := by decide +kernel
theorem dX12_act_22 : decode cX12_act 22 = .ok (.iconst 0, 1) := bd3 (btAt dk10aref7_cX12_act_40_a 0 rfl)
theorem dX12_act_23 : decode cX12_act 23 = .ok (.ireturn, 1) := bd172 (btAt dk10aref7_cX12_act_40_a 1 rfl)
theorem dX12_act_59 : decode cX12_act 59 = .ok (.aload_n 0, 1) := bd42 (btAt dk10aref7_cX12_act_40_a 2 rfl)
theorem dX12_act_60 : decode cX12_act 60 = .ok (.iload_n 3, 1) := bd29 (btAt dk10aref7_cX12_act_40_a 3 rfl)
theorem dX12_act_61 : decode cX12_act 61 = .ok (.invokevirtual 264, 3) := bd182 (a := 1) (b := 8) (btAt dk10aref7_cX12_act_40_a 4 rfl)
theorem dX12_act_64 : decode cX12_act 64 = .ok (.goto 21, 3) := bd167 (a := 0) (b := 21) (btAt dk10aref7_cX12_act_40_a 5 rfl)
theorem dX12_act_72 : decode cX12_act 72 = .ok (.aload_n 0, 1) := bd42 (btAt dk10aref7_cX12_act_40_a 6 rfl)
theorem dX12_act_73 : decode cX12_act 73 = .ok (.iload_n 3, 1) := bd29 (btAt dk10aref7_cX12_act_40_a 7 rfl)
theorem dX12_act_74 : decode cX12_act 74 = .ok (.invokevirtual 273, 3) := bd182 (a := 1) (b := 17) (btAt dk10aref7_cX12_act_40_a 8 rfl)
theorem dX12_act_77 : decode cX12_act 77 = .ok (.goto 8, 3) := bd167 (a := 0) (b := 8) (btAt dk10aref7_cX12_act_40_a 9 rfl)
theorem kc_mLine_0 : ∀ w ∈ wsX120, w ∈ wsX12_line := fun w h => List.mem_cons_of_mem _ (gin_wsX120 w h)
theorem kc_mLine_1 : (.fieldLink RX12 9 "MistHeapsModel" "s" "[I" : Cond) ∈ wsX12_line := kc_of 1141 rfl rfl rfl
set_option maxHeartbeats 4000000 in
set_option maxRecDepth 100000 in
theorem c_mLine (l : Launch) (dC : Nat → ClassId) (dI : Nat → Nat → Nat) (m0 aS aI aB aT aG aO aN aD aY : Nat) (th im ac sp en wg op se dn rn kd nu tv : Int32) (bv : Int64) (cS : ClassId) (fS : Nat → Int32) (n : Nat) (yc : Nat → Int32) (mi x y : Int32) (cz : List pCla) (zn : fS 0 = nI n) (hn : n ≤ 8) (zh : hol fS cz) (zc : ∀ k, k < n → fS (28 + k) = yc k) (zmi : fS 6 = mi) : Met l yX12_line wsX12_line ({ frames := 2, cells := 0, slots := 0, locals := 43 } : Room) (va_Pc [.ref m0, .int x, .int y] (fun U => va_P (dC, dI) vwCl [(zo14irriiiiiirriirrrrlriiii m0 th aS aI im ac sp en wg op aB aT se dn aG aO aN aD bv aY rn kd nu tv), (zaI aS cS 901 fS)] U.heap ∧ va_K (dC, dI) vwCl [(cS, .int)] U)) (vp_Si (fun r => r = lnR n yc (sgC cz) mi x y)) 0 0 (fun _ => False) := by
  refine met_ofQ (cc := cX12_line) (maxL := 6) (ret := (some .int)) (by decide) rfl ?_
  intro p e s m args below meth c s₁ Q B hml hv hQ
  obtain ⟨rfl, hP, hK⟩ := hv
  have hx := B.exec
  have hb := B.bytes
  have hr := B.returns
  have hts := atoms_spec (ws := wsX12_line) B.pre
  have hown : s.vm.findClass RX12 = some m.cls := findClass_of_methodNamed B.named
  have hlocks := B.notSynchronized
  obtain ⟨A, hAe⟩ : ∃ A : Nat → Prop, A = fun _ => False := ⟨_, rfl⟩
  rw [← hAe] at hQ
  have hS : va_S A s.heap s.heap [] := va_S.rf
  have hl := lv_entry [.ref m0, .int x, .int y] (n := 6) (Nat.le_of_ble_eq_true rfl)
  rw [lg_entry_eq]
  generalize (lg_sl [.ref m0, .int x, .int y] ++ List.replicate (6 - (lg_sl [.ref m0, .int x, .int y]).length) Slot.unset).toArray = ls at hl ⊢
  generalize hag : ([.ref m0, .int x, .int y] : List Value).toArray = args at hts hQ ⊢
  have hl : lv_has ls 6 [(0, .ref m0), (1, .int x), (2, .int y)] := hl
  refine lv_aload_n hx hb dX12_line_0 rfl (lv_at hl 0 rfl) ?_
  refine lv_iload_n hx hb dX12_line_1 rfl (lv_at hl 1 rfl) ?_
  have hPc := hP.sub (ws' := [(zo14irriiiiiirriirrrrlriiii m0 th aS aI im ac sp en wg op aB aT se dn aG aO aN aD bv aY rn kd nu tv), (zaI aS cS 901 fS)]) [0, 1] rfl
  have hKc := hK.sub (tys' := [(cS, .int)]) [0] rfl
  refine vp_callSi (va_runV (As := [.int x]) (rest := []) ⟨hx, hb, hml, hown, hts⟩ (c_isHeap l dC dI m0 aS aI aB aT aG aO aN aD aY th im ac sp en wg op se dn rn kd nu tv bv cS fS n x (zn) (hn)) (cwV 1 hts gX12_line_X12_isHeap rfl rfl rfl hd_yX12_isHeap ⟨Nat.le_of_ble_eq_true rfl, Nat.le_of_ble_eq_true rfl⟩) ⟨fun a U g mk q => by obtain ⟨q0, qP, qK⟩ := q; exact ⟨q0, mvP g mk a qP, mvK g mk a qK⟩, va_recv hK hP (ci := 14) (q := (RX12, TX12, 23)) (q0 := 0) rfl rfl, fun U hU hW => ⟨rfl, by rw [hU]; exact hPc, va_K.moved hW.alike hKc⟩⟩ rfl rfl hl.1 rfl (lv_room (Nat.le_of_ble_eq_true rfl)) dX12_line_2 ⟨Nat.le_of_ble_eq_true rfl, Nat.le_of_ble_eq_true rfl⟩).run (fun r_1 hw_2 => ?_)
  rcases hw_2 with ⟨rfl, j_3, hj_4, rfl⟩ | ⟨rfl, h_5⟩
  · skip
    refine lv_if_ne (tgt := 10) hx hb dX12_line_5 (by decide) (fun _ => ?_) (fun c_6 => absurd c_6 (by decide))
    refine lv_iload_n hx hb dX12_line_10 rfl (lv_at hl 2 rfl) ?_
    refine lv_iconst (v := 1) hx hb dX12_line_11 (by decide) ?_
    refine lv_bipush (v := 9) hx hb dX12_line_12 (by decide) ?_
    refine vp_callSi (va_runS (As := [.int y, .int 1, .int 9]) (rest := []) ⟨hx, hb, hml, hown, hts⟩ (c_in l dC dI y 1 9) (va_cwS 3 hts gX12_line_X12_in rfl rfl rfl hd_yX12_in.2 ⟨Nat.le_of_ble_eq_true rfl, Nat.le_of_ble_eq_true rfl⟩) ⟨fun a U g mk q => ⟨q.1, trivial⟩, fun U hU hW => ⟨rfl, trivial⟩⟩ rfl rfl hl.1 rfl (lv_room (Nat.le_of_ble_eq_true rfl)) dX12_line_14 ⟨Nat.le_of_ble_eq_true rfl, Nat.le_of_ble_eq_true rfl⟩).run (fun r_7 hw_8 => ?_)
    rcases hw_8 with ⟨rfl, h_9, h_10⟩ | ⟨rfl, h_11⟩
    · skip
      refine lv_if_ne (tgt := 23) hx hb dX12_line_17 (by decide) (fun _ => ?_) (fun c_12 => absurd c_12 (by decide))
      refine lv_aload_n hx hb dX12_line_23 rfl (lv_at hl 0 rfl) ?_
      have hPc := hP.sub (ws' := [(zo14irriiiiiirriirrrrlriiii m0 th aS aI im ac sp en wg op aB aT se dn aG aO aN aD bv aY rn kd nu tv), (zaI aS cS 901 fS)]) [0, 1] rfl
      have hKc := hK.sub (tys' := [(cS, .int)]) [0] rfl
      refine vp_callSi (va_runV (As := []) (rest := []) ⟨hx, hb, hml, hown, hts⟩ (c_sight l dC dI m0 aS aI aB aT aG aO aN aD aY th im ac sp en wg op se dn rn kd nu tv bv cS fS cz (zh)) (cwV 0 hts gX12_line_X12_sight rfl rfl rfl hd_yX12_sight ⟨Nat.le_of_ble_eq_true rfl, Nat.le_of_ble_eq_true rfl⟩) ⟨fun a U g mk q => by obtain ⟨q0, qP, qK⟩ := q; exact ⟨q0, mvP g mk a qP, mvK g mk a qK⟩, va_recv hK hP (ci := 14) (q := (RX12, TX12, 23)) (q0 := 0) rfl rfl, fun U hU hW => ⟨rfl, by rw [hU]; exact hPc, va_K.moved hW.alike hKc⟩⟩ rfl rfl hl.1 rfl (lv_room (Nat.le_of_ble_eq_true rfl)) dX12_line_24 ⟨Nat.le_of_ble_eq_true rfl, Nat.le_of_ble_eq_true rfl⟩).run (fun r_13 hw_14 => ?_)
      obtain rfl := hw_14
      refine lv_aload_n hx hb dX12_line_27 rfl (lv_at hl 0 rfl) ?_
      refine va_get (D := (dC, dI)) (ci := 14) (v := .ref aS) (C := RX12) (T := TX12) (N := 23) hx hb hts kc_mLine_0 hown hK hP 0 rfl rfl 1 (by decide) (hts (.fieldLink RX12 9 "MistHeapsModel" "s" "[I") kc_mLine_1) (fun _ h9 => h9) rfl dX12_line_28 ?_
      refine lv_bipush (v := 6) hx hb dX12_line_31 (by decide) ?_
      refine va_iald hx hb hK hP 1 0 rfl rfl (vp_in_nI (n := 6) (N := 901) (by omega) (by omega)) dX12_line_33 ?_
      refine qi_as (y := fS 6) (rfl) ?_
      have J34 : ∀ v_15 : Int32, (v_15 = lnE (sgC cz) (fS 6)) → W p l e ({ frames := 2, cells := 0, slots := 0, locals := 43 } : Room) s m args below meth c s.heap [] 0 0 Q (F0 m 53 ls [.int v_15]) := by
        intro v_15 hv_16
        subst hv_16
        refine lv_istore_n (lv' := [(3, .int (lnE (sgC cz) (fS 6))), (0, .ref m0), (1, .int (nI j_3)), (2, .int y)]) hx hb dX12_line_53 rfl hl (by decide) rfl (fun ls hl => ?_)
        obtain ⟨G9, hG9⟩ : ∃ G : Nat → Int32, G = lnB (fun k => apR (fS (28 + k)) (fS (28 + j_3))) j_3 ((y - 1) * lnE (sgC cz) (fS 6)) := ⟨_, rfl⟩
        refine lv_iconst (v := 0) hx hb dX12_line_54 (by decide) ?_
        refine lv_istore (lv' := [(4, .int 0), (3, .int (lnE (sgC cz) (fS 6))), (0, .ref m0), (1, .int (nI j_3)), (2, .int y)]) hx hb dX12_line_55 hl (by decide) rfl (fun ls hl => ?_)
        refine lv_iconst (v := 0) hx hb dX12_line_57 (by decide) ?_
        refine lv_istore (lv' := [(5, .int 0), (4, .int 0), (3, .int (lnE (sgC cz) (fS 6))), (0, .ref m0), (1, .int (nI j_3)), (2, .int y)]) hx hb dX12_line_58 hl (by decide) rfl (fun ls hl => ?_)
        have L60 : ∀ (nF : Nat) (i : Nat) (q : Int32), n - i < nF → (i ≤ n) → (q = G9 i) → ∀ (ls : Array Slot), lv_has ls 6 [(0, .ref m0), (1, .int (nI j_3)), (2, .int y), (3, .int (lnE (sgC cz) (fS 6))), (4, .int q), (5, .int (nI i))] → W p l e ({ frames := 2, cells := 0, slots := 0, locals := 43 } : Room) s m args below meth c s.heap [] 0 0 Q (F0 m 60 ls []) := by
          intro nF
          induction nF with
          | zero => intro i q hm; exact absurd hm (Nat.not_lt_zero _)
          | succ nF ih60 =>
            intro i q hm hi hq9 ls hl
            refine lv_iload hx hb dX12_line_60 (lv_at hl 5 rfl) ?_
            refine lv_aload_n hx hb dX12_line_62 rfl (lv_at hl 0 rfl) ?_
            refine va_get (D := (dC, dI)) (ci := 14) (v := .ref aS) (C := RX12) (T := TX12) (N := 23) hx hb hts kc_mLine_0 hown hK hP 0 rfl rfl 1 (by decide) (hts (.fieldLink RX12 9 "MistHeapsModel" "s" "[I") kc_mLine_1) (fun _ h9 => h9) rfl dX12_line_63 ?_
            refine lv_iconst (v := 0) hx hb dX12_line_66 (by decide) ?_
            refine va_iald hx hb hK hP 1 0 rfl rfl (vp_in_nI (n := 0) (N := 901) (by omega) (by omega)) dX12_line_67 ?_
            refine qi_as (y := nI n) ((show fS (0 : Int32).toNatClampNeg = fS 0 from rfl).trans (zn)) ?_
            refine lv_icmp_ge (tgt := 126) hx hb dX12_line_68 (by decide) (fun c_17 => ?_) (fun c_17 => ?_)
            · skip
              have c_17 : n ≤ i := (nI_leI (a := n) (b := i) (by omega) (by omega)).mp c_17
              refine lv_iload hx hb dX12_line_126 (lv_at hl 4 rfl) ?_
              rw [hQ]
              exact W.iret (v := q) hx hb hr (fun tQ htQ hWQ => ⟨q, rfl, ln_m hn (by omega) (by assumption) (by assumption) zc zmi hG9 hq9 (by omega), by rw [htQ]⟩) (fun q hq => absurd hq List.not_mem_nil) dX12_line_128
            · skip
              have c_17 : ¬ n ≤ i := fun q => c_17 ((nI_leI (a := n) (b := i) (by omega) (by omega)).mpr q)
              refine lv_iload hx hb dX12_line_71 (lv_at hl 4 rfl) ?_
              refine lv_iload hx hb dX12_line_73 (lv_at hl 5 rfl) ?_
              refine lv_iload_n hx hb dX12_line_75 rfl (lv_at hl 1 rfl) ?_
              refine lv_icmp_eq (tgt := 116) hx hb dX12_line_76 (by decide) (fun c_18 => ?_) (fun c_18 => ?_)
              · skip
                have c_18 : i = j_3 := (nI_eq (a := i) (b := j_3) (by omega) (by omega)).mp c_18
                refine lv_iconst (v := 0) hx hb dX12_line_116 (by decide) ?_
                refine lv_ior hx hb dX12_line_117 ?_
                refine lv_istore (lv' := [(4, .int (q ||| 0)), (0, .ref m0), (1, .int (nI j_3)), (2, .int y), (3, .int (lnE (sgC cz) (fS 6))), (5, .int (nI i))]) hx hb dX12_line_118 hl (by decide) rfl (fun ls hl => ?_)
                refine lv_iinc (v := nI (i + 1)) (lv' := [(5, .int (nI (i + 1))), (4, .int (q ||| 0)), (0, .ref m0), (1, .int (nI j_3)), (2, .int y), (3, .int (lnE (sgC cz) (fS 6)))]) hx hb dX12_line_120 hl (k := 5) rfl (nI_add i 1) (by decide) rfl (fun ls hl => ?_)
                refine lv_goto (tgt := 60) hx hb dX12_line_123 (by decide) ?_
                exact ih60 (i + 1) (q ||| 0) (by omega) (by omega) (ln_s0 hG9 hq9 (Or.inl (by omega))) ls (lv_sub hl [2, 3, 4, 5, 1, 0] rfl)
              · skip
                have c_18 : ¬ i = j_3 := fun q => c_18 ((nI_eq (a := i) (b := j_3) (by omega) (by omega)).mpr q)
                refine lv_aload_n hx hb dX12_line_79 rfl (lv_at hl 0 rfl) ?_
                refine va_get (D := (dC, dI)) (ci := 14) (v := .ref aS) (C := RX12) (T := TX12) (N := 23) hx hb hts kc_mLine_0 hown hK hP 0 rfl rfl 1 (by decide) (hts (.fieldLink RX12 9 "MistHeapsModel" "s" "[I") kc_mLine_1) (fun _ h9 => h9) rfl dX12_line_80 ?_
                refine lv_bipush (v := 28) hx hb dX12_line_83 (by decide) ?_
                refine lv_iload hx hb dX12_line_85 (lv_at hl 5 rfl) ?_
                refine lv_iadd hx hb dX12_line_87 ?_
                refine qi_as (y := nI (28 + i)) (nI_add 28 i) ?_
                refine va_iald hx hb hK hP 1 0 rfl rfl (vp_in_nI (n := 28 + i) (N := 901) (by omega) (by omega)) dX12_line_88 ?_
                refine qi_as (y := fS (28 + i)) (by rw [nI_clamp (by omega)]) ?_
                refine lv_aload_n hx hb dX12_line_89 rfl (lv_at hl 0 rfl) ?_
                refine va_get (D := (dC, dI)) (ci := 14) (v := .ref aS) (C := RX12) (T := TX12) (N := 23) hx hb hts kc_mLine_0 hown hK hP 0 rfl rfl 1 (by decide) (hts (.fieldLink RX12 9 "MistHeapsModel" "s" "[I") kc_mLine_1) (fun _ h9 => h9) rfl dX12_line_90 ?_
                refine lv_bipush (v := 28) hx hb dX12_line_93 (by decide) ?_
                refine lv_iload_n hx hb dX12_line_95 rfl (lv_at hl 1 rfl) ?_
                refine lv_iadd hx hb dX12_line_96 ?_
                refine qi_as (y := nI (28 + j_3)) (nI_add 28 j_3) ?_
                refine va_iald hx hb hK hP 1 0 rfl rfl (vp_in_nI (n := 28 + j_3) (N := 901) (by omega) (by omega)) dX12_line_97 ?_
                refine qi_as (y := fS (28 + j_3)) (by rw [nI_clamp (by omega)]) ?_
                refine vp_callSi (va_runS (As := [.int (fS (28 + i)), .int (fS (28 + j_3))]) (rest := [.int q]) ⟨hx, hb, hml, hown, hts⟩ (c_apart l dC dI (fS (28 + i)) (fS (28 + j_3))) (va_cwS 2 hts gX12_line_X12_apart rfl rfl rfl hd_yX12_apart.2 ⟨Nat.le_of_ble_eq_true rfl, Nat.le_of_ble_eq_true rfl⟩) ⟨fun a U g mk q => ⟨q.1, trivial⟩, fun U hU hW => ⟨rfl, trivial⟩⟩ rfl rfl hl.1 rfl (lv_room (Nat.le_of_ble_eq_true rfl)) dX12_line_98 ⟨Nat.le_of_ble_eq_true rfl, Nat.le_of_ble_eq_true rfl⟩).run (fun r_19 hw_20 => ?_)
                obtain rfl := hw_20
                refine lv_iload_n hx hb dX12_line_101 rfl (lv_at hl 2 rfl) ?_
                refine lv_iconst (v := 1) hx hb dX12_line_102 (by decide) ?_
                refine lv_isub hx hb dX12_line_103 ?_
                refine lv_iload_n hx hb dX12_line_104 rfl (lv_at hl 3 rfl) ?_
                refine lv_imul hx hb dX12_line_105 ?_
                refine lv_icmp_gt (tgt := 116) hx hb dX12_line_106 (by decide) (fun c_21 => ?_) (fun c_21 => ?_)
                · skip
                  refine lv_iconst (v := 0) hx hb dX12_line_116 (by decide) ?_
                  refine lv_ior hx hb dX12_line_117 ?_
                  refine lv_istore (lv' := [(4, .int (q ||| 0)), (0, .ref m0), (1, .int (nI j_3)), (2, .int y), (3, .int (lnE (sgC cz) (fS 6))), (5, .int (nI i))]) hx hb dX12_line_118 hl (by decide) rfl (fun ls hl => ?_)
                  refine lv_iinc (v := nI (i + 1)) (lv' := [(5, .int (nI (i + 1))), (4, .int (q ||| 0)), (0, .ref m0), (1, .int (nI j_3)), (2, .int y), (3, .int (lnE (sgC cz) (fS 6)))]) hx hb dX12_line_120 hl (k := 5) rfl (nI_add i 1) (by decide) rfl (fun ls hl => ?_)
                  refine lv_goto (tgt := 60) hx hb dX12_line_123 (by decide) ?_
                  exact ih60 (i + 1) (q ||| 0) (by omega) (by omega) (ln_s0 hG9 hq9 (Or.inr c_21)) ls (lv_sub hl [2, 3, 4, 5, 1, 0] rfl)
                · skip
                  refine lv_iconst (v := 1) hx hb dX12_line_109 (by decide) ?_
                  refine lv_iload hx hb dX12_line_110 (lv_at hl 5 rfl) ?_
                  refine lv_ishl hx hb dX12_line_112 ?_
                  refine lv_goto (tgt := 117) hx hb dX12_line_113 (by decide) ?_
                  refine lv_ior hx hb dX12_line_117 ?_
                  refine lv_istore (lv' := [(4, .int (q ||| (1 <<< ((nI i) &&& 31)))), (0, .ref m0), (1, .int (nI j_3)), (2, .int y), (3, .int (lnE (sgC cz) (fS 6))), (5, .int (nI i))]) hx hb dX12_line_118 hl (by decide) rfl (fun ls hl => ?_)
                  refine lv_iinc (v := nI (i + 1)) (lv' := [(5, .int (nI (i + 1))), (4, .int (q ||| (1 <<< ((nI i) &&& 31)))), (0, .ref m0), (1, .int (nI j_3)), (2, .int y), (3, .int (lnE (sgC cz) (fS 6)))]) hx hb dX12_line_120 hl (k := 5) rfl (nI_add i 1) (by decide) rfl (fun ls hl => ?_)
                  refine lv_goto (tgt := 60) hx hb dX12_line_123 (by decide) ?_
                  exact ih60 (i + 1) (q ||| (1 <<< ((nI i) &&& 31))) (by omega) (by omega) (ln_1 hG9 hq9 (by omega) c_21) ls (lv_sub hl [2, 3, 4, 5, 1, 0] rfl)
        exact L60 _ (0) (0) (Nat.lt_succ_self _) (by omega) (by rw [hG9]; rfl) ls (lv_sub hl [3, 4, 5, 2, 1, 0] rfl)
      refine lv_icmp_ge (tgt := 41) hx hb dX12_line_34 (by decide) (fun c_22 => ?_) (fun c_22 => ?_)
      · skip
        refine lv_aload_n hx hb dX12_line_41 rfl (lv_at hl 0 rfl) ?_
        have hPc := hP.sub (ws' := [(zo14irriiiiiirriirrrrlriiii m0 th aS aI im ac sp en wg op aB aT se dn aG aO aN aD bv aY rn kd nu tv), (zaI aS cS 901 fS)]) [0, 1] rfl
        have hKc := hK.sub (tys' := [(cS, .int)]) [0] rfl
        refine vp_callSi (va_runV (As := []) (rest := []) ⟨hx, hb, hml, hown, hts⟩ (c_sight l dC dI m0 aS aI aB aT aG aO aN aD aY th im ac sp en wg op se dn rn kd nu tv bv cS fS cz (zh)) (cwV 0 hts gX12_line_X12_sight rfl rfl rfl hd_yX12_sight ⟨Nat.le_of_ble_eq_true rfl, Nat.le_of_ble_eq_true rfl⟩) ⟨fun a U g mk q => by obtain ⟨q0, qP, qK⟩ := q; exact ⟨q0, mvP g mk a qP, mvK g mk a qK⟩, va_recv hK hP (ci := 14) (q := (RX12, TX12, 23)) (q0 := 0) rfl rfl, fun U hU hW => ⟨rfl, by rw [hU]; exact hPc, va_K.moved hW.alike hKc⟩⟩ rfl rfl hl.1 rfl (lv_room (Nat.le_of_ble_eq_true rfl)) dX12_line_42 ⟨Nat.le_of_ble_eq_true rfl, Nat.le_of_ble_eq_true rfl⟩).run (fun r_23 hw_24 => ?_)
        obtain rfl := hw_24
        refine lv_aload_n hx hb dX12_line_45 rfl (lv_at hl 0 rfl) ?_
        refine va_get (D := (dC, dI)) (ci := 14) (v := .ref aS) (C := RX12) (T := TX12) (N := 23) hx hb hts kc_mLine_0 hown hK hP 0 rfl rfl 1 (by decide) (hts (.fieldLink RX12 9 "MistHeapsModel" "s" "[I") kc_mLine_1) (fun _ h9 => h9) rfl dX12_line_46 ?_
        refine lv_bipush (v := 6) hx hb dX12_line_49 (by decide) ?_
        refine va_iald hx hb hK hP 1 0 rfl rfl (vp_in_nI (n := 6) (N := 901) (by omega) (by omega)) dX12_line_51 ?_
        refine qi_as (y := fS 6) (rfl) ?_
        refine lv_isub hx hb dX12_line_52 ?_
        exact J34 ((nI (sgC cz)) - (fS 6)) (by first | exact (if_pos (by assumption)).symm | exact (if_neg (by assumption)).symm)
      · skip
        refine lv_iconst (v := 0) hx hb dX12_line_37 (by decide) ?_
        refine lv_goto (tgt := 53) hx hb dX12_line_38 (by decide) ?_
        exact J34 0 (by first | exact (if_pos (by assumption)).symm | exact (if_neg (by assumption)).symm)
    · skip
      refine lv_if_ne (tgt := 23) hx hb dX12_line_17 (by decide) (fun c_25 => absurd c_25 (by decide)) (fun _ => ?_)
      refine lv_bipush (v := (-2)) hx hb dX12_line_20 (by decide) ?_
      rw [hQ]
      exact W.iret (v := (-2)) hx hb hr (fun tQ htQ hWQ => ⟨(-2), rfl, ln_bad hn (by omega) (by assumption), by rw [htQ]⟩) (fun q hq => absurd hq List.not_mem_nil) dX12_line_22
  · skip
    refine lv_if_ne (tgt := 10) hx hb dX12_line_5 (by decide) (fun c_26 => absurd c_26 (by decide)) (fun _ => ?_)
    refine lv_iconst (v := (-1)) hx hb dX12_line_8 (by decide) ?_
    rw [hQ]
    exact W.iret (v := (-1)) hx hb hr (fun tQ htQ hWQ => ⟨(-1), rfl, ln_no (by assumption), by rw [htQ]⟩) (fun q hq => absurd hq List.not_mem_nil) dX12_line_9

theorem kc_mNext_0 : ∀ w ∈ wsX120, w ∈ wsX12_next := fun w h => List.mem_cons_of_mem _ (gin_wsX120 w h)
theorem kc_mNext_1 : (.fieldLink RX12 9 "MistHeapsModel" "s" "[I" : Cond) ∈ wsX12_next := kc_of 1141 rfl rfl rfl
set_option maxHeartbeats 4000000 in
set_option maxRecDepth 100000 in
theorem c_mNext (l : Launch) (dC : Nat → ClassId) (dI : Nat → Nat → Nat) (m0 aS aI aB aT aG aO aN aD aY : Nat) (th im ac sp en wg op se dn rn kd nu tv : Int32) (bv : Int64) (cS : ClassId) (fS : Nat → Int32) (n : Nat) (yc : Nat → Int32) (x y z : Int32) (zn : fS 0 = nI n) (hn : n ≤ 8) (zc : ∀ k, k < n → fS (28 + k) = yc k) : Met l yX12_next wsX12_next ({ frames := 2, cells := 0, slots := 0, locals := 43 } : Room) (va_Pc [.ref m0, .int x, .int y, .int z] (fun U => va_P (dC, dI) vwCl [(zo14irriiiiiirriirrrrlriiii m0 th aS aI im ac sp en wg op aB aT se dn aG aO aN aD bv aY rn kd nu tv), (zaI aS cS 901 fS)] U.heap ∧ va_K (dC, dI) vwCl [(cS, .int)] U)) (vp_Si (fun r => r = nxR n yc x y z)) 0 0 (fun _ => False) := by
  refine met_ofQ (cc := cX12_next) (maxL := 9) (ret := (some .int)) (by decide) rfl ?_
  intro p e s m args below meth c s₁ Q B hml hv hQ
  obtain ⟨rfl, hP, hK⟩ := hv
  have hx := B.exec
  have hb := B.bytes
  have hr := B.returns
  have hts := atoms_spec (ws := wsX12_next) B.pre
  have hown : s.vm.findClass RX12 = some m.cls := findClass_of_methodNamed B.named
  have hlocks := B.notSynchronized
  obtain ⟨A, hAe⟩ : ∃ A : Nat → Prop, A = fun _ => False := ⟨_, rfl⟩
  rw [← hAe] at hQ
  have hS : va_S A s.heap s.heap [] := va_S.rf
  have hl := lv_entry [.ref m0, .int x, .int y, .int z] (n := 9) (Nat.le_of_ble_eq_true rfl)
  rw [lg_entry_eq]
  generalize (lg_sl [.ref m0, .int x, .int y, .int z] ++ List.replicate (9 - (lg_sl [.ref m0, .int x, .int y, .int z]).length) Slot.unset).toArray = ls at hl ⊢
  generalize hag : ([.ref m0, .int x, .int y, .int z] : List Value).toArray = args at hts hQ ⊢
  have hl : lv_has ls 9 [(0, .ref m0), (1, .int x), (2, .int y), (3, .int z)] := hl
  refine lv_aload_n hx hb dX12_next_0 rfl (lv_at hl 0 rfl) ?_
  refine lv_iload_n hx hb dX12_next_1 rfl (lv_at hl 1 rfl) ?_
  have hPc := hP.sub (ws' := [(zo14irriiiiiirriirrrrlriiii m0 th aS aI im ac sp en wg op aB aT se dn aG aO aN aD bv aY rn kd nu tv), (zaI aS cS 901 fS)]) [0, 1] rfl
  have hKc := hK.sub (tys' := [(cS, .int)]) [0] rfl
  refine vp_callSi (va_runV (As := [.int x]) (rest := []) ⟨hx, hb, hml, hown, hts⟩ (c_isHeap l dC dI m0 aS aI aB aT aG aO aN aD aY th im ac sp en wg op se dn rn kd nu tv bv cS fS n x (zn) (hn)) (cwV 1 hts gX12_next_X12_isHeap rfl rfl rfl hd_yX12_isHeap ⟨Nat.le_of_ble_eq_true rfl, Nat.le_of_ble_eq_true rfl⟩) ⟨fun a U g mk q => by obtain ⟨q0, qP, qK⟩ := q; exact ⟨q0, mvP g mk a qP, mvK g mk a qK⟩, va_recv hK hP (ci := 14) (q := (RX12, TX12, 23)) (q0 := 0) rfl rfl, fun U hU hW => ⟨rfl, by rw [hU]; exact hPc, va_K.moved hW.alike hKc⟩⟩ rfl rfl hl.1 rfl (lv_room (Nat.le_of_ble_eq_true rfl)) dX12_next_2 ⟨Nat.le_of_ble_eq_true rfl, Nat.le_of_ble_eq_true rfl⟩).run (fun r_1 hw_2 => ?_)
  rcases hw_2 with ⟨rfl, j_3, hj_4, rfl⟩ | ⟨rfl, h_5⟩
  · skip
    refine lv_if_eq (tgt := 24) hx hb dX12_next_5 (by decide) (fun c_6 => absurd c_6 (by decide)) (fun _ => ?_)
    refine lv_aload_n hx hb dX12_next_8 rfl (lv_at hl 0 rfl) ?_
    refine lv_iload_n hx hb dX12_next_9 rfl (lv_at hl 2 rfl) ?_
    have hPc := hP.sub (ws' := [(zo14irriiiiiirriirrrrlriiii m0 th aS aI im ac sp en wg op aB aT se dn aG aO aN aD bv aY rn kd nu tv), (zaI aS cS 901 fS)]) [0, 1] rfl
    have hKc := hK.sub (tys' := [(cS, .int)]) [0] rfl
    refine vp_callSi (va_runV (As := [.int y]) (rest := []) ⟨hx, hb, hml, hown, hts⟩ (c_isHeap l dC dI m0 aS aI aB aT aG aO aN aD aY th im ac sp en wg op se dn rn kd nu tv bv cS fS n y (zn) (hn)) (cwV 1 hts gX12_next_X12_isHeap rfl rfl rfl hd_yX12_isHeap ⟨Nat.le_of_ble_eq_true rfl, Nat.le_of_ble_eq_true rfl⟩) ⟨fun a U g mk q => by obtain ⟨q0, qP, qK⟩ := q; exact ⟨q0, mvP g mk a qP, mvK g mk a qK⟩, va_recv hK hP (ci := 14) (q := (RX12, TX12, 23)) (q0 := 0) rfl rfl, fun U hU hW => ⟨rfl, by rw [hU]; exact hPc, va_K.moved hW.alike hKc⟩⟩ rfl rfl hl.1 rfl (lv_room (Nat.le_of_ble_eq_true rfl)) dX12_next_10 ⟨Nat.le_of_ble_eq_true rfl, Nat.le_of_ble_eq_true rfl⟩).run (fun r_7 hw_8 => ?_)
    rcases hw_8 with ⟨rfl, j_9, hj_10, rfl⟩ | ⟨rfl, h_11⟩
    · skip
      refine lv_if_eq (tgt := 24) hx hb dX12_next_13 (by decide) (fun c_12 => absurd c_12 (by decide)) (fun _ => ?_)
      refine lv_aload_n hx hb dX12_next_16 rfl (lv_at hl 0 rfl) ?_
      refine lv_iload_n hx hb dX12_next_17 rfl (lv_at hl 3 rfl) ?_
      have hPc := hP.sub (ws' := [(zo14irriiiiiirriirrrrlriiii m0 th aS aI im ac sp en wg op aB aT se dn aG aO aN aD bv aY rn kd nu tv), (zaI aS cS 901 fS)]) [0, 1] rfl
      have hKc := hK.sub (tys' := [(cS, .int)]) [0] rfl
      refine vp_callSi (va_runV (As := [.int z]) (rest := []) ⟨hx, hb, hml, hown, hts⟩ (c_isHeap l dC dI m0 aS aI aB aT aG aO aN aD aY th im ac sp en wg op se dn rn kd nu tv bv cS fS n z (zn) (hn)) (cwV 1 hts gX12_next_X12_isHeap rfl rfl rfl hd_yX12_isHeap ⟨Nat.le_of_ble_eq_true rfl, Nat.le_of_ble_eq_true rfl⟩) ⟨fun a U g mk q => by obtain ⟨q0, qP, qK⟩ := q; exact ⟨q0, mvP g mk a qP, mvK g mk a qK⟩, va_recv hK hP (ci := 14) (q := (RX12, TX12, 23)) (q0 := 0) rfl rfl, fun U hU hW => ⟨rfl, by rw [hU]; exact hPc, va_K.moved hW.alike hKc⟩⟩ rfl rfl hl.1 rfl (lv_room (Nat.le_of_ble_eq_true rfl)) dX12_next_18 ⟨Nat.le_of_ble_eq_true rfl, Nat.le_of_ble_eq_true rfl⟩).run (fun r_13 hw_14 => ?_)
      rcases hw_14 with ⟨rfl, j_15, hj_16, rfl⟩ | ⟨rfl, h_17⟩
      · skip
        refine lv_if_ne (tgt := 26) hx hb dX12_next_21 (by decide) (fun _ => ?_) (fun c_18 => absurd c_18 (by decide))
        refine lv_aload_n hx hb dX12_next_26 rfl (lv_at hl 0 rfl) ?_
        refine va_get (D := (dC, dI)) (ci := 14) (v := .ref aS) (C := RX12) (T := TX12) (N := 23) hx hb hts kc_mNext_0 hown hK hP 0 rfl rfl 1 (by decide) (hts (.fieldLink RX12 9 "MistHeapsModel" "s" "[I") kc_mNext_1) (fun _ h9 => h9) rfl dX12_next_27 ?_
        refine lv_bipush (v := 28) hx hb dX12_next_30 (by decide) ?_
        refine lv_iload_n hx hb dX12_next_32 rfl (lv_at hl 1 rfl) ?_
        refine lv_iadd hx hb dX12_next_33 ?_
        refine qi_as (y := nI (28 + j_3)) (nI_add 28 j_3) ?_
        refine va_iald hx hb hK hP 1 0 rfl rfl (vp_in_nI (n := 28 + j_3) (N := 901) (by omega) (by omega)) dX12_next_34 ?_
        refine qi_as (y := yc j_3) ((show fS (nI (28 + j_3) : Int32).toNatClampNeg = fS (28 + j_3) from by rw [nI_clamp (by omega)]).trans (zc j_3 (by omega))) ?_
        refine lv_istore (lv' := [(4, .int (yc j_3)), (0, .ref m0), (1, .int (nI j_3)), (2, .int (nI j_9)), (3, .int (nI j_15))]) hx hb dX12_next_35 hl (by decide) rfl (fun ls hl => ?_)
        refine lv_aload_n hx hb dX12_next_37 rfl (lv_at hl 1 rfl) ?_
        refine va_get (D := (dC, dI)) (ci := 14) (v := .ref aS) (C := RX12) (T := TX12) (N := 23) hx hb hts kc_mNext_0 hown hK hP 0 rfl rfl 1 (by decide) (hts (.fieldLink RX12 9 "MistHeapsModel" "s" "[I") kc_mNext_1) (fun _ h9 => h9) rfl dX12_next_38 ?_
        refine lv_bipush (v := 28) hx hb dX12_next_41 (by decide) ?_
        refine lv_iload_n hx hb dX12_next_43 rfl (lv_at hl 3 rfl) ?_
        refine lv_iadd hx hb dX12_next_44 ?_
        refine qi_as (y := nI (28 + j_9)) (nI_add 28 j_9) ?_
        refine va_iald hx hb hK hP 1 0 rfl rfl (vp_in_nI (n := 28 + j_9) (N := 901) (by omega) (by omega)) dX12_next_45 ?_
        refine qi_as (y := yc j_9) ((show fS (nI (28 + j_9) : Int32).toNatClampNeg = fS (28 + j_9) from by rw [nI_clamp (by omega)]).trans (zc j_9 (by omega))) ?_
        refine lv_istore (lv' := [(5, .int (yc j_9)), (4, .int (yc j_3)), (0, .ref m0), (1, .int (nI j_3)), (2, .int (nI j_9)), (3, .int (nI j_15))]) hx hb dX12_next_46 hl (by decide) rfl (fun ls hl => ?_)
        refine lv_aload_n hx hb dX12_next_48 rfl (lv_at hl 2 rfl) ?_
        refine va_get (D := (dC, dI)) (ci := 14) (v := .ref aS) (C := RX12) (T := TX12) (N := 23) hx hb hts kc_mNext_0 hown hK hP 0 rfl rfl 1 (by decide) (hts (.fieldLink RX12 9 "MistHeapsModel" "s" "[I") kc_mNext_1) (fun _ h9 => h9) rfl dX12_next_49 ?_
        refine lv_bipush (v := 28) hx hb dX12_next_52 (by decide) ?_
        refine lv_iload_n hx hb dX12_next_54 rfl (lv_at hl 5 rfl) ?_
        refine lv_iadd hx hb dX12_next_55 ?_
        refine qi_as (y := nI (28 + j_15)) (nI_add 28 j_15) ?_
        refine va_iald hx hb hK hP 1 0 rfl rfl (vp_in_nI (n := 28 + j_15) (N := 901) (by omega) (by omega)) dX12_next_56 ?_
        refine qi_as (y := yc j_15) ((show fS (nI (28 + j_15) : Int32).toNatClampNeg = fS (28 + j_15) from by rw [nI_clamp (by omega)]).trans (zc j_15 (by omega))) ?_
        refine lv_istore (lv' := [(6, .int (yc j_15)), (5, .int (yc j_9)), (4, .int (yc j_3)), (0, .ref m0), (1, .int (nI j_3)), (2, .int (nI j_9)), (3, .int (nI j_15))]) hx hb dX12_next_57 hl (by decide) rfl (fun ls hl => ?_)
        refine lv_iconst (v := 3) hx hb dX12_next_59 (by decide) ?_
        refine lv_iload hx hb dX12_next_60 (lv_at hl 0 rfl) ?_
        refine lv_bipush (v := 6) hx hb dX12_next_62 (by decide) ?_
        refine lv_idiv hx hb dX12_next_64 (by decide) ?_
        refine lv_imul hx hb dX12_next_65 ?_
        refine lv_iconst (v := 3) hx hb dX12_next_66 (by decide) ?_
        refine lv_iload hx hb dX12_next_67 (lv_at hl 1 rfl) ?_
        refine lv_bipush (v := 6) hx hb dX12_next_69 (by decide) ?_
        refine lv_idiv hx hb dX12_next_71 (by decide) ?_
        refine lv_imul hx hb dX12_next_72 ?_
        refine lv_isub hx hb dX12_next_73 ?_
        refine lv_iload hx hb dX12_next_74 (lv_at hl 2 rfl) ?_
        refine lv_bipush (v := 6) hx hb dX12_next_76 (by decide) ?_
        refine lv_idiv hx hb dX12_next_78 (by decide) ?_
        refine lv_iadd hx hb dX12_next_79 ?_
        refine lv_istore (lv' := [(7, .int (((3 * ((yc j_15) / 6)) - (3 * ((yc j_9) / 6))) + ((yc j_3) / 6))), (6, .int (yc j_15)), (5, .int (yc j_9)), (4, .int (yc j_3)), (0, .ref m0), (1, .int (nI j_3)), (2, .int (nI j_9)), (3, .int (nI j_15))]) hx hb dX12_next_80 hl (by decide) rfl (fun ls hl => ?_)
        refine lv_iconst (v := 3) hx hb dX12_next_82 (by decide) ?_
        refine lv_iload hx hb dX12_next_83 (lv_at hl 1 rfl) ?_
        refine lv_bipush (v := 6) hx hb dX12_next_85 (by decide) ?_
        refine lv_irem hx hb dX12_next_87 (by decide) ?_
        refine lv_imul hx hb dX12_next_88 ?_
        refine lv_iconst (v := 3) hx hb dX12_next_89 (by decide) ?_
        refine lv_iload hx hb dX12_next_90 (lv_at hl 2 rfl) ?_
        refine lv_bipush (v := 6) hx hb dX12_next_92 (by decide) ?_
        refine lv_irem hx hb dX12_next_94 (by decide) ?_
        refine lv_imul hx hb dX12_next_95 ?_
        refine lv_isub hx hb dX12_next_96 ?_
        refine lv_iload hx hb dX12_next_97 (lv_at hl 3 rfl) ?_
        refine lv_bipush (v := 6) hx hb dX12_next_99 (by decide) ?_
        refine lv_irem hx hb dX12_next_101 (by decide) ?_
        refine lv_iadd hx hb dX12_next_102 ?_
        refine lv_istore (lv' := [(8, .int (((3 * ((yc j_15) - (yc j_15) / 6 * 6)) - (3 * ((yc j_9) - (yc j_9) / 6 * 6))) + ((yc j_3) - (yc j_3) / 6 * 6))), (7, .int (((3 * ((yc j_15) / 6)) - (3 * ((yc j_9) / 6))) + ((yc j_3) / 6))), (6, .int (yc j_15)), (5, .int (yc j_9)), (4, .int (yc j_3)), (0, .ref m0), (1, .int (nI j_3)), (2, .int (nI j_9)), (3, .int (nI j_15))]) hx hb dX12_next_103 hl (by decide) rfl (fun ls hl => ?_)
        refine lv_iload hx hb dX12_next_105 (lv_at hl 1 rfl) ?_
        refine lv_iconst (v := 0) hx hb dX12_next_107 (by decide) ?_
        refine lv_iconst (v := 5) hx hb dX12_next_108 (by decide) ?_
        refine vp_callSi (va_runS (As := [.int (((3 * ((yc j_15) / 6)) - (3 * ((yc j_9) / 6))) + ((yc j_3) / 6)), .int 0, .int 5]) (rest := []) ⟨hx, hb, hml, hown, hts⟩ (c_in l dC dI (((3 * ((yc j_15) / 6)) - (3 * ((yc j_9) / 6))) + ((yc j_3) / 6)) 0 5) (va_cwS 3 hts gX12_next_X12_in rfl rfl rfl hd_yX12_in.2 ⟨Nat.le_of_ble_eq_true rfl, Nat.le_of_ble_eq_true rfl⟩) ⟨fun a U g mk q => ⟨q.1, trivial⟩, fun U hU hW => ⟨rfl, trivial⟩⟩ rfl rfl hl.1 rfl (lv_room (Nat.le_of_ble_eq_true rfl)) dX12_next_109 ⟨Nat.le_of_ble_eq_true rfl, Nat.le_of_ble_eq_true rfl⟩).run (fun r_19 hw_20 => ?_)
        rcases hw_20 with ⟨rfl, h_21, h_22⟩ | ⟨rfl, h_23⟩
        · skip
          refine lv_if_eq (tgt := 136) hx hb dX12_next_112 (by decide) (fun c_24 => absurd c_24 (by decide)) (fun _ => ?_)
          refine lv_iload hx hb dX12_next_115 (lv_at hl 0 rfl) ?_
          refine lv_iconst (v := 0) hx hb dX12_next_117 (by decide) ?_
          refine lv_iconst (v := 5) hx hb dX12_next_118 (by decide) ?_
          refine vp_callSi (va_runS (As := [.int (((3 * ((yc j_15) - (yc j_15) / 6 * 6)) - (3 * ((yc j_9) - (yc j_9) / 6 * 6))) + ((yc j_3) - (yc j_3) / 6 * 6)), .int 0, .int 5]) (rest := []) ⟨hx, hb, hml, hown, hts⟩ (c_in l dC dI (((3 * ((yc j_15) - (yc j_15) / 6 * 6)) - (3 * ((yc j_9) - (yc j_9) / 6 * 6))) + ((yc j_3) - (yc j_3) / 6 * 6)) 0 5) (va_cwS 3 hts gX12_next_X12_in rfl rfl rfl hd_yX12_in.2 ⟨Nat.le_of_ble_eq_true rfl, Nat.le_of_ble_eq_true rfl⟩) ⟨fun a U g mk q => ⟨q.1, trivial⟩, fun U hU hW => ⟨rfl, trivial⟩⟩ rfl rfl hl.1 rfl (lv_room (Nat.le_of_ble_eq_true rfl)) dX12_next_119 ⟨Nat.le_of_ble_eq_true rfl, Nat.le_of_ble_eq_true rfl⟩).run (fun r_25 hw_26 => ?_)
          rcases hw_26 with ⟨rfl, h_27, h_28⟩ | ⟨rfl, h_29⟩
          · skip
            refine lv_if_eq (tgt := 136) hx hb dX12_next_122 (by decide) (fun c_30 => absurd c_30 (by decide)) (fun _ => ?_)
            refine lv_bipush (v := 6) hx hb dX12_next_125 (by decide) ?_
            refine lv_iload hx hb dX12_next_127 (lv_at hl 1 rfl) ?_
            refine lv_imul hx hb dX12_next_129 ?_
            refine lv_iload hx hb dX12_next_130 (lv_at hl 0 rfl) ?_
            refine lv_iadd hx hb dX12_next_132 ?_
            refine lv_goto (tgt := 138) hx hb dX12_next_133 (by decide) ?_
            rw [hQ]
            exact W.iret (v := (6 * (((3 * ((yc j_15) / 6)) - (3 * ((yc j_9) / 6))) + ((yc j_3) / 6))) + (((3 * ((yc j_15) - (yc j_15) / 6 * 6)) - (3 * ((yc j_9) - (yc j_9) / 6 * 6))) + ((yc j_3) - (yc j_3) / 6 * 6))) hx hb hr (fun tQ htQ hWQ => ⟨(6 * (((3 * ((yc j_15) / 6)) - (3 * ((yc j_9) / 6))) + ((yc j_3) / 6))) + (((3 * ((yc j_15) - (yc j_15) / 6 * 6)) - (3 * ((yc j_9) - (yc j_9) / 6 * 6))) + ((yc j_3) - (yc j_3) / 6 * 6)), rfl, (nx_in hn (by omega) (by omega) (by omega) (by assumption) (by assumption) (by assumption) (by assumption)), by rw [htQ]⟩) (fun q hq => absurd hq List.not_mem_nil) dX12_next_138
          · skip
            refine lv_if_eq (tgt := 136) hx hb dX12_next_122 (by decide) (fun _ => ?_) (fun c_31 => absurd c_31 (by decide))
            refine lv_bipush (v := (-5)) hx hb dX12_next_136 (by decide) ?_
            rw [hQ]
            exact W.iret (v := (-5)) hx hb hr (fun tQ htQ hWQ => ⟨(-5), rfl, (nx_off hn (by omega) (by omega) (by omega) (by first | exact Or.inl (by assumption) | exact Or.inr (by assumption))), by rw [htQ]⟩) (fun q hq => absurd hq List.not_mem_nil) dX12_next_138
        · skip
          refine lv_if_eq (tgt := 136) hx hb dX12_next_112 (by decide) (fun _ => ?_) (fun c_32 => absurd c_32 (by decide))
          refine lv_bipush (v := (-5)) hx hb dX12_next_136 (by decide) ?_
          rw [hQ]
          exact W.iret (v := (-5)) hx hb hr (fun tQ htQ hWQ => ⟨(-5), rfl, (nx_off hn (by omega) (by omega) (by omega) (by first | exact Or.inl (by assumption) | exact Or.inr (by assumption))), by rw [htQ]⟩) (fun q hq => absurd hq List.not_mem_nil) dX12_next_138
      · skip
        refine lv_if_ne (tgt := 26) hx hb dX12_next_21 (by decide) (fun c_33 => absurd c_33 (by decide)) (fun _ => ?_)
        refine lv_iconst (v := (-1)) hx hb dX12_next_24 (by decide) ?_
        rw [hQ]
        exact W.iret (v := (-1)) hx hb hr (fun tQ htQ hWQ => ⟨(-1), rfl, by first | exact nx_no1 (by assumption) | exact nx_no2 (by assumption) | exact nx_no3 (by assumption), by rw [htQ]⟩) (fun q hq => absurd hq List.not_mem_nil) dX12_next_25
    · skip
      refine lv_if_eq (tgt := 24) hx hb dX12_next_13 (by decide) (fun _ => ?_) (fun c_34 => absurd c_34 (by decide))
      refine lv_iconst (v := (-1)) hx hb dX12_next_24 (by decide) ?_
      rw [hQ]
      exact W.iret (v := (-1)) hx hb hr (fun tQ htQ hWQ => ⟨(-1), rfl, by first | exact nx_no1 (by assumption) | exact nx_no2 (by assumption) | exact nx_no3 (by assumption), by rw [htQ]⟩) (fun q hq => absurd hq List.not_mem_nil) dX12_next_25
  · skip
    refine lv_if_eq (tgt := 24) hx hb dX12_next_5 (by decide) (fun _ => ?_) (fun c_35 => absurd c_35 (by decide))
    refine lv_iconst (v := (-1)) hx hb dX12_next_24 (by decide) ?_
    rw [hQ]
    exact W.iret (v := (-1)) hx hb hr (fun tQ htQ hWQ => ⟨(-1), rfl, by first | exact nx_no1 (by assumption) | exact nx_no2 (by assumption) | exact nx_no3 (by assumption), by rw [htQ]⟩) (fun q hq => absurd hq List.not_mem_nil) dX12_next_25

theorem kc_mLooked_0 : ∀ w ∈ wsX120, w ∈ wsX12_looked := fun w h => List.mem_cons_of_mem _ (gin_wsX120 w h)
theorem kc_mLooked_1 : (.fieldLink RX12 9 "MistHeapsModel" "s" "[I" : Cond) ∈ wsX12_looked := kc_of 1141 rfl rfl rfl
set_option maxHeartbeats 4000000 in
set_option maxRecDepth 100000 in
theorem c_mLooked (l : Launch) (dC : Nat → ClassId) (dI : Nat → Nat → Nat) (m0 aS aI aB aT aG aO aN aD aY : Nat) (th im ac sp en wg op se dn rn kd nu tv : Int32) (bv : Int64) (cS cB cT : ClassId) (fS : Nat → Int32) (fB : Nat → Int32) (fT : Nat → Int32) (kb : Nat) (cz : List pCla) (sz : Nat) (zh : hol fS cz) (zk : fS 3 = nI kb) (hk12 : kb ≤ 12) (zb : ∀ i, i < 12 → ∃ j : Nat, j < 8 ∧ fS (79 + i) = nI j) : Met l yX12_looked wsX12_looked ({ frames := 4, cells := 0, slots := 0, locals := 103 } : Room) (va_Pc [.ref m0] (fun U => U.heap.size = sz ∧ va_P (dC, dI) vwCl [(zo14irriiiiiirriirrrrlriiii m0 th aS aI im ac sp en wg op aB aT se dn aG aO aN aD bv aY rn kd nu tv), (zaI aS cS 901 fS), (zaI aB cB 6 fB), (zaI aT cT 64 fT)] U.heap ∧ va_K (dC, dI) vwCl [(cS, .int), (cB, .int), (cT, .boolean)] U ∧ va_D (fun _ => True) [(zo14irriiiiiirriirrrrlriiii m0 th aS aI im ac sp en wg op aB aT se dn aG aO aN aD bv aY rn kd nu tv), (zaI aS cS 901 fS), (zaI aB cB 6 fB), (zaI aT cT 64 fT)])) (va_Qi (fun (r : Int32) (u : (Nat → Int32) × (Nat → Int32) × (Int32) × (Int32)) => match u with | (fB9, fT9, se9, dn9) => True) (fun (u : (Nat → Int32) × (Nat → Int32) × (Int32) × (Int32)) (t : State) => match u with | (fB9, fT9, se9, dn9) => va_P (dC, dI) vwCl [(zo14irriiiiiirriirrrrlriiii m0 th aS aI im ac sp en wg op aB aT se9 dn9 aG aO aN aD bv aY rn kd nu tv), (zaI aS cS 901 fS), (zaI aB cB 6 fB9), (zaI aT cT 64 fT9)] t.heap ∧ va_K (dC, dI) vwCl [(cS, .int), (cB, .int), (cT, .boolean)] t ∧ va_D (va_A [(zo14irriiiiiirriirrrrlriiii m0 th aS aI im ac sp en wg op aB aT se dn aG aO aN aD bv aY rn kd nu tv), (zaI aS cS 901 fS), (zaI aB cB 6 fB), (zaI aT cT 64 fT)] sz) [(zo14irriiiiiirriirrrrlriiii m0 th aS aI im ac sp en wg op aB aT se9 dn9 aG aO aN aD bv aY rn kd nu tv), (zaI aS cS 901 fS), (zaI aB cB 6 fB9), (zaI aT cT 64 fT9)]) (va_A [(zo14irriiiiiirriirrrrlriiii m0 th aS aI im ac sp en wg op aB aT se dn aG aO aN aD bv aY rn kd nu tv), (zaI aS cS 901 fS), (zaI aB cB 6 fB), (zaI aT cT 64 fT)] sz)) 0 0 (va_A [(zo14irriiiiiirriirrrrlriiii m0 th aS aI im ac sp en wg op aB aT se dn aG aO aN aD bv aY rn kd nu tv), (zaI aS cS 901 fS), (zaI aB cB 6 fB), (zaI aT cT 64 fT)] sz) := by
  refine met_ofQ (cc := cX12_looked) (maxL := 2) (ret := (some .int)) (by decide) rfl ?_
  intro p e s m args below meth c s₁ Q B hml hv hQ
  obtain ⟨rfl, hsz, hP, hK, hD0⟩ := hv
  have hx := B.exec
  have hb := B.bytes
  have hr := B.returns
  have hts := atoms_spec (ws := wsX12_looked) B.pre
  have hown : s.vm.findClass RX12 = some m.cls := findClass_of_methodNamed B.named
  have hlocks := B.notSynchronized
  subst hsz
  have hD := hD0.self (sz := s.heap.size)
  generalize hAe : va_A [(zo14irriiiiiirriirrrrlriiii m0 th aS aI im ac sp en wg op aB aT se dn aG aO aN aD bv aY rn kd nu tv), (zaI aS cS 901 fS), (zaI aB cB 6 fB), (zaI aT cT 64 fT)] s.heap.size = A at hD hQ ⊢
  have hA : ∀ q : Nat, s.heap.size ≤ q → A q := fun q h => by rw [← hAe]; exact Or.inr h
  have hS : va_S A s.heap s.heap [] := va_S.rf
  have hl := lv_entry [.ref m0] (n := 2) (Nat.le_of_ble_eq_true rfl)
  rw [lg_entry_eq]
  generalize (lg_sl [.ref m0] ++ List.replicate (2 - (lg_sl [.ref m0]).length) Slot.unset).toArray = ls at hl ⊢
  generalize hag : ([.ref m0] : List Value).toArray = args at hts hQ ⊢
  have hl : lv_has ls 2 [(0, .ref m0)] := hl
  obtain ⟨H, hH⟩ : ∃ H : Heap, H = s.heap := ⟨_, rfl⟩
  rw [← hH] at hP
  rw [← hH]
  have hS : va_S A s.heap H [] := by rw [hH]; exact hS
  obtain ⟨locs, hlo⟩ : ∃ L : List Loc, L = [] := ⟨_, rfl⟩
  rw [← hlo] at hS
  rw [← hlo]
  clear hH hlo
  refine lv_iconst (v := 1) hx hb dX12_looked_0 (by decide) ?_
  refine lv_istore_n (lv' := [(1, .int 1), (0, .ref m0)]) hx hb dX12_looked_1 rfl hl (by decide) rfl (fun ls hl => ?_)
  have L2 : ∀ (nF : Nat) (i : Nat) (se2 : Int32) (dn2 : Int32) (fB2 : Nat → Int32) (fT2 : Nat → Int32), kb + 1 - i < nF → (1 ≤ i ∧ i ≤ kb + 1) → ∀ (H : Heap) (locs : List Loc), va_K (dC, dI) vwCl [(cS, .int), (cB, .int), (cT, .boolean)] s → va_P (dC, dI) vwCl [(zo14irriiiiiirriirrrrlriiii m0 th aS aI im ac sp en wg op aB aT se2 dn2 aG aO aN aD bv aY rn kd nu tv), (zaI aS cS 901 fS), (zaI aB cB 6 fB2), (zaI aT cT 64 fT2)] H → va_D A [(zo14irriiiiiirriirrrrlriiii m0 th aS aI im ac sp en wg op aB aT se2 dn2 aG aO aN aD bv aY rn kd nu tv), (zaI aS cS 901 fS), (zaI aB cB 6 fB2), (zaI aT cT 64 fT2)] → va_S A s.heap H locs → ∀ (ls : Array Slot), lv_has ls 2 [(0, .ref m0), (1, .int (nI i))] → W p l e ({ frames := 4, cells := 0, slots := 0, locals := 103 } : Room) s m args below meth c H locs 0 0 Q (F0 m 2 ls []) := by
    intro nF
    induction nF with
    | zero => intro i se2 dn2 fB2 fT2 hm; exact absurd hm (Nat.not_lt_zero _)
    | succ nF ih2 =>
      intro i se2 dn2 fB2 fT2 hm hi H locs hK hP hD hS ls hl
      obtain ⟨hi1, hi2⟩ := hi
      refine lv_iload_n hx hb dX12_looked_2 rfl (lv_at hl 1 rfl) ?_
      refine lv_aload_n hx hb dX12_looked_3 rfl (lv_at hl 0 rfl) ?_
      refine va_get (D := (dC, dI)) (ci := 14) (v := .ref aS) (C := RX12) (T := TX12) (N := 23) hx hb hts kc_mLooked_0 hown hK hP 0 rfl rfl 1 (by decide) (hts (.fieldLink RX12 9 "MistHeapsModel" "s" "[I") kc_mLooked_1) (fun _ h9 => h9) rfl dX12_looked_4 ?_
      refine lv_iconst (v := 3) hx hb dX12_looked_7 (by decide) ?_
      refine va_iald hx hb hK hP 1 0 rfl rfl (vp_in_nI (n := 3) (N := 901) (by omega) (by omega)) dX12_looked_8 ?_
      refine qi_as (y := nI kb) ((show fS (3 : Int32).toNatClampNeg = fS 3 from rfl).trans (zk)) ?_
      refine lv_icmp_ge (tgt := 47) hx hb dX12_looked_9 (by decide) (fun c_1 => ?_) (fun c_1 => ?_)
      · skip
        have c_1 : kb ≤ i := (nI_leI (a := kb) (b := i) (by omega) (by omega)).mp c_1
        refine lv_bipush (v := (-5)) hx hb dX12_looked_47 (by decide) ?_
        rw [hQ]
        have hP9 := hP.sub (ws' := [(zo14irriiiiiirriirrrrlriiii m0 th aS aI im ac sp en wg op aB aT se2 dn2 aG aO aN aD bv aY rn kd nu tv), (zaI aS cS 901 fS), (zaI aB cB 6 fB2), (zaI aT cT 64 fT2)]) [0, 1, 2, 3] rfl
        have hD9 := hD.sub (ws' := [(zo14irriiiiiirriirrrrlriiii m0 th aS aI im ac sp en wg op aB aT se2 dn2 aG aO aN aD bv aY rn kd nu tv), (zaI aS cS 901 fS), (zaI aB cB 6 fB2), (zaI aT cT 64 fT2)]) [0, 1, 2, 3] (by decide) rfl
        have hK9 := hK.sub (tys' := [(cS, .int), (cB, .int), (cT, .boolean)]) [0, 1, 2] rfl
        exact W.iret (v := (-5)) hx hb hr (fun tQ htQ hWQ => ⟨⟨(-5), (fB2, fT2, se2, dn2), rfl, trivial, by rw [htQ]; exact hP9, va_K.moved hWQ.alike hK9, hD9⟩, hS.F htQ⟩) hS.2.2 dX12_looked_49
      · skip
        have c_1 : ¬ kb ≤ i := fun q => c_1 ((nI_leI (a := kb) (b := i) (by omega) (by omega)).mpr q)
        refine lv_aload_n hx hb dX12_looked_12 rfl (lv_at hl 0 rfl) ?_
        refine lv_aload_n hx hb dX12_looked_13 rfl (lv_at hl 0 rfl) ?_
        refine va_get (D := (dC, dI)) (ci := 14) (v := .ref aS) (C := RX12) (T := TX12) (N := 23) hx hb hts kc_mLooked_0 hown hK hP 0 rfl rfl 1 (by decide) (hts (.fieldLink RX12 9 "MistHeapsModel" "s" "[I") kc_mLooked_1) (fun _ h9 => h9) rfl dX12_looked_14 ?_
        refine lv_bipush (v := 79) hx hb dX12_looked_17 (by decide) ?_
        refine lv_iload_n hx hb dX12_looked_19 rfl (lv_at hl 1 rfl) ?_
        refine lv_iadd hx hb dX12_looked_20 ?_
        refine qi_as (y := nI (79 + i)) (nI_add 79 i) ?_
        refine lv_iconst (v := 1) hx hb dX12_looked_21 (by decide) ?_
        refine lv_isub hx hb dX12_looked_22 ?_
        refine qi_as (y := nI ((79 + i) - 1)) (pk_sub (a := 79 + i) (b := 1) (by omega)) ?_
        refine va_iald hx hb hK hP 1 0 rfl rfl (vp_in_nI (n := (79 + i) - 1) (N := 901) (by omega) (by omega)) dX12_looked_23 ?_
        obtain ⟨j1, hj1, e1⟩ := zb (i - 1) (by omega)
        refine qi_as (y := nI j1) ((show fS (nI ((79 + i) - 1) : Int32).toNatClampNeg = fS ((79 + i) - 1) from by rw [nI_clamp (by omega)]).trans ((congrArg fS (show 79 + i - 1 = 79 + (i - 1) by omega)).trans e1)) ?_
        refine lv_aload_n hx hb dX12_looked_24 rfl (lv_at hl 0 rfl) ?_
        refine va_get (D := (dC, dI)) (ci := 14) (v := .ref aS) (C := RX12) (T := TX12) (N := 23) hx hb hts kc_mLooked_0 hown hK hP 0 rfl rfl 1 (by decide) (hts (.fieldLink RX12 9 "MistHeapsModel" "s" "[I") kc_mLooked_1) (fun _ h9 => h9) rfl dX12_looked_25 ?_
        refine lv_bipush (v := 79) hx hb dX12_looked_28 (by decide) ?_
        refine lv_iload_n hx hb dX12_looked_30 rfl (lv_at hl 1 rfl) ?_
        refine lv_iadd hx hb dX12_looked_31 ?_
        refine qi_as (y := nI (79 + i)) (nI_add 79 i) ?_
        refine va_iald hx hb hK hP 1 0 rfl rfl (vp_in_nI (n := 79 + i) (N := 901) (by omega) (by omega)) dX12_looked_32 ?_
        obtain ⟨j2, hj2, e2⟩ := zb i (by omega)
        refine qi_as (y := nI j2) ((show fS (nI (79 + i) : Int32).toNatClampNeg = fS (79 + i) from by rw [nI_clamp (by omega)]).trans (e2)) ?_
        have hPc := hP.sub (ws' := [(zo14irriiiiiirriirrrrlriiii m0 th aS aI im ac sp en wg op aB aT se2 dn2 aG aO aN aD bv aY rn kd nu tv), (zaI aS cS 901 fS), (zaI aB cB 6 fB2), (zaI aT cT 64 fT2)]) [0, 1, 2, 3] rfl
        have hDc := hD.sub (ws' := [(zo14irriiiiiirriirrrrlriiii m0 th aS aI im ac sp en wg op aB aT se2 dn2 aG aO aN aD bv aY rn kd nu tv), (zaI aS cS 901 fS), (zaI aB cB 6 fB2), (zaI aT cT 64 fT2)]) [0, 1, 2, 3] (by decide) rfl
        have hKc := hK.sub (tys' := [(cS, .int), (cB, .int), (cT, .boolean)]) [0, 1, 2] rfl
        have hFc := va_free (wc := [(zo14irriiiiiirriirrrrlriiii m0 th aS aI im ac sp en wg op aB aT se2 dn2 aG aO aN aD bv aY rn kd nu tv), (zaI aS cS 901 fS), (zaI aB cB 6 fB2), (zaI aT cT 64 fT2)]) hD hS hA [0, 1, 2, 3] rfl
        refine va_calli (va_runV (As := [.int (nI j1), .int (nI j2)]) (rest := []) ⟨hx, hb, hml, hown, hts⟩ (c_doesGo l dC dI m0 aS aI aB aT aG aO aN aD aY th im ac sp en wg op se2 dn2 rn kd nu tv bv cS cB cT fS fB2 fT2 j1 j2 cz H.size (by omega) (by omega) (zh)) (cwV 2 hts gX12_looked_X12_doesGo rfl rfl rfl hd_yX12_doesGo ⟨Nat.le_of_ble_eq_true rfl, Nat.le_of_ble_eq_true rfl⟩) ⟨fun a U g mk q => by obtain ⟨q0, q1, qP, qK, qD⟩ := q; exact ⟨q0, mvz g mk a q1, mvP g mk a qP, mvK g mk a qK, qD⟩, va_recv hK hP (ci := 14) (q := (RX12, TX12, 23)) (q0 := 0) rfl rfl, fun U hU hW => ⟨rfl, by rw [hU], by rw [hU]; exact hPc, va_K.moved hW.alike hKc, hDc.weaken (fun _ _ _ _ => trivial)⟩⟩ rfl rfl hl.1 rfl (lv_room (Nat.le_of_ble_eq_true rfl)) dX12_looked_33 ⟨Nat.le_of_ble_eq_true rfl, Nat.le_of_ble_eq_true rfl⟩) hS (fun q _ h => hFc q h) hFc (fun r_2 u tC H1 locs htC hvm hw_3 hB hz1 hk1 hS => ?_)
        obtain ⟨fB9_4, fT9_5, se9_6, dn9_7⟩ := u
        try dsimp only at hw_3 hB
        obtain ⟨hP1, hK1, hD1⟩ := hB
        rw [htC] at hP1
        have hK1 := va_K.moved hvm.symm hK1
        obtain ⟨hP, hD⟩ := va_join (wr := []) (w1 := [(zo14irriiiiiirriirrrrlriiii m0 th aS aI im ac sp en wg op aB aT se9_6 dn9_7 aG aO aN aD bv aY rn kd nu tv), (zaI aS cS 901 fS), (zaI aB cB 6 fB9_4), (zaI aT cT 64 fT9_5)]) hP hD [0, 1, 2, 3] [] rfl rfl (by decide) (by decide) hk1 hFc hP1 hD1
        have hK := (hK.sub (tys' := []) [] rfl).app hK1
        generalize H1 = H at hP hS ⊢
        have hP : va_P (dC, dI) vwCl [(zo14irriiiiiirriirrrrlriiii m0 th aS aI im ac sp en wg op aB aT se9_6 dn9_7 aG aO aN aD bv aY rn kd nu tv), (zaI aS cS 901 fS), (zaI aB cB 6 fB9_4), (zaI aT cT 64 fT9_5)] H := hP
        have hD : va_D A [(zo14irriiiiiirriirrrrlriiii m0 th aS aI im ac sp en wg op aB aT se9_6 dn9_7 aG aO aN aD bv aY rn kd nu tv), (zaI aS cS 901 fS), (zaI aB cB 6 fB9_4), (zaI aT cT 64 fT9_5)] := hD
        have hK : va_K (dC, dI) vwCl [(cS, .int), (cB, .int), (cT, .boolean)] s := hK
        rcases hw_3 with ⟨rfl, hd_8⟩ | ⟨rfl, hd_8⟩
        · skip
          refine lv_if_ne (tgt := 41) hx hb dX12_looked_36 (by decide) (fun _ => ?_) (fun c_9 => absurd c_9 (by decide))
          refine lv_iinc (v := nI (i + 1)) (lv' := [(1, .int (nI (i + 1))), (0, .ref m0)]) hx hb dX12_looked_41 hl (k := 1) rfl (nI_add i 1) (by decide) rfl (fun ls hl => ?_)
          refine lv_goto (tgt := 2) hx hb dX12_looked_44 (by decide) ?_
          exact ih2 (i + 1) _ _ _ _ (by omega) (by omega) _ _ (hK.sub [0, 1, 2] rfl) (hP.sub [0, 1, 2, 3] rfl) (hD.sub [0, 1, 2, 3] (by decide) rfl) hS ls (lv_sub hl [1, 0] rfl)
        · skip
          refine lv_if_ne (tgt := 41) hx hb dX12_looked_36 (by decide) (fun c_10 => absurd c_10 (by decide)) (fun _ => ?_)
          refine lv_iload_n hx hb dX12_looked_39 rfl (lv_at hl 1 rfl) ?_
          rw [hQ]
          have hP9 := hP.sub (ws' := [(zo14irriiiiiirriirrrrlriiii m0 th aS aI im ac sp en wg op aB aT se9_6 dn9_7 aG aO aN aD bv aY rn kd nu tv), (zaI aS cS 901 fS), (zaI aB cB 6 fB9_4), (zaI aT cT 64 fT9_5)]) [0, 1, 2, 3] rfl
          have hD9 := hD.sub (ws' := [(zo14irriiiiiirriirrrrlriiii m0 th aS aI im ac sp en wg op aB aT se9_6 dn9_7 aG aO aN aD bv aY rn kd nu tv), (zaI aS cS 901 fS), (zaI aB cB 6 fB9_4), (zaI aT cT 64 fT9_5)]) [0, 1, 2, 3] (by decide) rfl
          have hK9 := hK.sub (tys' := [(cS, .int), (cB, .int), (cT, .boolean)]) [0, 1, 2] rfl
          exact W.iret (v := nI i) hx hb hr (fun tQ htQ hWQ => ⟨⟨(nI i), (fB9_4, fT9_5, se9_6, dn9_7), rfl, trivial, by rw [htQ]; exact hP9, va_K.moved hWQ.alike hK9, hD9⟩, hS.F htQ⟩) hS.2.2 dX12_looked_40
  exact L2 _ (1) _ _ _ _ (Nat.lt_succ_self _) (by omega) _ _ (hK.sub [0, 1, 2] rfl) (hP.sub [0, 1, 2, 3] rfl) (hD.sub [0, 1, 2, 3] (by decide) rfl) hS ls (lv_sub hl [1, 0] rfl)

set_option maxHeartbeats 4000000 in
set_option maxRecDepth 100000 in
theorem c_under (l : Launch) (dC : Nat → ClassId) (dI : Nat → Nat → Nat) (x y : Int32) : Met l yX12_isUnder wsX12_isUnder ({ frames := 0, cells := 0, slots := 0, locals := 0 } : Room) (va_Pc [.int x, .int y] (fun U => True)) (vp_Si (fun r => (r = 1 ∧ isU x y) ∨ (r = 0 ∧ ¬ isU x y))) 0 0 (fun _ => False) := by
  refine met_ofQ (cc := cX12_isUnder) (maxL := 2) (ret := (some .boolean)) (by decide) rfl ?_
  intro p e s m args below meth c s₁ Q B hml hv hQ
  obtain ⟨rfl, -⟩ := hv
  have hx := B.exec
  have hb := B.bytes
  have hr := B.returns
  have hts := atoms_spec (ws := wsX12_isUnder) B.pre
  have hown : s.vm.findClass RX12 = some m.cls := findClass_of_methodNamed B.named
  have hlocks := B.notSynchronized
  obtain ⟨A, hAe⟩ : ∃ A : Nat → Prop, A = fun _ => False := ⟨_, rfl⟩
  rw [← hAe] at hQ
  have hS : va_S A s.heap s.heap [] := va_S.rf
  have hl := lv_entry [.int x, .int y] (n := 2) (Nat.le_of_ble_eq_true rfl)
  rw [lg_entry_eq]
  generalize (lg_sl [.int x, .int y] ++ List.replicate (2 - (lg_sl [.int x, .int y]).length) Slot.unset).toArray = ls at hl ⊢
  generalize hag : ([.int x, .int y] : List Value).toArray = args at hts hQ ⊢
  have hl : lv_has ls 2 [(0, .int x), (1, .int y)] := hl
  refine lv_iload_n hx hb dX12_isUnder_0 rfl (lv_at hl 1 rfl) ?_
  refine lv_if_eq (tgt := 25) hx hb dX12_isUnder_1 (by decide) (fun c_1 => ?_) (fun c_1 => ?_)
  · skip
    refine lv_iconst (v := 1) hx hb dX12_isUnder_25 (by decide) ?_
    refine lv_goto (tgt := 30) hx hb dX12_isUnder_26 (by decide) ?_
    rw [hQ]
    exact W.zret (v := 1) hx hb hr rfl (fun tQ htQ hWQ => ⟨1, rfl, Or.inl ⟨rfl, by first | exact Or.inl (by assumption) | exact Or.inr (Or.inl (by assumption)) | exact Or.inr (Or.inr (Or.inl ⟨rfl, by assumption⟩)) | exact Or.inr (Or.inr (Or.inr (Or.inl ⟨rfl, by assumption⟩))) | exact Or.inr (Or.inr (Or.inr (Or.inr ⟨rfl, by assumption⟩)))⟩, by rw [htQ]⟩) (fun q hq => absurd hq List.not_mem_nil) dX12_isUnder_30
  · skip
    refine lv_iload_n hx hb dX12_isUnder_4 rfl (lv_at hl 1 rfl) ?_
    refine lv_iload_n hx hb dX12_isUnder_5 rfl (lv_at hl 0 rfl) ?_
    refine lv_icmp_eq (tgt := 25) hx hb dX12_isUnder_6 (by decide) (fun c_2 => ?_) (fun c_2 => ?_)
    · skip
      refine lv_iconst (v := 1) hx hb dX12_isUnder_25 (by decide) ?_
      refine lv_goto (tgt := 30) hx hb dX12_isUnder_26 (by decide) ?_
      rw [hQ]
      exact W.zret (v := 1) hx hb hr rfl (fun tQ htQ hWQ => ⟨1, rfl, Or.inl ⟨rfl, by first | exact Or.inl (by assumption) | exact Or.inr (Or.inl (by assumption)) | exact Or.inr (Or.inr (Or.inl ⟨rfl, by assumption⟩)) | exact Or.inr (Or.inr (Or.inr (Or.inl ⟨rfl, by assumption⟩))) | exact Or.inr (Or.inr (Or.inr (Or.inr ⟨rfl, by assumption⟩)))⟩, by rw [htQ]⟩) (fun q hq => absurd hq List.not_mem_nil) dX12_isUnder_30
    · skip
      refine lv_iload_n hx hb dX12_isUnder_9 rfl (lv_at hl 1 rfl) ?_
      refine lv_if_le (tgt := 29) hx hb dX12_isUnder_10 (by decide) (fun c_3 => ?_) (fun c_3 => ?_)
      · skip
        refine lv_iconst (v := 0) hx hb dX12_isUnder_29 (by decide) ?_
        rw [hQ]
        exact W.zret (v := 0) hx hb hr rfl (fun tQ htQ hWQ => ⟨0, rfl, Or.inr ⟨rfl, by first | exact isU_a (by assumption) (by assumption) (by assumption) | exact isU_b (by assumption) (by assumption) (by assumption) | exact isU_1 (by assumption) (by assumption) | exact isU_2 (by assumption) (by assumption) | exact isU_3 (by assumption) (by assumption)⟩, by rw [htQ]⟩) (fun q hq => absurd hq List.not_mem_nil) dX12_isUnder_30
      · skip
        refine lv_iload_n hx hb dX12_isUnder_13 rfl (lv_at hl 1 rfl) ?_
        refine lv_iconst (v := 4) hx hb dX12_isUnder_14 (by decide) ?_
        refine lv_icmp_ge (tgt := 29) hx hb dX12_isUnder_15 (by decide) (fun c_4 => ?_) (fun c_4 => ?_)
        · skip
          refine lv_iconst (v := 0) hx hb dX12_isUnder_29 (by decide) ?_
          rw [hQ]
          exact W.zret (v := 0) hx hb hr rfl (fun tQ htQ hWQ => ⟨0, rfl, Or.inr ⟨rfl, by first | exact isU_a (by assumption) (by assumption) (by assumption) | exact isU_b (by assumption) (by assumption) (by assumption) | exact isU_1 (by assumption) (by assumption) | exact isU_2 (by assumption) (by assumption) | exact isU_3 (by assumption) (by assumption)⟩, by rw [htQ]⟩) (fun q hq => absurd hq List.not_mem_nil) dX12_isUnder_30
        · skip
          rcases one3b (y := y) (by assumption) (by assumption) with rfl | rfl | rfl
          · skip
            refine lv_iload_n hx hb dX12_isUnder_18 rfl (lv_at hl 0 rfl) ?_
            refine lv_iload_n hx hb dX12_isUnder_19 rfl (lv_at hl 1 rfl) ?_
            refine lv_iconst (v := 3) hx hb dX12_isUnder_20 (by decide) ?_
            refine lv_iadd hx hb dX12_isUnder_21 ?_
            refine qi_as (y := 4) (by decide) ?_
            refine lv_icmp_ne (tgt := 29) hx hb dX12_isUnder_22 (by decide) (fun c_5 => ?_) (fun c_5 => ?_)
            · skip
              refine lv_iconst (v := 0) hx hb dX12_isUnder_29 (by decide) ?_
              rw [hQ]
              exact W.zret (v := 0) hx hb hr rfl (fun tQ htQ hWQ => ⟨0, rfl, Or.inr ⟨rfl, by first | exact isU_a (by assumption) (by assumption) (by assumption) | exact isU_b (by assumption) (by assumption) (by assumption) | exact isU_1 (by assumption) (by assumption) | exact isU_2 (by assumption) (by assumption) | exact isU_3 (by assumption) (by assumption)⟩, by rw [htQ]⟩) (fun q hq => absurd hq List.not_mem_nil) dX12_isUnder_30
            · skip
              refine lv_iconst (v := 1) hx hb dX12_isUnder_25 (by decide) ?_
              refine lv_goto (tgt := 30) hx hb dX12_isUnder_26 (by decide) ?_
              rw [hQ]
              exact W.zret (v := 1) hx hb hr rfl (fun tQ htQ hWQ => ⟨1, rfl, Or.inl ⟨rfl, by first | exact Or.inl (by assumption) | exact Or.inr (Or.inl (by assumption)) | exact Or.inr (Or.inr (Or.inl ⟨rfl, by assumption⟩)) | exact Or.inr (Or.inr (Or.inr (Or.inl ⟨rfl, by assumption⟩))) | exact Or.inr (Or.inr (Or.inr (Or.inr ⟨rfl, by assumption⟩)))⟩, by rw [htQ]⟩) (fun q hq => absurd hq List.not_mem_nil) dX12_isUnder_30
          · skip
            refine lv_iload_n hx hb dX12_isUnder_18 rfl (lv_at hl 0 rfl) ?_
            refine lv_iload_n hx hb dX12_isUnder_19 rfl (lv_at hl 1 rfl) ?_
            refine lv_iconst (v := 3) hx hb dX12_isUnder_20 (by decide) ?_
            refine lv_iadd hx hb dX12_isUnder_21 ?_
            refine qi_as (y := 5) (by decide) ?_
            refine lv_icmp_ne (tgt := 29) hx hb dX12_isUnder_22 (by decide) (fun c_6 => ?_) (fun c_6 => ?_)
            · skip
              refine lv_iconst (v := 0) hx hb dX12_isUnder_29 (by decide) ?_
              rw [hQ]
              exact W.zret (v := 0) hx hb hr rfl (fun tQ htQ hWQ => ⟨0, rfl, Or.inr ⟨rfl, by first | exact isU_a (by assumption) (by assumption) (by assumption) | exact isU_b (by assumption) (by assumption) (by assumption) | exact isU_1 (by assumption) (by assumption) | exact isU_2 (by assumption) (by assumption) | exact isU_3 (by assumption) (by assumption)⟩, by rw [htQ]⟩) (fun q hq => absurd hq List.not_mem_nil) dX12_isUnder_30
            · skip
              refine lv_iconst (v := 1) hx hb dX12_isUnder_25 (by decide) ?_
              refine lv_goto (tgt := 30) hx hb dX12_isUnder_26 (by decide) ?_
              rw [hQ]
              exact W.zret (v := 1) hx hb hr rfl (fun tQ htQ hWQ => ⟨1, rfl, Or.inl ⟨rfl, by first | exact Or.inl (by assumption) | exact Or.inr (Or.inl (by assumption)) | exact Or.inr (Or.inr (Or.inl ⟨rfl, by assumption⟩)) | exact Or.inr (Or.inr (Or.inr (Or.inl ⟨rfl, by assumption⟩))) | exact Or.inr (Or.inr (Or.inr (Or.inr ⟨rfl, by assumption⟩)))⟩, by rw [htQ]⟩) (fun q hq => absurd hq List.not_mem_nil) dX12_isUnder_30
          · skip
            refine lv_iload_n hx hb dX12_isUnder_18 rfl (lv_at hl 0 rfl) ?_
            refine lv_iload_n hx hb dX12_isUnder_19 rfl (lv_at hl 1 rfl) ?_
            refine lv_iconst (v := 3) hx hb dX12_isUnder_20 (by decide) ?_
            refine lv_iadd hx hb dX12_isUnder_21 ?_
            refine qi_as (y := 6) (by decide) ?_
            refine lv_icmp_ne (tgt := 29) hx hb dX12_isUnder_22 (by decide) (fun c_7 => ?_) (fun c_7 => ?_)
            · skip
              refine lv_iconst (v := 0) hx hb dX12_isUnder_29 (by decide) ?_
              rw [hQ]
              exact W.zret (v := 0) hx hb hr rfl (fun tQ htQ hWQ => ⟨0, rfl, Or.inr ⟨rfl, by first | exact isU_a (by assumption) (by assumption) (by assumption) | exact isU_b (by assumption) (by assumption) (by assumption) | exact isU_1 (by assumption) (by assumption) | exact isU_2 (by assumption) (by assumption) | exact isU_3 (by assumption) (by assumption)⟩, by rw [htQ]⟩) (fun q hq => absurd hq List.not_mem_nil) dX12_isUnder_30
            · skip
              refine lv_iconst (v := 1) hx hb dX12_isUnder_25 (by decide) ?_
              refine lv_goto (tgt := 30) hx hb dX12_isUnder_26 (by decide) ?_
              rw [hQ]
              exact W.zret (v := 1) hx hb hr rfl (fun tQ htQ hWQ => ⟨1, rfl, Or.inl ⟨rfl, by first | exact Or.inl (by assumption) | exact Or.inr (Or.inl (by assumption)) | exact Or.inr (Or.inr (Or.inl ⟨rfl, by assumption⟩)) | exact Or.inr (Or.inr (Or.inr (Or.inl ⟨rfl, by assumption⟩))) | exact Or.inr (Or.inr (Or.inr (Or.inr ⟨rfl, by assumption⟩)))⟩, by rw [htQ]⟩) (fun q hq => absurd hq List.not_mem_nil) dX12_isUnder_30

theorem kc_mAs_0 : ∀ w ∈ wsX120, w ∈ wsX12_as := fun w h => List.mem_cons_of_mem _ (gin_wsX120 w h)
theorem kc_mAs_1 : (.fieldLink RX12 9 "MistHeapsModel" "s" "[I" : Cond) ∈ wsX12_as := kc_of 1141 rfl rfl rfl
set_option maxHeartbeats 4000000 in
set_option maxRecDepth 100000 in
theorem c_mAs (l : Launch) (dC : Nat → ClassId) (dI : Nat → Nat → Nat) (m0 aS aI aB aT aG aO aN aD aY : Nat) (th im ac sp en wg op se dn rn kd nu tv : Int32) (bv : Int64) (cS : ClassId) (fS : Nat → Int32) (n : Nat) (yk yv : Nat → Int32) (x y : Int32) (zn : fS 0 = nI n) (hn : n ≤ 8) (zkd : ∀ k, k < n → fS (10 + k) = yk k) (zvv : ∀ k, k < n → fS (19 + k) = yv k) : Met l yX12_as wsX12_as ({ frames := 2, cells := 0, slots := 0, locals := 43 } : Room) (va_Pc [.ref m0, .int x, .int y] (fun U => va_P (dC, dI) vwCl [(zo14irriiiiiirriirrrrlriiii m0 th aS aI im ac sp en wg op aB aT se dn aG aO aN aD bv aY rn kd nu tv), (zaI aS cS 901 fS)] U.heap ∧ va_K (dC, dI) vwCl [(cS, .int)] U)) (vp_Si (fun r => r = asR n yk yv x y)) 0 0 (fun _ => False) := by
  refine met_ofQ (cc := cX12_as) (maxL := 3) (ret := (some .int)) (by decide) rfl ?_
  intro p e s m args below meth c s₁ Q B hml hv hQ
  obtain ⟨rfl, hP, hK⟩ := hv
  have hx := B.exec
  have hb := B.bytes
  have hr := B.returns
  have hts := atoms_spec (ws := wsX12_as) B.pre
  have hown : s.vm.findClass RX12 = some m.cls := findClass_of_methodNamed B.named
  have hlocks := B.notSynchronized
  obtain ⟨A, hAe⟩ : ∃ A : Nat → Prop, A = fun _ => False := ⟨_, rfl⟩
  rw [← hAe] at hQ
  have hS : va_S A s.heap s.heap [] := va_S.rf
  have hl := lv_entry [.ref m0, .int x, .int y] (n := 3) (Nat.le_of_ble_eq_true rfl)
  rw [lg_entry_eq]
  generalize (lg_sl [.ref m0, .int x, .int y] ++ List.replicate (3 - (lg_sl [.ref m0, .int x, .int y]).length) Slot.unset).toArray = ls at hl ⊢
  generalize hag : ([.ref m0, .int x, .int y] : List Value).toArray = args at hts hQ ⊢
  have hl : lv_has ls 3 [(0, .ref m0), (1, .int x), (2, .int y)] := hl
  refine lv_aload_n hx hb dX12_as_0 rfl (lv_at hl 0 rfl) ?_
  refine lv_iload_n hx hb dX12_as_1 rfl (lv_at hl 1 rfl) ?_
  have hPc := hP.sub (ws' := [(zo14irriiiiiirriirrrrlriiii m0 th aS aI im ac sp en wg op aB aT se dn aG aO aN aD bv aY rn kd nu tv), (zaI aS cS 901 fS)]) [0, 1] rfl
  have hKc := hK.sub (tys' := [(cS, .int)]) [0] rfl
  refine vp_callSi (va_runV (As := [.int x]) (rest := []) ⟨hx, hb, hml, hown, hts⟩ (c_isHeap l dC dI m0 aS aI aB aT aG aO aN aD aY th im ac sp en wg op se dn rn kd nu tv bv cS fS n x (zn) (hn)) (cwV 1 hts gX12_as_X12_isHeap rfl rfl rfl hd_yX12_isHeap ⟨Nat.le_of_ble_eq_true rfl, Nat.le_of_ble_eq_true rfl⟩) ⟨fun a U g mk q => by obtain ⟨q0, qP, qK⟩ := q; exact ⟨q0, mvP g mk a qP, mvK g mk a qK⟩, va_recv hK hP (ci := 14) (q := (RX12, TX12, 23)) (q0 := 0) rfl rfl, fun U hU hW => ⟨rfl, by rw [hU]; exact hPc, va_K.moved hW.alike hKc⟩⟩ rfl rfl hl.1 rfl (lv_room (Nat.le_of_ble_eq_true rfl)) dX12_as_2 ⟨Nat.le_of_ble_eq_true rfl, Nat.le_of_ble_eq_true rfl⟩).run (fun r_1 hw_2 => ?_)
  rcases hw_2 with ⟨rfl, j_3, hj_4, rfl⟩ | ⟨rfl, h_5⟩
  · skip
    refine lv_if_eq (tgt := 18) hx hb dX12_as_5 (by decide) (fun c_6 => absurd c_6 (by decide)) (fun _ => ?_)
    refine lv_iload_n hx hb dX12_as_8 rfl (lv_at hl 2 rfl) ?_
    refine lv_iconst (v := 0) hx hb dX12_as_9 (by decide) ?_
    refine lv_bipush (v := 6) hx hb dX12_as_10 (by decide) ?_
    refine vp_callSi (va_runS (As := [.int y, .int 0, .int 6]) (rest := []) ⟨hx, hb, hml, hown, hts⟩ (c_in l dC dI y 0 6) (va_cwS 3 hts gX12_as_X12_in rfl rfl rfl hd_yX12_in.2 ⟨Nat.le_of_ble_eq_true rfl, Nat.le_of_ble_eq_true rfl⟩) ⟨fun a U g mk q => ⟨q.1, trivial⟩, fun U hU hW => ⟨rfl, trivial⟩⟩ rfl rfl hl.1 rfl (lv_room (Nat.le_of_ble_eq_true rfl)) dX12_as_12 ⟨Nat.le_of_ble_eq_true rfl, Nat.le_of_ble_eq_true rfl⟩).run (fun r_7 hw_8 => ?_)
    rcases hw_8 with ⟨rfl, h_9, h_10⟩ | ⟨rfl, h_11⟩
    · skip
      refine lv_if_ne (tgt := 20) hx hb dX12_as_15 (by decide) (fun _ => ?_) (fun c_12 => absurd c_12 (by decide))
      refine lv_aload_n hx hb dX12_as_20 rfl (lv_at hl 0 rfl) ?_
      refine va_get (D := (dC, dI)) (ci := 14) (v := .ref aS) (C := RX12) (T := TX12) (N := 23) hx hb hts kc_mAs_0 hown hK hP 0 rfl rfl 1 (by decide) (hts (.fieldLink RX12 9 "MistHeapsModel" "s" "[I") kc_mAs_1) (fun _ h9 => h9) rfl dX12_as_21 ?_
      refine lv_bipush (v := 10) hx hb dX12_as_24 (by decide) ?_
      refine lv_iload_n hx hb dX12_as_26 rfl (lv_at hl 1 rfl) ?_
      refine lv_iadd hx hb dX12_as_27 ?_
      refine qi_as (y := nI (10 + j_3)) (nI_add 10 j_3) ?_
      refine va_iald hx hb hK hP 1 0 rfl rfl (vp_in_nI (n := 10 + j_3) (N := 901) (by omega) (by omega)) dX12_as_28 ?_
      refine qi_as (y := yk j_3) ((show fS (nI (10 + j_3) : Int32).toNatClampNeg = fS (10 + j_3) from by rw [nI_clamp (by omega)]).trans (zkd j_3 (by omega))) ?_
      refine lv_iload_n hx hb dX12_as_29 rfl (lv_at hl 2 rfl) ?_
      refine vp_callSi (va_runS (As := [.int (yk j_3), .int y]) (rest := []) ⟨hx, hb, hml, hown, hts⟩ (c_under l dC dI (yk j_3) y) (va_cwS 2 hts gX12_as_X12_isUnder rfl rfl rfl hd_yX12_isUnder.2 ⟨Nat.le_of_ble_eq_true rfl, Nat.le_of_ble_eq_true rfl⟩) ⟨fun a U g mk q => ⟨q.1, trivial⟩, fun U hU hW => ⟨rfl, trivial⟩⟩ rfl rfl hl.1 rfl (lv_room (Nat.le_of_ble_eq_true rfl)) dX12_as_30 ⟨Nat.le_of_ble_eq_true rfl, Nat.le_of_ble_eq_true rfl⟩).run (fun r_13 hw_14 => ?_)
      rcases hw_14 with ⟨rfl, hU_15⟩ | ⟨rfl, hU_15⟩
      · skip
        refine lv_if_eq (tgt := 48) hx hb dX12_as_33 (by decide) (fun c_16 => absurd c_16 (by decide)) (fun _ => ?_)
        refine lv_aload_n hx hb dX12_as_36 rfl (lv_at hl 0 rfl) ?_
        refine va_get (D := (dC, dI)) (ci := 14) (v := .ref aS) (C := RX12) (T := TX12) (N := 23) hx hb hts kc_mAs_0 hown hK hP 0 rfl rfl 1 (by decide) (hts (.fieldLink RX12 9 "MistHeapsModel" "s" "[I") kc_mAs_1) (fun _ h9 => h9) rfl dX12_as_37 ?_
        refine lv_bipush (v := 19) hx hb dX12_as_40 (by decide) ?_
        refine lv_iload_n hx hb dX12_as_42 rfl (lv_at hl 1 rfl) ?_
        refine lv_iadd hx hb dX12_as_43 ?_
        refine qi_as (y := nI (19 + j_3)) (nI_add 19 j_3) ?_
        refine va_iald hx hb hK hP 1 0 rfl rfl (vp_in_nI (n := 19 + j_3) (N := 901) (by omega) (by omega)) dX12_as_44 ?_
        refine qi_as (y := yv j_3) ((show fS (nI (19 + j_3) : Int32).toNatClampNeg = fS (19 + j_3) from by rw [nI_clamp (by omega)]).trans (zvv j_3 (by omega))) ?_
        refine lv_goto (tgt := 50) hx hb dX12_as_45 (by decide) ?_
        rw [hQ]
        exact W.iret (v := yv j_3) hx hb hr (fun tQ htQ hWQ => ⟨yv j_3, rfl, as_yes hn (by assumption) (by assumption) (by assumption) (by assumption), by rw [htQ]⟩) (fun q hq => absurd hq List.not_mem_nil) dX12_as_50
      · skip
        refine lv_if_eq (tgt := 48) hx hb dX12_as_33 (by decide) (fun _ => ?_) (fun c_17 => absurd c_17 (by decide))
        refine lv_bipush (v := (-6)) hx hb dX12_as_48 (by decide) ?_
        rw [hQ]
        exact W.iret (v := (-6)) hx hb hr (fun tQ htQ hWQ => ⟨(-6), rfl, as_not hn (by assumption) (by assumption) (by assumption) (by assumption), by rw [htQ]⟩) (fun q hq => absurd hq List.not_mem_nil) dX12_as_50
    · skip
      refine lv_if_ne (tgt := 20) hx hb dX12_as_15 (by decide) (fun c_18 => absurd c_18 (by decide)) (fun _ => ?_)
      refine lv_iconst (v := (-1)) hx hb dX12_as_18 (by decide) ?_
      rw [hQ]
      exact W.iret (v := (-1)) hx hb hr (fun tQ htQ hWQ => ⟨(-1), rfl, by first | exact as_no (by assumption) | exact as_bad hn (by assumption) (by assumption), by rw [htQ]⟩) (fun q hq => absurd hq List.not_mem_nil) dX12_as_19
  · skip
    refine lv_if_eq (tgt := 18) hx hb dX12_as_5 (by decide) (fun _ => ?_) (fun c_19 => absurd c_19 (by decide))
    refine lv_iconst (v := (-1)) hx hb dX12_as_18 (by decide) ?_
    rw [hQ]
    exact W.iret (v := (-1)) hx hb hr (fun tQ htQ hWQ => ⟨(-1), rfl, by first | exact as_no (by assumption) | exact as_bad hn (by assumption) (by assumption), by rw [htQ]⟩) (fun q hq => absurd hq List.not_mem_nil) dX12_as_19

theorem tr_of {x : Int32} {k : Nat} (hk : k ≤ 20) (h1 : ¬ x < 0) (h2 : ¬ nI k - 1 < x) : ∃ j : Nat, j < 20 ∧ x = nI j := by
  rcases isheap_of (n := k) (r := 1) (h := x) (by omega) (Or.inl ⟨rfl, h1, h2⟩) with ⟨_, j, hj, e⟩ | ⟨e, _⟩
  · exact ⟨j, by omega, e⟩
  · exact absurd e (by decide)

theorem kc_mTrace_0 : ∀ w ∈ wsX120, w ∈ wsX12_trace := fun w h => List.mem_cons_of_mem _ (gin_wsX120 w h)
theorem kc_mTrace_1 : (.fieldLink RX12 246 "MistHeapsModel" "ran" "I" : Cond) ∈ wsX12_trace := kc_of 1159 rfl rfl rfl
theorem kc_mTrace_2 : (.fieldLink RX12 38 "MistHeapsModel" "bodies" "[I" : Cond) ∈ wsX12_trace := kc_of 1158 rfl rfl rfl
set_option maxHeartbeats 4000000 in
set_option maxRecDepth 100000 in
theorem c_mTrace (l : Launch) (dC : Nat → ClassId) (dI : Nat → Nat → Nat) (m0 aS aI aB aT aG aO aN aD aY : Nat) (th im ac sp en wg op se dn rn kd nu tv : Int32) (bv : Int64) (cY : ClassId) (fY : Nat → Int32) (tl : List Nat) (x : Int32) (hq : tl.length ≤ 20) (zY : okY fY tl) : Met l yX12_trace wsX12_trace ({ frames := 1, cells := 0, slots := 0, locals := 22 } : Room) (va_Pc [.ref m0, .int x] (fun U => va_P (dC, dI) vwCl [(zo14irriiiiiirriirrrrlriiii m0 th aS aI im ac sp en wg op aB aT se dn aG aO aN aD bv aY (nI tl.length) kd nu tv), (zaI aY cY 20 fY)] U.heap ∧ va_K (dC, dI) vwCl [(cY, .int)] U)) (vp_Si (fun r => r = trR tl x)) 0 0 (fun _ => False) := by
  refine met_ofQ (cc := cX12_trace) (maxL := 2) (ret := (some .int)) (by decide) rfl ?_
  intro p e s m args below meth c s₁ Q B hml hv hQ
  obtain ⟨rfl, hP, hK⟩ := hv
  have hx := B.exec
  have hb := B.bytes
  have hr := B.returns
  have hts := atoms_spec (ws := wsX12_trace) B.pre
  have hown : s.vm.findClass RX12 = some m.cls := findClass_of_methodNamed B.named
  have hlocks := B.notSynchronized
  obtain ⟨A, hAe⟩ : ∃ A : Nat → Prop, A = fun _ => False := ⟨_, rfl⟩
  rw [← hAe] at hQ
  have hS : va_S A s.heap s.heap [] := va_S.rf
  have hl := lv_entry [.ref m0, .int x] (n := 2) (Nat.le_of_ble_eq_true rfl)
  rw [lg_entry_eq]
  generalize (lg_sl [.ref m0, .int x] ++ List.replicate (2 - (lg_sl [.ref m0, .int x]).length) Slot.unset).toArray = ls at hl ⊢
  generalize hag : ([.ref m0, .int x] : List Value).toArray = args at hts hQ ⊢
  have hl : lv_has ls 2 [(0, .ref m0), (1, .int x)] := hl
  refine lv_iload_n hx hb dX12_trace_0 rfl (lv_at hl 1 rfl) ?_
  refine lv_iconst (v := 0) hx hb dX12_trace_1 (by decide) ?_
  refine lv_aload_n hx hb dX12_trace_2 rfl (lv_at hl 0 rfl) ?_
  refine va_get (D := (dC, dI)) (ci := 14) (v := .int (nI tl.length)) (C := RX12) (T := TX12) (N := 23) hx hb hts kc_mTrace_0 hown hK hP 0 rfl rfl 19 (by decide) (hts (.fieldLink RX12 246 "MistHeapsModel" "ran" "I") kc_mTrace_1) (fun _ h9 => h9) rfl dX12_trace_3 ?_
  refine lv_bipush (v := 20) hx hb dX12_trace_6 (by decide) ?_
  refine lv_icmp_ge (tgt := 18) hx hb dX12_trace_8 (by decide) (fun c_1 => ?_) (fun c_1 => ?_)
  · skip
    have c_1 : 20 ≤ tl.length := (nI_leI (a := 20) (b := tl.length) (by omega) (by omega)).mp c_1
    refine lv_bipush (v := 20) hx hb dX12_trace_18 (by decide) ?_
    refine lv_iconst (v := 1) hx hb dX12_trace_20 (by decide) ?_
    refine lv_isub hx hb dX12_trace_21 ?_
    refine qi_as (y := 19) (by decide) ?_
    refine vp_callSi (va_runS (As := [.int x, .int 0, .int 19]) (rest := []) ⟨hx, hb, hml, hown, hts⟩ (c_in l dC dI x 0 (nI 20 - 1)) (va_cwS 3 hts gX12_trace_X12_in rfl rfl rfl hd_yX12_in.2 ⟨Nat.le_of_ble_eq_true rfl, Nat.le_of_ble_eq_true rfl⟩) ⟨fun a U g mk q => ⟨q.1, trivial⟩, fun U hU hW => ⟨rfl, trivial⟩⟩ rfl rfl hl.1 rfl (lv_room (Nat.le_of_ble_eq_true rfl)) dX12_trace_22 ⟨Nat.le_of_ble_eq_true rfl, Nat.le_of_ble_eq_true rfl⟩).run (fun r_2 hw_3 => ?_)
    rcases hw_3 with ⟨rfl, h_4, h_5⟩ | ⟨rfl, h_6⟩
    · skip
      obtain ⟨jt, hjt, rfl⟩ := trL_of (k := 20) (by omega) h_4 h_5
      refine lv_if_eq (tgt := 37) hx hb dX12_trace_25 (by decide) (fun c_7 => absurd c_7 (by decide)) (fun _ => ?_)
      refine lv_aload_n hx hb dX12_trace_28 rfl (lv_at hl 0 rfl) ?_
      refine va_get (D := (dC, dI)) (ci := 14) (v := .ref aY) (C := RX12) (T := TX12) (N := 23) hx hb hts kc_mTrace_0 hown hK hP 0 rfl rfl 18 (by decide) (hts (.fieldLink RX12 38 "MistHeapsModel" "bodies" "[I") kc_mTrace_2) (fun _ h9 => h9) rfl dX12_trace_29 ?_
      refine lv_iload_n hx hb dX12_trace_32 rfl (lv_at hl 1 rfl) ?_
      refine va_iald hx hb hK hP 1 0 rfl rfl (vp_in_nI (n := jt) (N := 20) (by omega) (by omega)) dX12_trace_33 ?_
      refine qi_as (y := nI (tl.getD jt 0)) ((show fY (nI jt : Int32).toNatClampNeg = fY jt from by rw [nI_clamp (by omega)]).trans (zY jt (by omega))) ?_
      refine lv_goto (tgt := 38) hx hb dX12_trace_34 (by decide) ?_
      rw [hQ]
      exact W.iret (v := nI (tl.getD jt 0)) hx hb hr (fun tQ htQ hWQ => ⟨nI (tl.getD jt 0), rfl, tr_yes (by omega) (by omega), by rw [htQ]⟩) (fun q hq => absurd hq List.not_mem_nil) dX12_trace_38
    · skip
      have hno := trL_no (k := 20) (by omega) h_6
      refine lv_if_eq (tgt := 37) hx hb dX12_trace_25 (by decide) (fun _ => ?_) (fun c_8 => absurd c_8 (by decide))
      refine lv_iconst (v := (-1)) hx hb dX12_trace_37 (by decide) ?_
      rw [hQ]
      exact W.iret (v := (-1)) hx hb hr (fun tQ htQ hWQ => ⟨(-1), rfl, tr_no (fun j hj => hno j (by omega)), by rw [htQ]⟩) (fun q hq => absurd hq List.not_mem_nil) dX12_trace_38
  · skip
    have c_1 : ¬ 20 ≤ tl.length := fun q => c_1 ((nI_leI (a := 20) (b := tl.length) (by omega) (by omega)).mpr q)
    refine lv_aload_n hx hb dX12_trace_11 rfl (lv_at hl 0 rfl) ?_
    refine va_get (D := (dC, dI)) (ci := 14) (v := .int (nI tl.length)) (C := RX12) (T := TX12) (N := 23) hx hb hts kc_mTrace_0 hown hK hP 0 rfl rfl 19 (by decide) (hts (.fieldLink RX12 246 "MistHeapsModel" "ran" "I") kc_mTrace_1) (fun _ h9 => h9) rfl dX12_trace_12 ?_
    refine lv_goto (tgt := 20) hx hb dX12_trace_15 (by decide) ?_
    refine lv_iconst (v := 1) hx hb dX12_trace_20 (by decide) ?_
    refine lv_isub hx hb dX12_trace_21 ?_
    refine vp_callSi (va_runS (As := [.int x, .int 0, .int ((nI tl.length) - 1)]) (rest := []) ⟨hx, hb, hml, hown, hts⟩ (c_in l dC dI x 0 ((nI tl.length) - 1)) (va_cwS 3 hts gX12_trace_X12_in rfl rfl rfl hd_yX12_in.2 ⟨Nat.le_of_ble_eq_true rfl, Nat.le_of_ble_eq_true rfl⟩) ⟨fun a U g mk q => ⟨q.1, trivial⟩, fun U hU hW => ⟨rfl, trivial⟩⟩ rfl rfl hl.1 rfl (lv_room (Nat.le_of_ble_eq_true rfl)) dX12_trace_22 ⟨Nat.le_of_ble_eq_true rfl, Nat.le_of_ble_eq_true rfl⟩).run (fun r_9 hw_10 => ?_)
    rcases hw_10 with ⟨rfl, h_11, h_12⟩ | ⟨rfl, h_13⟩
    · skip
      obtain ⟨jt, hjt, rfl⟩ := trL_of (k := tl.length) (by omega) h_11 h_12
      refine lv_if_eq (tgt := 37) hx hb dX12_trace_25 (by decide) (fun c_14 => absurd c_14 (by decide)) (fun _ => ?_)
      refine lv_aload_n hx hb dX12_trace_28 rfl (lv_at hl 0 rfl) ?_
      refine va_get (D := (dC, dI)) (ci := 14) (v := .ref aY) (C := RX12) (T := TX12) (N := 23) hx hb hts kc_mTrace_0 hown hK hP 0 rfl rfl 18 (by decide) (hts (.fieldLink RX12 38 "MistHeapsModel" "bodies" "[I") kc_mTrace_2) (fun _ h9 => h9) rfl dX12_trace_29 ?_
      refine lv_iload_n hx hb dX12_trace_32 rfl (lv_at hl 1 rfl) ?_
      refine va_iald hx hb hK hP 1 0 rfl rfl (vp_in_nI (n := jt) (N := 20) (by omega) (by omega)) dX12_trace_33 ?_
      refine qi_as (y := nI (tl.getD jt 0)) ((show fY (nI jt : Int32).toNatClampNeg = fY jt from by rw [nI_clamp (by omega)]).trans (zY jt (by omega))) ?_
      refine lv_goto (tgt := 38) hx hb dX12_trace_34 (by decide) ?_
      rw [hQ]
      exact W.iret (v := nI (tl.getD jt 0)) hx hb hr (fun tQ htQ hWQ => ⟨nI (tl.getD jt 0), rfl, tr_yes (by omega) (by omega), by rw [htQ]⟩) (fun q hq => absurd hq List.not_mem_nil) dX12_trace_38
    · skip
      have hno := trL_no (k := tl.length) (by omega) h_13
      refine lv_if_eq (tgt := 37) hx hb dX12_trace_25 (by decide) (fun _ => ?_) (fun c_15 => absurd c_15 (by decide))
      refine lv_iconst (v := (-1)) hx hb dX12_trace_37 (by decide) ?_
      rw [hQ]
      exact W.iret (v := (-1)) hx hb hr (fun tQ htQ hWQ => ⟨(-1), rfl, tr_no (fun j hj => hno j (by omega)), by rw [htQ]⟩) (fun q hq => absurd hq List.not_mem_nil) dX12_trace_38

theorem kc_ranBody_0 : ∀ w ∈ wsX120, w ∈ wsX12_ranBody := fun w h => List.mem_cons_of_mem _ (gin_wsX120 w h)
theorem kc_ranBody_1 : (.fieldLink RX12 246 "MistHeapsModel" "ran" "I" : Cond) ∈ wsX12_ranBody := kc_of 1159 rfl rfl rfl
theorem kc_ranBody_2 : (.fieldLink RX12 38 "MistHeapsModel" "bodies" "[I" : Cond) ∈ wsX12_ranBody := kc_of 1158 rfl rfl rfl
set_option maxHeartbeats 4000000 in
set_option maxRecDepth 100000 in
theorem c_ranBody (l : Launch) (dC : Nat → ClassId) (dI : Nat → Nat → Nat) (m0 aS aI aB aT aG aO aN aD aY : Nat) (th im ac sp en wg op se dn rn kd nu tv : Int32) (bv : Int64) (cY : ClassId) (fY : Nat → Int32) (tl : List Nat) (k : Nat) (sz : Nat) (hq : tl.length ≤ 19) (zY : okY fY tl) : Met l yX12_ranBody wsX12_ranBody ({ frames := 0, cells := 0, slots := 0, locals := 0 } : Room) (va_Pc [.ref m0, .int (nI k)] (fun U => U.heap.size = sz ∧ va_P (dC, dI) vwCl [(zo14irriiiiiirriirrrrlriiii m0 th aS aI im ac sp en wg op aB aT se dn aG aO aN aD bv aY (nI tl.length) kd nu tv), (zaI aY cY 20 fY)] U.heap ∧ va_K (dC, dI) vwCl [(cY, .int)] U ∧ va_D (fun _ => True) [(zo14irriiiiiirriirrrrlriiii m0 th aS aI im ac sp en wg op aB aT se dn aG aO aN aD bv aY (nI tl.length) kd nu tv), (zaI aY cY 20 fY)])) (va_Qv (fun (u : (Nat → Int32) × (Int32)) => match u with | (fY9, rn9) => rn9 = nI (tl ++ [k]).length ∧ okY fY9 (tl ++ [k])) (fun (u : (Nat → Int32) × (Int32)) (t : State) => match u with | (fY9, rn9) => va_P (dC, dI) vwCl [(zo14irriiiiiirriirrrrlriiii m0 th aS aI im ac sp en wg op aB aT se dn aG aO aN aD bv aY rn9 kd nu tv), (zaI aY cY 20 fY9)] t.heap ∧ va_K (dC, dI) vwCl [(cY, .int)] t ∧ va_D (va_A [(zo14irriiiiiirriirrrrlriiii m0 th aS aI im ac sp en wg op aB aT se dn aG aO aN aD bv aY (nI tl.length) kd nu tv), (zaI aY cY 20 fY)] sz) [(zo14irriiiiiirriirrrrlriiii m0 th aS aI im ac sp en wg op aB aT se dn aG aO aN aD bv aY rn9 kd nu tv), (zaI aY cY 20 fY9)]) (va_A [(zo14irriiiiiirriirrrrlriiii m0 th aS aI im ac sp en wg op aB aT se dn aG aO aN aD bv aY (nI tl.length) kd nu tv), (zaI aY cY 20 fY)] sz)) 0 0 (va_A [(zo14irriiiiiirriirrrrlriiii m0 th aS aI im ac sp en wg op aB aT se dn aG aO aN aD bv aY (nI tl.length) kd nu tv), (zaI aY cY 20 fY)] sz) := by
  refine met_ofQ (cc := cX12_ranBody) (maxL := 2) (ret := none) (by decide) rfl ?_
  intro p e s m args below meth c s₁ Q B hml hv hQ
  obtain ⟨rfl, hsz, hP, hK, hD0⟩ := hv
  have hx := B.exec
  have hb := B.bytes
  have hr := B.returns
  have hts := atoms_spec (ws := wsX12_ranBody) B.pre
  have hown : s.vm.findClass RX12 = some m.cls := findClass_of_methodNamed B.named
  have hlocks := B.notSynchronized
  subst hsz
  have hD := hD0.self (sz := s.heap.size)
  generalize hAe : va_A [(zo14irriiiiiirriirrrrlriiii m0 th aS aI im ac sp en wg op aB aT se dn aG aO aN aD bv aY (nI tl.length) kd nu tv), (zaI aY cY 20 fY)] s.heap.size = A at hD hQ ⊢
  have hA : ∀ q : Nat, s.heap.size ≤ q → A q := fun q h => by rw [← hAe]; exact Or.inr h
  have hS : va_S A s.heap s.heap [] := va_S.rf
  have hl := lv_entry [.ref m0, .int (nI k)] (n := 2) (Nat.le_of_ble_eq_true rfl)
  rw [lg_entry_eq]
  generalize (lg_sl [.ref m0, .int (nI k)] ++ List.replicate (2 - (lg_sl [.ref m0, .int (nI k)]).length) Slot.unset).toArray = ls at hl ⊢
  generalize hag : ([.ref m0, .int (nI k)] : List Value).toArray = args at hts hQ ⊢
  have hl : lv_has ls 2 [(0, .ref m0), (1, .int (nI k))] := hl
  obtain ⟨H, hH⟩ : ∃ H : Heap, H = s.heap := ⟨_, rfl⟩
  rw [← hH] at hP
  rw [← hH]
  have hS : va_S A s.heap H [] := by rw [hH]; exact hS
  obtain ⟨locs, hlo⟩ : ∃ L : List Loc, L = [] := ⟨_, rfl⟩
  rw [← hlo] at hS
  rw [← hlo]
  clear hH hlo
  refine lv_aload_n hx hb dX12_ranBody_0 rfl (lv_at hl 0 rfl) ?_
  refine va_get (D := (dC, dI)) (ci := 14) (v := .int (nI tl.length)) (C := RX12) (T := TX12) (N := 23) hx hb hts kc_ranBody_0 hown hK hP 0 rfl rfl 19 (by decide) (hts (.fieldLink RX12 246 "MistHeapsModel" "ran" "I") kc_ranBody_1) (fun _ h9 => h9) rfl dX12_ranBody_1 ?_
  refine lv_bipush (v := 20) hx hb dX12_ranBody_4 (by decide) ?_
  refine lv_icmp_ge (tgt := 19) hx hb dX12_ranBody_6 (by decide) (fun c_1 => ?_) (fun c_1 => ?_)
  · skip
    have c_1 : 20 ≤ tl.length := (nI_leI (a := 20) (b := tl.length) (by omega) (by omega)).mp c_1
    exfalso
    omega
  · skip
    have c_1 : ¬ 20 ≤ tl.length := fun q => c_1 ((nI_leI (a := 20) (b := tl.length) (by omega) (by omega)).mpr q)
    refine lv_aload_n hx hb dX12_ranBody_9 rfl (lv_at hl 0 rfl) ?_
    refine va_get (D := (dC, dI)) (ci := 14) (v := .ref aY) (C := RX12) (T := TX12) (N := 23) hx hb hts kc_ranBody_0 hown hK hP 0 rfl rfl 18 (by decide) (hts (.fieldLink RX12 38 "MistHeapsModel" "bodies" "[I") kc_ranBody_2) (fun _ h9 => h9) rfl dX12_ranBody_10 ?_
    refine lv_aload_n hx hb dX12_ranBody_13 rfl (lv_at hl 0 rfl) ?_
    refine va_get (D := (dC, dI)) (ci := 14) (v := .int (nI tl.length)) (C := RX12) (T := TX12) (N := 23) hx hb hts kc_ranBody_0 hown hK hP 0 rfl rfl 19 (by decide) (hts (.fieldLink RX12 246 "MistHeapsModel" "ran" "I") kc_ranBody_1) (fun _ h9 => h9) rfl dX12_ranBody_14 ?_
    refine lv_iload_n hx hb dX12_ranBody_17 rfl (lv_at hl 1 rfl) ?_
    refine va_iast hx hb hK hP hD hS 1 0 rfl rfl (vp_in_nI (n := tl.length) (N := 20) (by omega) (by omega)) dX12_ranBody_18 (fun H locs hP hD hS => ?_)
    rw [nI_clamp (n := tl.length) (by omega)] at hP hD
    have hP : va_P (dC, dI) vwCl [(zo14irriiiiiirriirrrrlriiii m0 th aS aI im ac sp en wg op aB aT se dn aG aO aN aD bv aY (nI tl.length) kd nu tv), (zaI aY cY 20 (upd fY tl.length (nI k)))] H := hP
    have hD : va_D A [(zo14irriiiiiirriirrrrlriiii m0 th aS aI im ac sp en wg op aB aT se dn aG aO aN aD bv aY (nI tl.length) kd nu tv), (zaI aY cY 20 (upd fY tl.length (nI k)))] := hD
    refine lv_aload_n hx hb dX12_ranBody_19 rfl (lv_at hl 0 rfl) ?_
    refine lv_dup hx hb dX12_ranBody_20 rfl ?_
    refine va_get (D := (dC, dI)) (ci := 14) (v := .int (nI tl.length)) (C := RX12) (T := TX12) (N := 23) hx hb hts kc_ranBody_0 hown hK hP 0 rfl rfl 19 (by decide) (hts (.fieldLink RX12 246 "MistHeapsModel" "ran" "I") kc_ranBody_1) (fun _ h9 => h9) rfl dX12_ranBody_21 ?_
    refine lv_iconst (v := 1) hx hb dX12_ranBody_24 (by decide) ?_
    refine lv_iadd hx hb dX12_ranBody_25 ?_
    refine qi_as (y := nI (tl.length + 1)) (nI_add tl.length 1) ?_
    refine va_put (D := (dC, dI)) (ci := 14) (v := .int (nI (tl.length + 1))) (ty := .int) (C := RX12) (T := TX12) (N := 23) hx hb hts kc_ranBody_0 tyX12 tyX12_ok nmX12 hown hK hP hD hS 0 rfl rfl 19 (by decide) (hts (.fieldLink RX12 246 "MistHeapsModel" "ran" "I") kc_ranBody_1) (fun _ h9 => h9) rfl (by decide +kernel) rfl rfl (Nat.le_of_ble_eq_true rfl) dX12_ranBody_26 (fun H locs hP hD hS => ?_)
    have hP : va_P (dC, dI) vwCl [(zo14irriiiiiirriirrrrlriiii m0 th aS aI im ac sp en wg op aB aT se dn aG aO aN aD bv aY (nI (tl.length + 1)) kd nu tv), (zaI aY cY 20 (upd fY tl.length (nI k)))] H := hP
    have hD : va_D A [(zo14irriiiiiirriirrrrlriiii m0 th aS aI im ac sp en wg op aB aT se dn aG aO aN aD bv aY (nI (tl.length + 1)) kd nu tv), (zaI aY cY 20 (upd fY tl.length (nI k)))] := hD
    rw [hQ]
    have hP9 := hP.sub (ws' := [(zo14irriiiiiirriirrrrlriiii m0 th aS aI im ac sp en wg op aB aT se dn aG aO aN aD bv aY (nI (tl.length + 1)) kd nu tv), (zaI aY cY 20 (upd fY tl.length (nI k)))]) [0, 1] rfl
    have hD9 := hD.sub (ws' := [(zo14irriiiiiirriirrrrlriiii m0 th aS aI im ac sp en wg op aB aT se dn aG aO aN aD bv aY (nI (tl.length + 1)) kd nu tv), (zaI aY cY 20 (upd fY tl.length (nI k)))]) [0, 1] (by decide) rfl
    have hK9 := hK.sub (tys' := [(cY, .int)]) [0] rfl
    exact W.vret hx hb hr (fun tQ htQ hWQ => ⟨⟨((upd fY tl.length (nI k)), (nI (tl.length + 1))), rfl, ⟨by rw [List.length_append]; rfl, okY_add zY⟩, by rw [htQ]; exact hP9, va_K.moved hWQ.alike hK9, hD9⟩, hS.F htQ⟩) hS.2.2 dX12_ranBody_29

theorem kc_plainSees_0 : ∀ w ∈ wsX120, w ∈ wsX12_plainSees := fun w h => List.mem_cons_of_mem _ (gin_wsX120 w h)
theorem kc_plainSees_1 : (.fieldLink RX12 252 "MistHeapsModel" "number" "I" : Cond) ∈ wsX12_plainSees := kc_of 1161 rfl rfl rfl
set_option maxHeartbeats 4000000 in
set_option maxRecDepth 100000 in
theorem c_plainSees (l : Launch) (dC : Nat → ClassId) (dI : Nat → Nat → Nat) (m0 aS aI aB aT aG aO aN aD aY : Nat) (th im ac sp en wg op se dn rn kd nu tv : Int32) (bv : Int64) (cY : ClassId) (fY : Nat → Int32) (tl : List Nat) (x : Int32) (sz : Nat) (hq : tl.length ≤ 19) (zY : okY fY tl) : Met l yX12_plainSees wsX12_plainSees ({ frames := 1, cells := 0, slots := 0, locals := 21 } : Room) (va_Pc [.ref m0, .int x] (fun U => U.heap.size = sz ∧ va_P (dC, dI) vwCl [(zo14irriiiiiirriirrrrlriiii m0 th aS aI im ac sp en wg op aB aT se dn aG aO aN aD bv aY (nI tl.length) kd nu tv), (zaI aY cY 20 fY)] U.heap ∧ va_K (dC, dI) vwCl [(cY, .int)] U ∧ va_D (fun _ => True) [(zo14irriiiiiirriirrrrlriiii m0 th aS aI im ac sp en wg op aB aT se dn aG aO aN aD bv aY (nI tl.length) kd nu tv), (zaI aY cY 20 fY)])) (va_Qi (fun (r : Int32) (u : (Nat → Int32) × (Int32)) => match u with | (fY9, rn9) => r = x + nu ∧ rn9 = nI (tl ++ [1]).length ∧ okY fY9 (tl ++ [1])) (fun (u : (Nat → Int32) × (Int32)) (t : State) => match u with | (fY9, rn9) => va_P (dC, dI) vwCl [(zo14irriiiiiirriirrrrlriiii m0 th aS aI im ac sp en wg op aB aT se dn aG aO aN aD bv aY rn9 kd nu tv), (zaI aY cY 20 fY9)] t.heap ∧ va_K (dC, dI) vwCl [(cY, .int)] t ∧ va_D (va_A [(zo14irriiiiiirriirrrrlriiii m0 th aS aI im ac sp en wg op aB aT se dn aG aO aN aD bv aY (nI tl.length) kd nu tv), (zaI aY cY 20 fY)] sz) [(zo14irriiiiiirriirrrrlriiii m0 th aS aI im ac sp en wg op aB aT se dn aG aO aN aD bv aY rn9 kd nu tv), (zaI aY cY 20 fY9)]) (va_A [(zo14irriiiiiirriirrrrlriiii m0 th aS aI im ac sp en wg op aB aT se dn aG aO aN aD bv aY (nI tl.length) kd nu tv), (zaI aY cY 20 fY)] sz)) 0 0 (va_A [(zo14irriiiiiirriirrrrlriiii m0 th aS aI im ac sp en wg op aB aT se dn aG aO aN aD bv aY (nI tl.length) kd nu tv), (zaI aY cY 20 fY)] sz) := by
  refine met_ofQ (cc := cX12_plainSees) (maxL := 2) (ret := (some .int)) (by decide) rfl ?_
  intro p e s m args below meth c s₁ Q B hml hv hQ
  obtain ⟨rfl, hsz, hP, hK, hD0⟩ := hv
  have hx := B.exec
  have hb := B.bytes
  have hr := B.returns
  have hts := atoms_spec (ws := wsX12_plainSees) B.pre
  have hown : s.vm.findClass RX12 = some m.cls := findClass_of_methodNamed B.named
  have hlocks := B.notSynchronized
  subst hsz
  have hD := hD0.self (sz := s.heap.size)
  generalize hAe : va_A [(zo14irriiiiiirriirrrrlriiii m0 th aS aI im ac sp en wg op aB aT se dn aG aO aN aD bv aY (nI tl.length) kd nu tv), (zaI aY cY 20 fY)] s.heap.size = A at hD hQ ⊢
  have hA : ∀ q : Nat, s.heap.size ≤ q → A q := fun q h => by rw [← hAe]; exact Or.inr h
  have hS : va_S A s.heap s.heap [] := va_S.rf
  have hl := lv_entry [.ref m0, .int x] (n := 2) (Nat.le_of_ble_eq_true rfl)
  rw [lg_entry_eq]
  generalize (lg_sl [.ref m0, .int x] ++ List.replicate (2 - (lg_sl [.ref m0, .int x]).length) Slot.unset).toArray = ls at hl ⊢
  generalize hag : ([.ref m0, .int x] : List Value).toArray = args at hts hQ ⊢
  have hl : lv_has ls 2 [(0, .ref m0), (1, .int x)] := hl
  obtain ⟨H, hH⟩ : ∃ H : Heap, H = s.heap := ⟨_, rfl⟩
  rw [← hH] at hP
  rw [← hH]
  have hS : va_S A s.heap H [] := by rw [hH]; exact hS
  obtain ⟨locs, hlo⟩ : ∃ L : List Loc, L = [] := ⟨_, rfl⟩
  rw [← hlo] at hS
  rw [← hlo]
  clear hH hlo
  refine lv_aload_n hx hb dX12_plainSees_0 rfl (lv_at hl 0 rfl) ?_
  refine lv_iconst (v := 1) hx hb dX12_plainSees_1 (by decide) ?_
  have hPc := hP.sub (ws' := [(zo14irriiiiiirriirrrrlriiii m0 th aS aI im ac sp en wg op aB aT se dn aG aO aN aD bv aY (nI tl.length) kd nu tv), (zaI aY cY 20 fY)]) [0, 1] rfl
  have hDc := hD.sub (ws' := [(zo14irriiiiiirriirrrrlriiii m0 th aS aI im ac sp en wg op aB aT se dn aG aO aN aD bv aY (nI tl.length) kd nu tv), (zaI aY cY 20 fY)]) [0, 1] (by decide) rfl
  have hKc := hK.sub (tys' := [(cY, .int)]) [0] rfl
  have hFc := va_free (wc := [(zo14irriiiiiirriirrrrlriiii m0 th aS aI im ac sp en wg op aB aT se dn aG aO aN aD bv aY (nI tl.length) kd nu tv), (zaI aY cY 20 fY)]) hD hS hA [0, 1] rfl
  refine va_callv (va_runV (As := [.int 1]) (rest := []) ⟨hx, hb, hml, hown, hts⟩ (c_ranBody l dC dI m0 aS aI aB aT aG aO aN aD aY th im ac sp en wg op se dn (nI tl.length) kd nu tv bv cY fY tl 1 H.size (by have hbS := btS_le kd; have hbG := btG_le kd; have hbL := btL_le kd; (try simp only [List.length_append, List.length_cons, List.length_nil]); omega) (zY)) (cwV 1 hts gX12_plainSees_X12_ranBody rfl rfl rfl hd_yX12_ranBody ⟨Nat.le_of_ble_eq_true rfl, Nat.le_of_ble_eq_true rfl⟩) ⟨fun a U g mk q => by obtain ⟨q0, q1, qP, qK, qD⟩ := q; exact ⟨q0, mvz g mk a q1, mvP g mk a qP, mvK g mk a qK, qD⟩, va_recv hK hP (ci := 14) (q := (RX12, TX12, 23)) (q0 := 0) rfl rfl, fun U hU hW => ⟨rfl, by rw [hU], by rw [hU]; exact hPc, va_K.moved hW.alike hKc, hDc.weaken (fun _ _ _ _ => trivial)⟩⟩ rfl rfl hl.1 rfl (lv_room (Nat.le_of_ble_eq_true rfl)) dX12_plainSees_2 ⟨Nat.le_of_ble_eq_true rfl, Nat.le_of_ble_eq_true rfl⟩) hS (fun q _ h => hFc q h) hFc (fun u tC H1 locs htC hvm hw_2 hB hz1 hk1 hS => ?_)
  obtain ⟨fY9_3, rn9_4⟩ := u
  try dsimp only at hw_2 hB
  obtain ⟨hP1, hK1, hD1⟩ := hB
  rw [htC] at hP1
  have hK1 := va_K.moved hvm.symm hK1
  obtain ⟨hP, hD⟩ := va_join (wr := []) (w1 := [(zo14irriiiiiirriirrrrlriiii m0 th aS aI im ac sp en wg op aB aT se dn aG aO aN aD bv aY rn9_4 kd nu tv), (zaI aY cY 20 fY9_3)]) hP hD [0, 1] [] rfl rfl (by decide) (by decide) hk1 hFc hP1 hD1
  have hK := (hK.sub (tys' := []) [] rfl).app hK1
  generalize H1 = H at hP hS ⊢
  have hP : va_P (dC, dI) vwCl [(zo14irriiiiiirriirrrrlriiii m0 th aS aI im ac sp en wg op aB aT se dn aG aO aN aD bv aY rn9_4 kd nu tv), (zaI aY cY 20 fY9_3)] H := hP
  have hD : va_D A [(zo14irriiiiiirriirrrrlriiii m0 th aS aI im ac sp en wg op aB aT se dn aG aO aN aD bv aY rn9_4 kd nu tv), (zaI aY cY 20 fY9_3)] := hD
  have hK : va_K (dC, dI) vwCl [(cY, .int)] s := hK
  obtain ⟨e_5, hY_6⟩ := hw_2
  obtain rfl := e_5
  refine lv_iload_n hx hb dX12_plainSees_5 rfl (lv_at hl 1 rfl) ?_
  refine lv_aload_n hx hb dX12_plainSees_6 rfl (lv_at hl 0 rfl) ?_
  refine va_get (D := (dC, dI)) (ci := 14) (v := .int nu) (C := RX12) (T := TX12) (N := 23) hx hb hts kc_plainSees_0 hown hK hP 0 rfl rfl 21 (by decide) (hts (.fieldLink RX12 252 "MistHeapsModel" "number" "I") kc_plainSees_1) (fun _ h9 => h9) rfl dX12_plainSees_7 ?_
  refine lv_iadd hx hb dX12_plainSees_10 ?_
  rw [hQ]
  have hP9 := hP.sub (ws' := [(zo14irriiiiiirriirrrrlriiii m0 th aS aI im ac sp en wg op aB aT se dn aG aO aN aD bv aY (nI ((tl ++ [1]).length)) kd nu tv), (zaI aY cY 20 fY9_3)]) [0, 1] rfl
  have hD9 := hD.sub (ws' := [(zo14irriiiiiirriirrrrlriiii m0 th aS aI im ac sp en wg op aB aT se dn aG aO aN aD bv aY (nI ((tl ++ [1]).length)) kd nu tv), (zaI aY cY 20 fY9_3)]) [0, 1] (by decide) rfl
  have hK9 := hK.sub (tys' := [(cY, .int)]) [0] rfl
  exact W.iret (v := x + nu) hx hb hr (fun tQ htQ hWQ => ⟨⟨(x + nu), (fY9_3, (nI ((tl ++ [1]).length))), rfl, ⟨rfl, rfl, hY_6⟩, by rw [htQ]; exact hP9, va_K.moved hWQ.alike hK9, hD9⟩, hS.F htQ⟩) hS.2.2 dX12_plainSees_11

theorem kc_seesActs_0 : ∀ w ∈ wsX120, w ∈ wsX12_seesActs := fun w h => List.mem_cons_of_mem _ (gin_wsX120 w h)
theorem kc_seesActs_1 : (.fieldLink RX12 255 "MistHeapsModel" "kind" "I" : Cond) ∈ wsX12_seesActs := kc_of 1160 rfl rfl rfl
theorem kc_seesActs_2 : (.fieldLink RX12 252 "MistHeapsModel" "number" "I" : Cond) ∈ wsX12_seesActs := kc_of 1161 rfl rfl rfl
set_option maxHeartbeats 4000000 in
set_option maxRecDepth 100000 in
theorem c_seesActs (l : Launch) (dC : Nat → ClassId) (dI : Nat → Nat → Nat) (m0 aS aI aB aT aG aO aN aD aY : Nat) (th im ac sp en wg op se dn rn kd nu tv : Int32) (bv : Int64) (cY : ClassId) (fY : Nat → Int32) (tl : List Nat) (x : Int32) (sz : Nat) (hq : tl.length ≤ 18) (zY : okY fY tl) : Met l yX12_seesActs wsX12_seesActs ({ frames := 2, cells := 0, slots := 0, locals := 42 } : Room) (va_Pc [.ref m0, .int x] (fun U => U.heap.size = sz ∧ va_P (dC, dI) vwCl [(zo14irriiiiiirriirrrrlriiii m0 th aS aI im ac sp en wg op aB aT se dn aG aO aN aD bv aY (nI tl.length) kd nu tv), (zaI aY cY 20 fY)] U.heap ∧ va_K (dC, dI) vwCl [(cY, .int)] U ∧ va_D (fun _ => True) [(zo14irriiiiiirriirrrrlriiii m0 th aS aI im ac sp en wg op aB aT se dn aG aO aN aD bv aY (nI tl.length) kd nu tv), (zaI aY cY 20 fY)])) (va_Qi (fun (r : Int32) (u : (Nat → Int32) × (Int32)) => match u with | (fY9, rn9) => r = acS kd nu tv x ∧ rn9 = nI (tl ++ btS kd).length ∧ okY fY9 (tl ++ btS kd)) (fun (u : (Nat → Int32) × (Int32)) (t : State) => match u with | (fY9, rn9) => va_P (dC, dI) vwCl [(zo14irriiiiiirriirrrrlriiii m0 th aS aI im ac sp en wg op aB aT se dn aG aO aN aD bv aY rn9 kd nu tv), (zaI aY cY 20 fY9)] t.heap ∧ va_K (dC, dI) vwCl [(cY, .int)] t ∧ va_D (va_A [(zo14irriiiiiirriirrrrlriiii m0 th aS aI im ac sp en wg op aB aT se dn aG aO aN aD bv aY (nI tl.length) kd nu tv), (zaI aY cY 20 fY)] sz) [(zo14irriiiiiirriirrrrlriiii m0 th aS aI im ac sp en wg op aB aT se dn aG aO aN aD bv aY rn9 kd nu tv), (zaI aY cY 20 fY9)]) (va_A [(zo14irriiiiiirriirrrrlriiii m0 th aS aI im ac sp en wg op aB aT se dn aG aO aN aD bv aY (nI tl.length) kd nu tv), (zaI aY cY 20 fY)] sz)) 0 0 (va_A [(zo14irriiiiiirriirrrrlriiii m0 th aS aI im ac sp en wg op aB aT se dn aG aO aN aD bv aY (nI tl.length) kd nu tv), (zaI aY cY 20 fY)] sz) := by
  refine met_ofQ (cc := cX12_seesActs) (maxL := 2) (ret := (some .int)) (by decide) rfl ?_
  intro p e s m args below meth c s₁ Q B hml hv hQ
  obtain ⟨rfl, hsz, hP, hK, hD0⟩ := hv
  have hx := B.exec
  have hb := B.bytes
  have hr := B.returns
  have hts := atoms_spec (ws := wsX12_seesActs) B.pre
  have hown : s.vm.findClass RX12 = some m.cls := findClass_of_methodNamed B.named
  have hlocks := B.notSynchronized
  subst hsz
  have hD := hD0.self (sz := s.heap.size)
  generalize hAe : va_A [(zo14irriiiiiirriirrrrlriiii m0 th aS aI im ac sp en wg op aB aT se dn aG aO aN aD bv aY (nI tl.length) kd nu tv), (zaI aY cY 20 fY)] s.heap.size = A at hD hQ ⊢
  have hA : ∀ q : Nat, s.heap.size ≤ q → A q := fun q h => by rw [← hAe]; exact Or.inr h
  have hS : va_S A s.heap s.heap [] := va_S.rf
  have hl := lv_entry [.ref m0, .int x] (n := 2) (Nat.le_of_ble_eq_true rfl)
  rw [lg_entry_eq]
  generalize (lg_sl [.ref m0, .int x] ++ List.replicate (2 - (lg_sl [.ref m0, .int x]).length) Slot.unset).toArray = ls at hl ⊢
  generalize hag : ([.ref m0, .int x] : List Value).toArray = args at hts hQ ⊢
  have hl : lv_has ls 2 [(0, .ref m0), (1, .int x)] := hl
  obtain ⟨H, hH⟩ : ∃ H : Heap, H = s.heap := ⟨_, rfl⟩
  rw [← hH] at hP
  rw [← hH]
  have hS : va_S A s.heap H [] := by rw [hH]; exact hS
  obtain ⟨locs, hlo⟩ : ∃ L : List Loc, L = [] := ⟨_, rfl⟩
  rw [← hlo] at hS
  rw [← hlo]
  clear hH hlo
  refine lv_aload_n hx hb dX12_seesActs_0 rfl (lv_at hl 0 rfl) ?_
  refine va_get (D := (dC, dI)) (ci := 14) (v := .int kd) (C := RX12) (T := TX12) (N := 23) hx hb hts kc_seesActs_0 hown hK hP 0 rfl rfl 20 (by decide) (hts (.fieldLink RX12 255 "MistHeapsModel" "kind" "I") kc_seesActs_1) (fun _ h9 => h9) rfl dX12_seesActs_1 ?_
  refine lv_iconst (v := 1) hx hb dX12_seesActs_4 (by decide) ?_
  refine vp_callSi (va_runS (As := [.int kd, .int 1]) (rest := []) ⟨hx, hb, hml, hown, hts⟩ (c_under l dC dI kd 1) (va_cwS 2 hts gX12_seesActs_X12_isUnder rfl rfl rfl hd_yX12_isUnder.2 ⟨Nat.le_of_ble_eq_true rfl, Nat.le_of_ble_eq_true rfl⟩) ⟨fun a U g mk q => ⟨q.1, trivial⟩, fun U hU hW => ⟨rfl, trivial⟩⟩ rfl rfl hl.1 rfl (lv_room (Nat.le_of_ble_eq_true rfl)) dX12_seesActs_5 ⟨Nat.le_of_ble_eq_true rfl, Nat.le_of_ble_eq_true rfl⟩).run (fun r_1 hw_2 => ?_)
  rcases hw_2 with ⟨rfl, hU_3⟩ | ⟨rfl, hU_3⟩
  · skip
    refine lv_if_eq (tgt := 25) hx hb dX12_seesActs_8 (by decide) (fun c_4 => absurd c_4 (by decide)) (fun _ => ?_)
    refine lv_aload_n hx hb dX12_seesActs_11 rfl (lv_at hl 0 rfl) ?_
    refine lv_bipush (v := 11) hx hb dX12_seesActs_12 (by decide) ?_
    have hPc := hP.sub (ws' := [(zo14irriiiiiirriirrrrlriiii m0 th aS aI im ac sp en wg op aB aT se dn aG aO aN aD bv aY (nI tl.length) kd nu tv), (zaI aY cY 20 fY)]) [0, 1] rfl
    have hDc := hD.sub (ws' := [(zo14irriiiiiirriirrrrlriiii m0 th aS aI im ac sp en wg op aB aT se dn aG aO aN aD bv aY (nI tl.length) kd nu tv), (zaI aY cY 20 fY)]) [0, 1] (by decide) rfl
    have hKc := hK.sub (tys' := [(cY, .int)]) [0] rfl
    have hFc := va_free (wc := [(zo14irriiiiiirriirrrrlriiii m0 th aS aI im ac sp en wg op aB aT se dn aG aO aN aD bv aY (nI tl.length) kd nu tv), (zaI aY cY 20 fY)]) hD hS hA [0, 1] rfl
    refine va_callv (va_runV (As := [.int 11]) (rest := []) ⟨hx, hb, hml, hown, hts⟩ (c_ranBody l dC dI m0 aS aI aB aT aG aO aN aD aY th im ac sp en wg op se dn (nI tl.length) kd nu tv bv cY fY tl 11 H.size (by have hbS := btS_le kd; have hbG := btG_le kd; have hbL := btL_le kd; (try simp only [List.length_append, List.length_cons, List.length_nil]); omega) (zY)) (cwV 1 hts gX12_seesActs_X12_ranBody rfl rfl rfl hd_yX12_ranBody ⟨Nat.le_of_ble_eq_true rfl, Nat.le_of_ble_eq_true rfl⟩) ⟨fun a U g mk q => by obtain ⟨q0, q1, qP, qK, qD⟩ := q; exact ⟨q0, mvz g mk a q1, mvP g mk a qP, mvK g mk a qK, qD⟩, va_recv hK hP (ci := 14) (q := (RX12, TX12, 23)) (q0 := 0) rfl rfl, fun U hU hW => ⟨rfl, by rw [hU], by rw [hU]; exact hPc, va_K.moved hW.alike hKc, hDc.weaken (fun _ _ _ _ => trivial)⟩⟩ rfl rfl hl.1 rfl (lv_room (Nat.le_of_ble_eq_true rfl)) dX12_seesActs_14 ⟨Nat.le_of_ble_eq_true rfl, Nat.le_of_ble_eq_true rfl⟩) hS (fun q _ h => hFc q h) hFc (fun u tC H1 locs htC hvm hw_6 hB hz1 hk1 hS => ?_)
    obtain ⟨fY9_7, rn9_8⟩ := u
    try dsimp only at hw_6 hB
    obtain ⟨hP1, hK1, hD1⟩ := hB
    rw [htC] at hP1
    have hK1 := va_K.moved hvm.symm hK1
    obtain ⟨hP, hD⟩ := va_join (wr := []) (w1 := [(zo14irriiiiiirriirrrrlriiii m0 th aS aI im ac sp en wg op aB aT se dn aG aO aN aD bv aY rn9_8 kd nu tv), (zaI aY cY 20 fY9_7)]) hP hD [0, 1] [] rfl rfl (by decide) (by decide) hk1 hFc hP1 hD1
    have hK := (hK.sub (tys' := []) [] rfl).app hK1
    generalize H1 = H at hP hS ⊢
    have hP : va_P (dC, dI) vwCl [(zo14irriiiiiirriirrrrlriiii m0 th aS aI im ac sp en wg op aB aT se dn aG aO aN aD bv aY rn9_8 kd nu tv), (zaI aY cY 20 fY9_7)] H := hP
    have hD : va_D A [(zo14irriiiiiirriirrrrlriiii m0 th aS aI im ac sp en wg op aB aT se dn aG aO aN aD bv aY rn9_8 kd nu tv), (zaI aY cY 20 fY9_7)] := hD
    have hK : va_K (dC, dI) vwCl [(cY, .int)] s := hK
    obtain ⟨e_9, hY_10⟩ := hw_6
    obtain rfl := e_9
    refine lv_aload_n hx hb dX12_seesActs_17 rfl (lv_at hl 0 rfl) ?_
    refine lv_iload_n hx hb dX12_seesActs_18 rfl (lv_at hl 1 rfl) ?_
    refine lv_iconst (v := 3) hx hb dX12_seesActs_19 (by decide) ?_
    refine lv_imul hx hb dX12_seesActs_20 ?_
    have hPc := hP.sub (ws' := [(zo14irriiiiiirriirrrrlriiii m0 th aS aI im ac sp en wg op aB aT se dn aG aO aN aD bv aY (nI ((tl ++ [11]).length)) kd nu tv), (zaI aY cY 20 fY9_7)]) [0, 1] rfl
    have hDc := hD.sub (ws' := [(zo14irriiiiiirriirrrrlriiii m0 th aS aI im ac sp en wg op aB aT se dn aG aO aN aD bv aY (nI ((tl ++ [11]).length)) kd nu tv), (zaI aY cY 20 fY9_7)]) [0, 1] (by decide) rfl
    have hKc := hK.sub (tys' := [(cY, .int)]) [0] rfl
    have hFc := va_free (wc := [(zo14irriiiiiirriirrrrlriiii m0 th aS aI im ac sp en wg op aB aT se dn aG aO aN aD bv aY (nI ((tl ++ [11]).length)) kd nu tv), (zaI aY cY 20 fY9_7)]) hD hS hA [0, 1] rfl
    refine va_calli (va_runV (As := [.int (x * 3)]) (rest := []) ⟨hx, hb, hml, hown, hts⟩ (c_plainSees l dC dI m0 aS aI aB aT aG aO aN aD aY th im ac sp en wg op se dn (nI ((tl ++ [11]).length)) kd nu tv bv cY fY9_7 (tl ++ [11]) (x * 3) H.size (by have hbS := btS_le kd; have hbG := btG_le kd; have hbL := btL_le kd; (try simp only [List.length_append, List.length_cons, List.length_nil]); omega) (hY_10)) (cwV 1 hts gX12_seesActs_X12_plainSees rfl rfl rfl hd_yX12_plainSees ⟨Nat.le_of_ble_eq_true rfl, Nat.le_of_ble_eq_true rfl⟩) ⟨fun a U g mk q => by obtain ⟨q0, q1, qP, qK, qD⟩ := q; exact ⟨q0, mvz g mk a q1, mvP g mk a qP, mvK g mk a qK, qD⟩, va_recv hK hP (ci := 14) (q := (RX12, TX12, 23)) (q0 := 0) rfl rfl, fun U hU hW => ⟨rfl, by rw [hU], by rw [hU]; exact hPc, va_K.moved hW.alike hKc, hDc.weaken (fun _ _ _ _ => trivial)⟩⟩ rfl rfl hl.1 rfl (lv_room (Nat.le_of_ble_eq_true rfl)) dX12_seesActs_21 ⟨Nat.le_of_ble_eq_true rfl, Nat.le_of_ble_eq_true rfl⟩) hS (fun q _ h => hFc q h) hFc (fun r_11 u tC H1 locs htC hvm hw_12 hB hz1 hk1 hS => ?_)
    obtain ⟨fY9_13, rn9_14⟩ := u
    try dsimp only at hw_12 hB
    obtain ⟨hP1, hK1, hD1⟩ := hB
    rw [htC] at hP1
    have hK1 := va_K.moved hvm.symm hK1
    obtain ⟨hP, hD⟩ := va_join (wr := []) (w1 := [(zo14irriiiiiirriirrrrlriiii m0 th aS aI im ac sp en wg op aB aT se dn aG aO aN aD bv aY rn9_14 kd nu tv), (zaI aY cY 20 fY9_13)]) hP hD [0, 1] [] rfl rfl (by decide) (by decide) hk1 hFc hP1 hD1
    have hK := (hK.sub (tys' := []) [] rfl).app hK1
    generalize H1 = H at hP hS ⊢
    have hP : va_P (dC, dI) vwCl [(zo14irriiiiiirriirrrrlriiii m0 th aS aI im ac sp en wg op aB aT se dn aG aO aN aD bv aY rn9_14 kd nu tv), (zaI aY cY 20 fY9_13)] H := hP
    have hD : va_D A [(zo14irriiiiiirriirrrrlriiii m0 th aS aI im ac sp en wg op aB aT se dn aG aO aN aD bv aY rn9_14 kd nu tv), (zaI aY cY 20 fY9_13)] := hD
    have hK : va_K (dC, dI) vwCl [(cY, .int)] s := hK
    obtain ⟨er_15, h_16⟩ := hw_12
    obtain ⟨e_17, hY_18⟩ := h_16
    obtain rfl := e_17
    subst er_15
    rw [hQ]
    have hP9 := hP.sub (ws' := [(zo14irriiiiiirriirrrrlriiii m0 th aS aI im ac sp en wg op aB aT se dn aG aO aN aD bv aY (nI (((tl ++ [11]) ++ [1]).length)) kd nu tv), (zaI aY cY 20 fY9_13)]) [0, 1] rfl
    have hD9 := hD.sub (ws' := [(zo14irriiiiiirriirrrrlriiii m0 th aS aI im ac sp en wg op aB aT se dn aG aO aN aD bv aY (nI (((tl ++ [11]) ++ [1]).length)) kd nu tv), (zaI aY cY 20 fY9_13)]) [0, 1] (by decide) rfl
    have hK9 := hK.sub (tys' := [(cY, .int)]) [0] rfl
    exact W.iret (v := (x * 3) + nu) hx hb hr (fun tQ htQ hWQ => ⟨⟨((x * 3) + nu), (fY9_13, (nI (((tl ++ [11]) ++ [1]).length))), rfl, ⟨acS_1 (by assumption), by rw [show tl ++ btS kd = ((tl ++ [11]) ++ [1]) from (congrArg (fun z => tl ++ z) (btS_1 (by assumption))).trans (by simp)]; exact ⟨rfl, hY_18⟩⟩, by rw [htQ]; exact hP9, va_K.moved hWQ.alike hK9, hD9⟩, hS.F htQ⟩) hS.2.2 dX12_seesActs_24
  · skip
    refine lv_if_eq (tgt := 25) hx hb dX12_seesActs_8 (by decide) (fun _ => ?_) (fun c_19 => absurd c_19 (by decide))
    refine lv_aload_n hx hb dX12_seesActs_25 rfl (lv_at hl 0 rfl) ?_
    refine va_get (D := (dC, dI)) (ci := 14) (v := .int kd) (C := RX12) (T := TX12) (N := 23) hx hb hts kc_seesActs_0 hown hK hP 0 rfl rfl 20 (by decide) (hts (.fieldLink RX12 255 "MistHeapsModel" "kind" "I") kc_seesActs_1) (fun _ h9 => h9) rfl dX12_seesActs_26 ?_
    refine lv_iconst (v := 5) hx hb dX12_seesActs_29 (by decide) ?_
    refine lv_icmp_ne (tgt := 50) hx hb dX12_seesActs_30 (by decide) (fun c_20 => ?_) (fun c_20 => ?_)
    · skip
      refine lv_aload_n hx hb dX12_seesActs_50 rfl (lv_at hl 0 rfl) ?_
      refine lv_iload_n hx hb dX12_seesActs_51 rfl (lv_at hl 1 rfl) ?_
      have hPc := hP.sub (ws' := [(zo14irriiiiiirriirrrrlriiii m0 th aS aI im ac sp en wg op aB aT se dn aG aO aN aD bv aY (nI tl.length) kd nu tv), (zaI aY cY 20 fY)]) [0, 1] rfl
      have hDc := hD.sub (ws' := [(zo14irriiiiiirriirrrrlriiii m0 th aS aI im ac sp en wg op aB aT se dn aG aO aN aD bv aY (nI tl.length) kd nu tv), (zaI aY cY 20 fY)]) [0, 1] (by decide) rfl
      have hKc := hK.sub (tys' := [(cY, .int)]) [0] rfl
      have hFc := va_free (wc := [(zo14irriiiiiirriirrrrlriiii m0 th aS aI im ac sp en wg op aB aT se dn aG aO aN aD bv aY (nI tl.length) kd nu tv), (zaI aY cY 20 fY)]) hD hS hA [0, 1] rfl
      refine va_calli (va_runV (As := [.int x]) (rest := []) ⟨hx, hb, hml, hown, hts⟩ (c_plainSees l dC dI m0 aS aI aB aT aG aO aN aD aY th im ac sp en wg op se dn (nI tl.length) kd nu tv bv cY fY tl x H.size (by have hbS := btS_le kd; have hbG := btG_le kd; have hbL := btL_le kd; (try simp only [List.length_append, List.length_cons, List.length_nil]); omega) (zY)) (cwV 1 hts gX12_seesActs_X12_plainSees rfl rfl rfl hd_yX12_plainSees ⟨Nat.le_of_ble_eq_true rfl, Nat.le_of_ble_eq_true rfl⟩) ⟨fun a U g mk q => by obtain ⟨q0, q1, qP, qK, qD⟩ := q; exact ⟨q0, mvz g mk a q1, mvP g mk a qP, mvK g mk a qK, qD⟩, va_recv hK hP (ci := 14) (q := (RX12, TX12, 23)) (q0 := 0) rfl rfl, fun U hU hW => ⟨rfl, by rw [hU], by rw [hU]; exact hPc, va_K.moved hW.alike hKc, hDc.weaken (fun _ _ _ _ => trivial)⟩⟩ rfl rfl hl.1 rfl (lv_room (Nat.le_of_ble_eq_true rfl)) dX12_seesActs_52 ⟨Nat.le_of_ble_eq_true rfl, Nat.le_of_ble_eq_true rfl⟩) hS (fun q _ h => hFc q h) hFc (fun r_21 u tC H1 locs htC hvm hw_22 hB hz1 hk1 hS => ?_)
      obtain ⟨fY9_23, rn9_24⟩ := u
      try dsimp only at hw_22 hB
      obtain ⟨hP1, hK1, hD1⟩ := hB
      rw [htC] at hP1
      have hK1 := va_K.moved hvm.symm hK1
      obtain ⟨hP, hD⟩ := va_join (wr := []) (w1 := [(zo14irriiiiiirriirrrrlriiii m0 th aS aI im ac sp en wg op aB aT se dn aG aO aN aD bv aY rn9_24 kd nu tv), (zaI aY cY 20 fY9_23)]) hP hD [0, 1] [] rfl rfl (by decide) (by decide) hk1 hFc hP1 hD1
      have hK := (hK.sub (tys' := []) [] rfl).app hK1
      generalize H1 = H at hP hS ⊢
      have hP : va_P (dC, dI) vwCl [(zo14irriiiiiirriirrrrlriiii m0 th aS aI im ac sp en wg op aB aT se dn aG aO aN aD bv aY rn9_24 kd nu tv), (zaI aY cY 20 fY9_23)] H := hP
      have hD : va_D A [(zo14irriiiiiirriirrrrlriiii m0 th aS aI im ac sp en wg op aB aT se dn aG aO aN aD bv aY rn9_24 kd nu tv), (zaI aY cY 20 fY9_23)] := hD
      have hK : va_K (dC, dI) vwCl [(cY, .int)] s := hK
      obtain ⟨er_25, h_26⟩ := hw_22
      obtain ⟨e_27, hY_28⟩ := h_26
      obtain rfl := e_27
      subst er_25
      rw [hQ]
      have hP9 := hP.sub (ws' := [(zo14irriiiiiirriirrrrlriiii m0 th aS aI im ac sp en wg op aB aT se dn aG aO aN aD bv aY (nI ((tl ++ [1]).length)) kd nu tv), (zaI aY cY 20 fY9_23)]) [0, 1] rfl
      have hD9 := hD.sub (ws' := [(zo14irriiiiiirriirrrrlriiii m0 th aS aI im ac sp en wg op aB aT se dn aG aO aN aD bv aY (nI ((tl ++ [1]).length)) kd nu tv), (zaI aY cY 20 fY9_23)]) [0, 1] (by decide) rfl
      have hK9 := hK.sub (tys' := [(cY, .int)]) [0] rfl
      exact W.iret (v := x + nu) hx hb hr (fun tQ htQ hWQ => ⟨⟨(x + nu), (fY9_23, (nI ((tl ++ [1]).length))), rfl, ⟨acS_0 (by assumption) (by assumption), by rw [show tl ++ btS kd = (tl ++ [1]) from (congrArg (fun z => tl ++ z) (btS_0 (by assumption) (by assumption))).trans (by simp)]; exact ⟨rfl, hY_28⟩⟩, by rw [htQ]; exact hP9, va_K.moved hWQ.alike hK9, hD9⟩, hS.F htQ⟩) hS.2.2 dX12_seesActs_55
    · skip
      refine lv_aload_n hx hb dX12_seesActs_33 rfl (lv_at hl 0 rfl) ?_
      refine lv_bipush (v := 51) hx hb dX12_seesActs_34 (by decide) ?_
      have hPc := hP.sub (ws' := [(zo14irriiiiiirriirrrrlriiii m0 th aS aI im ac sp en wg op aB aT se dn aG aO aN aD bv aY (nI tl.length) kd nu tv), (zaI aY cY 20 fY)]) [0, 1] rfl
      have hDc := hD.sub (ws' := [(zo14irriiiiiirriirrrrlriiii m0 th aS aI im ac sp en wg op aB aT se dn aG aO aN aD bv aY (nI tl.length) kd nu tv), (zaI aY cY 20 fY)]) [0, 1] (by decide) rfl
      have hKc := hK.sub (tys' := [(cY, .int)]) [0] rfl
      have hFc := va_free (wc := [(zo14irriiiiiirriirrrrlriiii m0 th aS aI im ac sp en wg op aB aT se dn aG aO aN aD bv aY (nI tl.length) kd nu tv), (zaI aY cY 20 fY)]) hD hS hA [0, 1] rfl
      refine va_callv (va_runV (As := [.int 51]) (rest := []) ⟨hx, hb, hml, hown, hts⟩ (c_ranBody l dC dI m0 aS aI aB aT aG aO aN aD aY th im ac sp en wg op se dn (nI tl.length) kd nu tv bv cY fY tl 51 H.size (by have hbS := btS_le kd; have hbG := btG_le kd; have hbL := btL_le kd; (try simp only [List.length_append, List.length_cons, List.length_nil]); omega) (zY)) (cwV 1 hts gX12_seesActs_X12_ranBody rfl rfl rfl hd_yX12_ranBody ⟨Nat.le_of_ble_eq_true rfl, Nat.le_of_ble_eq_true rfl⟩) ⟨fun a U g mk q => by obtain ⟨q0, q1, qP, qK, qD⟩ := q; exact ⟨q0, mvz g mk a q1, mvP g mk a qP, mvK g mk a qK, qD⟩, va_recv hK hP (ci := 14) (q := (RX12, TX12, 23)) (q0 := 0) rfl rfl, fun U hU hW => ⟨rfl, by rw [hU], by rw [hU]; exact hPc, va_K.moved hW.alike hKc, hDc.weaken (fun _ _ _ _ => trivial)⟩⟩ rfl rfl hl.1 rfl (lv_room (Nat.le_of_ble_eq_true rfl)) dX12_seesActs_36 ⟨Nat.le_of_ble_eq_true rfl, Nat.le_of_ble_eq_true rfl⟩) hS (fun q _ h => hFc q h) hFc (fun u tC H1 locs htC hvm hw_30 hB hz1 hk1 hS => ?_)
      obtain ⟨fY9_31, rn9_32⟩ := u
      try dsimp only at hw_30 hB
      obtain ⟨hP1, hK1, hD1⟩ := hB
      rw [htC] at hP1
      have hK1 := va_K.moved hvm.symm hK1
      obtain ⟨hP, hD⟩ := va_join (wr := []) (w1 := [(zo14irriiiiiirriirrrrlriiii m0 th aS aI im ac sp en wg op aB aT se dn aG aO aN aD bv aY rn9_32 kd nu tv), (zaI aY cY 20 fY9_31)]) hP hD [0, 1] [] rfl rfl (by decide) (by decide) hk1 hFc hP1 hD1
      have hK := (hK.sub (tys' := []) [] rfl).app hK1
      generalize H1 = H at hP hS ⊢
      have hP : va_P (dC, dI) vwCl [(zo14irriiiiiirriirrrrlriiii m0 th aS aI im ac sp en wg op aB aT se dn aG aO aN aD bv aY rn9_32 kd nu tv), (zaI aY cY 20 fY9_31)] H := hP
      have hD : va_D A [(zo14irriiiiiirriirrrrlriiii m0 th aS aI im ac sp en wg op aB aT se dn aG aO aN aD bv aY rn9_32 kd nu tv), (zaI aY cY 20 fY9_31)] := hD
      have hK : va_K (dC, dI) vwCl [(cY, .int)] s := hK
      obtain ⟨e_33, hY_34⟩ := hw_30
      obtain rfl := e_33
      refine lv_aload_n hx hb dX12_seesActs_39 rfl (lv_at hl 0 rfl) ?_
      refine lv_iload_n hx hb dX12_seesActs_40 rfl (lv_at hl 1 rfl) ?_
      have hPc := hP.sub (ws' := [(zo14irriiiiiirriirrrrlriiii m0 th aS aI im ac sp en wg op aB aT se dn aG aO aN aD bv aY (nI ((tl ++ [51]).length)) kd nu tv), (zaI aY cY 20 fY9_31)]) [0, 1] rfl
      have hDc := hD.sub (ws' := [(zo14irriiiiiirriirrrrlriiii m0 th aS aI im ac sp en wg op aB aT se dn aG aO aN aD bv aY (nI ((tl ++ [51]).length)) kd nu tv), (zaI aY cY 20 fY9_31)]) [0, 1] (by decide) rfl
      have hKc := hK.sub (tys' := [(cY, .int)]) [0] rfl
      have hFc := va_free (wc := [(zo14irriiiiiirriirrrrlriiii m0 th aS aI im ac sp en wg op aB aT se dn aG aO aN aD bv aY (nI ((tl ++ [51]).length)) kd nu tv), (zaI aY cY 20 fY9_31)]) hD hS hA [0, 1] rfl
      refine va_calli (va_runV (As := [.int x]) (rest := []) ⟨hx, hb, hml, hown, hts⟩ (c_plainSees l dC dI m0 aS aI aB aT aG aO aN aD aY th im ac sp en wg op se dn (nI ((tl ++ [51]).length)) kd nu tv bv cY fY9_31 (tl ++ [51]) x H.size (by have hbS := btS_le kd; have hbG := btG_le kd; have hbL := btL_le kd; (try simp only [List.length_append, List.length_cons, List.length_nil]); omega) (hY_34)) (cwV 1 hts gX12_seesActs_X12_plainSees rfl rfl rfl hd_yX12_plainSees ⟨Nat.le_of_ble_eq_true rfl, Nat.le_of_ble_eq_true rfl⟩) ⟨fun a U g mk q => by obtain ⟨q0, q1, qP, qK, qD⟩ := q; exact ⟨q0, mvz g mk a q1, mvP g mk a qP, mvK g mk a qK, qD⟩, va_recv hK hP (ci := 14) (q := (RX12, TX12, 23)) (q0 := 0) rfl rfl, fun U hU hW => ⟨rfl, by rw [hU], by rw [hU]; exact hPc, va_K.moved hW.alike hKc, hDc.weaken (fun _ _ _ _ => trivial)⟩⟩ rfl rfl hl.1 rfl (lv_room (Nat.le_of_ble_eq_true rfl)) dX12_seesActs_41 ⟨Nat.le_of_ble_eq_true rfl, Nat.le_of_ble_eq_true rfl⟩) hS (fun q _ h => hFc q h) hFc (fun r_35 u tC H1 locs htC hvm hw_36 hB hz1 hk1 hS => ?_)
      obtain ⟨fY9_37, rn9_38⟩ := u
      try dsimp only at hw_36 hB
      obtain ⟨hP1, hK1, hD1⟩ := hB
      rw [htC] at hP1
      have hK1 := va_K.moved hvm.symm hK1
      obtain ⟨hP, hD⟩ := va_join (wr := []) (w1 := [(zo14irriiiiiirriirrrrlriiii m0 th aS aI im ac sp en wg op aB aT se dn aG aO aN aD bv aY rn9_38 kd nu tv), (zaI aY cY 20 fY9_37)]) hP hD [0, 1] [] rfl rfl (by decide) (by decide) hk1 hFc hP1 hD1
      have hK := (hK.sub (tys' := []) [] rfl).app hK1
      generalize H1 = H at hP hS ⊢
      have hP : va_P (dC, dI) vwCl [(zo14irriiiiiirriirrrrlriiii m0 th aS aI im ac sp en wg op aB aT se dn aG aO aN aD bv aY rn9_38 kd nu tv), (zaI aY cY 20 fY9_37)] H := hP
      have hD : va_D A [(zo14irriiiiiirriirrrrlriiii m0 th aS aI im ac sp en wg op aB aT se dn aG aO aN aD bv aY rn9_38 kd nu tv), (zaI aY cY 20 fY9_37)] := hD
      have hK : va_K (dC, dI) vwCl [(cY, .int)] s := hK
      obtain ⟨er_39, h_40⟩ := hw_36
      obtain ⟨e_41, hY_42⟩ := h_40
      obtain rfl := e_41
      subst er_39
      refine lv_aload_n hx hb dX12_seesActs_44 rfl (lv_at hl 0 rfl) ?_
      refine va_get (D := (dC, dI)) (ci := 14) (v := .int nu) (C := RX12) (T := TX12) (N := 23) hx hb hts kc_seesActs_0 hown hK hP 0 rfl rfl 21 (by decide) (hts (.fieldLink RX12 252 "MistHeapsModel" "number" "I") kc_seesActs_2) (fun _ h9 => h9) rfl dX12_seesActs_45 ?_
      refine lv_ixor hx hb dX12_seesActs_48 ?_
      rw [hQ]
      have hP9 := hP.sub (ws' := [(zo14irriiiiiirriirrrrlriiii m0 th aS aI im ac sp en wg op aB aT se dn aG aO aN aD bv aY (nI (((tl ++ [51]) ++ [1]).length)) kd nu tv), (zaI aY cY 20 fY9_37)]) [0, 1] rfl
      have hD9 := hD.sub (ws' := [(zo14irriiiiiirriirrrrlriiii m0 th aS aI im ac sp en wg op aB aT se dn aG aO aN aD bv aY (nI (((tl ++ [51]) ++ [1]).length)) kd nu tv), (zaI aY cY 20 fY9_37)]) [0, 1] (by decide) rfl
      have hK9 := hK.sub (tys' := [(cY, .int)]) [0] rfl
      exact W.iret (v := (x + nu) ^^^ nu) hx hb hr (fun tQ htQ hWQ => ⟨⟨((x + nu) ^^^ nu), (fY9_37, (nI (((tl ++ [51]) ++ [1]).length))), rfl, ⟨acS_5 (by assumption) (by assumption), by rw [show tl ++ btS kd = ((tl ++ [51]) ++ [1]) from (congrArg (fun z => tl ++ z) (btS_5 (by assumption) (by assumption))).trans (by simp)]; exact ⟨rfl, hY_42⟩⟩, by rw [htQ]; exact hP9, va_K.moved hWQ.alike hK9, hD9⟩, hS.F htQ⟩) hS.2.2 dX12_seesActs_49

theorem kc_plainGoes_0 : ∀ w ∈ wsX120, w ∈ wsX12_plainGoes := fun w h => List.mem_cons_of_mem _ (gin_wsX120 w h)
theorem kc_plainGoes_1 : (.fieldLink RX12 267 "MistHeapsModel" "tellsV" "I" : Cond) ∈ wsX12_plainGoes := kc_of 1162 rfl rfl rfl
set_option maxHeartbeats 4000000 in
set_option maxRecDepth 100000 in
theorem c_plainGoes (l : Launch) (dC : Nat → ClassId) (dI : Nat → Nat → Nat) (m0 aS aI aB aT aG aO aN aD aY : Nat) (th im ac sp en wg op se dn rn kd nu tv : Int32) (bv : Int64) (cY : ClassId) (fY : Nat → Int32) (tl : List Nat) (x : Int32) (sz : Nat) (hq : tl.length ≤ 17) (zY : okY fY tl) : Met l yX12_plainGoes wsX12_plainGoes ({ frames := 3, cells := 0, slots := 0, locals := 63 } : Room) (va_Pc [.ref m0, .int x] (fun U => U.heap.size = sz ∧ va_P (dC, dI) vwCl [(zo14irriiiiiirriirrrrlriiii m0 th aS aI im ac sp en wg op aB aT se dn aG aO aN aD bv aY (nI tl.length) kd nu tv), (zaI aY cY 20 fY)] U.heap ∧ va_K (dC, dI) vwCl [(cY, .int)] U ∧ va_D (fun _ => True) [(zo14irriiiiiirriirrrrlriiii m0 th aS aI im ac sp en wg op aB aT se dn aG aO aN aD bv aY (nI tl.length) kd nu tv), (zaI aY cY 20 fY)])) (va_Qi (fun (r : Int32) (u : (Nat → Int32) × (Int32)) => match u with | (fY9, rn9) => r = acS kd nu tv x - tv ∧ rn9 = nI (tl ++ (2 :: btS kd)).length ∧ okY fY9 (tl ++ (2 :: btS kd))) (fun (u : (Nat → Int32) × (Int32)) (t : State) => match u with | (fY9, rn9) => va_P (dC, dI) vwCl [(zo14irriiiiiirriirrrrlriiii m0 th aS aI im ac sp en wg op aB aT se dn aG aO aN aD bv aY rn9 kd nu tv), (zaI aY cY 20 fY9)] t.heap ∧ va_K (dC, dI) vwCl [(cY, .int)] t ∧ va_D (va_A [(zo14irriiiiiirriirrrrlriiii m0 th aS aI im ac sp en wg op aB aT se dn aG aO aN aD bv aY (nI tl.length) kd nu tv), (zaI aY cY 20 fY)] sz) [(zo14irriiiiiirriirrrrlriiii m0 th aS aI im ac sp en wg op aB aT se dn aG aO aN aD bv aY rn9 kd nu tv), (zaI aY cY 20 fY9)]) (va_A [(zo14irriiiiiirriirrrrlriiii m0 th aS aI im ac sp en wg op aB aT se dn aG aO aN aD bv aY (nI tl.length) kd nu tv), (zaI aY cY 20 fY)] sz)) 0 0 (va_A [(zo14irriiiiiirriirrrrlriiii m0 th aS aI im ac sp en wg op aB aT se dn aG aO aN aD bv aY (nI tl.length) kd nu tv), (zaI aY cY 20 fY)] sz) := by
  refine met_ofQ (cc := cX12_plainGoes) (maxL := 2) (ret := (some .int)) (by decide) rfl ?_
  intro p e s m args below meth c s₁ Q B hml hv hQ
  obtain ⟨rfl, hsz, hP, hK, hD0⟩ := hv
  have hx := B.exec
  have hb := B.bytes
  have hr := B.returns
  have hts := atoms_spec (ws := wsX12_plainGoes) B.pre
  have hown : s.vm.findClass RX12 = some m.cls := findClass_of_methodNamed B.named
  have hlocks := B.notSynchronized
  subst hsz
  have hD := hD0.self (sz := s.heap.size)
  generalize hAe : va_A [(zo14irriiiiiirriirrrrlriiii m0 th aS aI im ac sp en wg op aB aT se dn aG aO aN aD bv aY (nI tl.length) kd nu tv), (zaI aY cY 20 fY)] s.heap.size = A at hD hQ ⊢
  have hA : ∀ q : Nat, s.heap.size ≤ q → A q := fun q h => by rw [← hAe]; exact Or.inr h
  have hS : va_S A s.heap s.heap [] := va_S.rf
  have hl := lv_entry [.ref m0, .int x] (n := 2) (Nat.le_of_ble_eq_true rfl)
  rw [lg_entry_eq]
  generalize (lg_sl [.ref m0, .int x] ++ List.replicate (2 - (lg_sl [.ref m0, .int x]).length) Slot.unset).toArray = ls at hl ⊢
  generalize hag : ([.ref m0, .int x] : List Value).toArray = args at hts hQ ⊢
  have hl : lv_has ls 2 [(0, .ref m0), (1, .int x)] := hl
  obtain ⟨H, hH⟩ : ∃ H : Heap, H = s.heap := ⟨_, rfl⟩
  rw [← hH] at hP
  rw [← hH]
  have hS : va_S A s.heap H [] := by rw [hH]; exact hS
  obtain ⟨locs, hlo⟩ : ∃ L : List Loc, L = [] := ⟨_, rfl⟩
  rw [← hlo] at hS
  rw [← hlo]
  clear hH hlo
  refine lv_aload_n hx hb dX12_plainGoes_0 rfl (lv_at hl 0 rfl) ?_
  refine lv_iconst (v := 2) hx hb dX12_plainGoes_1 (by decide) ?_
  have hPc := hP.sub (ws' := [(zo14irriiiiiirriirrrrlriiii m0 th aS aI im ac sp en wg op aB aT se dn aG aO aN aD bv aY (nI tl.length) kd nu tv), (zaI aY cY 20 fY)]) [0, 1] rfl
  have hDc := hD.sub (ws' := [(zo14irriiiiiirriirrrrlriiii m0 th aS aI im ac sp en wg op aB aT se dn aG aO aN aD bv aY (nI tl.length) kd nu tv), (zaI aY cY 20 fY)]) [0, 1] (by decide) rfl
  have hKc := hK.sub (tys' := [(cY, .int)]) [0] rfl
  have hFc := va_free (wc := [(zo14irriiiiiirriirrrrlriiii m0 th aS aI im ac sp en wg op aB aT se dn aG aO aN aD bv aY (nI tl.length) kd nu tv), (zaI aY cY 20 fY)]) hD hS hA [0, 1] rfl
  refine va_callv (va_runV (As := [.int 2]) (rest := []) ⟨hx, hb, hml, hown, hts⟩ (c_ranBody l dC dI m0 aS aI aB aT aG aO aN aD aY th im ac sp en wg op se dn (nI tl.length) kd nu tv bv cY fY tl 2 H.size (by have hbS := btS_le kd; have hbG := btG_le kd; have hbL := btL_le kd; (try simp only [List.length_append, List.length_cons, List.length_nil]); omega) (zY)) (cwV 1 hts gX12_plainGoes_X12_ranBody rfl rfl rfl hd_yX12_ranBody ⟨Nat.le_of_ble_eq_true rfl, Nat.le_of_ble_eq_true rfl⟩) ⟨fun a U g mk q => by obtain ⟨q0, q1, qP, qK, qD⟩ := q; exact ⟨q0, mvz g mk a q1, mvP g mk a qP, mvK g mk a qK, qD⟩, va_recv hK hP (ci := 14) (q := (RX12, TX12, 23)) (q0 := 0) rfl rfl, fun U hU hW => ⟨rfl, by rw [hU], by rw [hU]; exact hPc, va_K.moved hW.alike hKc, hDc.weaken (fun _ _ _ _ => trivial)⟩⟩ rfl rfl hl.1 rfl (lv_room (Nat.le_of_ble_eq_true rfl)) dX12_plainGoes_2 ⟨Nat.le_of_ble_eq_true rfl, Nat.le_of_ble_eq_true rfl⟩) hS (fun q _ h => hFc q h) hFc (fun u tC H1 locs htC hvm hw_2 hB hz1 hk1 hS => ?_)
  obtain ⟨fY9_3, rn9_4⟩ := u
  try dsimp only at hw_2 hB
  obtain ⟨hP1, hK1, hD1⟩ := hB
  rw [htC] at hP1
  have hK1 := va_K.moved hvm.symm hK1
  obtain ⟨hP, hD⟩ := va_join (wr := []) (w1 := [(zo14irriiiiiirriirrrrlriiii m0 th aS aI im ac sp en wg op aB aT se dn aG aO aN aD bv aY rn9_4 kd nu tv), (zaI aY cY 20 fY9_3)]) hP hD [0, 1] [] rfl rfl (by decide) (by decide) hk1 hFc hP1 hD1
  have hK := (hK.sub (tys' := []) [] rfl).app hK1
  generalize H1 = H at hP hS ⊢
  have hP : va_P (dC, dI) vwCl [(zo14irriiiiiirriirrrrlriiii m0 th aS aI im ac sp en wg op aB aT se dn aG aO aN aD bv aY rn9_4 kd nu tv), (zaI aY cY 20 fY9_3)] H := hP
  have hD : va_D A [(zo14irriiiiiirriirrrrlriiii m0 th aS aI im ac sp en wg op aB aT se dn aG aO aN aD bv aY rn9_4 kd nu tv), (zaI aY cY 20 fY9_3)] := hD
  have hK : va_K (dC, dI) vwCl [(cY, .int)] s := hK
  obtain ⟨e_5, hY_6⟩ := hw_2
  obtain rfl := e_5
  refine lv_aload_n hx hb dX12_plainGoes_5 rfl (lv_at hl 0 rfl) ?_
  refine lv_iload_n hx hb dX12_plainGoes_6 rfl (lv_at hl 1 rfl) ?_
  have hPc := hP.sub (ws' := [(zo14irriiiiiirriirrrrlriiii m0 th aS aI im ac sp en wg op aB aT se dn aG aO aN aD bv aY (nI ((tl ++ [2]).length)) kd nu tv), (zaI aY cY 20 fY9_3)]) [0, 1] rfl
  have hDc := hD.sub (ws' := [(zo14irriiiiiirriirrrrlriiii m0 th aS aI im ac sp en wg op aB aT se dn aG aO aN aD bv aY (nI ((tl ++ [2]).length)) kd nu tv), (zaI aY cY 20 fY9_3)]) [0, 1] (by decide) rfl
  have hKc := hK.sub (tys' := [(cY, .int)]) [0] rfl
  have hFc := va_free (wc := [(zo14irriiiiiirriirrrrlriiii m0 th aS aI im ac sp en wg op aB aT se dn aG aO aN aD bv aY (nI ((tl ++ [2]).length)) kd nu tv), (zaI aY cY 20 fY9_3)]) hD hS hA [0, 1] rfl
  refine va_calli (va_runV (As := [.int x]) (rest := []) ⟨hx, hb, hml, hown, hts⟩ (c_seesActs l dC dI m0 aS aI aB aT aG aO aN aD aY th im ac sp en wg op se dn (nI ((tl ++ [2]).length)) kd nu tv bv cY fY9_3 (tl ++ [2]) x H.size (by have hbS := btS_le kd; have hbG := btG_le kd; have hbL := btL_le kd; (try simp only [List.length_append, List.length_cons, List.length_nil]); omega) (hY_6)) (cwV 1 hts gX12_plainGoes_X12_seesActs rfl rfl rfl hd_yX12_seesActs ⟨Nat.le_of_ble_eq_true rfl, Nat.le_of_ble_eq_true rfl⟩) ⟨fun a U g mk q => by obtain ⟨q0, q1, qP, qK, qD⟩ := q; exact ⟨q0, mvz g mk a q1, mvP g mk a qP, mvK g mk a qK, qD⟩, va_recv hK hP (ci := 14) (q := (RX12, TX12, 23)) (q0 := 0) rfl rfl, fun U hU hW => ⟨rfl, by rw [hU], by rw [hU]; exact hPc, va_K.moved hW.alike hKc, hDc.weaken (fun _ _ _ _ => trivial)⟩⟩ rfl rfl hl.1 rfl (lv_room (Nat.le_of_ble_eq_true rfl)) dX12_plainGoes_7 ⟨Nat.le_of_ble_eq_true rfl, Nat.le_of_ble_eq_true rfl⟩) hS (fun q _ h => hFc q h) hFc (fun r_7 u tC H1 locs htC hvm hw_8 hB hz1 hk1 hS => ?_)
  obtain ⟨fY9_9, rn9_10⟩ := u
  try dsimp only at hw_8 hB
  obtain ⟨hP1, hK1, hD1⟩ := hB
  rw [htC] at hP1
  have hK1 := va_K.moved hvm.symm hK1
  obtain ⟨hP, hD⟩ := va_join (wr := []) (w1 := [(zo14irriiiiiirriirrrrlriiii m0 th aS aI im ac sp en wg op aB aT se dn aG aO aN aD bv aY rn9_10 kd nu tv), (zaI aY cY 20 fY9_9)]) hP hD [0, 1] [] rfl rfl (by decide) (by decide) hk1 hFc hP1 hD1
  have hK := (hK.sub (tys' := []) [] rfl).app hK1
  generalize H1 = H at hP hS ⊢
  have hP : va_P (dC, dI) vwCl [(zo14irriiiiiirriirrrrlriiii m0 th aS aI im ac sp en wg op aB aT se dn aG aO aN aD bv aY rn9_10 kd nu tv), (zaI aY cY 20 fY9_9)] H := hP
  have hD : va_D A [(zo14irriiiiiirriirrrrlriiii m0 th aS aI im ac sp en wg op aB aT se dn aG aO aN aD bv aY rn9_10 kd nu tv), (zaI aY cY 20 fY9_9)] := hD
  have hK : va_K (dC, dI) vwCl [(cY, .int)] s := hK
  obtain ⟨er_11, h_12⟩ := hw_8
  obtain ⟨e_13, hY_14⟩ := h_12
  obtain rfl := e_13
  subst er_11
  refine lv_aload_n hx hb dX12_plainGoes_10 rfl (lv_at hl 0 rfl) ?_
  refine va_get (D := (dC, dI)) (ci := 14) (v := .int tv) (C := RX12) (T := TX12) (N := 23) hx hb hts kc_plainGoes_0 hown hK hP 0 rfl rfl 22 (by decide) (hts (.fieldLink RX12 267 "MistHeapsModel" "tellsV" "I") kc_plainGoes_1) (fun _ h9 => h9) rfl dX12_plainGoes_11 ?_
  refine lv_isub hx hb dX12_plainGoes_14 ?_
  rw [hQ]
  have hP9 := hP.sub (ws' := [(zo14irriiiiiirriirrrrlriiii m0 th aS aI im ac sp en wg op aB aT se dn aG aO aN aD bv aY (nI (((tl ++ [2]) ++ btS kd).length)) kd nu tv), (zaI aY cY 20 fY9_9)]) [0, 1] rfl
  have hD9 := hD.sub (ws' := [(zo14irriiiiiirriirrrrlriiii m0 th aS aI im ac sp en wg op aB aT se dn aG aO aN aD bv aY (nI (((tl ++ [2]) ++ btS kd).length)) kd nu tv), (zaI aY cY 20 fY9_9)]) [0, 1] (by decide) rfl
  have hK9 := hK.sub (tys' := [(cY, .int)]) [0] rfl
  exact W.iret (v := (acS kd nu tv x) - tv) hx hb hr (fun tQ htQ hWQ => ⟨⟨((acS kd nu tv x) - tv), (fY9_9, (nI (((tl ++ [2]) ++ btS kd).length))), rfl, ⟨rfl, by rw [show tl ++ (2 :: btS kd) = ((tl ++ [2]) ++ btS kd) from by simp]; exact ⟨rfl, hY_14⟩⟩, by rw [htQ]; exact hP9, va_K.moved hWQ.alike hK9, hD9⟩, hS.F htQ⟩) hS.2.2 dX12_plainGoes_15

theorem kc_goesActs_0 : ∀ w ∈ wsX120, w ∈ wsX12_goesActs := fun w h => List.mem_cons_of_mem _ (gin_wsX120 w h)
theorem kc_goesActs_1 : (.fieldLink RX12 255 "MistHeapsModel" "kind" "I" : Cond) ∈ wsX12_goesActs := kc_of 1160 rfl rfl rfl
theorem kc_goesActs_2 : (.fieldLink RX12 267 "MistHeapsModel" "tellsV" "I" : Cond) ∈ wsX12_goesActs := kc_of 1162 rfl rfl rfl
set_option maxHeartbeats 4000000 in
set_option maxRecDepth 100000 in
theorem c_goesActs (l : Launch) (dC : Nat → ClassId) (dI : Nat → Nat → Nat) (m0 aS aI aB aT aG aO aN aD aY : Nat) (th im ac sp en wg op se dn rn kd nu tv : Int32) (bv : Int64) (cY : ClassId) (fY : Nat → Int32) (tl : List Nat) (x : Int32) (sz : Nat) (hq : tl.length ≤ 16) (zY : okY fY tl) : Met l yX12_goesActs wsX12_goesActs ({ frames := 4, cells := 0, slots := 0, locals := 84 } : Room) (va_Pc [.ref m0, .int x] (fun U => U.heap.size = sz ∧ va_P (dC, dI) vwCl [(zo14irriiiiiirriirrrrlriiii m0 th aS aI im ac sp en wg op aB aT se dn aG aO aN aD bv aY (nI tl.length) kd nu tv), (zaI aY cY 20 fY)] U.heap ∧ va_K (dC, dI) vwCl [(cY, .int)] U ∧ va_D (fun _ => True) [(zo14irriiiiiirriirrrrlriiii m0 th aS aI im ac sp en wg op aB aT se dn aG aO aN aD bv aY (nI tl.length) kd nu tv), (zaI aY cY 20 fY)])) (va_Qi (fun (r : Int32) (u : (Nat → Int32) × (Int32)) => match u with | (fY9, rn9) => r = acG kd nu tv x ∧ rn9 = nI (tl ++ btG kd).length ∧ okY fY9 (tl ++ btG kd)) (fun (u : (Nat → Int32) × (Int32)) (t : State) => match u with | (fY9, rn9) => va_P (dC, dI) vwCl [(zo14irriiiiiirriirrrrlriiii m0 th aS aI im ac sp en wg op aB aT se dn aG aO aN aD bv aY rn9 kd nu tv), (zaI aY cY 20 fY9)] t.heap ∧ va_K (dC, dI) vwCl [(cY, .int)] t ∧ va_D (va_A [(zo14irriiiiiirriirrrrlriiii m0 th aS aI im ac sp en wg op aB aT se dn aG aO aN aD bv aY (nI tl.length) kd nu tv), (zaI aY cY 20 fY)] sz) [(zo14irriiiiiirriirrrrlriiii m0 th aS aI im ac sp en wg op aB aT se dn aG aO aN aD bv aY rn9 kd nu tv), (zaI aY cY 20 fY9)]) (va_A [(zo14irriiiiiirriirrrrlriiii m0 th aS aI im ac sp en wg op aB aT se dn aG aO aN aD bv aY (nI tl.length) kd nu tv), (zaI aY cY 20 fY)] sz)) 0 0 (va_A [(zo14irriiiiiirriirrrrlriiii m0 th aS aI im ac sp en wg op aB aT se dn aG aO aN aD bv aY (nI tl.length) kd nu tv), (zaI aY cY 20 fY)] sz) := by
  refine met_ofQ (cc := cX12_goesActs) (maxL := 2) (ret := (some .int)) (by decide) rfl ?_
  intro p e s m args below meth c s₁ Q B hml hv hQ
  obtain ⟨rfl, hsz, hP, hK, hD0⟩ := hv
  have hx := B.exec
  have hb := B.bytes
  have hr := B.returns
  have hts := atoms_spec (ws := wsX12_goesActs) B.pre
  have hown : s.vm.findClass RX12 = some m.cls := findClass_of_methodNamed B.named
  have hlocks := B.notSynchronized
  subst hsz
  have hD := hD0.self (sz := s.heap.size)
  generalize hAe : va_A [(zo14irriiiiiirriirrrrlriiii m0 th aS aI im ac sp en wg op aB aT se dn aG aO aN aD bv aY (nI tl.length) kd nu tv), (zaI aY cY 20 fY)] s.heap.size = A at hD hQ ⊢
  have hA : ∀ q : Nat, s.heap.size ≤ q → A q := fun q h => by rw [← hAe]; exact Or.inr h
  have hS : va_S A s.heap s.heap [] := va_S.rf
  have hl := lv_entry [.ref m0, .int x] (n := 2) (Nat.le_of_ble_eq_true rfl)
  rw [lg_entry_eq]
  generalize (lg_sl [.ref m0, .int x] ++ List.replicate (2 - (lg_sl [.ref m0, .int x]).length) Slot.unset).toArray = ls at hl ⊢
  generalize hag : ([.ref m0, .int x] : List Value).toArray = args at hts hQ ⊢
  have hl : lv_has ls 2 [(0, .ref m0), (1, .int x)] := hl
  obtain ⟨H, hH⟩ : ∃ H : Heap, H = s.heap := ⟨_, rfl⟩
  rw [← hH] at hP
  rw [← hH]
  have hS : va_S A s.heap H [] := by rw [hH]; exact hS
  obtain ⟨locs, hlo⟩ : ∃ L : List Loc, L = [] := ⟨_, rfl⟩
  rw [← hlo] at hS
  rw [← hlo]
  clear hH hlo
  refine lv_aload_n hx hb dX12_goesActs_0 rfl (lv_at hl 0 rfl) ?_
  refine va_get (D := (dC, dI)) (ci := 14) (v := .int kd) (C := RX12) (T := TX12) (N := 23) hx hb hts kc_goesActs_0 hown hK hP 0 rfl rfl 20 (by decide) (hts (.fieldLink RX12 255 "MistHeapsModel" "kind" "I") kc_goesActs_1) (fun _ h9 => h9) rfl dX12_goesActs_1 ?_
  refine lv_iconst (v := 2) hx hb dX12_goesActs_4 (by decide) ?_
  refine vp_callSi (va_runS (As := [.int kd, .int 2]) (rest := []) ⟨hx, hb, hml, hown, hts⟩ (c_under l dC dI kd 2) (va_cwS 2 hts gX12_goesActs_X12_isUnder rfl rfl rfl hd_yX12_isUnder.2 ⟨Nat.le_of_ble_eq_true rfl, Nat.le_of_ble_eq_true rfl⟩) ⟨fun a U g mk q => ⟨q.1, trivial⟩, fun U hU hW => ⟨rfl, trivial⟩⟩ rfl rfl hl.1 rfl (lv_room (Nat.le_of_ble_eq_true rfl)) dX12_goesActs_5 ⟨Nat.le_of_ble_eq_true rfl, Nat.le_of_ble_eq_true rfl⟩).run (fun r_1 hw_2 => ?_)
  rcases hw_2 with ⟨rfl, hU_3⟩ | ⟨rfl, hU_3⟩
  · skip
    refine lv_if_eq (tgt := 24) hx hb dX12_goesActs_8 (by decide) (fun c_4 => absurd c_4 (by decide)) (fun _ => ?_)
    refine lv_aload_n hx hb dX12_goesActs_11 rfl (lv_at hl 0 rfl) ?_
    refine lv_bipush (v := 21) hx hb dX12_goesActs_12 (by decide) ?_
    have hPc := hP.sub (ws' := [(zo14irriiiiiirriirrrrlriiii m0 th aS aI im ac sp en wg op aB aT se dn aG aO aN aD bv aY (nI tl.length) kd nu tv), (zaI aY cY 20 fY)]) [0, 1] rfl
    have hDc := hD.sub (ws' := [(zo14irriiiiiirriirrrrlriiii m0 th aS aI im ac sp en wg op aB aT se dn aG aO aN aD bv aY (nI tl.length) kd nu tv), (zaI aY cY 20 fY)]) [0, 1] (by decide) rfl
    have hKc := hK.sub (tys' := [(cY, .int)]) [0] rfl
    have hFc := va_free (wc := [(zo14irriiiiiirriirrrrlriiii m0 th aS aI im ac sp en wg op aB aT se dn aG aO aN aD bv aY (nI tl.length) kd nu tv), (zaI aY cY 20 fY)]) hD hS hA [0, 1] rfl
    refine va_callv (va_runV (As := [.int 21]) (rest := []) ⟨hx, hb, hml, hown, hts⟩ (c_ranBody l dC dI m0 aS aI aB aT aG aO aN aD aY th im ac sp en wg op se dn (nI tl.length) kd nu tv bv cY fY tl 21 H.size (by have hbS := btS_le kd; have hbG := btG_le kd; have hbL := btL_le kd; (try simp only [List.length_append, List.length_cons, List.length_nil]); omega) (zY)) (cwV 1 hts gX12_goesActs_X12_ranBody rfl rfl rfl hd_yX12_ranBody ⟨Nat.le_of_ble_eq_true rfl, Nat.le_of_ble_eq_true rfl⟩) ⟨fun a U g mk q => by obtain ⟨q0, q1, qP, qK, qD⟩ := q; exact ⟨q0, mvz g mk a q1, mvP g mk a qP, mvK g mk a qK, qD⟩, va_recv hK hP (ci := 14) (q := (RX12, TX12, 23)) (q0 := 0) rfl rfl, fun U hU hW => ⟨rfl, by rw [hU], by rw [hU]; exact hPc, va_K.moved hW.alike hKc, hDc.weaken (fun _ _ _ _ => trivial)⟩⟩ rfl rfl hl.1 rfl (lv_room (Nat.le_of_ble_eq_true rfl)) dX12_goesActs_14 ⟨Nat.le_of_ble_eq_true rfl, Nat.le_of_ble_eq_true rfl⟩) hS (fun q _ h => hFc q h) hFc (fun u tC H1 locs htC hvm hw_6 hB hz1 hk1 hS => ?_)
    obtain ⟨fY9_7, rn9_8⟩ := u
    try dsimp only at hw_6 hB
    obtain ⟨hP1, hK1, hD1⟩ := hB
    rw [htC] at hP1
    have hK1 := va_K.moved hvm.symm hK1
    obtain ⟨hP, hD⟩ := va_join (wr := []) (w1 := [(zo14irriiiiiirriirrrrlriiii m0 th aS aI im ac sp en wg op aB aT se dn aG aO aN aD bv aY rn9_8 kd nu tv), (zaI aY cY 20 fY9_7)]) hP hD [0, 1] [] rfl rfl (by decide) (by decide) hk1 hFc hP1 hD1
    have hK := (hK.sub (tys' := []) [] rfl).app hK1
    generalize H1 = H at hP hS ⊢
    have hP : va_P (dC, dI) vwCl [(zo14irriiiiiirriirrrrlriiii m0 th aS aI im ac sp en wg op aB aT se dn aG aO aN aD bv aY rn9_8 kd nu tv), (zaI aY cY 20 fY9_7)] H := hP
    have hD : va_D A [(zo14irriiiiiirriirrrrlriiii m0 th aS aI im ac sp en wg op aB aT se dn aG aO aN aD bv aY rn9_8 kd nu tv), (zaI aY cY 20 fY9_7)] := hD
    have hK : va_K (dC, dI) vwCl [(cY, .int)] s := hK
    obtain ⟨e_9, hY_10⟩ := hw_6
    obtain rfl := e_9
    refine lv_aload_n hx hb dX12_goesActs_17 rfl (lv_at hl 0 rfl) ?_
    refine lv_iload_n hx hb dX12_goesActs_18 rfl (lv_at hl 1 rfl) ?_
    have hPc := hP.sub (ws' := [(zo14irriiiiiirriirrrrlriiii m0 th aS aI im ac sp en wg op aB aT se dn aG aO aN aD bv aY (nI ((tl ++ [21]).length)) kd nu tv), (zaI aY cY 20 fY9_7)]) [0, 1] rfl
    have hDc := hD.sub (ws' := [(zo14irriiiiiirriirrrrlriiii m0 th aS aI im ac sp en wg op aB aT se dn aG aO aN aD bv aY (nI ((tl ++ [21]).length)) kd nu tv), (zaI aY cY 20 fY9_7)]) [0, 1] (by decide) rfl
    have hKc := hK.sub (tys' := [(cY, .int)]) [0] rfl
    have hFc := va_free (wc := [(zo14irriiiiiirriirrrrlriiii m0 th aS aI im ac sp en wg op aB aT se dn aG aO aN aD bv aY (nI ((tl ++ [21]).length)) kd nu tv), (zaI aY cY 20 fY9_7)]) hD hS hA [0, 1] rfl
    refine va_calli (va_runV (As := [.int x]) (rest := []) ⟨hx, hb, hml, hown, hts⟩ (c_plainGoes l dC dI m0 aS aI aB aT aG aO aN aD aY th im ac sp en wg op se dn (nI ((tl ++ [21]).length)) kd nu tv bv cY fY9_7 (tl ++ [21]) x H.size (by have hbS := btS_le kd; have hbG := btG_le kd; have hbL := btL_le kd; (try simp only [List.length_append, List.length_cons, List.length_nil]); omega) (hY_10)) (cwV 1 hts gX12_goesActs_X12_plainGoes rfl rfl rfl hd_yX12_plainGoes ⟨Nat.le_of_ble_eq_true rfl, Nat.le_of_ble_eq_true rfl⟩) ⟨fun a U g mk q => by obtain ⟨q0, q1, qP, qK, qD⟩ := q; exact ⟨q0, mvz g mk a q1, mvP g mk a qP, mvK g mk a qK, qD⟩, va_recv hK hP (ci := 14) (q := (RX12, TX12, 23)) (q0 := 0) rfl rfl, fun U hU hW => ⟨rfl, by rw [hU], by rw [hU]; exact hPc, va_K.moved hW.alike hKc, hDc.weaken (fun _ _ _ _ => trivial)⟩⟩ rfl rfl hl.1 rfl (lv_room (Nat.le_of_ble_eq_true rfl)) dX12_goesActs_19 ⟨Nat.le_of_ble_eq_true rfl, Nat.le_of_ble_eq_true rfl⟩) hS (fun q _ h => hFc q h) hFc (fun r_11 u tC H1 locs htC hvm hw_12 hB hz1 hk1 hS => ?_)
    obtain ⟨fY9_13, rn9_14⟩ := u
    try dsimp only at hw_12 hB
    obtain ⟨hP1, hK1, hD1⟩ := hB
    rw [htC] at hP1
    have hK1 := va_K.moved hvm.symm hK1
    obtain ⟨hP, hD⟩ := va_join (wr := []) (w1 := [(zo14irriiiiiirriirrrrlriiii m0 th aS aI im ac sp en wg op aB aT se dn aG aO aN aD bv aY rn9_14 kd nu tv), (zaI aY cY 20 fY9_13)]) hP hD [0, 1] [] rfl rfl (by decide) (by decide) hk1 hFc hP1 hD1
    have hK := (hK.sub (tys' := []) [] rfl).app hK1
    generalize H1 = H at hP hS ⊢
    have hP : va_P (dC, dI) vwCl [(zo14irriiiiiirriirrrrlriiii m0 th aS aI im ac sp en wg op aB aT se dn aG aO aN aD bv aY rn9_14 kd nu tv), (zaI aY cY 20 fY9_13)] H := hP
    have hD : va_D A [(zo14irriiiiiirriirrrrlriiii m0 th aS aI im ac sp en wg op aB aT se dn aG aO aN aD bv aY rn9_14 kd nu tv), (zaI aY cY 20 fY9_13)] := hD
    have hK : va_K (dC, dI) vwCl [(cY, .int)] s := hK
    obtain ⟨er_15, h_16⟩ := hw_12
    obtain ⟨e_17, hY_18⟩ := h_16
    obtain rfl := e_17
    subst er_15
    refine lv_ineg hx hb dX12_goesActs_22 ?_
    rw [hQ]
    have hP9 := hP.sub (ws' := [(zo14irriiiiiirriirrrrlriiii m0 th aS aI im ac sp en wg op aB aT se dn aG aO aN aD bv aY (nI (((tl ++ [21]) ++ (2 :: btS kd)).length)) kd nu tv), (zaI aY cY 20 fY9_13)]) [0, 1] rfl
    have hD9 := hD.sub (ws' := [(zo14irriiiiiirriirrrrlriiii m0 th aS aI im ac sp en wg op aB aT se dn aG aO aN aD bv aY (nI (((tl ++ [21]) ++ (2 :: btS kd)).length)) kd nu tv), (zaI aY cY 20 fY9_13)]) [0, 1] (by decide) rfl
    have hK9 := hK.sub (tys' := [(cY, .int)]) [0] rfl
    exact W.iret (v := -(acS kd nu tv x - tv)) hx hb hr (fun tQ htQ hWQ => ⟨⟨(-(acS kd nu tv x - tv)), (fY9_13, (nI (((tl ++ [21]) ++ (2 :: btS kd)).length))), rfl, ⟨acG_2 (by assumption), by rw [show tl ++ btG kd = ((tl ++ [21]) ++ (2 :: btS kd)) from (congrArg (fun z => tl ++ z) (btG_2 (by assumption))).trans (by simp)]; exact ⟨rfl, hY_18⟩⟩, by rw [htQ]; exact hP9, va_K.moved hWQ.alike hK9, hD9⟩, hS.F htQ⟩) hS.2.2 dX12_goesActs_23
  · skip
    refine lv_if_eq (tgt := 24) hx hb dX12_goesActs_8 (by decide) (fun _ => ?_) (fun c_19 => absurd c_19 (by decide))
    refine lv_aload_n hx hb dX12_goesActs_24 rfl (lv_at hl 0 rfl) ?_
    refine va_get (D := (dC, dI)) (ci := 14) (v := .int kd) (C := RX12) (T := TX12) (N := 23) hx hb hts kc_goesActs_0 hown hK hP 0 rfl rfl 20 (by decide) (hts (.fieldLink RX12 255 "MistHeapsModel" "kind" "I") kc_goesActs_1) (fun _ h9 => h9) rfl dX12_goesActs_25 ?_
    refine lv_bipush (v := 6) hx hb dX12_goesActs_28 (by decide) ?_
    refine lv_icmp_ne (tgt := 50) hx hb dX12_goesActs_30 (by decide) (fun c_20 => ?_) (fun c_20 => ?_)
    · skip
      refine lv_aload_n hx hb dX12_goesActs_50 rfl (lv_at hl 0 rfl) ?_
      refine lv_iload_n hx hb dX12_goesActs_51 rfl (lv_at hl 1 rfl) ?_
      have hPc := hP.sub (ws' := [(zo14irriiiiiirriirrrrlriiii m0 th aS aI im ac sp en wg op aB aT se dn aG aO aN aD bv aY (nI tl.length) kd nu tv), (zaI aY cY 20 fY)]) [0, 1] rfl
      have hDc := hD.sub (ws' := [(zo14irriiiiiirriirrrrlriiii m0 th aS aI im ac sp en wg op aB aT se dn aG aO aN aD bv aY (nI tl.length) kd nu tv), (zaI aY cY 20 fY)]) [0, 1] (by decide) rfl
      have hKc := hK.sub (tys' := [(cY, .int)]) [0] rfl
      have hFc := va_free (wc := [(zo14irriiiiiirriirrrrlriiii m0 th aS aI im ac sp en wg op aB aT se dn aG aO aN aD bv aY (nI tl.length) kd nu tv), (zaI aY cY 20 fY)]) hD hS hA [0, 1] rfl
      refine va_calli (va_runV (As := [.int x]) (rest := []) ⟨hx, hb, hml, hown, hts⟩ (c_plainGoes l dC dI m0 aS aI aB aT aG aO aN aD aY th im ac sp en wg op se dn (nI tl.length) kd nu tv bv cY fY tl x H.size (by have hbS := btS_le kd; have hbG := btG_le kd; have hbL := btL_le kd; (try simp only [List.length_append, List.length_cons, List.length_nil]); omega) (zY)) (cwV 1 hts gX12_goesActs_X12_plainGoes rfl rfl rfl hd_yX12_plainGoes ⟨Nat.le_of_ble_eq_true rfl, Nat.le_of_ble_eq_true rfl⟩) ⟨fun a U g mk q => by obtain ⟨q0, q1, qP, qK, qD⟩ := q; exact ⟨q0, mvz g mk a q1, mvP g mk a qP, mvK g mk a qK, qD⟩, va_recv hK hP (ci := 14) (q := (RX12, TX12, 23)) (q0 := 0) rfl rfl, fun U hU hW => ⟨rfl, by rw [hU], by rw [hU]; exact hPc, va_K.moved hW.alike hKc, hDc.weaken (fun _ _ _ _ => trivial)⟩⟩ rfl rfl hl.1 rfl (lv_room (Nat.le_of_ble_eq_true rfl)) dX12_goesActs_52 ⟨Nat.le_of_ble_eq_true rfl, Nat.le_of_ble_eq_true rfl⟩) hS (fun q _ h => hFc q h) hFc (fun r_21 u tC H1 locs htC hvm hw_22 hB hz1 hk1 hS => ?_)
      obtain ⟨fY9_23, rn9_24⟩ := u
      try dsimp only at hw_22 hB
      obtain ⟨hP1, hK1, hD1⟩ := hB
      rw [htC] at hP1
      have hK1 := va_K.moved hvm.symm hK1
      obtain ⟨hP, hD⟩ := va_join (wr := []) (w1 := [(zo14irriiiiiirriirrrrlriiii m0 th aS aI im ac sp en wg op aB aT se dn aG aO aN aD bv aY rn9_24 kd nu tv), (zaI aY cY 20 fY9_23)]) hP hD [0, 1] [] rfl rfl (by decide) (by decide) hk1 hFc hP1 hD1
      have hK := (hK.sub (tys' := []) [] rfl).app hK1
      generalize H1 = H at hP hS ⊢
      have hP : va_P (dC, dI) vwCl [(zo14irriiiiiirriirrrrlriiii m0 th aS aI im ac sp en wg op aB aT se dn aG aO aN aD bv aY rn9_24 kd nu tv), (zaI aY cY 20 fY9_23)] H := hP
      have hD : va_D A [(zo14irriiiiiirriirrrrlriiii m0 th aS aI im ac sp en wg op aB aT se dn aG aO aN aD bv aY rn9_24 kd nu tv), (zaI aY cY 20 fY9_23)] := hD
      have hK : va_K (dC, dI) vwCl [(cY, .int)] s := hK
      obtain ⟨er_25, h_26⟩ := hw_22
      obtain ⟨e_27, hY_28⟩ := h_26
      obtain rfl := e_27
      subst er_25
      rw [hQ]
      have hP9 := hP.sub (ws' := [(zo14irriiiiiirriirrrrlriiii m0 th aS aI im ac sp en wg op aB aT se dn aG aO aN aD bv aY (nI ((tl ++ (2 :: btS kd)).length)) kd nu tv), (zaI aY cY 20 fY9_23)]) [0, 1] rfl
      have hD9 := hD.sub (ws' := [(zo14irriiiiiirriirrrrlriiii m0 th aS aI im ac sp en wg op aB aT se dn aG aO aN aD bv aY (nI ((tl ++ (2 :: btS kd)).length)) kd nu tv), (zaI aY cY 20 fY9_23)]) [0, 1] (by decide) rfl
      have hK9 := hK.sub (tys' := [(cY, .int)]) [0] rfl
      exact W.iret (v := acS kd nu tv x - tv) hx hb hr (fun tQ htQ hWQ => ⟨⟨(acS kd nu tv x - tv), (fY9_23, (nI ((tl ++ (2 :: btS kd)).length))), rfl, ⟨acG_0 (by assumption) (by assumption), by rw [show tl ++ btG kd = (tl ++ (2 :: btS kd)) from (congrArg (fun z => tl ++ z) (btG_0 (by assumption) (by assumption))).trans (by simp)]; exact ⟨rfl, hY_28⟩⟩, by rw [htQ]; exact hP9, va_K.moved hWQ.alike hK9, hD9⟩, hS.F htQ⟩) hS.2.2 dX12_goesActs_55
    · skip
      refine lv_aload_n hx hb dX12_goesActs_33 rfl (lv_at hl 0 rfl) ?_
      refine lv_bipush (v := 61) hx hb dX12_goesActs_34 (by decide) ?_
      have hPc := hP.sub (ws' := [(zo14irriiiiiirriirrrrlriiii m0 th aS aI im ac sp en wg op aB aT se dn aG aO aN aD bv aY (nI tl.length) kd nu tv), (zaI aY cY 20 fY)]) [0, 1] rfl
      have hDc := hD.sub (ws' := [(zo14irriiiiiirriirrrrlriiii m0 th aS aI im ac sp en wg op aB aT se dn aG aO aN aD bv aY (nI tl.length) kd nu tv), (zaI aY cY 20 fY)]) [0, 1] (by decide) rfl
      have hKc := hK.sub (tys' := [(cY, .int)]) [0] rfl
      have hFc := va_free (wc := [(zo14irriiiiiirriirrrrlriiii m0 th aS aI im ac sp en wg op aB aT se dn aG aO aN aD bv aY (nI tl.length) kd nu tv), (zaI aY cY 20 fY)]) hD hS hA [0, 1] rfl
      refine va_callv (va_runV (As := [.int 61]) (rest := []) ⟨hx, hb, hml, hown, hts⟩ (c_ranBody l dC dI m0 aS aI aB aT aG aO aN aD aY th im ac sp en wg op se dn (nI tl.length) kd nu tv bv cY fY tl 61 H.size (by have hbS := btS_le kd; have hbG := btG_le kd; have hbL := btL_le kd; (try simp only [List.length_append, List.length_cons, List.length_nil]); omega) (zY)) (cwV 1 hts gX12_goesActs_X12_ranBody rfl rfl rfl hd_yX12_ranBody ⟨Nat.le_of_ble_eq_true rfl, Nat.le_of_ble_eq_true rfl⟩) ⟨fun a U g mk q => by obtain ⟨q0, q1, qP, qK, qD⟩ := q; exact ⟨q0, mvz g mk a q1, mvP g mk a qP, mvK g mk a qK, qD⟩, va_recv hK hP (ci := 14) (q := (RX12, TX12, 23)) (q0 := 0) rfl rfl, fun U hU hW => ⟨rfl, by rw [hU], by rw [hU]; exact hPc, va_K.moved hW.alike hKc, hDc.weaken (fun _ _ _ _ => trivial)⟩⟩ rfl rfl hl.1 rfl (lv_room (Nat.le_of_ble_eq_true rfl)) dX12_goesActs_36 ⟨Nat.le_of_ble_eq_true rfl, Nat.le_of_ble_eq_true rfl⟩) hS (fun q _ h => hFc q h) hFc (fun u tC H1 locs htC hvm hw_30 hB hz1 hk1 hS => ?_)
      obtain ⟨fY9_31, rn9_32⟩ := u
      try dsimp only at hw_30 hB
      obtain ⟨hP1, hK1, hD1⟩ := hB
      rw [htC] at hP1
      have hK1 := va_K.moved hvm.symm hK1
      obtain ⟨hP, hD⟩ := va_join (wr := []) (w1 := [(zo14irriiiiiirriirrrrlriiii m0 th aS aI im ac sp en wg op aB aT se dn aG aO aN aD bv aY rn9_32 kd nu tv), (zaI aY cY 20 fY9_31)]) hP hD [0, 1] [] rfl rfl (by decide) (by decide) hk1 hFc hP1 hD1
      have hK := (hK.sub (tys' := []) [] rfl).app hK1
      generalize H1 = H at hP hS ⊢
      have hP : va_P (dC, dI) vwCl [(zo14irriiiiiirriirrrrlriiii m0 th aS aI im ac sp en wg op aB aT se dn aG aO aN aD bv aY rn9_32 kd nu tv), (zaI aY cY 20 fY9_31)] H := hP
      have hD : va_D A [(zo14irriiiiiirriirrrrlriiii m0 th aS aI im ac sp en wg op aB aT se dn aG aO aN aD bv aY rn9_32 kd nu tv), (zaI aY cY 20 fY9_31)] := hD
      have hK : va_K (dC, dI) vwCl [(cY, .int)] s := hK
      obtain ⟨e_33, hY_34⟩ := hw_30
      obtain rfl := e_33
      refine lv_aload_n hx hb dX12_goesActs_39 rfl (lv_at hl 0 rfl) ?_
      refine lv_iload_n hx hb dX12_goesActs_40 rfl (lv_at hl 1 rfl) ?_
      have hPc := hP.sub (ws' := [(zo14irriiiiiirriirrrrlriiii m0 th aS aI im ac sp en wg op aB aT se dn aG aO aN aD bv aY (nI ((tl ++ [61]).length)) kd nu tv), (zaI aY cY 20 fY9_31)]) [0, 1] rfl
      have hDc := hD.sub (ws' := [(zo14irriiiiiirriirrrrlriiii m0 th aS aI im ac sp en wg op aB aT se dn aG aO aN aD bv aY (nI ((tl ++ [61]).length)) kd nu tv), (zaI aY cY 20 fY9_31)]) [0, 1] (by decide) rfl
      have hKc := hK.sub (tys' := [(cY, .int)]) [0] rfl
      have hFc := va_free (wc := [(zo14irriiiiiirriirrrrlriiii m0 th aS aI im ac sp en wg op aB aT se dn aG aO aN aD bv aY (nI ((tl ++ [61]).length)) kd nu tv), (zaI aY cY 20 fY9_31)]) hD hS hA [0, 1] rfl
      refine va_calli (va_runV (As := [.int x]) (rest := []) ⟨hx, hb, hml, hown, hts⟩ (c_plainGoes l dC dI m0 aS aI aB aT aG aO aN aD aY th im ac sp en wg op se dn (nI ((tl ++ [61]).length)) kd nu tv bv cY fY9_31 (tl ++ [61]) x H.size (by have hbS := btS_le kd; have hbG := btG_le kd; have hbL := btL_le kd; (try simp only [List.length_append, List.length_cons, List.length_nil]); omega) (hY_34)) (cwV 1 hts gX12_goesActs_X12_plainGoes rfl rfl rfl hd_yX12_plainGoes ⟨Nat.le_of_ble_eq_true rfl, Nat.le_of_ble_eq_true rfl⟩) ⟨fun a U g mk q => by obtain ⟨q0, q1, qP, qK, qD⟩ := q; exact ⟨q0, mvz g mk a q1, mvP g mk a qP, mvK g mk a qK, qD⟩, va_recv hK hP (ci := 14) (q := (RX12, TX12, 23)) (q0 := 0) rfl rfl, fun U hU hW => ⟨rfl, by rw [hU], by rw [hU]; exact hPc, va_K.moved hW.alike hKc, hDc.weaken (fun _ _ _ _ => trivial)⟩⟩ rfl rfl hl.1 rfl (lv_room (Nat.le_of_ble_eq_true rfl)) dX12_goesActs_41 ⟨Nat.le_of_ble_eq_true rfl, Nat.le_of_ble_eq_true rfl⟩) hS (fun q _ h => hFc q h) hFc (fun r_35 u tC H1 locs htC hvm hw_36 hB hz1 hk1 hS => ?_)
      obtain ⟨fY9_37, rn9_38⟩ := u
      try dsimp only at hw_36 hB
      obtain ⟨hP1, hK1, hD1⟩ := hB
      rw [htC] at hP1
      have hK1 := va_K.moved hvm.symm hK1
      obtain ⟨hP, hD⟩ := va_join (wr := []) (w1 := [(zo14irriiiiiirriirrrrlriiii m0 th aS aI im ac sp en wg op aB aT se dn aG aO aN aD bv aY rn9_38 kd nu tv), (zaI aY cY 20 fY9_37)]) hP hD [0, 1] [] rfl rfl (by decide) (by decide) hk1 hFc hP1 hD1
      have hK := (hK.sub (tys' := []) [] rfl).app hK1
      generalize H1 = H at hP hS ⊢
      have hP : va_P (dC, dI) vwCl [(zo14irriiiiiirriirrrrlriiii m0 th aS aI im ac sp en wg op aB aT se dn aG aO aN aD bv aY rn9_38 kd nu tv), (zaI aY cY 20 fY9_37)] H := hP
      have hD : va_D A [(zo14irriiiiiirriirrrrlriiii m0 th aS aI im ac sp en wg op aB aT se dn aG aO aN aD bv aY rn9_38 kd nu tv), (zaI aY cY 20 fY9_37)] := hD
      have hK : va_K (dC, dI) vwCl [(cY, .int)] s := hK
      obtain ⟨er_39, h_40⟩ := hw_36
      obtain ⟨e_41, hY_42⟩ := h_40
      obtain rfl := e_41
      subst er_39
      refine lv_aload_n hx hb dX12_goesActs_44 rfl (lv_at hl 0 rfl) ?_
      refine va_get (D := (dC, dI)) (ci := 14) (v := .int tv) (C := RX12) (T := TX12) (N := 23) hx hb hts kc_goesActs_0 hown hK hP 0 rfl rfl 22 (by decide) (hts (.fieldLink RX12 267 "MistHeapsModel" "tellsV" "I") kc_goesActs_2) (fun _ h9 => h9) rfl dX12_goesActs_45 ?_
      refine lv_iadd hx hb dX12_goesActs_48 ?_
      rw [hQ]
      have hP9 := hP.sub (ws' := [(zo14irriiiiiirriirrrrlriiii m0 th aS aI im ac sp en wg op aB aT se dn aG aO aN aD bv aY (nI (((tl ++ [61]) ++ (2 :: btS kd)).length)) kd nu tv), (zaI aY cY 20 fY9_37)]) [0, 1] rfl
      have hD9 := hD.sub (ws' := [(zo14irriiiiiirriirrrrlriiii m0 th aS aI im ac sp en wg op aB aT se dn aG aO aN aD bv aY (nI (((tl ++ [61]) ++ (2 :: btS kd)).length)) kd nu tv), (zaI aY cY 20 fY9_37)]) [0, 1] (by decide) rfl
      have hK9 := hK.sub (tys' := [(cY, .int)]) [0] rfl
      exact W.iret (v := (acS kd nu tv x - tv) + tv) hx hb hr (fun tQ htQ hWQ => ⟨⟨((acS kd nu tv x - tv) + tv), (fY9_37, (nI (((tl ++ [61]) ++ (2 :: btS kd)).length))), rfl, ⟨acG_6 (by assumption) (by assumption), by rw [show tl ++ btG kd = ((tl ++ [61]) ++ (2 :: btS kd)) from (congrArg (fun z => tl ++ z) (btG_6 (by assumption) (by assumption))).trans (by simp)]; exact ⟨rfl, hY_42⟩⟩, by rw [htQ]; exact hP9, va_K.moved hWQ.alike hK9, hD9⟩, hS.F htQ⟩) hS.2.2 dX12_goesActs_49

set_option maxHeartbeats 4000000 in
set_option maxRecDepth 100000 in
theorem c_plainLooks (l : Launch) (dC : Nat → ClassId) (dI : Nat → Nat → Nat) (m0 aS aI aB aT aG aO aN aD aY : Nat) (th im ac sp en wg op se dn rn kd nu tv : Int32) (bv : Int64) (cY : ClassId) (fY : Nat → Int32) (tl : List Nat) (x : Int32) (sz : Nat) (hq : tl.length ≤ 15) (zY : okY fY tl) : Met l yX12_plainLooks wsX12_plainLooks ({ frames := 5, cells := 0, slots := 0, locals := 105 } : Room) (va_Pc [.ref m0, .int x] (fun U => U.heap.size = sz ∧ va_P (dC, dI) vwCl [(zo14irriiiiiirriirrrrlriiii m0 th aS aI im ac sp en wg op aB aT se dn aG aO aN aD bv aY (nI tl.length) kd nu tv), (zaI aY cY 20 fY)] U.heap ∧ va_K (dC, dI) vwCl [(cY, .int)] U ∧ va_D (fun _ => True) [(zo14irriiiiiirriirrrrlriiii m0 th aS aI im ac sp en wg op aB aT se dn aG aO aN aD bv aY (nI tl.length) kd nu tv), (zaI aY cY 20 fY)])) (va_Qi (fun (r : Int32) (u : (Nat → Int32) × (Int32)) => match u with | (fY9, rn9) => r = acG kd nu tv x * 2 ∧ rn9 = nI (tl ++ (3 :: btG kd)).length ∧ okY fY9 (tl ++ (3 :: btG kd))) (fun (u : (Nat → Int32) × (Int32)) (t : State) => match u with | (fY9, rn9) => va_P (dC, dI) vwCl [(zo14irriiiiiirriirrrrlriiii m0 th aS aI im ac sp en wg op aB aT se dn aG aO aN aD bv aY rn9 kd nu tv), (zaI aY cY 20 fY9)] t.heap ∧ va_K (dC, dI) vwCl [(cY, .int)] t ∧ va_D (va_A [(zo14irriiiiiirriirrrrlriiii m0 th aS aI im ac sp en wg op aB aT se dn aG aO aN aD bv aY (nI tl.length) kd nu tv), (zaI aY cY 20 fY)] sz) [(zo14irriiiiiirriirrrrlriiii m0 th aS aI im ac sp en wg op aB aT se dn aG aO aN aD bv aY rn9 kd nu tv), (zaI aY cY 20 fY9)]) (va_A [(zo14irriiiiiirriirrrrlriiii m0 th aS aI im ac sp en wg op aB aT se dn aG aO aN aD bv aY (nI tl.length) kd nu tv), (zaI aY cY 20 fY)] sz)) 0 0 (va_A [(zo14irriiiiiirriirrrrlriiii m0 th aS aI im ac sp en wg op aB aT se dn aG aO aN aD bv aY (nI tl.length) kd nu tv), (zaI aY cY 20 fY)] sz) := by
  refine met_ofQ (cc := cX12_plainLooks) (maxL := 2) (ret := (some .int)) (by decide) rfl ?_
  intro p e s m args below meth c s₁ Q B hml hv hQ
  obtain ⟨rfl, hsz, hP, hK, hD0⟩ := hv
  have hx := B.exec
  have hb := B.bytes
  have hr := B.returns
  have hts := atoms_spec (ws := wsX12_plainLooks) B.pre
  have hown : s.vm.findClass RX12 = some m.cls := findClass_of_methodNamed B.named
  have hlocks := B.notSynchronized
  subst hsz
  have hD := hD0.self (sz := s.heap.size)
  generalize hAe : va_A [(zo14irriiiiiirriirrrrlriiii m0 th aS aI im ac sp en wg op aB aT se dn aG aO aN aD bv aY (nI tl.length) kd nu tv), (zaI aY cY 20 fY)] s.heap.size = A at hD hQ ⊢
  have hA : ∀ q : Nat, s.heap.size ≤ q → A q := fun q h => by rw [← hAe]; exact Or.inr h
  have hS : va_S A s.heap s.heap [] := va_S.rf
  have hl := lv_entry [.ref m0, .int x] (n := 2) (Nat.le_of_ble_eq_true rfl)
  rw [lg_entry_eq]
  generalize (lg_sl [.ref m0, .int x] ++ List.replicate (2 - (lg_sl [.ref m0, .int x]).length) Slot.unset).toArray = ls at hl ⊢
  generalize hag : ([.ref m0, .int x] : List Value).toArray = args at hts hQ ⊢
  have hl : lv_has ls 2 [(0, .ref m0), (1, .int x)] := hl
  obtain ⟨H, hH⟩ : ∃ H : Heap, H = s.heap := ⟨_, rfl⟩
  rw [← hH] at hP
  rw [← hH]
  have hS : va_S A s.heap H [] := by rw [hH]; exact hS
  obtain ⟨locs, hlo⟩ : ∃ L : List Loc, L = [] := ⟨_, rfl⟩
  rw [← hlo] at hS
  rw [← hlo]
  clear hH hlo
  refine lv_aload_n hx hb dX12_plainLooks_0 rfl (lv_at hl 0 rfl) ?_
  refine lv_iconst (v := 3) hx hb dX12_plainLooks_1 (by decide) ?_
  have hPc := hP.sub (ws' := [(zo14irriiiiiirriirrrrlriiii m0 th aS aI im ac sp en wg op aB aT se dn aG aO aN aD bv aY (nI tl.length) kd nu tv), (zaI aY cY 20 fY)]) [0, 1] rfl
  have hDc := hD.sub (ws' := [(zo14irriiiiiirriirrrrlriiii m0 th aS aI im ac sp en wg op aB aT se dn aG aO aN aD bv aY (nI tl.length) kd nu tv), (zaI aY cY 20 fY)]) [0, 1] (by decide) rfl
  have hKc := hK.sub (tys' := [(cY, .int)]) [0] rfl
  have hFc := va_free (wc := [(zo14irriiiiiirriirrrrlriiii m0 th aS aI im ac sp en wg op aB aT se dn aG aO aN aD bv aY (nI tl.length) kd nu tv), (zaI aY cY 20 fY)]) hD hS hA [0, 1] rfl
  refine va_callv (va_runV (As := [.int 3]) (rest := []) ⟨hx, hb, hml, hown, hts⟩ (c_ranBody l dC dI m0 aS aI aB aT aG aO aN aD aY th im ac sp en wg op se dn (nI tl.length) kd nu tv bv cY fY tl 3 H.size (by have hbS := btS_le kd; have hbG := btG_le kd; have hbL := btL_le kd; (try simp only [List.length_append, List.length_cons, List.length_nil]); omega) (zY)) (cwV 1 hts gX12_plainLooks_X12_ranBody rfl rfl rfl hd_yX12_ranBody ⟨Nat.le_of_ble_eq_true rfl, Nat.le_of_ble_eq_true rfl⟩) ⟨fun a U g mk q => by obtain ⟨q0, q1, qP, qK, qD⟩ := q; exact ⟨q0, mvz g mk a q1, mvP g mk a qP, mvK g mk a qK, qD⟩, va_recv hK hP (ci := 14) (q := (RX12, TX12, 23)) (q0 := 0) rfl rfl, fun U hU hW => ⟨rfl, by rw [hU], by rw [hU]; exact hPc, va_K.moved hW.alike hKc, hDc.weaken (fun _ _ _ _ => trivial)⟩⟩ rfl rfl hl.1 rfl (lv_room (Nat.le_of_ble_eq_true rfl)) dX12_plainLooks_2 ⟨Nat.le_of_ble_eq_true rfl, Nat.le_of_ble_eq_true rfl⟩) hS (fun q _ h => hFc q h) hFc (fun u tC H1 locs htC hvm hw_2 hB hz1 hk1 hS => ?_)
  obtain ⟨fY9_3, rn9_4⟩ := u
  try dsimp only at hw_2 hB
  obtain ⟨hP1, hK1, hD1⟩ := hB
  rw [htC] at hP1
  have hK1 := va_K.moved hvm.symm hK1
  obtain ⟨hP, hD⟩ := va_join (wr := []) (w1 := [(zo14irriiiiiirriirrrrlriiii m0 th aS aI im ac sp en wg op aB aT se dn aG aO aN aD bv aY rn9_4 kd nu tv), (zaI aY cY 20 fY9_3)]) hP hD [0, 1] [] rfl rfl (by decide) (by decide) hk1 hFc hP1 hD1
  have hK := (hK.sub (tys' := []) [] rfl).app hK1
  generalize H1 = H at hP hS ⊢
  have hP : va_P (dC, dI) vwCl [(zo14irriiiiiirriirrrrlriiii m0 th aS aI im ac sp en wg op aB aT se dn aG aO aN aD bv aY rn9_4 kd nu tv), (zaI aY cY 20 fY9_3)] H := hP
  have hD : va_D A [(zo14irriiiiiirriirrrrlriiii m0 th aS aI im ac sp en wg op aB aT se dn aG aO aN aD bv aY rn9_4 kd nu tv), (zaI aY cY 20 fY9_3)] := hD
  have hK : va_K (dC, dI) vwCl [(cY, .int)] s := hK
  obtain ⟨e_5, hY_6⟩ := hw_2
  obtain rfl := e_5
  refine lv_aload_n hx hb dX12_plainLooks_5 rfl (lv_at hl 0 rfl) ?_
  refine lv_iload_n hx hb dX12_plainLooks_6 rfl (lv_at hl 1 rfl) ?_
  have hPc := hP.sub (ws' := [(zo14irriiiiiirriirrrrlriiii m0 th aS aI im ac sp en wg op aB aT se dn aG aO aN aD bv aY (nI ((tl ++ [3]).length)) kd nu tv), (zaI aY cY 20 fY9_3)]) [0, 1] rfl
  have hDc := hD.sub (ws' := [(zo14irriiiiiirriirrrrlriiii m0 th aS aI im ac sp en wg op aB aT se dn aG aO aN aD bv aY (nI ((tl ++ [3]).length)) kd nu tv), (zaI aY cY 20 fY9_3)]) [0, 1] (by decide) rfl
  have hKc := hK.sub (tys' := [(cY, .int)]) [0] rfl
  have hFc := va_free (wc := [(zo14irriiiiiirriirrrrlriiii m0 th aS aI im ac sp en wg op aB aT se dn aG aO aN aD bv aY (nI ((tl ++ [3]).length)) kd nu tv), (zaI aY cY 20 fY9_3)]) hD hS hA [0, 1] rfl
  refine va_calli (va_runV (As := [.int x]) (rest := []) ⟨hx, hb, hml, hown, hts⟩ (c_goesActs l dC dI m0 aS aI aB aT aG aO aN aD aY th im ac sp en wg op se dn (nI ((tl ++ [3]).length)) kd nu tv bv cY fY9_3 (tl ++ [3]) x H.size (by have hbS := btS_le kd; have hbG := btG_le kd; have hbL := btL_le kd; (try simp only [List.length_append, List.length_cons, List.length_nil]); omega) (hY_6)) (cwV 1 hts gX12_plainLooks_X12_goesActs rfl rfl rfl hd_yX12_goesActs ⟨Nat.le_of_ble_eq_true rfl, Nat.le_of_ble_eq_true rfl⟩) ⟨fun a U g mk q => by obtain ⟨q0, q1, qP, qK, qD⟩ := q; exact ⟨q0, mvz g mk a q1, mvP g mk a qP, mvK g mk a qK, qD⟩, va_recv hK hP (ci := 14) (q := (RX12, TX12, 23)) (q0 := 0) rfl rfl, fun U hU hW => ⟨rfl, by rw [hU], by rw [hU]; exact hPc, va_K.moved hW.alike hKc, hDc.weaken (fun _ _ _ _ => trivial)⟩⟩ rfl rfl hl.1 rfl (lv_room (Nat.le_of_ble_eq_true rfl)) dX12_plainLooks_7 ⟨Nat.le_of_ble_eq_true rfl, Nat.le_of_ble_eq_true rfl⟩) hS (fun q _ h => hFc q h) hFc (fun r_7 u tC H1 locs htC hvm hw_8 hB hz1 hk1 hS => ?_)
  obtain ⟨fY9_9, rn9_10⟩ := u
  try dsimp only at hw_8 hB
  obtain ⟨hP1, hK1, hD1⟩ := hB
  rw [htC] at hP1
  have hK1 := va_K.moved hvm.symm hK1
  obtain ⟨hP, hD⟩ := va_join (wr := []) (w1 := [(zo14irriiiiiirriirrrrlriiii m0 th aS aI im ac sp en wg op aB aT se dn aG aO aN aD bv aY rn9_10 kd nu tv), (zaI aY cY 20 fY9_9)]) hP hD [0, 1] [] rfl rfl (by decide) (by decide) hk1 hFc hP1 hD1
  have hK := (hK.sub (tys' := []) [] rfl).app hK1
  generalize H1 = H at hP hS ⊢
  have hP : va_P (dC, dI) vwCl [(zo14irriiiiiirriirrrrlriiii m0 th aS aI im ac sp en wg op aB aT se dn aG aO aN aD bv aY rn9_10 kd nu tv), (zaI aY cY 20 fY9_9)] H := hP
  have hD : va_D A [(zo14irriiiiiirriirrrrlriiii m0 th aS aI im ac sp en wg op aB aT se dn aG aO aN aD bv aY rn9_10 kd nu tv), (zaI aY cY 20 fY9_9)] := hD
  have hK : va_K (dC, dI) vwCl [(cY, .int)] s := hK
  obtain ⟨er_11, h_12⟩ := hw_8
  obtain ⟨e_13, hY_14⟩ := h_12
  obtain rfl := e_13
  subst er_11
  refine lv_iconst (v := 2) hx hb dX12_plainLooks_10 (by decide) ?_
  refine lv_imul hx hb dX12_plainLooks_11 ?_
  rw [hQ]
  have hP9 := hP.sub (ws' := [(zo14irriiiiiirriirrrrlriiii m0 th aS aI im ac sp en wg op aB aT se dn aG aO aN aD bv aY (nI (((tl ++ [3]) ++ btG kd).length)) kd nu tv), (zaI aY cY 20 fY9_9)]) [0, 1] rfl
  have hD9 := hD.sub (ws' := [(zo14irriiiiiirriirrrrlriiii m0 th aS aI im ac sp en wg op aB aT se dn aG aO aN aD bv aY (nI (((tl ++ [3]) ++ btG kd).length)) kd nu tv), (zaI aY cY 20 fY9_9)]) [0, 1] (by decide) rfl
  have hK9 := hK.sub (tys' := [(cY, .int)]) [0] rfl
  exact W.iret (v := (acG kd nu tv x) * 2) hx hb hr (fun tQ htQ hWQ => ⟨⟨((acG kd nu tv x) * 2), (fY9_9, (nI (((tl ++ [3]) ++ btG kd).length))), rfl, ⟨rfl, by rw [show tl ++ (3 :: btG kd) = ((tl ++ [3]) ++ btG kd) from by simp]; exact ⟨rfl, hY_14⟩⟩, by rw [htQ]; exact hP9, va_K.moved hWQ.alike hK9, hD9⟩, hS.F htQ⟩) hS.2.2 dX12_plainLooks_12

theorem kc_looksActs_0 : ∀ w ∈ wsX120, w ∈ wsX12_looksActs := fun w h => List.mem_cons_of_mem _ (gin_wsX120 w h)
theorem kc_looksActs_1 : (.fieldLink RX12 255 "MistHeapsModel" "kind" "I" : Cond) ∈ wsX12_looksActs := kc_of 1160 rfl rfl rfl
set_option maxHeartbeats 4000000 in
set_option maxRecDepth 100000 in
theorem c_looksActs (l : Launch) (dC : Nat → ClassId) (dI : Nat → Nat → Nat) (m0 aS aI aB aT aG aO aN aD aY : Nat) (th im ac sp en wg op se dn rn kd nu tv : Int32) (bv : Int64) (cY : ClassId) (fY : Nat → Int32) (tl : List Nat) (x : Int32) (sz : Nat) (hq : tl.length ≤ 12) (zY : okY fY tl) : Met l yX12_looksActs wsX12_looksActs ({ frames := 6, cells := 0, slots := 0, locals := 126 } : Room) (va_Pc [.ref m0, .int x] (fun U => U.heap.size = sz ∧ va_P (dC, dI) vwCl [(zo14irriiiiiirriirrrrlriiii m0 th aS aI im ac sp en wg op aB aT se dn aG aO aN aD bv aY (nI tl.length) kd nu tv), (zaI aY cY 20 fY)] U.heap ∧ va_K (dC, dI) vwCl [(cY, .int)] U ∧ va_D (fun _ => True) [(zo14irriiiiiirriirrrrlriiii m0 th aS aI im ac sp en wg op aB aT se dn aG aO aN aD bv aY (nI tl.length) kd nu tv), (zaI aY cY 20 fY)])) (va_Qi (fun (r : Int32) (u : (Nat → Int32) × (Int32)) => match u with | (fY9, rn9) => r = acL kd nu tv x ∧ rn9 = nI (tl ++ btL kd).length ∧ okY fY9 (tl ++ btL kd)) (fun (u : (Nat → Int32) × (Int32)) (t : State) => match u with | (fY9, rn9) => va_P (dC, dI) vwCl [(zo14irriiiiiirriirrrrlriiii m0 th aS aI im ac sp en wg op aB aT se dn aG aO aN aD bv aY rn9 kd nu tv), (zaI aY cY 20 fY9)] t.heap ∧ va_K (dC, dI) vwCl [(cY, .int)] t ∧ va_D (va_A [(zo14irriiiiiirriirrrrlriiii m0 th aS aI im ac sp en wg op aB aT se dn aG aO aN aD bv aY (nI tl.length) kd nu tv), (zaI aY cY 20 fY)] sz) [(zo14irriiiiiirriirrrrlriiii m0 th aS aI im ac sp en wg op aB aT se dn aG aO aN aD bv aY rn9 kd nu tv), (zaI aY cY 20 fY9)]) (va_A [(zo14irriiiiiirriirrrrlriiii m0 th aS aI im ac sp en wg op aB aT se dn aG aO aN aD bv aY (nI tl.length) kd nu tv), (zaI aY cY 20 fY)] sz)) 0 0 (va_A [(zo14irriiiiiirriirrrrlriiii m0 th aS aI im ac sp en wg op aB aT se dn aG aO aN aD bv aY (nI tl.length) kd nu tv), (zaI aY cY 20 fY)] sz) := by
  refine met_ofQ (cc := cX12_looksActs) (maxL := 3) (ret := (some .int)) (by decide) rfl ?_
  intro p e s m args below meth c s₁ Q B hml hv hQ
  obtain ⟨rfl, hsz, hP, hK, hD0⟩ := hv
  have hx := B.exec
  have hb := B.bytes
  have hr := B.returns
  have hts := atoms_spec (ws := wsX12_looksActs) B.pre
  have hown : s.vm.findClass RX12 = some m.cls := findClass_of_methodNamed B.named
  have hlocks := B.notSynchronized
  subst hsz
  have hD := hD0.self (sz := s.heap.size)
  generalize hAe : va_A [(zo14irriiiiiirriirrrrlriiii m0 th aS aI im ac sp en wg op aB aT se dn aG aO aN aD bv aY (nI tl.length) kd nu tv), (zaI aY cY 20 fY)] s.heap.size = A at hD hQ ⊢
  have hA : ∀ q : Nat, s.heap.size ≤ q → A q := fun q h => by rw [← hAe]; exact Or.inr h
  have hS : va_S A s.heap s.heap [] := va_S.rf
  have hl := lv_entry [.ref m0, .int x] (n := 3) (Nat.le_of_ble_eq_true rfl)
  rw [lg_entry_eq]
  generalize (lg_sl [.ref m0, .int x] ++ List.replicate (3 - (lg_sl [.ref m0, .int x]).length) Slot.unset).toArray = ls at hl ⊢
  generalize hag : ([.ref m0, .int x] : List Value).toArray = args at hts hQ ⊢
  have hl : lv_has ls 3 [(0, .ref m0), (1, .int x)] := hl
  obtain ⟨H, hH⟩ : ∃ H : Heap, H = s.heap := ⟨_, rfl⟩
  rw [← hH] at hP
  rw [← hH]
  have hS : va_S A s.heap H [] := by rw [hH]; exact hS
  obtain ⟨locs, hlo⟩ : ∃ L : List Loc, L = [] := ⟨_, rfl⟩
  rw [← hlo] at hS
  rw [← hlo]
  clear hH hlo
  refine lv_aload_n hx hb dX12_looksActs_0 rfl (lv_at hl 0 rfl) ?_
  refine va_get (D := (dC, dI)) (ci := 14) (v := .int kd) (C := RX12) (T := TX12) (N := 23) hx hb hts kc_looksActs_0 hown hK hP 0 rfl rfl 20 (by decide) (hts (.fieldLink RX12 255 "MistHeapsModel" "kind" "I") kc_looksActs_1) (fun _ h9 => h9) rfl dX12_looksActs_1 ?_
  refine lv_iconst (v := 3) hx hb dX12_looksActs_4 (by decide) ?_
  refine vp_callSi (va_runS (As := [.int kd, .int 3]) (rest := []) ⟨hx, hb, hml, hown, hts⟩ (c_under l dC dI kd 3) (va_cwS 2 hts gX12_looksActs_X12_isUnder rfl rfl rfl hd_yX12_isUnder.2 ⟨Nat.le_of_ble_eq_true rfl, Nat.le_of_ble_eq_true rfl⟩) ⟨fun a U g mk q => ⟨q.1, trivial⟩, fun U hU hW => ⟨rfl, trivial⟩⟩ rfl rfl hl.1 rfl (lv_room (Nat.le_of_ble_eq_true rfl)) dX12_looksActs_5 ⟨Nat.le_of_ble_eq_true rfl, Nat.le_of_ble_eq_true rfl⟩).run (fun r_1 hw_2 => ?_)
  rcases hw_2 with ⟨rfl, hU_3⟩ | ⟨rfl, hU_3⟩
  · skip
    refine lv_if_eq (tgt := 26) hx hb dX12_looksActs_8 (by decide) (fun c_4 => absurd c_4 (by decide)) (fun _ => ?_)
    refine lv_aload_n hx hb dX12_looksActs_11 rfl (lv_at hl 0 rfl) ?_
    refine lv_bipush (v := 31) hx hb dX12_looksActs_12 (by decide) ?_
    have hPc := hP.sub (ws' := [(zo14irriiiiiirriirrrrlriiii m0 th aS aI im ac sp en wg op aB aT se dn aG aO aN aD bv aY (nI tl.length) kd nu tv), (zaI aY cY 20 fY)]) [0, 1] rfl
    have hDc := hD.sub (ws' := [(zo14irriiiiiirriirrrrlriiii m0 th aS aI im ac sp en wg op aB aT se dn aG aO aN aD bv aY (nI tl.length) kd nu tv), (zaI aY cY 20 fY)]) [0, 1] (by decide) rfl
    have hKc := hK.sub (tys' := [(cY, .int)]) [0] rfl
    have hFc := va_free (wc := [(zo14irriiiiiirriirrrrlriiii m0 th aS aI im ac sp en wg op aB aT se dn aG aO aN aD bv aY (nI tl.length) kd nu tv), (zaI aY cY 20 fY)]) hD hS hA [0, 1] rfl
    refine va_callv (va_runV (As := [.int 31]) (rest := []) ⟨hx, hb, hml, hown, hts⟩ (c_ranBody l dC dI m0 aS aI aB aT aG aO aN aD aY th im ac sp en wg op se dn (nI tl.length) kd nu tv bv cY fY tl 31 H.size (by have hbS := btS_le kd; have hbG := btG_le kd; have hbL := btL_le kd; (try simp only [List.length_append, List.length_cons, List.length_nil]); omega) (zY)) (cwV 1 hts gX12_looksActs_X12_ranBody rfl rfl rfl hd_yX12_ranBody ⟨Nat.le_of_ble_eq_true rfl, Nat.le_of_ble_eq_true rfl⟩) ⟨fun a U g mk q => by obtain ⟨q0, q1, qP, qK, qD⟩ := q; exact ⟨q0, mvz g mk a q1, mvP g mk a qP, mvK g mk a qK, qD⟩, va_recv hK hP (ci := 14) (q := (RX12, TX12, 23)) (q0 := 0) rfl rfl, fun U hU hW => ⟨rfl, by rw [hU], by rw [hU]; exact hPc, va_K.moved hW.alike hKc, hDc.weaken (fun _ _ _ _ => trivial)⟩⟩ rfl rfl hl.1 rfl (lv_room (Nat.le_of_ble_eq_true rfl)) dX12_looksActs_14 ⟨Nat.le_of_ble_eq_true rfl, Nat.le_of_ble_eq_true rfl⟩) hS (fun q _ h => hFc q h) hFc (fun u tC H1 locs htC hvm hw_6 hB hz1 hk1 hS => ?_)
    obtain ⟨fY9_7, rn9_8⟩ := u
    try dsimp only at hw_6 hB
    obtain ⟨hP1, hK1, hD1⟩ := hB
    rw [htC] at hP1
    have hK1 := va_K.moved hvm.symm hK1
    obtain ⟨hP, hD⟩ := va_join (wr := []) (w1 := [(zo14irriiiiiirriirrrrlriiii m0 th aS aI im ac sp en wg op aB aT se dn aG aO aN aD bv aY rn9_8 kd nu tv), (zaI aY cY 20 fY9_7)]) hP hD [0, 1] [] rfl rfl (by decide) (by decide) hk1 hFc hP1 hD1
    have hK := (hK.sub (tys' := []) [] rfl).app hK1
    generalize H1 = H at hP hS ⊢
    have hP : va_P (dC, dI) vwCl [(zo14irriiiiiirriirrrrlriiii m0 th aS aI im ac sp en wg op aB aT se dn aG aO aN aD bv aY rn9_8 kd nu tv), (zaI aY cY 20 fY9_7)] H := hP
    have hD : va_D A [(zo14irriiiiiirriirrrrlriiii m0 th aS aI im ac sp en wg op aB aT se dn aG aO aN aD bv aY rn9_8 kd nu tv), (zaI aY cY 20 fY9_7)] := hD
    have hK : va_K (dC, dI) vwCl [(cY, .int)] s := hK
    obtain ⟨e_9, hY_10⟩ := hw_6
    obtain rfl := e_9
    refine lv_aload_n hx hb dX12_looksActs_17 rfl (lv_at hl 0 rfl) ?_
    refine lv_iload_n hx hb dX12_looksActs_18 rfl (lv_at hl 1 rfl) ?_
    have hPc := hP.sub (ws' := [(zo14irriiiiiirriirrrrlriiii m0 th aS aI im ac sp en wg op aB aT se dn aG aO aN aD bv aY (nI ((tl ++ [31]).length)) kd nu tv), (zaI aY cY 20 fY9_7)]) [0, 1] rfl
    have hDc := hD.sub (ws' := [(zo14irriiiiiirriirrrrlriiii m0 th aS aI im ac sp en wg op aB aT se dn aG aO aN aD bv aY (nI ((tl ++ [31]).length)) kd nu tv), (zaI aY cY 20 fY9_7)]) [0, 1] (by decide) rfl
    have hKc := hK.sub (tys' := [(cY, .int)]) [0] rfl
    have hFc := va_free (wc := [(zo14irriiiiiirriirrrrlriiii m0 th aS aI im ac sp en wg op aB aT se dn aG aO aN aD bv aY (nI ((tl ++ [31]).length)) kd nu tv), (zaI aY cY 20 fY9_7)]) hD hS hA [0, 1] rfl
    refine va_calli (va_runV (As := [.int x]) (rest := []) ⟨hx, hb, hml, hown, hts⟩ (c_plainLooks l dC dI m0 aS aI aB aT aG aO aN aD aY th im ac sp en wg op se dn (nI ((tl ++ [31]).length)) kd nu tv bv cY fY9_7 (tl ++ [31]) x H.size (by have hbS := btS_le kd; have hbG := btG_le kd; have hbL := btL_le kd; (try simp only [List.length_append, List.length_cons, List.length_nil]); omega) (hY_10)) (cwV 1 hts gX12_looksActs_X12_plainLooks rfl rfl rfl hd_yX12_plainLooks ⟨Nat.le_of_ble_eq_true rfl, Nat.le_of_ble_eq_true rfl⟩) ⟨fun a U g mk q => by obtain ⟨q0, q1, qP, qK, qD⟩ := q; exact ⟨q0, mvz g mk a q1, mvP g mk a qP, mvK g mk a qK, qD⟩, va_recv hK hP (ci := 14) (q := (RX12, TX12, 23)) (q0 := 0) rfl rfl, fun U hU hW => ⟨rfl, by rw [hU], by rw [hU]; exact hPc, va_K.moved hW.alike hKc, hDc.weaken (fun _ _ _ _ => trivial)⟩⟩ rfl rfl hl.1 rfl (lv_room (Nat.le_of_ble_eq_true rfl)) dX12_looksActs_19 ⟨Nat.le_of_ble_eq_true rfl, Nat.le_of_ble_eq_true rfl⟩) hS (fun q _ h => hFc q h) hFc (fun r_11 u tC H1 locs htC hvm hw_12 hB hz1 hk1 hS => ?_)
    obtain ⟨fY9_13, rn9_14⟩ := u
    try dsimp only at hw_12 hB
    obtain ⟨hP1, hK1, hD1⟩ := hB
    rw [htC] at hP1
    have hK1 := va_K.moved hvm.symm hK1
    obtain ⟨hP, hD⟩ := va_join (wr := []) (w1 := [(zo14irriiiiiirriirrrrlriiii m0 th aS aI im ac sp en wg op aB aT se dn aG aO aN aD bv aY rn9_14 kd nu tv), (zaI aY cY 20 fY9_13)]) hP hD [0, 1] [] rfl rfl (by decide) (by decide) hk1 hFc hP1 hD1
    have hK := (hK.sub (tys' := []) [] rfl).app hK1
    generalize H1 = H at hP hS ⊢
    have hP : va_P (dC, dI) vwCl [(zo14irriiiiiirriirrrrlriiii m0 th aS aI im ac sp en wg op aB aT se dn aG aO aN aD bv aY rn9_14 kd nu tv), (zaI aY cY 20 fY9_13)] H := hP
    have hD : va_D A [(zo14irriiiiiirriirrrrlriiii m0 th aS aI im ac sp en wg op aB aT se dn aG aO aN aD bv aY rn9_14 kd nu tv), (zaI aY cY 20 fY9_13)] := hD
    have hK : va_K (dC, dI) vwCl [(cY, .int)] s := hK
    obtain ⟨er_15, h_16⟩ := hw_12
    obtain ⟨e_17, hY_18⟩ := h_16
    obtain rfl := e_17
    subst er_15
    refine lv_bipush (v := 7) hx hb dX12_looksActs_22 (by decide) ?_
    refine lv_ixor hx hb dX12_looksActs_24 ?_
    rw [hQ]
    have hP9 := hP.sub (ws' := [(zo14irriiiiiirriirrrrlriiii m0 th aS aI im ac sp en wg op aB aT se dn aG aO aN aD bv aY (nI (((tl ++ [31]) ++ (3 :: btG kd)).length)) kd nu tv), (zaI aY cY 20 fY9_13)]) [0, 1] rfl
    have hD9 := hD.sub (ws' := [(zo14irriiiiiirriirrrrlriiii m0 th aS aI im ac sp en wg op aB aT se dn aG aO aN aD bv aY (nI (((tl ++ [31]) ++ (3 :: btG kd)).length)) kd nu tv), (zaI aY cY 20 fY9_13)]) [0, 1] (by decide) rfl
    have hK9 := hK.sub (tys' := [(cY, .int)]) [0] rfl
    exact W.iret (v := (acG kd nu tv x * 2) ^^^ 7) hx hb hr (fun tQ htQ hWQ => ⟨⟨((acG kd nu tv x * 2) ^^^ 7), (fY9_13, (nI (((tl ++ [31]) ++ (3 :: btG kd)).length))), rfl, ⟨acL_3 (by assumption), by rw [show tl ++ btL kd = ((tl ++ [31]) ++ (3 :: btG kd)) from (congrArg (fun z => tl ++ z) (btL_3 (by assumption))).trans (by simp)]; exact ⟨rfl, hY_18⟩⟩, by rw [htQ]; exact hP9, va_K.moved hWQ.alike hK9, hD9⟩, hS.F htQ⟩) hS.2.2 dX12_looksActs_25
  · skip
    refine lv_if_eq (tgt := 26) hx hb dX12_looksActs_8 (by decide) (fun _ => ?_) (fun c_19 => absurd c_19 (by decide))
    refine lv_aload_n hx hb dX12_looksActs_26 rfl (lv_at hl 0 rfl) ?_
    refine va_get (D := (dC, dI)) (ci := 14) (v := .int kd) (C := RX12) (T := TX12) (N := 23) hx hb hts kc_looksActs_0 hown hK hP 0 rfl rfl 20 (by decide) (hts (.fieldLink RX12 255 "MistHeapsModel" "kind" "I") kc_looksActs_1) (fun _ h9 => h9) rfl dX12_looksActs_27 ?_
    refine lv_iconst (v := 4) hx hb dX12_looksActs_30 (by decide) ?_
    refine lv_icmp_ne (tgt := 56) hx hb dX12_looksActs_31 (by decide) (fun c_20 => ?_) (fun c_20 => ?_)
    · skip
      refine lv_aload_n hx hb dX12_looksActs_56 rfl (lv_at hl 0 rfl) ?_
      refine lv_iload_n hx hb dX12_looksActs_57 rfl (lv_at hl 1 rfl) ?_
      have hPc := hP.sub (ws' := [(zo14irriiiiiirriirrrrlriiii m0 th aS aI im ac sp en wg op aB aT se dn aG aO aN aD bv aY (nI tl.length) kd nu tv), (zaI aY cY 20 fY)]) [0, 1] rfl
      have hDc := hD.sub (ws' := [(zo14irriiiiiirriirrrrlriiii m0 th aS aI im ac sp en wg op aB aT se dn aG aO aN aD bv aY (nI tl.length) kd nu tv), (zaI aY cY 20 fY)]) [0, 1] (by decide) rfl
      have hKc := hK.sub (tys' := [(cY, .int)]) [0] rfl
      have hFc := va_free (wc := [(zo14irriiiiiirriirrrrlriiii m0 th aS aI im ac sp en wg op aB aT se dn aG aO aN aD bv aY (nI tl.length) kd nu tv), (zaI aY cY 20 fY)]) hD hS hA [0, 1] rfl
      refine va_calli (va_runV (As := [.int x]) (rest := []) ⟨hx, hb, hml, hown, hts⟩ (c_plainLooks l dC dI m0 aS aI aB aT aG aO aN aD aY th im ac sp en wg op se dn (nI tl.length) kd nu tv bv cY fY tl x H.size (by have hbS := btS_le kd; have hbG := btG_le kd; have hbL := btL_le kd; (try simp only [List.length_append, List.length_cons, List.length_nil]); omega) (zY)) (cwV 1 hts gX12_looksActs_X12_plainLooks rfl rfl rfl hd_yX12_plainLooks ⟨Nat.le_of_ble_eq_true rfl, Nat.le_of_ble_eq_true rfl⟩) ⟨fun a U g mk q => by obtain ⟨q0, q1, qP, qK, qD⟩ := q; exact ⟨q0, mvz g mk a q1, mvP g mk a qP, mvK g mk a qK, qD⟩, va_recv hK hP (ci := 14) (q := (RX12, TX12, 23)) (q0 := 0) rfl rfl, fun U hU hW => ⟨rfl, by rw [hU], by rw [hU]; exact hPc, va_K.moved hW.alike hKc, hDc.weaken (fun _ _ _ _ => trivial)⟩⟩ rfl rfl hl.1 rfl (lv_room (Nat.le_of_ble_eq_true rfl)) dX12_looksActs_58 ⟨Nat.le_of_ble_eq_true rfl, Nat.le_of_ble_eq_true rfl⟩) hS (fun q _ h => hFc q h) hFc (fun r_21 u tC H1 locs htC hvm hw_22 hB hz1 hk1 hS => ?_)
      obtain ⟨fY9_23, rn9_24⟩ := u
      try dsimp only at hw_22 hB
      obtain ⟨hP1, hK1, hD1⟩ := hB
      rw [htC] at hP1
      have hK1 := va_K.moved hvm.symm hK1
      obtain ⟨hP, hD⟩ := va_join (wr := []) (w1 := [(zo14irriiiiiirriirrrrlriiii m0 th aS aI im ac sp en wg op aB aT se dn aG aO aN aD bv aY rn9_24 kd nu tv), (zaI aY cY 20 fY9_23)]) hP hD [0, 1] [] rfl rfl (by decide) (by decide) hk1 hFc hP1 hD1
      have hK := (hK.sub (tys' := []) [] rfl).app hK1
      generalize H1 = H at hP hS ⊢
      have hP : va_P (dC, dI) vwCl [(zo14irriiiiiirriirrrrlriiii m0 th aS aI im ac sp en wg op aB aT se dn aG aO aN aD bv aY rn9_24 kd nu tv), (zaI aY cY 20 fY9_23)] H := hP
      have hD : va_D A [(zo14irriiiiiirriirrrrlriiii m0 th aS aI im ac sp en wg op aB aT se dn aG aO aN aD bv aY rn9_24 kd nu tv), (zaI aY cY 20 fY9_23)] := hD
      have hK : va_K (dC, dI) vwCl [(cY, .int)] s := hK
      obtain ⟨er_25, h_26⟩ := hw_22
      obtain ⟨e_27, hY_28⟩ := h_26
      obtain rfl := e_27
      subst er_25
      rw [hQ]
      have hP9 := hP.sub (ws' := [(zo14irriiiiiirriirrrrlriiii m0 th aS aI im ac sp en wg op aB aT se dn aG aO aN aD bv aY (nI ((tl ++ (3 :: btG kd)).length)) kd nu tv), (zaI aY cY 20 fY9_23)]) [0, 1] rfl
      have hD9 := hD.sub (ws' := [(zo14irriiiiiirriirrrrlriiii m0 th aS aI im ac sp en wg op aB aT se dn aG aO aN aD bv aY (nI ((tl ++ (3 :: btG kd)).length)) kd nu tv), (zaI aY cY 20 fY9_23)]) [0, 1] (by decide) rfl
      have hK9 := hK.sub (tys' := [(cY, .int)]) [0] rfl
      exact W.iret (v := acG kd nu tv x * 2) hx hb hr (fun tQ htQ hWQ => ⟨⟨(acG kd nu tv x * 2), (fY9_23, (nI ((tl ++ (3 :: btG kd)).length))), rfl, ⟨acL_0 (by assumption) (by assumption), by rw [show tl ++ btL kd = (tl ++ (3 :: btG kd)) from (congrArg (fun z => tl ++ z) (btL_0 (by assumption) (by assumption))).trans (by simp)]; exact ⟨rfl, hY_28⟩⟩, by rw [htQ]; exact hP9, va_K.moved hWQ.alike hK9, hD9⟩, hS.F htQ⟩) hS.2.2 dX12_looksActs_61
    · skip
      refine lv_aload_n hx hb dX12_looksActs_34 rfl (lv_at hl 0 rfl) ?_
      refine lv_bipush (v := 41) hx hb dX12_looksActs_35 (by decide) ?_
      have hPc := hP.sub (ws' := [(zo14irriiiiiirriirrrrlriiii m0 th aS aI im ac sp en wg op aB aT se dn aG aO aN aD bv aY (nI tl.length) kd nu tv), (zaI aY cY 20 fY)]) [0, 1] rfl
      have hDc := hD.sub (ws' := [(zo14irriiiiiirriirrrrlriiii m0 th aS aI im ac sp en wg op aB aT se dn aG aO aN aD bv aY (nI tl.length) kd nu tv), (zaI aY cY 20 fY)]) [0, 1] (by decide) rfl
      have hKc := hK.sub (tys' := [(cY, .int)]) [0] rfl
      have hFc := va_free (wc := [(zo14irriiiiiirriirrrrlriiii m0 th aS aI im ac sp en wg op aB aT se dn aG aO aN aD bv aY (nI tl.length) kd nu tv), (zaI aY cY 20 fY)]) hD hS hA [0, 1] rfl
      refine va_callv (va_runV (As := [.int 41]) (rest := []) ⟨hx, hb, hml, hown, hts⟩ (c_ranBody l dC dI m0 aS aI aB aT aG aO aN aD aY th im ac sp en wg op se dn (nI tl.length) kd nu tv bv cY fY tl 41 H.size (by have hbS := btS_le kd; have hbG := btG_le kd; have hbL := btL_le kd; (try simp only [List.length_append, List.length_cons, List.length_nil]); omega) (zY)) (cwV 1 hts gX12_looksActs_X12_ranBody rfl rfl rfl hd_yX12_ranBody ⟨Nat.le_of_ble_eq_true rfl, Nat.le_of_ble_eq_true rfl⟩) ⟨fun a U g mk q => by obtain ⟨q0, q1, qP, qK, qD⟩ := q; exact ⟨q0, mvz g mk a q1, mvP g mk a qP, mvK g mk a qK, qD⟩, va_recv hK hP (ci := 14) (q := (RX12, TX12, 23)) (q0 := 0) rfl rfl, fun U hU hW => ⟨rfl, by rw [hU], by rw [hU]; exact hPc, va_K.moved hW.alike hKc, hDc.weaken (fun _ _ _ _ => trivial)⟩⟩ rfl rfl hl.1 rfl (lv_room (Nat.le_of_ble_eq_true rfl)) dX12_looksActs_37 ⟨Nat.le_of_ble_eq_true rfl, Nat.le_of_ble_eq_true rfl⟩) hS (fun q _ h => hFc q h) hFc (fun u tC H1 locs htC hvm hw_30 hB hz1 hk1 hS => ?_)
      obtain ⟨fY9_31, rn9_32⟩ := u
      try dsimp only at hw_30 hB
      obtain ⟨hP1, hK1, hD1⟩ := hB
      rw [htC] at hP1
      have hK1 := va_K.moved hvm.symm hK1
      obtain ⟨hP, hD⟩ := va_join (wr := []) (w1 := [(zo14irriiiiiirriirrrrlriiii m0 th aS aI im ac sp en wg op aB aT se dn aG aO aN aD bv aY rn9_32 kd nu tv), (zaI aY cY 20 fY9_31)]) hP hD [0, 1] [] rfl rfl (by decide) (by decide) hk1 hFc hP1 hD1
      have hK := (hK.sub (tys' := []) [] rfl).app hK1
      generalize H1 = H at hP hS ⊢
      have hP : va_P (dC, dI) vwCl [(zo14irriiiiiirriirrrrlriiii m0 th aS aI im ac sp en wg op aB aT se dn aG aO aN aD bv aY rn9_32 kd nu tv), (zaI aY cY 20 fY9_31)] H := hP
      have hD : va_D A [(zo14irriiiiiirriirrrrlriiii m0 th aS aI im ac sp en wg op aB aT se dn aG aO aN aD bv aY rn9_32 kd nu tv), (zaI aY cY 20 fY9_31)] := hD
      have hK : va_K (dC, dI) vwCl [(cY, .int)] s := hK
      obtain ⟨e_33, hY_34⟩ := hw_30
      obtain rfl := e_33
      refine lv_aload_n hx hb dX12_looksActs_40 rfl (lv_at hl 0 rfl) ?_
      refine lv_iload_n hx hb dX12_looksActs_41 rfl (lv_at hl 1 rfl) ?_
      refine lv_iconst (v := 1) hx hb dX12_looksActs_42 (by decide) ?_
      refine lv_isub hx hb dX12_looksActs_43 ?_
      have hPc := hP.sub (ws' := [(zo14irriiiiiirriirrrrlriiii m0 th aS aI im ac sp en wg op aB aT se dn aG aO aN aD bv aY (nI ((tl ++ [41]).length)) kd nu tv), (zaI aY cY 20 fY9_31)]) [0, 1] rfl
      have hDc := hD.sub (ws' := [(zo14irriiiiiirriirrrrlriiii m0 th aS aI im ac sp en wg op aB aT se dn aG aO aN aD bv aY (nI ((tl ++ [41]).length)) kd nu tv), (zaI aY cY 20 fY9_31)]) [0, 1] (by decide) rfl
      have hKc := hK.sub (tys' := [(cY, .int)]) [0] rfl
      have hFc := va_free (wc := [(zo14irriiiiiirriirrrrlriiii m0 th aS aI im ac sp en wg op aB aT se dn aG aO aN aD bv aY (nI ((tl ++ [41]).length)) kd nu tv), (zaI aY cY 20 fY9_31)]) hD hS hA [0, 1] rfl
      refine va_calli (va_runV (As := [.int (x - 1)]) (rest := []) ⟨hx, hb, hml, hown, hts⟩ (c_plainLooks l dC dI m0 aS aI aB aT aG aO aN aD aY th im ac sp en wg op se dn (nI ((tl ++ [41]).length)) kd nu tv bv cY fY9_31 (tl ++ [41]) (x - 1) H.size (by have hbS := btS_le kd; have hbG := btG_le kd; have hbL := btL_le kd; (try simp only [List.length_append, List.length_cons, List.length_nil]); omega) (hY_34)) (cwV 1 hts gX12_looksActs_X12_plainLooks rfl rfl rfl hd_yX12_plainLooks ⟨Nat.le_of_ble_eq_true rfl, Nat.le_of_ble_eq_true rfl⟩) ⟨fun a U g mk q => by obtain ⟨q0, q1, qP, qK, qD⟩ := q; exact ⟨q0, mvz g mk a q1, mvP g mk a qP, mvK g mk a qK, qD⟩, va_recv hK hP (ci := 14) (q := (RX12, TX12, 23)) (q0 := 0) rfl rfl, fun U hU hW => ⟨rfl, by rw [hU], by rw [hU]; exact hPc, va_K.moved hW.alike hKc, hDc.weaken (fun _ _ _ _ => trivial)⟩⟩ rfl rfl hl.1 rfl (lv_room (Nat.le_of_ble_eq_true rfl)) dX12_looksActs_44 ⟨Nat.le_of_ble_eq_true rfl, Nat.le_of_ble_eq_true rfl⟩) hS (fun q _ h => hFc q h) hFc (fun r_35 u tC H1 locs htC hvm hw_36 hB hz1 hk1 hS => ?_)
      obtain ⟨fY9_37, rn9_38⟩ := u
      try dsimp only at hw_36 hB
      obtain ⟨hP1, hK1, hD1⟩ := hB
      rw [htC] at hP1
      have hK1 := va_K.moved hvm.symm hK1
      obtain ⟨hP, hD⟩ := va_join (wr := []) (w1 := [(zo14irriiiiiirriirrrrlriiii m0 th aS aI im ac sp en wg op aB aT se dn aG aO aN aD bv aY rn9_38 kd nu tv), (zaI aY cY 20 fY9_37)]) hP hD [0, 1] [] rfl rfl (by decide) (by decide) hk1 hFc hP1 hD1
      have hK := (hK.sub (tys' := []) [] rfl).app hK1
      generalize H1 = H at hP hS ⊢
      have hP : va_P (dC, dI) vwCl [(zo14irriiiiiirriirrrrlriiii m0 th aS aI im ac sp en wg op aB aT se dn aG aO aN aD bv aY rn9_38 kd nu tv), (zaI aY cY 20 fY9_37)] H := hP
      have hD : va_D A [(zo14irriiiiiirriirrrrlriiii m0 th aS aI im ac sp en wg op aB aT se dn aG aO aN aD bv aY rn9_38 kd nu tv), (zaI aY cY 20 fY9_37)] := hD
      have hK : va_K (dC, dI) vwCl [(cY, .int)] s := hK
      obtain ⟨er_39, h_40⟩ := hw_36
      obtain ⟨e_41, hY_42⟩ := h_40
      obtain rfl := e_41
      subst er_39
      refine lv_istore_n (lv' := [(2, .int (acG kd nu tv (x - 1) * 2)), (0, .ref m0), (1, .int x)]) hx hb dX12_looksActs_47 rfl hl (by decide) rfl (fun ls hl => ?_)
      refine lv_iload_n hx hb dX12_looksActs_48 rfl (lv_at hl 0 rfl) ?_
      refine lv_aload_n hx hb dX12_looksActs_49 rfl (lv_at hl 1 rfl) ?_
      refine lv_iconst (v := 2) hx hb dX12_looksActs_50 (by decide) ?_
      have hPc := hP.sub (ws' := [(zo14irriiiiiirriirrrrlriiii m0 th aS aI im ac sp en wg op aB aT se dn aG aO aN aD bv aY (nI (((tl ++ [41]) ++ (3 :: btG kd)).length)) kd nu tv), (zaI aY cY 20 fY9_37)]) [0, 1] rfl
      have hDc := hD.sub (ws' := [(zo14irriiiiiirriirrrrlriiii m0 th aS aI im ac sp en wg op aB aT se dn aG aO aN aD bv aY (nI (((tl ++ [41]) ++ (3 :: btG kd)).length)) kd nu tv), (zaI aY cY 20 fY9_37)]) [0, 1] (by decide) rfl
      have hKc := hK.sub (tys' := [(cY, .int)]) [0] rfl
      have hFc := va_free (wc := [(zo14irriiiiiirriirrrrlriiii m0 th aS aI im ac sp en wg op aB aT se dn aG aO aN aD bv aY (nI (((tl ++ [41]) ++ (3 :: btG kd)).length)) kd nu tv), (zaI aY cY 20 fY9_37)]) hD hS hA [0, 1] rfl
      refine va_calli (va_runV (As := [.int 2]) (rest := [.int (acG kd nu tv (x - 1) * 2)]) ⟨hx, hb, hml, hown, hts⟩ (c_seesActs l dC dI m0 aS aI aB aT aG aO aN aD aY th im ac sp en wg op se dn (nI (((tl ++ [41]) ++ (3 :: btG kd)).length)) kd nu tv bv cY fY9_37 ((tl ++ [41]) ++ (3 :: btG kd)) 2 H.size (by have hbS := btS_le kd; have hbG := btG_le kd; have hbL := btL_le kd; (try simp only [List.length_append, List.length_cons, List.length_nil]); omega) (hY_42)) (cwV 1 hts gX12_looksActs_X12_seesActs rfl rfl rfl hd_yX12_seesActs ⟨Nat.le_of_ble_eq_true rfl, Nat.le_of_ble_eq_true rfl⟩) ⟨fun a U g mk q => by obtain ⟨q0, q1, qP, qK, qD⟩ := q; exact ⟨q0, mvz g mk a q1, mvP g mk a qP, mvK g mk a qK, qD⟩, va_recv hK hP (ci := 14) (q := (RX12, TX12, 23)) (q0 := 0) rfl rfl, fun U hU hW => ⟨rfl, by rw [hU], by rw [hU]; exact hPc, va_K.moved hW.alike hKc, hDc.weaken (fun _ _ _ _ => trivial)⟩⟩ rfl rfl hl.1 rfl (lv_room (Nat.le_of_ble_eq_true rfl)) dX12_looksActs_51 ⟨Nat.le_of_ble_eq_true rfl, Nat.le_of_ble_eq_true rfl⟩) hS (fun q _ h => hFc q h) hFc (fun r_43 u tC H1 locs htC hvm hw_44 hB hz1 hk1 hS => ?_)
      obtain ⟨fY9_45, rn9_46⟩ := u
      try dsimp only at hw_44 hB
      obtain ⟨hP1, hK1, hD1⟩ := hB
      rw [htC] at hP1
      have hK1 := va_K.moved hvm.symm hK1
      obtain ⟨hP, hD⟩ := va_join (wr := []) (w1 := [(zo14irriiiiiirriirrrrlriiii m0 th aS aI im ac sp en wg op aB aT se dn aG aO aN aD bv aY rn9_46 kd nu tv), (zaI aY cY 20 fY9_45)]) hP hD [0, 1] [] rfl rfl (by decide) (by decide) hk1 hFc hP1 hD1
      have hK := (hK.sub (tys' := []) [] rfl).app hK1
      generalize H1 = H at hP hS ⊢
      have hP : va_P (dC, dI) vwCl [(zo14irriiiiiirriirrrrlriiii m0 th aS aI im ac sp en wg op aB aT se dn aG aO aN aD bv aY rn9_46 kd nu tv), (zaI aY cY 20 fY9_45)] H := hP
      have hD : va_D A [(zo14irriiiiiirriirrrrlriiii m0 th aS aI im ac sp en wg op aB aT se dn aG aO aN aD bv aY rn9_46 kd nu tv), (zaI aY cY 20 fY9_45)] := hD
      have hK : va_K (dC, dI) vwCl [(cY, .int)] s := hK
      obtain ⟨er_47, h_48⟩ := hw_44
      obtain ⟨e_49, hY_50⟩ := h_48
      obtain rfl := e_49
      subst er_47
      refine lv_iadd hx hb dX12_looksActs_54 ?_
      rw [hQ]
      have hP9 := hP.sub (ws' := [(zo14irriiiiiirriirrrrlriiii m0 th aS aI im ac sp en wg op aB aT se dn aG aO aN aD bv aY (nI ((((tl ++ [41]) ++ (3 :: btG kd)) ++ btS kd).length)) kd nu tv), (zaI aY cY 20 fY9_45)]) [0, 1] rfl
      have hD9 := hD.sub (ws' := [(zo14irriiiiiirriirrrrlriiii m0 th aS aI im ac sp en wg op aB aT se dn aG aO aN aD bv aY (nI ((((tl ++ [41]) ++ (3 :: btG kd)) ++ btS kd).length)) kd nu tv), (zaI aY cY 20 fY9_45)]) [0, 1] (by decide) rfl
      have hK9 := hK.sub (tys' := [(cY, .int)]) [0] rfl
      exact W.iret (v := (acG kd nu tv (x - 1) * 2) + (acS kd nu tv 2)) hx hb hr (fun tQ htQ hWQ => ⟨⟨((acG kd nu tv (x - 1) * 2) + (acS kd nu tv 2)), (fY9_45, (nI ((((tl ++ [41]) ++ (3 :: btG kd)) ++ btS kd).length))), rfl, ⟨acL_4 (by assumption) (by assumption), by rw [show tl ++ btL kd = (((tl ++ [41]) ++ (3 :: btG kd)) ++ btS kd) from (congrArg (fun z => tl ++ z) (btL_4 (by assumption) (by assumption))).trans (by simp)]; exact ⟨rfl, hY_50⟩⟩, by rw [htQ]; exact hP9, va_K.moved hWQ.alike hK9, hD9⟩, hS.F htQ⟩) hS.2.2 dX12_looksActs_55

theorem kc_mAct_0 : ∀ w ∈ wsX120, w ∈ wsX12_act := fun w h => List.mem_cons_of_mem _ (gin_wsX120 w h)
theorem kc_mAct_1 : (.fieldLink RX12 246 "MistHeapsModel" "ran" "I" : Cond) ∈ wsX12_act := kc_of 1159 rfl rfl rfl
theorem kc_mAct_2 : (.fieldLink RX12 9 "MistHeapsModel" "s" "[I" : Cond) ∈ wsX12_act := kc_of 1141 rfl rfl rfl
theorem kc_mAct_3 : (.fieldLink RX12 255 "MistHeapsModel" "kind" "I" : Cond) ∈ wsX12_act := kc_of 1160 rfl rfl rfl
theorem kc_mAct_4 : (.fieldLink RX12 252 "MistHeapsModel" "number" "I" : Cond) ∈ wsX12_act := kc_of 1161 rfl rfl rfl
theorem kc_mAct_5 : (.fieldLink RX12 267 "MistHeapsModel" "tellsV" "I" : Cond) ∈ wsX12_act := kc_of 1162 rfl rfl rfl
set_option maxHeartbeats 4000000 in
set_option maxRecDepth 100000 in
theorem c_mAct (l : Launch) (dC : Nat → ClassId) (dI : Nat → Nat → Nat) (m0 aS aI aB aT aG aO aN aD aY : Nat) (th im ac sp en wg op se dn rn kd nu tv : Int32) (bv : Int64) (cS cY : ClassId) (fS : Nat → Int32) (fY : Nat → Int32) (n : Nat) (yk yv : Nat → Int32) (x y z : Int32) (sz : Nat) (zn : fS 0 = nI n) (hn : n ≤ 8) (zkd : ∀ k, k < n → fS (10 + k) = yk k) (zvv : ∀ k, k < n → fS (19 + k) = yv k) : Met l yX12_act wsX12_act ({ frames := 7, cells := 0, slots := 0, locals := 148 } : Room) (va_Pc [.ref m0, .int x, .int y, .int z] (fun U => U.heap.size = sz ∧ va_P (dC, dI) vwCl [(zo14irriiiiiirriirrrrlriiii m0 th aS aI im ac sp en wg op aB aT se dn aG aO aN aD bv aY rn kd nu tv), (zaI aS cS 901 fS), (zaI aY cY 20 fY)] U.heap ∧ va_K (dC, dI) vwCl [(cS, .int), (cY, .int)] U ∧ va_D (fun _ => True) [(zo14irriiiiiirriirrrrlriiii m0 th aS aI im ac sp en wg op aB aT se dn aG aO aN aD bv aY rn kd nu tv), (zaI aS cS 901 fS), (zaI aY cY 20 fY)])) (va_Qi (fun (r : Int32) (u : (Nat → Int32) × (Int32) × (Int32) × (Int32) × (Int32)) => match u with | (fY9, rn9, kd9, nu9, tv9) => r = acR n yk yv x y z ∧ rn9 = nI (acT n yk x y).length ∧ okY fY9 (acT n yk x y)) (fun (u : (Nat → Int32) × (Int32) × (Int32) × (Int32) × (Int32)) (t : State) => match u with | (fY9, rn9, kd9, nu9, tv9) => va_P (dC, dI) vwCl [(zo14irriiiiiirriirrrrlriiii m0 th aS aI im ac sp en wg op aB aT se dn aG aO aN aD bv aY rn9 kd9 nu9 tv9), (zaI aS cS 901 fS), (zaI aY cY 20 fY9)] t.heap ∧ va_K (dC, dI) vwCl [(cS, .int), (cY, .int)] t ∧ va_D (va_A [(zo14irriiiiiirriirrrrlriiii m0 th aS aI im ac sp en wg op aB aT se dn aG aO aN aD bv aY rn kd nu tv), (zaI aS cS 901 fS), (zaI aY cY 20 fY)] sz) [(zo14irriiiiiirriirrrrlriiii m0 th aS aI im ac sp en wg op aB aT se dn aG aO aN aD bv aY rn9 kd9 nu9 tv9), (zaI aS cS 901 fS), (zaI aY cY 20 fY9)]) (va_A [(zo14irriiiiiirriirrrrlriiii m0 th aS aI im ac sp en wg op aB aT se dn aG aO aN aD bv aY rn kd nu tv), (zaI aS cS 901 fS), (zaI aY cY 20 fY)] sz)) 0 0 (va_A [(zo14irriiiiiirriirrrrlriiii m0 th aS aI im ac sp en wg op aB aT se dn aG aO aN aD bv aY rn kd nu tv), (zaI aS cS 901 fS), (zaI aY cY 20 fY)] sz) := by
  refine met_ofQ (cc := cX12_act) (maxL := 4) (ret := (some .int)) (by decide) rfl ?_
  intro p e s m args below meth c s₁ Q B hml hv hQ
  obtain ⟨rfl, hsz, hP, hK, hD0⟩ := hv
  have hx := B.exec
  have hb := B.bytes
  have hr := B.returns
  have hts := atoms_spec (ws := wsX12_act) B.pre
  have hown : s.vm.findClass RX12 = some m.cls := findClass_of_methodNamed B.named
  have hlocks := B.notSynchronized
  subst hsz
  have hD := hD0.self (sz := s.heap.size)
  generalize hAe : va_A [(zo14irriiiiiirriirrrrlriiii m0 th aS aI im ac sp en wg op aB aT se dn aG aO aN aD bv aY rn kd nu tv), (zaI aS cS 901 fS), (zaI aY cY 20 fY)] s.heap.size = A at hD hQ ⊢
  have hA : ∀ q : Nat, s.heap.size ≤ q → A q := fun q h => by rw [← hAe]; exact Or.inr h
  have hS : va_S A s.heap s.heap [] := va_S.rf
  have hl := lv_entry [.ref m0, .int x, .int y, .int z] (n := 4) (Nat.le_of_ble_eq_true rfl)
  rw [lg_entry_eq]
  generalize (lg_sl [.ref m0, .int x, .int y, .int z] ++ List.replicate (4 - (lg_sl [.ref m0, .int x, .int y, .int z]).length) Slot.unset).toArray = ls at hl ⊢
  generalize hag : ([.ref m0, .int x, .int y, .int z] : List Value).toArray = args at hts hQ ⊢
  have hl : lv_has ls 4 [(0, .ref m0), (1, .int x), (2, .int y), (3, .int z)] := hl
  obtain ⟨H, hH⟩ : ∃ H : Heap, H = s.heap := ⟨_, rfl⟩
  rw [← hH] at hP
  rw [← hH]
  have hS : va_S A s.heap H [] := by rw [hH]; exact hS
  obtain ⟨locs, hlo⟩ : ∃ L : List Loc, L = [] := ⟨_, rfl⟩
  rw [← hlo] at hS
  rw [← hlo]
  clear hH hlo
  refine lv_aload_n hx hb dX12_act_0 rfl (lv_at hl 0 rfl) ?_
  refine lv_iconst (v := 0) hx hb dX12_act_1 (by decide) ?_
  refine va_put (D := (dC, dI)) (ci := 14) (v := .int 0) (ty := .int) (C := RX12) (T := TX12) (N := 23) hx hb hts kc_mAct_0 tyX12 tyX12_ok nmX12 hown hK hP hD hS 0 rfl rfl 19 (by decide) (hts (.fieldLink RX12 246 "MistHeapsModel" "ran" "I") kc_mAct_1) (fun _ h9 => h9) rfl (by decide +kernel) rfl rfl (Nat.le_of_ble_eq_true rfl) dX12_act_2 (fun H locs hP hD hS => ?_)
  have hP : va_P (dC, dI) vwCl [(zo14irriiiiiirriirrrrlriiii m0 th aS aI im ac sp en wg op aB aT se dn aG aO aN aD bv aY 0 kd nu tv), (zaI aS cS 901 fS), (zaI aY cY 20 fY)] H := hP
  have hD : va_D A [(zo14irriiiiiirriirrrrlriiii m0 th aS aI im ac sp en wg op aB aT se dn aG aO aN aD bv aY 0 kd nu tv), (zaI aS cS 901 fS), (zaI aY cY 20 fY)] := hD
  refine lv_aload_n hx hb dX12_act_5 rfl (lv_at hl 0 rfl) ?_
  refine lv_iload_n hx hb dX12_act_6 rfl (lv_at hl 1 rfl) ?_
  have hPc := hP.sub (ws' := [(zo14irriiiiiirriirrrrlriiii m0 th aS aI im ac sp en wg op aB aT se dn aG aO aN aD bv aY 0 kd nu tv), (zaI aS cS 901 fS)]) [0, 1] rfl
  have hKc := hK.sub (tys' := [(cS, .int)]) [0] rfl
  refine vp_callSi (va_runV (As := [.int x]) (rest := []) ⟨hx, hb, hml, hown, hts⟩ (c_isHeap l dC dI m0 aS aI aB aT aG aO aN aD aY th im ac sp en wg op se dn 0 kd nu tv bv cS fS n x (zn) (hn)) (cwV 1 hts gX12_act_X12_isHeap rfl rfl rfl hd_yX12_isHeap ⟨Nat.le_of_ble_eq_true rfl, Nat.le_of_ble_eq_true rfl⟩) ⟨fun a U g mk q => by obtain ⟨q0, qP, qK⟩ := q; exact ⟨q0, mvP g mk a qP, mvK g mk a qK⟩, va_recv hK hP (ci := 14) (q := (RX12, TX12, 23)) (q0 := 0) rfl rfl, fun U hU hW => ⟨rfl, by rw [hU]; exact hPc, va_K.moved hW.alike hKc⟩⟩ rfl rfl hl.1 rfl (lv_room (Nat.le_of_ble_eq_true rfl)) dX12_act_7 ⟨Nat.le_of_ble_eq_true rfl, Nat.le_of_ble_eq_true rfl⟩).run (fun r_1 hw_2 => ?_)
  rcases hw_2 with ⟨rfl, j_3, hj_4, rfl⟩ | ⟨rfl, h_5⟩
  · skip
    refine lv_if_eq (tgt := 22) hx hb dX12_act_10 (by decide) (fun c_6 => absurd c_6 (by decide)) (fun _ => ?_)
    refine lv_iload_n hx hb dX12_act_13 rfl (lv_at hl 2 rfl) ?_
    refine lv_iconst (v := 0) hx hb dX12_act_14 (by decide) ?_
    refine lv_iconst (v := 2) hx hb dX12_act_15 (by decide) ?_
    refine vp_callSi (va_runS (As := [.int y, .int 0, .int 2]) (rest := []) ⟨hx, hb, hml, hown, hts⟩ (c_in l dC dI y 0 2) (va_cwS 3 hts gX12_act_X12_in rfl rfl rfl hd_yX12_in.2 ⟨Nat.le_of_ble_eq_true rfl, Nat.le_of_ble_eq_true rfl⟩) ⟨fun a U g mk q => ⟨q.1, trivial⟩, fun U hU hW => ⟨rfl, trivial⟩⟩ rfl rfl hl.1 rfl (lv_room (Nat.le_of_ble_eq_true rfl)) dX12_act_16 ⟨Nat.le_of_ble_eq_true rfl, Nat.le_of_ble_eq_true rfl⟩).run (fun r_7 hw_8 => ?_)
    rcases hw_8 with ⟨rfl, h_9, h_10⟩ | ⟨rfl, h_11⟩
    · skip
      refine lv_if_ne (tgt := 24) hx hb dX12_act_19 (by decide) (fun _ => ?_) (fun c_12 => absurd c_12 (by decide))
      refine lv_aload_n hx hb dX12_act_24 rfl (lv_at hl 0 rfl) ?_
      refine lv_aload_n hx hb dX12_act_25 rfl (lv_at hl 0 rfl) ?_
      refine va_get (D := (dC, dI)) (ci := 14) (v := .ref aS) (C := RX12) (T := TX12) (N := 23) hx hb hts kc_mAct_0 hown hK hP 0 rfl rfl 1 (by decide) (hts (.fieldLink RX12 9 "MistHeapsModel" "s" "[I") kc_mAct_2) (fun _ h9 => h9) rfl dX12_act_26 ?_
      refine lv_bipush (v := 10) hx hb dX12_act_29 (by decide) ?_
      refine lv_iload_n hx hb dX12_act_31 rfl (lv_at hl 1 rfl) ?_
      refine lv_iadd hx hb dX12_act_32 ?_
      refine qi_as (y := nI (10 + j_3)) (nI_add 10 j_3) ?_
      refine va_iald hx hb hK hP 1 0 rfl rfl (vp_in_nI (n := 10 + j_3) (N := 901) (by omega) (by omega)) dX12_act_33 ?_
      refine qi_as (y := yk j_3) ((show fS (nI (10 + j_3) : Int32).toNatClampNeg = fS (10 + j_3) from by rw [nI_clamp (by omega)]).trans (zkd j_3 (by omega))) ?_
      refine va_put (D := (dC, dI)) (ci := 14) (v := .int (yk j_3)) (ty := .int) (C := RX12) (T := TX12) (N := 23) hx hb hts kc_mAct_0 tyX12 tyX12_ok nmX12 hown hK hP hD hS 0 rfl rfl 20 (by decide) (hts (.fieldLink RX12 255 "MistHeapsModel" "kind" "I") kc_mAct_3) (fun _ h9 => h9) rfl (by decide +kernel) rfl rfl (Nat.le_of_ble_eq_true rfl) dX12_act_34 (fun H locs hP hD hS => ?_)
      have hP : va_P (dC, dI) vwCl [(zo14irriiiiiirriirrrrlriiii m0 th aS aI im ac sp en wg op aB aT se dn aG aO aN aD bv aY 0 (yk j_3) nu tv), (zaI aS cS 901 fS), (zaI aY cY 20 fY)] H := hP
      have hD : va_D A [(zo14irriiiiiirriirrrrlriiii m0 th aS aI im ac sp en wg op aB aT se dn aG aO aN aD bv aY 0 (yk j_3) nu tv), (zaI aS cS 901 fS), (zaI aY cY 20 fY)] := hD
      refine lv_aload_n hx hb dX12_act_37 rfl (lv_at hl 0 rfl) ?_
      refine lv_iload_n hx hb dX12_act_38 rfl (lv_at hl 1 rfl) ?_
      refine va_put (D := (dC, dI)) (ci := 14) (v := .int (nI j_3)) (ty := .int) (C := RX12) (T := TX12) (N := 23) hx hb hts kc_mAct_0 tyX12 tyX12_ok nmX12 hown hK hP hD hS 0 rfl rfl 21 (by decide) (hts (.fieldLink RX12 252 "MistHeapsModel" "number" "I") kc_mAct_4) (fun _ h9 => h9) rfl (by decide +kernel) rfl rfl (Nat.le_of_ble_eq_true rfl) dX12_act_39 (fun H locs hP hD hS => ?_)
      have hP : va_P (dC, dI) vwCl [(zo14irriiiiiirriirrrrlriiii m0 th aS aI im ac sp en wg op aB aT se dn aG aO aN aD bv aY 0 (yk j_3) (nI j_3) tv), (zaI aS cS 901 fS), (zaI aY cY 20 fY)] H := hP
      have hD : va_D A [(zo14irriiiiiirriirrrrlriiii m0 th aS aI im ac sp en wg op aB aT se dn aG aO aN aD bv aY 0 (yk j_3) (nI j_3) tv), (zaI aS cS 901 fS), (zaI aY cY 20 fY)] := hD
      refine lv_aload_n hx hb dX12_act_42 rfl (lv_at hl 0 rfl) ?_
      refine lv_aload_n hx hb dX12_act_43 rfl (lv_at hl 0 rfl) ?_
      refine va_get (D := (dC, dI)) (ci := 14) (v := .ref aS) (C := RX12) (T := TX12) (N := 23) hx hb hts kc_mAct_0 hown hK hP 0 rfl rfl 1 (by decide) (hts (.fieldLink RX12 9 "MistHeapsModel" "s" "[I") kc_mAct_2) (fun _ h9 => h9) rfl dX12_act_44 ?_
      refine lv_bipush (v := 19) hx hb dX12_act_47 (by decide) ?_
      refine lv_iload_n hx hb dX12_act_49 rfl (lv_at hl 1 rfl) ?_
      refine lv_iadd hx hb dX12_act_50 ?_
      refine qi_as (y := nI (19 + j_3)) (nI_add 19 j_3) ?_
      refine va_iald hx hb hK hP 1 0 rfl rfl (vp_in_nI (n := 19 + j_3) (N := 901) (by omega) (by omega)) dX12_act_51 ?_
      refine qi_as (y := yv j_3) ((show fS (nI (19 + j_3) : Int32).toNatClampNeg = fS (19 + j_3) from by rw [nI_clamp (by omega)]).trans (zvv j_3 (by omega))) ?_
      refine va_put (D := (dC, dI)) (ci := 14) (v := .int (yv j_3)) (ty := .int) (C := RX12) (T := TX12) (N := 23) hx hb hts kc_mAct_0 tyX12 tyX12_ok nmX12 hown hK hP hD hS 0 rfl rfl 22 (by decide) (hts (.fieldLink RX12 267 "MistHeapsModel" "tellsV" "I") kc_mAct_5) (fun _ h9 => h9) rfl (by decide +kernel) rfl rfl (Nat.le_of_ble_eq_true rfl) dX12_act_52 (fun H locs hP hD hS => ?_)
      have hP : va_P (dC, dI) vwCl [(zo14irriiiiiirriirrrrlriiii m0 th aS aI im ac sp en wg op aB aT se dn aG aO aN aD bv aY 0 (yk j_3) (nI j_3) (yv j_3)), (zaI aS cS 901 fS), (zaI aY cY 20 fY)] H := hP
      have hD : va_D A [(zo14irriiiiiirriirrrrlriiii m0 th aS aI im ac sp en wg op aB aT se dn aG aO aN aD bv aY 0 (yk j_3) (nI j_3) (yv j_3)), (zaI aS cS 901 fS), (zaI aY cY 20 fY)] := hD
      refine lv_iload_n hx hb dX12_act_55 rfl (lv_at hl 2 rfl) ?_
      refine lv_if_ne (tgt := 67) hx hb dX12_act_56 (by decide) (fun c_13 => ?_) (fun c_13 => ?_)
      · skip
        refine lv_iload_n hx hb dX12_act_67 rfl (lv_at hl 2 rfl) ?_
        refine lv_iconst (v := 1) hx hb dX12_act_68 (by decide) ?_
        refine lv_icmp_ne (tgt := 80) hx hb dX12_act_69 (by decide) (fun c_14 => ?_) (fun c_14 => ?_)
        · skip
          refine lv_aload_n hx hb dX12_act_80 rfl (lv_at hl 0 rfl) ?_
          refine lv_iload_n hx hb dX12_act_81 rfl (lv_at hl 3 rfl) ?_
          have hPc := hP.sub (ws' := [(zo14irriiiiiirriirrrrlriiii m0 th aS aI im ac sp en wg op aB aT se dn aG aO aN aD bv aY 0 (yk j_3) (nI j_3) (yv j_3)), (zaI aY cY 20 fY)]) [0, 2] rfl
          have hDc := hD.sub (ws' := [(zo14irriiiiiirriirrrrlriiii m0 th aS aI im ac sp en wg op aB aT se dn aG aO aN aD bv aY 0 (yk j_3) (nI j_3) (yv j_3)), (zaI aY cY 20 fY)]) [0, 2] (by decide) rfl
          have hKc := hK.sub (tys' := [(cY, .int)]) [1] rfl
          have hFc := va_free (wc := [(zo14irriiiiiirriirrrrlriiii m0 th aS aI im ac sp en wg op aB aT se dn aG aO aN aD bv aY 0 (yk j_3) (nI j_3) (yv j_3)), (zaI aY cY 20 fY)]) hD hS hA [0, 2] rfl
          refine va_calli (va_runV (As := [.int z]) (rest := []) ⟨hx, hb, hml, hown, hts⟩ (c_looksActs l dC dI m0 aS aI aB aT aG aO aN aD aY th im ac sp en wg op se dn 0 (yk j_3) (nI j_3) (yv j_3) bv cY fY ([] : List Nat) z H.size (by have hbS := btS_le (yk j_3); have hbG := btG_le (yk j_3); have hbL := btL_le (yk j_3); (try simp only [List.length_append, List.length_cons, List.length_nil]); omega) (okY_nil)) (cwV 1 hts gX12_act_X12_looksActs rfl rfl rfl hd_yX12_looksActs ⟨Nat.le_of_ble_eq_true rfl, Nat.le_of_ble_eq_true rfl⟩) ⟨fun a U g mk q => by obtain ⟨q0, q1, qP, qK, qD⟩ := q; exact ⟨q0, mvz g mk a q1, mvP g mk a qP, mvK g mk a qK, qD⟩, va_recv hK hP (ci := 14) (q := (RX12, TX12, 23)) (q0 := 0) rfl rfl, fun U hU hW => ⟨rfl, by rw [hU], by rw [hU]; exact hPc, va_K.moved hW.alike hKc, hDc.weaken (fun _ _ _ _ => trivial)⟩⟩ rfl rfl hl.1 rfl (lv_room (Nat.le_of_ble_eq_true rfl)) dX12_act_82 ⟨Nat.le_of_ble_eq_true rfl, Nat.le_of_ble_eq_true rfl⟩) hS (fun q _ h => hFc q h) hFc (fun r_15 u tC H1 locs htC hvm hw_16 hB hz1 hk1 hS => ?_)
          obtain ⟨fY9_17, rn9_18⟩ := u
          try dsimp only at hw_16 hB
          obtain ⟨hP1, hK1, hD1⟩ := hB
          rw [htC] at hP1
          have hK1 := va_K.moved hvm.symm hK1
          obtain ⟨hP, hD⟩ := va_join (wr := [(zaI aS cS 901 fS)]) (w1 := [(zo14irriiiiiirriirrrrlriiii m0 th aS aI im ac sp en wg op aB aT se dn aG aO aN aD bv aY rn9_18 (yk j_3) (nI j_3) (yv j_3)), (zaI aY cY 20 fY9_17)]) hP hD [0, 2] [1] rfl rfl (by decide) (by decide) hk1 hFc hP1 hD1
          have hK := (hK.sub (tys' := [(cS, .int)]) [0] rfl).app hK1
          generalize H1 = H at hP hS ⊢
          have hP : va_P (dC, dI) vwCl [(zaI aS cS 901 fS), (zo14irriiiiiirriirrrrlriiii m0 th aS aI im ac sp en wg op aB aT se dn aG aO aN aD bv aY rn9_18 (yk j_3) (nI j_3) (yv j_3)), (zaI aY cY 20 fY9_17)] H := hP
          have hD : va_D A [(zaI aS cS 901 fS), (zo14irriiiiiirriirrrrlriiii m0 th aS aI im ac sp en wg op aB aT se dn aG aO aN aD bv aY rn9_18 (yk j_3) (nI j_3) (yv j_3)), (zaI aY cY 20 fY9_17)] := hD
          have hK : va_K (dC, dI) vwCl [(cS, .int), (cY, .int)] s := hK
          obtain ⟨er_19, h_20⟩ := hw_16
          obtain ⟨e_21, hY_22⟩ := h_20
          obtain rfl := e_21
          subst er_19
          rw [hQ]
          have hP9 := hP.sub (ws' := [(zo14irriiiiiirriirrrrlriiii m0 th aS aI im ac sp en wg op aB aT se dn aG aO aN aD bv aY (nI ((([] : List Nat) ++ btL (yk j_3)).length)) (yk j_3) (nI j_3) (yv j_3)), (zaI aS cS 901 fS), (zaI aY cY 20 fY9_17)]) [1, 0, 2] rfl
          have hD9 := hD.sub (ws' := [(zo14irriiiiiirriirrrrlriiii m0 th aS aI im ac sp en wg op aB aT se dn aG aO aN aD bv aY (nI ((([] : List Nat) ++ btL (yk j_3)).length)) (yk j_3) (nI j_3) (yv j_3)), (zaI aS cS 901 fS), (zaI aY cY 20 fY9_17)]) [1, 0, 2] (by decide) rfl
          have hK9 := hK.sub (tys' := [(cS, .int), (cY, .int)]) [0, 1] rfl
          exact W.iret (v := acL (yk j_3) (nI j_3) (yv j_3) z) hx hb hr (fun tQ htQ hWQ => ⟨⟨(acL (yk j_3) (nI j_3) (yv j_3) z), (fY9_17, (nI ((([] : List Nat) ++ btL (yk j_3)).length)), (yk j_3), (nI j_3), (yv j_3)), rfl, ⟨(ac_2 (n := n) (yk := yk) (yv := yv) (j := j_3) (y := y) (z := z) hn (by omega) (y_is2 (by assumption) (by assumption) (by assumption) (by assumption))).1, by rw [(ac_2 (n := n) (yk := yk) (yv := yv) (j := j_3) (y := y) (z := z) hn (by omega) (y_is2 (by assumption) (by assumption) (by assumption) (by assumption))).2]; exact ⟨rfl, hY_22⟩⟩, by rw [htQ]; exact hP9, va_K.moved hWQ.alike hK9, hD9⟩, hS.F htQ⟩) hS.2.2 dX12_act_85
        · skip
          refine lv_aload_n hx hb dX12_act_72 rfl (lv_at hl 0 rfl) ?_
          refine lv_iload_n hx hb dX12_act_73 rfl (lv_at hl 3 rfl) ?_
          have hPc := hP.sub (ws' := [(zo14irriiiiiirriirrrrlriiii m0 th aS aI im ac sp en wg op aB aT se dn aG aO aN aD bv aY 0 (yk j_3) (nI j_3) (yv j_3)), (zaI aY cY 20 fY)]) [0, 2] rfl
          have hDc := hD.sub (ws' := [(zo14irriiiiiirriirrrrlriiii m0 th aS aI im ac sp en wg op aB aT se dn aG aO aN aD bv aY 0 (yk j_3) (nI j_3) (yv j_3)), (zaI aY cY 20 fY)]) [0, 2] (by decide) rfl
          have hKc := hK.sub (tys' := [(cY, .int)]) [1] rfl
          have hFc := va_free (wc := [(zo14irriiiiiirriirrrrlriiii m0 th aS aI im ac sp en wg op aB aT se dn aG aO aN aD bv aY 0 (yk j_3) (nI j_3) (yv j_3)), (zaI aY cY 20 fY)]) hD hS hA [0, 2] rfl
          refine va_calli (va_runV (As := [.int z]) (rest := []) ⟨hx, hb, hml, hown, hts⟩ (c_goesActs l dC dI m0 aS aI aB aT aG aO aN aD aY th im ac sp en wg op se dn 0 (yk j_3) (nI j_3) (yv j_3) bv cY fY ([] : List Nat) z H.size (by have hbS := btS_le (yk j_3); have hbG := btG_le (yk j_3); have hbL := btL_le (yk j_3); (try simp only [List.length_append, List.length_cons, List.length_nil]); omega) (okY_nil)) (cwV 1 hts gX12_act_X12_goesActs rfl rfl rfl hd_yX12_goesActs ⟨Nat.le_of_ble_eq_true rfl, Nat.le_of_ble_eq_true rfl⟩) ⟨fun a U g mk q => by obtain ⟨q0, q1, qP, qK, qD⟩ := q; exact ⟨q0, mvz g mk a q1, mvP g mk a qP, mvK g mk a qK, qD⟩, va_recv hK hP (ci := 14) (q := (RX12, TX12, 23)) (q0 := 0) rfl rfl, fun U hU hW => ⟨rfl, by rw [hU], by rw [hU]; exact hPc, va_K.moved hW.alike hKc, hDc.weaken (fun _ _ _ _ => trivial)⟩⟩ rfl rfl hl.1 rfl (lv_room (Nat.le_of_ble_eq_true rfl)) dX12_act_74 ⟨Nat.le_of_ble_eq_true rfl, Nat.le_of_ble_eq_true rfl⟩) hS (fun q _ h => hFc q h) hFc (fun r_23 u tC H1 locs htC hvm hw_24 hB hz1 hk1 hS => ?_)
          obtain ⟨fY9_25, rn9_26⟩ := u
          try dsimp only at hw_24 hB
          obtain ⟨hP1, hK1, hD1⟩ := hB
          rw [htC] at hP1
          have hK1 := va_K.moved hvm.symm hK1
          obtain ⟨hP, hD⟩ := va_join (wr := [(zaI aS cS 901 fS)]) (w1 := [(zo14irriiiiiirriirrrrlriiii m0 th aS aI im ac sp en wg op aB aT se dn aG aO aN aD bv aY rn9_26 (yk j_3) (nI j_3) (yv j_3)), (zaI aY cY 20 fY9_25)]) hP hD [0, 2] [1] rfl rfl (by decide) (by decide) hk1 hFc hP1 hD1
          have hK := (hK.sub (tys' := [(cS, .int)]) [0] rfl).app hK1
          generalize H1 = H at hP hS ⊢
          have hP : va_P (dC, dI) vwCl [(zaI aS cS 901 fS), (zo14irriiiiiirriirrrrlriiii m0 th aS aI im ac sp en wg op aB aT se dn aG aO aN aD bv aY rn9_26 (yk j_3) (nI j_3) (yv j_3)), (zaI aY cY 20 fY9_25)] H := hP
          have hD : va_D A [(zaI aS cS 901 fS), (zo14irriiiiiirriirrrrlriiii m0 th aS aI im ac sp en wg op aB aT se dn aG aO aN aD bv aY rn9_26 (yk j_3) (nI j_3) (yv j_3)), (zaI aY cY 20 fY9_25)] := hD
          have hK : va_K (dC, dI) vwCl [(cS, .int), (cY, .int)] s := hK
          obtain ⟨er_27, h_28⟩ := hw_24
          obtain ⟨e_29, hY_30⟩ := h_28
          obtain rfl := e_29
          subst er_27
          refine lv_goto (tgt := 85) hx hb dX12_act_77 (by decide) ?_
          rw [hQ]
          have hP9 := hP.sub (ws' := [(zo14irriiiiiirriirrrrlriiii m0 th aS aI im ac sp en wg op aB aT se dn aG aO aN aD bv aY (nI ((([] : List Nat) ++ btG (yk j_3)).length)) (yk j_3) (nI j_3) (yv j_3)), (zaI aS cS 901 fS), (zaI aY cY 20 fY9_25)]) [1, 0, 2] rfl
          have hD9 := hD.sub (ws' := [(zo14irriiiiiirriirrrrlriiii m0 th aS aI im ac sp en wg op aB aT se dn aG aO aN aD bv aY (nI ((([] : List Nat) ++ btG (yk j_3)).length)) (yk j_3) (nI j_3) (yv j_3)), (zaI aS cS 901 fS), (zaI aY cY 20 fY9_25)]) [1, 0, 2] (by decide) rfl
          have hK9 := hK.sub (tys' := [(cS, .int), (cY, .int)]) [0, 1] rfl
          exact W.iret (v := acG (yk j_3) (nI j_3) (yv j_3) z) hx hb hr (fun tQ htQ hWQ => ⟨⟨(acG (yk j_3) (nI j_3) (yv j_3) z), (fY9_25, (nI ((([] : List Nat) ++ btG (yk j_3)).length)), (yk j_3), (nI j_3), (yv j_3)), rfl, ⟨(ac_1 (n := n) (yk := yk) (yv := yv) (j := j_3) (y := y) (z := z) hn (by omega) (by assumption)).1, by rw [(ac_1 (n := n) (yk := yk) (yv := yv) (j := j_3) (y := y) (z := z) hn (by omega) (by assumption)).2]; exact ⟨rfl, hY_30⟩⟩, by rw [htQ]; exact hP9, va_K.moved hWQ.alike hK9, hD9⟩, hS.F htQ⟩) hS.2.2 dX12_act_85
      · skip
        refine lv_aload_n hx hb dX12_act_59 rfl (lv_at hl 0 rfl) ?_
        refine lv_iload_n hx hb dX12_act_60 rfl (lv_at hl 3 rfl) ?_
        have hPc := hP.sub (ws' := [(zo14irriiiiiirriirrrrlriiii m0 th aS aI im ac sp en wg op aB aT se dn aG aO aN aD bv aY 0 (yk j_3) (nI j_3) (yv j_3)), (zaI aY cY 20 fY)]) [0, 2] rfl
        have hDc := hD.sub (ws' := [(zo14irriiiiiirriirrrrlriiii m0 th aS aI im ac sp en wg op aB aT se dn aG aO aN aD bv aY 0 (yk j_3) (nI j_3) (yv j_3)), (zaI aY cY 20 fY)]) [0, 2] (by decide) rfl
        have hKc := hK.sub (tys' := [(cY, .int)]) [1] rfl
        have hFc := va_free (wc := [(zo14irriiiiiirriirrrrlriiii m0 th aS aI im ac sp en wg op aB aT se dn aG aO aN aD bv aY 0 (yk j_3) (nI j_3) (yv j_3)), (zaI aY cY 20 fY)]) hD hS hA [0, 2] rfl
        refine va_calli (va_runV (As := [.int z]) (rest := []) ⟨hx, hb, hml, hown, hts⟩ (c_seesActs l dC dI m0 aS aI aB aT aG aO aN aD aY th im ac sp en wg op se dn 0 (yk j_3) (nI j_3) (yv j_3) bv cY fY ([] : List Nat) z H.size (by have hbS := btS_le (yk j_3); have hbG := btG_le (yk j_3); have hbL := btL_le (yk j_3); (try simp only [List.length_append, List.length_cons, List.length_nil]); omega) (okY_nil)) (cwV 1 hts gX12_act_X12_seesActs rfl rfl rfl hd_yX12_seesActs ⟨Nat.le_of_ble_eq_true rfl, Nat.le_of_ble_eq_true rfl⟩) ⟨fun a U g mk q => by obtain ⟨q0, q1, qP, qK, qD⟩ := q; exact ⟨q0, mvz g mk a q1, mvP g mk a qP, mvK g mk a qK, qD⟩, va_recv hK hP (ci := 14) (q := (RX12, TX12, 23)) (q0 := 0) rfl rfl, fun U hU hW => ⟨rfl, by rw [hU], by rw [hU]; exact hPc, va_K.moved hW.alike hKc, hDc.weaken (fun _ _ _ _ => trivial)⟩⟩ rfl rfl hl.1 rfl (lv_room (Nat.le_of_ble_eq_true rfl)) dX12_act_61 ⟨Nat.le_of_ble_eq_true rfl, Nat.le_of_ble_eq_true rfl⟩) hS (fun q _ h => hFc q h) hFc (fun r_31 u tC H1 locs htC hvm hw_32 hB hz1 hk1 hS => ?_)
        obtain ⟨fY9_33, rn9_34⟩ := u
        try dsimp only at hw_32 hB
        obtain ⟨hP1, hK1, hD1⟩ := hB
        rw [htC] at hP1
        have hK1 := va_K.moved hvm.symm hK1
        obtain ⟨hP, hD⟩ := va_join (wr := [(zaI aS cS 901 fS)]) (w1 := [(zo14irriiiiiirriirrrrlriiii m0 th aS aI im ac sp en wg op aB aT se dn aG aO aN aD bv aY rn9_34 (yk j_3) (nI j_3) (yv j_3)), (zaI aY cY 20 fY9_33)]) hP hD [0, 2] [1] rfl rfl (by decide) (by decide) hk1 hFc hP1 hD1
        have hK := (hK.sub (tys' := [(cS, .int)]) [0] rfl).app hK1
        generalize H1 = H at hP hS ⊢
        have hP : va_P (dC, dI) vwCl [(zaI aS cS 901 fS), (zo14irriiiiiirriirrrrlriiii m0 th aS aI im ac sp en wg op aB aT se dn aG aO aN aD bv aY rn9_34 (yk j_3) (nI j_3) (yv j_3)), (zaI aY cY 20 fY9_33)] H := hP
        have hD : va_D A [(zaI aS cS 901 fS), (zo14irriiiiiirriirrrrlriiii m0 th aS aI im ac sp en wg op aB aT se dn aG aO aN aD bv aY rn9_34 (yk j_3) (nI j_3) (yv j_3)), (zaI aY cY 20 fY9_33)] := hD
        have hK : va_K (dC, dI) vwCl [(cS, .int), (cY, .int)] s := hK
        obtain ⟨er_35, h_36⟩ := hw_32
        obtain ⟨e_37, hY_38⟩ := h_36
        obtain rfl := e_37
        subst er_35
        refine lv_goto (tgt := 85) hx hb dX12_act_64 (by decide) ?_
        rw [hQ]
        have hP9 := hP.sub (ws' := [(zo14irriiiiiirriirrrrlriiii m0 th aS aI im ac sp en wg op aB aT se dn aG aO aN aD bv aY (nI ((([] : List Nat) ++ btS (yk j_3)).length)) (yk j_3) (nI j_3) (yv j_3)), (zaI aS cS 901 fS), (zaI aY cY 20 fY9_33)]) [1, 0, 2] rfl
        have hD9 := hD.sub (ws' := [(zo14irriiiiiirriirrrrlriiii m0 th aS aI im ac sp en wg op aB aT se dn aG aO aN aD bv aY (nI ((([] : List Nat) ++ btS (yk j_3)).length)) (yk j_3) (nI j_3) (yv j_3)), (zaI aS cS 901 fS), (zaI aY cY 20 fY9_33)]) [1, 0, 2] (by decide) rfl
        have hK9 := hK.sub (tys' := [(cS, .int), (cY, .int)]) [0, 1] rfl
        exact W.iret (v := acS (yk j_3) (nI j_3) (yv j_3) z) hx hb hr (fun tQ htQ hWQ => ⟨⟨(acS (yk j_3) (nI j_3) (yv j_3) z), (fY9_33, (nI ((([] : List Nat) ++ btS (yk j_3)).length)), (yk j_3), (nI j_3), (yv j_3)), rfl, ⟨(ac_0 (n := n) (yk := yk) (yv := yv) (j := j_3) (y := y) (z := z) hn (by omega) (by assumption)).1, by rw [(ac_0 (n := n) (yk := yk) (yv := yv) (j := j_3) (y := y) (z := z) hn (by omega) (by assumption)).2]; exact ⟨rfl, hY_38⟩⟩, by rw [htQ]; exact hP9, va_K.moved hWQ.alike hK9, hD9⟩, hS.F htQ⟩) hS.2.2 dX12_act_85
    · skip
      refine lv_if_ne (tgt := 24) hx hb dX12_act_19 (by decide) (fun c_39 => absurd c_39 (by decide)) (fun _ => ?_)
      refine lv_iconst (v := 0) hx hb dX12_act_22 (by decide) ?_
      rw [hQ]
      have hP9 := hP.sub (ws' := [(zo14irriiiiiirriirrrrlriiii m0 th aS aI im ac sp en wg op aB aT se dn aG aO aN aD bv aY 0 kd nu tv), (zaI aS cS 901 fS), (zaI aY cY 20 fY)]) [0, 1, 2] rfl
      have hD9 := hD.sub (ws' := [(zo14irriiiiiirriirrrrlriiii m0 th aS aI im ac sp en wg op aB aT se dn aG aO aN aD bv aY 0 kd nu tv), (zaI aS cS 901 fS), (zaI aY cY 20 fY)]) [0, 1, 2] (by decide) rfl
      have hK9 := hK.sub (tys' := [(cS, .int), (cY, .int)]) [0, 1] rfl
      exact W.iret (v := 0) hx hb hr (fun tQ htQ hWQ => ⟨⟨0, (fY, 0, kd, nu, tv), rfl, ⟨(ac_bad2 (n := n) (yk := yk) (yv := yv) (j := j_3) (y := y) (z := z) (by assumption) (by assumption)).1, by rw [(ac_bad2 (n := n) (yk := yk) (yv := yv) (j := j_3) (y := y) (z := z) (by assumption) (by assumption)).2]; exact ⟨rfl, okY_nil⟩⟩, by rw [htQ]; exact hP9, va_K.moved hWQ.alike hK9, hD9⟩, hS.F htQ⟩) hS.2.2 dX12_act_23
  · skip
    refine lv_if_eq (tgt := 22) hx hb dX12_act_10 (by decide) (fun _ => ?_) (fun c_40 => absurd c_40 (by decide))
    refine lv_iconst (v := 0) hx hb dX12_act_22 (by decide) ?_
    rw [hQ]
    have hP9 := hP.sub (ws' := [(zo14irriiiiiirriirrrrlriiii m0 th aS aI im ac sp en wg op aB aT se dn aG aO aN aD bv aY 0 kd nu tv), (zaI aS cS 901 fS), (zaI aY cY 20 fY)]) [0, 1, 2] rfl
    have hD9 := hD.sub (ws' := [(zo14irriiiiiirriirrrrlriiii m0 th aS aI im ac sp en wg op aB aT se dn aG aO aN aD bv aY 0 kd nu tv), (zaI aS cS 901 fS), (zaI aY cY 20 fY)]) [0, 1, 2] (by decide) rfl
    have hK9 := hK.sub (tys' := [(cS, .int), (cY, .int)]) [0, 1] rfl
    exact W.iret (v := 0) hx hb hr (fun tQ htQ hWQ => ⟨⟨0, (fY, 0, kd, nu, tv), rfl, ⟨(ac_no (n := n) (yk := yk) (yv := yv) (x := x) (y := y) (z := z) (by assumption)).1, by rw [(ac_no (n := n) (yk := yk) (yv := yv) (x := x) (y := y) (z := z) (by assumption)).2]; exact ⟨rfl, okY_nil⟩⟩, by rw [htQ]; exact hP9, va_K.moved hWQ.alike hK9, hD9⟩, hS.F htQ⟩) hS.2.2 dX12_act_23
end mg10a
section mg10a
theorem ggX12_walk_X12_in : GoodIn wsX12_walk wsX12_in := gga_of 1217 rfl rfl rfl
theorem gX12_walk_X12_in : GoodIn wsX12_walk (va_wsS RX12 45 yX12_in wsX12_in) := goodIn_app (ggh_of [1215, 1216, 72] rfl rfl rfl) ggX12_walk_X12_in
theorem ggX12_feed_X12_in : GoodIn wsX12_feed wsX12_in := gga_of 1217 rfl rfl rfl
theorem gX12_feed_X12_in : GoodIn wsX12_feed (va_wsS RX12 45 yX12_in wsX12_in) := goodIn_app (ggh_of [1215, 1216, 72] rfl rfl rfl) ggX12_feed_X12_in
theorem ggX12_book_X12_isHeap : GoodIn wsX12_book wsX12_isHeap := gga_of 1320 rfl rfl rfl
theorem gX12_book_X12_isHeap : GoodIn wsX12_book (wsV RX12 164 RX12 yX12_isHeap wsX12_isHeap) := goodIn_app (ggh_of [1317, 1319, 37, 72] rfl rfl rfl) ggX12_book_X12_isHeap
theorem ggX12_set_X12_in : GoodIn wsX12_set wsX12_in := gga_of 1217 rfl rfl rfl
theorem gX12_set_X12_in : GoodIn wsX12_set (va_wsS RX12 45 yX12_in wsX12_in) := goodIn_app (ggh_of [1215, 1216, 72] rfl rfl rfl) ggX12_set_X12_in
theorem ggX12_edges_X12_edgesMany : GoodIn wsX12_edges wsX12_edgesMany := gga_of 1285 rfl rfl rfl
theorem gX12_edges_X12_edgesMany : GoodIn wsX12_edges (wsV RX12 137 RX12 yX12_edgesMany wsX12_edgesMany) := goodIn_app (ggh_of [1282, 1284, 33, 72] rfl rfl rfl) ggX12_edges_X12_edgesMany
theorem ggX12_told_X12_sight : GoodIn wsX12_told wsX12_sight := gga_of 1297 rfl rfl rfl
theorem gX12_told_X12_sight : GoodIn wsX12_told (wsV RX12 140 RX12 yX12_sight wsX12_sight) := goodIn_app (ggh_of [1294, 1296, 34, 72] rfl rfl rfl) ggX12_told_X12_sight
theorem ggX12_told_X12_edgesMany : GoodIn wsX12_told wsX12_edgesMany := gga_of 1285 rfl rfl rfl
theorem gX12_told_X12_edgesMany : GoodIn wsX12_told (wsV RX12 137 RX12 yX12_edgesMany wsX12_edgesMany) := goodIn_app (ggh_of [1282, 1284, 33, 72] rfl rfl rfl) ggX12_told_X12_edgesMany
theorem ggX12_heap_X12_in : GoodIn wsX12_heap wsX12_in := gga_of 1217 rfl rfl rfl
theorem gX12_heap_X12_in : GoodIn wsX12_heap (va_wsS RX12 45 yX12_in wsX12_in) := goodIn_app (ggh_of [1215, 1216, 72] rfl rfl rfl) ggX12_heap_X12_in
theorem ggX12_heap_X12_isCell : GoodIn wsX12_heap wsX12_isCell := gga_of 1304 rfl rfl rfl
theorem gX12_heap_X12_isCell : GoodIn wsX12_heap (va_wsS RX12 149 yX12_isCell wsX12_isCell) := goodIn_app (ggh_of [1302, 1303, 72] rfl rfl rfl) ggX12_heap_X12_isCell
theorem ggX12_heap_X12_heapOn : GoodIn wsX12_heap wsX12_heapOn := gga_of 1308 rfl rfl rfl
theorem gX12_heap_X12_heapOn : GoodIn wsX12_heap (wsV RX12 153 RX12 yX12_heapOn wsX12_heapOn) := goodIn_app (ggh_of [1305, 1307, 35, 72] rfl rfl rfl) ggX12_heap_X12_heapOn
theorem ggX12_heap_X12_puts : GoodIn wsX12_heap wsX12_puts := gga_of 1312 rfl rfl rfl
theorem gX12_heap_X12_puts : GoodIn wsX12_heap (wsV RX12 156 RX12 yX12_puts wsX12_puts) := goodIn_app (ggh_of [1309, 1311, 36, 72] rfl rfl rfl) ggX12_heap_X12_puts
noncomputable def dk10bref8_cX12_walk_0 : List (Nat × List Nat) := [(0, [27]), (1, [2]), (2, [160, 0, 12]), (14, [27]), (15, [3]), (16, [16, 7]), (18, [184, 0, 45]), (21, [154, 0, 5]), (24, [2]), (26, [42]), (27, [180, 0, 9]), (30, [5]), (31, [46]), (32, [16, 6]), (34, [160, 0, 6]), (37, [16, 252]), (39, [172]), (40, [42]), (41, [180, 0, 9]), (44, [16, 73]), (46, [42]), (47, [180, 0, 9]), (50, [5]), (51, [46]), (52, [96]), (53, [27]), (54, [79]), (55, [42]), (56, [180, 0, 9]), (59, [5]), (60, [92]), (61, [46]), (62, [4]), (63, [96]), (64, [79]), (65, [42]), (66, [180, 0, 9]), (69, [5]), (70, [46]), (71, [172])]
set_option maxRecDepth 100000 in
theorem dk10bref8_cX12_walk_0_a : btA cX12_walk dk10bref8_cX12_walk_0 = true := by decide +kernel
theorem dX12_walk_0 : decode cX12_walk 0 = .ok (.iload_n 1, 1) := bd27 (btAt dk10bref8_cX12_walk_0_a 0 rfl)
theorem dX12_walk_1 : decode cX12_walk 1 = .ok (.iconst (-1), 1) := bd2 (btAt dk10bref8_cX12_walk_0_a 1 rfl)
theorem dX12_walk_2 : decode cX12_walk 2 = .ok (.if_icmp .ne 12, 3) := bd160 (a := 0) (b := 12) (btAt dk10bref8_cX12_walk_0_a 2 rfl)
theorem dX12_walk_14 : decode cX12_walk 14 = .ok (.iload_n 1, 1) := bd27 (btAt dk10bref8_cX12_walk_0_a 3 rfl)
theorem dX12_walk_15 : decode cX12_walk 15 = .ok (.iconst 0, 1) := bd3 (btAt dk10bref8_cX12_walk_0_a 4 rfl)
theorem dX12_walk_16 : decode cX12_walk 16 = .ok (.bipush 7, 2) := bd16 (a := 7) (btAt dk10bref8_cX12_walk_0_a 5 rfl)
theorem dX12_walk_18 : decode cX12_walk 18 = .ok (.invokestatic 45, 3) := bd184 (a := 0) (b := 45) (btAt dk10bref8_cX12_walk_0_a 6 rfl)
theorem dX12_walk_21 : decode cX12_walk 21 = .ok (.ifCond .ne 5, 3) := bd154 (a := 0) (b := 5) (btAt dk10bref8_cX12_walk_0_a 7 rfl)
theorem dX12_walk_24 : decode cX12_walk 24 = .ok (.iconst (-1), 1) := bd2 (btAt dk10bref8_cX12_walk_0_a 8 rfl)
theorem dX12_walk_26 : decode cX12_walk 26 = .ok (.aload_n 0, 1) := bd42 (btAt dk10bref8_cX12_walk_0_a 9 rfl)
theorem dX12_walk_27 : decode cX12_walk 27 = .ok (.getfield 9, 3) := bd180 (a := 0) (b := 9) (btAt dk10bref8_cX12_walk_0_a 10 rfl)
theorem dX12_walk_30 : decode cX12_walk 30 = .ok (.iconst 2, 1) := bd5 (btAt dk10bref8_cX12_walk_0_a 11 rfl)
theorem dX12_walk_31 : decode cX12_walk 31 = .ok (.iaload, 1) := bd46 (btAt dk10bref8_cX12_walk_0_a 12 rfl)
theorem dX12_walk_32 : decode cX12_walk 32 = .ok (.bipush 6, 2) := bd16 (a := 6) (btAt dk10bref8_cX12_walk_0_a 13 rfl)
theorem dX12_walk_34 : decode cX12_walk 34 = .ok (.if_icmp .ne 6, 3) := bd160 (a := 0) (b := 6) (btAt dk10bref8_cX12_walk_0_a 14 rfl)
theorem dX12_walk_37 : decode cX12_walk 37 = .ok (.bipush (-4), 2) := bd16 (a := 252) (btAt dk10bref8_cX12_walk_0_a 15 rfl)
theorem dX12_walk_39 : decode cX12_walk 39 = .ok (.ireturn, 1) := bd172 (btAt dk10bref8_cX12_walk_0_a 16 rfl)
theorem dX12_walk_40 : decode cX12_walk 40 = .ok (.aload_n 0, 1) := bd42 (btAt dk10bref8_cX12_walk_0_a 17 rfl)
theorem dX12_walk_41 : decode cX12_walk 41 = .ok (.getfield 9, 3) := bd180 (a := 0) (b := 9) (btAt dk10bref8_cX12_walk_0_a 18 rfl)
theorem dX12_walk_44 : decode cX12_walk 44 = .ok (.bipush 73, 2) := bd16 (a := 73) (btAt dk10bref8_cX12_walk_0_a 19 rfl)
theorem dX12_walk_46 : decode cX12_walk 46 = .ok (.aload_n 0, 1) := bd42 (btAt dk10bref8_cX12_walk_0_a 20 rfl)
theorem dX12_walk_47 : decode cX12_walk 47 = .ok (.getfield 9, 3) := bd180 (a := 0) (b := 9) (btAt dk10bref8_cX12_walk_0_a 21 rfl)
theorem dX12_walk_50 : decode cX12_walk 50 = .ok (.iconst 2, 1) := bd5 (btAt dk10bref8_cX12_walk_0_a 22 rfl)
theorem dX12_walk_51 : decode cX12_walk 51 = .ok (.iaload, 1) := bd46 (btAt dk10bref8_cX12_walk_0_a 23 rfl)
theorem dX12_walk_52 : decode cX12_walk 52 = .ok (.iadd, 1) := bd96 (btAt dk10bref8_cX12_walk_0_a 24 rfl)
theorem dX12_walk_53 : decode cX12_walk 53 = .ok (.iload_n 1, 1) := bd27 (btAt dk10bref8_cX12_walk_0_a 25 rfl)
theorem dX12_walk_54 : decode cX12_walk 54 = .ok (.iastore, 1) := bd79 (btAt dk10bref8_cX12_walk_0_a 26 rfl)
theorem dX12_walk_55 : decode cX12_walk 55 = .ok (.aload_n 0, 1) := bd42 (btAt dk10bref8_cX12_walk_0_a 27 rfl)
theorem dX12_walk_56 : decode cX12_walk 56 = .ok (.getfield 9, 3) := bd180 (a := 0) (b := 9) (btAt dk10bref8_cX12_walk_0_a 28 rfl)
theorem dX12_walk_59 : decode cX12_walk 59 = .ok (.iconst 2, 1) := bd5 (btAt dk10bref8_cX12_walk_0_a 29 rfl)
theorem dX12_walk_60 : decode cX12_walk 60 = .ok (.dup2, 1) := bd92 (btAt dk10bref8_cX12_walk_0_a 30 rfl)
theorem dX12_walk_61 : decode cX12_walk 61 = .ok (.iaload, 1) := bd46 (btAt dk10bref8_cX12_walk_0_a 31 rfl)
theorem dX12_walk_62 : decode cX12_walk 62 = .ok (.iconst 1, 1) := bd4 (btAt dk10bref8_cX12_walk_0_a 32 rfl)
theorem dX12_walk_63 : decode cX12_walk 63 = .ok (.iadd, 1) := bd96 (btAt dk10bref8_cX12_walk_0_a 33 rfl)
theorem dX12_walk_64 : decode cX12_walk 64 = .ok (.iastore, 1) := bd79 (btAt dk10bref8_cX12_walk_0_a 34 rfl)
theorem dX12_walk_65 : decode cX12_walk 65 = .ok (.aload_n 0, 1) := bd42 (btAt dk10bref8_cX12_walk_0_a 35 rfl)
theorem dX12_walk_66 : decode cX12_walk 66 = .ok (.getfield 9, 3) := bd180 (a := 0) (b := 9) (btAt dk10bref8_cX12_walk_0_a 36 rfl)
theorem dX12_walk_69 : decode cX12_walk 69 = .ok (.iconst 2, 1) := bd5 (btAt dk10bref8_cX12_walk_0_a 37 rfl)
theorem dX12_walk_70 : decode cX12_walk 70 = .ok (.iaload, 1) := bd46 (btAt dk10bref8_cX12_walk_0_a 38 rfl)
theorem dX12_walk_71 : decode cX12_walk 71 = .ok (.ireturn, 1) := bd172 (btAt dk10bref8_cX12_walk_0_a 39 rfl)
noncomputable def dk10bref8_cX12_walk_40 : List (Nat × List Nat) := [(5, [42]), (6, [180, 0, 9]), (9, [5]), (10, [3]), (11, [79]), (12, [3]), (13, [172]), (25, [172])]
set_option maxRecDepth 100000 in
theorem dk10bref8_cX12_walk_40_a : btA cX12_walk dk10bref8_cX12_walk_40 = true := by decide +kernel
theorem dX12_walk_5 : decode cX12_walk 5 = .ok (.aload_n 0, 1) := bd42 (btAt dk10bref8_cX12_walk_40_a 0 rfl)
theorem dX12_walk_6 : decode cX12_walk 6 = .ok (.getfield 9, 3) := bd180 (a := 0) (b := 9) (btAt dk10bref8_cX12_walk_40_a 1 rfl)
theorem dX12_walk_9 : decode cX12_walk 9 = .ok (.iconst 2, 1) := bd5 (btAt dk10bref8_cX12_walk_40_a 2 rfl)
theorem dX12_walk_10 : decode cX12_walk 10 = .ok (.iconst 0, 1) := bd3 (btAt dk10bref8_cX12_walk_40_a 3 rfl)
theorem dX12_walk_11 : decode cX12_walk 11 = .ok (.iastore, 1) := bd79 (btAt dk10bref8_cX12_walk_40_a 4 rfl)
theorem dX12_walk_12 : decode cX12_walk 12 = .ok (.iconst 0, 1) := bd3 (btAt dk10bref8_cX12_walk_40_a 5 rfl)
theorem dX12_walk_13 : decode cX12_walk 13 = .ok (.ireturn, 1) := bd172 (btAt dk10bref8_cX12_walk_40_a 6 rfl)
theorem dX12_walk_25 : decode cX12_walk 25 = .ok (.ireturn, 1) := bd172 (btAt dk10bref8_cX12_walk_40_a 7 rfl)
noncomputable def dk10bref8_cX12_feed_0 : List (Nat × List Nat) := [(0, [27]), (1, [3]), (2, [16, 127]), (4, [184, 0, 45]), (7, [154, 0, 6]), (10, [16, 254]), (12, [172]), (13, [42]), (14, [180, 0, 9]), (17, [7]), (18, [46]), (19, [16, 100]), (21, [160, 0, 6]), (24, [16, 252]), (26, [172]), (27, [42]), (28, [180, 0, 9]), (31, [16, 91]), (33, [42]), (34, [180, 0, 9]), (37, [7]), (38, [46]), (39, [96]), (40, [27]), (41, [79]), (42, [42]), (43, [180, 0, 9]), (46, [7]), (47, [92]), (48, [46]), (49, [4]), (50, [96]), (51, [79]), (52, [42]), (53, [180, 0, 9]), (56, [7]), (57, [46]), (58, [172])]
set_option maxRecDepth 100000 in
theorem dk10bref8_cX12_feed_0_a : btA cX12_feed dk10bref8_cX12_feed_0 = true := by decide +kernel
theorem dX12_feed_0 : decode cX12_feed 0 = .ok (.iload_n 1, 1) := bd27 (btAt dk10bref8_cX12_feed_0_a 0 rfl)
theorem dX12_feed_1 : decode cX12_feed 1 = .ok (.iconst 0, 1) := bd3 (btAt dk10bref8_cX12_feed_0_a 1 rfl)
theorem dX12_feed_2 : decode cX12_feed 2 = .ok (.bipush 127, 2) := bd16 (a := 127) (btAt dk10bref8_cX12_feed_0_a 2 rfl)
theorem dX12_feed_4 : decode cX12_feed 4 = .ok (.invokestatic 45, 3) := bd184 (a := 0) (b := 45) (btAt dk10bref8_cX12_feed_0_a 3 rfl)
theorem dX12_feed_7 : decode cX12_feed 7 = .ok (.ifCond .ne 6, 3) := bd154 (a := 0) (b := 6) (btAt dk10bref8_cX12_feed_0_a 4 rfl)
theorem dX12_feed_10 : decode cX12_feed 10 = .ok (.bipush (-2), 2) := bd16 (a := 254) (btAt dk10bref8_cX12_feed_0_a 5 rfl)
theorem dX12_feed_12 : decode cX12_feed 12 = .ok (.ireturn, 1) := bd172 (btAt dk10bref8_cX12_feed_0_a 6 rfl)
theorem dX12_feed_13 : decode cX12_feed 13 = .ok (.aload_n 0, 1) := bd42 (btAt dk10bref8_cX12_feed_0_a 7 rfl)
theorem dX12_feed_14 : decode cX12_feed 14 = .ok (.getfield 9, 3) := bd180 (a := 0) (b := 9) (btAt dk10bref8_cX12_feed_0_a 8 rfl)
theorem dX12_feed_17 : decode cX12_feed 17 = .ok (.iconst 4, 1) := bd7 (btAt dk10bref8_cX12_feed_0_a 9 rfl)
theorem dX12_feed_18 : decode cX12_feed 18 = .ok (.iaload, 1) := bd46 (btAt dk10bref8_cX12_feed_0_a 10 rfl)
theorem dX12_feed_19 : decode cX12_feed 19 = .ok (.bipush 100, 2) := bd16 (a := 100) (btAt dk10bref8_cX12_feed_0_a 11 rfl)
theorem dX12_feed_21 : decode cX12_feed 21 = .ok (.if_icmp .ne 6, 3) := bd160 (a := 0) (b := 6) (btAt dk10bref8_cX12_feed_0_a 12 rfl)
theorem dX12_feed_24 : decode cX12_feed 24 = .ok (.bipush (-4), 2) := bd16 (a := 252) (btAt dk10bref8_cX12_feed_0_a 13 rfl)
theorem dX12_feed_26 : decode cX12_feed 26 = .ok (.ireturn, 1) := bd172 (btAt dk10bref8_cX12_feed_0_a 14 rfl)
theorem dX12_feed_27 : decode cX12_feed 27 = .ok (.aload_n 0, 1) := bd42 (btAt dk10bref8_cX12_feed_0_a 15 rfl)
theorem dX12_feed_28 : decode cX12_feed 28 = .ok (.getfield 9, 3) := bd180 (a := 0) (b := 9) (btAt dk10bref8_cX12_feed_0_a 16 rfl)
theorem dX12_feed_31 : decode cX12_feed 31 = .ok (.bipush 91, 2) := bd16 (a := 91) (btAt dk10bref8_cX12_feed_0_a 17 rfl)
theorem dX12_feed_33 : decode cX12_feed 33 = .ok (.aload_n 0, 1) := bd42 (btAt dk10bref8_cX12_feed_0_a 18 rfl)
theorem dX12_feed_34 : decode cX12_feed 34 = .ok (.getfield 9, 3) := bd180 (a := 0) (b := 9) (btAt dk10bref8_cX12_feed_0_a 19 rfl)
theorem dX12_feed_37 : decode cX12_feed 37 = .ok (.iconst 4, 1) := bd7 (btAt dk10bref8_cX12_feed_0_a 20 rfl)
theorem dX12_feed_38 : decode cX12_feed 38 = .ok (.iaload, 1) := bd46 (btAt dk10bref8_cX12_feed_0_a 21 rfl)
theorem dX12_feed_39 : decode cX12_feed 39 = .ok (.iadd, 1) := bd96 (btAt dk10bref8_cX12_feed_0_a 22 rfl)
theorem dX12_feed_40 : decode cX12_feed 40 = .ok (.iload_n 1, 1) := bd27 (btAt dk10bref8_cX12_feed_0_a 23 rfl)
theorem dX12_feed_41 : decode cX12_feed 41 = .ok (.iastore, 1) := bd79 (btAt dk10bref8_cX12_feed_0_a 24 rfl)
theorem dX12_feed_42 : decode cX12_feed 42 = .ok (.aload_n 0, 1) := bd42 (btAt dk10bref8_cX12_feed_0_a 25 rfl)
theorem dX12_feed_43 : decode cX12_feed 43 = .ok (.getfield 9, 3) := bd180 (a := 0) (b := 9) (btAt dk10bref8_cX12_feed_0_a 26 rfl)
theorem dX12_feed_46 : decode cX12_feed 46 = .ok (.iconst 4, 1) := bd7 (btAt dk10bref8_cX12_feed_0_a 27 rfl)
theorem dX12_feed_47 : decode cX12_feed 47 = .ok (.dup2, 1) := bd92 (btAt dk10bref8_cX12_feed_0_a 28 rfl)
theorem dX12_feed_48 : decode cX12_feed 48 = .ok (.iaload, 1) := bd46 (btAt dk10bref8_cX12_feed_0_a 29 rfl)
theorem dX12_feed_49 : decode cX12_feed 49 = .ok (.iconst 1, 1) := bd4 (btAt dk10bref8_cX12_feed_0_a 30 rfl)
theorem dX12_feed_50 : decode cX12_feed 50 = .ok (.iadd, 1) := bd96 (btAt dk10bref8_cX12_feed_0_a 31 rfl)
theorem dX12_feed_51 : decode cX12_feed 51 = .ok (.iastore, 1) := bd79 (btAt dk10bref8_cX12_feed_0_a 32 rfl)
theorem dX12_feed_52 : decode cX12_feed 52 = .ok (.aload_n 0, 1) := bd42 (btAt dk10bref8_cX12_feed_0_a 33 rfl)
theorem dX12_feed_53 : decode cX12_feed 53 = .ok (.getfield 9, 3) := bd180 (a := 0) (b := 9) (btAt dk10bref8_cX12_feed_0_a 34 rfl)
theorem dX12_feed_56 : decode cX12_feed 56 = .ok (.iconst 4, 1) := bd7 (btAt dk10bref8_cX12_feed_0_a 35 rfl)
theorem dX12_feed_57 : decode cX12_feed 57 = .ok (.iaload, 1) := bd46 (btAt dk10bref8_cX12_feed_0_a 36 rfl)
theorem dX12_feed_58 : decode cX12_feed 58 = .ok (.ireturn, 1) := bd172 (btAt dk10bref8_cX12_feed_0_a 37 rfl)
noncomputable def dk10bref8_cX12_book_0 : List (Nat × List Nat) := [(0, [27]), (1, [2]), (2, [160, 0, 12]), (14, [42]), (15, [27]), (16, [182, 0, 164]), (19, [154, 0, 5]), (22, [2]), (23, [172]), (24, [42]), (25, [180, 0, 9]), (28, [6]), (29, [46]), (30, [16, 12]), (32, [160, 0, 6]), (35, [16, 252]), (37, [172]), (38, [42]), (39, [180, 0, 9]), (42, [16, 79]), (44, [42]), (45, [180, 0, 9]), (48, [6]), (49, [46]), (50, [96]), (51, [27]), (52, [79]), (53, [42]), (54, [180, 0, 9]), (57, [6]), (58, [92]), (59, [46]), (60, [4]), (61, [96]), (62, [79]), (63, [42]), (64, [180, 0, 9]), (67, [6]), (68, [46]), (69, [172])]
set_option maxRecDepth 100000 in
theorem dk10bref8_cX12_book_0_a : btA cX12_book dk10bref8_cX12_book_0 = true := by decide +kernel
theorem dX12_book_0 : decode cX12_book 0 = .ok (.iload_n 1, 1) := bd27 (btAt dk10bref8_cX12_book_0_a 0 rfl)
theorem dX12_book_1 : decode cX12_book 1 = .ok (.iconst (-1), 1) := bd2 (btAt dk10bref8_cX12_book_0_a 1 rfl)
theorem dX12_book_2 : decode cX12_book 2 = .ok (.if_icmp .ne 12, 3) := bd160 (a := 0) (b := 12) (btAt dk10bref8_cX12_book_0_a 2 rfl)
theorem dX12_book_14 : decode cX12_book 14 = .ok (.aload_n 0, 1) := bd42 (btAt dk10bref8_cX12_book_0_a 3 rfl)
theorem dX12_book_15 : decode cX12_book 15 = .ok (.iload_n 1, 1) := bd27 (btAt dk10bref8_cX12_book_0_a 4 rfl)
theorem dX12_book_16 : decode cX12_book 16 = .ok (.invokevirtual 164, 3) := bd182 (a := 0) (b := 164) (btAt dk10bref8_cX12_book_0_a 5 rfl)
theorem dX12_book_19 : decode cX12_book 19 = .ok (.ifCond .ne 5, 3) := bd154 (a := 0) (b := 5) (btAt dk10bref8_cX12_book_0_a 6 rfl)
theorem dX12_book_22 : decode cX12_book 22 = .ok (.iconst (-1), 1) := bd2 (btAt dk10bref8_cX12_book_0_a 7 rfl)
theorem dX12_book_23 : decode cX12_book 23 = .ok (.ireturn, 1) := bd172 (btAt dk10bref8_cX12_book_0_a 8 rfl)
theorem dX12_book_24 : decode cX12_book 24 = .ok (.aload_n 0, 1) := bd42 (btAt dk10bref8_cX12_book_0_a 9 rfl)
theorem dX12_book_25 : decode cX12_book 25 = .ok (.getfield 9, 3) := bd180 (a := 0) (b := 9) (btAt dk10bref8_cX12_book_0_a 10 rfl)
theorem dX12_book_28 : decode cX12_book 28 = .ok (.iconst 3, 1) := bd6 (btAt dk10bref8_cX12_book_0_a 11 rfl)
theorem dX12_book_29 : decode cX12_book 29 = .ok (.iaload, 1) := bd46 (btAt dk10bref8_cX12_book_0_a 12 rfl)
theorem dX12_book_30 : decode cX12_book 30 = .ok (.bipush 12, 2) := bd16 (a := 12) (btAt dk10bref8_cX12_book_0_a 13 rfl)
theorem dX12_book_32 : decode cX12_book 32 = .ok (.if_icmp .ne 6, 3) := bd160 (a := 0) (b := 6) (btAt dk10bref8_cX12_book_0_a 14 rfl)
theorem dX12_book_35 : decode cX12_book 35 = .ok (.bipush (-4), 2) := bd16 (a := 252) (btAt dk10bref8_cX12_book_0_a 15 rfl)
theorem dX12_book_37 : decode cX12_book 37 = .ok (.ireturn, 1) := bd172 (btAt dk10bref8_cX12_book_0_a 16 rfl)
theorem dX12_book_38 : decode cX12_book 38 = .ok (.aload_n 0, 1) := bd42 (btAt dk10bref8_cX12_book_0_a 17 rfl)
theorem dX12_book_39 : decode cX12_book 39 = .ok (.getfield 9, 3) := bd180 (a := 0) (b := 9) (btAt dk10bref8_cX12_book_0_a 18 rfl)
theorem dX12_book_42 : decode cX12_book 42 = .ok (.bipush 79, 2) := bd16 (a := 79) (btAt dk10bref8_cX12_book_0_a 19 rfl)
theorem dX12_book_44 : decode cX12_book 44 = .ok (.aload_n 0, 1) := bd42 (btAt dk10bref8_cX12_book_0_a 20 rfl)
theorem dX12_book_45 : decode cX12_book 45 = .ok (.getfield 9, 3) := bd180 (a := 0) (b := 9) (btAt dk10bref8_cX12_book_0_a 21 rfl)
theorem dX12_book_48 : decode cX12_book 48 = .ok (.iconst 3, 1) := bd6 (btAt dk10bref8_cX12_book_0_a 22 rfl)
theorem dX12_book_49 : decode cX12_book 49 = .ok (.iaload, 1) := bd46 (btAt dk10bref8_cX12_book_0_a 23 rfl)
theorem dX12_book_50 : decode cX12_book 50 = .ok (.iadd, 1) := bd96 (btAt dk10bref8_cX12_book_0_a 24 rfl)
theorem dX12_book_51 : decode cX12_book 51 = .ok (.iload_n 1, 1) := bd27 (btAt dk10bref8_cX12_book_0_a 25 rfl)
theorem dX12_book_52 : decode cX12_book 52 = .ok (.iastore, 1) := bd79 (btAt dk10bref8_cX12_book_0_a 26 rfl)
theorem dX12_book_53 : decode cX12_book 53 = .ok (.aload_n 0, 1) := bd42 (btAt dk10bref8_cX12_book_0_a 27 rfl)
theorem dX12_book_54 : decode cX12_book 54 = .ok (.getfield 9, 3) := bd180 (a := 0) (b := 9) (btAt dk10bref8_cX12_book_0_a 28 rfl)
theorem dX12_book_57 : decode cX12_book 57 = .ok (.iconst 3, 1) := bd6 (btAt dk10bref8_cX12_book_0_a 29 rfl)
theorem dX12_book_58 : decode cX12_book 58 = .ok (.dup2, 1) := bd92 (btAt dk10bref8_cX12_book_0_a 30 rfl)
theorem dX12_book_59 : decode cX12_book 59 = .ok (.iaload, 1) := bd46 (btAt dk10bref8_cX12_book_0_a 31 rfl)
theorem dX12_book_60 : decode cX12_book 60 = .ok (.iconst 1, 1) := bd4 (btAt dk10bref8_cX12_book_0_a 32 rfl)
theorem dX12_book_61 : decode cX12_book 61 = .ok (.iadd, 1) := bd96 (btAt dk10bref8_cX12_book_0_a 33 rfl)
theorem dX12_book_62 : decode cX12_book 62 = .ok (.iastore, 1) := bd79 (btAt dk10bref8_cX12_book_0_a 34 rfl)
theorem dX12_book_63 : decode cX12_book 63 = .ok (.aload_n 0, 1) := bd42 (btAt dk10bref8_cX12_book_0_a 35 rfl)
theorem dX12_book_64 : decode cX12_book 64 = .ok (.getfield 9, 3) := bd180 (a := 0) (b := 9) (btAt dk10bref8_cX12_book_0_a 36 rfl)
theorem dX12_book_67 : decode cX12_book 67 = .ok (.iconst 3, 1) := bd6 (btAt dk10bref8_cX12_book_0_a 37 rfl)
theorem dX12_book_68 : decode cX12_book 68 = .ok (.iaload, 1) := bd46 (btAt dk10bref8_cX12_book_0_a 38 rfl)
theorem dX12_book_69 : decode cX12_book 69 = .ok (.ireturn, 1) := bd172 (btAt dk10bref8_cX12_book_0_a 39 rfl)
noncomputable def dk10bref8_cX12_book_40 : List (Nat × List Nat) := [(5, [42]), (6, [180, 0, 9]), (9, [6]), (10, [3]), (11, [79]), (12, [3]), (13, [172])]
set_option maxRecDepth 100000 in
theorem dk10bref8_cX12_book_40_a : btA cX12_book dk10bref8_cX12_book_40 = true := by decide +kernel
theorem dX12_book_5 : decode cX12_book 5 = .ok (.aload_n 0, 1) := bd42 (btAt dk10bref8_cX12_book_40_a 0 rfl)
theorem dX12_book_6 : decode cX12_book 6 = .ok (.getfield 9, 3) := bd180 (a := 0) (b := 9) (btAt dk10bref8_cX12_book_40_a 1 rfl)
theorem dX12_book_9 : decode cX12_book 9 = .ok (.iconst 3, 1) := bd6 (btAt dk10bref8_cX12_book_40_a 2 rfl)
theorem dX12_book_10 : decode cX12_book 10 = .ok (.iconst 0, 1) := bd3 (btAt dk10bref8_cX12_book_40_a 3 rfl)
theorem dX12_book_11 : decode cX12_book 11 = .ok (.iastore, 1) := bd79 (btAt dk10bref8_cX12_book_40_a 4 rfl)
theorem dX12_book_12 : decode cX12_book 12 = .ok (.iconst 0, 1) := bd3 (btAt dk10bref8_cX12_book_40_a 5 rfl)
theorem dX12_book_13 : decode cX12_book 13 = .ok (.ireturn, 1) := bd172 (btAt dk10bref8_cX12_book_40_a 6 rfl)
noncomputable def dk10bref8_cX12_set_0 : List (Nat × List Nat) := [(0, [27]), (1, [3]), (2, [4]), (3, [184, 0, 45]), (6, [154, 0, 5]), (9, [2]), (10, [172]), (11, [28]), (12, [3]), (13, [16, 9]), (15, [184, 0, 45]), (18, [154, 0, 6]), (21, [16, 254]), (23, [172]), (24, [42]), (25, [180, 0, 9]), (28, [16, 6]), (30, [27]), (31, [96]), (32, [46]), (33, [62]), (34, [42]), (35, [180, 0, 9]), (38, [16, 6]), (40, [27]), (41, [96]), (42, [28]), (43, [79]), (44, [29]), (45, [172])]
set_option maxRecDepth 100000 in
theorem dk10bref8_cX12_set_0_a : btA cX12_set dk10bref8_cX12_set_0 = true := by decide +kernel
theorem dX12_set_0 : decode cX12_set 0 = .ok (.iload_n 1, 1) := bd27 (btAt dk10bref8_cX12_set_0_a 0 rfl)
theorem dX12_set_1 : decode cX12_set 1 = .ok (.iconst 0, 1) := bd3 (btAt dk10bref8_cX12_set_0_a 1 rfl)
theorem dX12_set_2 : decode cX12_set 2 = .ok (.iconst 1, 1) := bd4 (btAt dk10bref8_cX12_set_0_a 2 rfl)
theorem dX12_set_3 : decode cX12_set 3 = .ok (.invokestatic 45, 3) := bd184 (a := 0) (b := 45) (btAt dk10bref8_cX12_set_0_a 3 rfl)
theorem dX12_set_6 : decode cX12_set 6 = .ok (.ifCond .ne 5, 3) := bd154 (a := 0) (b := 5) (btAt dk10bref8_cX12_set_0_a 4 rfl)
theorem dX12_set_9 : decode cX12_set 9 = .ok (.iconst (-1), 1) := bd2 (btAt dk10bref8_cX12_set_0_a 5 rfl)
theorem dX12_set_10 : decode cX12_set 10 = .ok (.ireturn, 1) := bd172 (btAt dk10bref8_cX12_set_0_a 6 rfl)
theorem dX12_set_11 : decode cX12_set 11 = .ok (.iload_n 2, 1) := bd28 (btAt dk10bref8_cX12_set_0_a 7 rfl)
theorem dX12_set_12 : decode cX12_set 12 = .ok (.iconst 0, 1) := bd3 (btAt dk10bref8_cX12_set_0_a 8 rfl)
theorem dX12_set_13 : decode cX12_set 13 = .ok (.bipush 9, 2) := bd16 (a := 9) (btAt dk10bref8_cX12_set_0_a 9 rfl)
theorem dX12_set_15 : decode cX12_set 15 = .ok (.invokestatic 45, 3) := bd184 (a := 0) (b := 45) (btAt dk10bref8_cX12_set_0_a 10 rfl)
theorem dX12_set_18 : decode cX12_set 18 = .ok (.ifCond .ne 6, 3) := bd154 (a := 0) (b := 6) (btAt dk10bref8_cX12_set_0_a 11 rfl)
theorem dX12_set_21 : decode cX12_set 21 = .ok (.bipush (-2), 2) := bd16 (a := 254) (btAt dk10bref8_cX12_set_0_a 12 rfl)
theorem dX12_set_23 : decode cX12_set 23 = .ok (.ireturn, 1) := bd172 (btAt dk10bref8_cX12_set_0_a 13 rfl)
theorem dX12_set_24 : decode cX12_set 24 = .ok (.aload_n 0, 1) := bd42 (btAt dk10bref8_cX12_set_0_a 14 rfl)
theorem dX12_set_25 : decode cX12_set 25 = .ok (.getfield 9, 3) := bd180 (a := 0) (b := 9) (btAt dk10bref8_cX12_set_0_a 15 rfl)
theorem dX12_set_28 : decode cX12_set 28 = .ok (.bipush 6, 2) := bd16 (a := 6) (btAt dk10bref8_cX12_set_0_a 16 rfl)
theorem dX12_set_30 : decode cX12_set 30 = .ok (.iload_n 1, 1) := bd27 (btAt dk10bref8_cX12_set_0_a 17 rfl)
theorem dX12_set_31 : decode cX12_set 31 = .ok (.iadd, 1) := bd96 (btAt dk10bref8_cX12_set_0_a 18 rfl)
theorem dX12_set_32 : decode cX12_set 32 = .ok (.iaload, 1) := bd46 (btAt dk10bref8_cX12_set_0_a 19 rfl)
theorem dX12_set_33 : decode cX12_set 33 = .ok (.istore_n 3, 1) := bd62 (btAt dk10bref8_cX12_set_0_a 20 rfl)
theorem dX12_set_34 : decode cX12_set 34 = .ok (.aload_n 0, 1) := bd42 (btAt dk10bref8_cX12_set_0_a 21 rfl)
theorem dX12_set_35 : decode cX12_set 35 = .ok (.getfield 9, 3) := bd180 (a := 0) (b := 9) (btAt dk10bref8_cX12_set_0_a 22 rfl)
theorem dX12_set_38 : decode cX12_set 38 = .ok (.bipush 6, 2) := bd16 (a := 6) (btAt dk10bref8_cX12_set_0_a 23 rfl)
theorem dX12_set_40 : decode cX12_set 40 = .ok (.iload_n 1, 1) := bd27 (btAt dk10bref8_cX12_set_0_a 24 rfl)
theorem dX12_set_41 : decode cX12_set 41 = .ok (.iadd, 1) := bd96 (btAt dk10bref8_cX12_set_0_a 25 rfl)
theorem dX12_set_42 : decode cX12_set 42 = .ok (.iload_n 2, 1) := bd28 (btAt dk10bref8_cX12_set_0_a 26 rfl)
theorem dX12_set_43 : decode cX12_set 43 = .ok (.iastore, 1) := bd79 (btAt dk10bref8_cX12_set_0_a 27 rfl)
theorem dX12_set_44 : decode cX12_set 44 = .ok (.iload_n 3, 1) := bd29 (btAt dk10bref8_cX12_set_0_a 28 rfl)
theorem dX12_set_45 : decode cX12_set 45 = .ok (.ireturn, 1) := bd172 (btAt dk10bref8_cX12_set_0_a 29 rfl)
noncomputable def dk10bref8_cX12_edgesMany_0 : List (Nat × List Nat) := [(0, [3]), (1, [60]), (2, [3]), (3, [61]), (4, [28]), (5, [16, 36]), (7, [162, 0, 21]), (10, [27]), (11, [42]), (12, [180, 0, 9]), (15, [16, 37]), (17, [28]), (18, [96]), (19, [46]), (20, [96]), (21, [60]), (22, [132, 2, 1]), (25, [167, 255, 235]), (28, [27]), (29, [172])]
set_option maxRecDepth 100000 in
theorem dk10bref8_cX12_edgesMany_0_a : btA cX12_edgesMany dk10bref8_cX12_edgesMany_0 = true := by decide +kernel
theorem dX12_edgesMany_0 : decode cX12_edgesMany 0 = .ok (.iconst 0, 1) := bd3 (btAt dk10bref8_cX12_edgesMany_0_a 0 rfl)
theorem dX12_edgesMany_1 : decode cX12_edgesMany 1 = .ok (.istore_n 1, 1) := bd60 (btAt dk10bref8_cX12_edgesMany_0_a 1 rfl)
theorem dX12_edgesMany_2 : decode cX12_edgesMany 2 = .ok (.iconst 0, 1) := bd3 (btAt dk10bref8_cX12_edgesMany_0_a 2 rfl)
theorem dX12_edgesMany_3 : decode cX12_edgesMany 3 = .ok (.istore_n 2, 1) := bd61 (btAt dk10bref8_cX12_edgesMany_0_a 3 rfl)
theorem dX12_edgesMany_4 : decode cX12_edgesMany 4 = .ok (.iload_n 2, 1) := bd28 (btAt dk10bref8_cX12_edgesMany_0_a 4 rfl)
theorem dX12_edgesMany_5 : decode cX12_edgesMany 5 = .ok (.bipush 36, 2) := bd16 (a := 36) (btAt dk10bref8_cX12_edgesMany_0_a 5 rfl)
theorem dX12_edgesMany_7 : decode cX12_edgesMany 7 = .ok (.if_icmp .ge 21, 3) := bd162 (a := 0) (b := 21) (btAt dk10bref8_cX12_edgesMany_0_a 6 rfl)
theorem dX12_edgesMany_10 : decode cX12_edgesMany 10 = .ok (.iload_n 1, 1) := bd27 (btAt dk10bref8_cX12_edgesMany_0_a 7 rfl)
theorem dX12_edgesMany_11 : decode cX12_edgesMany 11 = .ok (.aload_n 0, 1) := bd42 (btAt dk10bref8_cX12_edgesMany_0_a 8 rfl)
theorem dX12_edgesMany_12 : decode cX12_edgesMany 12 = .ok (.getfield 9, 3) := bd180 (a := 0) (b := 9) (btAt dk10bref8_cX12_edgesMany_0_a 9 rfl)
theorem dX12_edgesMany_15 : decode cX12_edgesMany 15 = .ok (.bipush 37, 2) := bd16 (a := 37) (btAt dk10bref8_cX12_edgesMany_0_a 10 rfl)
theorem dX12_edgesMany_17 : decode cX12_edgesMany 17 = .ok (.iload_n 2, 1) := bd28 (btAt dk10bref8_cX12_edgesMany_0_a 11 rfl)
theorem dX12_edgesMany_18 : decode cX12_edgesMany 18 = .ok (.iadd, 1) := bd96 (btAt dk10bref8_cX12_edgesMany_0_a 12 rfl)
theorem dX12_edgesMany_19 : decode cX12_edgesMany 19 = .ok (.iaload, 1) := bd46 (btAt dk10bref8_cX12_edgesMany_0_a 13 rfl)
theorem dX12_edgesMany_20 : decode cX12_edgesMany 20 = .ok (.iadd, 1) := bd96 (btAt dk10bref8_cX12_edgesMany_0_a 14 rfl)
theorem dX12_edgesMany_21 : decode cX12_edgesMany 21 = .ok (.istore_n 1, 1) := bd60 (btAt dk10bref8_cX12_edgesMany_0_a 15 rfl)
theorem dX12_edgesMany_22 : decode cX12_edgesMany 22 = .ok (.iinc 2 1, 3) := bd132 (a := 2) (b := 1) (btAt dk10bref8_cX12_edgesMany_0_a 16 rfl)
theorem dX12_edgesMany_25 : decode cX12_edgesMany 25 = .ok (.goto (-21), 3) := bd167 (a := 255) (b := 235) (btAt dk10bref8_cX12_edgesMany_0_a 17 rfl)
theorem dX12_edgesMany_28 : decode cX12_edgesMany 28 = .ok (.iload_n 1, 1) := bd27 (btAt dk10bref8_cX12_edgesMany_0_a 18 rfl)
theorem dX12_edgesMany_29 : decode cX12_edgesMany 29 = .ok (.ireturn, 1) := bd172 (btAt dk10bref8_cX12_edgesMany_0_a 19 rfl)
noncomputable def dk10bref8_cX12_edges_0 : List (Nat × List Nat) := [(0, [31]), (1, [9]), (2, [148]), (3, [155, 0, 12]), (6, [31]), (7, [16, 36]), (9, [123]), (10, [9]), (11, [148]), (12, [153, 0, 6]), (15, [16, 254]), (17, [172]), (18, [42]), (19, [182, 0, 137]), (22, [62]), (23, [3]), (24, [54, 4]), (26, [21, 4]), (28, [16, 36]), (30, [162, 0, 26]), (33, [42]), (34, [180, 0, 9]), (37, [16, 37]), (39, [21, 4]), (41, [96]), (42, [31]), (43, [21, 4]), (45, [123]), (46, [10]), (47, [127]), (48, [136]), (49, [79]), (50, [132, 4, 1]), (53, [167, 255, 229]), (56, [29]), (57, [172])]
set_option maxRecDepth 100000 in
theorem dk10bref8_cX12_edges_0_a : btA cX12_edges dk10bref8_cX12_edges_0 = true := by decide +kernel
theorem dX12_edges_0 : decode cX12_edges 0 = .ok (.lload_n 1, 1) := bd31 (btAt dk10bref8_cX12_edges_0_a 0 rfl)
theorem dX12_edges_1 : decode cX12_edges 1 = .ok (.lconst 0, 1) := bd9 (btAt dk10bref8_cX12_edges_0_a 1 rfl)
theorem dX12_edges_2 : decode cX12_edges 2 = .ok (.lcmp, 1) := bd148 (btAt dk10bref8_cX12_edges_0_a 2 rfl)
theorem dX12_edges_3 : decode cX12_edges 3 = .ok (.ifCond .lt 12, 3) := bd155 (a := 0) (b := 12) (btAt dk10bref8_cX12_edges_0_a 3 rfl)
theorem dX12_edges_6 : decode cX12_edges 6 = .ok (.lload_n 1, 1) := bd31 (btAt dk10bref8_cX12_edges_0_a 4 rfl)
theorem dX12_edges_7 : decode cX12_edges 7 = .ok (.bipush 36, 2) := bd16 (a := 36) (btAt dk10bref8_cX12_edges_0_a 5 rfl)
theorem dX12_edges_9 : decode cX12_edges 9 = .ok (.lshr, 1) := bd123 (btAt dk10bref8_cX12_edges_0_a 6 rfl)
theorem dX12_edges_10 : decode cX12_edges 10 = .ok (.lconst 0, 1) := bd9 (btAt dk10bref8_cX12_edges_0_a 7 rfl)
theorem dX12_edges_11 : decode cX12_edges 11 = .ok (.lcmp, 1) := bd148 (btAt dk10bref8_cX12_edges_0_a 8 rfl)
theorem dX12_edges_12 : decode cX12_edges 12 = .ok (.ifCond .eq 6, 3) := bd153 (a := 0) (b := 6) (btAt dk10bref8_cX12_edges_0_a 9 rfl)
theorem dX12_edges_15 : decode cX12_edges 15 = .ok (.bipush (-2), 2) := bd16 (a := 254) (btAt dk10bref8_cX12_edges_0_a 10 rfl)
theorem dX12_edges_17 : decode cX12_edges 17 = .ok (.ireturn, 1) := bd172 (btAt dk10bref8_cX12_edges_0_a 11 rfl)
theorem dX12_edges_18 : decode cX12_edges 18 = .ok (.aload_n 0, 1) := bd42 (btAt dk10bref8_cX12_edges_0_a 12 rfl)
theorem dX12_edges_19 : decode cX12_edges 19 = .ok (.invokevirtual 137, 3) := bd182 (a := 0) (b := 137) (btAt dk10bref8_cX12_edges_0_a 13 rfl)
theorem dX12_edges_22 : decode cX12_edges 22 = .ok (.istore_n 3, 1) := bd62 (btAt dk10bref8_cX12_edges_0_a 14 rfl)
theorem dX12_edges_23 : decode cX12_edges 23 = .ok (.iconst 0, 1) := bd3 (btAt dk10bref8_cX12_edges_0_a 15 rfl)
theorem dX12_edges_24 : decode cX12_edges 24 = .ok (.istore 4, 2) := bd54 (a := 4) (btAt dk10bref8_cX12_edges_0_a 16 rfl)
theorem dX12_edges_26 : decode cX12_edges 26 = .ok (.iload 4, 2) := bd21 (a := 4) (btAt dk10bref8_cX12_edges_0_a 17 rfl)
theorem dX12_edges_28 : decode cX12_edges 28 = .ok (.bipush 36, 2) := bd16 (a := 36) (btAt dk10bref8_cX12_edges_0_a 18 rfl)
theorem dX12_edges_30 : decode cX12_edges 30 = .ok (.if_icmp .ge 26, 3) := bd162 (a := 0) (b := 26) (btAt dk10bref8_cX12_edges_0_a 19 rfl)
theorem dX12_edges_33 : decode cX12_edges 33 = .ok (.aload_n 0, 1) := bd42 (btAt dk10bref8_cX12_edges_0_a 20 rfl)
theorem dX12_edges_34 : decode cX12_edges 34 = .ok (.getfield 9, 3) := bd180 (a := 0) (b := 9) (btAt dk10bref8_cX12_edges_0_a 21 rfl)
theorem dX12_edges_37 : decode cX12_edges 37 = .ok (.bipush 37, 2) := bd16 (a := 37) (btAt dk10bref8_cX12_edges_0_a 22 rfl)
theorem dX12_edges_39 : decode cX12_edges 39 = .ok (.iload 4, 2) := bd21 (a := 4) (btAt dk10bref8_cX12_edges_0_a 23 rfl)
theorem dX12_edges_41 : decode cX12_edges 41 = .ok (.iadd, 1) := bd96 (btAt dk10bref8_cX12_edges_0_a 24 rfl)
theorem dX12_edges_42 : decode cX12_edges 42 = .ok (.lload_n 1, 1) := bd31 (btAt dk10bref8_cX12_edges_0_a 25 rfl)
theorem dX12_edges_43 : decode cX12_edges 43 = .ok (.iload 4, 2) := bd21 (a := 4) (btAt dk10bref8_cX12_edges_0_a 26 rfl)
theorem dX12_edges_45 : decode cX12_edges 45 = .ok (.lshr, 1) := bd123 (btAt dk10bref8_cX12_edges_0_a 27 rfl)
theorem dX12_edges_46 : decode cX12_edges 46 = .ok (.lconst 1, 1) := bd10 (btAt dk10bref8_cX12_edges_0_a 28 rfl)
theorem dX12_edges_47 : decode cX12_edges 47 = .ok (.land, 1) := bd127 (btAt dk10bref8_cX12_edges_0_a 29 rfl)
theorem dX12_edges_48 : decode cX12_edges 48 = .ok (.l2i, 1) := bd136 (btAt dk10bref8_cX12_edges_0_a 30 rfl)
theorem dX12_edges_49 : decode cX12_edges 49 = .ok (.iastore, 1) := bd79 (btAt dk10bref8_cX12_edges_0_a 31 rfl)
theorem dX12_edges_50 : decode cX12_edges 50 = .ok (.iinc 4 1, 3) := bd132 (a := 4) (b := 1) (btAt dk10bref8_cX12_edges_0_a 32 rfl)
theorem dX12_edges_53 : decode cX12_edges 53 = .ok (.goto (-27), 3) := bd167 (a := 255) (b := 229) (btAt dk10bref8_cX12_edges_0_a 33 rfl)
theorem dX12_edges_56 : decode cX12_edges 56 = .ok (.iload_n 3, 1) := bd29 (btAt dk10bref8_cX12_edges_0_a 34 rfl)
theorem dX12_edges_57 : decode cX12_edges 57 = .ok (.ireturn, 1) := bd172 (btAt dk10bref8_cX12_edges_0_a 35 rfl)
noncomputable def dk10bref8_cX12_told_0 : List (Nat × List Nat) := [(0, [27]), (32, [42]), (33, [180, 0, 9]), (36, [16, 6]), (38, [46]), (39, [172]), (40, [42]), (41, [180, 0, 9]), (44, [16, 7]), (46, [46]), (47, [172]), (48, [42]), (49, [182, 0, 140]), (52, [172]), (53, [42]), (54, [182, 0, 137]), (57, [172]), (58, [2]), (59, [172])]
set_option maxRecDepth 100000 in
theorem dk10bref8_cX12_told_0_a : btA cX12_told dk10bref8_cX12_told_0 = true := by decide +kernel
theorem dX12_told_0 : decode cX12_told 0 = .ok (.iload_n 1, 1) := bd27 (btAt dk10bref8_cX12_told_0_a 0 rfl)
theorem dX12_told_32 : decode cX12_told 32 = .ok (.aload_n 0, 1) := bd42 (btAt dk10bref8_cX12_told_0_a 1 rfl)
theorem dX12_told_33 : decode cX12_told 33 = .ok (.getfield 9, 3) := bd180 (a := 0) (b := 9) (btAt dk10bref8_cX12_told_0_a 2 rfl)
theorem dX12_told_36 : decode cX12_told 36 = .ok (.bipush 6, 2) := bd16 (a := 6) (btAt dk10bref8_cX12_told_0_a 3 rfl)
theorem dX12_told_38 : decode cX12_told 38 = .ok (.iaload, 1) := bd46 (btAt dk10bref8_cX12_told_0_a 4 rfl)
theorem dX12_told_39 : decode cX12_told 39 = .ok (.ireturn, 1) := bd172 (btAt dk10bref8_cX12_told_0_a 5 rfl)
theorem dX12_told_40 : decode cX12_told 40 = .ok (.aload_n 0, 1) := bd42 (btAt dk10bref8_cX12_told_0_a 6 rfl)
theorem dX12_told_41 : decode cX12_told 41 = .ok (.getfield 9, 3) := bd180 (a := 0) (b := 9) (btAt dk10bref8_cX12_told_0_a 7 rfl)
theorem dX12_told_44 : decode cX12_told 44 = .ok (.bipush 7, 2) := bd16 (a := 7) (btAt dk10bref8_cX12_told_0_a 8 rfl)
theorem dX12_told_46 : decode cX12_told 46 = .ok (.iaload, 1) := bd46 (btAt dk10bref8_cX12_told_0_a 9 rfl)
theorem dX12_told_47 : decode cX12_told 47 = .ok (.ireturn, 1) := bd172 (btAt dk10bref8_cX12_told_0_a 10 rfl)
theorem dX12_told_48 : decode cX12_told 48 = .ok (.aload_n 0, 1) := bd42 (btAt dk10bref8_cX12_told_0_a 11 rfl)
theorem dX12_told_49 : decode cX12_told 49 = .ok (.invokevirtual 140, 3) := bd182 (a := 0) (b := 140) (btAt dk10bref8_cX12_told_0_a 12 rfl)
theorem dX12_told_52 : decode cX12_told 52 = .ok (.ireturn, 1) := bd172 (btAt dk10bref8_cX12_told_0_a 13 rfl)
theorem dX12_told_53 : decode cX12_told 53 = .ok (.aload_n 0, 1) := bd42 (btAt dk10bref8_cX12_told_0_a 14 rfl)
theorem dX12_told_54 : decode cX12_told 54 = .ok (.invokevirtual 137, 3) := bd182 (a := 0) (b := 137) (btAt dk10bref8_cX12_told_0_a 15 rfl)
theorem dX12_told_57 : decode cX12_told 57 = .ok (.ireturn, 1) := bd172 (btAt dk10bref8_cX12_told_0_a 16 rfl)
theorem dX12_told_58 : decode cX12_told 58 = .ok (.iconst (-1), 1) := bd2 (btAt dk10bref8_cX12_told_0_a 17 rfl)
theorem dX12_told_59 : decode cX12_told 59 = .ok (.ireturn, 1) := bd172 (btAt dk10bref8_cX12_told_0_a 18 rfl)
set_option maxRecDepth 100000 in
theorem dX12_told_1 : decode cX12_told 1 = .ok (.tableswitch 57 0 3 #[31, 39, 47, 52], 31) := by decide +kernel
noncomputable def dk10bref8_cX12_heap_0 : List (Nat × List Nat) := [(0, [27]), (1, [3]), (2, [16, 6]), (4, [184, 0, 45]), (7, [153, 0, 10]), (10, [29]), (11, [184, 0, 149]), (14, [154, 0, 5]), (17, [2]), (18, [172]), (19, [28]), (20, [3]), (21, [16, 9]), (23, [184, 0, 45]), (26, [154, 0, 6]), (29, [16, 254]), (31, [172]), (32, [42]), (33, [29]), (34, [182, 0, 153]), (37, [2]), (38, [159, 0, 6]), (41, [16, 253]), (43, [172]), (44, [42]), (45, [180, 0, 9]), (48, [3]), (49, [46]), (50, [16, 8]), (52, [160, 0, 6]), (55, [16, 252]), (57, [172]), (58, [42]), (59, [27]), (60, [28]), (61, [29]), (62, [182, 0, 156]), (65, [172])]
set_option maxRecDepth 100000 in
theorem dk10bref8_cX12_heap_0_a : btA cX12_heap dk10bref8_cX12_heap_0 = true := by decide +kernel
theorem dX12_heap_0 : decode cX12_heap 0 = .ok (.iload_n 1, 1) := bd27 (btAt dk10bref8_cX12_heap_0_a 0 rfl)
theorem dX12_heap_1 : decode cX12_heap 1 = .ok (.iconst 0, 1) := bd3 (btAt dk10bref8_cX12_heap_0_a 1 rfl)
theorem dX12_heap_2 : decode cX12_heap 2 = .ok (.bipush 6, 2) := bd16 (a := 6) (btAt dk10bref8_cX12_heap_0_a 2 rfl)
theorem dX12_heap_4 : decode cX12_heap 4 = .ok (.invokestatic 45, 3) := bd184 (a := 0) (b := 45) (btAt dk10bref8_cX12_heap_0_a 3 rfl)
theorem dX12_heap_7 : decode cX12_heap 7 = .ok (.ifCond .eq 10, 3) := bd153 (a := 0) (b := 10) (btAt dk10bref8_cX12_heap_0_a 4 rfl)
theorem dX12_heap_10 : decode cX12_heap 10 = .ok (.iload_n 3, 1) := bd29 (btAt dk10bref8_cX12_heap_0_a 5 rfl)
theorem dX12_heap_11 : decode cX12_heap 11 = .ok (.invokestatic 149, 3) := bd184 (a := 0) (b := 149) (btAt dk10bref8_cX12_heap_0_a 6 rfl)
theorem dX12_heap_14 : decode cX12_heap 14 = .ok (.ifCond .ne 5, 3) := bd154 (a := 0) (b := 5) (btAt dk10bref8_cX12_heap_0_a 7 rfl)
theorem dX12_heap_17 : decode cX12_heap 17 = .ok (.iconst (-1), 1) := bd2 (btAt dk10bref8_cX12_heap_0_a 8 rfl)
theorem dX12_heap_18 : decode cX12_heap 18 = .ok (.ireturn, 1) := bd172 (btAt dk10bref8_cX12_heap_0_a 9 rfl)
theorem dX12_heap_19 : decode cX12_heap 19 = .ok (.iload_n 2, 1) := bd28 (btAt dk10bref8_cX12_heap_0_a 10 rfl)
theorem dX12_heap_20 : decode cX12_heap 20 = .ok (.iconst 0, 1) := bd3 (btAt dk10bref8_cX12_heap_0_a 11 rfl)
theorem dX12_heap_21 : decode cX12_heap 21 = .ok (.bipush 9, 2) := bd16 (a := 9) (btAt dk10bref8_cX12_heap_0_a 12 rfl)
theorem dX12_heap_23 : decode cX12_heap 23 = .ok (.invokestatic 45, 3) := bd184 (a := 0) (b := 45) (btAt dk10bref8_cX12_heap_0_a 13 rfl)
theorem dX12_heap_26 : decode cX12_heap 26 = .ok (.ifCond .ne 6, 3) := bd154 (a := 0) (b := 6) (btAt dk10bref8_cX12_heap_0_a 14 rfl)
theorem dX12_heap_29 : decode cX12_heap 29 = .ok (.bipush (-2), 2) := bd16 (a := 254) (btAt dk10bref8_cX12_heap_0_a 15 rfl)
theorem dX12_heap_31 : decode cX12_heap 31 = .ok (.ireturn, 1) := bd172 (btAt dk10bref8_cX12_heap_0_a 16 rfl)
theorem dX12_heap_32 : decode cX12_heap 32 = .ok (.aload_n 0, 1) := bd42 (btAt dk10bref8_cX12_heap_0_a 17 rfl)
theorem dX12_heap_33 : decode cX12_heap 33 = .ok (.iload_n 3, 1) := bd29 (btAt dk10bref8_cX12_heap_0_a 18 rfl)
theorem dX12_heap_34 : decode cX12_heap 34 = .ok (.invokevirtual 153, 3) := bd182 (a := 0) (b := 153) (btAt dk10bref8_cX12_heap_0_a 19 rfl)
theorem dX12_heap_37 : decode cX12_heap 37 = .ok (.iconst (-1), 1) := bd2 (btAt dk10bref8_cX12_heap_0_a 20 rfl)
theorem dX12_heap_38 : decode cX12_heap 38 = .ok (.if_icmp .eq 6, 3) := bd159 (a := 0) (b := 6) (btAt dk10bref8_cX12_heap_0_a 21 rfl)
theorem dX12_heap_41 : decode cX12_heap 41 = .ok (.bipush (-3), 2) := bd16 (a := 253) (btAt dk10bref8_cX12_heap_0_a 22 rfl)
theorem dX12_heap_43 : decode cX12_heap 43 = .ok (.ireturn, 1) := bd172 (btAt dk10bref8_cX12_heap_0_a 23 rfl)
theorem dX12_heap_44 : decode cX12_heap 44 = .ok (.aload_n 0, 1) := bd42 (btAt dk10bref8_cX12_heap_0_a 24 rfl)
theorem dX12_heap_45 : decode cX12_heap 45 = .ok (.getfield 9, 3) := bd180 (a := 0) (b := 9) (btAt dk10bref8_cX12_heap_0_a 25 rfl)
theorem dX12_heap_48 : decode cX12_heap 48 = .ok (.iconst 0, 1) := bd3 (btAt dk10bref8_cX12_heap_0_a 26 rfl)
theorem dX12_heap_49 : decode cX12_heap 49 = .ok (.iaload, 1) := bd46 (btAt dk10bref8_cX12_heap_0_a 27 rfl)
theorem dX12_heap_50 : decode cX12_heap 50 = .ok (.bipush 8, 2) := bd16 (a := 8) (btAt dk10bref8_cX12_heap_0_a 28 rfl)
theorem dX12_heap_52 : decode cX12_heap 52 = .ok (.if_icmp .ne 6, 3) := bd160 (a := 0) (b := 6) (btAt dk10bref8_cX12_heap_0_a 29 rfl)
theorem dX12_heap_55 : decode cX12_heap 55 = .ok (.bipush (-4), 2) := bd16 (a := 252) (btAt dk10bref8_cX12_heap_0_a 30 rfl)
theorem dX12_heap_57 : decode cX12_heap 57 = .ok (.ireturn, 1) := bd172 (btAt dk10bref8_cX12_heap_0_a 31 rfl)
theorem dX12_heap_58 : decode cX12_heap 58 = .ok (.aload_n 0, 1) := bd42 (btAt dk10bref8_cX12_heap_0_a 32 rfl)
theorem dX12_heap_59 : decode cX12_heap 59 = .ok (.iload_n 1, 1) := bd27 (btAt dk10bref8_cX12_heap_0_a 33 rfl)
theorem dX12_heap_60 : decode cX12_heap 60 = .ok (.iload_n 2, 1) := bd28 (btAt dk10bref8_cX12_heap_0_a 34 rfl)
theorem dX12_heap_61 : decode cX12_heap 61 = .ok (.iload_n 3, 1) := bd29 (btAt dk10bref8_cX12_heap_0_a 35 rfl)
theorem dX12_heap_62 : decode cX12_heap 62 = .ok (.invokevirtual 156, 3) := bd182 (a := 0) (b := 156) (btAt dk10bref8_cX12_heap_0_a 36 rfl)
theorem dX12_heap_65 : decode cX12_heap 65 = .ok (.ireturn, 1) := bd172 (btAt dk10bref8_cX12_heap_0_a 37 rfl)
noncomputable def dk10bref8_cX12_image_0 : List (Nat × List Nat) := [(0, [3]), (1, [60]), (2, [27]), (3, [17, 3, 133]), (6, [162, 0, 21]), (9, [42]), (10, [180, 0, 15]), (13, [27]), (14, [42]), (15, [180, 0, 9]), (18, [27]), (19, [46]), (20, [79]), (21, [132, 1, 1]), (24, [167, 255, 234]), (27, [42]), (28, [4]), (29, [181, 1, 26]), (32, [42]), (33, [180, 0, 9]), (36, [3]), (37, [46]), (38, [172])]
set_option maxRecDepth 100000 in
theorem dk10bref8_cX12_image_0_a : btA cX12_image dk10bref8_cX12_image_0 = true := by decide +kernel
theorem dX12_image_0 : decode cX12_image 0 = .ok (.iconst 0, 1) := bd3 (btAt dk10bref8_cX12_image_0_a 0 rfl)
theorem dX12_image_1 : decode cX12_image 1 = .ok (.istore_n 1, 1) := bd60 (btAt dk10bref8_cX12_image_0_a 1 rfl)
theorem dX12_image_2 : decode cX12_image 2 = .ok (.iload_n 1, 1) := bd27 (btAt dk10bref8_cX12_image_0_a 2 rfl)
theorem dX12_image_3 : decode cX12_image 3 = .ok (.sipush 901, 3) := bd17 (a := 3) (b := 133) (btAt dk10bref8_cX12_image_0_a 3 rfl)
theorem dX12_image_6 : decode cX12_image 6 = .ok (.if_icmp .ge 21, 3) := bd162 (a := 0) (b := 21) (btAt dk10bref8_cX12_image_0_a 4 rfl)
theorem dX12_image_9 : decode cX12_image 9 = .ok (.aload_n 0, 1) := bd42 (btAt dk10bref8_cX12_image_0_a 5 rfl)
theorem dX12_image_10 : decode cX12_image 10 = .ok (.getfield 15, 3) := bd180 (a := 0) (b := 15) (btAt dk10bref8_cX12_image_0_a 6 rfl)
theorem dX12_image_13 : decode cX12_image 13 = .ok (.iload_n 1, 1) := bd27 (btAt dk10bref8_cX12_image_0_a 7 rfl)
theorem dX12_image_14 : decode cX12_image 14 = .ok (.aload_n 0, 1) := bd42 (btAt dk10bref8_cX12_image_0_a 8 rfl)
theorem dX12_image_15 : decode cX12_image 15 = .ok (.getfield 9, 3) := bd180 (a := 0) (b := 9) (btAt dk10bref8_cX12_image_0_a 9 rfl)
theorem dX12_image_18 : decode cX12_image 18 = .ok (.iload_n 1, 1) := bd27 (btAt dk10bref8_cX12_image_0_a 10 rfl)
theorem dX12_image_19 : decode cX12_image 19 = .ok (.iaload, 1) := bd46 (btAt dk10bref8_cX12_image_0_a 11 rfl)
theorem dX12_image_20 : decode cX12_image 20 = .ok (.iastore, 1) := bd79 (btAt dk10bref8_cX12_image_0_a 12 rfl)
theorem dX12_image_21 : decode cX12_image 21 = .ok (.iinc 1 1, 3) := bd132 (a := 1) (b := 1) (btAt dk10bref8_cX12_image_0_a 13 rfl)
theorem dX12_image_24 : decode cX12_image 24 = .ok (.goto (-22), 3) := bd167 (a := 255) (b := 234) (btAt dk10bref8_cX12_image_0_a 14 rfl)
theorem dX12_image_27 : decode cX12_image 27 = .ok (.aload_n 0, 1) := bd42 (btAt dk10bref8_cX12_image_0_a 15 rfl)
theorem dX12_image_28 : decode cX12_image 28 = .ok (.iconst 1, 1) := bd4 (btAt dk10bref8_cX12_image_0_a 16 rfl)
theorem dX12_image_29 : decode cX12_image 29 = .ok (.putfield 282, 3) := bd181 (a := 1) (b := 26) (btAt dk10bref8_cX12_image_0_a 17 rfl)
theorem dX12_image_32 : decode cX12_image 32 = .ok (.aload_n 0, 1) := bd42 (btAt dk10bref8_cX12_image_0_a 18 rfl)
theorem dX12_image_33 : decode cX12_image 33 = .ok (.getfield 9, 3) := bd180 (a := 0) (b := 9) (btAt dk10bref8_cX12_image_0_a 19 rfl)
theorem dX12_image_36 : decode cX12_image 36 = .ok (.iconst 0, 1) := bd3 (btAt dk10bref8_cX12_image_0_a 20 rfl)
theorem dX12_image_37 : decode cX12_image 37 = .ok (.iaload, 1) := bd46 (btAt dk10bref8_cX12_image_0_a 21 rfl)
theorem dX12_image_38 : decode cX12_image 38 = .ok (.ireturn, 1) := bd172 (btAt dk10bref8_cX12_image_0_a 22 rfl)
noncomputable def dk10bref8_cX12_undo_0 : List (Nat × List Nat) := [(0, [42]), (1, [180, 1, 26]), (4, [154, 0, 6]), (7, [16, 253]), (9, [172]), (10, [3]), (11, [60]), (12, [27]), (13, [17, 3, 133]), (16, [162, 0, 21]), (19, [42]), (20, [180, 0, 9]), (23, [27]), (24, [42]), (25, [180, 0, 15]), (28, [27]), (29, [46]), (30, [79]), (31, [132, 1, 1]), (34, [167, 255, 234]), (37, [42]), (38, [180, 0, 9]), (41, [3]), (42, [46]), (43, [172])]
set_option maxRecDepth 100000 in
theorem dk10bref8_cX12_undo_0_a : btA cX12_undo dk10bref8_cX12_undo_0 = true := by decide +kernel
theorem dX12_undo_0 : decode cX12_undo 0 = .ok (.aload_n 0, 1) := bd42 (btAt dk10bref8_cX12_undo_0_a 0 rfl)
theorem dX12_undo_1 : decode cX12_undo 1 = .ok (.getfield 282, 3) := bd180 (a := 1) (b := 26) (btAt dk10bref8_cX12_undo_0_a 1 rfl)
theorem dX12_undo_4 : decode cX12_undo 4 = .ok (.ifCond .ne 6, 3) := bd154 (a := 0) (b := 6) (btAt dk10bref8_cX12_undo_0_a 2 rfl)
theorem dX12_undo_7 : decode cX12_undo 7 = .ok (.bipush (-3), 2) := bd16 (a := 253) (btAt dk10bref8_cX12_undo_0_a 3 rfl)
theorem dX12_undo_9 : decode cX12_undo 9 = .ok (.ireturn, 1) := bd172 (btAt dk10bref8_cX12_undo_0_a 4 rfl)
theorem dX12_undo_10 : decode cX12_undo 10 = .ok (.iconst 0, 1) := bd3 (btAt dk10bref8_cX12_undo_0_a 5 rfl)
theorem dX12_undo_11 : decode cX12_undo 11 = .ok (.istore_n 1, 1) := bd60 (btAt dk10bref8_cX12_undo_0_a 6 rfl)
theorem dX12_undo_12 : decode cX12_undo 12 = .ok (.iload_n 1, 1) := bd27 (btAt dk10bref8_cX12_undo_0_a 7 rfl)
theorem dX12_undo_13 : decode cX12_undo 13 = .ok (.sipush 901, 3) := bd17 (a := 3) (b := 133) (btAt dk10bref8_cX12_undo_0_a 8 rfl)
theorem dX12_undo_16 : decode cX12_undo 16 = .ok (.if_icmp .ge 21, 3) := bd162 (a := 0) (b := 21) (btAt dk10bref8_cX12_undo_0_a 9 rfl)
theorem dX12_undo_19 : decode cX12_undo 19 = .ok (.aload_n 0, 1) := bd42 (btAt dk10bref8_cX12_undo_0_a 10 rfl)
theorem dX12_undo_20 : decode cX12_undo 20 = .ok (.getfield 9, 3) := bd180 (a := 0) (b := 9) (btAt dk10bref8_cX12_undo_0_a 11 rfl)
theorem dX12_undo_23 : decode cX12_undo 23 = .ok (.iload_n 1, 1) := bd27 (btAt dk10bref8_cX12_undo_0_a 12 rfl)
theorem dX12_undo_24 : decode cX12_undo 24 = .ok (.aload_n 0, 1) := bd42 (btAt dk10bref8_cX12_undo_0_a 13 rfl)
theorem dX12_undo_25 : decode cX12_undo 25 = .ok (.getfield 15, 3) := bd180 (a := 0) (b := 15) (btAt dk10bref8_cX12_undo_0_a 14 rfl)
theorem dX12_undo_28 : decode cX12_undo 28 = .ok (.iload_n 1, 1) := bd27 (btAt dk10bref8_cX12_undo_0_a 15 rfl)
theorem dX12_undo_29 : decode cX12_undo 29 = .ok (.iaload, 1) := bd46 (btAt dk10bref8_cX12_undo_0_a 16 rfl)
theorem dX12_undo_30 : decode cX12_undo 30 = .ok (.iastore, 1) := bd79 (btAt dk10bref8_cX12_undo_0_a 17 rfl)
theorem dX12_undo_31 : decode cX12_undo 31 = .ok (.iinc 1 1, 3) := bd132 (a := 1) (b := 1) (btAt dk10bref8_cX12_undo_0_a 18 rfl)
theorem dX12_undo_34 : decode cX12_undo 34 = .ok (.goto (-22), 3) := bd167 (a := 255) (b := 234) (btAt dk10bref8_cX12_undo_0_a 19 rfl)
theorem dX12_undo_37 : decode cX12_undo 37 = .ok (.aload_n 0, 1) := bd42 (btAt dk10bref8_cX12_undo_0_a 20 rfl)
theorem dX12_undo_38 : decode cX12_undo 38 = .ok (.getfield 9, 3) := bd180 (a := 0) (b := 9) (btAt dk10bref8_cX12_undo_0_a 21 rfl)
theorem dX12_undo_41 : decode cX12_undo 41 = .ok (.iconst 0, 1) := bd3 (btAt dk10bref8_cX12_undo_0_a 22 rfl)
theorem dX12_undo_42 : decode cX12_undo 42 = .ok (.iaload, 1) := bd46 (btAt dk10bref8_cX12_undo_0_a 23 rfl)
theorem dX12_undo_43 : decode cX12_undo 43 = .ok (.ireturn, 1) := bd172 (btAt dk10bref8_cX12_undo_0_a 24 rfl)
noncomputable def dk10bref8_cX12_count_0 : List (Nat × List Nat) := [(0, [27]), (40, [42]), (41, [180, 0, 9]), (44, [3]), (45, [46]), (46, [172]), (47, [42]), (48, [180, 0, 9]), (51, [4]), (52, [46]), (53, [172]), (54, [42]), (55, [180, 0, 9]), (58, [5]), (59, [46]), (60, [172]), (61, [42]), (62, [180, 0, 9]), (65, [6]), (66, [46]), (67, [172]), (68, [42]), (69, [180, 0, 9]), (72, [7]), (73, [46]), (74, [172]), (75, [42]), (76, [180, 0, 246]), (79, [172]), (80, [2]), (81, [172])]
set_option maxRecDepth 100000 in
theorem dk10bref8_cX12_count_0_a : btA cX12_count dk10bref8_cX12_count_0 = true := by decide +kernel
theorem dX12_count_0 : decode cX12_count 0 = .ok (.iload_n 1, 1) := bd27 (btAt dk10bref8_cX12_count_0_a 0 rfl)
theorem dX12_count_40 : decode cX12_count 40 = .ok (.aload_n 0, 1) := bd42 (btAt dk10bref8_cX12_count_0_a 1 rfl)
theorem dX12_count_41 : decode cX12_count 41 = .ok (.getfield 9, 3) := bd180 (a := 0) (b := 9) (btAt dk10bref8_cX12_count_0_a 2 rfl)
theorem dX12_count_44 : decode cX12_count 44 = .ok (.iconst 0, 1) := bd3 (btAt dk10bref8_cX12_count_0_a 3 rfl)
theorem dX12_count_45 : decode cX12_count 45 = .ok (.iaload, 1) := bd46 (btAt dk10bref8_cX12_count_0_a 4 rfl)
theorem dX12_count_46 : decode cX12_count 46 = .ok (.ireturn, 1) := bd172 (btAt dk10bref8_cX12_count_0_a 5 rfl)
theorem dX12_count_47 : decode cX12_count 47 = .ok (.aload_n 0, 1) := bd42 (btAt dk10bref8_cX12_count_0_a 6 rfl)
theorem dX12_count_48 : decode cX12_count 48 = .ok (.getfield 9, 3) := bd180 (a := 0) (b := 9) (btAt dk10bref8_cX12_count_0_a 7 rfl)
theorem dX12_count_51 : decode cX12_count 51 = .ok (.iconst 1, 1) := bd4 (btAt dk10bref8_cX12_count_0_a 8 rfl)
theorem dX12_count_52 : decode cX12_count 52 = .ok (.iaload, 1) := bd46 (btAt dk10bref8_cX12_count_0_a 9 rfl)
theorem dX12_count_53 : decode cX12_count 53 = .ok (.ireturn, 1) := bd172 (btAt dk10bref8_cX12_count_0_a 10 rfl)
theorem dX12_count_54 : decode cX12_count 54 = .ok (.aload_n 0, 1) := bd42 (btAt dk10bref8_cX12_count_0_a 11 rfl)
theorem dX12_count_55 : decode cX12_count 55 = .ok (.getfield 9, 3) := bd180 (a := 0) (b := 9) (btAt dk10bref8_cX12_count_0_a 12 rfl)
theorem dX12_count_58 : decode cX12_count 58 = .ok (.iconst 2, 1) := bd5 (btAt dk10bref8_cX12_count_0_a 13 rfl)
theorem dX12_count_59 : decode cX12_count 59 = .ok (.iaload, 1) := bd46 (btAt dk10bref8_cX12_count_0_a 14 rfl)
theorem dX12_count_60 : decode cX12_count 60 = .ok (.ireturn, 1) := bd172 (btAt dk10bref8_cX12_count_0_a 15 rfl)
theorem dX12_count_61 : decode cX12_count 61 = .ok (.aload_n 0, 1) := bd42 (btAt dk10bref8_cX12_count_0_a 16 rfl)
theorem dX12_count_62 : decode cX12_count 62 = .ok (.getfield 9, 3) := bd180 (a := 0) (b := 9) (btAt dk10bref8_cX12_count_0_a 17 rfl)
theorem dX12_count_65 : decode cX12_count 65 = .ok (.iconst 3, 1) := bd6 (btAt dk10bref8_cX12_count_0_a 18 rfl)
theorem dX12_count_66 : decode cX12_count 66 = .ok (.iaload, 1) := bd46 (btAt dk10bref8_cX12_count_0_a 19 rfl)
theorem dX12_count_67 : decode cX12_count 67 = .ok (.ireturn, 1) := bd172 (btAt dk10bref8_cX12_count_0_a 20 rfl)
theorem dX12_count_68 : decode cX12_count 68 = .ok (.aload_n 0, 1) := bd42 (btAt dk10bref8_cX12_count_0_a 21 rfl)
theorem dX12_count_69 : decode cX12_count 69 = .ok (.getfield 9, 3) := bd180 (a := 0) (b := 9) (btAt dk10bref8_cX12_count_0_a 22 rfl)
theorem dX12_count_72 : decode cX12_count 72 = .ok (.iconst 4, 1) := bd7 (btAt dk10bref8_cX12_count_0_a 23 rfl)
theorem dX12_count_73 : decode cX12_count 73 = .ok (.iaload, 1) := bd46 (btAt dk10bref8_cX12_count_0_a 24 rfl)
theorem dX12_count_74 : decode cX12_count 74 = .ok (.ireturn, 1) := bd172 (btAt dk10bref8_cX12_count_0_a 25 rfl)
theorem dX12_count_75 : decode cX12_count 75 = .ok (.aload_n 0, 1) := bd42 (btAt dk10bref8_cX12_count_0_a 26 rfl)
theorem dX12_count_76 : decode cX12_count 76 = .ok (.getfield 246, 3) := bd180 (a := 0) (b := 246) (btAt dk10bref8_cX12_count_0_a 27 rfl)
theorem dX12_count_79 : decode cX12_count 79 = .ok (.ireturn, 1) := bd172 (btAt dk10bref8_cX12_count_0_a 28 rfl)
theorem dX12_count_80 : decode cX12_count 80 = .ok (.iconst (-1), 1) := bd2 (btAt dk10bref8_cX12_count_0_a 29 rfl)
theorem dX12_count_81 : decode cX12_count 81 = .ok (.ireturn, 1) := bd172 (btAt dk10bref8_cX12_count_0_a 30 rfl)
set_option maxRecDepth 100000 in
theorem dX12_count_1 : decode cX12_count 1 = .ok (.tableswitch 79 0 5 #[39, 46, 53, 60, 67, 74], 39) := by decide +kernel
noncomputable def wkR (k : Nat) (x : Int32) : Int32 := if x = -1 then 0 else if x < 0 then -1 else if 7 < x then -1 else if k = 6 then -4 else nI (k + 1)
noncomputable def wkN (k : Nat) (x : Int32) : Nat := if x = -1 then 0 else if x < 0 then k else if 7 < x then k else if k = 6 then k else k + 1
noncomputable def fdR (k : Nat) (x : Int32) : Int32 := if x < 0 then -2 else if 127 < x then -2 else if k = 100 then -4 else nI (k + 1)
noncomputable def fdN (k : Nat) (x : Int32) : Nat := if x < 0 then k else if 127 < x then k else if k = 100 then k else k + 1
noncomputable def wkW (k : Nat) (wy : Nat → Nat) (x : Int32) : Nat → Nat := if x = -1 then wy else if x < 0 then wy else if 7 < x then wy else if k = 6 then wy else fun i => if i = k then x.toNatClampNeg else wy i
section
variable {k : Nat} {x : Int32} {g g9 : Nat → Int32} {wy : Nat → Nat}
theorem ww_0 (h : x = -1) : ∀ wy : Nat → Nat, (∀ i, i < k → g i = nI (wy i)) → ∀ i, i < wkN k x → g9 i = nI (wkW k wy x i) := fun _ _ i hi => by
  rw [wkN, if_pos h] at hi
  exact absurd hi (Nat.not_lt_zero i)
theorem ww_s (h : ¬ x = -1) (h2 : x < 0 ∨ 7 < x ∨ k = 6) : wkN k x = k ∧ ∀ wy, wkW k wy x = wy := by
  by_cases a : x < 0
  · exact ⟨by rw [wkN, if_neg h, if_pos a], fun wy => by rw [wkW, if_neg h, if_pos a]⟩
  · by_cases b : 7 < x
    · exact ⟨by rw [wkN, if_neg h, if_neg a, if_pos b], fun wy => by rw [wkW, if_neg h, if_neg a, if_pos b]⟩
    · have c : k = 6 := h2.resolve_left a |>.resolve_left b
      exact ⟨by rw [wkN, if_neg h, if_neg a, if_neg b, if_pos c], fun wy => by rw [wkW, if_neg h, if_neg a, if_neg b, if_pos c]⟩
theorem ww_k (h : ¬ x = -1) (h2 : x < 0 ∨ 7 < x ∨ k = 6) : ∀ wy : Nat → Nat, (∀ i, i < k → g i = nI (wy i)) → ∀ i, i < wkN k x → g i = nI (wkW k wy x i) := fun wy hg i hi => by
  rw [(ww_s h h2).2 wy]
  rw [(ww_s h h2).1] at hi
  exact hg i hi
theorem ww_u (h : ¬ x = -1) (h1 : ¬ x < 0) (h2 : ¬ 7 < x) (h6 : ¬ k = 6) (e : ∀ i, i < k + 1 → g9 i = if i = k then x else g i) : ∀ wy : Nat → Nat, (∀ i, i < k → g i = nI (wy i)) → ∀ i, i < wkN k x → g9 i = nI (wkW k wy x i) := fun wy hg i hi => by
  obtain ⟨j, hj, rfl⟩ := nI_of2 (n := 7) (M := 7) (x := x) rfl h1 (Int32.not_lt.mp h2)
  rw [wkN, if_neg h, if_neg h1, if_neg h2, if_neg h6] at hi
  rw [wkW, if_neg h, if_neg h1, if_neg h2, if_neg h6, e i hi, nI_clamp (by omega)]
  show (if i = k then nI j else g i) = nI (if i = k then j else wy i)
  by_cases q : i = k
  · rw [if_pos q, if_pos q]
  · rw [if_neg q, if_neg q]; exact hg i (by omega)
theorem ww_e {f : Nat → Int32} {i : Nat} {v : Int32} : upd (upd f (73 + k) x) 2 v (73 + i) = if i = k then x else f (73 + i) := by
  rw [pk_un (by omega)]
  by_cases q : i = k
  · subst q; rw [pk_us, if_pos rfl]
  · rw [pk_un (by omega), if_neg q]
theorem wkW_lt (h : ∀ i, wy i < 8) : ∀ i, wkW k wy x i < 8 := fun i => by
  unfold wkW
  split
  · exact h i
  · split
    · exact h i
    · split
      · exact h i
      · split
        · exact h i
        · show (if i = k then x.toNatClampNeg else wy i) < 8
          split
          · rename_i h1 h2 _ _
            obtain ⟨j, hj, rfl⟩ := nI_of2 (n := 7) (M := 7) (x := x) rfl h1 (Int32.not_lt.mp h2)
            rw [nI_clamp (by omega)]; omega
          · exact h i
end
theorem bk_up {f : Nat → Int32} {k j : Nat} {v : Int32} (zb : ∀ i, i < 12 → ∃ j : Nat, j < 8 ∧ f (79 + i) = nI j) (hj : j < 8) : ∀ i, i < 12 → ∃ q : Nat, q < 8 ∧ (upd (upd f (79 + k) (nI j)) 3 v) (79 + i) = nI q := by
  intro i hi
  rw [pk_un (show 79 + i ≠ 3 by omega)]
  by_cases q : i = k
  · subst q; exact ⟨j, hj, pk_us⟩
  · rw [pk_un (show 79 + i ≠ 79 + k by omega)]; exact zb i hi
theorem bk_0 {f : Nat → Int32} {v : Int32} (zb : ∀ i, i < 12 → ∃ j : Nat, j < 8 ∧ f (79 + i) = nI j) : ∀ i, i < 12 → ∃ j : Nat, j < 8 ∧ (upd f 3 v) (79 + i) = nI j := by
  intro i hi
  rw [pk_un (show 79 + i ≠ 3 by omega)]; exact zb i hi

theorem kc_mWalk_0 : ∀ w ∈ wsX120, w ∈ wsX12_walk := fun w h => List.mem_cons_of_mem _ (gin_wsX120 w h)
theorem kc_mWalk_1 : (.fieldLink RX12 9 "MistHeapsModel" "s" "[I" : Cond) ∈ wsX12_walk := kc_of 1141 rfl rfl rfl
set_option maxHeartbeats 4000000 in
set_option maxRecDepth 100000 in
theorem c_mWalk (l : Launch) (dC : Nat → ClassId) (dI : Nat → Nat → Nat) (m0 aS aI aB aT aG aO aN aD aY : Nat) (th im ac sp en wg op se dn rn kd nu tv : Int32) (bv : Int64) (cS : ClassId) (fS : Nat → Int32) (wk : Nat) (x : Int32) (sz : Nat) (zw : fS 2 = nI wk) (hw6 : wk ≤ 6) : Met l yX12_walk wsX12_walk ({ frames := 1, cells := 0, slots := 0, locals := 22 } : Room) (va_Pc [.ref m0, .int x] (fun U => U.heap.size = sz ∧ va_P (dC, dI) vwCl [(zo14irriiiiiirriirrrrlriiii m0 th aS aI im ac sp en wg op aB aT se dn aG aO aN aD bv aY rn kd nu tv), (zaI aS cS 901 fS)] U.heap ∧ va_K (dC, dI) vwCl [(cS, .int)] U ∧ va_D (fun _ => True) [(zo14irriiiiiirriirrrrlriiii m0 th aS aI im ac sp en wg op aB aT se dn aG aO aN aD bv aY rn kd nu tv), (zaI aS cS 901 fS)])) (va_Qi (fun (r : Int32) (u : Nat → Int32) => match u with | fS9 => r = wkR wk x ∧ fS9 2 = nI (wkN wk x) ∧ (∀ i, i ≠ 2 → ¬ (73 ≤ i ∧ i < 79) → fS9 i = fS i) ∧ ∀ wy : Nat → Nat, (∀ k, k < wk → fS (73 + k) = nI (wy k)) → ∀ k, k < wkN wk x → fS9 (73 + k) = nI (wkW wk wy x k)) (fun (u : Nat → Int32) (t : State) => match u with | fS9 => va_P (dC, dI) vwCl [(zo14irriiiiiirriirrrrlriiii m0 th aS aI im ac sp en wg op aB aT se dn aG aO aN aD bv aY rn kd nu tv), (zaI aS cS 901 fS9)] t.heap ∧ va_K (dC, dI) vwCl [(cS, .int)] t ∧ va_D (va_A [(zo14irriiiiiirriirrrrlriiii m0 th aS aI im ac sp en wg op aB aT se dn aG aO aN aD bv aY rn kd nu tv), (zaI aS cS 901 fS)] sz) [(zo14irriiiiiirriirrrrlriiii m0 th aS aI im ac sp en wg op aB aT se dn aG aO aN aD bv aY rn kd nu tv), (zaI aS cS 901 fS9)]) (va_A [(zo14irriiiiiirriirrrrlriiii m0 th aS aI im ac sp en wg op aB aT se dn aG aO aN aD bv aY rn kd nu tv), (zaI aS cS 901 fS)] sz)) 0 0 (va_A [(zo14irriiiiiirriirrrrlriiii m0 th aS aI im ac sp en wg op aB aT se dn aG aO aN aD bv aY rn kd nu tv), (zaI aS cS 901 fS)] sz) := by
  refine met_ofQ (cc := cX12_walk) (maxL := 2) (ret := (some .int)) (by decide) rfl ?_
  intro p e s m args below meth c s₁ Q B hml hv hQ
  obtain ⟨rfl, hsz, hP, hK, hD0⟩ := hv
  have hx := B.exec
  have hb := B.bytes
  have hr := B.returns
  have hts := atoms_spec (ws := wsX12_walk) B.pre
  have hown : s.vm.findClass RX12 = some m.cls := findClass_of_methodNamed B.named
  have hlocks := B.notSynchronized
  subst hsz
  have hD := hD0.self (sz := s.heap.size)
  generalize hAe : va_A [(zo14irriiiiiirriirrrrlriiii m0 th aS aI im ac sp en wg op aB aT se dn aG aO aN aD bv aY rn kd nu tv), (zaI aS cS 901 fS)] s.heap.size = A at hD hQ ⊢
  have hA : ∀ q : Nat, s.heap.size ≤ q → A q := fun q h => by rw [← hAe]; exact Or.inr h
  have hS : va_S A s.heap s.heap [] := va_S.rf
  have hl := lv_entry [.ref m0, .int x] (n := 2) (Nat.le_of_ble_eq_true rfl)
  rw [lg_entry_eq]
  generalize (lg_sl [.ref m0, .int x] ++ List.replicate (2 - (lg_sl [.ref m0, .int x]).length) Slot.unset).toArray = ls at hl ⊢
  generalize hag : ([.ref m0, .int x] : List Value).toArray = args at hts hQ ⊢
  have hl : lv_has ls 2 [(0, .ref m0), (1, .int x)] := hl
  obtain ⟨H, hH⟩ : ∃ H : Heap, H = s.heap := ⟨_, rfl⟩
  rw [← hH] at hP
  rw [← hH]
  have hS : va_S A s.heap H [] := by rw [hH]; exact hS
  obtain ⟨locs, hlo⟩ : ∃ L : List Loc, L = [] := ⟨_, rfl⟩
  rw [← hlo] at hS
  rw [← hlo]
  clear hH hlo
  refine lv_iload_n hx hb dX12_walk_0 rfl (lv_at hl 1 rfl) ?_
  refine lv_iconst (v := (-1)) hx hb dX12_walk_1 (by decide) ?_
  refine lv_icmp_ne (tgt := 14) hx hb dX12_walk_2 (by decide) (fun c_1 => ?_) (fun c_1 => ?_)
  · skip
    refine lv_iload_n hx hb dX12_walk_14 rfl (lv_at hl 1 rfl) ?_
    refine lv_iconst (v := 0) hx hb dX12_walk_15 (by decide) ?_
    refine lv_bipush (v := 7) hx hb dX12_walk_16 (by decide) ?_
    refine vp_callSi (va_runS (As := [.int x, .int 0, .int 7]) (rest := []) ⟨hx, hb, hml, hown, hts⟩ (c_in l dC dI x 0 7) (va_cwS 3 hts gX12_walk_X12_in rfl rfl rfl hd_yX12_in.2 ⟨Nat.le_of_ble_eq_true rfl, Nat.le_of_ble_eq_true rfl⟩) ⟨fun a U g mk q => ⟨q.1, trivial⟩, fun U hU hW => ⟨rfl, trivial⟩⟩ rfl rfl hl.1 rfl (lv_room (Nat.le_of_ble_eq_true rfl)) dX12_walk_18 ⟨Nat.le_of_ble_eq_true rfl, Nat.le_of_ble_eq_true rfl⟩).run (fun r_2 hw_3 => ?_)
    rcases hw_3 with ⟨rfl, h_4, h_5⟩ | ⟨rfl, h_6⟩
    · skip
      refine lv_if_ne (tgt := 26) hx hb dX12_walk_21 (by decide) (fun _ => ?_) (fun c_7 => absurd c_7 (by decide))
      refine lv_aload_n hx hb dX12_walk_26 rfl (lv_at hl 0 rfl) ?_
      refine va_get (D := (dC, dI)) (ci := 14) (v := .ref aS) (C := RX12) (T := TX12) (N := 23) hx hb hts kc_mWalk_0 hown hK hP 0 rfl rfl 1 (by decide) (hts (.fieldLink RX12 9 "MistHeapsModel" "s" "[I") kc_mWalk_1) (fun _ h9 => h9) rfl dX12_walk_27 ?_
      refine lv_iconst (v := 2) hx hb dX12_walk_30 (by decide) ?_
      refine va_iald hx hb hK hP 1 0 rfl rfl (vp_in_nI (n := 2) (N := 901) (by omega) (by omega)) dX12_walk_31 ?_
      refine qi_as (y := nI wk) ((show fS (2 : Int32).toNatClampNeg = fS 2 from rfl).trans (zw)) ?_
      refine lv_bipush (v := 6) hx hb dX12_walk_32 (by decide) ?_
      refine lv_icmp_ne (tgt := 40) hx hb dX12_walk_34 (by decide) (fun c_8 => ?_) (fun c_8 => ?_)
      · skip
        have c_8 : ¬ wk = 6 := fun q => c_8 ((nI_eq (a := wk) (b := 6) (by omega) (by omega)).mpr q)
        refine lv_aload_n hx hb dX12_walk_40 rfl (lv_at hl 0 rfl) ?_
        refine va_get (D := (dC, dI)) (ci := 14) (v := .ref aS) (C := RX12) (T := TX12) (N := 23) hx hb hts kc_mWalk_0 hown hK hP 0 rfl rfl 1 (by decide) (hts (.fieldLink RX12 9 "MistHeapsModel" "s" "[I") kc_mWalk_1) (fun _ h9 => h9) rfl dX12_walk_41 ?_
        refine lv_bipush (v := 73) hx hb dX12_walk_44 (by decide) ?_
        refine lv_aload_n hx hb dX12_walk_46 rfl (lv_at hl 0 rfl) ?_
        refine va_get (D := (dC, dI)) (ci := 14) (v := .ref aS) (C := RX12) (T := TX12) (N := 23) hx hb hts kc_mWalk_0 hown hK hP 0 rfl rfl 1 (by decide) (hts (.fieldLink RX12 9 "MistHeapsModel" "s" "[I") kc_mWalk_1) (fun _ h9 => h9) rfl dX12_walk_47 ?_
        refine lv_iconst (v := 2) hx hb dX12_walk_50 (by decide) ?_
        refine va_iald hx hb hK hP 1 0 rfl rfl (vp_in_nI (n := 2) (N := 901) (by omega) (by omega)) dX12_walk_51 ?_
        refine qi_as (y := nI wk) ((show fS (2 : Int32).toNatClampNeg = fS 2 from rfl).trans (zw)) ?_
        refine lv_iadd hx hb dX12_walk_52 ?_
        refine qi_as (y := nI (73 + wk)) (nI_add 73 wk) ?_
        refine lv_iload_n hx hb dX12_walk_53 rfl (lv_at hl 1 rfl) ?_
        refine va_iast hx hb hK hP hD hS 1 0 rfl rfl (vp_in_nI (n := 73 + wk) (N := 901) (by omega) (by omega)) dX12_walk_54 (fun H locs hP hD hS => ?_)
        rw [nI_clamp (n := 73 + wk) (by omega)] at hP hD
        have hP : va_P (dC, dI) vwCl [(zo14irriiiiiirriirrrrlriiii m0 th aS aI im ac sp en wg op aB aT se dn aG aO aN aD bv aY rn kd nu tv), (zaI aS cS 901 (upd fS (73 + wk) x))] H := hP
        have hD : va_D A [(zo14irriiiiiirriirrrrlriiii m0 th aS aI im ac sp en wg op aB aT se dn aG aO aN aD bv aY rn kd nu tv), (zaI aS cS 901 (upd fS (73 + wk) x))] := hD
        refine lv_aload_n hx hb dX12_walk_55 rfl (lv_at hl 0 rfl) ?_
        refine va_get (D := (dC, dI)) (ci := 14) (v := .ref aS) (C := RX12) (T := TX12) (N := 23) hx hb hts kc_mWalk_0 hown hK hP 0 rfl rfl 1 (by decide) (hts (.fieldLink RX12 9 "MistHeapsModel" "s" "[I") kc_mWalk_1) (fun _ h9 => h9) rfl dX12_walk_56 ?_
        refine lv_iconst (v := 2) hx hb dX12_walk_59 (by decide) ?_
        refine lv_dup2_11 hx hb dX12_walk_60 rfl rfl ?_
        refine va_iald hx hb hK hP 1 0 rfl rfl (vp_in_nI (n := 2) (N := 901) (by omega) (by omega)) dX12_walk_61 ?_
        refine qi_as (y := nI wk) ((show (upd fS (73 + wk) x) (2 : Int32).toNatClampNeg = (upd fS (73 + wk) x) 2 from rfl).trans ((pk_un (by omega)).trans zw)) ?_
        refine lv_iconst (v := 1) hx hb dX12_walk_62 (by decide) ?_
        refine lv_iadd hx hb dX12_walk_63 ?_
        refine qi_as (y := nI (wk + 1)) (nI_add wk 1) ?_
        refine va_iast hx hb hK hP hD hS 1 0 rfl rfl (vp_in_nI (n := 2) (N := 901) (by omega) (by omega)) dX12_walk_64 (fun H locs hP hD hS => ?_)
        have hP : va_P (dC, dI) vwCl [(zo14irriiiiiirriirrrrlriiii m0 th aS aI im ac sp en wg op aB aT se dn aG aO aN aD bv aY rn kd nu tv), (zaI aS cS 901 (upd (upd fS (73 + wk) x) 2 (nI (wk + 1))))] H := hP
        have hD : va_D A [(zo14irriiiiiirriirrrrlriiii m0 th aS aI im ac sp en wg op aB aT se dn aG aO aN aD bv aY rn kd nu tv), (zaI aS cS 901 (upd (upd fS (73 + wk) x) 2 (nI (wk + 1))))] := hD
        refine lv_aload_n hx hb dX12_walk_65 rfl (lv_at hl 0 rfl) ?_
        refine va_get (D := (dC, dI)) (ci := 14) (v := .ref aS) (C := RX12) (T := TX12) (N := 23) hx hb hts kc_mWalk_0 hown hK hP 0 rfl rfl 1 (by decide) (hts (.fieldLink RX12 9 "MistHeapsModel" "s" "[I") kc_mWalk_1) (fun _ h9 => h9) rfl dX12_walk_66 ?_
        refine lv_iconst (v := 2) hx hb dX12_walk_69 (by decide) ?_
        refine va_iald hx hb hK hP 1 0 rfl rfl (vp_in_nI (n := 2) (N := 901) (by omega) (by omega)) dX12_walk_70 ?_
        refine qi_as (y := nI (wk + 1)) (rfl) ?_
        rw [hQ]
        have hP9 := hP.sub (ws' := [(zo14irriiiiiirriirrrrlriiii m0 th aS aI im ac sp en wg op aB aT se dn aG aO aN aD bv aY rn kd nu tv), (zaI aS cS 901 (upd (upd fS (73 + wk) x) 2 (nI (wk + 1))))]) [0, 1] rfl
        have hD9 := hD.sub (ws' := [(zo14irriiiiiirriirrrrlriiii m0 th aS aI im ac sp en wg op aB aT se dn aG aO aN aD bv aY rn kd nu tv), (zaI aS cS 901 (upd (upd fS (73 + wk) x) 2 (nI (wk + 1))))]) [0, 1] (by decide) rfl
        have hK9 := hK.sub (tys' := [(cS, .int)]) [0] rfl
        exact W.iret (v := nI (wk + 1)) hx hb hr (fun tQ htQ hWQ => ⟨⟨(nI (wk + 1)), (upd (upd fS (73 + wk) x) 2 (nI (wk + 1))), rfl, ⟨by simp only [wkR]; (repeat' split) <;> simp_all, by simp only [wkN]; (repeat' split) <;> first | exact pk_us | exact zw | simp_all, fun i h1 h2 => by first | rfl | exact pk_un h1 | rw [pk_un h1, pk_un (by omega)], by first | exact ww_0 (by assumption) | exact ww_k (g := fun k => fS (73 + k)) (by assumption) (by first | exact Or.inr (Or.inr (by omega)) | exact (by assumption : x < 0 ∨ 7 < x).elim Or.inl (fun z9 => Or.inr (Or.inl z9))) | exact ww_u (g := fun k => fS (73 + k)) (g9 := fun k => upd (upd fS (73 + wk) x) 2 (nI (wk + 1)) (73 + k)) (by assumption) (by assumption) (by assumption) (by omega) (fun i hi => ww_e)⟩, by rw [htQ]; exact hP9, va_K.moved hWQ.alike hK9, hD9⟩, hS.F htQ⟩) hS.2.2 dX12_walk_71
      · skip
        have c_8 : wk = 6 := (nI_eq (a := wk) (b := 6) (by omega) (by omega)).mp c_8
        refine lv_bipush (v := (-4)) hx hb dX12_walk_37 (by decide) ?_
        rw [hQ]
        have hP9 := hP.sub (ws' := [(zo14irriiiiiirriirrrrlriiii m0 th aS aI im ac sp en wg op aB aT se dn aG aO aN aD bv aY rn kd nu tv), (zaI aS cS 901 fS)]) [0, 1] rfl
        have hD9 := hD.sub (ws' := [(zo14irriiiiiirriirrrrlriiii m0 th aS aI im ac sp en wg op aB aT se dn aG aO aN aD bv aY rn kd nu tv), (zaI aS cS 901 fS)]) [0, 1] (by decide) rfl
        have hK9 := hK.sub (tys' := [(cS, .int)]) [0] rfl
        exact W.iret (v := (-4)) hx hb hr (fun tQ htQ hWQ => ⟨⟨(-4), fS, rfl, ⟨by simp only [wkR]; (repeat' split) <;> simp_all, by simp only [wkN]; (repeat' split) <;> first | exact pk_us | exact zw | simp_all, fun i h1 h2 => by first | rfl | exact pk_un h1 | rw [pk_un h1, pk_un (by omega)], by first | exact ww_0 (by assumption) | exact ww_k (g := fun k => fS (73 + k)) (by assumption) (by first | exact Or.inr (Or.inr (by omega)) | exact (by assumption : x < 0 ∨ 7 < x).elim Or.inl (fun z9 => Or.inr (Or.inl z9))) | exact ww_u (g := fun k => fS (73 + k)) (g9 := fun k => upd (upd fS (73 + wk) x) 2 (nI (wk + 1)) (73 + k)) (by assumption) (by assumption) (by assumption) (by omega) (fun i hi => ww_e)⟩, by rw [htQ]; exact hP9, va_K.moved hWQ.alike hK9, hD9⟩, hS.F htQ⟩) hS.2.2 dX12_walk_39
    · skip
      refine lv_if_ne (tgt := 26) hx hb dX12_walk_21 (by decide) (fun c_9 => absurd c_9 (by decide)) (fun _ => ?_)
      refine lv_iconst (v := (-1)) hx hb dX12_walk_24 (by decide) ?_
      rw [hQ]
      have hP9 := hP.sub (ws' := [(zo14irriiiiiirriirrrrlriiii m0 th aS aI im ac sp en wg op aB aT se dn aG aO aN aD bv aY rn kd nu tv), (zaI aS cS 901 fS)]) [0, 1] rfl
      have hD9 := hD.sub (ws' := [(zo14irriiiiiirriirrrrlriiii m0 th aS aI im ac sp en wg op aB aT se dn aG aO aN aD bv aY rn kd nu tv), (zaI aS cS 901 fS)]) [0, 1] (by decide) rfl
      have hK9 := hK.sub (tys' := [(cS, .int)]) [0] rfl
      exact W.iret (v := (-1)) hx hb hr (fun tQ htQ hWQ => ⟨⟨(-1), fS, rfl, ⟨by simp only [wkR]; (repeat' split) <;> simp_all, by simp only [wkN]; (repeat' split) <;> first | exact pk_us | exact zw | simp_all, fun i h1 h2 => by first | rfl | exact pk_un h1 | rw [pk_un h1, pk_un (by omega)], by first | exact ww_0 (by assumption) | exact ww_k (g := fun k => fS (73 + k)) (by assumption) (by first | exact Or.inr (Or.inr (by omega)) | exact (by assumption : x < 0 ∨ 7 < x).elim Or.inl (fun z9 => Or.inr (Or.inl z9))) | exact ww_u (g := fun k => fS (73 + k)) (g9 := fun k => upd (upd fS (73 + wk) x) 2 (nI (wk + 1)) (73 + k)) (by assumption) (by assumption) (by assumption) (by omega) (fun i hi => ww_e)⟩, by rw [htQ]; exact hP9, va_K.moved hWQ.alike hK9, hD9⟩, hS.F htQ⟩) hS.2.2 dX12_walk_25
  · skip
    refine lv_aload_n hx hb dX12_walk_5 rfl (lv_at hl 0 rfl) ?_
    refine va_get (D := (dC, dI)) (ci := 14) (v := .ref aS) (C := RX12) (T := TX12) (N := 23) hx hb hts kc_mWalk_0 hown hK hP 0 rfl rfl 1 (by decide) (hts (.fieldLink RX12 9 "MistHeapsModel" "s" "[I") kc_mWalk_1) (fun _ h9 => h9) rfl dX12_walk_6 ?_
    refine lv_iconst (v := 2) hx hb dX12_walk_9 (by decide) ?_
    refine lv_iconst (v := 0) hx hb dX12_walk_10 (by decide) ?_
    refine va_iast hx hb hK hP hD hS 1 0 rfl rfl (vp_in_nI (n := 2) (N := 901) (by omega) (by omega)) dX12_walk_11 (fun H locs hP hD hS => ?_)
    have hP : va_P (dC, dI) vwCl [(zo14irriiiiiirriirrrrlriiii m0 th aS aI im ac sp en wg op aB aT se dn aG aO aN aD bv aY rn kd nu tv), (zaI aS cS 901 (upd fS 2 0))] H := hP
    have hD : va_D A [(zo14irriiiiiirriirrrrlriiii m0 th aS aI im ac sp en wg op aB aT se dn aG aO aN aD bv aY rn kd nu tv), (zaI aS cS 901 (upd fS 2 0))] := hD
    refine lv_iconst (v := 0) hx hb dX12_walk_12 (by decide) ?_
    rw [hQ]
    have hP9 := hP.sub (ws' := [(zo14irriiiiiirriirrrrlriiii m0 th aS aI im ac sp en wg op aB aT se dn aG aO aN aD bv aY rn kd nu tv), (zaI aS cS 901 (upd fS 2 0))]) [0, 1] rfl
    have hD9 := hD.sub (ws' := [(zo14irriiiiiirriirrrrlriiii m0 th aS aI im ac sp en wg op aB aT se dn aG aO aN aD bv aY rn kd nu tv), (zaI aS cS 901 (upd fS 2 0))]) [0, 1] (by decide) rfl
    have hK9 := hK.sub (tys' := [(cS, .int)]) [0] rfl
    exact W.iret (v := 0) hx hb hr (fun tQ htQ hWQ => ⟨⟨0, (upd fS 2 0), rfl, ⟨by simp only [wkR]; (repeat' split) <;> simp_all, by simp only [wkN]; (repeat' split) <;> first | exact pk_us | exact zw | simp_all, fun i h1 h2 => by first | rfl | exact pk_un h1 | rw [pk_un h1, pk_un (by omega)], by first | exact ww_0 (by assumption) | exact ww_k (g := fun k => fS (73 + k)) (by assumption) (by first | exact Or.inr (Or.inr (by omega)) | exact (by assumption : x < 0 ∨ 7 < x).elim Or.inl (fun z9 => Or.inr (Or.inl z9))) | exact ww_u (g := fun k => fS (73 + k)) (g9 := fun k => upd (upd fS (73 + wk) x) 2 (nI (wk + 1)) (73 + k)) (by assumption) (by assumption) (by assumption) (by omega) (fun i hi => ww_e)⟩, by rw [htQ]; exact hP9, va_K.moved hWQ.alike hK9, hD9⟩, hS.F htQ⟩) hS.2.2 dX12_walk_13

theorem fd_bad {k : Nat} {x : Int32} (h : x < 0 ∨ 127 < x) : -2 = fdR k x := by
  rcases h with h | h
  · rw [fdR, if_pos h]
  · by_cases h2 : x < 0
    · rw [fdR, if_pos h2]
    · rw [fdR, if_neg h2, if_pos h]
theorem fd_full {k : Nat} {x : Int32} (h1 : ¬ x < 0) (h2 : ¬ 127 < x) (h : k = 100) : -4 = fdR k x := by rw [fdR, if_neg h1, if_neg h2, if_pos h]
theorem fd_ok {k : Nat} {x : Int32} (h1 : ¬ x < 0) (h2 : ¬ 127 < x) (h : ¬ k = 100) : nI (k + 1) = fdR k x := by rw [fdR, if_neg h1, if_neg h2, if_neg h]
noncomputable def ctR (n nh wz bz ts : Nat) (tl : List Nat) (x : Int32) : Int32 := if x = 0 then nI n else if x = 1 then nI nh else if x = 2 then nI wz else if x = 3 then nI bz else if x = 4 then nI ts else if x = 5 then nI tl.length else -1
section
variable {n nh wz bz ts : Nat} {tl : List Nat} {x : Int32}
theorem ct_0 (h : x = 0) : nI n = ctR n nh wz bz ts tl x := by rw [ctR, if_pos h]
theorem ct_1 (h : x = 1) : nI nh = ctR n nh wz bz ts tl x := by subst h; rw [ctR, if_neg (by decide), if_pos rfl]
theorem ct_2 (h : x = 2) : nI wz = ctR n nh wz bz ts tl x := by subst h; rw [ctR, if_neg (by decide), if_neg (by decide), if_pos rfl]
theorem ct_3 (h : x = 3) : nI bz = ctR n nh wz bz ts tl x := by subst h; rw [ctR, if_neg (by decide), if_neg (by decide), if_neg (by decide), if_pos rfl]
theorem ct_4 (h : x = 4) : nI ts = ctR n nh wz bz ts tl x := by subst h; rw [ctR, if_neg (by decide), if_neg (by decide), if_neg (by decide), if_neg (by decide), if_pos rfl]
theorem ct_5 (h : x = 5) : nI tl.length = ctR n nh wz bz ts tl x := by subst h; rw [ctR, if_neg (by decide), if_neg (by decide), if_neg (by decide), if_neg (by decide), if_neg (by decide), if_pos rfl]
theorem ct_n (h0 : ¬ x = 0) (h1 : ¬ x = 1) (h2 : ¬ x = 2) (h3 : ¬ x = 3) (h4 : ¬ x = 4) (h5 : ¬ x = 5) : -1 = ctR n nh wz bz ts tl x := by rw [ctR, if_neg h0, if_neg h1, if_neg h2, if_neg h3, if_neg h4, if_neg h5]
end

theorem kc_mFeed_0 : ∀ w ∈ wsX120, w ∈ wsX12_feed := fun w h => List.mem_cons_of_mem _ (gin_wsX120 w h)
theorem kc_mFeed_1 : (.fieldLink RX12 9 "MistHeapsModel" "s" "[I" : Cond) ∈ wsX12_feed := kc_of 1141 rfl rfl rfl
set_option maxHeartbeats 4000000 in
set_option maxRecDepth 100000 in
theorem c_mFeed (l : Launch) (dC : Nat → ClassId) (dI : Nat → Nat → Nat) (m0 aS aI aB aT aG aO aN aD aY : Nat) (th im ac sp en wg op se dn rn kd nu tv : Int32) (bv : Int64) (cS : ClassId) (fS : Nat → Int32) (tp : Nat) (x : Int32) (sz : Nat) (zt : fS 4 = nI tp) (ht : tp ≤ 100) : Met l yX12_feed wsX12_feed ({ frames := 1, cells := 0, slots := 0, locals := 22 } : Room) (va_Pc [.ref m0, .int x] (fun U => U.heap.size = sz ∧ va_P (dC, dI) vwCl [(zo14irriiiiiirriirrrrlriiii m0 th aS aI im ac sp en wg op aB aT se dn aG aO aN aD bv aY rn kd nu tv), (zaI aS cS 901 fS)] U.heap ∧ va_K (dC, dI) vwCl [(cS, .int)] U ∧ va_D (fun _ => True) [(zo14irriiiiiirriirrrrlriiii m0 th aS aI im ac sp en wg op aB aT se dn aG aO aN aD bv aY rn kd nu tv), (zaI aS cS 901 fS)])) (va_Qi (fun (r : Int32) (u : Nat → Int32) => match u with | fS9 => r = fdR tp x ∧ ((r < 0 ∧ fS9 = fS) ∨ (¬ r < 0 ∧ tp < 100 ∧ ¬ x < 0 ∧ ¬ 127 < x ∧ fS9 = upd (upd fS (91 + tp) x) 4 (nI (tp + 1))))) (fun (u : Nat → Int32) (t : State) => match u with | fS9 => va_P (dC, dI) vwCl [(zo14irriiiiiirriirrrrlriiii m0 th aS aI im ac sp en wg op aB aT se dn aG aO aN aD bv aY rn kd nu tv), (zaI aS cS 901 fS9)] t.heap ∧ va_K (dC, dI) vwCl [(cS, .int)] t ∧ va_D (va_A [(zo14irriiiiiirriirrrrlriiii m0 th aS aI im ac sp en wg op aB aT se dn aG aO aN aD bv aY rn kd nu tv), (zaI aS cS 901 fS)] sz) [(zo14irriiiiiirriirrrrlriiii m0 th aS aI im ac sp en wg op aB aT se dn aG aO aN aD bv aY rn kd nu tv), (zaI aS cS 901 fS9)]) (va_A [(zo14irriiiiiirriirrrrlriiii m0 th aS aI im ac sp en wg op aB aT se dn aG aO aN aD bv aY rn kd nu tv), (zaI aS cS 901 fS)] sz)) 0 0 (va_A [(zo14irriiiiiirriirrrrlriiii m0 th aS aI im ac sp en wg op aB aT se dn aG aO aN aD bv aY rn kd nu tv), (zaI aS cS 901 fS)] sz) := by
  refine met_ofQ (cc := cX12_feed) (maxL := 2) (ret := (some .int)) (by decide) rfl ?_
  intro p e s m args below meth c s₁ Q B hml hv hQ
  obtain ⟨rfl, hsz, hP, hK, hD0⟩ := hv
  have hx := B.exec
  have hb := B.bytes
  have hr := B.returns
  have hts := atoms_spec (ws := wsX12_feed) B.pre
  have hown : s.vm.findClass RX12 = some m.cls := findClass_of_methodNamed B.named
  have hlocks := B.notSynchronized
  subst hsz
  have hD := hD0.self (sz := s.heap.size)
  generalize hAe : va_A [(zo14irriiiiiirriirrrrlriiii m0 th aS aI im ac sp en wg op aB aT se dn aG aO aN aD bv aY rn kd nu tv), (zaI aS cS 901 fS)] s.heap.size = A at hD hQ ⊢
  have hA : ∀ q : Nat, s.heap.size ≤ q → A q := fun q h => by rw [← hAe]; exact Or.inr h
  have hS : va_S A s.heap s.heap [] := va_S.rf
  have hl := lv_entry [.ref m0, .int x] (n := 2) (Nat.le_of_ble_eq_true rfl)
  rw [lg_entry_eq]
  generalize (lg_sl [.ref m0, .int x] ++ List.replicate (2 - (lg_sl [.ref m0, .int x]).length) Slot.unset).toArray = ls at hl ⊢
  generalize hag : ([.ref m0, .int x] : List Value).toArray = args at hts hQ ⊢
  have hl : lv_has ls 2 [(0, .ref m0), (1, .int x)] := hl
  obtain ⟨H, hH⟩ : ∃ H : Heap, H = s.heap := ⟨_, rfl⟩
  rw [← hH] at hP
  rw [← hH]
  have hS : va_S A s.heap H [] := by rw [hH]; exact hS
  obtain ⟨locs, hlo⟩ : ∃ L : List Loc, L = [] := ⟨_, rfl⟩
  rw [← hlo] at hS
  rw [← hlo]
  clear hH hlo
  refine lv_iload_n hx hb dX12_feed_0 rfl (lv_at hl 1 rfl) ?_
  refine lv_iconst (v := 0) hx hb dX12_feed_1 (by decide) ?_
  refine lv_bipush (v := 127) hx hb dX12_feed_2 (by decide) ?_
  refine vp_callSi (va_runS (As := [.int x, .int 0, .int 127]) (rest := []) ⟨hx, hb, hml, hown, hts⟩ (c_in l dC dI x 0 127) (va_cwS 3 hts gX12_feed_X12_in rfl rfl rfl hd_yX12_in.2 ⟨Nat.le_of_ble_eq_true rfl, Nat.le_of_ble_eq_true rfl⟩) ⟨fun a U g mk q => ⟨q.1, trivial⟩, fun U hU hW => ⟨rfl, trivial⟩⟩ rfl rfl hl.1 rfl (lv_room (Nat.le_of_ble_eq_true rfl)) dX12_feed_4 ⟨Nat.le_of_ble_eq_true rfl, Nat.le_of_ble_eq_true rfl⟩).run (fun r_1 hw_2 => ?_)
  rcases hw_2 with ⟨rfl, h_3, h_4⟩ | ⟨rfl, h_5⟩
  · skip
    refine lv_if_ne (tgt := 13) hx hb dX12_feed_7 (by decide) (fun _ => ?_) (fun c_6 => absurd c_6 (by decide))
    refine lv_aload_n hx hb dX12_feed_13 rfl (lv_at hl 0 rfl) ?_
    refine va_get (D := (dC, dI)) (ci := 14) (v := .ref aS) (C := RX12) (T := TX12) (N := 23) hx hb hts kc_mFeed_0 hown hK hP 0 rfl rfl 1 (by decide) (hts (.fieldLink RX12 9 "MistHeapsModel" "s" "[I") kc_mFeed_1) (fun _ h9 => h9) rfl dX12_feed_14 ?_
    refine lv_iconst (v := 4) hx hb dX12_feed_17 (by decide) ?_
    refine va_iald hx hb hK hP 1 0 rfl rfl (vp_in_nI (n := 4) (N := 901) (by omega) (by omega)) dX12_feed_18 ?_
    refine qi_as (y := nI tp) ((show fS (4 : Int32).toNatClampNeg = fS 4 from rfl).trans (zt)) ?_
    refine lv_bipush (v := 100) hx hb dX12_feed_19 (by decide) ?_
    refine lv_icmp_ne (tgt := 27) hx hb dX12_feed_21 (by decide) (fun c_7 => ?_) (fun c_7 => ?_)
    · skip
      have c_7 : ¬ tp = 100 := fun q => c_7 ((nI_eq (a := tp) (b := 100) (by omega) (by omega)).mpr q)
      refine lv_aload_n hx hb dX12_feed_27 rfl (lv_at hl 0 rfl) ?_
      refine va_get (D := (dC, dI)) (ci := 14) (v := .ref aS) (C := RX12) (T := TX12) (N := 23) hx hb hts kc_mFeed_0 hown hK hP 0 rfl rfl 1 (by decide) (hts (.fieldLink RX12 9 "MistHeapsModel" "s" "[I") kc_mFeed_1) (fun _ h9 => h9) rfl dX12_feed_28 ?_
      refine lv_bipush (v := 91) hx hb dX12_feed_31 (by decide) ?_
      refine lv_aload_n hx hb dX12_feed_33 rfl (lv_at hl 0 rfl) ?_
      refine va_get (D := (dC, dI)) (ci := 14) (v := .ref aS) (C := RX12) (T := TX12) (N := 23) hx hb hts kc_mFeed_0 hown hK hP 0 rfl rfl 1 (by decide) (hts (.fieldLink RX12 9 "MistHeapsModel" "s" "[I") kc_mFeed_1) (fun _ h9 => h9) rfl dX12_feed_34 ?_
      refine lv_iconst (v := 4) hx hb dX12_feed_37 (by decide) ?_
      refine va_iald hx hb hK hP 1 0 rfl rfl (vp_in_nI (n := 4) (N := 901) (by omega) (by omega)) dX12_feed_38 ?_
      refine qi_as (y := nI tp) ((show fS (4 : Int32).toNatClampNeg = fS 4 from rfl).trans (zt)) ?_
      refine lv_iadd hx hb dX12_feed_39 ?_
      refine qi_as (y := nI (91 + tp)) (nI_add 91 tp) ?_
      refine lv_iload_n hx hb dX12_feed_40 rfl (lv_at hl 1 rfl) ?_
      refine va_iast hx hb hK hP hD hS 1 0 rfl rfl (vp_in_nI (n := 91 + tp) (N := 901) (by omega) (by omega)) dX12_feed_41 (fun H locs hP hD hS => ?_)
      rw [nI_clamp (n := 91 + tp) (by omega)] at hP hD
      have hP : va_P (dC, dI) vwCl [(zo14irriiiiiirriirrrrlriiii m0 th aS aI im ac sp en wg op aB aT se dn aG aO aN aD bv aY rn kd nu tv), (zaI aS cS 901 (upd fS (91 + tp) x))] H := hP
      have hD : va_D A [(zo14irriiiiiirriirrrrlriiii m0 th aS aI im ac sp en wg op aB aT se dn aG aO aN aD bv aY rn kd nu tv), (zaI aS cS 901 (upd fS (91 + tp) x))] := hD
      refine lv_aload_n hx hb dX12_feed_42 rfl (lv_at hl 0 rfl) ?_
      refine va_get (D := (dC, dI)) (ci := 14) (v := .ref aS) (C := RX12) (T := TX12) (N := 23) hx hb hts kc_mFeed_0 hown hK hP 0 rfl rfl 1 (by decide) (hts (.fieldLink RX12 9 "MistHeapsModel" "s" "[I") kc_mFeed_1) (fun _ h9 => h9) rfl dX12_feed_43 ?_
      refine lv_iconst (v := 4) hx hb dX12_feed_46 (by decide) ?_
      refine lv_dup2_11 hx hb dX12_feed_47 rfl rfl ?_
      refine va_iald hx hb hK hP 1 0 rfl rfl (vp_in_nI (n := 4) (N := 901) (by omega) (by omega)) dX12_feed_48 ?_
      refine qi_as (y := nI tp) ((show (upd fS (91 + tp) x) (4 : Int32).toNatClampNeg = (upd fS (91 + tp) x) 4 from rfl).trans ((pk_un (by omega)).trans zt)) ?_
      refine lv_iconst (v := 1) hx hb dX12_feed_49 (by decide) ?_
      refine lv_iadd hx hb dX12_feed_50 ?_
      refine qi_as (y := nI (tp + 1)) (nI_add tp 1) ?_
      refine va_iast hx hb hK hP hD hS 1 0 rfl rfl (vp_in_nI (n := 4) (N := 901) (by omega) (by omega)) dX12_feed_51 (fun H locs hP hD hS => ?_)
      have hP : va_P (dC, dI) vwCl [(zo14irriiiiiirriirrrrlriiii m0 th aS aI im ac sp en wg op aB aT se dn aG aO aN aD bv aY rn kd nu tv), (zaI aS cS 901 (upd (upd fS (91 + tp) x) 4 (nI (tp + 1))))] H := hP
      have hD : va_D A [(zo14irriiiiiirriirrrrlriiii m0 th aS aI im ac sp en wg op aB aT se dn aG aO aN aD bv aY rn kd nu tv), (zaI aS cS 901 (upd (upd fS (91 + tp) x) 4 (nI (tp + 1))))] := hD
      refine lv_aload_n hx hb dX12_feed_52 rfl (lv_at hl 0 rfl) ?_
      refine va_get (D := (dC, dI)) (ci := 14) (v := .ref aS) (C := RX12) (T := TX12) (N := 23) hx hb hts kc_mFeed_0 hown hK hP 0 rfl rfl 1 (by decide) (hts (.fieldLink RX12 9 "MistHeapsModel" "s" "[I") kc_mFeed_1) (fun _ h9 => h9) rfl dX12_feed_53 ?_
      refine lv_iconst (v := 4) hx hb dX12_feed_56 (by decide) ?_
      refine va_iald hx hb hK hP 1 0 rfl rfl (vp_in_nI (n := 4) (N := 901) (by omega) (by omega)) dX12_feed_57 ?_
      refine qi_as (y := nI (tp + 1)) (rfl) ?_
      rw [hQ]
      have hP9 := hP.sub (ws' := [(zo14irriiiiiirriirrrrlriiii m0 th aS aI im ac sp en wg op aB aT se dn aG aO aN aD bv aY rn kd nu tv), (zaI aS cS 901 (upd (upd fS (91 + tp) x) 4 (nI (tp + 1))))]) [0, 1] rfl
      have hD9 := hD.sub (ws' := [(zo14irriiiiiirriirrrrlriiii m0 th aS aI im ac sp en wg op aB aT se dn aG aO aN aD bv aY rn kd nu tv), (zaI aS cS 901 (upd (upd fS (91 + tp) x) 4 (nI (tp + 1))))]) [0, 1] (by decide) rfl
      have hK9 := hK.sub (tys' := [(cS, .int)]) [0] rfl
      exact W.iret (v := nI (tp + 1)) hx hb hr (fun tQ htQ hWQ => ⟨⟨(nI (tp + 1)), (upd (upd fS (91 + tp) x) 4 (nI (tp + 1))), rfl, ⟨fd_ok (by assumption) (by assumption) (by omega), Or.inr ⟨nI_pos (by omega), by omega, by assumption, by assumption, rfl⟩⟩, by rw [htQ]; exact hP9, va_K.moved hWQ.alike hK9, hD9⟩, hS.F htQ⟩) hS.2.2 dX12_feed_58
    · skip
      have c_7 : tp = 100 := (nI_eq (a := tp) (b := 100) (by omega) (by omega)).mp c_7
      refine lv_bipush (v := (-4)) hx hb dX12_feed_24 (by decide) ?_
      rw [hQ]
      have hP9 := hP.sub (ws' := [(zo14irriiiiiirriirrrrlriiii m0 th aS aI im ac sp en wg op aB aT se dn aG aO aN aD bv aY rn kd nu tv), (zaI aS cS 901 fS)]) [0, 1] rfl
      have hD9 := hD.sub (ws' := [(zo14irriiiiiirriirrrrlriiii m0 th aS aI im ac sp en wg op aB aT se dn aG aO aN aD bv aY rn kd nu tv), (zaI aS cS 901 fS)]) [0, 1] (by decide) rfl
      have hK9 := hK.sub (tys' := [(cS, .int)]) [0] rfl
      exact W.iret (v := (-4)) hx hb hr (fun tQ htQ hWQ => ⟨⟨(-4), fS, rfl, ⟨fd_full (by assumption) (by assumption) (by omega), Or.inl ⟨by decide, rfl⟩⟩, by rw [htQ]; exact hP9, va_K.moved hWQ.alike hK9, hD9⟩, hS.F htQ⟩) hS.2.2 dX12_feed_26
  · skip
    refine lv_if_ne (tgt := 13) hx hb dX12_feed_7 (by decide) (fun c_8 => absurd c_8 (by decide)) (fun _ => ?_)
    refine lv_bipush (v := (-2)) hx hb dX12_feed_10 (by decide) ?_
    rw [hQ]
    have hP9 := hP.sub (ws' := [(zo14irriiiiiirriirrrrlriiii m0 th aS aI im ac sp en wg op aB aT se dn aG aO aN aD bv aY rn kd nu tv), (zaI aS cS 901 fS)]) [0, 1] rfl
    have hD9 := hD.sub (ws' := [(zo14irriiiiiirriirrrrlriiii m0 th aS aI im ac sp en wg op aB aT se dn aG aO aN aD bv aY rn kd nu tv), (zaI aS cS 901 fS)]) [0, 1] (by decide) rfl
    have hK9 := hK.sub (tys' := [(cS, .int)]) [0] rfl
    exact W.iret (v := (-2)) hx hb hr (fun tQ htQ hWQ => ⟨⟨(-2), fS, rfl, ⟨fd_bad (by assumption), Or.inl ⟨by decide, rfl⟩⟩, by rw [htQ]; exact hP9, va_K.moved hWQ.alike hK9, hD9⟩, hS.F htQ⟩) hS.2.2 dX12_feed_12

theorem kc_mBook_0 : ∀ w ∈ wsX120, w ∈ wsX12_book := fun w h => List.mem_cons_of_mem _ (gin_wsX120 w h)
theorem kc_mBook_1 : (.fieldLink RX12 9 "MistHeapsModel" "s" "[I" : Cond) ∈ wsX12_book := kc_of 1141 rfl rfl rfl
set_option maxHeartbeats 4000000 in
set_option maxRecDepth 100000 in
theorem c_mBook (l : Launch) (dC : Nat → ClassId) (dI : Nat → Nat → Nat) (m0 aS aI aB aT aG aO aN aD aY : Nat) (th im ac sp en wg op se dn rn kd nu tv : Int32) (bv : Int64) (cS : ClassId) (fS : Nat → Int32) (n kb : Nat) (x : Int32) (sz : Nat) (zn : fS 0 = nI n) (hn : n ≤ 8) (zk : fS 3 = nI kb) (hk12 : kb ≤ 12) (zb : ∀ i, i < 12 → ∃ j : Nat, j < 8 ∧ fS (79 + i) = nI j) : Met l yX12_book wsX12_book ({ frames := 2, cells := 0, slots := 0, locals := 43 } : Room) (va_Pc [.ref m0, .int x] (fun U => U.heap.size = sz ∧ va_P (dC, dI) vwCl [(zo14irriiiiiirriirrrrlriiii m0 th aS aI im ac sp en wg op aB aT se dn aG aO aN aD bv aY rn kd nu tv), (zaI aS cS 901 fS)] U.heap ∧ va_K (dC, dI) vwCl [(cS, .int)] U ∧ va_D (fun _ => True) [(zo14irriiiiiirriirrrrlriiii m0 th aS aI im ac sp en wg op aB aT se dn aG aO aN aD bv aY rn kd nu tv), (zaI aS cS 901 fS)])) (va_Qi (fun (r : Int32) (u : Nat → Int32) => match u with | fS9 => r = bkR n kb x ∧ fS9 3 = nI (bkN n kb x) ∧ (∀ i, i < 12 → ∃ j : Nat, j < 8 ∧ fS9 (79 + i) = nI j) ∧ ∀ i, i ≠ 3 → ¬ (79 ≤ i ∧ i < 91) → fS9 i = fS i) (fun (u : Nat → Int32) (t : State) => match u with | fS9 => va_P (dC, dI) vwCl [(zo14irriiiiiirriirrrrlriiii m0 th aS aI im ac sp en wg op aB aT se dn aG aO aN aD bv aY rn kd nu tv), (zaI aS cS 901 fS9)] t.heap ∧ va_K (dC, dI) vwCl [(cS, .int)] t ∧ va_D (va_A [(zo14irriiiiiirriirrrrlriiii m0 th aS aI im ac sp en wg op aB aT se dn aG aO aN aD bv aY rn kd nu tv), (zaI aS cS 901 fS)] sz) [(zo14irriiiiiirriirrrrlriiii m0 th aS aI im ac sp en wg op aB aT se dn aG aO aN aD bv aY rn kd nu tv), (zaI aS cS 901 fS9)]) (va_A [(zo14irriiiiiirriirrrrlriiii m0 th aS aI im ac sp en wg op aB aT se dn aG aO aN aD bv aY rn kd nu tv), (zaI aS cS 901 fS)] sz)) 0 0 (va_A [(zo14irriiiiiirriirrrrlriiii m0 th aS aI im ac sp en wg op aB aT se dn aG aO aN aD bv aY rn kd nu tv), (zaI aS cS 901 fS)] sz) := by
  refine met_ofQ (cc := cX12_book) (maxL := 2) (ret := (some .int)) (by decide) rfl ?_
  intro p e s m args below meth c s₁ Q B hml hv hQ
  obtain ⟨rfl, hsz, hP, hK, hD0⟩ := hv
  have hx := B.exec
  have hb := B.bytes
  have hr := B.returns
  have hts := atoms_spec (ws := wsX12_book) B.pre
  have hown : s.vm.findClass RX12 = some m.cls := findClass_of_methodNamed B.named
  have hlocks := B.notSynchronized
  subst hsz
  have hD := hD0.self (sz := s.heap.size)
  generalize hAe : va_A [(zo14irriiiiiirriirrrrlriiii m0 th aS aI im ac sp en wg op aB aT se dn aG aO aN aD bv aY rn kd nu tv), (zaI aS cS 901 fS)] s.heap.size = A at hD hQ ⊢
  have hA : ∀ q : Nat, s.heap.size ≤ q → A q := fun q h => by rw [← hAe]; exact Or.inr h
  have hS : va_S A s.heap s.heap [] := va_S.rf
  have hl := lv_entry [.ref m0, .int x] (n := 2) (Nat.le_of_ble_eq_true rfl)
  rw [lg_entry_eq]
  generalize (lg_sl [.ref m0, .int x] ++ List.replicate (2 - (lg_sl [.ref m0, .int x]).length) Slot.unset).toArray = ls at hl ⊢
  generalize hag : ([.ref m0, .int x] : List Value).toArray = args at hts hQ ⊢
  have hl : lv_has ls 2 [(0, .ref m0), (1, .int x)] := hl
  obtain ⟨H, hH⟩ : ∃ H : Heap, H = s.heap := ⟨_, rfl⟩
  rw [← hH] at hP
  rw [← hH]
  have hS : va_S A s.heap H [] := by rw [hH]; exact hS
  obtain ⟨locs, hlo⟩ : ∃ L : List Loc, L = [] := ⟨_, rfl⟩
  rw [← hlo] at hS
  rw [← hlo]
  clear hH hlo
  refine lv_iload_n hx hb dX12_book_0 rfl (lv_at hl 1 rfl) ?_
  refine lv_iconst (v := (-1)) hx hb dX12_book_1 (by decide) ?_
  refine lv_icmp_ne (tgt := 14) hx hb dX12_book_2 (by decide) (fun c_1 => ?_) (fun c_1 => ?_)
  · skip
    refine lv_aload_n hx hb dX12_book_14 rfl (lv_at hl 0 rfl) ?_
    refine lv_iload_n hx hb dX12_book_15 rfl (lv_at hl 1 rfl) ?_
    have hPc := hP.sub (ws' := [(zo14irriiiiiirriirrrrlriiii m0 th aS aI im ac sp en wg op aB aT se dn aG aO aN aD bv aY rn kd nu tv), (zaI aS cS 901 fS)]) [0, 1] rfl
    have hKc := hK.sub (tys' := [(cS, .int)]) [0] rfl
    refine vp_callSi (va_runV (As := [.int x]) (rest := []) ⟨hx, hb, hml, hown, hts⟩ (c_isHeap l dC dI m0 aS aI aB aT aG aO aN aD aY th im ac sp en wg op se dn rn kd nu tv bv cS fS n x (zn) (hn)) (cwV 1 hts gX12_book_X12_isHeap rfl rfl rfl hd_yX12_isHeap ⟨Nat.le_of_ble_eq_true rfl, Nat.le_of_ble_eq_true rfl⟩) ⟨fun a U g mk q => by obtain ⟨q0, qP, qK⟩ := q; exact ⟨q0, mvP g mk a qP, mvK g mk a qK⟩, va_recv hK hP (ci := 14) (q := (RX12, TX12, 23)) (q0 := 0) rfl rfl, fun U hU hW => ⟨rfl, by rw [hU]; exact hPc, va_K.moved hW.alike hKc⟩⟩ rfl rfl hl.1 rfl (lv_room (Nat.le_of_ble_eq_true rfl)) dX12_book_16 ⟨Nat.le_of_ble_eq_true rfl, Nat.le_of_ble_eq_true rfl⟩).run (fun r_2 hw_3 => ?_)
    rcases hw_3 with ⟨rfl, j_4, hj_5, rfl⟩ | ⟨rfl, h_6⟩
    · skip
      refine lv_if_ne (tgt := 24) hx hb dX12_book_19 (by decide) (fun _ => ?_) (fun c_7 => absurd c_7 (by decide))
      refine lv_aload_n hx hb dX12_book_24 rfl (lv_at hl 0 rfl) ?_
      refine va_get (D := (dC, dI)) (ci := 14) (v := .ref aS) (C := RX12) (T := TX12) (N := 23) hx hb hts kc_mBook_0 hown hK hP 0 rfl rfl 1 (by decide) (hts (.fieldLink RX12 9 "MistHeapsModel" "s" "[I") kc_mBook_1) (fun _ h9 => h9) rfl dX12_book_25 ?_
      refine lv_iconst (v := 3) hx hb dX12_book_28 (by decide) ?_
      refine va_iald hx hb hK hP 1 0 rfl rfl (vp_in_nI (n := 3) (N := 901) (by omega) (by omega)) dX12_book_29 ?_
      refine qi_as (y := nI kb) ((show fS (3 : Int32).toNatClampNeg = fS 3 from rfl).trans (zk)) ?_
      refine lv_bipush (v := 12) hx hb dX12_book_30 (by decide) ?_
      refine lv_icmp_ne (tgt := 38) hx hb dX12_book_32 (by decide) (fun c_8 => ?_) (fun c_8 => ?_)
      · skip
        have c_8 : ¬ kb = 12 := fun q => c_8 ((nI_eq (a := kb) (b := 12) (by omega) (by omega)).mpr q)
        refine lv_aload_n hx hb dX12_book_38 rfl (lv_at hl 0 rfl) ?_
        refine va_get (D := (dC, dI)) (ci := 14) (v := .ref aS) (C := RX12) (T := TX12) (N := 23) hx hb hts kc_mBook_0 hown hK hP 0 rfl rfl 1 (by decide) (hts (.fieldLink RX12 9 "MistHeapsModel" "s" "[I") kc_mBook_1) (fun _ h9 => h9) rfl dX12_book_39 ?_
        refine lv_bipush (v := 79) hx hb dX12_book_42 (by decide) ?_
        refine lv_aload_n hx hb dX12_book_44 rfl (lv_at hl 0 rfl) ?_
        refine va_get (D := (dC, dI)) (ci := 14) (v := .ref aS) (C := RX12) (T := TX12) (N := 23) hx hb hts kc_mBook_0 hown hK hP 0 rfl rfl 1 (by decide) (hts (.fieldLink RX12 9 "MistHeapsModel" "s" "[I") kc_mBook_1) (fun _ h9 => h9) rfl dX12_book_45 ?_
        refine lv_iconst (v := 3) hx hb dX12_book_48 (by decide) ?_
        refine va_iald hx hb hK hP 1 0 rfl rfl (vp_in_nI (n := 3) (N := 901) (by omega) (by omega)) dX12_book_49 ?_
        refine qi_as (y := nI kb) ((show fS (3 : Int32).toNatClampNeg = fS 3 from rfl).trans (zk)) ?_
        refine lv_iadd hx hb dX12_book_50 ?_
        refine qi_as (y := nI (79 + kb)) (nI_add 79 kb) ?_
        refine lv_iload_n hx hb dX12_book_51 rfl (lv_at hl 1 rfl) ?_
        refine va_iast hx hb hK hP hD hS 1 0 rfl rfl (vp_in_nI (n := 79 + kb) (N := 901) (by omega) (by omega)) dX12_book_52 (fun H locs hP hD hS => ?_)
        rw [nI_clamp (n := 79 + kb) (by omega)] at hP hD
        have hP : va_P (dC, dI) vwCl [(zo14irriiiiiirriirrrrlriiii m0 th aS aI im ac sp en wg op aB aT se dn aG aO aN aD bv aY rn kd nu tv), (zaI aS cS 901 (upd fS (79 + kb) (nI j_4)))] H := hP
        have hD : va_D A [(zo14irriiiiiirriirrrrlriiii m0 th aS aI im ac sp en wg op aB aT se dn aG aO aN aD bv aY rn kd nu tv), (zaI aS cS 901 (upd fS (79 + kb) (nI j_4)))] := hD
        refine lv_aload_n hx hb dX12_book_53 rfl (lv_at hl 0 rfl) ?_
        refine va_get (D := (dC, dI)) (ci := 14) (v := .ref aS) (C := RX12) (T := TX12) (N := 23) hx hb hts kc_mBook_0 hown hK hP 0 rfl rfl 1 (by decide) (hts (.fieldLink RX12 9 "MistHeapsModel" "s" "[I") kc_mBook_1) (fun _ h9 => h9) rfl dX12_book_54 ?_
        refine lv_iconst (v := 3) hx hb dX12_book_57 (by decide) ?_
        refine lv_dup2_11 hx hb dX12_book_58 rfl rfl ?_
        refine va_iald hx hb hK hP 1 0 rfl rfl (vp_in_nI (n := 3) (N := 901) (by omega) (by omega)) dX12_book_59 ?_
        refine qi_as (y := nI kb) ((show (upd fS (79 + kb) (nI j_4)) (3 : Int32).toNatClampNeg = (upd fS (79 + kb) (nI j_4)) 3 from rfl).trans ((pk_un (by omega)).trans zk)) ?_
        refine lv_iconst (v := 1) hx hb dX12_book_60 (by decide) ?_
        refine lv_iadd hx hb dX12_book_61 ?_
        refine qi_as (y := nI (kb + 1)) (nI_add kb 1) ?_
        refine va_iast hx hb hK hP hD hS 1 0 rfl rfl (vp_in_nI (n := 3) (N := 901) (by omega) (by omega)) dX12_book_62 (fun H locs hP hD hS => ?_)
        have hP : va_P (dC, dI) vwCl [(zo14irriiiiiirriirrrrlriiii m0 th aS aI im ac sp en wg op aB aT se dn aG aO aN aD bv aY rn kd nu tv), (zaI aS cS 901 (upd (upd fS (79 + kb) (nI j_4)) 3 (nI (kb + 1))))] H := hP
        have hD : va_D A [(zo14irriiiiiirriirrrrlriiii m0 th aS aI im ac sp en wg op aB aT se dn aG aO aN aD bv aY rn kd nu tv), (zaI aS cS 901 (upd (upd fS (79 + kb) (nI j_4)) 3 (nI (kb + 1))))] := hD
        refine lv_aload_n hx hb dX12_book_63 rfl (lv_at hl 0 rfl) ?_
        refine va_get (D := (dC, dI)) (ci := 14) (v := .ref aS) (C := RX12) (T := TX12) (N := 23) hx hb hts kc_mBook_0 hown hK hP 0 rfl rfl 1 (by decide) (hts (.fieldLink RX12 9 "MistHeapsModel" "s" "[I") kc_mBook_1) (fun _ h9 => h9) rfl dX12_book_64 ?_
        refine lv_iconst (v := 3) hx hb dX12_book_67 (by decide) ?_
        refine va_iald hx hb hK hP 1 0 rfl rfl (vp_in_nI (n := 3) (N := 901) (by omega) (by omega)) dX12_book_68 ?_
        refine qi_as (y := nI (kb + 1)) (rfl) ?_
        rw [hQ]
        have hP9 := hP.sub (ws' := [(zo14irriiiiiirriirrrrlriiii m0 th aS aI im ac sp en wg op aB aT se dn aG aO aN aD bv aY rn kd nu tv), (zaI aS cS 901 (upd (upd fS (79 + kb) (nI j_4)) 3 (nI (kb + 1))))]) [0, 1] rfl
        have hD9 := hD.sub (ws' := [(zo14irriiiiiirriirrrrlriiii m0 th aS aI im ac sp en wg op aB aT se dn aG aO aN aD bv aY rn kd nu tv), (zaI aS cS 901 (upd (upd fS (79 + kb) (nI j_4)) 3 (nI (kb + 1))))]) [0, 1] (by decide) rfl
        have hK9 := hK.sub (tys' := [(cS, .int)]) [0] rfl
        exact W.iret (v := nI (kb + 1)) hx hb hr (fun tQ htQ hWQ => ⟨⟨(nI (kb + 1)), (upd (upd fS (79 + kb) (nI j_4)) 3 (nI (kb + 1))), rfl, ⟨(bo_one (n := n) (bz := kb) (j := j_4) hn (by omega) (by omega)).1, by rw [← (bo_one (n := n) (bz := kb) (j := j_4) hn (by omega) (by omega)).2]; exact pk_us, (by refine bk_up zb ?_; omega), fun i h1 h2 => by first | rfl | exact pk_un h1 | rw [pk_un h1, pk_un (by omega)]⟩, by rw [htQ]; exact hP9, va_K.moved hWQ.alike hK9, hD9⟩, hS.F htQ⟩) hS.2.2 dX12_book_69
      · skip
        have c_8 : kb = 12 := (nI_eq (a := kb) (b := 12) (by omega) (by omega)).mp c_8
        refine lv_bipush (v := (-4)) hx hb dX12_book_35 (by decide) ?_
        rw [hQ]
        have hP9 := hP.sub (ws' := [(zo14irriiiiiirriirrrrlriiii m0 th aS aI im ac sp en wg op aB aT se dn aG aO aN aD bv aY rn kd nu tv), (zaI aS cS 901 fS)]) [0, 1] rfl
        have hD9 := hD.sub (ws' := [(zo14irriiiiiirriirrrrlriiii m0 th aS aI im ac sp en wg op aB aT se dn aG aO aN aD bv aY rn kd nu tv), (zaI aS cS 901 fS)]) [0, 1] (by decide) rfl
        have hK9 := hK.sub (tys' := [(cS, .int)]) [0] rfl
        exact W.iret (v := (-4)) hx hb hr (fun tQ htQ hWQ => ⟨⟨(-4), fS, rfl, ⟨(bo_full (n := n) (bz := kb) (j := j_4) hn (by omega) (by omega)).1, by rw [← (bo_full (n := n) (bz := kb) (j := j_4) hn (by omega) (by omega)).2]; exact zk, zb, fun i h1 h2 => by first | rfl | exact pk_un h1 | rw [pk_un h1, pk_un (by omega)]⟩, by rw [htQ]; exact hP9, va_K.moved hWQ.alike hK9, hD9⟩, hS.F htQ⟩) hS.2.2 dX12_book_37
    · skip
      refine lv_if_ne (tgt := 24) hx hb dX12_book_19 (by decide) (fun c_9 => absurd c_9 (by decide)) (fun _ => ?_)
      refine lv_iconst (v := (-1)) hx hb dX12_book_22 (by decide) ?_
      rw [hQ]
      have hP9 := hP.sub (ws' := [(zo14irriiiiiirriirrrrlriiii m0 th aS aI im ac sp en wg op aB aT se dn aG aO aN aD bv aY rn kd nu tv), (zaI aS cS 901 fS)]) [0, 1] rfl
      have hD9 := hD.sub (ws' := [(zo14irriiiiiirriirrrrlriiii m0 th aS aI im ac sp en wg op aB aT se dn aG aO aN aD bv aY rn kd nu tv), (zaI aS cS 901 fS)]) [0, 1] (by decide) rfl
      have hK9 := hK.sub (tys' := [(cS, .int)]) [0] rfl
      exact W.iret (v := (-1)) hx hb hr (fun tQ htQ hWQ => ⟨⟨(-1), fS, rfl, ⟨(bo_none (n := n) (bz := kb) (x := x) (by assumption) (by assumption)).1, by rw [← (bo_none (n := n) (bz := kb) (x := x) (by assumption) (by assumption)).2]; exact zk, zb, fun i h1 h2 => by first | rfl | exact pk_un h1 | rw [pk_un h1, pk_un (by omega)]⟩, by rw [htQ]; exact hP9, va_K.moved hWQ.alike hK9, hD9⟩, hS.F htQ⟩) hS.2.2 dX12_book_23
  · skip
    refine lv_aload_n hx hb dX12_book_5 rfl (lv_at hl 0 rfl) ?_
    refine va_get (D := (dC, dI)) (ci := 14) (v := .ref aS) (C := RX12) (T := TX12) (N := 23) hx hb hts kc_mBook_0 hown hK hP 0 rfl rfl 1 (by decide) (hts (.fieldLink RX12 9 "MistHeapsModel" "s" "[I") kc_mBook_1) (fun _ h9 => h9) rfl dX12_book_6 ?_
    refine lv_iconst (v := 3) hx hb dX12_book_9 (by decide) ?_
    refine lv_iconst (v := 0) hx hb dX12_book_10 (by decide) ?_
    refine va_iast hx hb hK hP hD hS 1 0 rfl rfl (vp_in_nI (n := 3) (N := 901) (by omega) (by omega)) dX12_book_11 (fun H locs hP hD hS => ?_)
    have hP : va_P (dC, dI) vwCl [(zo14irriiiiiirriirrrrlriiii m0 th aS aI im ac sp en wg op aB aT se dn aG aO aN aD bv aY rn kd nu tv), (zaI aS cS 901 (upd fS 3 0))] H := hP
    have hD : va_D A [(zo14irriiiiiirriirrrrlriiii m0 th aS aI im ac sp en wg op aB aT se dn aG aO aN aD bv aY rn kd nu tv), (zaI aS cS 901 (upd fS 3 0))] := hD
    refine lv_iconst (v := 0) hx hb dX12_book_12 (by decide) ?_
    rw [hQ]
    have hP9 := hP.sub (ws' := [(zo14irriiiiiirriirrrrlriiii m0 th aS aI im ac sp en wg op aB aT se dn aG aO aN aD bv aY rn kd nu tv), (zaI aS cS 901 (upd fS 3 0))]) [0, 1] rfl
    have hD9 := hD.sub (ws' := [(zo14irriiiiiirriirrrrlriiii m0 th aS aI im ac sp en wg op aB aT se dn aG aO aN aD bv aY rn kd nu tv), (zaI aS cS 901 (upd fS 3 0))]) [0, 1] (by decide) rfl
    have hK9 := hK.sub (tys' := [(cS, .int)]) [0] rfl
    exact W.iret (v := 0) hx hb hr (fun tQ htQ hWQ => ⟨⟨0, (upd fS 3 0), rfl, ⟨(bo_clear (n := n) (bz := kb) (x := x) (by assumption)).1, by rw [← (bo_clear (n := n) (bz := kb) (x := x) (by assumption)).2]; exact pk_us, bk_0 zb, fun i h1 h2 => by first | rfl | exact pk_un h1 | rw [pk_un h1, pk_un (by omega)]⟩, by rw [htQ]; exact hP9, va_K.moved hWQ.alike hK9, hD9⟩, hS.F htQ⟩) hS.2.2 dX12_book_13

noncomputable def stR (mi sn x y : Int32) : Int32 := if x < 0 then -1 else if 1 < x then -1 else if y < 0 then -2 else if 9 < y then -2 else if x = 0 then mi else sn
noncomputable def stM (mi x y : Int32) : Int32 := if x < 0 then mi else if 1 < x then mi else if y < 0 then mi else if 9 < y then mi else if x = 0 then y else mi
noncomputable def stN (sn x y : Int32) : Int32 := if x < 0 then sn else if 1 < x then sn else if y < 0 then sn else if 9 < y then sn else if x = 0 then sn else y
theorem st_none {mi sn x y : Int32} (h : x < 0 ∨ 1 < x) : -1 = stR mi sn x y ∧ mi = stM mi x y ∧ sn = stN sn x y := by
  rcases h with h | h <;> exact ⟨by simp [stR, h], by simp [stM, h], by simp [stN, h]⟩
theorem st_bad {mi sn x y : Int32} (h1 : ¬ x < 0) (h2 : ¬ 1 < x) (h : y < 0 ∨ 9 < y) : -2 = stR mi sn x y ∧ mi = stM mi x y ∧ sn = stN sn x y := by
  rcases h with h | h <;> exact ⟨by simp [stR, h1, h2, h], by simp [stM, h], by simp [stN, h]⟩
theorem st_0 {mi sn y : Int32} (h1 : ¬ y < 0) (h2 : ¬ 9 < y) : mi = stR mi sn 0 y ∧ y = stM mi 0 y ∧ sn = stN sn 0 y := by
  refine ⟨?_, ?_, ?_⟩
  · rw [stR, if_neg (by decide), if_neg (by decide), if_neg h1, if_neg h2, if_pos rfl]
  · rw [stM, if_neg (by decide), if_neg (by decide), if_neg h1, if_neg h2, if_pos rfl]
  · rw [stN, if_neg (by decide), if_neg (by decide), if_neg h1, if_neg h2, if_pos rfl]
theorem st_1 {mi sn y : Int32} (h1 : ¬ y < 0) (h2 : ¬ 9 < y) : sn = stR mi sn 1 y ∧ mi = stM mi 1 y ∧ y = stN sn 1 y := by
  refine ⟨?_, ?_, ?_⟩
  · rw [stR, if_neg (by decide), if_neg (by decide), if_neg h1, if_neg h2, if_neg (by decide)]
  · rw [stM, if_neg (by decide), if_neg (by decide), if_neg h1, if_neg h2, if_neg (by decide)]
  · rw [stN, if_neg (by decide), if_neg (by decide), if_neg h1, if_neg h2, if_neg (by decide)]
theorem st_badj {mi sn y : Int32} {j : Nat} (hj : j ≤ 1) (h : y < 0 ∨ 9 < y) : -2 = stR mi sn (nI j) y ∧ mi = stM mi (nI j) y ∧ sn = stN sn (nI j) y := by
  have e : j = 0 ∨ j = 1 := by omega
  rcases e with rfl | rfl
  · exact st_bad (by decide) (by decide) h
  · exact st_bad (by decide) (by decide) h
theorem st_set {f : Nat → Int32} {j : Nat} {y : Int32} (hj : j ≤ 1) (h1 : ¬ y < 0) (h2 : ¬ 9 < y) : f (6 + j) = stR (f 6) (f 7) (nI j) y ∧ upd f (6 + j) y 6 = stM (f 6) (nI j) y ∧ upd f (6 + j) y 7 = stN (f 7) (nI j) y := by
  have e : j = 0 ∨ j = 1 := by omega
  rcases e with rfl | rfl
  · exact ⟨(st_0 (mi := f 6) (sn := f 7) h1 h2).1, pk_us.trans (st_0 (mi := f 6) (sn := f 7) h1 h2).2.1, (pk_un (by omega)).trans (st_0 (mi := f 6) (sn := f 7) h1 h2).2.2⟩
  · exact ⟨(st_1 (mi := f 6) (sn := f 7) h1 h2).1, (pk_un (by omega)).trans (st_1 (mi := f 6) (sn := f 7) h1 h2).2.1, pk_us.trans (st_1 (mi := f 6) (sn := f 7) h1 h2).2.2⟩
theorem two01 {x : Int32} (h1 : ¬ x < 0) (h2 : ¬ 1 < x) : x = 0 ∨ x = 1 := by
  obtain ⟨j, hj, rfl⟩ := nI_of2 (n := 1) (M := 1) rfl h1 (Int32.not_lt.mp h2)
  have e : j = 0 ∨ j = 1 := by omega
  rcases e with rfl | rfl
  · exact Or.inl rfl
  · exact Or.inr rfl

theorem kc_mSet_0 : ∀ w ∈ wsX120, w ∈ wsX12_set := fun w h => List.mem_cons_of_mem _ (gin_wsX120 w h)
theorem kc_mSet_1 : (.fieldLink RX12 9 "MistHeapsModel" "s" "[I" : Cond) ∈ wsX12_set := kc_of 1141 rfl rfl rfl
set_option maxHeartbeats 4000000 in
set_option maxRecDepth 100000 in
theorem c_mSet (l : Launch) (dC : Nat → ClassId) (dI : Nat → Nat → Nat) (m0 aS aI aB aT aG aO aN aD aY : Nat) (th im ac sp en wg op se dn rn kd nu tv : Int32) (bv : Int64) (cS : ClassId) (fS : Nat → Int32) (x y : Int32) (sz : Nat) : Met l yX12_set wsX12_set ({ frames := 1, cells := 0, slots := 0, locals := 22 } : Room) (va_Pc [.ref m0, .int x, .int y] (fun U => U.heap.size = sz ∧ va_P (dC, dI) vwCl [(zo14irriiiiiirriirrrrlriiii m0 th aS aI im ac sp en wg op aB aT se dn aG aO aN aD bv aY rn kd nu tv), (zaI aS cS 901 fS)] U.heap ∧ va_K (dC, dI) vwCl [(cS, .int)] U ∧ va_D (fun _ => True) [(zo14irriiiiiirriirrrrlriiii m0 th aS aI im ac sp en wg op aB aT se dn aG aO aN aD bv aY rn kd nu tv), (zaI aS cS 901 fS)])) (va_Qi (fun (r : Int32) (u : Nat → Int32) => match u with | fS9 => (r = stR (fS 6) (fS 7) x y ∧ fS9 6 = stM (fS 6) x y ∧ fS9 7 = stN (fS 7) x y) ∧ ∀ i, i ≠ 6 → i ≠ 7 → fS9 i = fS i) (fun (u : Nat → Int32) (t : State) => match u with | fS9 => va_P (dC, dI) vwCl [(zo14irriiiiiirriirrrrlriiii m0 th aS aI im ac sp en wg op aB aT se dn aG aO aN aD bv aY rn kd nu tv), (zaI aS cS 901 fS9)] t.heap ∧ va_K (dC, dI) vwCl [(cS, .int)] t ∧ va_D (va_A [(zo14irriiiiiirriirrrrlriiii m0 th aS aI im ac sp en wg op aB aT se dn aG aO aN aD bv aY rn kd nu tv), (zaI aS cS 901 fS)] sz) [(zo14irriiiiiirriirrrrlriiii m0 th aS aI im ac sp en wg op aB aT se dn aG aO aN aD bv aY rn kd nu tv), (zaI aS cS 901 fS9)]) (va_A [(zo14irriiiiiirriirrrrlriiii m0 th aS aI im ac sp en wg op aB aT se dn aG aO aN aD bv aY rn kd nu tv), (zaI aS cS 901 fS)] sz)) 0 0 (va_A [(zo14irriiiiiirriirrrrlriiii m0 th aS aI im ac sp en wg op aB aT se dn aG aO aN aD bv aY rn kd nu tv), (zaI aS cS 901 fS)] sz) := by
  refine met_ofQ (cc := cX12_set) (maxL := 4) (ret := (some .int)) (by decide) rfl ?_
  intro p e s m args below meth c s₁ Q B hml hv hQ
  obtain ⟨rfl, hsz, hP, hK, hD0⟩ := hv
  have hx := B.exec
  have hb := B.bytes
  have hr := B.returns
  have hts := atoms_spec (ws := wsX12_set) B.pre
  have hown : s.vm.findClass RX12 = some m.cls := findClass_of_methodNamed B.named
  have hlocks := B.notSynchronized
  subst hsz
  have hD := hD0.self (sz := s.heap.size)
  generalize hAe : va_A [(zo14irriiiiiirriirrrrlriiii m0 th aS aI im ac sp en wg op aB aT se dn aG aO aN aD bv aY rn kd nu tv), (zaI aS cS 901 fS)] s.heap.size = A at hD hQ ⊢
  have hA : ∀ q : Nat, s.heap.size ≤ q → A q := fun q h => by rw [← hAe]; exact Or.inr h
  have hS : va_S A s.heap s.heap [] := va_S.rf
  have hl := lv_entry [.ref m0, .int x, .int y] (n := 4) (Nat.le_of_ble_eq_true rfl)
  rw [lg_entry_eq]
  generalize (lg_sl [.ref m0, .int x, .int y] ++ List.replicate (4 - (lg_sl [.ref m0, .int x, .int y]).length) Slot.unset).toArray = ls at hl ⊢
  generalize hag : ([.ref m0, .int x, .int y] : List Value).toArray = args at hts hQ ⊢
  have hl : lv_has ls 4 [(0, .ref m0), (1, .int x), (2, .int y)] := hl
  obtain ⟨H, hH⟩ : ∃ H : Heap, H = s.heap := ⟨_, rfl⟩
  rw [← hH] at hP
  rw [← hH]
  have hS : va_S A s.heap H [] := by rw [hH]; exact hS
  obtain ⟨locs, hlo⟩ : ∃ L : List Loc, L = [] := ⟨_, rfl⟩
  rw [← hlo] at hS
  rw [← hlo]
  clear hH hlo
  refine lv_iload_n hx hb dX12_set_0 rfl (lv_at hl 1 rfl) ?_
  refine lv_iconst (v := 0) hx hb dX12_set_1 (by decide) ?_
  refine lv_iconst (v := 1) hx hb dX12_set_2 (by decide) ?_
  refine vp_callSi (va_runS (As := [.int x, .int 0, .int 1]) (rest := []) ⟨hx, hb, hml, hown, hts⟩ (c_in l dC dI x 0 1) (va_cwS 3 hts gX12_set_X12_in rfl rfl rfl hd_yX12_in.2 ⟨Nat.le_of_ble_eq_true rfl, Nat.le_of_ble_eq_true rfl⟩) ⟨fun a U g mk q => ⟨q.1, trivial⟩, fun U hU hW => ⟨rfl, trivial⟩⟩ rfl rfl hl.1 rfl (lv_room (Nat.le_of_ble_eq_true rfl)) dX12_set_3 ⟨Nat.le_of_ble_eq_true rfl, Nat.le_of_ble_eq_true rfl⟩).run (fun r_1 hw_2 => ?_)
  rcases hw_2 with ⟨rfl, h_3, h_4⟩ | ⟨rfl, h_5⟩
  · skip
    obtain ⟨j_6, hj_7, rfl⟩ := nI_of2 (n := 1) (M := 1) rfl h_3 (Int32.not_lt.mp h_4)
    refine lv_if_ne (tgt := 11) hx hb dX12_set_6 (by decide) (fun _ => ?_) (fun c_8 => absurd c_8 (by decide))
    refine lv_iload_n hx hb dX12_set_11 rfl (lv_at hl 2 rfl) ?_
    refine lv_iconst (v := 0) hx hb dX12_set_12 (by decide) ?_
    refine lv_bipush (v := 9) hx hb dX12_set_13 (by decide) ?_
    refine vp_callSi (va_runS (As := [.int y, .int 0, .int 9]) (rest := []) ⟨hx, hb, hml, hown, hts⟩ (c_in l dC dI y 0 9) (va_cwS 3 hts gX12_set_X12_in rfl rfl rfl hd_yX12_in.2 ⟨Nat.le_of_ble_eq_true rfl, Nat.le_of_ble_eq_true rfl⟩) ⟨fun a U g mk q => ⟨q.1, trivial⟩, fun U hU hW => ⟨rfl, trivial⟩⟩ rfl rfl hl.1 rfl (lv_room (Nat.le_of_ble_eq_true rfl)) dX12_set_15 ⟨Nat.le_of_ble_eq_true rfl, Nat.le_of_ble_eq_true rfl⟩).run (fun r_9 hw_10 => ?_)
    rcases hw_10 with ⟨rfl, h_11, h_12⟩ | ⟨rfl, h_13⟩
    · skip
      refine lv_if_ne (tgt := 24) hx hb dX12_set_18 (by decide) (fun _ => ?_) (fun c_14 => absurd c_14 (by decide))
      refine lv_aload_n hx hb dX12_set_24 rfl (lv_at hl 0 rfl) ?_
      refine va_get (D := (dC, dI)) (ci := 14) (v := .ref aS) (C := RX12) (T := TX12) (N := 23) hx hb hts kc_mSet_0 hown hK hP 0 rfl rfl 1 (by decide) (hts (.fieldLink RX12 9 "MistHeapsModel" "s" "[I") kc_mSet_1) (fun _ h9 => h9) rfl dX12_set_25 ?_
      refine lv_bipush (v := 6) hx hb dX12_set_28 (by decide) ?_
      refine lv_iload_n hx hb dX12_set_30 rfl (lv_at hl 1 rfl) ?_
      refine lv_iadd hx hb dX12_set_31 ?_
      refine qi_as (y := nI (6 + j_6)) (nI_add 6 j_6) ?_
      refine va_iald hx hb hK hP 1 0 rfl rfl (vp_in_nI (n := 6 + j_6) (N := 901) (by omega) (by omega)) dX12_set_32 ?_
      refine qi_as (y := fS (6 + j_6)) (by rw [nI_clamp (by omega)]) ?_
      refine lv_istore_n (lv' := [(3, .int (fS (6 + j_6))), (0, .ref m0), (1, .int (nI j_6)), (2, .int y)]) hx hb dX12_set_33 rfl hl (by decide) rfl (fun ls hl => ?_)
      refine lv_aload_n hx hb dX12_set_34 rfl (lv_at hl 1 rfl) ?_
      refine va_get (D := (dC, dI)) (ci := 14) (v := .ref aS) (C := RX12) (T := TX12) (N := 23) hx hb hts kc_mSet_0 hown hK hP 0 rfl rfl 1 (by decide) (hts (.fieldLink RX12 9 "MistHeapsModel" "s" "[I") kc_mSet_1) (fun _ h9 => h9) rfl dX12_set_35 ?_
      refine lv_bipush (v := 6) hx hb dX12_set_38 (by decide) ?_
      refine lv_iload_n hx hb dX12_set_40 rfl (lv_at hl 2 rfl) ?_
      refine lv_iadd hx hb dX12_set_41 ?_
      refine qi_as (y := nI (6 + j_6)) (nI_add 6 j_6) ?_
      refine lv_iload_n hx hb dX12_set_42 rfl (lv_at hl 3 rfl) ?_
      refine va_iast hx hb hK hP hD hS 1 0 rfl rfl (vp_in_nI (n := 6 + j_6) (N := 901) (by omega) (by omega)) dX12_set_43 (fun H locs hP hD hS => ?_)
      rw [nI_clamp (n := 6 + j_6) (by omega)] at hP hD
      have hP : va_P (dC, dI) vwCl [(zo14irriiiiiirriirrrrlriiii m0 th aS aI im ac sp en wg op aB aT se dn aG aO aN aD bv aY rn kd nu tv), (zaI aS cS 901 (upd fS (6 + j_6) y))] H := hP
      have hD : va_D A [(zo14irriiiiiirriirrrrlriiii m0 th aS aI im ac sp en wg op aB aT se dn aG aO aN aD bv aY rn kd nu tv), (zaI aS cS 901 (upd fS (6 + j_6) y))] := hD
      refine lv_iload_n hx hb dX12_set_44 rfl (lv_at hl 0 rfl) ?_
      rw [hQ]
      have hP9 := hP.sub (ws' := [(zo14irriiiiiirriirrrrlriiii m0 th aS aI im ac sp en wg op aB aT se dn aG aO aN aD bv aY rn kd nu tv), (zaI aS cS 901 (upd fS (6 + j_6) y))]) [0, 1] rfl
      have hD9 := hD.sub (ws' := [(zo14irriiiiiirriirrrrlriiii m0 th aS aI im ac sp en wg op aB aT se dn aG aO aN aD bv aY rn kd nu tv), (zaI aS cS 901 (upd fS (6 + j_6) y))]) [0, 1] (by decide) rfl
      have hK9 := hK.sub (tys' := [(cS, .int)]) [0] rfl
      exact W.iret (v := fS (6 + j_6)) hx hb hr (fun tQ htQ hWQ => ⟨⟨(fS (6 + j_6)), (upd fS (6 + j_6) y), rfl, ⟨st_set (by omega) (by assumption) (by assumption), fun i h1 h2 => pk_un (by omega)⟩, by rw [htQ]; exact hP9, va_K.moved hWQ.alike hK9, hD9⟩, hS.F htQ⟩) hS.2.2 dX12_set_45
    · skip
      refine lv_if_ne (tgt := 24) hx hb dX12_set_18 (by decide) (fun c_15 => absurd c_15 (by decide)) (fun _ => ?_)
      refine lv_bipush (v := (-2)) hx hb dX12_set_21 (by decide) ?_
      rw [hQ]
      have hP9 := hP.sub (ws' := [(zo14irriiiiiirriirrrrlriiii m0 th aS aI im ac sp en wg op aB aT se dn aG aO aN aD bv aY rn kd nu tv), (zaI aS cS 901 fS)]) [0, 1] rfl
      have hD9 := hD.sub (ws' := [(zo14irriiiiiirriirrrrlriiii m0 th aS aI im ac sp en wg op aB aT se dn aG aO aN aD bv aY rn kd nu tv), (zaI aS cS 901 fS)]) [0, 1] (by decide) rfl
      have hK9 := hK.sub (tys' := [(cS, .int)]) [0] rfl
      exact W.iret (v := (-2)) hx hb hr (fun tQ htQ hWQ => ⟨⟨(-2), fS, rfl, ⟨st_badj (by omega) (by assumption), fun i h1 h2 => rfl⟩, by rw [htQ]; exact hP9, va_K.moved hWQ.alike hK9, hD9⟩, hS.F htQ⟩) hS.2.2 dX12_set_23
  · skip
    refine lv_if_ne (tgt := 11) hx hb dX12_set_6 (by decide) (fun c_16 => absurd c_16 (by decide)) (fun _ => ?_)
    refine lv_iconst (v := (-1)) hx hb dX12_set_9 (by decide) ?_
    rw [hQ]
    have hP9 := hP.sub (ws' := [(zo14irriiiiiirriirrrrlriiii m0 th aS aI im ac sp en wg op aB aT se dn aG aO aN aD bv aY rn kd nu tv), (zaI aS cS 901 fS)]) [0, 1] rfl
    have hD9 := hD.sub (ws' := [(zo14irriiiiiirriirrrrlriiii m0 th aS aI im ac sp en wg op aB aT se dn aG aO aN aD bv aY rn kd nu tv), (zaI aS cS 901 fS)]) [0, 1] (by decide) rfl
    have hK9 := hK.sub (tys' := [(cS, .int)]) [0] rfl
    exact W.iret (v := (-1)) hx hb hr (fun tQ htQ hWQ => ⟨⟨(-1), fS, rfl, ⟨st_none (by assumption), fun i h1 h2 => rfl⟩, by rw [htQ]; exact hP9, va_K.moved hWQ.alike hK9, hD9⟩, hS.F htQ⟩) hS.2.2 dX12_set_10

theorem kc_edgesMany_0 : ∀ w ∈ wsX120, w ∈ wsX12_edgesMany := fun w h => List.mem_cons_of_mem _ (gin_wsX120 w h)
theorem kc_edgesMany_1 : (.fieldLink RX12 9 "MistHeapsModel" "s" "[I" : Cond) ∈ wsX12_edgesMany := kc_of 1141 rfl rfl rfl
set_option maxHeartbeats 4000000 in
set_option maxRecDepth 100000 in
theorem c_edgesMany (l : Launch) (dC : Nat → ClassId) (dI : Nat → Nat → Nat) (m0 aS aI aB aT aG aO aN aD aY : Nat) (th im ac sp en wg op se dn rn kd nu tv : Int32) (bv : Int64) (cS : ClassId) (fS : Nat → Int32) (ee : Nat) (zee : ∀ k, k < 36 → fS (37 + k) = nI (ee / 2 ^ k % 2)) : Met l yX12_edgesMany wsX12_edgesMany ({ frames := 0, cells := 0, slots := 0, locals := 0 } : Room) (va_Pc [.ref m0] (fun U => va_P (dC, dI) vwCl [(zo14irriiiiiirriirrrrlriiii m0 th aS aI im ac sp en wg op aB aT se dn aG aO aN aD bv aY rn kd nu tv), (zaI aS cS 901 fS)] U.heap ∧ va_K (dC, dI) vwCl [(cS, .int)] U)) (vp_Si (fun r => r = nI (bsum 36 ee))) 0 0 (fun _ => False) := by
  refine met_ofQ (cc := cX12_edgesMany) (maxL := 3) (ret := (some .int)) (by decide) rfl ?_
  intro p e s m args below meth c s₁ Q B hml hv hQ
  obtain ⟨rfl, hP, hK⟩ := hv
  have hx := B.exec
  have hb := B.bytes
  have hr := B.returns
  have hts := atoms_spec (ws := wsX12_edgesMany) B.pre
  have hown : s.vm.findClass RX12 = some m.cls := findClass_of_methodNamed B.named
  have hlocks := B.notSynchronized
  obtain ⟨A, hAe⟩ : ∃ A : Nat → Prop, A = fun _ => False := ⟨_, rfl⟩
  rw [← hAe] at hQ
  have hS : va_S A s.heap s.heap [] := va_S.rf
  have hl := lv_entry [.ref m0] (n := 3) (Nat.le_of_ble_eq_true rfl)
  rw [lg_entry_eq]
  generalize (lg_sl [.ref m0] ++ List.replicate (3 - (lg_sl [.ref m0]).length) Slot.unset).toArray = ls at hl ⊢
  generalize hag : ([.ref m0] : List Value).toArray = args at hts hQ ⊢
  have hl : lv_has ls 3 [(0, .ref m0)] := hl
  refine lv_iconst (v := 0) hx hb dX12_edgesMany_0 (by decide) ?_
  refine lv_istore_n (lv' := [(1, .int 0), (0, .ref m0)]) hx hb dX12_edgesMany_1 rfl hl (by decide) rfl (fun ls hl => ?_)
  refine lv_iconst (v := 0) hx hb dX12_edgesMany_2 (by decide) ?_
  refine lv_istore_n (lv' := [(2, .int 0), (1, .int 0), (0, .ref m0)]) hx hb dX12_edgesMany_3 rfl hl (by decide) rfl (fun ls hl => ?_)
  have L4 : ∀ (nF : Nat) (i : Nat), 36 - i < nF → (i ≤ 36) → ∀ (ls : Array Slot), lv_has ls 3 [(0, .ref m0), (1, .int (nI (bsum i ee))), (2, .int (nI i))] → W p l e ({ frames := 0, cells := 0, slots := 0, locals := 0 } : Room) s m args below meth c s.heap [] 0 0 Q (F0 m 4 ls []) := by
    intro nF
    induction nF with
    | zero => intro i hm; exact absurd hm (Nat.not_lt_zero _)
    | succ nF ih4 =>
      intro i hm hi ls hl
      refine lv_iload_n hx hb dX12_edgesMany_4 rfl (lv_at hl 2 rfl) ?_
      refine lv_bipush (v := 36) hx hb dX12_edgesMany_5 (by decide) ?_
      refine lv_icmp_ge (tgt := 28) hx hb dX12_edgesMany_7 (by decide) (fun c_1 => ?_) (fun c_1 => ?_)
      · skip
        have c_1 : 36 ≤ i := (nI_leI (a := 36) (b := i) (by omega) (by omega)).mp c_1
        refine lv_iload_n hx hb dX12_edgesMany_28 rfl (lv_at hl 1 rfl) ?_
        rw [hQ]
        exact W.iret (v := nI (bsum i ee)) hx hb hr (fun tQ htQ hWQ => ⟨nI (bsum i ee), rfl, by rw [show i = 36 by omega], by rw [htQ]⟩) (fun q hq => absurd hq List.not_mem_nil) dX12_edgesMany_29
      · skip
        have c_1 : ¬ 36 ≤ i := fun q => c_1 ((nI_leI (a := 36) (b := i) (by omega) (by omega)).mpr q)
        refine lv_iload_n hx hb dX12_edgesMany_10 rfl (lv_at hl 1 rfl) ?_
        refine lv_aload_n hx hb dX12_edgesMany_11 rfl (lv_at hl 0 rfl) ?_
        refine va_get (D := (dC, dI)) (ci := 14) (v := .ref aS) (C := RX12) (T := TX12) (N := 23) hx hb hts kc_edgesMany_0 hown hK hP 0 rfl rfl 1 (by decide) (hts (.fieldLink RX12 9 "MistHeapsModel" "s" "[I") kc_edgesMany_1) (fun _ h9 => h9) rfl dX12_edgesMany_12 ?_
        refine lv_bipush (v := 37) hx hb dX12_edgesMany_15 (by decide) ?_
        refine lv_iload_n hx hb dX12_edgesMany_17 rfl (lv_at hl 2 rfl) ?_
        refine lv_iadd hx hb dX12_edgesMany_18 ?_
        refine qi_as (y := nI (37 + i)) (nI_add 37 i) ?_
        refine va_iald hx hb hK hP 1 0 rfl rfl (vp_in_nI (n := 37 + i) (N := 901) (by omega) (by omega)) dX12_edgesMany_19 ?_
        refine qi_as (y := nI (ee / 2 ^ i % 2)) ((show fS (nI (37 + i) : Int32).toNatClampNeg = fS (37 + i) from by rw [nI_clamp (by omega)]).trans (zee i (by omega))) ?_
        refine lv_iadd hx hb dX12_edgesMany_20 ?_
        refine qi_as (y := nI ((bsum i ee) + (ee / 2 ^ i % 2))) (nI_add (bsum i ee) (ee / 2 ^ i % 2)) ?_
        refine qi_as (y := nI (bsum (i + 1) ee)) (congrArg nI (bs_s i ee).symm) ?_
        refine lv_istore_n (lv' := [(1, .int (nI (bsum (i + 1) ee))), (0, .ref m0), (2, .int (nI i))]) hx hb dX12_edgesMany_21 rfl hl (by decide) rfl (fun ls hl => ?_)
        refine lv_iinc (v := nI (i + 1)) (lv' := [(2, .int (nI (i + 1))), (1, .int (nI (bsum (i + 1) ee))), (0, .ref m0)]) hx hb dX12_edgesMany_22 hl (k := 2) rfl (nI_add i 1) (by decide) rfl (fun ls hl => ?_)
        refine lv_goto (tgt := 4) hx hb dX12_edgesMany_25 (by decide) ?_
        exact ih4 (i + 1) (by omega) (by omega) ls (lv_sub hl [2, 1, 0] rfl)
  exact L4 _ (0) (Nat.lt_succ_self _) (by omega) ls (lv_sub hl [2, 1, 0] rfl)

theorem kc_mEdges_0 : ∀ w ∈ wsX120, w ∈ wsX12_edges := fun w h => List.mem_cons_of_mem _ (gin_wsX120 w h)
theorem kc_mEdges_1 : (.fieldLink RX12 9 "MistHeapsModel" "s" "[I" : Cond) ∈ wsX12_edges := kc_of 1141 rfl rfl rfl
set_option maxHeartbeats 4000000 in
set_option maxRecDepth 100000 in
theorem c_mEdges (l : Launch) (dC : Nat → ClassId) (dI : Nat → Nat → Nat) (m0 aS aI aB aT aG aO aN aD aY : Nat) (th im ac sp en wg op se dn rn kd nu tv : Int32) (bv : Int64) (cS : ClassId) (fS : Nat → Int32) (ee : Nat) (x : Int64) (sz : Nat) (zee : ∀ k, k < 36 → fS (37 + k) = nI (ee / 2 ^ k % 2)) : Met l yX12_edges wsX12_edges ({ frames := 1, cells := 0, slots := 0, locals := 22 } : Room) (va_Pc [.ref m0, .long x] (fun U => U.heap.size = sz ∧ va_P (dC, dI) vwCl [(zo14irriiiiiirriirrrrlriiii m0 th aS aI im ac sp en wg op aB aT se dn aG aO aN aD bv aY rn kd nu tv), (zaI aS cS 901 fS)] U.heap ∧ va_K (dC, dI) vwCl [(cS, .int)] U ∧ va_D (fun _ => True) [(zo14irriiiiiirriirrrrlriiii m0 th aS aI im ac sp en wg op aB aT se dn aG aO aN aD bv aY rn kd nu tv), (zaI aS cS 901 fS)])) (va_Qi (fun (r : Int32) (u : Nat → Int32) => match u with | fS9 => r = edR ee x ∧ ((¬ edK x ∧ fS9 = fS) ∨ (edK x ∧ ∃ e : Nat, e < 2 ^ 36 ∧ x = lN e ∧ (∀ k, k < 36 → fS9 (37 + k) = nI (e / 2 ^ k % 2)) ∧ ∀ i, ¬ (37 ≤ i ∧ i < 73) → fS9 i = fS i))) (fun (u : Nat → Int32) (t : State) => match u with | fS9 => va_P (dC, dI) vwCl [(zo14irriiiiiirriirrrrlriiii m0 th aS aI im ac sp en wg op aB aT se dn aG aO aN aD bv aY rn kd nu tv), (zaI aS cS 901 fS9)] t.heap ∧ va_K (dC, dI) vwCl [(cS, .int)] t ∧ va_D (va_A [(zo14irriiiiiirriirrrrlriiii m0 th aS aI im ac sp en wg op aB aT se dn aG aO aN aD bv aY rn kd nu tv), (zaI aS cS 901 fS)] sz) [(zo14irriiiiiirriirrrrlriiii m0 th aS aI im ac sp en wg op aB aT se dn aG aO aN aD bv aY rn kd nu tv), (zaI aS cS 901 fS9)]) (va_A [(zo14irriiiiiirriirrrrlriiii m0 th aS aI im ac sp en wg op aB aT se dn aG aO aN aD bv aY rn kd nu tv), (zaI aS cS 901 fS)] sz)) 0 0 (va_A [(zo14irriiiiiirriirrrrlriiii m0 th aS aI im ac sp en wg op aB aT se dn aG aO aN aD bv aY rn kd nu tv), (zaI aS cS 901 fS)] sz) := by
  refine met_ofQ (cc := cX12_edges) (maxL := 5) (ret := (some .int)) (by decide) rfl ?_
  intro p e s m args below meth c s₁ Q B hml hv hQ
  obtain ⟨rfl, hsz, hP, hK, hD0⟩ := hv
  have hx := B.exec
  have hb := B.bytes
  have hr := B.returns
  have hts := atoms_spec (ws := wsX12_edges) B.pre
  have hown : s.vm.findClass RX12 = some m.cls := findClass_of_methodNamed B.named
  have hlocks := B.notSynchronized
  subst hsz
  have hD := hD0.self (sz := s.heap.size)
  generalize hAe : va_A [(zo14irriiiiiirriirrrrlriiii m0 th aS aI im ac sp en wg op aB aT se dn aG aO aN aD bv aY rn kd nu tv), (zaI aS cS 901 fS)] s.heap.size = A at hD hQ ⊢
  have hA : ∀ q : Nat, s.heap.size ≤ q → A q := fun q h => by rw [← hAe]; exact Or.inr h
  have hS : va_S A s.heap s.heap [] := va_S.rf
  have hl := lv_entry [.ref m0, .long x] (n := 5) (Nat.le_of_ble_eq_true rfl)
  rw [lg_entry_eq]
  generalize (lg_sl [.ref m0, .long x] ++ List.replicate (5 - (lg_sl [.ref m0, .long x]).length) Slot.unset).toArray = ls at hl ⊢
  generalize hag : ([.ref m0, .long x] : List Value).toArray = args at hts hQ ⊢
  have hl : lv_has ls 5 [(0, .ref m0), (1, .long x)] := hl
  obtain ⟨H, hH⟩ : ∃ H : Heap, H = s.heap := ⟨_, rfl⟩
  rw [← hH] at hP
  rw [← hH]
  have hS : va_S A s.heap H [] := by rw [hH]; exact hS
  obtain ⟨locs, hlo⟩ : ∃ L : List Loc, L = [] := ⟨_, rfl⟩
  rw [← hlo] at hS
  rw [← hlo]
  clear hH hlo
  refine lv_lload_n hx hb dX12_edges_0 rfl (lv_at hl 1 rfl) ?_
  refine lv_lconst (v := 0) hx hb dX12_edges_1 (by decide) ?_
  refine W.lcmp hx hb dX12_edges_2 ?_
  refine lv_if_lt (tgt := 15) hx hb dX12_edges_3 (by decide) (fun c_1 => ?_) (fun c_1 => ?_)
  · skip
    have hx0 : x < 0 := (lg_cmp_lt x 0).mp c_1
    refine lv_bipush (v := (-2)) hx hb dX12_edges_15 (by decide) ?_
    rw [hQ]
    have hP9 := hP.sub (ws' := [(zo14irriiiiiirriirrrrlriiii m0 th aS aI im ac sp en wg op aB aT se dn aG aO aN aD bv aY rn kd nu tv), (zaI aS cS 901 fS)]) [0, 1] rfl
    have hD9 := hD.sub (ws' := [(zo14irriiiiiirriirrrrlriiii m0 th aS aI im ac sp en wg op aB aT se dn aG aO aN aD bv aY rn kd nu tv), (zaI aS cS 901 fS)]) [0, 1] (by decide) rfl
    have hK9 := hK.sub (tys' := [(cS, .int)]) [0] rfl
    exact W.iret (v := (-2)) hx hb hr (fun tQ htQ hWQ => ⟨⟨(-2), fS, rfl, by first | exact ⟨ed_no (fun z => ((ed_mask x).mp z).1 hx0), Or.inl ⟨fun z => ((ed_mask x).mp z).1 hx0, rfl⟩⟩ | exact ⟨ed_no (fun z => hx1 ((ed_mask x).mp z).2), Or.inl ⟨fun z => hx1 ((ed_mask x).mp z).2, rfl⟩⟩, by rw [htQ]; exact hP9, va_K.moved hWQ.alike hK9, hD9⟩, hS.F htQ⟩) hS.2.2 dX12_edges_17
  · skip
    have hx0 : ¬ x < 0 := fun z => c_1 ((lg_cmp_lt x 0).mpr z)
    refine lv_lload_n hx hb dX12_edges_6 rfl (lv_at hl 1 rfl) ?_
    refine lv_bipush (v := 36) hx hb dX12_edges_7 (by decide) ?_
    refine lv_lshr (v := x >>> ((36 : Int32).toInt64 &&& 63)) hx hb dX12_edges_9 (rfl) ?_
    refine lv_lconst (v := 0) hx hb dX12_edges_10 (by decide) ?_
    refine W.lcmp hx hb dX12_edges_11 ?_
    refine lv_if_eq (tgt := 18) hx hb dX12_edges_12 (by decide) (fun c_2 => ?_) (fun c_2 => ?_)
    · skip
      have hx1 := (lg_cmp_eq _ _).mp c_2
      have hk9 : edK x := (ed_mask x).mpr ⟨hx0, hx1⟩
      obtain ⟨eg, heg, rfl⟩ := ed_of hk9
      refine lv_aload_n hx hb dX12_edges_18 rfl (lv_at hl 0 rfl) ?_
      have hPc := hP.sub (ws' := [(zo14irriiiiiirriirrrrlriiii m0 th aS aI im ac sp en wg op aB aT se dn aG aO aN aD bv aY rn kd nu tv), (zaI aS cS 901 fS)]) [0, 1] rfl
      have hKc := hK.sub (tys' := [(cS, .int)]) [0] rfl
      refine vp_callSi (va_runV (As := []) (rest := []) ⟨hx, hb, hml, hown, hts⟩ (c_edgesMany l dC dI m0 aS aI aB aT aG aO aN aD aY th im ac sp en wg op se dn rn kd nu tv bv cS fS ee (zee)) (cwV 0 hts gX12_edges_X12_edgesMany rfl rfl rfl hd_yX12_edgesMany ⟨Nat.le_of_ble_eq_true rfl, Nat.le_of_ble_eq_true rfl⟩) ⟨fun a U g mk q => by obtain ⟨q0, qP, qK⟩ := q; exact ⟨q0, mvP g mk a qP, mvK g mk a qK⟩, va_recv hK hP (ci := 14) (q := (RX12, TX12, 23)) (q0 := 0) rfl rfl, fun U hU hW => ⟨rfl, by rw [hU]; exact hPc, va_K.moved hW.alike hKc⟩⟩ rfl rfl hl.1 rfl (lv_room (Nat.le_of_ble_eq_true rfl)) dX12_edges_19 ⟨Nat.le_of_ble_eq_true rfl, Nat.le_of_ble_eq_true rfl⟩).run (fun r_3 hw_4 => ?_)
      obtain rfl := hw_4
      refine lv_istore_n (lv' := [(3, .int (nI (bsum 36 ee))), (0, .ref m0), (1, .long (lN eg))]) hx hb dX12_edges_22 rfl hl (by decide) rfl (fun ls hl => ?_)
      refine lv_iconst (v := 0) hx hb dX12_edges_23 (by decide) ?_
      refine lv_istore (lv' := [(4, .int 0), (3, .int (nI (bsum 36 ee))), (0, .ref m0), (1, .long (lN eg))]) hx hb dX12_edges_24 hl (by decide) rfl (fun ls hl => ?_)
      have L26 : ∀ (nF : Nat) (i : Nat) (f : Nat → Int32), 36 - i < nF → (i ≤ 36) → ((∀ k, k < i → f (37 + k) = nI (eg / 2 ^ k % 2)) ∧ ∀ k, ¬ (37 ≤ k ∧ k < 73) → f k = fS k) → ∀ (H : Heap) (locs : List Loc), va_K (dC, dI) vwCl [(cS, .int)] s → va_P (dC, dI) vwCl [(zo14irriiiiiirriirrrrlriiii m0 th aS aI im ac sp en wg op aB aT se dn aG aO aN aD bv aY rn kd nu tv), (zaI aS cS 901 f)] H → va_D A [(zo14irriiiiiirriirrrrlriiii m0 th aS aI im ac sp en wg op aB aT se dn aG aO aN aD bv aY rn kd nu tv), (zaI aS cS 901 f)] → va_S A s.heap H locs → ∀ (ls : Array Slot), lv_has ls 5 [(0, .ref m0), (1, .long (lN eg)), (3, .int (nI (bsum 36 ee))), (4, .int (nI i))] → W p l e ({ frames := 1, cells := 0, slots := 0, locals := 22 } : Room) s m args below meth c H locs 0 0 Q (F0 m 26 ls []) := by
        intro nF
        induction nF with
        | zero => intro i f hm; exact absurd hm (Nat.not_lt_zero _)
        | succ nF ih26 =>
          intro i f hm hi zf H locs hK hP hD hS ls hl
          refine lv_iload hx hb dX12_edges_26 (lv_at hl 3 rfl) ?_
          refine lv_bipush (v := 36) hx hb dX12_edges_28 (by decide) ?_
          refine lv_icmp_ge (tgt := 56) hx hb dX12_edges_30 (by decide) (fun c_5 => ?_) (fun c_5 => ?_)
          · skip
            have c_5 : 36 ≤ i := (nI_leI (a := 36) (b := i) (by omega) (by omega)).mp c_5
            refine lv_iload_n hx hb dX12_edges_56 rfl (lv_at hl 2 rfl) ?_
            rw [hQ]
            have hP9 := hP.sub (ws' := [(zo14irriiiiiirriirrrrlriiii m0 th aS aI im ac sp en wg op aB aT se dn aG aO aN aD bv aY rn kd nu tv), (zaI aS cS 901 f)]) [0, 1] rfl
            have hD9 := hD.sub (ws' := [(zo14irriiiiiirriirrrrlriiii m0 th aS aI im ac sp en wg op aB aT se dn aG aO aN aD bv aY rn kd nu tv), (zaI aS cS 901 f)]) [0, 1] (by decide) rfl
            have hK9 := hK.sub (tys' := [(cS, .int)]) [0] rfl
            exact W.iret (v := nI (bsum 36 ee)) hx hb hr (fun tQ htQ hWQ => ⟨⟨(nI (bsum 36 ee)), f, rfl, ⟨ed_yes hk9, Or.inr ⟨hk9, eg, heg, rfl, fun k hk => zf.1 k (by omega), zf.2⟩⟩, by rw [htQ]; exact hP9, va_K.moved hWQ.alike hK9, hD9⟩, hS.F htQ⟩) hS.2.2 dX12_edges_57
          · skip
            have c_5 : ¬ 36 ≤ i := fun q => c_5 ((nI_leI (a := 36) (b := i) (by omega) (by omega)).mpr q)
            refine lv_aload_n hx hb dX12_edges_33 rfl (lv_at hl 0 rfl) ?_
            refine va_get (D := (dC, dI)) (ci := 14) (v := .ref aS) (C := RX12) (T := TX12) (N := 23) hx hb hts kc_mEdges_0 hown hK hP 0 rfl rfl 1 (by decide) (hts (.fieldLink RX12 9 "MistHeapsModel" "s" "[I") kc_mEdges_1) (fun _ h9 => h9) rfl dX12_edges_34 ?_
            refine lv_bipush (v := 37) hx hb dX12_edges_37 (by decide) ?_
            refine lv_iload hx hb dX12_edges_39 (lv_at hl 3 rfl) ?_
            refine lv_iadd hx hb dX12_edges_41 ?_
            refine qi_as (y := nI (37 + i)) (nI_add 37 i) ?_
            refine lv_lload_n hx hb dX12_edges_42 rfl (lv_at hl 1 rfl) ?_
            refine lv_iload hx hb dX12_edges_43 (lv_at hl 3 rfl) ?_
            refine lv_lshr (v := lN (eg / 2 ^ i)) hx hb dX12_edges_45 (lsr_i heg (by omega)) ?_
            refine lv_lconst (v := 1) hx hb dX12_edges_46 (by decide) ?_
            refine lv_land hx hb dX12_edges_47 ?_
            refine ql_as (y := lN (eg / 2 ^ i % 2)) (wb_a1 (Nat.lt_of_le_of_lt (Nat.div_le_self _ _) (by omega))) ?_
            refine lv_l2i (v := nI (eg / 2 ^ i % 2)) hx hb dX12_edges_48 (lN_i _) ?_
            refine va_iast hx hb hK hP hD hS 1 0 rfl rfl (vp_in_nI (n := 37 + i) (N := 901) (by omega) (by omega)) dX12_edges_49 (fun H locs hP hD hS => ?_)
            rw [nI_clamp (n := 37 + i) (by omega)] at hP hD
            have hP : va_P (dC, dI) vwCl [(zo14irriiiiiirriirrrrlriiii m0 th aS aI im ac sp en wg op aB aT se dn aG aO aN aD bv aY rn kd nu tv), (zaI aS cS 901 (upd f (37 + i) (nI (eg / 2 ^ i % 2))))] H := hP
            have hD : va_D A [(zo14irriiiiiirriirrrrlriiii m0 th aS aI im ac sp en wg op aB aT se dn aG aO aN aD bv aY rn kd nu tv), (zaI aS cS 901 (upd f (37 + i) (nI (eg / 2 ^ i % 2))))] := hD
            refine lv_iinc (v := nI (i + 1)) (lv' := [(4, .int (nI (i + 1))), (0, .ref m0), (1, .long (lN eg)), (3, .int (nI (bsum 36 ee)))]) hx hb dX12_edges_50 hl (k := 3) rfl (nI_add i 1) (by decide) rfl (fun ls hl => ?_)
            refine lv_goto (tgt := 26) hx hb dX12_edges_53 (by decide) ?_
            exact ih26 (i + 1) _ (by omega) (by omega) (ed_step (by omega) zf) _ _ (hK.sub [0] rfl) (hP.sub [0, 1] rfl) (hD.sub [0, 1] (by decide) rfl) hS ls (lv_sub hl [1, 2, 3, 0] rfl)
      exact L26 _ (0) _ (Nat.lt_succ_self _) (by omega) (⟨fun k hk => absurd hk (Nat.not_lt_zero k), fun _ _ => rfl⟩) _ _ (hK.sub [0] rfl) (hP.sub [0, 1] rfl) (hD.sub [0, 1] (by decide) rfl) hS ls (lv_sub hl [2, 3, 1, 0] rfl)
    · skip
      have hx1 : ¬ x >>> ((36 : Int32).toInt64 &&& 63) = 0 := fun z => c_2 ((lg_cmp_eq _ _).mpr z)
      refine lv_bipush (v := (-2)) hx hb dX12_edges_15 (by decide) ?_
      rw [hQ]
      have hP9 := hP.sub (ws' := [(zo14irriiiiiirriirrrrlriiii m0 th aS aI im ac sp en wg op aB aT se dn aG aO aN aD bv aY rn kd nu tv), (zaI aS cS 901 fS)]) [0, 1] rfl
      have hD9 := hD.sub (ws' := [(zo14irriiiiiirriirrrrlriiii m0 th aS aI im ac sp en wg op aB aT se dn aG aO aN aD bv aY rn kd nu tv), (zaI aS cS 901 fS)]) [0, 1] (by decide) rfl
      have hK9 := hK.sub (tys' := [(cS, .int)]) [0] rfl
      exact W.iret (v := (-2)) hx hb hr (fun tQ htQ hWQ => ⟨⟨(-2), fS, rfl, by first | exact ⟨ed_no (fun z => ((ed_mask x).mp z).1 hx0), Or.inl ⟨fun z => ((ed_mask x).mp z).1 hx0, rfl⟩⟩ | exact ⟨ed_no (fun z => hx1 ((ed_mask x).mp z).2), Or.inl ⟨fun z => hx1 ((ed_mask x).mp z).2, rfl⟩⟩, by rw [htQ]; exact hP9, va_K.moved hWQ.alike hK9, hD9⟩, hS.F htQ⟩) hS.2.2 dX12_edges_17

theorem kc_sightX_0 : ∀ w ∈ wsX120, w ∈ wsX12_sight := fun w h => List.mem_cons_of_mem _ (gin_wsX120 w h)
theorem kc_sightX_1 : (.fieldLink RX12 9 "MistHeapsModel" "s" "[I" : Cond) ∈ wsX12_sight := kc_of 1141 rfl rfl rfl
set_option maxHeartbeats 4000000 in
set_option maxRecDepth 100000 in
theorem c_sightX (l : Launch) (dC : Nat → ClassId) (dI : Nat → Nat → Nat) (m0 aS aI aB aT aG aO aN aD aY : Nat) (th im ac sp en wg op se dn rn kd nu tv : Int32) (bv : Int64) (cS : ClassId) (fS : Nat → Int32) (sg : Nat) (zsg : (fS 5 = -1 ∧ sg = 3) ∨ ∃ h : Nat, h < 5 ∧ fS 5 = nI h ∧ fS (191 + h) = nI sg) : Met l yX12_sight wsX12_sight ({ frames := 0, cells := 0, slots := 0, locals := 0 } : Room) (va_Pc [.ref m0] (fun U => va_P (dC, dI) vwCl [(zo14irriiiiiirriirrrrlriiii m0 th aS aI im ac sp en wg op aB aT se dn aG aO aN aD bv aY rn kd nu tv), (zaI aS cS 901 fS)] U.heap ∧ va_K (dC, dI) vwCl [(cS, .int)] U)) (vp_Si (fun r => r = nI sg)) 0 0 (fun _ => False) := by
  refine met_ofQ (cc := cX12_sight) (maxL := 1) (ret := (some .int)) (by decide) rfl ?_
  intro p e s m args below meth c s₁ Q B hml hv hQ
  obtain ⟨rfl, hP, hK⟩ := hv
  have hx := B.exec
  have hb := B.bytes
  have hr := B.returns
  have hts := atoms_spec (ws := wsX12_sight) B.pre
  have hown : s.vm.findClass RX12 = some m.cls := findClass_of_methodNamed B.named
  have hlocks := B.notSynchronized
  obtain ⟨A, hAe⟩ : ∃ A : Nat → Prop, A = fun _ => False := ⟨_, rfl⟩
  rw [← hAe] at hQ
  have hS : va_S A s.heap s.heap [] := va_S.rf
  have hl := lv_entry [.ref m0] (n := 1) (Nat.le_of_ble_eq_true rfl)
  rw [lg_entry_eq]
  generalize (lg_sl [.ref m0] ++ List.replicate (1 - (lg_sl [.ref m0]).length) Slot.unset).toArray = ls at hl ⊢
  generalize hag : ([.ref m0] : List Value).toArray = args at hts hQ ⊢
  have hl : lv_has ls 1 [(0, .ref m0)] := hl
  rcases zsg with ⟨zh, rfl⟩ | ⟨h, hh, zh, zsg⟩
  · skip
    refine lv_aload_n hx hb dX12_sight_0 rfl (lv_at hl 0 rfl) ?_
    refine va_get (D := (dC, dI)) (ci := 14) (v := .ref aS) (C := RX12) (T := TX12) (N := 23) hx hb hts kc_sightX_0 hown hK hP 0 rfl rfl 1 (by decide) (hts (.fieldLink RX12 9 "MistHeapsModel" "s" "[I") kc_sightX_1) (fun _ h9 => h9) rfl dX12_sight_1 ?_
    refine lv_iconst (v := 5) hx hb dX12_sight_4 (by decide) ?_
    refine va_iald hx hb hK hP 1 0 rfl rfl (vp_in_nI (n := 5) (N := 901) (by omega) (by omega)) dX12_sight_5 ?_
    refine qi_as (y := (-1)) ((show fS (5 : Int32).toNatClampNeg = fS 5 from rfl).trans (zh)) ?_
    refine lv_iconst (v := (-1)) hx hb dX12_sight_6 (by decide) ?_
    refine lv_icmp_ne (tgt := 14) hx hb dX12_sight_7 (by decide) (fun c_1 => absurd c_1 (by decide)) (fun _ => ?_)
    refine lv_iconst (v := 3) hx hb dX12_sight_10 (by decide) ?_
    refine lv_goto (tgt := 29) hx hb dX12_sight_11 (by decide) ?_
    rw [hQ]
    exact W.iret (v := 3) hx hb hr (fun tQ htQ hWQ => ⟨3, rfl, rfl, by rw [htQ]⟩) (fun q hq => absurd hq List.not_mem_nil) dX12_sight_29
  · skip
    refine lv_aload_n hx hb dX12_sight_0 rfl (lv_at hl 0 rfl) ?_
    refine va_get (D := (dC, dI)) (ci := 14) (v := .ref aS) (C := RX12) (T := TX12) (N := 23) hx hb hts kc_sightX_0 hown hK hP 0 rfl rfl 1 (by decide) (hts (.fieldLink RX12 9 "MistHeapsModel" "s" "[I") kc_sightX_1) (fun _ h9 => h9) rfl dX12_sight_1 ?_
    refine lv_iconst (v := 5) hx hb dX12_sight_4 (by decide) ?_
    refine va_iald hx hb hK hP 1 0 rfl rfl (vp_in_nI (n := 5) (N := 901) (by omega) (by omega)) dX12_sight_5 ?_
    refine qi_as (y := nI h) ((show fS (5 : Int32).toNatClampNeg = fS 5 from rfl).trans (zh)) ?_
    refine lv_iconst (v := (-1)) hx hb dX12_sight_6 (by decide) ?_
    refine lv_icmp_ne (tgt := 14) hx hb dX12_sight_7 (by decide) (fun c_2 => ?_) (fun c_2 => absurd c_2 (nI_nm1 (by omega)))
    refine lv_aload_n hx hb dX12_sight_14 rfl (lv_at hl 0 rfl) ?_
    refine va_get (D := (dC, dI)) (ci := 14) (v := .ref aS) (C := RX12) (T := TX12) (N := 23) hx hb hts kc_sightX_0 hown hK hP 0 rfl rfl 1 (by decide) (hts (.fieldLink RX12 9 "MistHeapsModel" "s" "[I") kc_sightX_1) (fun _ h9 => h9) rfl dX12_sight_15 ?_
    refine lv_sipush (v := 191) hx hb dX12_sight_18 (by decide) ?_
    refine lv_aload_n hx hb dX12_sight_21 rfl (lv_at hl 0 rfl) ?_
    refine va_get (D := (dC, dI)) (ci := 14) (v := .ref aS) (C := RX12) (T := TX12) (N := 23) hx hb hts kc_sightX_0 hown hK hP 0 rfl rfl 1 (by decide) (hts (.fieldLink RX12 9 "MistHeapsModel" "s" "[I") kc_sightX_1) (fun _ h9 => h9) rfl dX12_sight_22 ?_
    refine lv_iconst (v := 5) hx hb dX12_sight_25 (by decide) ?_
    refine va_iald hx hb hK hP 1 0 rfl rfl (vp_in_nI (n := 5) (N := 901) (by omega) (by omega)) dX12_sight_26 ?_
    refine qi_as (y := nI h) ((show fS (5 : Int32).toNatClampNeg = fS 5 from rfl).trans (zh)) ?_
    refine lv_iadd hx hb dX12_sight_27 ?_
    refine qi_as (y := nI (191 + h)) (nI_add 191 h) ?_
    refine va_iald hx hb hK hP 1 0 rfl rfl (vp_in_nI (n := 191 + h) (N := 901) (by omega) (by omega)) dX12_sight_28 ?_
    refine qi_as (y := nI sg) ((show fS (nI (191 + h) : Int32).toNatClampNeg = fS (191 + h) from by rw [nI_clamp (by omega)]).trans (zsg)) ?_
    rw [hQ]
    exact W.iret (v := nI sg) hx hb hr (fun tQ htQ hWQ => ⟨nI sg, rfl, rfl, by rw [htQ]⟩) (fun q hq => absurd hq List.not_mem_nil) dX12_sight_29

theorem kc_mTold_0 : ∀ w ∈ wsX120, w ∈ wsX12_told := fun w h => List.mem_cons_of_mem _ (gin_wsX120 w h)
theorem kc_mTold_1 : (.fieldLink RX12 9 "MistHeapsModel" "s" "[I" : Cond) ∈ wsX12_told := kc_of 1141 rfl rfl rfl
set_option maxHeartbeats 4000000 in
set_option maxRecDepth 100000 in
theorem c_mTold (l : Launch) (dC : Nat → ClassId) (dI : Nat → Nat → Nat) (m0 aS aI aB aT aG aO aN aD aY : Nat) (th im ac sp en wg op se dn rn kd nu tv : Int32) (bv : Int64) (cS : ClassId) (fS : Nat → Int32) (ee sg : Nat) (x : Int32) (cz : List pCla) (zh : hol fS cz) (zee : ∀ k, k < 36 → fS (37 + k) = nI (ee / 2 ^ k % 2)) (zsg : (fS 5 = -1 ∧ sg = 3) ∨ ∃ h : Nat, h < 5 ∧ fS 5 = nI h ∧ fS (191 + h) = nI sg) : Met l yX12_told wsX12_told ({ frames := 1, cells := 0, slots := 0, locals := 22 } : Room) (va_Pc [.ref m0, .int x] (fun U => va_P (dC, dI) vwCl [(zo14irriiiiiirriirrrrlriiii m0 th aS aI im ac sp en wg op aB aT se dn aG aO aN aD bv aY rn kd nu tv), (zaI aS cS 901 fS)] U.heap ∧ va_K (dC, dI) vwCl [(cS, .int)] U)) (vp_Si (fun r => r = tdR (fS 6) (fS 7) sg ee x)) 0 0 (fun _ => False) := by
  refine met_ofQ (cc := cX12_told) (maxL := 2) (ret := (some .int)) (by decide) rfl ?_
  intro p e s m args below meth c s₁ Q B hml hv hQ
  obtain ⟨rfl, hP, hK⟩ := hv
  have hx := B.exec
  have hb := B.bytes
  have hr := B.returns
  have hts := atoms_spec (ws := wsX12_told) B.pre
  have hown : s.vm.findClass RX12 = some m.cls := findClass_of_methodNamed B.named
  have hlocks := B.notSynchronized
  obtain ⟨A, hAe⟩ : ∃ A : Nat → Prop, A = fun _ => False := ⟨_, rfl⟩
  rw [← hAe] at hQ
  have hS : va_S A s.heap s.heap [] := va_S.rf
  have hl := lv_entry [.ref m0, .int x] (n := 2) (Nat.le_of_ble_eq_true rfl)
  rw [lg_entry_eq]
  generalize (lg_sl [.ref m0, .int x] ++ List.replicate (2 - (lg_sl [.ref m0, .int x]).length) Slot.unset).toArray = ls at hl ⊢
  generalize hag : ([.ref m0, .int x] : List Value).toArray = args at hts hQ ⊢
  have hl : lv_has ls 2 [(0, .ref m0), (1, .int x)] := hl
  refine lv_iload_n hx hb dX12_told_0 rfl (lv_at hl 1 rfl) ?_
  by_cases c_1_0 : x = 0
  · skip
    refine lv_tableIn (tgt := 32) hx hb dX12_told_1 (by rw [c_1_0]; decide) (by rw [c_1_0]; decide) (by rw [c_1_0]; rfl) (by decide) ?_
    refine lv_aload_n hx hb dX12_told_32 rfl (lv_at hl 0 rfl) ?_
    refine va_get (D := (dC, dI)) (ci := 14) (v := .ref aS) (C := RX12) (T := TX12) (N := 23) hx hb hts kc_mTold_0 hown hK hP 0 rfl rfl 1 (by decide) (hts (.fieldLink RX12 9 "MistHeapsModel" "s" "[I") kc_mTold_1) (fun _ h9 => h9) rfl dX12_told_33 ?_
    refine lv_bipush (v := 6) hx hb dX12_told_36 (by decide) ?_
    refine va_iald hx hb hK hP 1 0 rfl rfl (vp_in_nI (n := 6) (N := 901) (by omega) (by omega)) dX12_told_38 ?_
    refine qi_as (y := fS 6) (rfl) ?_
    rw [hQ]
    exact W.iret (v := fS 6) hx hb hr (fun tQ htQ hWQ => ⟨fS 6, rfl, td_0 (by assumption), by rw [htQ]⟩) (fun q hq => absurd hq List.not_mem_nil) dX12_told_39
  by_cases c_1_1 : x = 1
  · skip
    refine lv_tableIn (tgt := 40) hx hb dX12_told_1 (by rw [c_1_1]; decide) (by rw [c_1_1]; decide) (by rw [c_1_1]; rfl) (by decide) ?_
    refine lv_aload_n hx hb dX12_told_40 rfl (lv_at hl 0 rfl) ?_
    refine va_get (D := (dC, dI)) (ci := 14) (v := .ref aS) (C := RX12) (T := TX12) (N := 23) hx hb hts kc_mTold_0 hown hK hP 0 rfl rfl 1 (by decide) (hts (.fieldLink RX12 9 "MistHeapsModel" "s" "[I") kc_mTold_1) (fun _ h9 => h9) rfl dX12_told_41 ?_
    refine lv_bipush (v := 7) hx hb dX12_told_44 (by decide) ?_
    refine va_iald hx hb hK hP 1 0 rfl rfl (vp_in_nI (n := 7) (N := 901) (by omega) (by omega)) dX12_told_46 ?_
    refine qi_as (y := fS 7) (rfl) ?_
    rw [hQ]
    exact W.iret (v := fS 7) hx hb hr (fun tQ htQ hWQ => ⟨fS 7, rfl, td_1 (by assumption), by rw [htQ]⟩) (fun q hq => absurd hq List.not_mem_nil) dX12_told_47
  by_cases c_1_2 : x = 2
  · skip
    refine lv_tableIn (tgt := 48) hx hb dX12_told_1 (by rw [c_1_2]; decide) (by rw [c_1_2]; decide) (by rw [c_1_2]; rfl) (by decide) ?_
    refine lv_aload_n hx hb dX12_told_48 rfl (lv_at hl 0 rfl) ?_
    have hPc := hP.sub (ws' := [(zo14irriiiiiirriirrrrlriiii m0 th aS aI im ac sp en wg op aB aT se dn aG aO aN aD bv aY rn kd nu tv), (zaI aS cS 901 fS)]) [0, 1] rfl
    have hKc := hK.sub (tys' := [(cS, .int)]) [0] rfl
    refine vp_callSi (va_runV (As := []) (rest := []) ⟨hx, hb, hml, hown, hts⟩ (c_sightX l dC dI m0 aS aI aB aT aG aO aN aD aY th im ac sp en wg op se dn rn kd nu tv bv cS fS sg (zsg)) (cwV 0 hts gX12_told_X12_sight rfl rfl rfl hd_yX12_sight ⟨Nat.le_of_ble_eq_true rfl, Nat.le_of_ble_eq_true rfl⟩) ⟨fun a U g mk q => by obtain ⟨q0, qP, qK⟩ := q; exact ⟨q0, mvP g mk a qP, mvK g mk a qK⟩, va_recv hK hP (ci := 14) (q := (RX12, TX12, 23)) (q0 := 0) rfl rfl, fun U hU hW => ⟨rfl, by rw [hU]; exact hPc, va_K.moved hW.alike hKc⟩⟩ rfl rfl hl.1 rfl (lv_room (Nat.le_of_ble_eq_true rfl)) dX12_told_49 ⟨Nat.le_of_ble_eq_true rfl, Nat.le_of_ble_eq_true rfl⟩).run (fun r_2 hw_3 => ?_)
    obtain rfl := hw_3
    rw [hQ]
    exact W.iret (v := nI sg) hx hb hr (fun tQ htQ hWQ => ⟨nI sg, rfl, td_2 (by assumption), by rw [htQ]⟩) (fun q hq => absurd hq List.not_mem_nil) dX12_told_52
  by_cases c_1_3 : x = 3
  · skip
    refine lv_tableIn (tgt := 53) hx hb dX12_told_1 (by rw [c_1_3]; decide) (by rw [c_1_3]; decide) (by rw [c_1_3]; rfl) (by decide) ?_
    refine lv_aload_n hx hb dX12_told_53 rfl (lv_at hl 0 rfl) ?_
    have hPc := hP.sub (ws' := [(zo14irriiiiiirriirrrrlriiii m0 th aS aI im ac sp en wg op aB aT se dn aG aO aN aD bv aY rn kd nu tv), (zaI aS cS 901 fS)]) [0, 1] rfl
    have hKc := hK.sub (tys' := [(cS, .int)]) [0] rfl
    refine vp_callSi (va_runV (As := []) (rest := []) ⟨hx, hb, hml, hown, hts⟩ (c_edgesMany l dC dI m0 aS aI aB aT aG aO aN aD aY th im ac sp en wg op se dn rn kd nu tv bv cS fS ee (zee)) (cwV 0 hts gX12_told_X12_edgesMany rfl rfl rfl hd_yX12_edgesMany ⟨Nat.le_of_ble_eq_true rfl, Nat.le_of_ble_eq_true rfl⟩) ⟨fun a U g mk q => by obtain ⟨q0, qP, qK⟩ := q; exact ⟨q0, mvP g mk a qP, mvK g mk a qK⟩, va_recv hK hP (ci := 14) (q := (RX12, TX12, 23)) (q0 := 0) rfl rfl, fun U hU hW => ⟨rfl, by rw [hU]; exact hPc, va_K.moved hW.alike hKc⟩⟩ rfl rfl hl.1 rfl (lv_room (Nat.le_of_ble_eq_true rfl)) dX12_told_54 ⟨Nat.le_of_ble_eq_true rfl, Nat.le_of_ble_eq_true rfl⟩).run (fun r_4 hw_5 => ?_)
    obtain rfl := hw_5
    rw [hQ]
    exact W.iret (v := nI (bsum 36 ee)) hx hb hr (fun tQ htQ hWQ => ⟨nI (bsum 36 ee), rfl, td_3 (by assumption), by rw [htQ]⟩) (fun q hq => absurd hq List.not_mem_nil) dX12_told_57
  refine lv_tableOut (tgt := 58) hx hb dX12_told_1 (sw_out 0 3 x (fun k hk => by
    match k, hk with
    | 0, _ => exact c_1_0
    | 1, _ => exact c_1_1
    | 2, _ => exact c_1_2
    | 3, _ => exact c_1_3
    | k + 4, hk => exact absurd hk (by omega))) (by decide) ?_
  refine lv_iconst (v := (-1)) hx hb dX12_told_58 (by decide) ?_
  rw [hQ]
  exact W.iret (v := (-1)) hx hb hr (fun tQ htQ hWQ => ⟨(-1), rfl, td_n (by assumption) (by assumption) (by assumption) (by assumption), by rw [htQ]⟩) (fun q hq => absurd hq List.not_mem_nil) dX12_told_59

theorem kc_mHeap_0 : ∀ w ∈ wsX120, w ∈ wsX12_heap := fun w h => List.mem_cons_of_mem _ (gin_wsX120 w h)
theorem kc_mHeap_1 : (.fieldLink RX12 9 "MistHeapsModel" "s" "[I" : Cond) ∈ wsX12_heap := kc_of 1141 rfl rfl rfl
set_option maxHeartbeats 4000000 in
set_option maxRecDepth 100000 in
theorem c_mHeap (l : Launch) (dC : Nat → ClassId) (dI : Nat → Nat → Nat) (m0 aS aI aB aT aG aO aN aD aY : Nat) (th im ac sp en wg op se dn rn kd nu tv : Int32) (bv : Int64) (cS : ClassId) (fS : Nat → Int32) (n : Nat) (yc : Nat → Int32) (x y z : Int32) (sz : Nat) (zn : fS 0 = nI n) (hn : n ≤ 8) (zc : ∀ k, k < n → fS (28 + k) = yc k) : Met l yX12_heap wsX12_heap ({ frames := 2, cells := 0, slots := 0, locals := 42 } : Room) (va_Pc [.ref m0, .int x, .int y, .int z] (fun U => U.heap.size = sz ∧ va_P (dC, dI) vwCl [(zo14irriiiiiirriirrrrlriiii m0 th aS aI im ac sp en wg op aB aT se dn aG aO aN aD bv aY rn kd nu tv), (zaI aS cS 901 fS)] U.heap ∧ va_K (dC, dI) vwCl [(cS, .int)] U ∧ va_D (fun _ => True) [(zo14irriiiiiirriirrrrlriiii m0 th aS aI im ac sp en wg op aB aT se dn aG aO aN aD bv aY rn kd nu tv), (zaI aS cS 901 fS)])) (va_Qi (fun (r : Int32) (u : Nat → Int32) => match u with | fS9 => r = hpR n yc x y z ∧ ((r < 0 ∧ fS9 = fS) ∨ (¬ r < 0 ∧ n < 8 ∧ fS9 = upd (upd (upd (upd fS (10 + n) x) (19 + n) y) (28 + n) z) 0 (nI (n + 1))))) (fun (u : Nat → Int32) (t : State) => match u with | fS9 => va_P (dC, dI) vwCl [(zo14irriiiiiirriirrrrlriiii m0 th aS aI im ac sp en wg op aB aT se dn aG aO aN aD bv aY rn kd nu tv), (zaI aS cS 901 fS9)] t.heap ∧ va_K (dC, dI) vwCl [(cS, .int)] t ∧ va_D (va_A [(zo14irriiiiiirriirrrrlriiii m0 th aS aI im ac sp en wg op aB aT se dn aG aO aN aD bv aY rn kd nu tv), (zaI aS cS 901 fS)] sz) [(zo14irriiiiiirriirrrrlriiii m0 th aS aI im ac sp en wg op aB aT se dn aG aO aN aD bv aY rn kd nu tv), (zaI aS cS 901 fS9)]) (va_A [(zo14irriiiiiirriirrrrlriiii m0 th aS aI im ac sp en wg op aB aT se dn aG aO aN aD bv aY rn kd nu tv), (zaI aS cS 901 fS)] sz)) 0 0 (va_A [(zo14irriiiiiirriirrrrlriiii m0 th aS aI im ac sp en wg op aB aT se dn aG aO aN aD bv aY rn kd nu tv), (zaI aS cS 901 fS)] sz) := by
  refine met_ofQ (cc := cX12_heap) (maxL := 4) (ret := (some .int)) (by decide) rfl ?_
  intro p e s m args below meth c s₁ Q B hml hv hQ
  obtain ⟨rfl, hsz, hP, hK, hD0⟩ := hv
  have hx := B.exec
  have hb := B.bytes
  have hr := B.returns
  have hts := atoms_spec (ws := wsX12_heap) B.pre
  have hown : s.vm.findClass RX12 = some m.cls := findClass_of_methodNamed B.named
  have hlocks := B.notSynchronized
  subst hsz
  have hD := hD0.self (sz := s.heap.size)
  generalize hAe : va_A [(zo14irriiiiiirriirrrrlriiii m0 th aS aI im ac sp en wg op aB aT se dn aG aO aN aD bv aY rn kd nu tv), (zaI aS cS 901 fS)] s.heap.size = A at hD hQ ⊢
  have hA : ∀ q : Nat, s.heap.size ≤ q → A q := fun q h => by rw [← hAe]; exact Or.inr h
  have hS : va_S A s.heap s.heap [] := va_S.rf
  have hl := lv_entry [.ref m0, .int x, .int y, .int z] (n := 4) (Nat.le_of_ble_eq_true rfl)
  rw [lg_entry_eq]
  generalize (lg_sl [.ref m0, .int x, .int y, .int z] ++ List.replicate (4 - (lg_sl [.ref m0, .int x, .int y, .int z]).length) Slot.unset).toArray = ls at hl ⊢
  generalize hag : ([.ref m0, .int x, .int y, .int z] : List Value).toArray = args at hts hQ ⊢
  have hl : lv_has ls 4 [(0, .ref m0), (1, .int x), (2, .int y), (3, .int z)] := hl
  obtain ⟨H, hH⟩ : ∃ H : Heap, H = s.heap := ⟨_, rfl⟩
  rw [← hH] at hP
  rw [← hH]
  have hS : va_S A s.heap H [] := by rw [hH]; exact hS
  obtain ⟨locs, hlo⟩ : ∃ L : List Loc, L = [] := ⟨_, rfl⟩
  rw [← hlo] at hS
  rw [← hlo]
  clear hH hlo
  refine lv_iload_n hx hb dX12_heap_0 rfl (lv_at hl 1 rfl) ?_
  refine lv_iconst (v := 0) hx hb dX12_heap_1 (by decide) ?_
  refine lv_bipush (v := 6) hx hb dX12_heap_2 (by decide) ?_
  refine vp_callSi (va_runS (As := [.int x, .int 0, .int 6]) (rest := []) ⟨hx, hb, hml, hown, hts⟩ (c_in l dC dI x 0 6) (va_cwS 3 hts gX12_heap_X12_in rfl rfl rfl hd_yX12_in.2 ⟨Nat.le_of_ble_eq_true rfl, Nat.le_of_ble_eq_true rfl⟩) ⟨fun a U g mk q => ⟨q.1, trivial⟩, fun U hU hW => ⟨rfl, trivial⟩⟩ rfl rfl hl.1 rfl (lv_room (Nat.le_of_ble_eq_true rfl)) dX12_heap_4 ⟨Nat.le_of_ble_eq_true rfl, Nat.le_of_ble_eq_true rfl⟩).run (fun r_1 hw_2 => ?_)
  rcases hw_2 with ⟨rfl, h_3, h_4⟩ | ⟨rfl, h_5⟩
  · skip
    refine lv_if_eq (tgt := 17) hx hb dX12_heap_7 (by decide) (fun c_6 => absurd c_6 (by decide)) (fun _ => ?_)
    refine lv_iload_n hx hb dX12_heap_10 rfl (lv_at hl 3 rfl) ?_
    refine vp_callSi (va_runS (As := [.int z]) (rest := []) ⟨hx, hb, hml, hown, hts⟩ (c_mCell l dC dI z) (va_cwS 1 hts gX12_heap_X12_isCell rfl rfl rfl hd_yX12_isCell.2 ⟨Nat.le_of_ble_eq_true rfl, Nat.le_of_ble_eq_true rfl⟩) ⟨fun a U g mk q => ⟨q.1, trivial⟩, fun U hU hW => ⟨rfl, trivial⟩⟩ rfl rfl hl.1 rfl (lv_room (Nat.le_of_ble_eq_true rfl)) dX12_heap_11 ⟨Nat.le_of_ble_eq_true rfl, Nat.le_of_ble_eq_true rfl⟩).run (fun r_7 hw_8 => ?_)
    rcases hw_8 with ⟨rfl, h_9, h_10⟩ | ⟨rfl, h_11⟩
    · skip
      refine lv_if_ne (tgt := 19) hx hb dX12_heap_14 (by decide) (fun _ => ?_) (fun c_12 => absurd c_12 (by decide))
      refine lv_iload_n hx hb dX12_heap_19 rfl (lv_at hl 2 rfl) ?_
      refine lv_iconst (v := 0) hx hb dX12_heap_20 (by decide) ?_
      refine lv_bipush (v := 9) hx hb dX12_heap_21 (by decide) ?_
      refine vp_callSi (va_runS (As := [.int y, .int 0, .int 9]) (rest := []) ⟨hx, hb, hml, hown, hts⟩ (c_in l dC dI y 0 9) (va_cwS 3 hts gX12_heap_X12_in rfl rfl rfl hd_yX12_in.2 ⟨Nat.le_of_ble_eq_true rfl, Nat.le_of_ble_eq_true rfl⟩) ⟨fun a U g mk q => ⟨q.1, trivial⟩, fun U hU hW => ⟨rfl, trivial⟩⟩ rfl rfl hl.1 rfl (lv_room (Nat.le_of_ble_eq_true rfl)) dX12_heap_23 ⟨Nat.le_of_ble_eq_true rfl, Nat.le_of_ble_eq_true rfl⟩).run (fun r_13 hw_14 => ?_)
      rcases hw_14 with ⟨rfl, h_15, h_16⟩ | ⟨rfl, h_17⟩
      · skip
        refine lv_if_ne (tgt := 32) hx hb dX12_heap_26 (by decide) (fun _ => ?_) (fun c_18 => absurd c_18 (by decide))
        refine lv_aload_n hx hb dX12_heap_32 rfl (lv_at hl 0 rfl) ?_
        refine lv_iload_n hx hb dX12_heap_33 rfl (lv_at hl 3 rfl) ?_
        have hPc := hP.sub (ws' := [(zo14irriiiiiirriirrrrlriiii m0 th aS aI im ac sp en wg op aB aT se dn aG aO aN aD bv aY rn kd nu tv), (zaI aS cS 901 fS)]) [0, 1] rfl
        have hKc := hK.sub (tys' := [(cS, .int)]) [0] rfl
        refine vp_callSi (va_runV (As := [.int z]) (rest := []) ⟨hx, hb, hml, hown, hts⟩ (c_heapOn l dC dI m0 aS aI aB aT aG aO aN aD aY th im ac sp en wg op se dn rn kd nu tv bv cS fS n yc z (zn) (hn) (zc)) (cwV 1 hts gX12_heap_X12_heapOn rfl rfl rfl hd_yX12_heapOn ⟨Nat.le_of_ble_eq_true rfl, Nat.le_of_ble_eq_true rfl⟩) ⟨fun a U g mk q => by obtain ⟨q0, qP, qK⟩ := q; exact ⟨q0, mvP g mk a qP, mvK g mk a qK⟩, va_recv hK hP (ci := 14) (q := (RX12, TX12, 23)) (q0 := 0) rfl rfl, fun U hU hW => ⟨rfl, by rw [hU]; exact hPc, va_K.moved hW.alike hKc⟩⟩ rfl rfl hl.1 rfl (lv_room (Nat.le_of_ble_eq_true rfl)) dX12_heap_34 ⟨Nat.le_of_ble_eq_true rfl, Nat.le_of_ble_eq_true rfl⟩).run (fun r_19 hw_20 => ?_)
        rcases hw_20 with ⟨rfl, hT9⟩ | ⟨hT8, hT9⟩
        · skip
          refine lv_iconst (v := (-1)) hx hb dX12_heap_37 (by decide) ?_
          refine lv_icmp_eq (tgt := 44) hx hb dX12_heap_38 (by decide) (fun _ => ?_) (fun c_21 => absurd c_21 (by decide))
          refine lv_aload_n hx hb dX12_heap_44 rfl (lv_at hl 0 rfl) ?_
          refine va_get (D := (dC, dI)) (ci := 14) (v := .ref aS) (C := RX12) (T := TX12) (N := 23) hx hb hts kc_mHeap_0 hown hK hP 0 rfl rfl 1 (by decide) (hts (.fieldLink RX12 9 "MistHeapsModel" "s" "[I") kc_mHeap_1) (fun _ h9 => h9) rfl dX12_heap_45 ?_
          refine lv_iconst (v := 0) hx hb dX12_heap_48 (by decide) ?_
          refine va_iald hx hb hK hP 1 0 rfl rfl (vp_in_nI (n := 0) (N := 901) (by omega) (by omega)) dX12_heap_49 ?_
          refine qi_as (y := nI n) ((show fS (0 : Int32).toNatClampNeg = fS 0 from rfl).trans (zn)) ?_
          refine lv_bipush (v := 8) hx hb dX12_heap_50 (by decide) ?_
          refine lv_icmp_ne (tgt := 58) hx hb dX12_heap_52 (by decide) (fun c_22 => ?_) (fun c_22 => ?_)
          · skip
            have c_22 : ¬ n = 8 := fun q => c_22 ((nI_eq (a := n) (b := 8) (by omega) (by omega)).mpr q)
            refine lv_aload_n hx hb dX12_heap_58 rfl (lv_at hl 0 rfl) ?_
            refine lv_iload_n hx hb dX12_heap_59 rfl (lv_at hl 1 rfl) ?_
            refine lv_iload_n hx hb dX12_heap_60 rfl (lv_at hl 2 rfl) ?_
            refine lv_iload_n hx hb dX12_heap_61 rfl (lv_at hl 3 rfl) ?_
            have hPc := hP.sub (ws' := [(zo14irriiiiiirriirrrrlriiii m0 th aS aI im ac sp en wg op aB aT se dn aG aO aN aD bv aY rn kd nu tv), (zaI aS cS 901 fS)]) [0, 1] rfl
            have hDc := hD.sub (ws' := [(zo14irriiiiiirriirrrrlriiii m0 th aS aI im ac sp en wg op aB aT se dn aG aO aN aD bv aY rn kd nu tv), (zaI aS cS 901 fS)]) [0, 1] (by decide) rfl
            have hKc := hK.sub (tys' := [(cS, .int)]) [0] rfl
            have hFc := va_free (wc := [(zo14irriiiiiirriirrrrlriiii m0 th aS aI im ac sp en wg op aB aT se dn aG aO aN aD bv aY rn kd nu tv), (zaI aS cS 901 fS)]) hD hS hA [0, 1] rfl
            refine va_calli (va_runV (As := [.int x, .int y, .int z]) (rest := []) ⟨hx, hb, hml, hown, hts⟩ (c_puts l dC dI m0 aS aI aB aT aG aO aN aD aY th im ac sp en wg op se dn rn kd nu tv bv cS fS n x y z H.size (zn) (hn)) (cwV 3 hts gX12_heap_X12_puts rfl rfl rfl hd_yX12_puts ⟨Nat.le_of_ble_eq_true rfl, Nat.le_of_ble_eq_true rfl⟩) ⟨fun a U g mk q => by obtain ⟨q0, q1, qP, qK, qD⟩ := q; exact ⟨q0, mvz g mk a q1, mvP g mk a qP, mvK g mk a qK, qD⟩, va_recv hK hP (ci := 14) (q := (RX12, TX12, 23)) (q0 := 0) rfl rfl, fun U hU hW => ⟨rfl, by rw [hU], by rw [hU]; exact hPc, va_K.moved hW.alike hKc, hDc.weaken (fun _ _ _ _ => trivial)⟩⟩ rfl rfl hl.1 rfl (lv_room (Nat.le_of_ble_eq_true rfl)) dX12_heap_62 ⟨Nat.le_of_ble_eq_true rfl, Nat.le_of_ble_eq_true rfl⟩) hS (fun q _ h => hFc q h) hFc (fun r_23 u tC H1 locs htC hvm hw_24 hB hz1 hk1 hS => ?_)
            obtain ⟨fS9_25, rfl⟩ : ∃ z, z = u := ⟨_, rfl⟩
            try dsimp only at hw_24 hB
            obtain ⟨hP1, hK1, hD1⟩ := hB
            rw [htC] at hP1
            have hK1 := va_K.moved hvm.symm hK1
            obtain ⟨hP, hD⟩ := va_join (wr := []) (w1 := [(zo14irriiiiiirriirrrrlriiii m0 th aS aI im ac sp en wg op aB aT se dn aG aO aN aD bv aY rn kd nu tv), (zaI aS cS 901 fS9_25)]) hP hD [0, 1] [] rfl rfl (by decide) (by decide) hk1 hFc hP1 hD1
            have hK := (hK.sub (tys' := []) [] rfl).app hK1
            generalize H1 = H at hP hS ⊢
            have hP : va_P (dC, dI) vwCl [(zo14irriiiiiirriirrrrlriiii m0 th aS aI im ac sp en wg op aB aT se dn aG aO aN aD bv aY rn kd nu tv), (zaI aS cS 901 fS9_25)] H := hP
            have hD : va_D A [(zo14irriiiiiirriirrrrlriiii m0 th aS aI im ac sp en wg op aB aT se dn aG aO aN aD bv aY rn kd nu tv), (zaI aS cS 901 fS9_25)] := hD
            have hK : va_K (dC, dI) vwCl [(cS, .int)] s := hK
            obtain ⟨er, e9⟩ := hw_24
            subst e9
            subst er
            rw [hQ]
            have hP9 := hP.sub (ws' := [(zo14irriiiiiirriirrrrlriiii m0 th aS aI im ac sp en wg op aB aT se dn aG aO aN aD bv aY rn kd nu tv), (zaI aS cS 901 (upd (upd (upd (upd fS (10 + n) x) (19 + n) y) (28 + n) z) 0 (nI (n + 1))))]) [0, 1] rfl
            have hD9 := hD.sub (ws' := [(zo14irriiiiiirriirrrrlriiii m0 th aS aI im ac sp en wg op aB aT se dn aG aO aN aD bv aY rn kd nu tv), (zaI aS cS 901 (upd (upd (upd (upd fS (10 + n) x) (19 + n) y) (28 + n) z) 0 (nI (n + 1))))]) [0, 1] (by decide) rfl
            have hK9 := hK.sub (tys' := [(cS, .int)]) [0] rfl
            exact W.iret (v := nI n) hx hb hr (fun tQ htQ hWQ => ⟨⟨(nI n), (upd (upd (upd (upd fS (10 + n) x) (19 + n) y) (28 + n) z) 0 (nI (n + 1))), rfl, ⟨hp_ok (by assumption) (by assumption) (by assumption) (by assumption) (by assumption) (by assumption) hT9 (by omega), Or.inr ⟨nI_pos (by omega), by omega, rfl⟩⟩, by rw [htQ]; exact hP9, va_K.moved hWQ.alike hK9, hD9⟩, hS.F htQ⟩) hS.2.2 dX12_heap_65
          · skip
            have c_22 : n = 8 := (nI_eq (a := n) (b := 8) (by omega) (by omega)).mp c_22
            refine lv_bipush (v := (-4)) hx hb dX12_heap_55 (by decide) ?_
            rw [hQ]
            have hP9 := hP.sub (ws' := [(zo14irriiiiiirriirrrrlriiii m0 th aS aI im ac sp en wg op aB aT se dn aG aO aN aD bv aY rn kd nu tv), (zaI aS cS 901 fS)]) [0, 1] rfl
            have hD9 := hD.sub (ws' := [(zo14irriiiiiirriirrrrlriiii m0 th aS aI im ac sp en wg op aB aT se dn aG aO aN aD bv aY rn kd nu tv), (zaI aS cS 901 fS)]) [0, 1] (by decide) rfl
            have hK9 := hK.sub (tys' := [(cS, .int)]) [0] rfl
            exact W.iret (v := (-4)) hx hb hr (fun tQ htQ hWQ => ⟨⟨(-4), fS, rfl, ⟨hp_full (by assumption) (by assumption) (by assumption) (by assumption) (by assumption) (by assumption) hT9 (by omega), Or.inl ⟨by decide, rfl⟩⟩, by rw [htQ]; exact hP9, va_K.moved hWQ.alike hK9, hD9⟩, hS.F htQ⟩) hS.2.2 dX12_heap_57
        · skip
          refine lv_iconst (v := (-1)) hx hb dX12_heap_37 (by decide) ?_
          refine lv_icmp_eq (tgt := 44) hx hb dX12_heap_38 (by decide) (fun c_26 => absurd c_26 (hT8)) (fun c_26 => ?_)
          refine lv_bipush (v := (-3)) hx hb dX12_heap_41 (by decide) ?_
          rw [hQ]
          have hP9 := hP.sub (ws' := [(zo14irriiiiiirriirrrrlriiii m0 th aS aI im ac sp en wg op aB aT se dn aG aO aN aD bv aY rn kd nu tv), (zaI aS cS 901 fS)]) [0, 1] rfl
          have hD9 := hD.sub (ws' := [(zo14irriiiiiirriirrrrlriiii m0 th aS aI im ac sp en wg op aB aT se dn aG aO aN aD bv aY rn kd nu tv), (zaI aS cS 901 fS)]) [0, 1] (by decide) rfl
          have hK9 := hK.sub (tys' := [(cS, .int)]) [0] rfl
          exact W.iret (v := (-3)) hx hb hr (fun tQ htQ hWQ => ⟨⟨(-3), fS, rfl, ⟨hp_state (by assumption) (by assumption) (by assumption) (by assumption) (by assumption) (by assumption) hT9, Or.inl ⟨by decide, rfl⟩⟩, by rw [htQ]; exact hP9, va_K.moved hWQ.alike hK9, hD9⟩, hS.F htQ⟩) hS.2.2 dX12_heap_43
      · skip
        refine lv_if_ne (tgt := 32) hx hb dX12_heap_26 (by decide) (fun c_27 => absurd c_27 (by decide)) (fun _ => ?_)
        refine lv_bipush (v := (-2)) hx hb dX12_heap_29 (by decide) ?_
        rw [hQ]
        have hP9 := hP.sub (ws' := [(zo14irriiiiiirriirrrrlriiii m0 th aS aI im ac sp en wg op aB aT se dn aG aO aN aD bv aY rn kd nu tv), (zaI aS cS 901 fS)]) [0, 1] rfl
        have hD9 := hD.sub (ws' := [(zo14irriiiiiirriirrrrlriiii m0 th aS aI im ac sp en wg op aB aT se dn aG aO aN aD bv aY rn kd nu tv), (zaI aS cS 901 fS)]) [0, 1] (by decide) rfl
        have hK9 := hK.sub (tys' := [(cS, .int)]) [0] rfl
        exact W.iret (v := (-2)) hx hb hr (fun tQ htQ hWQ => ⟨⟨(-2), fS, rfl, ⟨hp_bad (by assumption) (by assumption) (by assumption) (by assumption) (by assumption), Or.inl ⟨by decide, rfl⟩⟩, by rw [htQ]; exact hP9, va_K.moved hWQ.alike hK9, hD9⟩, hS.F htQ⟩) hS.2.2 dX12_heap_31
    · skip
      refine lv_if_ne (tgt := 19) hx hb dX12_heap_14 (by decide) (fun c_28 => absurd c_28 (by decide)) (fun _ => ?_)
      refine lv_iconst (v := (-1)) hx hb dX12_heap_17 (by decide) ?_
      rw [hQ]
      have hP9 := hP.sub (ws' := [(zo14irriiiiiirriirrrrlriiii m0 th aS aI im ac sp en wg op aB aT se dn aG aO aN aD bv aY rn kd nu tv), (zaI aS cS 901 fS)]) [0, 1] rfl
      have hD9 := hD.sub (ws' := [(zo14irriiiiiirriirrrrlriiii m0 th aS aI im ac sp en wg op aB aT se dn aG aO aN aD bv aY rn kd nu tv), (zaI aS cS 901 fS)]) [0, 1] (by decide) rfl
      have hK9 := hK.sub (tys' := [(cS, .int)]) [0] rfl
      exact W.iret (v := (-1)) hx hb hr (fun tQ htQ hWQ => ⟨⟨(-1), fS, rfl, ⟨hp_none (by first | exact Or.inl (by assumption) | exact Or.inr (by assumption)), Or.inl ⟨by decide, rfl⟩⟩, by rw [htQ]; exact hP9, va_K.moved hWQ.alike hK9, hD9⟩, hS.F htQ⟩) hS.2.2 dX12_heap_18
  · skip
    refine lv_if_eq (tgt := 17) hx hb dX12_heap_7 (by decide) (fun _ => ?_) (fun c_29 => absurd c_29 (by decide))
    refine lv_iconst (v := (-1)) hx hb dX12_heap_17 (by decide) ?_
    rw [hQ]
    have hP9 := hP.sub (ws' := [(zo14irriiiiiirriirrrrlriiii m0 th aS aI im ac sp en wg op aB aT se dn aG aO aN aD bv aY rn kd nu tv), (zaI aS cS 901 fS)]) [0, 1] rfl
    have hD9 := hD.sub (ws' := [(zo14irriiiiiirriirrrrlriiii m0 th aS aI im ac sp en wg op aB aT se dn aG aO aN aD bv aY rn kd nu tv), (zaI aS cS 901 fS)]) [0, 1] (by decide) rfl
    have hK9 := hK.sub (tys' := [(cS, .int)]) [0] rfl
    exact W.iret (v := (-1)) hx hb hr (fun tQ htQ hWQ => ⟨⟨(-1), fS, rfl, ⟨hp_none (by first | exact Or.inl (by assumption) | exact Or.inr (by assumption)), Or.inl ⟨by decide, rfl⟩⟩, by rw [htQ]; exact hP9, va_K.moved hWQ.alike hK9, hD9⟩, hS.F htQ⟩) hS.2.2 dX12_heap_18

theorem cp_step {f g : Nat → Int32} {i : Nat} (h : ∀ k, k < i → g k = f k) : ∀ k, k < i + 1 → upd g i (f i) k = f k := by
  intro k hk
  by_cases q : k = i
  · subst q; exact pk_us
  · rw [pk_un q]; exact h k (by omega)

theorem kc_mImage_0 : ∀ w ∈ wsX120, w ∈ wsX12_image := fun w h => List.mem_cons_of_mem _ (gin_wsX120 w h)
theorem kc_mImage_1 : (.fieldLink RX12 282 "MistHeapsModel" "hasImage" "Z" : Cond) ∈ wsX12_image := kc_of 1143 rfl rfl rfl
theorem kc_mImage_2 : (.fieldLink RX12 9 "MistHeapsModel" "s" "[I" : Cond) ∈ wsX12_image := kc_of 1141 rfl rfl rfl
theorem kc_mImage_3 : (.fieldLink RX12 15 "MistHeapsModel" "image" "[I" : Cond) ∈ wsX12_image := kc_of 1142 rfl rfl rfl
set_option maxHeartbeats 4000000 in
set_option maxRecDepth 100000 in
theorem c_mImage (l : Launch) (dC : Nat → ClassId) (dI : Nat → Nat → Nat) (m0 aS aI aB aT aG aO aN aD aY : Nat) (th im ac sp en wg op se dn rn kd nu tv : Int32) (bv : Int64) (cS cI : ClassId) (fS : Nat → Int32) (fI : Nat → Int32) (sz : Nat) : Met l yX12_image wsX12_image ({ frames := 0, cells := 0, slots := 0, locals := 0 } : Room) (va_Pc [.ref m0] (fun U => U.heap.size = sz ∧ va_P (dC, dI) vwCl [(zo14irriiiiiirriirrrrlriiii m0 th aS aI im ac sp en wg op aB aT se dn aG aO aN aD bv aY rn kd nu tv), (zaI aS cS 901 fS), (zaI aI cI 901 fI)] U.heap ∧ va_K (dC, dI) vwCl [(cS, .int), (cI, .int)] U ∧ va_D (fun _ => True) [(zo14irriiiiiirriirrrrlriiii m0 th aS aI im ac sp en wg op aB aT se dn aG aO aN aD bv aY rn kd nu tv), (zaI aS cS 901 fS), (zaI aI cI 901 fI)])) (va_Qi (fun (r : Int32) (u : (Nat → Int32) × (Int32)) => match u with | (fI9, im9) => r = fS 0 ∧ im9 = 1 ∧ ∀ k, k < 901 → fI9 k = fS k) (fun (u : (Nat → Int32) × (Int32)) (t : State) => match u with | (fI9, im9) => va_P (dC, dI) vwCl [(zo14irriiiiiirriirrrrlriiii m0 th aS aI im9 ac sp en wg op aB aT se dn aG aO aN aD bv aY rn kd nu tv), (zaI aS cS 901 fS), (zaI aI cI 901 fI9)] t.heap ∧ va_K (dC, dI) vwCl [(cS, .int), (cI, .int)] t ∧ va_D (va_A [(zo14irriiiiiirriirrrrlriiii m0 th aS aI im ac sp en wg op aB aT se dn aG aO aN aD bv aY rn kd nu tv), (zaI aS cS 901 fS), (zaI aI cI 901 fI)] sz) [(zo14irriiiiiirriirrrrlriiii m0 th aS aI im9 ac sp en wg op aB aT se dn aG aO aN aD bv aY rn kd nu tv), (zaI aS cS 901 fS), (zaI aI cI 901 fI9)]) (va_A [(zo14irriiiiiirriirrrrlriiii m0 th aS aI im ac sp en wg op aB aT se dn aG aO aN aD bv aY rn kd nu tv), (zaI aS cS 901 fS), (zaI aI cI 901 fI)] sz)) 0 0 (va_A [(zo14irriiiiiirriirrrrlriiii m0 th aS aI im ac sp en wg op aB aT se dn aG aO aN aD bv aY rn kd nu tv), (zaI aS cS 901 fS), (zaI aI cI 901 fI)] sz) := by
  refine met_ofQ (cc := cX12_image) (maxL := 2) (ret := (some .int)) (by decide) rfl ?_
  intro p e s m args below meth c s₁ Q B hml hv hQ
  obtain ⟨rfl, hsz, hP, hK, hD0⟩ := hv
  have hx := B.exec
  have hb := B.bytes
  have hr := B.returns
  have hts := atoms_spec (ws := wsX12_image) B.pre
  have hown : s.vm.findClass RX12 = some m.cls := findClass_of_methodNamed B.named
  have hlocks := B.notSynchronized
  subst hsz
  have hD := hD0.self (sz := s.heap.size)
  generalize hAe : va_A [(zo14irriiiiiirriirrrrlriiii m0 th aS aI im ac sp en wg op aB aT se dn aG aO aN aD bv aY rn kd nu tv), (zaI aS cS 901 fS), (zaI aI cI 901 fI)] s.heap.size = A at hD hQ ⊢
  have hA : ∀ q : Nat, s.heap.size ≤ q → A q := fun q h => by rw [← hAe]; exact Or.inr h
  have hS : va_S A s.heap s.heap [] := va_S.rf
  have hl := lv_entry [.ref m0] (n := 2) (Nat.le_of_ble_eq_true rfl)
  rw [lg_entry_eq]
  generalize (lg_sl [.ref m0] ++ List.replicate (2 - (lg_sl [.ref m0]).length) Slot.unset).toArray = ls at hl ⊢
  generalize hag : ([.ref m0] : List Value).toArray = args at hts hQ ⊢
  have hl : lv_has ls 2 [(0, .ref m0)] := hl
  obtain ⟨H, hH⟩ : ∃ H : Heap, H = s.heap := ⟨_, rfl⟩
  rw [← hH] at hP
  rw [← hH]
  have hS : va_S A s.heap H [] := by rw [hH]; exact hS
  obtain ⟨locs, hlo⟩ : ∃ L : List Loc, L = [] := ⟨_, rfl⟩
  rw [← hlo] at hS
  rw [← hlo]
  clear hH hlo
  refine lv_iconst (v := 0) hx hb dX12_image_0 (by decide) ?_
  refine lv_istore_n (lv' := [(1, .int 0), (0, .ref m0)]) hx hb dX12_image_1 rfl hl (by decide) rfl (fun ls hl => ?_)
  have L2 : ∀ (nF : Nat) (i : Nat) (g : Nat → Int32), 901 - i < nF → (i ≤ 901) → (∀ k, k < i → g k = fS k) → ∀ (H : Heap) (locs : List Loc), va_K (dC, dI) vwCl [(cS, .int), (cI, .int)] s → va_P (dC, dI) vwCl [(zo14irriiiiiirriirrrrlriiii m0 th aS aI im ac sp en wg op aB aT se dn aG aO aN aD bv aY rn kd nu tv), (zaI aS cS 901 fS), (zaI aI cI 901 g)] H → va_D A [(zo14irriiiiiirriirrrrlriiii m0 th aS aI im ac sp en wg op aB aT se dn aG aO aN aD bv aY rn kd nu tv), (zaI aS cS 901 fS), (zaI aI cI 901 g)] → va_S A s.heap H locs → ∀ (ls : Array Slot), lv_has ls 2 [(0, .ref m0), (1, .int (nI i))] → W p l e ({ frames := 0, cells := 0, slots := 0, locals := 0 } : Room) s m args below meth c H locs 0 0 Q (F0 m 2 ls []) := by
    intro nF
    induction nF with
    | zero => intro i g hm; exact absurd hm (Nat.not_lt_zero _)
    | succ nF ih2 =>
      intro i g hm hi zg H locs hK hP hD hS ls hl
      refine lv_iload_n hx hb dX12_image_2 rfl (lv_at hl 1 rfl) ?_
      refine lv_sipush (v := 901) hx hb dX12_image_3 (by decide) ?_
      refine lv_icmp_ge (tgt := 27) hx hb dX12_image_6 (by decide) (fun c_1 => ?_) (fun c_1 => ?_)
      · skip
        have c_1 : 901 ≤ i := (nI_leI (a := 901) (b := i) (by omega) (by omega)).mp c_1
        refine lv_aload_n hx hb dX12_image_27 rfl (lv_at hl 0 rfl) ?_
        refine lv_iconst (v := 1) hx hb dX12_image_28 (by decide) ?_
        refine va_put (D := (dC, dI)) (ci := 14) (v := .int 1) (ty := .boolean) (C := RX12) (T := TX12) (N := 23) hx hb hts kc_mImage_0 tyX12 tyX12_ok nmX12 hown hK hP hD hS 0 rfl rfl 3 (by decide) (hts (.fieldLink RX12 282 "MistHeapsModel" "hasImage" "Z") kc_mImage_1) (fun _ h9 => h9) rfl (by decide +kernel) rfl rfl (Nat.le_of_ble_eq_true rfl) dX12_image_29 (fun H locs hP hD hS => ?_)
        have hP : va_P (dC, dI) vwCl [(zo14irriiiiiirriirrrrlriiii m0 th aS aI 1 ac sp en wg op aB aT se dn aG aO aN aD bv aY rn kd nu tv), (zaI aS cS 901 fS), (zaI aI cI 901 g)] H := hP
        have hD : va_D A [(zo14irriiiiiirriirrrrlriiii m0 th aS aI 1 ac sp en wg op aB aT se dn aG aO aN aD bv aY rn kd nu tv), (zaI aS cS 901 fS), (zaI aI cI 901 g)] := hD
        refine lv_aload_n hx hb dX12_image_32 rfl (lv_at hl 0 rfl) ?_
        refine va_get (D := (dC, dI)) (ci := 14) (v := .ref aS) (C := RX12) (T := TX12) (N := 23) hx hb hts kc_mImage_0 hown hK hP 0 rfl rfl 1 (by decide) (hts (.fieldLink RX12 9 "MistHeapsModel" "s" "[I") kc_mImage_2) (fun _ h9 => h9) rfl dX12_image_33 ?_
        refine lv_iconst (v := 0) hx hb dX12_image_36 (by decide) ?_
        refine va_iald hx hb hK hP 1 0 rfl rfl (vp_in_nI (n := 0) (N := 901) (by omega) (by omega)) dX12_image_37 ?_
        refine qi_as (y := fS 0) (rfl) ?_
        rw [hQ]
        have hP9 := hP.sub (ws' := [(zo14irriiiiiirriirrrrlriiii m0 th aS aI 1 ac sp en wg op aB aT se dn aG aO aN aD bv aY rn kd nu tv), (zaI aS cS 901 fS), (zaI aI cI 901 g)]) [0, 1, 2] rfl
        have hD9 := hD.sub (ws' := [(zo14irriiiiiirriirrrrlriiii m0 th aS aI 1 ac sp en wg op aB aT se dn aG aO aN aD bv aY rn kd nu tv), (zaI aS cS 901 fS), (zaI aI cI 901 g)]) [0, 1, 2] (by decide) rfl
        have hK9 := hK.sub (tys' := [(cS, .int), (cI, .int)]) [0, 1] rfl
        exact W.iret (v := fS 0) hx hb hr (fun tQ htQ hWQ => ⟨⟨(fS 0), (g, 1), rfl, ⟨rfl, rfl, fun k hk => zg k (by omega)⟩, by rw [htQ]; exact hP9, va_K.moved hWQ.alike hK9, hD9⟩, hS.F htQ⟩) hS.2.2 dX12_image_38
      · skip
        have c_1 : ¬ 901 ≤ i := fun q => c_1 ((nI_leI (a := 901) (b := i) (by omega) (by omega)).mpr q)
        refine lv_aload_n hx hb dX12_image_9 rfl (lv_at hl 0 rfl) ?_
        refine va_get (D := (dC, dI)) (ci := 14) (v := .ref aI) (C := RX12) (T := TX12) (N := 23) hx hb hts kc_mImage_0 hown hK hP 0 rfl rfl 2 (by decide) (hts (.fieldLink RX12 15 "MistHeapsModel" "image" "[I") kc_mImage_3) (fun _ h9 => h9) rfl dX12_image_10 ?_
        refine lv_iload_n hx hb dX12_image_13 rfl (lv_at hl 1 rfl) ?_
        refine lv_aload_n hx hb dX12_image_14 rfl (lv_at hl 0 rfl) ?_
        refine va_get (D := (dC, dI)) (ci := 14) (v := .ref aS) (C := RX12) (T := TX12) (N := 23) hx hb hts kc_mImage_0 hown hK hP 0 rfl rfl 1 (by decide) (hts (.fieldLink RX12 9 "MistHeapsModel" "s" "[I") kc_mImage_2) (fun _ h9 => h9) rfl dX12_image_15 ?_
        refine lv_iload_n hx hb dX12_image_18 rfl (lv_at hl 1 rfl) ?_
        refine va_iald hx hb hK hP 1 0 rfl rfl (vp_in_nI (n := i) (N := 901) (by omega) (by omega)) dX12_image_19 ?_
        refine qi_as (y := fS i) (by rw [nI_clamp (by omega)]) ?_
        refine va_iast hx hb hK hP hD hS 2 1 rfl rfl (vp_in_nI (n := i) (N := 901) (by omega) (by omega)) dX12_image_20 (fun H locs hP hD hS => ?_)
        rw [nI_clamp (n := i) (by omega)] at hP hD
        have hP : va_P (dC, dI) vwCl [(zo14irriiiiiirriirrrrlriiii m0 th aS aI im ac sp en wg op aB aT se dn aG aO aN aD bv aY rn kd nu tv), (zaI aS cS 901 fS), (zaI aI cI 901 (upd g i (fS i)))] H := hP
        have hD : va_D A [(zo14irriiiiiirriirrrrlriiii m0 th aS aI im ac sp en wg op aB aT se dn aG aO aN aD bv aY rn kd nu tv), (zaI aS cS 901 fS), (zaI aI cI 901 (upd g i (fS i)))] := hD
        refine lv_iinc (v := nI (i + 1)) (lv' := [(1, .int (nI (i + 1))), (0, .ref m0)]) hx hb dX12_image_21 hl (k := 1) rfl (nI_add i 1) (by decide) rfl (fun ls hl => ?_)
        refine lv_goto (tgt := 2) hx hb dX12_image_24 (by decide) ?_
        exact ih2 (i + 1) _ (by omega) (by omega) (cp_step zg) _ _ (hK.sub [0, 1] rfl) (hP.sub [0, 1, 2] rfl) (hD.sub [0, 1, 2] (by decide) rfl) hS ls (lv_sub hl [1, 0] rfl)
  exact L2 _ (0) _ (Nat.lt_succ_self _) (by omega) (fun _ h => absurd h (Nat.not_lt_zero _)) _ _ (hK.sub [0, 1] rfl) (hP.sub [0, 1, 2] rfl) (hD.sub [0, 1, 2] (by decide) rfl) hS ls (lv_sub hl [1, 0] rfl)

theorem kc_mUndo_0 : ∀ w ∈ wsX120, w ∈ wsX12_undo := fun w h => List.mem_cons_of_mem _ (gin_wsX120 w h)
theorem kc_mUndo_1 : (.fieldLink RX12 282 "MistHeapsModel" "hasImage" "Z" : Cond) ∈ wsX12_undo := kc_of 1143 rfl rfl rfl
theorem kc_mUndo_2 : (.fieldLink RX12 9 "MistHeapsModel" "s" "[I" : Cond) ∈ wsX12_undo := kc_of 1141 rfl rfl rfl
theorem kc_mUndo_3 : (.fieldLink RX12 15 "MistHeapsModel" "image" "[I" : Cond) ∈ wsX12_undo := kc_of 1142 rfl rfl rfl
set_option maxHeartbeats 4000000 in
set_option maxRecDepth 100000 in
theorem c_mUndo (l : Launch) (dC : Nat → ClassId) (dI : Nat → Nat → Nat) (m0 aS aI aB aT aG aO aN aD aY : Nat) (th im ac sp en wg op se dn rn kd nu tv : Int32) (bv : Int64) (cS cI : ClassId) (fS : Nat → Int32) (fI : Nat → Int32) (sz : Nat) : Met l yX12_undo wsX12_undo ({ frames := 0, cells := 0, slots := 0, locals := 0 } : Room) (va_Pc [.ref m0] (fun U => U.heap.size = sz ∧ va_P (dC, dI) vwCl [(zo14irriiiiiirriirrrrlriiii m0 th aS aI im ac sp en wg op aB aT se dn aG aO aN aD bv aY rn kd nu tv), (zaI aS cS 901 fS), (zaI aI cI 901 fI)] U.heap ∧ va_K (dC, dI) vwCl [(cS, .int), (cI, .int)] U ∧ va_D (fun _ => True) [(zo14irriiiiiirriirrrrlriiii m0 th aS aI im ac sp en wg op aB aT se dn aG aO aN aD bv aY rn kd nu tv), (zaI aS cS 901 fS), (zaI aI cI 901 fI)])) (va_Qi (fun (r : Int32) (u : Nat → Int32) => match u with | fS9 => (im = 0 ∧ r = -3 ∧ fS9 = fS) ∨ (¬ im = 0 ∧ r = fI 0 ∧ ∀ k, k < 901 → fS9 k = fI k)) (fun (u : Nat → Int32) (t : State) => match u with | fS9 => va_P (dC, dI) vwCl [(zo14irriiiiiirriirrrrlriiii m0 th aS aI im ac sp en wg op aB aT se dn aG aO aN aD bv aY rn kd nu tv), (zaI aS cS 901 fS9), (zaI aI cI 901 fI)] t.heap ∧ va_K (dC, dI) vwCl [(cS, .int), (cI, .int)] t ∧ va_D (va_A [(zo14irriiiiiirriirrrrlriiii m0 th aS aI im ac sp en wg op aB aT se dn aG aO aN aD bv aY rn kd nu tv), (zaI aS cS 901 fS), (zaI aI cI 901 fI)] sz) [(zo14irriiiiiirriirrrrlriiii m0 th aS aI im ac sp en wg op aB aT se dn aG aO aN aD bv aY rn kd nu tv), (zaI aS cS 901 fS9), (zaI aI cI 901 fI)]) (va_A [(zo14irriiiiiirriirrrrlriiii m0 th aS aI im ac sp en wg op aB aT se dn aG aO aN aD bv aY rn kd nu tv), (zaI aS cS 901 fS), (zaI aI cI 901 fI)] sz)) 0 0 (va_A [(zo14irriiiiiirriirrrrlriiii m0 th aS aI im ac sp en wg op aB aT se dn aG aO aN aD bv aY rn kd nu tv), (zaI aS cS 901 fS), (zaI aI cI 901 fI)] sz) := by
  refine met_ofQ (cc := cX12_undo) (maxL := 2) (ret := (some .int)) (by decide) rfl ?_
  intro p e s m args below meth c s₁ Q B hml hv hQ
  obtain ⟨rfl, hsz, hP, hK, hD0⟩ := hv
  have hx := B.exec
  have hb := B.bytes
  have hr := B.returns
  have hts := atoms_spec (ws := wsX12_undo) B.pre
  have hown : s.vm.findClass RX12 = some m.cls := findClass_of_methodNamed B.named
  have hlocks := B.notSynchronized
  subst hsz
  have hD := hD0.self (sz := s.heap.size)
  generalize hAe : va_A [(zo14irriiiiiirriirrrrlriiii m0 th aS aI im ac sp en wg op aB aT se dn aG aO aN aD bv aY rn kd nu tv), (zaI aS cS 901 fS), (zaI aI cI 901 fI)] s.heap.size = A at hD hQ ⊢
  have hA : ∀ q : Nat, s.heap.size ≤ q → A q := fun q h => by rw [← hAe]; exact Or.inr h
  have hS : va_S A s.heap s.heap [] := va_S.rf
  have hl := lv_entry [.ref m0] (n := 2) (Nat.le_of_ble_eq_true rfl)
  rw [lg_entry_eq]
  generalize (lg_sl [.ref m0] ++ List.replicate (2 - (lg_sl [.ref m0]).length) Slot.unset).toArray = ls at hl ⊢
  generalize hag : ([.ref m0] : List Value).toArray = args at hts hQ ⊢
  have hl : lv_has ls 2 [(0, .ref m0)] := hl
  obtain ⟨H, hH⟩ : ∃ H : Heap, H = s.heap := ⟨_, rfl⟩
  rw [← hH] at hP
  rw [← hH]
  have hS : va_S A s.heap H [] := by rw [hH]; exact hS
  obtain ⟨locs, hlo⟩ : ∃ L : List Loc, L = [] := ⟨_, rfl⟩
  rw [← hlo] at hS
  rw [← hlo]
  clear hH hlo
  refine lv_aload_n hx hb dX12_undo_0 rfl (lv_at hl 0 rfl) ?_
  refine va_get (D := (dC, dI)) (ci := 14) (v := .int im) (C := RX12) (T := TX12) (N := 23) hx hb hts kc_mUndo_0 hown hK hP 0 rfl rfl 3 (by decide) (hts (.fieldLink RX12 282 "MistHeapsModel" "hasImage" "Z") kc_mUndo_1) (fun _ h9 => h9) rfl dX12_undo_1 ?_
  refine lv_if_ne (tgt := 10) hx hb dX12_undo_4 (by decide) (fun c_1 => ?_) (fun c_1 => ?_)
  · skip
    refine lv_iconst (v := 0) hx hb dX12_undo_10 (by decide) ?_
    refine lv_istore_n (lv' := [(1, .int 0), (0, .ref m0)]) hx hb dX12_undo_11 rfl hl (by decide) rfl (fun ls hl => ?_)
    have L12 : ∀ (nF : Nat) (i : Nat) (g : Nat → Int32), 901 - i < nF → (i ≤ 901) → (∀ k, k < i → g k = fI k) → ∀ (H : Heap) (locs : List Loc), va_K (dC, dI) vwCl [(cS, .int), (cI, .int)] s → va_P (dC, dI) vwCl [(zo14irriiiiiirriirrrrlriiii m0 th aS aI im ac sp en wg op aB aT se dn aG aO aN aD bv aY rn kd nu tv), (zaI aS cS 901 g), (zaI aI cI 901 fI)] H → va_D A [(zo14irriiiiiirriirrrrlriiii m0 th aS aI im ac sp en wg op aB aT se dn aG aO aN aD bv aY rn kd nu tv), (zaI aS cS 901 g), (zaI aI cI 901 fI)] → va_S A s.heap H locs → ∀ (ls : Array Slot), lv_has ls 2 [(0, .ref m0), (1, .int (nI i))] → W p l e ({ frames := 0, cells := 0, slots := 0, locals := 0 } : Room) s m args below meth c H locs 0 0 Q (F0 m 12 ls []) := by
      intro nF
      induction nF with
      | zero => intro i g hm; exact absurd hm (Nat.not_lt_zero _)
      | succ nF ih12 =>
        intro i g hm hi zg H locs hK hP hD hS ls hl
        refine lv_iload_n hx hb dX12_undo_12 rfl (lv_at hl 1 rfl) ?_
        refine lv_sipush (v := 901) hx hb dX12_undo_13 (by decide) ?_
        refine lv_icmp_ge (tgt := 37) hx hb dX12_undo_16 (by decide) (fun c_2 => ?_) (fun c_2 => ?_)
        · skip
          have c_2 : 901 ≤ i := (nI_leI (a := 901) (b := i) (by omega) (by omega)).mp c_2
          refine lv_aload_n hx hb dX12_undo_37 rfl (lv_at hl 0 rfl) ?_
          refine va_get (D := (dC, dI)) (ci := 14) (v := .ref aS) (C := RX12) (T := TX12) (N := 23) hx hb hts kc_mUndo_0 hown hK hP 0 rfl rfl 1 (by decide) (hts (.fieldLink RX12 9 "MistHeapsModel" "s" "[I") kc_mUndo_2) (fun _ h9 => h9) rfl dX12_undo_38 ?_
          refine lv_iconst (v := 0) hx hb dX12_undo_41 (by decide) ?_
          refine va_iald hx hb hK hP 1 0 rfl rfl (vp_in_nI (n := 0) (N := 901) (by omega) (by omega)) dX12_undo_42 ?_
          refine qi_as (y := g 0) (rfl) ?_
          rw [hQ]
          have hP9 := hP.sub (ws' := [(zo14irriiiiiirriirrrrlriiii m0 th aS aI im ac sp en wg op aB aT se dn aG aO aN aD bv aY rn kd nu tv), (zaI aS cS 901 g), (zaI aI cI 901 fI)]) [0, 1, 2] rfl
          have hD9 := hD.sub (ws' := [(zo14irriiiiiirriirrrrlriiii m0 th aS aI im ac sp en wg op aB aT se dn aG aO aN aD bv aY rn kd nu tv), (zaI aS cS 901 g), (zaI aI cI 901 fI)]) [0, 1, 2] (by decide) rfl
          have hK9 := hK.sub (tys' := [(cS, .int), (cI, .int)]) [0, 1] rfl
          exact W.iret (v := g 0) hx hb hr (fun tQ htQ hWQ => ⟨⟨(g 0), g, rfl, by first | exact Or.inl ⟨by assumption, rfl, rfl⟩ | exact Or.inr ⟨by assumption, zg 0 (by omega), fun k hk => zg k (by omega)⟩, by rw [htQ]; exact hP9, va_K.moved hWQ.alike hK9, hD9⟩, hS.F htQ⟩) hS.2.2 dX12_undo_43
        · skip
          have c_2 : ¬ 901 ≤ i := fun q => c_2 ((nI_leI (a := 901) (b := i) (by omega) (by omega)).mpr q)
          refine lv_aload_n hx hb dX12_undo_19 rfl (lv_at hl 0 rfl) ?_
          refine va_get (D := (dC, dI)) (ci := 14) (v := .ref aS) (C := RX12) (T := TX12) (N := 23) hx hb hts kc_mUndo_0 hown hK hP 0 rfl rfl 1 (by decide) (hts (.fieldLink RX12 9 "MistHeapsModel" "s" "[I") kc_mUndo_2) (fun _ h9 => h9) rfl dX12_undo_20 ?_
          refine lv_iload_n hx hb dX12_undo_23 rfl (lv_at hl 1 rfl) ?_
          refine lv_aload_n hx hb dX12_undo_24 rfl (lv_at hl 0 rfl) ?_
          refine va_get (D := (dC, dI)) (ci := 14) (v := .ref aI) (C := RX12) (T := TX12) (N := 23) hx hb hts kc_mUndo_0 hown hK hP 0 rfl rfl 2 (by decide) (hts (.fieldLink RX12 15 "MistHeapsModel" "image" "[I") kc_mUndo_3) (fun _ h9 => h9) rfl dX12_undo_25 ?_
          refine lv_iload_n hx hb dX12_undo_28 rfl (lv_at hl 1 rfl) ?_
          refine va_iald hx hb hK hP 2 1 rfl rfl (vp_in_nI (n := i) (N := 901) (by omega) (by omega)) dX12_undo_29 ?_
          refine qi_as (y := fI i) (by rw [nI_clamp (by omega)]) ?_
          refine va_iast hx hb hK hP hD hS 1 0 rfl rfl (vp_in_nI (n := i) (N := 901) (by omega) (by omega)) dX12_undo_30 (fun H locs hP hD hS => ?_)
          rw [nI_clamp (n := i) (by omega)] at hP hD
          have hP : va_P (dC, dI) vwCl [(zo14irriiiiiirriirrrrlriiii m0 th aS aI im ac sp en wg op aB aT se dn aG aO aN aD bv aY rn kd nu tv), (zaI aS cS 901 (upd g i (fI i))), (zaI aI cI 901 fI)] H := hP
          have hD : va_D A [(zo14irriiiiiirriirrrrlriiii m0 th aS aI im ac sp en wg op aB aT se dn aG aO aN aD bv aY rn kd nu tv), (zaI aS cS 901 (upd g i (fI i))), (zaI aI cI 901 fI)] := hD
          refine lv_iinc (v := nI (i + 1)) (lv' := [(1, .int (nI (i + 1))), (0, .ref m0)]) hx hb dX12_undo_31 hl (k := 1) rfl (nI_add i 1) (by decide) rfl (fun ls hl => ?_)
          refine lv_goto (tgt := 12) hx hb dX12_undo_34 (by decide) ?_
          exact ih12 (i + 1) _ (by omega) (by omega) (cp_step zg) _ _ (hK.sub [0, 1] rfl) (hP.sub [0, 1, 2] rfl) (hD.sub [0, 1, 2] (by decide) rfl) hS ls (lv_sub hl [1, 0] rfl)
    exact L12 _ (0) _ (Nat.lt_succ_self _) (by omega) (fun _ h => absurd h (Nat.not_lt_zero _)) _ _ (hK.sub [0, 1] rfl) (hP.sub [0, 1, 2] rfl) (hD.sub [0, 1, 2] (by decide) rfl) hS ls (lv_sub hl [1, 0] rfl)
  · skip
    refine lv_bipush (v := (-3)) hx hb dX12_undo_7 (by decide) ?_
    rw [hQ]
    have hP9 := hP.sub (ws' := [(zo14irriiiiiirriirrrrlriiii m0 th aS aI im ac sp en wg op aB aT se dn aG aO aN aD bv aY rn kd nu tv), (zaI aS cS 901 fS), (zaI aI cI 901 fI)]) [0, 1, 2] rfl
    have hD9 := hD.sub (ws' := [(zo14irriiiiiirriirrrrlriiii m0 th aS aI im ac sp en wg op aB aT se dn aG aO aN aD bv aY rn kd nu tv), (zaI aS cS 901 fS), (zaI aI cI 901 fI)]) [0, 1, 2] (by decide) rfl
    have hK9 := hK.sub (tys' := [(cS, .int), (cI, .int)]) [0, 1] rfl
    exact W.iret (v := (-3)) hx hb hr (fun tQ htQ hWQ => ⟨⟨(-3), fS, rfl, by first | exact Or.inl ⟨by assumption, rfl, rfl⟩ | exact Or.inr ⟨by assumption, zg 0 (by omega), fun k hk => zg k (by omega)⟩, by rw [htQ]; exact hP9, va_K.moved hWQ.alike hK9, hD9⟩, hS.F htQ⟩) hS.2.2 dX12_undo_9

theorem kc_mCount_0 : ∀ w ∈ wsX120, w ∈ wsX12_count := fun w h => List.mem_cons_of_mem _ (gin_wsX120 w h)
theorem kc_mCount_1 : (.fieldLink RX12 9 "MistHeapsModel" "s" "[I" : Cond) ∈ wsX12_count := kc_of 1141 rfl rfl rfl
theorem kc_mCount_2 : (.fieldLink RX12 246 "MistHeapsModel" "ran" "I" : Cond) ∈ wsX12_count := kc_of 1159 rfl rfl rfl
set_option maxHeartbeats 4000000 in
set_option maxRecDepth 100000 in
theorem c_mCount (l : Launch) (dC : Nat → ClassId) (dI : Nat → Nat → Nat) (m0 aS aI aB aT aG aO aN aD aY : Nat) (th im ac sp en wg op se dn rn kd nu tv : Int32) (bv : Int64) (cS : ClassId) (fS : Nat → Int32) (n nl wk kb tp : Nat) (tl : List Nat) (x : Int32) (zn : fS 0 = nI n) (z1 : fS 1 = nI nl) (zw : fS 2 = nI wk) (zk : fS 3 = nI kb) (zt : fS 4 = nI tp) : Met l yX12_count wsX12_count ({ frames := 0, cells := 0, slots := 0, locals := 0 } : Room) (va_Pc [.ref m0, .int x] (fun U => va_P (dC, dI) vwCl [(zo14irriiiiiirriirrrrlriiii m0 th aS aI im ac sp en wg op aB aT se dn aG aO aN aD bv aY (nI tl.length) kd nu tv), (zaI aS cS 901 fS)] U.heap ∧ va_K (dC, dI) vwCl [(cS, .int)] U)) (vp_Si (fun r => r = ctR n nl wk kb tp tl x)) 0 0 (fun _ => False) := by
  refine met_ofQ (cc := cX12_count) (maxL := 2) (ret := (some .int)) (by decide) rfl ?_
  intro p e s m args below meth c s₁ Q B hml hv hQ
  obtain ⟨rfl, hP, hK⟩ := hv
  have hx := B.exec
  have hb := B.bytes
  have hr := B.returns
  have hts := atoms_spec (ws := wsX12_count) B.pre
  have hown : s.vm.findClass RX12 = some m.cls := findClass_of_methodNamed B.named
  have hlocks := B.notSynchronized
  obtain ⟨A, hAe⟩ : ∃ A : Nat → Prop, A = fun _ => False := ⟨_, rfl⟩
  rw [← hAe] at hQ
  have hS : va_S A s.heap s.heap [] := va_S.rf
  have hl := lv_entry [.ref m0, .int x] (n := 2) (Nat.le_of_ble_eq_true rfl)
  rw [lg_entry_eq]
  generalize (lg_sl [.ref m0, .int x] ++ List.replicate (2 - (lg_sl [.ref m0, .int x]).length) Slot.unset).toArray = ls at hl ⊢
  generalize hag : ([.ref m0, .int x] : List Value).toArray = args at hts hQ ⊢
  have hl : lv_has ls 2 [(0, .ref m0), (1, .int x)] := hl
  refine lv_iload_n hx hb dX12_count_0 rfl (lv_at hl 1 rfl) ?_
  by_cases c_1_0 : x = 0
  · skip
    refine lv_tableIn (tgt := 40) hx hb dX12_count_1 (by rw [c_1_0]; decide) (by rw [c_1_0]; decide) (by rw [c_1_0]; rfl) (by decide) ?_
    refine lv_aload_n hx hb dX12_count_40 rfl (lv_at hl 0 rfl) ?_
    refine va_get (D := (dC, dI)) (ci := 14) (v := .ref aS) (C := RX12) (T := TX12) (N := 23) hx hb hts kc_mCount_0 hown hK hP 0 rfl rfl 1 (by decide) (hts (.fieldLink RX12 9 "MistHeapsModel" "s" "[I") kc_mCount_1) (fun _ h9 => h9) rfl dX12_count_41 ?_
    refine lv_iconst (v := 0) hx hb dX12_count_44 (by decide) ?_
    refine va_iald hx hb hK hP 1 0 rfl rfl (vp_in_nI (n := 0) (N := 901) (by omega) (by omega)) dX12_count_45 ?_
    refine qi_as (y := nI n) ((show fS (0 : Int32).toNatClampNeg = fS 0 from rfl).trans (zn)) ?_
    rw [hQ]
    exact W.iret (v := nI n) hx hb hr (fun tQ htQ hWQ => ⟨nI n, rfl, ct_0 (by assumption), by rw [htQ]⟩) (fun q hq => absurd hq List.not_mem_nil) dX12_count_46
  by_cases c_1_1 : x = 1
  · skip
    refine lv_tableIn (tgt := 47) hx hb dX12_count_1 (by rw [c_1_1]; decide) (by rw [c_1_1]; decide) (by rw [c_1_1]; rfl) (by decide) ?_
    refine lv_aload_n hx hb dX12_count_47 rfl (lv_at hl 0 rfl) ?_
    refine va_get (D := (dC, dI)) (ci := 14) (v := .ref aS) (C := RX12) (T := TX12) (N := 23) hx hb hts kc_mCount_0 hown hK hP 0 rfl rfl 1 (by decide) (hts (.fieldLink RX12 9 "MistHeapsModel" "s" "[I") kc_mCount_1) (fun _ h9 => h9) rfl dX12_count_48 ?_
    refine lv_iconst (v := 1) hx hb dX12_count_51 (by decide) ?_
    refine va_iald hx hb hK hP 1 0 rfl rfl (vp_in_nI (n := 1) (N := 901) (by omega) (by omega)) dX12_count_52 ?_
    refine qi_as (y := nI nl) ((show fS (1 : Int32).toNatClampNeg = fS 1 from rfl).trans (z1)) ?_
    rw [hQ]
    exact W.iret (v := nI nl) hx hb hr (fun tQ htQ hWQ => ⟨nI nl, rfl, ct_1 (by assumption), by rw [htQ]⟩) (fun q hq => absurd hq List.not_mem_nil) dX12_count_53
  by_cases c_1_2 : x = 2
  · skip
    refine lv_tableIn (tgt := 54) hx hb dX12_count_1 (by rw [c_1_2]; decide) (by rw [c_1_2]; decide) (by rw [c_1_2]; rfl) (by decide) ?_
    refine lv_aload_n hx hb dX12_count_54 rfl (lv_at hl 0 rfl) ?_
    refine va_get (D := (dC, dI)) (ci := 14) (v := .ref aS) (C := RX12) (T := TX12) (N := 23) hx hb hts kc_mCount_0 hown hK hP 0 rfl rfl 1 (by decide) (hts (.fieldLink RX12 9 "MistHeapsModel" "s" "[I") kc_mCount_1) (fun _ h9 => h9) rfl dX12_count_55 ?_
    refine lv_iconst (v := 2) hx hb dX12_count_58 (by decide) ?_
    refine va_iald hx hb hK hP 1 0 rfl rfl (vp_in_nI (n := 2) (N := 901) (by omega) (by omega)) dX12_count_59 ?_
    refine qi_as (y := nI wk) ((show fS (2 : Int32).toNatClampNeg = fS 2 from rfl).trans (zw)) ?_
    rw [hQ]
    exact W.iret (v := nI wk) hx hb hr (fun tQ htQ hWQ => ⟨nI wk, rfl, ct_2 (by assumption), by rw [htQ]⟩) (fun q hq => absurd hq List.not_mem_nil) dX12_count_60
  by_cases c_1_3 : x = 3
  · skip
    refine lv_tableIn (tgt := 61) hx hb dX12_count_1 (by rw [c_1_3]; decide) (by rw [c_1_3]; decide) (by rw [c_1_3]; rfl) (by decide) ?_
    refine lv_aload_n hx hb dX12_count_61 rfl (lv_at hl 0 rfl) ?_
    refine va_get (D := (dC, dI)) (ci := 14) (v := .ref aS) (C := RX12) (T := TX12) (N := 23) hx hb hts kc_mCount_0 hown hK hP 0 rfl rfl 1 (by decide) (hts (.fieldLink RX12 9 "MistHeapsModel" "s" "[I") kc_mCount_1) (fun _ h9 => h9) rfl dX12_count_62 ?_
    refine lv_iconst (v := 3) hx hb dX12_count_65 (by decide) ?_
    refine va_iald hx hb hK hP 1 0 rfl rfl (vp_in_nI (n := 3) (N := 901) (by omega) (by omega)) dX12_count_66 ?_
    refine qi_as (y := nI kb) ((show fS (3 : Int32).toNatClampNeg = fS 3 from rfl).trans (zk)) ?_
    rw [hQ]
    exact W.iret (v := nI kb) hx hb hr (fun tQ htQ hWQ => ⟨nI kb, rfl, ct_3 (by assumption), by rw [htQ]⟩) (fun q hq => absurd hq List.not_mem_nil) dX12_count_67
  by_cases c_1_4 : x = 4
  · skip
    refine lv_tableIn (tgt := 68) hx hb dX12_count_1 (by rw [c_1_4]; decide) (by rw [c_1_4]; decide) (by rw [c_1_4]; rfl) (by decide) ?_
    refine lv_aload_n hx hb dX12_count_68 rfl (lv_at hl 0 rfl) ?_
    refine va_get (D := (dC, dI)) (ci := 14) (v := .ref aS) (C := RX12) (T := TX12) (N := 23) hx hb hts kc_mCount_0 hown hK hP 0 rfl rfl 1 (by decide) (hts (.fieldLink RX12 9 "MistHeapsModel" "s" "[I") kc_mCount_1) (fun _ h9 => h9) rfl dX12_count_69 ?_
    refine lv_iconst (v := 4) hx hb dX12_count_72 (by decide) ?_
    refine va_iald hx hb hK hP 1 0 rfl rfl (vp_in_nI (n := 4) (N := 901) (by omega) (by omega)) dX12_count_73 ?_
    refine qi_as (y := nI tp) ((show fS (4 : Int32).toNatClampNeg = fS 4 from rfl).trans (zt)) ?_
    rw [hQ]
    exact W.iret (v := nI tp) hx hb hr (fun tQ htQ hWQ => ⟨nI tp, rfl, ct_4 (by assumption), by rw [htQ]⟩) (fun q hq => absurd hq List.not_mem_nil) dX12_count_74
  by_cases c_1_5 : x = 5
  · skip
    refine lv_tableIn (tgt := 75) hx hb dX12_count_1 (by rw [c_1_5]; decide) (by rw [c_1_5]; decide) (by rw [c_1_5]; rfl) (by decide) ?_
    refine lv_aload_n hx hb dX12_count_75 rfl (lv_at hl 0 rfl) ?_
    refine va_get (D := (dC, dI)) (ci := 14) (v := .int (nI tl.length)) (C := RX12) (T := TX12) (N := 23) hx hb hts kc_mCount_0 hown hK hP 0 rfl rfl 19 (by decide) (hts (.fieldLink RX12 246 "MistHeapsModel" "ran" "I") kc_mCount_2) (fun _ h9 => h9) rfl dX12_count_76 ?_
    rw [hQ]
    exact W.iret (v := nI tl.length) hx hb hr (fun tQ htQ hWQ => ⟨nI tl.length, rfl, ct_5 (by assumption), by rw [htQ]⟩) (fun q hq => absurd hq List.not_mem_nil) dX12_count_79
  refine lv_tableOut (tgt := 80) hx hb dX12_count_1 (sw_out 0 5 x (fun k hk => by
    match k, hk with
    | 0, _ => exact c_1_0
    | 1, _ => exact c_1_1
    | 2, _ => exact c_1_2
    | 3, _ => exact c_1_3
    | 4, _ => exact c_1_4
    | 5, _ => exact c_1_5
    | k + 6, hk => exact absurd hk (by omega))) (by decide) ?_
  refine lv_iconst (v := (-1)) hx hb dX12_count_80 (by decide) ?_
  rw [hQ]
  exact W.iret (v := (-1)) hx hb hr (fun tQ htQ hWQ => ⟨(-1), rfl, ct_n (by assumption) (by assumption) (by assumption) (by assumption) (by assumption) (by assumption), by rw [htQ]⟩) (fun q hq => absurd hq List.not_mem_nil) dX12_count_81
end mg10a
