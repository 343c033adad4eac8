theorem ggX12_goesBy_X12_begins : GoodIn wsX12_goesBy wsX12_begins := gga_of 1424 rfl rfl rfl
theorem gX12_goesBy_X12_begins : GoodIn wsX12_goesBy (wsV RX12 212 RX12 yX12_begins wsX12_begins) := goodIn_app (ggh_of [1421, 1423, 49, 72] rfl rfl rfl) ggX12_goesBy_X12_begins
theorem ggX12_goesBy_X12_goesOn : GoodIn wsX12_goesBy wsX12_goesOn := gga_of 1428 rfl rfl rfl
theorem gX12_goesBy_X12_goesOn : GoodIn wsX12_goesBy (wsV RX12 215 RX12 yX12_goesOn wsX12_goesOn) := goodIn_app (ggh_of [1425, 1427, 50, 72] rfl rfl rfl) ggX12_goesBy_X12_goesOn
theorem ggX12_bestRow_X12_looksForDrifts : GoodIn wsX12_bestRow wsX12_looksForDrifts := gga_of 1420 rfl rfl rfl
theorem gX12_bestRow_X12_looksForDrifts : GoodIn wsX12_bestRow (wsV RX12 209 RX12 yX12_looksForDrifts wsX12_looksForDrifts) := goodIn_app (ggh_of [1417, 1419, 48, 72] rfl rfl rfl) ggX12_bestRow_X12_looksForDrifts
theorem ggX12_bestRow_X12_goesBy : GoodIn wsX12_bestRow wsX12_goesBy := gga_of 1458 rfl rfl rfl
theorem gX12_bestRow_X12_goesBy : GoodIn wsX12_bestRow (wsV RX12 233 RX12 yX12_goesBy wsX12_goesBy) := goodIn_app (ggh_of [1455, 1457, 54, 72] rfl rfl rfl) ggX12_bestRow_X12_goesBy
theorem ggX12_bestRow_X12_over : GoodIn wsX12_bestRow wsX12_over := gga_of 1440 rfl rfl rfl
theorem gX12_bestRow_X12_over : GoodIn wsX12_bestRow (wsV RX12 222 RX12 yX12_over wsX12_over) := goodIn_app (ggh_of [1437, 1439, 52, 72] rfl rfl rfl) ggX12_bestRow_X12_over
theorem ggX12_best_X12_isCell : GoodIn wsX12_best wsX12_isCell := gga_of 1304 rfl rfl rfl
theorem gX12_best_X12_isCell : GoodIn wsX12_best (va_wsS RX12 149 yX12_isCell wsX12_isCell) := goodIn_app (ggh_of [1302, 1303, 72] rfl rfl rfl) ggX12_best_X12_isCell
theorem ggX12_best_X12_in : GoodIn wsX12_best wsX12_in := gga_of 1217 rfl rfl rfl
theorem gX12_best_X12_in : GoodIn wsX12_best (va_wsS RX12 45 yX12_in wsX12_in) := goodIn_app (ggh_of [1215, 1216, 72] rfl rfl rfl) ggX12_best_X12_in
theorem ggX12_best_X12_bestRow : GoodIn wsX12_best wsX12_bestRow := gga_of 1454 rfl rfl rfl
theorem gX12_best_X12_bestRow : GoodIn wsX12_best (wsV RX12 240 RX12 yX12_bestRow wsX12_bestRow) := goodIn_app (ggh_of [1451, 1453, 53, 72] rfl rfl rfl) ggX12_best_X12_bestRow
theorem ggX12_best_X12_wayOf : GoodIn wsX12_best wsX12_wayOf := gga_of 1461 rfl rfl rfl
theorem gX12_best_X12_wayOf : GoodIn wsX12_best (va_wsS RX12 243 yX12_wayOf wsX12_wayOf) := goodIn_app (ggh_of [1459, 1460, 72] rfl rfl rfl) ggX12_best_X12_wayOf
theorem ggX12_bestOdds_X12_isCell : GoodIn wsX12_bestOdds wsX12_isCell := gga_of 1304 rfl rfl rfl
theorem gX12_bestOdds_X12_isCell : GoodIn wsX12_bestOdds (va_wsS RX12 149 yX12_isCell wsX12_isCell) := goodIn_app (ggh_of [1302, 1303, 72] rfl rfl rfl) ggX12_bestOdds_X12_isCell
theorem ggX12_bestOdds_X12_in : GoodIn wsX12_bestOdds wsX12_in := gga_of 1217 rfl rfl rfl
theorem gX12_bestOdds_X12_in : GoodIn wsX12_bestOdds (va_wsS RX12 45 yX12_in wsX12_in) := goodIn_app (ggh_of [1215, 1216, 72] rfl rfl rfl) ggX12_bestOdds_X12_in
theorem ggX12_bestOdds_X12_bestRow : GoodIn wsX12_bestOdds wsX12_bestRow := gga_of 1454 rfl rfl rfl
theorem gX12_bestOdds_X12_bestRow : GoodIn wsX12_bestOdds (wsV RX12 240 RX12 yX12_bestRow wsX12_bestRow) := goodIn_app (ggh_of [1451, 1453, 53, 72] rfl rfl rfl) ggX12_bestOdds_X12_bestRow
theorem ggX12_bestOdds_X12_twenties : GoodIn wsX12_bestOdds wsX12_twenties := gga_of 1443 rfl rfl rfl
theorem gX12_bestOdds_X12_twenties : GoodIn wsX12_bestOdds (va_wsS RX12 226 yX12_twenties wsX12_twenties) := goodIn_app (ggh_of [1441, 1442, 72] rfl rfl rfl) ggX12_bestOdds_X12_twenties
theorem ggX12_bestOdds_X12_lowest : GoodIn wsX12_bestOdds wsX12_lowest := gga_of 1446 rfl rfl rfl
theorem gX12_bestOdds_X12_lowest : GoodIn wsX12_bestOdds (va_wsS RX12 229 yX12_lowest wsX12_lowest) := goodIn_app (ggh_of [1444, 1445, 72] rfl rfl rfl) ggX12_bestOdds_X12_lowest
theorem ggX12_safe_X12_isCell : GoodIn wsX12_safe wsX12_isCell := gga_of 1304 rfl rfl rfl
theorem gX12_safe_X12_isCell : GoodIn wsX12_safe (va_wsS RX12 149 yX12_isCell wsX12_isCell) := goodIn_app (ggh_of [1302, 1303, 72] rfl rfl rfl) ggX12_safe_X12_isCell
theorem ggX12_safe_X12_in : GoodIn wsX12_safe wsX12_in := gga_of 1217 rfl rfl rfl
theorem gX12_safe_X12_in : GoodIn wsX12_safe (va_wsS RX12 45 yX12_in wsX12_in) := goodIn_app (ggh_of [1215, 1216, 72] rfl rfl rfl) ggX12_safe_X12_in
theorem ggX12_safe_X12_bestRow : GoodIn wsX12_safe wsX12_bestRow := gga_of 1454 rfl rfl rfl
theorem gX12_safe_X12_bestRow : GoodIn wsX12_safe (wsV RX12 240 RX12 yX12_bestRow wsX12_bestRow) := goodIn_app (ggh_of [1451, 1453, 53, 72] rfl rfl rfl) ggX12_safe_X12_bestRow
theorem ggX12_safe_X12_wayOf : GoodIn wsX12_safe wsX12_wayOf := gga_of 1461 rfl rfl rfl
theorem gX12_safe_X12_wayOf : GoodIn wsX12_safe (va_wsS RX12 243 yX12_wayOf wsX12_wayOf) := goodIn_app (ggh_of [1459, 1460, 72] rfl rfl rfl) ggX12_safe_X12_wayOf
noncomputable def dk09cref6_cX12_goesBy_0 : List (Nat × Instr × Nat) := [(0, .aload_n 0, 1), (1, .iload_n 1, 1), (2, .invokevirtual 212, 3), (5, .iload_n 3, 1), (6, .istore 4, 2), (8, .iload 4, 2), (10, .ifCond .le 50, 3), (60, .return_, 1), (13, .iinc 4 (-1), 3), (16, .iload 4, 2), (18, .iconst 2, 1), (49, .istore 5, 2), (51, .aload_n 0, 1), (52, .iload 5, 2), (54, .invokevirtual 215, 3), (57, .goto (-49), 3), (19, .if_icmp .ne 10, 3), (29, .iload 4, 2), (31, .iconst 1, 1), (32, .if_icmp .ne 13, 3), (45, .iload_n 2, 1), (46, .bipush 8, 2), (48, .irem, 1), (35, .iload_n 2, 1), (36, .bipush 8, 2), (38, .idiv, 1), (39, .bipush 8, 2), (41, .irem, 1), (42, .goto 7, 3), (22, .iload_n 2, 1), (23, .bipush 64, 2), (25, .idiv, 1), (26, .goto 23, 3)]
set_option maxRecDepth 100000 in
theorem dk09cref6_cX12_goesBy_0_a : dkA cX12_goesBy dk09cref6_cX12_goesBy_0 = true := by decide +kernel
theorem dX12_goesBy_0 : decode cX12_goesBy 0 = .ok (.aload_n 0, 1) := dkAt dk09cref6_cX12_goesBy_0_a 0 rfl
theorem dX12_goesBy_1 : decode cX12_goesBy 1 = .ok (.iload_n 1, 1) := dkAt dk09cref6_cX12_goesBy_0_a 1 rfl
theorem dX12_goesBy_2 : decode cX12_goesBy 2 = .ok (.invokevirtual 212, 3) := dkAt dk09cref6_cX12_goesBy_0_a 2 rfl
theorem dX12_goesBy_5 : decode cX12_goesBy 5 = .ok (.iload_n 3, 1) := dkAt dk09cref6_cX12_goesBy_0_a 3 rfl
theorem dX12_goesBy_6 : decode cX12_goesBy 6 = .ok (.istore 4, 2) := dkAt dk09cref6_cX12_goesBy_0_a 4 rfl
theorem dX12_goesBy_8 : decode cX12_goesBy 8 = .ok (.iload 4, 2) := dkAt dk09cref6_cX12_goesBy_0_a 5 rfl
theorem dX12_goesBy_10 : decode cX12_goesBy 10 = .ok (.ifCond .le 50, 3) := dkAt dk09cref6_cX12_goesBy_0_a 6 rfl
theorem dX12_goesBy_60 : decode cX12_goesBy 60 = .ok (.return_, 1) := dkAt dk09cref6_cX12_goesBy_0_a 7 rfl
theorem dX12_goesBy_13 : decode cX12_goesBy 13 = .ok (.iinc 4 (-1), 3) := dkAt dk09cref6_cX12_goesBy_0_a 8 rfl
theorem dX12_goesBy_16 : decode cX12_goesBy 16 = .ok (.iload 4, 2) := dkAt dk09cref6_cX12_goesBy_0_a 9 rfl
theorem dX12_goesBy_18 : decode cX12_goesBy 18 = .ok (.iconst 2, 1) := dkAt dk09cref6_cX12_goesBy_0_a 10 rfl
theorem dX12_goesBy_49 : decode cX12_goesBy 49 = .ok (.istore 5, 2) := dkAt dk09cref6_cX12_goesBy_0_a 11 rfl
theorem dX12_goesBy_51 : decode cX12_goesBy 51 = .ok (.aload_n 0, 1) := dkAt dk09cref6_cX12_goesBy_0_a 12 rfl
theorem dX12_goesBy_52 : decode cX12_goesBy 52 = .ok (.iload 5, 2) := dkAt dk09cref6_cX12_goesBy_0_a 13 rfl
theorem dX12_goesBy_54 : decode cX12_goesBy 54 = .ok (.invokevirtual 215, 3) := dkAt dk09cref6_cX12_goesBy_0_a 14 rfl
theorem dX12_goesBy_57 : decode cX12_goesBy 57 = .ok (.goto (-49), 3) := dkAt dk09cref6_cX12_goesBy_0_a 15 rfl
theorem dX12_goesBy_19 : decode cX12_goesBy 19 = .ok (.if_icmp .ne 10, 3) := dkAt dk09cref6_cX12_goesBy_0_a 16 rfl
theorem dX12_goesBy_29 : decode cX12_goesBy 29 = .ok (.iload 4, 2) := dkAt dk09cref6_cX12_goesBy_0_a 17 rfl
theorem dX12_goesBy_31 : decode cX12_goesBy 31 = .ok (.iconst 1, 1) := dkAt dk09cref6_cX12_goesBy_0_a 18 rfl
theorem dX12_goesBy_32 : decode cX12_goesBy 32 = .ok (.if_icmp .ne 13, 3) := dkAt dk09cref6_cX12_goesBy_0_a 19 rfl
theorem dX12_goesBy_45 : decode cX12_goesBy 45 = .ok (.iload_n 2, 1) := dkAt dk09cref6_cX12_goesBy_0_a 20 rfl
theorem dX12_goesBy_46 : decode cX12_goesBy 46 = .ok (.bipush 8, 2) := dkAt dk09cref6_cX12_goesBy_0_a 21 rfl
theorem dX12_goesBy_48 : decode cX12_goesBy 48 = .ok (.irem, 1) := dkAt dk09cref6_cX12_goesBy_0_a 22 rfl
theorem dX12_goesBy_35 : decode cX12_goesBy 35 = .ok (.iload_n 2, 1) := dkAt dk09cref6_cX12_goesBy_0_a 23 rfl
theorem dX12_goesBy_36 : decode cX12_goesBy 36 = .ok (.bipush 8, 2) := dkAt dk09cref6_cX12_goesBy_0_a 24 rfl
theorem dX12_goesBy_38 : decode cX12_goesBy 38 = .ok (.idiv, 1) := dkAt dk09cref6_cX12_goesBy_0_a 25 rfl
theorem dX12_goesBy_39 : decode cX12_goesBy 39 = .ok (.bipush 8, 2) := dkAt dk09cref6_cX12_goesBy_0_a 26 rfl
theorem dX12_goesBy_41 : decode cX12_goesBy 41 = .ok (.irem, 1) := dkAt dk09cref6_cX12_goesBy_0_a 27 rfl
theorem dX12_goesBy_42 : decode cX12_goesBy 42 = .ok (.goto 7, 3) := dkAt dk09cref6_cX12_goesBy_0_a 28 rfl
theorem dX12_goesBy_22 : decode cX12_goesBy 22 = .ok (.iload_n 2, 1) := dkAt dk09cref6_cX12_goesBy_0_a 29 rfl
theorem dX12_goesBy_23 : decode cX12_goesBy 23 = .ok (.bipush 64, 2) := dkAt dk09cref6_cX12_goesBy_0_a 30 rfl
theorem dX12_goesBy_25 : decode cX12_goesBy 25 = .ok (.idiv, 1) := dkAt dk09cref6_cX12_goesBy_0_a 31 rfl
theorem dX12_goesBy_26 : decode cX12_goesBy 26 = .ok (.goto 23, 3) := dkAt dk09cref6_cX12_goesBy_0_a 32 rfl
noncomputable def dk09cref6_cX12_bestRow_0 : List (Nat × Instr × Nat) := [(0, .aload_n 0, 1), (1, .invokevirtual 209, 3), (4, .iload_n 3, 1), (5, .iconst 1, 1), (27, .istore 4, 2), (29, .iconst (-1), 1), (30, .istore 5, 2), (32, .iconst 0, 1), (33, .istore 6, 2), (35, .iload 6, 2), (37, .iload 4, 2), (39, .if_icmp .ge 93, 3), (132, .iload 5, 2), (134, .ireturn, 1), (42, .aload_n 0, 1), (43, .iload_n 1, 1), (44, .iload 6, 2), (46, .iload_n 3, 1), (47, .invokevirtual 233, 3), (50, .iload_n 2, 1), (51, .iconst (-1), 1), (69, .lstore 7, 2), (71, .iload 5, 2), (73, .iconst (-1), 1), (92, .istore 9, 2), (94, .iload 9, 2), (106, .istore 5, 2), (108, .aload_n 0, 1), (109, .iload 9, 2), (123, .putfield 236, 3), (126, .iinc 6 1, 3), (129, .goto (-94), 3), (111, .ifCond .eq 8, 3), (119, .aload_n 0, 1), (120, .getfield 236, 3), (114, .lload 7, 2), (116, .goto 7, 3), (96, .ifCond .eq 8, 3), (104, .iload 5, 2), (99, .iload 6, 2)]
set_option maxRecDepth 100000 in
theorem dk09cref6_cX12_bestRow_0_a : dkA cX12_bestRow dk09cref6_cX12_bestRow_0 = true := by decide +kernel
theorem dX12_bestRow_0 : decode cX12_bestRow 0 = .ok (.aload_n 0, 1) := dkAt dk09cref6_cX12_bestRow_0_a 0 rfl
theorem dX12_bestRow_1 : decode cX12_bestRow 1 = .ok (.invokevirtual 209, 3) := dkAt dk09cref6_cX12_bestRow_0_a 1 rfl
theorem dX12_bestRow_4 : decode cX12_bestRow 4 = .ok (.iload_n 3, 1) := dkAt dk09cref6_cX12_bestRow_0_a 2 rfl
theorem dX12_bestRow_5 : decode cX12_bestRow 5 = .ok (.iconst 1, 1) := dkAt dk09cref6_cX12_bestRow_0_a 3 rfl
theorem dX12_bestRow_27 : decode cX12_bestRow 27 = .ok (.istore 4, 2) := dkAt dk09cref6_cX12_bestRow_0_a 4 rfl
theorem dX12_bestRow_29 : decode cX12_bestRow 29 = .ok (.iconst (-1), 1) := dkAt dk09cref6_cX12_bestRow_0_a 5 rfl
theorem dX12_bestRow_30 : decode cX12_bestRow 30 = .ok (.istore 5, 2) := dkAt dk09cref6_cX12_bestRow_0_a 6 rfl
theorem dX12_bestRow_32 : decode cX12_bestRow 32 = .ok (.iconst 0, 1) := dkAt dk09cref6_cX12_bestRow_0_a 7 rfl
theorem dX12_bestRow_33 : decode cX12_bestRow 33 = .ok (.istore 6, 2) := dkAt dk09cref6_cX12_bestRow_0_a 8 rfl
theorem dX12_bestRow_35 : decode cX12_bestRow 35 = .ok (.iload 6, 2) := dkAt dk09cref6_cX12_bestRow_0_a 9 rfl
theorem dX12_bestRow_37 : decode cX12_bestRow 37 = .ok (.iload 4, 2) := dkAt dk09cref6_cX12_bestRow_0_a 10 rfl
theorem dX12_bestRow_39 : decode cX12_bestRow 39 = .ok (.if_icmp .ge 93, 3) := dkAt dk09cref6_cX12_bestRow_0_a 11 rfl
theorem dX12_bestRow_132 : decode cX12_bestRow 132 = .ok (.iload 5, 2) := dkAt dk09cref6_cX12_bestRow_0_a 12 rfl
theorem dX12_bestRow_134 : decode cX12_bestRow 134 = .ok (.ireturn, 1) := dkAt dk09cref6_cX12_bestRow_0_a 13 rfl
theorem dX12_bestRow_42 : decode cX12_bestRow 42 = .ok (.aload_n 0, 1) := dkAt dk09cref6_cX12_bestRow_0_a 14 rfl
theorem dX12_bestRow_43 : decode cX12_bestRow 43 = .ok (.iload_n 1, 1) := dkAt dk09cref6_cX12_bestRow_0_a 15 rfl
theorem dX12_bestRow_44 : decode cX12_bestRow 44 = .ok (.iload 6, 2) := dkAt dk09cref6_cX12_bestRow_0_a 16 rfl
theorem dX12_bestRow_46 : decode cX12_bestRow 46 = .ok (.iload_n 3, 1) := dkAt dk09cref6_cX12_bestRow_0_a 17 rfl
theorem dX12_bestRow_47 : decode cX12_bestRow 47 = .ok (.invokevirtual 233, 3) := dkAt dk09cref6_cX12_bestRow_0_a 18 rfl
theorem dX12_bestRow_50 : decode cX12_bestRow 50 = .ok (.iload_n 2, 1) := dkAt dk09cref6_cX12_bestRow_0_a 19 rfl
theorem dX12_bestRow_51 : decode cX12_bestRow 51 = .ok (.iconst (-1), 1) := dkAt dk09cref6_cX12_bestRow_0_a 20 rfl
theorem dX12_bestRow_69 : decode cX12_bestRow 69 = .ok (.lstore 7, 2) := dkAt dk09cref6_cX12_bestRow_0_a 21 rfl
theorem dX12_bestRow_71 : decode cX12_bestRow 71 = .ok (.iload 5, 2) := dkAt dk09cref6_cX12_bestRow_0_a 22 rfl
theorem dX12_bestRow_73 : decode cX12_bestRow 73 = .ok (.iconst (-1), 1) := dkAt dk09cref6_cX12_bestRow_0_a 23 rfl
theorem dX12_bestRow_92 : decode cX12_bestRow 92 = .ok (.istore 9, 2) := dkAt dk09cref6_cX12_bestRow_0_a 24 rfl
theorem dX12_bestRow_94 : decode cX12_bestRow 94 = .ok (.iload 9, 2) := dkAt dk09cref6_cX12_bestRow_0_a 25 rfl
theorem dX12_bestRow_106 : decode cX12_bestRow 106 = .ok (.istore 5, 2) := dkAt dk09cref6_cX12_bestRow_0_a 26 rfl
theorem dX12_bestRow_108 : decode cX12_bestRow 108 = .ok (.aload_n 0, 1) := dkAt dk09cref6_cX12_bestRow_0_a 27 rfl
theorem dX12_bestRow_109 : decode cX12_bestRow 109 = .ok (.iload 9, 2) := dkAt dk09cref6_cX12_bestRow_0_a 28 rfl
theorem dX12_bestRow_123 : decode cX12_bestRow 123 = .ok (.putfield 236, 3) := dkAt dk09cref6_cX12_bestRow_0_a 29 rfl
theorem dX12_bestRow_126 : decode cX12_bestRow 126 = .ok (.iinc 6 1, 3) := dkAt dk09cref6_cX12_bestRow_0_a 30 rfl
theorem dX12_bestRow_129 : decode cX12_bestRow 129 = .ok (.goto (-94), 3) := dkAt dk09cref6_cX12_bestRow_0_a 31 rfl
theorem dX12_bestRow_111 : decode cX12_bestRow 111 = .ok (.ifCond .eq 8, 3) := dkAt dk09cref6_cX12_bestRow_0_a 32 rfl
theorem dX12_bestRow_119 : decode cX12_bestRow 119 = .ok (.aload_n 0, 1) := dkAt dk09cref6_cX12_bestRow_0_a 33 rfl
theorem dX12_bestRow_120 : decode cX12_bestRow 120 = .ok (.getfield 236, 3) := dkAt dk09cref6_cX12_bestRow_0_a 34 rfl
theorem dX12_bestRow_114 : decode cX12_bestRow 114 = .ok (.lload 7, 2) := dkAt dk09cref6_cX12_bestRow_0_a 35 rfl
theorem dX12_bestRow_116 : decode cX12_bestRow 116 = .ok (.goto 7, 3) := dkAt dk09cref6_cX12_bestRow_0_a 36 rfl
theorem dX12_bestRow_96 : decode cX12_bestRow 96 = .ok (.ifCond .eq 8, 3) := dkAt dk09cref6_cX12_bestRow_0_a 37 rfl
theorem dX12_bestRow_104 : decode cX12_bestRow 104 = .ok (.iload 5, 2) := dkAt dk09cref6_cX12_bestRow_0_a 38 rfl
theorem dX12_bestRow_99 : decode cX12_bestRow 99 = .ok (.iload 6, 2) := dkAt dk09cref6_cX12_bestRow_0_a 39 rfl
noncomputable def dk09cref6_cX12_bestRow_40 : List (Nat × Instr × Nat) := [(101, .goto 5, 3), (74, .if_icmp .eq 13, 3), (87, .iconst 1, 1), (88, .goto 4, 3), (77, .lload 7, 2), (79, .aload_n 0, 1), (80, .getfield 236, 3), (83, .lcmp, 1), (84, .ifCond .le 7, 3), (91, .iconst 0, 1), (52, .if_icmp .ne 11, 3), (63, .aload_n 0, 1), (64, .getfield 28, 3), (67, .iload_n 2, 1), (68, .laload, 1), (55, .aload_n 0, 1), (56, .invokevirtual 222, 3), (59, .lneg, 1), (60, .goto 9, 3), (6, .if_icmp .ne 8, 3), (14, .iload_n 3, 1), (15, .iconst 2, 1), (16, .if_icmp .ne 8, 3), (24, .sipush 512, 3), (19, .bipush 64, 2), (21, .goto 6, 3), (9, .bipush 8, 2), (11, .goto 16, 3)]
set_option maxRecDepth 100000 in
theorem dk09cref6_cX12_bestRow_40_a : dkA cX12_bestRow dk09cref6_cX12_bestRow_40 = true := by decide +kernel
theorem dX12_bestRow_101 : decode cX12_bestRow 101 = .ok (.goto 5, 3) := dkAt dk09cref6_cX12_bestRow_40_a 0 rfl
theorem dX12_bestRow_74 : decode cX12_bestRow 74 = .ok (.if_icmp .eq 13, 3) := dkAt dk09cref6_cX12_bestRow_40_a 1 rfl
theorem dX12_bestRow_87 : decode cX12_bestRow 87 = .ok (.iconst 1, 1) := dkAt dk09cref6_cX12_bestRow_40_a 2 rfl
theorem dX12_bestRow_88 : decode cX12_bestRow 88 = .ok (.goto 4, 3) := dkAt dk09cref6_cX12_bestRow_40_a 3 rfl
theorem dX12_bestRow_77 : decode cX12_bestRow 77 = .ok (.lload 7, 2) := dkAt dk09cref6_cX12_bestRow_40_a 4 rfl
theorem dX12_bestRow_79 : decode cX12_bestRow 79 = .ok (.aload_n 0, 1) := dkAt dk09cref6_cX12_bestRow_40_a 5 rfl
theorem dX12_bestRow_80 : decode cX12_bestRow 80 = .ok (.getfield 236, 3) := dkAt dk09cref6_cX12_bestRow_40_a 6 rfl
theorem dX12_bestRow_83 : decode cX12_bestRow 83 = .ok (.lcmp, 1) := dkAt dk09cref6_cX12_bestRow_40_a 7 rfl
theorem dX12_bestRow_84 : decode cX12_bestRow 84 = .ok (.ifCond .le 7, 3) := dkAt dk09cref6_cX12_bestRow_40_a 8 rfl
theorem dX12_bestRow_91 : decode cX12_bestRow 91 = .ok (.iconst 0, 1) := dkAt dk09cref6_cX12_bestRow_40_a 9 rfl
theorem dX12_bestRow_52 : decode cX12_bestRow 52 = .ok (.if_icmp .ne 11, 3) := dkAt dk09cref6_cX12_bestRow_40_a 10 rfl
theorem dX12_bestRow_63 : decode cX12_bestRow 63 = .ok (.aload_n 0, 1) := dkAt dk09cref6_cX12_bestRow_40_a 11 rfl
theorem dX12_bestRow_64 : decode cX12_bestRow 64 = .ok (.getfield 28, 3) := dkAt dk09cref6_cX12_bestRow_40_a 12 rfl
theorem dX12_bestRow_67 : decode cX12_bestRow 67 = .ok (.iload_n 2, 1) := dkAt dk09cref6_cX12_bestRow_40_a 13 rfl
theorem dX12_bestRow_68 : decode cX12_bestRow 68 = .ok (.laload, 1) := dkAt dk09cref6_cX12_bestRow_40_a 14 rfl
theorem dX12_bestRow_55 : decode cX12_bestRow 55 = .ok (.aload_n 0, 1) := dkAt dk09cref6_cX12_bestRow_40_a 15 rfl
theorem dX12_bestRow_56 : decode cX12_bestRow 56 = .ok (.invokevirtual 222, 3) := dkAt dk09cref6_cX12_bestRow_40_a 16 rfl
theorem dX12_bestRow_59 : decode cX12_bestRow 59 = .ok (.lneg, 1) := dkAt dk09cref6_cX12_bestRow_40_a 17 rfl
theorem dX12_bestRow_60 : decode cX12_bestRow 60 = .ok (.goto 9, 3) := dkAt dk09cref6_cX12_bestRow_40_a 18 rfl
theorem dX12_bestRow_6 : decode cX12_bestRow 6 = .ok (.if_icmp .ne 8, 3) := dkAt dk09cref6_cX12_bestRow_40_a 19 rfl
theorem dX12_bestRow_14 : decode cX12_bestRow 14 = .ok (.iload_n 3, 1) := dkAt dk09cref6_cX12_bestRow_40_a 20 rfl
theorem dX12_bestRow_15 : decode cX12_bestRow 15 = .ok (.iconst 2, 1) := dkAt dk09cref6_cX12_bestRow_40_a 21 rfl
theorem dX12_bestRow_16 : decode cX12_bestRow 16 = .ok (.if_icmp .ne 8, 3) := dkAt dk09cref6_cX12_bestRow_40_a 22 rfl
theorem dX12_bestRow_24 : decode cX12_bestRow 24 = .ok (.sipush 512, 3) := dkAt dk09cref6_cX12_bestRow_40_a 23 rfl
theorem dX12_bestRow_19 : decode cX12_bestRow 19 = .ok (.bipush 64, 2) := dkAt dk09cref6_cX12_bestRow_40_a 24 rfl
theorem dX12_bestRow_21 : decode cX12_bestRow 21 = .ok (.goto 6, 3) := dkAt dk09cref6_cX12_bestRow_40_a 25 rfl
theorem dX12_bestRow_9 : decode cX12_bestRow 9 = .ok (.bipush 8, 2) := dkAt dk09cref6_cX12_bestRow_40_a 26 rfl
theorem dX12_bestRow_11 : decode cX12_bestRow 11 = .ok (.goto 16, 3) := dkAt dk09cref6_cX12_bestRow_40_a 27 rfl
noncomputable def dk09cref6_cX12_wayOf_0 : List (Nat × Instr × Nat) := [(0, .iload_n 1, 1), (1, .iconst 1, 1), (2, .isub, 1), (3, .iload_n 2, 1), (4, .isub, 1), (5, .istore_n 3, 1), (6, .iload_n 3, 1), (7, .iconst 2, 1), (8, .if_icmp .ne 10, 3), (18, .iload_n 3, 1), (19, .iconst 1, 1), (20, .if_icmp .ne 13, 3), (33, .iload_n 0, 1), (34, .bipush 8, 2), (36, .irem, 1), (37, .ireturn, 1), (23, .iload_n 0, 1), (24, .bipush 8, 2), (26, .idiv, 1), (27, .bipush 8, 2), (29, .irem, 1), (30, .goto 7, 3), (11, .iload_n 0, 1), (12, .bipush 64, 2), (14, .idiv, 1), (15, .goto 22, 3)]
set_option maxRecDepth 100000 in
theorem dk09cref6_cX12_wayOf_0_a : dkA cX12_wayOf dk09cref6_cX12_wayOf_0 = true := by decide +kernel
theorem dX12_wayOf_0 : decode cX12_wayOf 0 = .ok (.iload_n 1, 1) := dkAt dk09cref6_cX12_wayOf_0_a 0 rfl
theorem dX12_wayOf_1 : decode cX12_wayOf 1 = .ok (.iconst 1, 1) := dkAt dk09cref6_cX12_wayOf_0_a 1 rfl
theorem dX12_wayOf_2 : decode cX12_wayOf 2 = .ok (.isub, 1) := dkAt dk09cref6_cX12_wayOf_0_a 2 rfl
theorem dX12_wayOf_3 : decode cX12_wayOf 3 = .ok (.iload_n 2, 1) := dkAt dk09cref6_cX12_wayOf_0_a 3 rfl
theorem dX12_wayOf_4 : decode cX12_wayOf 4 = .ok (.isub, 1) := dkAt dk09cref6_cX12_wayOf_0_a 4 rfl
theorem dX12_wayOf_5 : decode cX12_wayOf 5 = .ok (.istore_n 3, 1) := dkAt dk09cref6_cX12_wayOf_0_a 5 rfl
theorem dX12_wayOf_6 : decode cX12_wayOf 6 = .ok (.iload_n 3, 1) := dkAt dk09cref6_cX12_wayOf_0_a 6 rfl
theorem dX12_wayOf_7 : decode cX12_wayOf 7 = .ok (.iconst 2, 1) := dkAt dk09cref6_cX12_wayOf_0_a 7 rfl
theorem dX12_wayOf_8 : decode cX12_wayOf 8 = .ok (.if_icmp .ne 10, 3) := dkAt dk09cref6_cX12_wayOf_0_a 8 rfl
theorem dX12_wayOf_18 : decode cX12_wayOf 18 = .ok (.iload_n 3, 1) := dkAt dk09cref6_cX12_wayOf_0_a 9 rfl
theorem dX12_wayOf_19 : decode cX12_wayOf 19 = .ok (.iconst 1, 1) := dkAt dk09cref6_cX12_wayOf_0_a 10 rfl
theorem dX12_wayOf_20 : decode cX12_wayOf 20 = .ok (.if_icmp .ne 13, 3) := dkAt dk09cref6_cX12_wayOf_0_a 11 rfl
theorem dX12_wayOf_33 : decode cX12_wayOf 33 = .ok (.iload_n 0, 1) := dkAt dk09cref6_cX12_wayOf_0_a 12 rfl
theorem dX12_wayOf_34 : decode cX12_wayOf 34 = .ok (.bipush 8, 2) := dkAt dk09cref6_cX12_wayOf_0_a 13 rfl
theorem dX12_wayOf_36 : decode cX12_wayOf 36 = .ok (.irem, 1) := dkAt dk09cref6_cX12_wayOf_0_a 14 rfl
theorem dX12_wayOf_37 : decode cX12_wayOf 37 = .ok (.ireturn, 1) := dkAt dk09cref6_cX12_wayOf_0_a 15 rfl
theorem dX12_wayOf_23 : decode cX12_wayOf 23 = .ok (.iload_n 0, 1) := dkAt dk09cref6_cX12_wayOf_0_a 16 rfl
theorem dX12_wayOf_24 : decode cX12_wayOf 24 = .ok (.bipush 8, 2) := dkAt dk09cref6_cX12_wayOf_0_a 17 rfl
theorem dX12_wayOf_26 : decode cX12_wayOf 26 = .ok (.idiv, 1) := dkAt dk09cref6_cX12_wayOf_0_a 18 rfl
theorem dX12_wayOf_27 : decode cX12_wayOf 27 = .ok (.bipush 8, 2) := dkAt dk09cref6_cX12_wayOf_0_a 19 rfl
theorem dX12_wayOf_29 : decode cX12_wayOf 29 = .ok (.irem, 1) := dkAt dk09cref6_cX12_wayOf_0_a 20 rfl
theorem dX12_wayOf_30 : decode cX12_wayOf 30 = .ok (.goto 7, 3) := dkAt dk09cref6_cX12_wayOf_0_a 21 rfl
theorem dX12_wayOf_11 : decode cX12_wayOf 11 = .ok (.iload_n 0, 1) := dkAt dk09cref6_cX12_wayOf_0_a 22 rfl
theorem dX12_wayOf_12 : decode cX12_wayOf 12 = .ok (.bipush 64, 2) := dkAt dk09cref6_cX12_wayOf_0_a 23 rfl
theorem dX12_wayOf_14 : decode cX12_wayOf 14 = .ok (.idiv, 1) := dkAt dk09cref6_cX12_wayOf_0_a 24 rfl
theorem dX12_wayOf_15 : decode cX12_wayOf 15 = .ok (.goto 22, 3) := dkAt dk09cref6_cX12_wayOf_0_a 25 rfl
noncomputable def dk09cref6_cX12_best_0 : List (Nat × Instr × Nat) := [(0, .iload_n 1, 1), (1, .invokestatic 149, 3), (4, .ifCond .eq 20, 3), (7, .iload_n 2, 1), (8, .invokestatic 149, 3), (11, .ifCond .eq 13, 3), (14, .iload 4, 2), (16, .iconst 0, 1), (17, .iconst 2, 1), (18, .invokestatic 45, 3), (21, .ifCond .ne 5, 3), (26, .iload_n 3, 1), (27, .iconst 1, 1), (28, .iconst 3, 1), (29, .invokestatic 45, 3), (32, .ifCond .ne 6, 3), (38, .iload 4, 2), (40, .iload_n 3, 1), (41, .if_icmp .lt 7, 3), (48, .aload_n 0, 1), (49, .iload_n 1, 1), (50, .iload_n 2, 1), (51, .iload_n 3, 1), (52, .invokevirtual 240, 3), (55, .iload_n 3, 1), (56, .iload 4, 2), (58, .invokestatic 243, 3), (61, .ireturn, 1), (44, .iconst (-1), 1), (45, .goto 16, 3), (35, .bipush (-2), 2), (37, .ireturn, 1), (24, .iconst (-1), 1), (25, .ireturn, 1)]
set_option maxRecDepth 100000 in
theorem dk09cref6_cX12_best_0_a : dkA cX12_best dk09cref6_cX12_best_0 = true := by decide +kernel
theorem dX12_best_0 : decode cX12_best 0 = .ok (.iload_n 1, 1) := dkAt dk09cref6_cX12_best_0_a 0 rfl
theorem dX12_best_1 : decode cX12_best 1 = .ok (.invokestatic 149, 3) := dkAt dk09cref6_cX12_best_0_a 1 rfl
theorem dX12_best_4 : decode cX12_best 4 = .ok (.ifCond .eq 20, 3) := dkAt dk09cref6_cX12_best_0_a 2 rfl
theorem dX12_best_7 : decode cX12_best 7 = .ok (.iload_n 2, 1) := dkAt dk09cref6_cX12_best_0_a 3 rfl
theorem dX12_best_8 : decode cX12_best 8 = .ok (.invokestatic 149, 3) := dkAt dk09cref6_cX12_best_0_a 4 rfl
theorem dX12_best_11 : decode cX12_best 11 = .ok (.ifCond .eq 13, 3) := dkAt dk09cref6_cX12_best_0_a 5 rfl
theorem dX12_best_14 : decode cX12_best 14 = .ok (.iload 4, 2) := dkAt dk09cref6_cX12_best_0_a 6 rfl
theorem dX12_best_16 : decode cX12_best 16 = .ok (.iconst 0, 1) := dkAt dk09cref6_cX12_best_0_a 7 rfl
theorem dX12_best_17 : decode cX12_best 17 = .ok (.iconst 2, 1) := dkAt dk09cref6_cX12_best_0_a 8 rfl
theorem dX12_best_18 : decode cX12_best 18 = .ok (.invokestatic 45, 3) := dkAt dk09cref6_cX12_best_0_a 9 rfl
theorem dX12_best_21 : decode cX12_best 21 = .ok (.ifCond .ne 5, 3) := dkAt dk09cref6_cX12_best_0_a 10 rfl
theorem dX12_best_26 : decode cX12_best 26 = .ok (.iload_n 3, 1) := dkAt dk09cref6_cX12_best_0_a 11 rfl
theorem dX12_best_27 : decode cX12_best 27 = .ok (.iconst 1, 1) := dkAt dk09cref6_cX12_best_0_a 12 rfl
theorem dX12_best_28 : decode cX12_best 28 = .ok (.iconst 3, 1) := dkAt dk09cref6_cX12_best_0_a 13 rfl
theorem dX12_best_29 : decode cX12_best 29 = .ok (.invokestatic 45, 3) := dkAt dk09cref6_cX12_best_0_a 14 rfl
theorem dX12_best_32 : decode cX12_best 32 = .ok (.ifCond .ne 6, 3) := dkAt dk09cref6_cX12_best_0_a 15 rfl
theorem dX12_best_38 : decode cX12_best 38 = .ok (.iload 4, 2) := dkAt dk09cref6_cX12_best_0_a 16 rfl
theorem dX12_best_40 : decode cX12_best 40 = .ok (.iload_n 3, 1) := dkAt dk09cref6_cX12_best_0_a 17 rfl
theorem dX12_best_41 : decode cX12_best 41 = .ok (.if_icmp .lt 7, 3) := dkAt dk09cref6_cX12_best_0_a 18 rfl
theorem dX12_best_48 : decode cX12_best 48 = .ok (.aload_n 0, 1) := dkAt dk09cref6_cX12_best_0_a 19 rfl
theorem dX12_best_49 : decode cX12_best 49 = .ok (.iload_n 1, 1) := dkAt dk09cref6_cX12_best_0_a 20 rfl
theorem dX12_best_50 : decode cX12_best 50 = .ok (.iload_n 2, 1) := dkAt dk09cref6_cX12_best_0_a 21 rfl
theorem dX12_best_51 : decode cX12_best 51 = .ok (.iload_n 3, 1) := dkAt dk09cref6_cX12_best_0_a 22 rfl
theorem dX12_best_52 : decode cX12_best 52 = .ok (.invokevirtual 240, 3) := dkAt dk09cref6_cX12_best_0_a 23 rfl
theorem dX12_best_55 : decode cX12_best 55 = .ok (.iload_n 3, 1) := dkAt dk09cref6_cX12_best_0_a 24 rfl
theorem dX12_best_56 : decode cX12_best 56 = .ok (.iload 4, 2) := dkAt dk09cref6_cX12_best_0_a 25 rfl
theorem dX12_best_58 : decode cX12_best 58 = .ok (.invokestatic 243, 3) := dkAt dk09cref6_cX12_best_0_a 26 rfl
theorem dX12_best_61 : decode cX12_best 61 = .ok (.ireturn, 1) := dkAt dk09cref6_cX12_best_0_a 27 rfl
theorem dX12_best_44 : decode cX12_best 44 = .ok (.iconst (-1), 1) := dkAt dk09cref6_cX12_best_0_a 28 rfl
theorem dX12_best_45 : decode cX12_best 45 = .ok (.goto 16, 3) := dkAt dk09cref6_cX12_best_0_a 29 rfl
theorem dX12_best_35 : decode cX12_best 35 = .ok (.bipush (-2), 2) := dkAt dk09cref6_cX12_best_0_a 30 rfl
theorem dX12_best_37 : decode cX12_best 37 = .ok (.ireturn, 1) := dkAt dk09cref6_cX12_best_0_a 31 rfl
theorem dX12_best_24 : decode cX12_best 24 = .ok (.iconst (-1), 1) := dkAt dk09cref6_cX12_best_0_a 32 rfl
theorem dX12_best_25 : decode cX12_best 25 = .ok (.ireturn, 1) := dkAt dk09cref6_cX12_best_0_a 33 rfl
noncomputable def dk09cref6_cX12_bestOdds_0 : List (Nat × Instr × Nat) := [(0, .iload_n 1, 1), (1, .invokestatic 149, 3), (4, .ifCond .eq 29, 3), (7, .iload_n 2, 1), (8, .invokestatic 149, 3), (11, .ifCond .eq 22, 3), (14, .iload_n 3, 1), (15, .iconst 1, 1), (16, .iconst 3, 1), (17, .invokestatic 45, 3), (20, .ifCond .eq 13, 3), (23, .iload 4, 2), (25, .iconst 0, 1), (26, .iconst 1, 1), (27, .invokestatic 45, 3), (30, .ifCond .ne 7, 3), (37, .aload_n 0, 1), (38, .iload_n 1, 1), (39, .iload_n 2, 1), (40, .iload_n 3, 1), (41, .invokevirtual 240, 3), (44, .istore 5, 2), (46, .iload 5, 2), (48, .iconst (-1), 1), (49, .if_icmp .ne 9, 3), (58, .aload_n 0, 1), (59, .getfield 236, 3), (62, .iload_n 3, 1), (63, .invokestatic 226, 3), (66, .iload 4, 2), (68, .invokestatic 229, 3), (71, .lreturn, 1), (52, .ldc2_w 181, 3), (55, .goto 16, 3), (33, .ldc2_w 181, 3), (36, .lreturn, 1)]
set_option maxRecDepth 100000 in
theorem dk09cref6_cX12_bestOdds_0_a : dkA cX12_bestOdds dk09cref6_cX12_bestOdds_0 = true := by decide +kernel
theorem dX12_bestOdds_0 : decode cX12_bestOdds 0 = .ok (.iload_n 1, 1) := dkAt dk09cref6_cX12_bestOdds_0_a 0 rfl
theorem dX12_bestOdds_1 : decode cX12_bestOdds 1 = .ok (.invokestatic 149, 3) := dkAt dk09cref6_cX12_bestOdds_0_a 1 rfl
theorem dX12_bestOdds_4 : decode cX12_bestOdds 4 = .ok (.ifCond .eq 29, 3) := dkAt dk09cref6_cX12_bestOdds_0_a 2 rfl
theorem dX12_bestOdds_7 : decode cX12_bestOdds 7 = .ok (.iload_n 2, 1) := dkAt dk09cref6_cX12_bestOdds_0_a 3 rfl
theorem dX12_bestOdds_8 : decode cX12_bestOdds 8 = .ok (.invokestatic 149, 3) := dkAt dk09cref6_cX12_bestOdds_0_a 4 rfl
theorem dX12_bestOdds_11 : decode cX12_bestOdds 11 = .ok (.ifCond .eq 22, 3) := dkAt dk09cref6_cX12_bestOdds_0_a 5 rfl
theorem dX12_bestOdds_14 : decode cX12_bestOdds 14 = .ok (.iload_n 3, 1) := dkAt dk09cref6_cX12_bestOdds_0_a 6 rfl
theorem dX12_bestOdds_15 : decode cX12_bestOdds 15 = .ok (.iconst 1, 1) := dkAt dk09cref6_cX12_bestOdds_0_a 7 rfl
theorem dX12_bestOdds_16 : decode cX12_bestOdds 16 = .ok (.iconst 3, 1) := dkAt dk09cref6_cX12_bestOdds_0_a 8 rfl
theorem dX12_bestOdds_17 : decode cX12_bestOdds 17 = .ok (.invokestatic 45, 3) := dkAt dk09cref6_cX12_bestOdds_0_a 9 rfl
theorem dX12_bestOdds_20 : decode cX12_bestOdds 20 = .ok (.ifCond .eq 13, 3) := dkAt dk09cref6_cX12_bestOdds_0_a 10 rfl
theorem dX12_bestOdds_23 : decode cX12_bestOdds 23 = .ok (.iload 4, 2) := dkAt dk09cref6_cX12_bestOdds_0_a 11 rfl
theorem dX12_bestOdds_25 : decode cX12_bestOdds 25 = .ok (.iconst 0, 1) := dkAt dk09cref6_cX12_bestOdds_0_a 12 rfl
theorem dX12_bestOdds_26 : decode cX12_bestOdds 26 = .ok (.iconst 1, 1) := dkAt dk09cref6_cX12_bestOdds_0_a 13 rfl
theorem dX12_bestOdds_27 : decode cX12_bestOdds 27 = .ok (.invokestatic 45, 3) := dkAt dk09cref6_cX12_bestOdds_0_a 14 rfl
theorem dX12_bestOdds_30 : decode cX12_bestOdds 30 = .ok (.ifCond .ne 7, 3) := dkAt dk09cref6_cX12_bestOdds_0_a 15 rfl
theorem dX12_bestOdds_37 : decode cX12_bestOdds 37 = .ok (.aload_n 0, 1) := dkAt dk09cref6_cX12_bestOdds_0_a 16 rfl
theorem dX12_bestOdds_38 : decode cX12_bestOdds 38 = .ok (.iload_n 1, 1) := dkAt dk09cref6_cX12_bestOdds_0_a 17 rfl
theorem dX12_bestOdds_39 : decode cX12_bestOdds 39 = .ok (.iload_n 2, 1) := dkAt dk09cref6_cX12_bestOdds_0_a 18 rfl
theorem dX12_bestOdds_40 : decode cX12_bestOdds 40 = .ok (.iload_n 3, 1) := dkAt dk09cref6_cX12_bestOdds_0_a 19 rfl
theorem dX12_bestOdds_41 : decode cX12_bestOdds 41 = .ok (.invokevirtual 240, 3) := dkAt dk09cref6_cX12_bestOdds_0_a 20 rfl
theorem dX12_bestOdds_44 : decode cX12_bestOdds 44 = .ok (.istore 5, 2) := dkAt dk09cref6_cX12_bestOdds_0_a 21 rfl
theorem dX12_bestOdds_46 : decode cX12_bestOdds 46 = .ok (.iload 5, 2) := dkAt dk09cref6_cX12_bestOdds_0_a 22 rfl
theorem dX12_bestOdds_48 : decode cX12_bestOdds 48 = .ok (.iconst (-1), 1) := dkAt dk09cref6_cX12_bestOdds_0_a 23 rfl
theorem dX12_bestOdds_49 : decode cX12_bestOdds 49 = .ok (.if_icmp .ne 9, 3) := dkAt dk09cref6_cX12_bestOdds_0_a 24 rfl
theorem dX12_bestOdds_58 : decode cX12_bestOdds 58 = .ok (.aload_n 0, 1) := dkAt dk09cref6_cX12_bestOdds_0_a 25 rfl
theorem dX12_bestOdds_59 : decode cX12_bestOdds 59 = .ok (.getfield 236, 3) := dkAt dk09cref6_cX12_bestOdds_0_a 26 rfl
theorem dX12_bestOdds_62 : decode cX12_bestOdds 62 = .ok (.iload_n 3, 1) := dkAt dk09cref6_cX12_bestOdds_0_a 27 rfl
theorem dX12_bestOdds_63 : decode cX12_bestOdds 63 = .ok (.invokestatic 226, 3) := dkAt dk09cref6_cX12_bestOdds_0_a 28 rfl
theorem dX12_bestOdds_66 : decode cX12_bestOdds 66 = .ok (.iload 4, 2) := dkAt dk09cref6_cX12_bestOdds_0_a 29 rfl
theorem dX12_bestOdds_68 : decode cX12_bestOdds 68 = .ok (.invokestatic 229, 3) := dkAt dk09cref6_cX12_bestOdds_0_a 30 rfl
theorem dX12_bestOdds_71 : decode cX12_bestOdds 71 = .ok (.lreturn, 1) := dkAt dk09cref6_cX12_bestOdds_0_a 31 rfl
theorem dX12_bestOdds_52 : decode cX12_bestOdds 52 = .ok (.ldc2_w 181, 3) := dkAt dk09cref6_cX12_bestOdds_0_a 32 rfl
theorem dX12_bestOdds_55 : decode cX12_bestOdds 55 = .ok (.goto 16, 3) := dkAt dk09cref6_cX12_bestOdds_0_a 33 rfl
theorem dX12_bestOdds_33 : decode cX12_bestOdds 33 = .ok (.ldc2_w 181, 3) := dkAt dk09cref6_cX12_bestOdds_0_a 34 rfl
theorem dX12_bestOdds_36 : decode cX12_bestOdds 36 = .ok (.lreturn, 1) := dkAt dk09cref6_cX12_bestOdds_0_a 35 rfl
noncomputable def dk09cref6_cX12_safe_0 : List (Nat × Instr × Nat) := [(0, .iload_n 1, 1), (1, .invokestatic 149, 3), (4, .ifCond .eq 12, 3), (7, .iload_n 3, 1), (8, .iconst 0, 1), (9, .iconst 2, 1), (10, .invokestatic 45, 3), (13, .ifCond .ne 5, 3), (18, .iload_n 2, 1), (19, .iconst 1, 1), (20, .iconst 3, 1), (21, .invokestatic 45, 3), (24, .ifCond .ne 6, 3), (30, .iload_n 3, 1), (31, .iload_n 2, 1), (32, .if_icmp .lt 7, 3), (39, .aload_n 0, 1), (40, .iload_n 1, 1), (41, .iconst (-1), 1), (42, .iload_n 2, 1), (43, .invokevirtual 240, 3), (46, .iload_n 2, 1), (47, .iload_n 3, 1), (48, .invokestatic 243, 3), (51, .ireturn, 1), (35, .iconst (-1), 1), (36, .goto 15, 3), (27, .bipush (-2), 2), (29, .ireturn, 1), (16, .iconst (-1), 1), (17, .ireturn, 1)]
set_option maxRecDepth 100000 in
theorem dk09cref6_cX12_safe_0_a : dkA cX12_safe dk09cref6_cX12_safe_0 = true := by decide +kernel
theorem dX12_safe_0 : decode cX12_safe 0 = .ok (.iload_n 1, 1) := dkAt dk09cref6_cX12_safe_0_a 0 rfl
theorem dX12_safe_1 : decode cX12_safe 1 = .ok (.invokestatic 149, 3) := dkAt dk09cref6_cX12_safe_0_a 1 rfl
theorem dX12_safe_4 : decode cX12_safe 4 = .ok (.ifCond .eq 12, 3) := dkAt dk09cref6_cX12_safe_0_a 2 rfl
theorem dX12_safe_7 : decode cX12_safe 7 = .ok (.iload_n 3, 1) := dkAt dk09cref6_cX12_safe_0_a 3 rfl
theorem dX12_safe_8 : decode cX12_safe 8 = .ok (.iconst 0, 1) := dkAt dk09cref6_cX12_safe_0_a 4 rfl
theorem dX12_safe_9 : decode cX12_safe 9 = .ok (.iconst 2, 1) := dkAt dk09cref6_cX12_safe_0_a 5 rfl
theorem dX12_safe_10 : decode cX12_safe 10 = .ok (.invokestatic 45, 3) := dkAt dk09cref6_cX12_safe_0_a 6 rfl
theorem dX12_safe_13 : decode cX12_safe 13 = .ok (.ifCond .ne 5, 3) := dkAt dk09cref6_cX12_safe_0_a 7 rfl
theorem dX12_safe_18 : decode cX12_safe 18 = .ok (.iload_n 2, 1) := dkAt dk09cref6_cX12_safe_0_a 8 rfl
theorem dX12_safe_19 : decode cX12_safe 19 = .ok (.iconst 1, 1) := dkAt dk09cref6_cX12_safe_0_a 9 rfl
theorem dX12_safe_20 : decode cX12_safe 20 = .ok (.iconst 3, 1) := dkAt dk09cref6_cX12_safe_0_a 10 rfl
theorem dX12_safe_21 : decode cX12_safe 21 = .ok (.invokestatic 45, 3) := dkAt dk09cref6_cX12_safe_0_a 11 rfl
theorem dX12_safe_24 : decode cX12_safe 24 = .ok (.ifCond .ne 6, 3) := dkAt dk09cref6_cX12_safe_0_a 12 rfl
theorem dX12_safe_30 : decode cX12_safe 30 = .ok (.iload_n 3, 1) := dkAt dk09cref6_cX12_safe_0_a 13 rfl
theorem dX12_safe_31 : decode cX12_safe 31 = .ok (.iload_n 2, 1) := dkAt dk09cref6_cX12_safe_0_a 14 rfl
theorem dX12_safe_32 : decode cX12_safe 32 = .ok (.if_icmp .lt 7, 3) := dkAt dk09cref6_cX12_safe_0_a 15 rfl
theorem dX12_safe_39 : decode cX12_safe 39 = .ok (.aload_n 0, 1) := dkAt dk09cref6_cX12_safe_0_a 16 rfl
theorem dX12_safe_40 : decode cX12_safe 40 = .ok (.iload_n 1, 1) := dkAt dk09cref6_cX12_safe_0_a 17 rfl
theorem dX12_safe_41 : decode cX12_safe 41 = .ok (.iconst (-1), 1) := dkAt dk09cref6_cX12_safe_0_a 18 rfl
theorem dX12_safe_42 : decode cX12_safe 42 = .ok (.iload_n 2, 1) := dkAt dk09cref6_cX12_safe_0_a 19 rfl
theorem dX12_safe_43 : decode cX12_safe 43 = .ok (.invokevirtual 240, 3) := dkAt dk09cref6_cX12_safe_0_a 20 rfl
theorem dX12_safe_46 : decode cX12_safe 46 = .ok (.iload_n 2, 1) := dkAt dk09cref6_cX12_safe_0_a 21 rfl
theorem dX12_safe_47 : decode cX12_safe 47 = .ok (.iload_n 3, 1) := dkAt dk09cref6_cX12_safe_0_a 22 rfl
theorem dX12_safe_48 : decode cX12_safe 48 = .ok (.invokestatic 243, 3) := dkAt dk09cref6_cX12_safe_0_a 23 rfl
theorem dX12_safe_51 : decode cX12_safe 51 = .ok (.ireturn, 1) := dkAt dk09cref6_cX12_safe_0_a 24 rfl
theorem dX12_safe_35 : decode cX12_safe 35 = .ok (.iconst (-1), 1) := dkAt dk09cref6_cX12_safe_0_a 25 rfl
theorem dX12_safe_36 : decode cX12_safe 36 = .ok (.goto 15, 3) := dkAt dk09cref6_cX12_safe_0_a 26 rfl
theorem dX12_safe_27 : decode cX12_safe 27 = .ok (.bipush (-2), 2) := dkAt dk09cref6_cX12_safe_0_a 27 rfl
theorem dX12_safe_29 : decode cX12_safe 29 = .ok (.ireturn, 1) := dkAt dk09cref6_cX12_safe_0_a 28 rfl
theorem dX12_safe_16 : decode cX12_safe 16 = .ok (.iconst (-1), 1) := dkAt dk09cref6_cX12_safe_0_a 29 rfl
theorem dX12_safe_17 : decode cX12_safe 17 = .ok (.ireturn, 1) := dkAt dk09cref6_cX12_safe_0_a 30 rfl
set_option maxHeartbeats 4000000 in
set_option maxRecDepth 100000 in
theorem c_goesBy (l : Launch) (dC : Nat → ClassId) (dI : Nat → Nat → Nat) (m0 aS aI aB aT aG aO aN aD aY : Nat) (th im ac sp en wg op se dn rn kd nu tv : Int32) (bv : Int64) (cS cO cN cD : ClassId) (fS : Nat → Int32) (fO : Nat → Int64) (fN : Nat → Int64) (fD : Nat → Int32) (x y : Int32) (k : Nat) (sz : Nat) (hk3 : k ≤ 3) : Met l yX12_goesBy wsX12_goesBy ({ frames := 4, cells := 0, slots := 0, locals := 88 } : Room) (va_Pc [.ref m0, .int x, .int y, .int (nI k)] (fun U => U.heap.size = sz ∧ va_P (dC, dI) vwCl [(zo14irriiiiiirriirrrrlriiii m0 th aS aI im ac sp en wg op aB aT se dn aG aO aN aD bv aY rn kd nu tv), (zaI aS cS 901 fS), (zaL aO cO 36 fO), (zaL aN cN 36 fN), (zaI aD cD 36 fD)] U.heap ∧ va_K (dC, dI) vwCl [(cS, .int), (cO, .long), (cN, .long), (cD, .int)] U ∧ va_D (fun _ => True) [(zo14irriiiiiirriirrrrlriiii m0 th aS aI im ac sp en wg op aB aT se dn aG aO aN aD bv aY rn kd nu tv), (zaI aS cS 901 fS), (zaL aO cO 36 fO), (zaL aN cN 36 fN), (zaI aD cD 36 fD)])) (va_Qv (fun (u : (Nat → Int64) × (Nat → Int64)) => match u with | (fO9, fN9) => True) (fun (u : (Nat → Int64) × (Nat → Int64)) (t : State) => match u with | (fO9, fN9) => va_P (dC, dI) vwCl [(zo14irriiiiiirriirrrrlriiii m0 th aS aI im ac sp en wg op aB aT se dn aG aO aN aD bv aY rn kd nu tv), (zaI aS cS 901 fS), (zaL aO cO 36 fO9), (zaL aN cN 36 fN9), (zaI aD cD 36 fD)] t.heap ∧ va_K (dC, dI) vwCl [(cS, .int), (cO, .long), (cN, .long), (cD, .int)] t ∧ va_D (va_A [(zo14irriiiiiirriirrrrlriiii m0 th aS aI im ac sp en wg op aB aT se dn aG aO aN aD bv aY rn kd nu tv), (zaI aS cS 901 fS), (zaL aO cO 36 fO), (zaL aN cN 36 fN), (zaI aD cD 36 fD)] sz) [(zo14irriiiiiirriirrrrlriiii m0 th aS aI im ac sp en wg op aB aT se dn aG aO aN aD bv aY rn kd nu tv), (zaI aS cS 901 fS), (zaL aO cO 36 fO9), (zaL aN cN 36 fN9), (zaI aD cD 36 fD)]) (va_A [(zo14irriiiiiirriirrrrlriiii m0 th aS aI im ac sp en wg op aB aT se dn aG aO aN aD bv aY rn kd nu tv), (zaI aS cS 901 fS), (zaL aO cO 36 fO), (zaL aN cN 36 fN), (zaI aD cD 36 fD)] sz)) 0 0 (va_A [(zo14irriiiiiirriirrrrlriiii m0 th aS aI im ac sp en wg op aB aT se dn aG aO aN aD bv aY rn kd nu tv), (zaI aS cS 901 fS), (zaL aO cO 36 fO), (zaL aN cN 36 fN), (zaI aD cD 36 fD)] sz) := by
  refine met_ofQ (cc := cX12_goesBy) (maxL := 6) (ret := none) (by decide) rfl ?_
  intro p e s m args below meth c s₁ Q B hml hv hQ
  obtain ⟨rfl, hsz, hP, hK, hD0⟩ := hv
  have hx := B.exec
  have hb := B.bytes
  have hr := B.returns
  have hts := atoms_spec (ws := wsX12_goesBy) B.pre
  have hown : s.vm.findClass RX12 = some m.cls := findClass_of_methodNamed B.named
  have hlocks := B.notSynchronized
  subst hsz
  have hD := hD0.self (sz := s.heap.size)
  generalize hAe : va_A [(zo14irriiiiiirriirrrrlriiii m0 th aS aI im ac sp en wg op aB aT se dn aG aO aN aD bv aY rn kd nu tv), (zaI aS cS 901 fS), (zaL aO cO 36 fO), (zaL aN cN 36 fN), (zaI aD cD 36 fD)] s.heap.size = A at hD hQ ⊢
  have hA : ∀ q : Nat, s.heap.size ≤ q → A q := fun q h => by rw [← hAe]; exact Or.inr h
  have hS : va_S A s.heap s.heap [] := va_S.rf
  have hl := lv_entry [.ref m0, .int x, .int y, .int (nI k)] (n := 6) (Nat.le_of_ble_eq_true rfl)
  rw [lg_entry_eq]
  generalize (lg_sl [.ref m0, .int x, .int y, .int (nI k)] ++ List.replicate (6 - (lg_sl [.ref m0, .int x, .int y, .int (nI k)]).length) Slot.unset).toArray = ls at hl ⊢
  generalize hag : ([.ref m0, .int x, .int y, .int (nI k)] : List Value).toArray = args at hts hQ ⊢
  have hl : lv_has ls 6 [(0, .ref m0), (1, .int x), (2, .int y), (3, .int (nI k))] := hl
  obtain ⟨H, hH⟩ : ∃ H : Heap, H = s.heap := ⟨_, rfl⟩
  rw [← hH] at hP
  rw [← hH]
  have hS : va_S A s.heap H [] := by rw [hH]; exact hS
  obtain ⟨locs, hlo⟩ : ∃ L : List Loc, L = [] := ⟨_, rfl⟩
  rw [← hlo] at hS
  rw [← hlo]
  clear hH hlo
  refine lv_aload_n hx hb dX12_goesBy_0 rfl (lv_at hl 0 rfl) ?_
  refine lv_iload_n hx hb dX12_goesBy_1 rfl (lv_at hl 1 rfl) ?_
  have hPc := hP.sub (ws' := [(zo14irriiiiiirriirrrrlriiii m0 th aS aI im ac sp en wg op aB aT se dn aG aO aN aD bv aY rn kd nu tv), (zaL aO cO 36 fO)]) [0, 2] rfl
  have hDc := hD.sub (ws' := [(zo14irriiiiiirriirrrrlriiii m0 th aS aI im ac sp en wg op aB aT se dn aG aO aN aD bv aY rn kd nu tv), (zaL aO cO 36 fO)]) [0, 2] (by decide) rfl
  have hKc := hK.sub (tys' := [(cO, .long)]) [1] rfl
  have hFc := va_free (wc := [(zo14irriiiiiirriirrrrlriiii m0 th aS aI im ac sp en wg op aB aT se dn aG aO aN aD bv aY rn kd nu tv), (zaL aO cO 36 fO)]) hD hS hA [0, 2] rfl
  refine va_callv (va_runV (As := [.int x]) (rest := []) ⟨hx, hb, hml, hown, hts⟩ (c_begins l dC dI m0 aS aI aB aT aG aO aN aD aY th im ac sp en wg op se dn rn kd nu tv bv cO fO x H.size) (cwV 1 hts gX12_goesBy_X12_begins rfl rfl rfl hd_yX12_begins ⟨Nat.le_of_ble_eq_true rfl, Nat.le_of_ble_eq_true rfl⟩) ⟨fun a U g mk q => by obtain ⟨q0, q1, qP, qK, qD⟩ := q; exact ⟨q0, q1, qP, va_K.moved (u := U) (U := U.calling g mk a) (Vm.Alike.refl U.vm) qK, qD⟩, va_recv hK hP (ci := 14) (q := (RX12, TX12, 23)) (q0 := 0) rfl rfl, fun U hU hW => ⟨rfl, by rw [hU], by rw [hU]; exact hPc, va_K.moved hW.alike hKc, hDc.weaken (fun _ _ _ _ => trivial)⟩⟩ rfl rfl hl.1 rfl (lv_room (Nat.le_of_ble_eq_true rfl)) dX12_goesBy_2 ⟨Nat.le_of_ble_eq_true rfl, Nat.le_of_ble_eq_true rfl⟩) hS (fun q _ h => hFc q h) hFc (fun u tC H1 locs htC hvm hw_2 hB hz1 hk1 hS => ?_)
  obtain ⟨fO9_3, rfl⟩ : ∃ z, z = u := ⟨_, rfl⟩
  try dsimp only at hw_2 hB
  obtain ⟨hP1, hK1, hD1⟩ := hB
  rw [htC] at hP1
  have hK1 := va_K.moved hvm.symm hK1
  obtain ⟨hP, hD⟩ := va_join (wr := [(zaI aS cS 901 fS), (zaL aN cN 36 fN), (zaI aD cD 36 fD)]) (w1 := [(zo14irriiiiiirriirrrrlriiii m0 th aS aI im ac sp en wg op aB aT se dn aG aO aN aD bv aY rn kd nu tv), (zaL aO cO 36 fO9_3)]) hP hD [0, 2] [1, 3, 4] rfl rfl (by decide) (by decide) hk1 hFc hP1 hD1
  have hK := (hK.sub (tys' := [(cS, .int), (cN, .long), (cD, .int)]) [0, 2, 3] rfl).app hK1
  generalize H1 = H at hP hS ⊢
  have hP : va_P (dC, dI) vwCl [(zaI aS cS 901 fS), (zaL aN cN 36 fN), (zaI aD cD 36 fD), (zo14irriiiiiirriirrrrlriiii m0 th aS aI im ac sp en wg op aB aT se dn aG aO aN aD bv aY rn kd nu tv), (zaL aO cO 36 fO9_3)] H := hP
  have hD : va_D A [(zaI aS cS 901 fS), (zaL aN cN 36 fN), (zaI aD cD 36 fD), (zo14irriiiiiirriirrrrlriiii m0 th aS aI im ac sp en wg op aB aT se dn aG aO aN aD bv aY rn kd nu tv), (zaL aO cO 36 fO9_3)] := hD
  have hK : va_K (dC, dI) vwCl [(cS, .int), (cN, .long), (cD, .int), (cO, .long)] s := hK
  refine lv_iload_n hx hb dX12_goesBy_5 rfl (lv_at hl 3 rfl) ?_
  refine lv_istore (lv' := [(4, .int (nI k)), (0, .ref m0), (1, .int x), (2, .int y), (3, .int (nI k))]) hx hb dX12_goesBy_6 hl (by decide) rfl (fun ls hl => ?_)
  have L8 : ∀ (nF : Nat) (i : Nat) (fO2 : Nat → Int64) (fN2 : Nat → Int64), i < nF → (i ≤ k) → ∀ (H : Heap) (locs : List Loc), va_K (dC, dI) vwCl [(cS, .int), (cO, .long), (cN, .long), (cD, .int)] s → va_P (dC, dI) vwCl [(zo14irriiiiiirriirrrrlriiii m0 th aS aI im ac sp en wg op aB aT se dn aG aO aN aD bv aY rn kd nu tv), (zaI aS cS 901 fS), (zaL aO cO 36 fO2), (zaL aN cN 36 fN2), (zaI aD cD 36 fD)] H → va_D A [(zo14irriiiiiirriirrrrlriiii m0 th aS aI im ac sp en wg op aB aT se dn aG aO aN aD bv aY rn kd nu tv), (zaI aS cS 901 fS), (zaL aO cO 36 fO2), (zaL aN cN 36 fN2), (zaI aD cD 36 fD)] → va_S A s.heap H locs → ∀ (ls : Array Slot), lv_has ls 6 [(0, .ref m0), (2, .int y), (4, .int (nI i))] → W p l e ({ frames := 4, cells := 0, slots := 0, locals := 88 } : Room) s m args below meth c H locs 0 0 Q (F0 m 8 ls []) := by
    intro nF
    induction nF with
    | zero => intro i fO2 fN2 hm; exact absurd hm (Nat.not_lt_zero _)
    | succ nF ih8 =>
      intro i fO2 fN2 hm hii H locs hK hP hD hS ls hl
      refine lv_iload hx hb dX12_goesBy_8 (lv_at hl 2 rfl) ?_
      refine lv_if_le (tgt := 60) hx hb dX12_goesBy_10 (by decide) (fun c_4 => ?_) (fun c_4 => ?_)
      · skip
        have c_4 : i ≤ 0 := (nI_leI (a := i) (b := 0) (by omega) (by omega)).mp c_4
        rw [hQ]
        have hP9 := hP.sub (ws' := [(zo14irriiiiiirriirrrrlriiii m0 th aS aI im ac sp en wg op aB aT se dn aG aO aN aD bv aY rn kd nu tv), (zaI aS cS 901 fS), (zaL aO cO 36 fO2), (zaL aN cN 36 fN2), (zaI aD cD 36 fD)]) [0, 1, 2, 3, 4] rfl
        have hD9 := hD.sub (ws' := [(zo14irriiiiiirriirrrrlriiii m0 th aS aI im ac sp en wg op aB aT se dn aG aO aN aD bv aY rn kd nu tv), (zaI aS cS 901 fS), (zaL aO cO 36 fO2), (zaL aN cN 36 fN2), (zaI aD cD 36 fD)]) [0, 1, 2, 3, 4] (by decide) rfl
        have hK9 := hK.sub (tys' := [(cS, .int), (cO, .long), (cN, .long), (cD, .int)]) [0, 1, 2, 3] rfl
        exact W.vret hx hb hr (fun tQ htQ hWQ => ⟨⟨(fO2, fN2), rfl, trivial, by rw [htQ]; exact hP9, va_K.moved hWQ.alike hK9, hD9⟩, hS.F htQ⟩) hS.2.2 dX12_goesBy_60
      · skip
        have c_4 : ¬ i ≤ 0 := fun q => c_4 ((nI_leI (a := i) (b := 0) (by omega) (by omega)).mpr q)
        refine lv_iinc (v := nI (i - 1)) (lv' := [(4, .int (nI (i - 1))), (0, .ref m0), (2, .int y)]) hx hb dX12_goesBy_13 hl (k := 2) rfl (nI_dec (by omega)) (by decide) rfl (fun ls hl => ?_)
        refine lv_iload hx hb dX12_goesBy_16 (lv_at hl 0 rfl) ?_
        refine lv_iconst (v := 2) hx hb dX12_goesBy_18 (by decide) ?_
        have J19 : ∀ v_5 : Int32, W p l e ({ frames := 4, cells := 0, slots := 0, locals := 88 } : Room) s m args below meth c H locs 0 0 Q (F0 m 49 ls [.int v_5]) := by
          intro v_5
          refine lv_istore (lv' := [(5, .int v_5), (4, .int (nI (i - 1))), (0, .ref m0), (2, .int y)]) hx hb dX12_goesBy_49 hl (by decide) rfl (fun ls hl => ?_)
          refine lv_aload_n hx hb dX12_goesBy_51 rfl (lv_at hl 2 rfl) ?_
          refine lv_iload hx hb dX12_goesBy_52 (lv_at hl 0 rfl) ?_
          have hPc := hP.sub (ws' := [(zo14irriiiiiirriirrrrlriiii m0 th aS aI im ac sp en wg op aB aT se dn aG aO aN aD bv aY rn kd nu tv), (zaI aS cS 901 fS), (zaL aO cO 36 fO2), (zaL aN cN 36 fN2), (zaI aD cD 36 fD)]) [0, 1, 2, 3, 4] rfl
          have hDc := hD.sub (ws' := [(zo14irriiiiiirriirrrrlriiii m0 th aS aI im ac sp en wg op aB aT se dn aG aO aN aD bv aY rn kd nu tv), (zaI aS cS 901 fS), (zaL aO cO 36 fO2), (zaL aN cN 36 fN2), (zaI aD cD 36 fD)]) [0, 1, 2, 3, 4] (by decide) rfl
          have hKc := hK.sub (tys' := [(cS, .int), (cO, .long), (cN, .long), (cD, .int)]) [0, 1, 2, 3] rfl
          have hFc := va_free (wc := [(zo14irriiiiiirriirrrrlriiii m0 th aS aI im ac sp en wg op aB aT se dn aG aO aN aD bv aY rn kd nu tv), (zaI aS cS 901 fS), (zaL aO cO 36 fO2), (zaL aN cN 36 fN2), (zaI aD cD 36 fD)]) hD hS hA [0, 1, 2, 3, 4] rfl
          refine va_callv (va_runV (As := [.int v_5]) (rest := []) ⟨hx, hb, hml, hown, hts⟩ (c_goesOn l dC dI m0 aS aI aB aT aG aO aN aD aY th im ac sp en wg op se dn rn kd nu tv bv cS cO cN cD fS fO2 fN2 fD v_5 H.size) (cwV 1 hts gX12_goesBy_X12_goesOn rfl rfl rfl hd_yX12_goesOn ⟨Nat.le_of_ble_eq_true rfl, Nat.le_of_ble_eq_true rfl⟩) ⟨fun a U g mk q => by obtain ⟨q0, q1, qP, qK, qD⟩ := q; exact ⟨q0, q1, qP, va_K.moved (u := U) (U := U.calling g mk a) (Vm.Alike.refl U.vm) qK, qD⟩, va_recv hK hP (ci := 14) (q := (RX12, TX12, 23)) (q0 := 0) rfl rfl, fun U hU hW => ⟨rfl, by rw [hU], by rw [hU]; exact hPc, va_K.moved hW.alike hKc, hDc.weaken (fun _ _ _ _ => trivial)⟩⟩ rfl rfl hl.1 rfl (lv_room (Nat.le_of_ble_eq_true rfl)) dX12_goesBy_54 ⟨Nat.le_of_ble_eq_true rfl, Nat.le_of_ble_eq_true rfl⟩) hS (fun q _ h => hFc q h) hFc (fun u tC H1 locs htC hvm hw_8 hB hz1 hk1 hS => ?_)
          obtain ⟨fO9_9, fN9_10⟩ := u
          try dsimp only at hw_8 hB
          obtain ⟨hP1, hK1, hD1⟩ := hB
          rw [htC] at hP1
          have hK1 := va_K.moved hvm.symm hK1
          obtain ⟨hP, hD⟩ := va_join (wr := []) (w1 := [(zo14irriiiiiirriirrrrlriiii m0 th aS aI im ac sp en wg op aB aT se dn aG aO aN aD bv aY rn kd nu tv), (zaI aS cS 901 fS), (zaL aO cO 36 fO9_9), (zaL aN cN 36 fN9_10), (zaI aD cD 36 fD)]) hP hD [0, 1, 2, 3, 4] [] rfl rfl (by decide) (by decide) hk1 hFc hP1 hD1
          have hK := (hK.sub (tys' := []) [] rfl).app hK1
          generalize H1 = H at hP hS ⊢
          have hP : va_P (dC, dI) vwCl [(zo14irriiiiiirriirrrrlriiii m0 th aS aI im ac sp en wg op aB aT se dn aG aO aN aD bv aY rn kd nu tv), (zaI aS cS 901 fS), (zaL aO cO 36 fO9_9), (zaL aN cN 36 fN9_10), (zaI aD cD 36 fD)] H := hP
          have hD : va_D A [(zo14irriiiiiirriirrrrlriiii m0 th aS aI im ac sp en wg op aB aT se dn aG aO aN aD bv aY rn kd nu tv), (zaI aS cS 901 fS), (zaL aO cO 36 fO9_9), (zaL aN cN 36 fN9_10), (zaI aD cD 36 fD)] := hD
          have hK : va_K (dC, dI) vwCl [(cS, .int), (cO, .long), (cN, .long), (cD, .int)] s := hK
          refine lv_goto (tgt := 8) hx hb dX12_goesBy_57 (by decide) ?_
          exact ih8 (i - 1) _ _ (by omega) (by omega) _ _ (hK.sub [0, 1, 2, 3] rfl) (hP.sub [0, 1, 2, 3, 4] rfl) (hD.sub [0, 1, 2, 3, 4] (by decide) rfl) hS ls (lv_sub hl [2, 3, 1] rfl)
        refine lv_icmp_ne (tgt := 29) hx hb dX12_goesBy_19 (by decide) (fun c_11 => ?_) (fun c_11 => ?_)
        · skip
          have c_11 : ¬ (i - 1) = 2 := fun q => c_11 ((nI_eq (a := (i - 1)) (b := 2) (by omega) (by omega)).mpr q)
          refine lv_iload hx hb dX12_goesBy_29 (lv_at hl 0 rfl) ?_
          refine lv_iconst (v := 1) hx hb dX12_goesBy_31 (by decide) ?_
          refine lv_icmp_ne (tgt := 45) hx hb dX12_goesBy_32 (by decide) (fun c_12 => ?_) (fun c_12 => ?_)
          · skip
            have c_12 : ¬ (i - 1) = 1 := fun q => c_12 ((nI_eq (a := (i - 1)) (b := 1) (by omega) (by omega)).mpr q)
            refine lv_iload_n hx hb dX12_goesBy_45 rfl (lv_at hl 2 rfl) ?_
            refine lv_bipush (v := 8) hx hb dX12_goesBy_46 (by decide) ?_
            refine lv_irem hx hb dX12_goesBy_48 (by decide) ?_
            exact J19 (y - y / 8 * 8)
          · skip
            have c_12 : (i - 1) = 1 := (nI_eq (a := (i - 1)) (b := 1) (by omega) (by omega)).mp c_12
            refine lv_iload_n hx hb dX12_goesBy_35 rfl (lv_at hl 2 rfl) ?_
            refine lv_bipush (v := 8) hx hb dX12_goesBy_36 (by decide) ?_
            refine lv_idiv hx hb dX12_goesBy_38 (by decide) ?_
            refine lv_bipush (v := 8) hx hb dX12_goesBy_39 (by decide) ?_
            refine lv_irem hx hb dX12_goesBy_41 (by decide) ?_
            refine lv_goto (tgt := 49) hx hb dX12_goesBy_42 (by decide) ?_
            exact J19 ((y / 8) - (y / 8) / 8 * 8)
        · skip
          have c_11 : (i - 1) = 2 := (nI_eq (a := (i - 1)) (b := 2) (by omega) (by omega)).mp c_11
          refine lv_iload_n hx hb dX12_goesBy_22 rfl (lv_at hl 2 rfl) ?_
          refine lv_bipush (v := 64) hx hb dX12_goesBy_23 (by decide) ?_
          refine lv_idiv hx hb dX12_goesBy_25 (by decide) ?_
          refine lv_goto (tgt := 49) hx hb dX12_goesBy_26 (by decide) ?_
          exact J19 (y / 64)
  exact L8 _ (k) _ _ (Nat.lt_succ_self _) (by omega) _ _ (hK.sub [0, 3, 1, 2] rfl) (hP.sub [3, 0, 4, 1, 2] rfl) (hD.sub [3, 0, 4, 1, 2] (by decide) rfl) hS ls (lv_sub hl [1, 3, 0] rfl)

theorem kc_bestRow_0 : ∀ w ∈ wsX120, w ∈ wsX12_bestRow := fun w h => List.mem_cons_of_mem _ (gin_wsX120 w h)
theorem kc_bestRow_1 : (.fieldLink RX12 236 "MistHeapsModel" "bestOften" "J" : Cond) ∈ wsX12_bestRow := kc_of 1157 rfl rfl rfl
theorem kc_bestRow_2 : (.fieldLink RX12 28 "MistHeapsModel" "often" "[J" : Cond) ∈ wsX12_bestRow := kc_of 1154 rfl rfl rfl
set_option maxHeartbeats 4000000 in
set_option maxRecDepth 100000 in
theorem c_bestRow (l : Launch) (dC : Nat → ClassId) (dI : Nat → Nat → Nat) (m0 aS aI aB aT aG aO aN aD aY : Nat) (th im ac sp en wg op se dn rn kd nu tv : Int32) (bv : Int64) (cS cB cT cO cN cD : ClassId) (fS : Nat → Int32) (fB : Nat → Int32) (fT : Nat → Int32) (fO : Nat → Int64) (fN : Nat → Int64) (fD : Nat → Int32) (x y : Int32) (k : Nat) (cz : List pCla) (sz : Nat) (zh : hol fS cz) (hk3 : k ≤ 3) (zy : y = -1 ∨ ∃ j : Nat, j < 36 ∧ y = nI j) : Met l yX12_bestRow wsX12_bestRow ({ frames := 5, cells := 0, slots := 0, locals := 113 } : Room) (va_Pc [.ref m0, .int x, .int y, .int (nI k)] (fun U => U.heap.size = sz ∧ va_P (dC, dI) vwCl [(zo14irriiiiiirriirrrrlriiii m0 th aS aI im ac sp en wg op aB aT se dn aG aO aN aD bv aY rn kd nu tv), (zaI aS cS 901 fS), (zaI aB cB 6 fB), (zaI aT cT 64 fT), (zaL aO cO 36 fO), (zaL aN cN 36 fN), (zaI aD cD 36 fD)] U.heap ∧ va_K (dC, dI) vwCl [(cS, .int), (cB, .int), (cT, .boolean), (cO, .long), (cN, .long), (cD, .int)] U ∧ va_D (fun _ => True) [(zo14irriiiiiirriirrrrlriiii m0 th aS aI im ac sp en wg op aB aT se dn aG aO aN aD bv aY rn kd nu tv), (zaI aS cS 901 fS), (zaI aB cB 6 fB), (zaI aT cT 64 fT), (zaL aO cO 36 fO), (zaL aN cN 36 fN), (zaI aD cD 36 fD)])) (va_Qi (fun (r : Int32) (u : (Nat → Int32) × (Nat → Int32) × (Int32) × (Int32) × (Nat → Int32) × (Nat → Int64) × (Nat → Int64) × (Int64)) => match u with | (fB9, fT9, se9, dn9, fD9, fO9, fN9, bv9) => True) (fun (u : (Nat → Int32) × (Nat → Int32) × (Int32) × (Int32) × (Nat → Int32) × (Nat → Int64) × (Nat → Int64) × (Int64)) (t : State) => match u with | (fB9, fT9, se9, dn9, fD9, fO9, fN9, bv9) => va_P (dC, dI) vwCl [(zo14irriiiiiirriirrrrlriiii m0 th aS aI im ac sp en wg op aB aT se9 dn9 aG aO aN aD bv9 aY rn kd nu tv), (zaI aS cS 901 fS), (zaI aB cB 6 fB9), (zaI aT cT 64 fT9), (zaL aO cO 36 fO9), (zaL aN cN 36 fN9), (zaI aD cD 36 fD9)] t.heap ∧ va_K (dC, dI) vwCl [(cS, .int), (cB, .int), (cT, .boolean), (cO, .long), (cN, .long), (cD, .int)] t ∧ va_D (va_A [(zo14irriiiiiirriirrrrlriiii m0 th aS aI im ac sp en wg op aB aT se dn aG aO aN aD bv aY rn kd nu tv), (zaI aS cS 901 fS), (zaI aB cB 6 fB), (zaI aT cT 64 fT), (zaL aO cO 36 fO), (zaL aN cN 36 fN), (zaI aD cD 36 fD)] sz) [(zo14irriiiiiirriirrrrlriiii m0 th aS aI im ac sp en wg op aB aT se9 dn9 aG aO aN aD bv9 aY rn kd nu tv), (zaI aS cS 901 fS), (zaI aB cB 6 fB9), (zaI aT cT 64 fT9), (zaL aO cO 36 fO9), (zaL aN cN 36 fN9), (zaI aD cD 36 fD9)]) (va_A [(zo14irriiiiiirriirrrrlriiii m0 th aS aI im ac sp en wg op aB aT se dn aG aO aN aD bv aY rn kd nu tv), (zaI aS cS 901 fS), (zaI aB cB 6 fB), (zaI aT cT 64 fT), (zaL aO cO 36 fO), (zaL aN cN 36 fN), (zaI aD cD 36 fD)] sz)) 0 0 (va_A [(zo14irriiiiiirriirrrrlriiii m0 th aS aI im ac sp en wg op aB aT se dn aG aO aN aD bv aY rn kd nu tv), (zaI aS cS 901 fS), (zaI aB cB 6 fB), (zaI aT cT 64 fT), (zaL aO cO 36 fO), (zaL aN cN 36 fN), (zaI aD cD 36 fD)] sz) := by
  refine met_ofQ (cc := cX12_bestRow) (maxL := 10) (ret := (some .int)) (by decide) rfl ?_
  intro p e s m args below meth c s₁ Q B hml hv hQ
  obtain ⟨rfl, hsz, hP, hK, hD0⟩ := hv
  have hx := B.exec
  have hb := B.bytes
  have hr := B.returns
  have hts := atoms_spec (ws := wsX12_bestRow) B.pre
  have hown : s.vm.findClass RX12 = some m.cls := findClass_of_methodNamed B.named
  have hlocks := B.notSynchronized
  subst hsz
  have hD := hD0.self (sz := s.heap.size)
  generalize hAe : va_A [(zo14irriiiiiirriirrrrlriiii m0 th aS aI im ac sp en wg op aB aT se dn aG aO aN aD bv aY rn kd nu tv), (zaI aS cS 901 fS), (zaI aB cB 6 fB), (zaI aT cT 64 fT), (zaL aO cO 36 fO), (zaL aN cN 36 fN), (zaI aD cD 36 fD)] s.heap.size = A at hD hQ ⊢
  have hA : ∀ q : Nat, s.heap.size ≤ q → A q := fun q h => by rw [← hAe]; exact Or.inr h
  have hS : va_S A s.heap s.heap [] := va_S.rf
  have hl := lv_entry [.ref m0, .int x, .int y, .int (nI k)] (n := 10) (Nat.le_of_ble_eq_true rfl)
  rw [lg_entry_eq]
  generalize (lg_sl [.ref m0, .int x, .int y, .int (nI k)] ++ List.replicate (10 - (lg_sl [.ref m0, .int x, .int y, .int (nI k)]).length) Slot.unset).toArray = ls at hl ⊢
  generalize hag : ([.ref m0, .int x, .int y, .int (nI k)] : List Value).toArray = args at hts hQ ⊢
  have hl : lv_has ls 10 [(0, .ref m0), (1, .int x), (2, .int y), (3, .int (nI k))] := hl
  obtain ⟨H, hH⟩ : ∃ H : Heap, H = s.heap := ⟨_, rfl⟩
  rw [← hH] at hP
  rw [← hH]
  have hS : va_S A s.heap H [] := by rw [hH]; exact hS
  obtain ⟨locs, hlo⟩ : ∃ L : List Loc, L = [] := ⟨_, rfl⟩
  rw [← hlo] at hS
  rw [← hlo]
  clear hH hlo
  refine lv_aload_n hx hb dX12_bestRow_0 rfl (lv_at hl 0 rfl) ?_
  have hPc := hP.sub (ws' := [(zo14irriiiiiirriirrrrlriiii m0 th aS aI im ac sp en wg op aB aT se dn aG aO aN aD bv aY rn kd nu tv), (zaI aS cS 901 fS), (zaI aB cB 6 fB), (zaI aT cT 64 fT), (zaI aD cD 36 fD)]) [0, 1, 2, 3, 6] rfl
  have hDc := hD.sub (ws' := [(zo14irriiiiiirriirrrrlriiii m0 th aS aI im ac sp en wg op aB aT se dn aG aO aN aD bv aY rn kd nu tv), (zaI aS cS 901 fS), (zaI aB cB 6 fB), (zaI aT cT 64 fT), (zaI aD cD 36 fD)]) [0, 1, 2, 3, 6] (by decide) rfl
  have hKc := hK.sub (tys' := [(cS, .int), (cB, .int), (cT, .boolean), (cD, .int)]) [0, 1, 2, 5] rfl
  have hFc := va_free (wc := [(zo14irriiiiiirriirrrrlriiii m0 th aS aI im ac sp en wg op aB aT se dn aG aO aN aD bv aY rn kd nu tv), (zaI aS cS 901 fS), (zaI aB cB 6 fB), (zaI aT cT 64 fT), (zaI aD cD 36 fD)]) hD hS hA [0, 1, 2, 3, 6] rfl
  refine va_callv (va_runV (As := []) (rest := []) ⟨hx, hb, hml, hown, hts⟩ (c_lookDrifts l dC dI m0 aS aI aB aT aG aO aN aD aY th im ac sp en wg op se dn rn kd nu tv bv cS cB cT cD fS fB fT fD cz H.size (zh)) (cwV 0 hts gX12_bestRow_X12_looksForDrifts rfl rfl rfl hd_yX12_looksForDrifts ⟨Nat.le_of_ble_eq_true rfl, Nat.le_of_ble_eq_true rfl⟩) ⟨fun a U g mk q => by obtain ⟨q0, q1, qP, qK, qD⟩ := q; exact ⟨q0, q1, qP, va_K.moved (u := U) (U := U.calling g mk a) (Vm.Alike.refl U.vm) qK, qD⟩, va_recv hK hP (ci := 14) (q := (RX12, TX12, 23)) (q0 := 0) rfl rfl, fun U hU hW => ⟨rfl, by rw [hU], by rw [hU]; exact hPc, va_K.moved hW.alike hKc, hDc.weaken (fun _ _ _ _ => trivial)⟩⟩ rfl rfl hl.1 rfl (lv_room (Nat.le_of_ble_eq_true rfl)) dX12_bestRow_1 ⟨Nat.le_of_ble_eq_true rfl, Nat.le_of_ble_eq_true rfl⟩) hS (fun q _ h => hFc q h) hFc (fun u tC H1 locs htC hvm hw_2 hB hz1 hk1 hS => ?_)
  obtain ⟨fB9_3, fT9_4, se9_5, dn9_6, fD9_7⟩ := u
  try dsimp only at hw_2 hB
  obtain ⟨hP1, hK1, hD1⟩ := hB
  rw [htC] at hP1
  have hK1 := va_K.moved hvm.symm hK1
  obtain ⟨hP, hD⟩ := va_join (wr := [(zaL aO cO 36 fO), (zaL aN cN 36 fN)]) (w1 := [(zo14irriiiiiirriirrrrlriiii m0 th aS aI im ac sp en wg op aB aT se9_5 dn9_6 aG aO aN aD bv aY rn kd nu tv), (zaI aS cS 901 fS), (zaI aB cB 6 fB9_3), (zaI aT cT 64 fT9_4), (zaI aD cD 36 fD9_7)]) hP hD [0, 1, 2, 3, 6] [4, 5] rfl rfl (by decide) (by decide) hk1 hFc hP1 hD1
  have hK := (hK.sub (tys' := [(cO, .long), (cN, .long)]) [3, 4] rfl).app hK1
  generalize H1 = H at hP hS ⊢
  have hP : va_P (dC, dI) vwCl [(zaL aO cO 36 fO), (zaL aN cN 36 fN), (zo14irriiiiiirriirrrrlriiii m0 th aS aI im ac sp en wg op aB aT se9_5 dn9_6 aG aO aN aD bv aY rn kd nu tv), (zaI aS cS 901 fS), (zaI aB cB 6 fB9_3), (zaI aT cT 64 fT9_4), (zaI aD cD 36 fD9_7)] H := hP
  have hD : va_D A [(zaL aO cO 36 fO), (zaL aN cN 36 fN), (zo14irriiiiiirriirrrrlriiii m0 th aS aI im ac sp en wg op aB aT se9_5 dn9_6 aG aO aN aD bv aY rn kd nu tv), (zaI aS cS 901 fS), (zaI aB cB 6 fB9_3), (zaI aT cT 64 fT9_4), (zaI aD cD 36 fD9_7)] := hD
  have hK : va_K (dC, dI) vwCl [(cO, .long), (cN, .long), (cS, .int), (cB, .int), (cT, .boolean), (cD, .int)] s := hK
  refine lv_iload_n hx hb dX12_bestRow_4 rfl (lv_at hl 3 rfl) ?_
  refine lv_iconst (v := 1) hx hb dX12_bestRow_5 (by decide) ?_
  have J6 : ∀ v_8 : Int32, (v_8 = nI 8 ∨ v_8 = nI 64 ∨ v_8 = nI 512) → W p l e ({ frames := 5, cells := 0, slots := 0, locals := 113 } : Room) s m args below meth c H locs 0 0 Q (F0 m 27 ls [.int v_8]) := by
    intro v_8 hv_9
    obtain ⟨rw, hrw, rfl⟩ : ∃ rw : Nat, rw ≤ 512 ∧ v_8 = nI rw := by rcases hv_9 with q | q | q; exact ⟨8, by omega, q⟩; exact ⟨64, by omega, q⟩; exact ⟨512, by omega, q⟩
    refine lv_istore (lv' := [(4, .int (nI rw)), (0, .ref m0), (1, .int x), (2, .int y), (3, .int (nI k))]) hx hb dX12_bestRow_27 hl (by decide) rfl (fun ls hl => ?_)
    refine lv_iconst (v := (-1)) hx hb dX12_bestRow_29 (by decide) ?_
    refine lv_istore (lv' := [(5, .int (-1)), (4, .int (nI rw)), (0, .ref m0), (1, .int x), (2, .int y), (3, .int (nI k))]) hx hb dX12_bestRow_30 hl (by decide) rfl (fun ls hl => ?_)
    refine lv_iconst (v := 0) hx hb dX12_bestRow_32 (by decide) ?_
    refine lv_istore (lv' := [(6, .int 0), (5, .int (-1)), (4, .int (nI rw)), (0, .ref m0), (1, .int x), (2, .int y), (3, .int (nI k))]) hx hb dX12_bestRow_33 hl (by decide) rfl (fun ls hl => ?_)
    have L35 : ∀ (nF : Nat) (i : Nat) (q : Int32) (fO2 : Nat → Int64) (fN2 : Nat → Int64) (bv2 : Int64), rw - i < nF → (i ≤ rw) → ∀ (H : Heap) (locs : List Loc), va_K (dC, dI) vwCl [(cS, .int), (cB, .int), (cT, .boolean), (cO, .long), (cN, .long), (cD, .int)] s → va_P (dC, dI) vwCl [(zo14irriiiiiirriirrrrlriiii m0 th aS aI im ac sp en wg op aB aT se9_5 dn9_6 aG aO aN aD bv2 aY rn kd nu tv), (zaI aS cS 901 fS), (zaI aB cB 6 fB9_3), (zaI aT cT 64 fT9_4), (zaL aO cO 36 fO2), (zaL aN cN 36 fN2), (zaI aD cD 36 fD9_7)] H → va_D A [(zo14irriiiiiirriirrrrlriiii m0 th aS aI im ac sp en wg op aB aT se9_5 dn9_6 aG aO aN aD bv2 aY rn kd nu tv), (zaI aS cS 901 fS), (zaI aB cB 6 fB9_3), (zaI aT cT 64 fT9_4), (zaL aO cO 36 fO2), (zaL aN cN 36 fN2), (zaI aD cD 36 fD9_7)] → va_S A s.heap H locs → ∀ (ls : Array Slot), lv_has ls 10 [(0, .ref m0), (1, .int x), (2, .int y), (3, .int (nI k)), (4, .int (nI rw)), (5, .int q), (6, .int (nI i))] → W p l e ({ frames := 5, cells := 0, slots := 0, locals := 113 } : Room) s m args below meth c H locs 0 0 Q (F0 m 35 ls []) := by
      intro nF
      induction nF with
      | zero => intro i q fO2 fN2 bv2 hm; exact absurd hm (Nat.not_lt_zero _)
      | succ nF ih35 =>
        intro i q fO2 fN2 bv2 hm hii H locs hK hP hD hS ls hl
        refine lv_iload hx hb dX12_bestRow_35 (lv_at hl 6 rfl) ?_
        refine lv_iload hx hb dX12_bestRow_37 (lv_at hl 4 rfl) ?_
        refine lv_icmp_ge (tgt := 132) hx hb dX12_bestRow_39 (by decide) (fun c_10 => ?_) (fun c_10 => ?_)
        · skip
          have c_10 : rw ≤ i := (nI_leI (a := rw) (b := i) (by omega) (by omega)).mp c_10
          refine lv_iload hx hb dX12_bestRow_132 (lv_at hl 5 rfl) ?_
          rw [hQ]
          have hP9 := hP.sub (ws' := [(zo14irriiiiiirriirrrrlriiii m0 th aS aI im ac sp en wg op aB aT se9_5 dn9_6 aG aO aN aD bv2 aY rn kd nu tv), (zaI aS cS 901 fS), (zaI aB cB 6 fB9_3), (zaI aT cT 64 fT9_4), (zaL aO cO 36 fO2), (zaL aN cN 36 fN2), (zaI aD cD 36 fD9_7)]) [0, 1, 2, 3, 4, 5, 6] rfl
          have hD9 := hD.sub (ws' := [(zo14irriiiiiirriirrrrlriiii m0 th aS aI im ac sp en wg op aB aT se9_5 dn9_6 aG aO aN aD bv2 aY rn kd nu tv), (zaI aS cS 901 fS), (zaI aB cB 6 fB9_3), (zaI aT cT 64 fT9_4), (zaL aO cO 36 fO2), (zaL aN cN 36 fN2), (zaI aD cD 36 fD9_7)]) [0, 1, 2, 3, 4, 5, 6] (by decide) rfl
          have hK9 := hK.sub (tys' := [(cS, .int), (cB, .int), (cT, .boolean), (cO, .long), (cN, .long), (cD, .int)]) [0, 1, 2, 3, 4, 5] rfl
          exact W.iret (v := q) hx hb hr (fun tQ htQ hWQ => ⟨⟨q, (fB9_3, fT9_4, se9_5, dn9_6, fD9_7, fO2, fN2, bv2), rfl, trivial, by rw [htQ]; exact hP9, va_K.moved hWQ.alike hK9, hD9⟩, hS.F htQ⟩) hS.2.2 dX12_bestRow_134
        · skip
          have c_10 : ¬ rw ≤ i := fun q => c_10 ((nI_leI (a := rw) (b := i) (by omega) (by omega)).mpr q)
          refine lv_aload_n hx hb dX12_bestRow_42 rfl (lv_at hl 0 rfl) ?_
          refine lv_iload_n hx hb dX12_bestRow_43 rfl (lv_at hl 1 rfl) ?_
          refine lv_iload hx hb dX12_bestRow_44 (lv_at hl 6 rfl) ?_
          refine lv_iload_n hx hb dX12_bestRow_46 rfl (lv_at hl 3 rfl) ?_
          have hPc := hP.sub (ws' := [(zo14irriiiiiirriirrrrlriiii m0 th aS aI im ac sp en wg op aB aT se9_5 dn9_6 aG aO aN aD bv2 aY rn kd nu tv), (zaI aS cS 901 fS), (zaL aO cO 36 fO2), (zaL aN cN 36 fN2), (zaI aD cD 36 fD9_7)]) [0, 1, 4, 5, 6] rfl
          have hDc := hD.sub (ws' := [(zo14irriiiiiirriirrrrlriiii m0 th aS aI im ac sp en wg op aB aT se9_5 dn9_6 aG aO aN aD bv2 aY rn kd nu tv), (zaI aS cS 901 fS), (zaL aO cO 36 fO2), (zaL aN cN 36 fN2), (zaI aD cD 36 fD9_7)]) [0, 1, 4, 5, 6] (by decide) rfl
          have hKc := hK.sub (tys' := [(cS, .int), (cO, .long), (cN, .long), (cD, .int)]) [0, 3, 4, 5] rfl
          have hFc := va_free (wc := [(zo14irriiiiiirriirrrrlriiii m0 th aS aI im ac sp en wg op aB aT se9_5 dn9_6 aG aO aN aD bv2 aY rn kd nu tv), (zaI aS cS 901 fS), (zaL aO cO 36 fO2), (zaL aN cN 36 fN2), (zaI aD cD 36 fD9_7)]) hD hS hA [0, 1, 4, 5, 6] rfl
          refine va_callv (va_runV (As := [.int x, .int (nI i), .int (nI k)]) (rest := []) ⟨hx, hb, hml, hown, hts⟩ (c_goesBy l dC dI m0 aS aI aB aT aG aO aN aD aY th im ac sp en wg op se9_5 dn9_6 rn kd nu tv bv2 cS cO cN cD fS fO2 fN2 fD9_7 x (nI i) k H.size (hk3)) (cwV 3 hts gX12_bestRow_X12_goesBy rfl rfl rfl hd_yX12_goesBy ⟨Nat.le_of_ble_eq_true rfl, Nat.le_of_ble_eq_true rfl⟩) ⟨fun a U g mk q => by obtain ⟨q0, q1, qP, qK, qD⟩ := q; exact ⟨q0, q1, qP, va_K.moved (u := U) (U := U.calling g mk a) (Vm.Alike.refl U.vm) qK, qD⟩, va_recv hK hP (ci := 14) (q := (RX12, TX12, 23)) (q0 := 0) rfl rfl, fun U hU hW => ⟨rfl, by rw [hU], by rw [hU]; exact hPc, va_K.moved hW.alike hKc, hDc.weaken (fun _ _ _ _ => trivial)⟩⟩ rfl rfl hl.1 rfl (lv_room (Nat.le_of_ble_eq_true rfl)) dX12_bestRow_47 ⟨Nat.le_of_ble_eq_true rfl, Nat.le_of_ble_eq_true rfl⟩) hS (fun q _ h => hFc q h) hFc (fun u tC H1 locs htC hvm hw_12 hB hz1 hk1 hS => ?_)
          obtain ⟨fO9_13, fN9_14⟩ := u
          try dsimp only at hw_12 hB
          obtain ⟨hP1, hK1, hD1⟩ := hB
          rw [htC] at hP1
          have hK1 := va_K.moved hvm.symm hK1
          obtain ⟨hP, hD⟩ := va_join (wr := [(zaI aB cB 6 fB9_3), (zaI aT cT 64 fT9_4)]) (w1 := [(zo14irriiiiiirriirrrrlriiii m0 th aS aI im ac sp en wg op aB aT se9_5 dn9_6 aG aO aN aD bv2 aY rn kd nu tv), (zaI aS cS 901 fS), (zaL aO cO 36 fO9_13), (zaL aN cN 36 fN9_14), (zaI aD cD 36 fD9_7)]) hP hD [0, 1, 4, 5, 6] [2, 3] rfl rfl (by decide) (by decide) hk1 hFc hP1 hD1
          have hK := (hK.sub (tys' := [(cB, .int), (cT, .boolean)]) [1, 2] rfl).app hK1
          generalize H1 = H at hP hS ⊢
          have hP : va_P (dC, dI) vwCl [(zaI aB cB 6 fB9_3), (zaI aT cT 64 fT9_4), (zo14irriiiiiirriirrrrlriiii m0 th aS aI im ac sp en wg op aB aT se9_5 dn9_6 aG aO aN aD bv2 aY rn kd nu tv), (zaI aS cS 901 fS), (zaL aO cO 36 fO9_13), (zaL aN cN 36 fN9_14), (zaI aD cD 36 fD9_7)] H := hP
          have hD : va_D A [(zaI aB cB 6 fB9_3), (zaI aT cT 64 fT9_4), (zo14irriiiiiirriirrrrlriiii m0 th aS aI im ac sp en wg op aB aT se9_5 dn9_6 aG aO aN aD bv2 aY rn kd nu tv), (zaI aS cS 901 fS), (zaL aO cO 36 fO9_13), (zaL aN cN 36 fN9_14), (zaI aD cD 36 fD9_7)] := hD
          have hK : va_K (dC, dI) vwCl [(cB, .int), (cT, .boolean), (cS, .int), (cO, .long), (cN, .long), (cD, .int)] s := hK
          refine lv_iload_n hx hb dX12_bestRow_50 rfl (lv_at hl 2 rfl) ?_
          refine lv_iconst (v := (-1)) hx hb dX12_bestRow_51 (by decide) ?_
          have J52 : ∀ v_15 : Int64, W p l e ({ frames := 5, cells := 0, slots := 0, locals := 113 } : Room) s m args below meth c H locs 0 0 Q (F0 m 69 ls [.long v_15]) := by
            intro v_15
            refine lv_lstore (lv' := [(7, .long v_15), (0, .ref m0), (1, .int x), (2, .int y), (3, .int (nI k)), (4, .int (nI rw)), (5, .int q), (6, .int (nI i))]) hx hb dX12_bestRow_69 hl (by decide) rfl (fun ls hl => ?_)
            refine lv_iload hx hb dX12_bestRow_71 (lv_at hl 6 rfl) ?_
            refine lv_iconst (v := (-1)) hx hb dX12_bestRow_73 (by decide) ?_
            have J74 : ∀ v_17 : Int32, W p l e ({ frames := 5, cells := 0, slots := 0, locals := 113 } : Room) s m args below meth c H locs 0 0 Q (F0 m 92 ls [.int v_17]) := by
              intro v_17
              refine lv_istore (lv' := [(9, .int v_17), (7, .long v_15), (0, .ref m0), (1, .int x), (2, .int y), (3, .int (nI k)), (4, .int (nI rw)), (5, .int q), (6, .int (nI i))]) hx hb dX12_bestRow_92 hl (by decide) rfl (fun ls hl => ?_)
              refine lv_iload hx hb dX12_bestRow_94 (lv_at hl 0 rfl) ?_
              have J96 : ∀ v_19 : Int32, W p l e ({ frames := 5, cells := 0, slots := 0, locals := 113 } : Room) s m args below meth c H locs 0 0 Q (F0 m 106 ls [.int v_19]) := by
                intro v_19
                refine lv_istore (lv' := [(5, .int v_19), (9, .int v_17), (7, .long v_15), (0, .ref m0), (1, .int x), (2, .int y), (3, .int (nI k)), (4, .int (nI rw)), (6, .int (nI i))]) hx hb dX12_bestRow_106 hl (by decide) rfl (fun ls hl => ?_)
                refine lv_aload_n hx hb dX12_bestRow_108 rfl (lv_at hl 3 rfl) ?_
                refine lv_iload hx hb dX12_bestRow_109 (lv_at hl 1 rfl) ?_
                have J111 : ∀ v_21 : Int64, W p l e ({ frames := 5, cells := 0, slots := 0, locals := 113 } : Room) s m args below meth c H locs 0 0 Q (F0 m 123 ls [.long v_21, .ref m0]) := by
                  intro v_21
                  refine va_put (D := (dC, dI)) (ci := 14) (v := .long v_21) (ty := .long) (C := RX12) (T := TX12) (N := 23) hx hb hts kc_bestRow_0 tyX12 tyX12_ok nmX12 hown hK hP hD hS 2 rfl rfl 17 (by decide) (hts (.fieldLink RX12 236 "MistHeapsModel" "bestOften" "J") kc_bestRow_1) (fun _ h9 => h9) rfl (by decide +kernel) rfl rfl (Nat.le_of_ble_eq_true rfl) dX12_bestRow_123 (fun H locs hP hD hS => ?_)
                  have hP : va_P (dC, dI) vwCl [(zaI aB cB 6 fB9_3), (zaI aT cT 64 fT9_4), (zo14irriiiiiirriirrrrlriiii m0 th aS aI im ac sp en wg op aB aT se9_5 dn9_6 aG aO aN aD v_21 aY rn kd nu tv), (zaI aS cS 901 fS), (zaL aO cO 36 fO9_13), (zaL aN cN 36 fN9_14), (zaI aD cD 36 fD9_7)] H := hP
                  have hD : va_D A [(zaI aB cB 6 fB9_3), (zaI aT cT 64 fT9_4), (zo14irriiiiiirriirrrrlriiii m0 th aS aI im ac sp en wg op aB aT se9_5 dn9_6 aG aO aN aD v_21 aY rn kd nu tv), (zaI aS cS 901 fS), (zaL aO cO 36 fO9_13), (zaL aN cN 36 fN9_14), (zaI aD cD 36 fD9_7)] := hD
                  refine lv_iinc (v := nI (i + 1)) (lv' := [(6, .int (nI (i + 1))), (5, .int v_19), (9, .int v_17), (7, .long v_15), (0, .ref m0), (1, .int x), (2, .int y), (3, .int (nI k)), (4, .int (nI rw))]) hx hb dX12_bestRow_126 hl (k := 8) rfl (nI_add i 1) (by decide) rfl (fun ls hl => ?_)
                  refine lv_goto (tgt := 35) hx hb dX12_bestRow_129 (by decide) ?_
                  exact ih35 (i + 1) _ _ _ _ (by omega) (by omega) _ _ (hK.sub [2, 0, 1, 3, 4, 5] rfl) (hP.sub [2, 3, 0, 1, 4, 5, 6] rfl) (hD.sub [2, 3, 0, 1, 4, 5, 6] (by decide) rfl) hS ls (lv_sub hl [4, 5, 6, 7, 8, 1, 0] rfl)
                refine lv_if_eq (tgt := 119) hx hb dX12_bestRow_111 (by decide) (fun c_23 => ?_) (fun c_23 => ?_)
                · skip
                  refine lv_aload_n hx hb dX12_bestRow_119 rfl (lv_at hl 3 rfl) ?_
                  refine va_get (D := (dC, dI)) (ci := 14) (v := .long bv2) (C := RX12) (T := TX12) (N := 23) hx hb hts kc_bestRow_0 hown hK hP 2 rfl rfl 17 (by decide) (hts (.fieldLink RX12 236 "MistHeapsModel" "bestOften" "J") kc_bestRow_1) (fun _ h9 => h9) rfl dX12_bestRow_120 ?_
                  exact J111 bv2
                · skip
                  refine lv_lload hx hb dX12_bestRow_114 (lv_at hl 2 rfl) ?_
                  refine lv_goto (tgt := 123) hx hb dX12_bestRow_116 (by decide) ?_
                  exact J111 v_15
              refine lv_if_eq (tgt := 104) hx hb dX12_bestRow_96 (by decide) (fun c_24 => ?_) (fun c_24 => ?_)
              · skip
                refine lv_iload hx hb dX12_bestRow_104 (lv_at hl 7 rfl) ?_
                exact J96 q
              · skip
                refine lv_iload hx hb dX12_bestRow_99 (lv_at hl 8 rfl) ?_
                refine lv_goto (tgt := 106) hx hb dX12_bestRow_101 (by decide) ?_
                exact J96 (nI i)
            refine lv_icmp_eq (tgt := 87) hx hb dX12_bestRow_74 (by decide) (fun c_25 => ?_) (fun c_25 => ?_)
            · skip
              refine lv_iconst (v := 1) hx hb dX12_bestRow_87 (by decide) ?_
              refine lv_goto (tgt := 92) hx hb dX12_bestRow_88 (by decide) ?_
              exact J74 1
            · skip
              refine lv_lload hx hb dX12_bestRow_77 (lv_at hl 0 rfl) ?_
              refine lv_aload_n hx hb dX12_bestRow_79 rfl (lv_at hl 1 rfl) ?_
              refine va_get (D := (dC, dI)) (ci := 14) (v := .long bv2) (C := RX12) (T := TX12) (N := 23) hx hb hts kc_bestRow_0 hown hK hP 2 rfl rfl 17 (by decide) (hts (.fieldLink RX12 236 "MistHeapsModel" "bestOften" "J") kc_bestRow_1) (fun _ h9 => h9) rfl dX12_bestRow_80 ?_
              refine W.lcmp hx hb dX12_bestRow_83 ?_
              refine lv_if_le (tgt := 91) hx hb dX12_bestRow_84 (by decide) (fun c_26 => ?_) (fun c_26 => ?_)
              · skip
                refine lv_iconst (v := 0) hx hb dX12_bestRow_91 (by decide) ?_
                exact J74 0
              · skip
                refine lv_iconst (v := 1) hx hb dX12_bestRow_87 (by decide) ?_
                refine lv_goto (tgt := 92) hx hb dX12_bestRow_88 (by decide) ?_
                exact J74 1
          refine lv_icmp_ne (tgt := 63) hx hb dX12_bestRow_52 (by decide) (fun c_27 => ?_) (fun c_27 => ?_)
          · skip
            obtain ⟨j_28, hj_29, ey⟩ : ∃ j : Nat, j < 36 ∧ y = nI j := by rcases zy with q | q; exact absurd q c_27; exact q
            refine lv_aload_n hx hb dX12_bestRow_63 rfl (lv_at hl 0 rfl) ?_
            refine va_get (D := (dC, dI)) (ci := 14) (v := .ref aO) (C := RX12) (T := TX12) (N := 23) hx hb hts kc_bestRow_0 hown hK hP 2 rfl rfl 14 (by decide) (hts (.fieldLink RX12 28 "MistHeapsModel" "often" "[J") kc_bestRow_2) (fun _ h9 => h9) rfl dX12_bestRow_64 ?_
            refine lv_iload_n hx hb dX12_bestRow_67 rfl (lv_at hl 2 rfl) ?_
            refine va_lald hx hb hK hP 4 3 rfl rfl (by rw [ey]; exact vp_in_nI (by omega) (by omega)) dX12_bestRow_68 ?_
            exact J52 (fO9_13 (y).toNatClampNeg)
          · skip
            refine lv_aload_n hx hb dX12_bestRow_55 rfl (lv_at hl 0 rfl) ?_
            have hPc := hP.sub (ws' := [(zo14irriiiiiirriirrrrlriiii m0 th aS aI im ac sp en wg op aB aT se9_5 dn9_6 aG aO aN aD bv2 aY rn kd nu tv), (zaI aS cS 901 fS), (zaL aO cO 36 fO9_13)]) [2, 3, 4] rfl
            have hKc := hK.sub (tys' := [(cS, .int), (cO, .long)]) [2, 3] rfl
            refine vp_callSl (va_runV (As := []) (rest := []) ⟨hx, hb, hml, hown, hts⟩ (c_over l dC dI m0 aS aI aB aT aG aO aN aD aY th im ac sp en wg op se9_5 dn9_6 rn kd nu tv bv2 cS cO fS fO9_13) (cwV 0 hts gX12_bestRow_X12_over rfl rfl rfl hd_yX12_over ⟨Nat.le_of_ble_eq_true rfl, Nat.le_of_ble_eq_true rfl⟩) ⟨fun a U g mk q => by obtain ⟨q0, qP, qK⟩ := q; exact ⟨q0, qP, va_K.moved (u := U) (U := U.calling g mk a) (Vm.Alike.refl U.vm) qK⟩, va_recv hK hP (ci := 14) (q := (RX12, TX12, 23)) (q0 := 2) rfl rfl, fun U hU hW => ⟨rfl, by rw [hU]; exact hPc, va_K.moved hW.alike hKc⟩⟩ rfl rfl hl.1 rfl (lv_room (Nat.le_of_ble_eq_true rfl)) dX12_bestRow_56 ⟨Nat.le_of_ble_eq_true rfl, Nat.le_of_ble_eq_true rfl⟩).run (fun r_30 hw_31 => ?_)
            refine lv_lneg hx hb dX12_bestRow_59 ?_
            refine lv_goto (tgt := 69) hx hb dX12_bestRow_60 (by decide) ?_
            exact J52 (-r_30)
    exact L35 _ (0) _ _ _ _ (Nat.lt_succ_self _) (by omega) _ _ (hK.sub [2, 3, 4, 0, 1, 5] rfl) (hP.sub [2, 3, 4, 5, 0, 1, 6] rfl) (hD.sub [2, 3, 4, 5, 0, 1, 6] (by decide) rfl) hS ls (lv_sub hl [3, 4, 5, 6, 2, 1, 0] rfl)
  refine lv_icmp_ne (tgt := 14) hx hb dX12_bestRow_6 (by decide) (fun c_32 => ?_) (fun c_32 => ?_)
  · skip
    have c_32 : ¬ k = 1 := fun q => c_32 ((nI_eq (a := k) (b := 1) (by omega) (by omega)).mpr q)
    refine lv_iload_n hx hb dX12_bestRow_14 rfl (lv_at hl 3 rfl) ?_
    refine lv_iconst (v := 2) hx hb dX12_bestRow_15 (by decide) ?_
    refine lv_icmp_ne (tgt := 24) hx hb dX12_bestRow_16 (by decide) (fun c_33 => ?_) (fun c_33 => ?_)
    · skip
      have c_33 : ¬ k = 2 := fun q => c_33 ((nI_eq (a := k) (b := 2) (by omega) (by omega)).mpr q)
      refine lv_sipush (v := 512) hx hb dX12_bestRow_24 (by decide) ?_
      exact J6 512 (by first | exact Or.inl rfl | exact Or.inr (Or.inl rfl) | exact Or.inr (Or.inr rfl))
    · skip
      have c_33 : k = 2 := (nI_eq (a := k) (b := 2) (by omega) (by omega)).mp c_33
      refine lv_bipush (v := 64) hx hb dX12_bestRow_19 (by decide) ?_
      refine lv_goto (tgt := 27) hx hb dX12_bestRow_21 (by decide) ?_
      exact J6 64 (by first | exact Or.inl rfl | exact Or.inr (Or.inl rfl) | exact Or.inr (Or.inr rfl))
  · skip
    have c_32 : k = 1 := (nI_eq (a := k) (b := 1) (by omega) (by omega)).mp c_32
    refine lv_bipush (v := 8) hx hb dX12_bestRow_9 (by decide) ?_
    refine lv_goto (tgt := 27) hx hb dX12_bestRow_11 (by decide) ?_
    exact J6 8 (by first | exact Or.inl rfl | exact Or.inr (Or.inl rfl) | exact Or.inr (Or.inr rfl))

set_option maxHeartbeats 4000000 in
set_option maxRecDepth 100000 in
theorem c_wayOf (l : Launch) (dC : Nat → ClassId) (dI : Nat → Nat → Nat) (x y z : Int32) : Met l yX12_wayOf wsX12_wayOf ({ frames := 0, cells := 0, slots := 0, locals := 0 } : Room) (va_Pc [.int x, .int y, .int z] (fun U => True)) (vp_Si (fun r => True)) 0 0 (fun _ => False) := by
  refine met_ofQ (cc := cX12_wayOf) (maxL := 4) (ret := (some .int)) (by decide) rfl ?_
  intro p e s m args below meth c s₁ Q B hml hv hQ
  obtain ⟨rfl, -⟩ := hv
  have hx := B.exec
  have hb := B.bytes
  have hr := B.returns
  have hts := atoms_spec (ws := wsX12_wayOf) B.pre
  have hown : s.vm.findClass RX12 = some m.cls := findClass_of_methodNamed B.named
  have hlocks := B.notSynchronized
  obtain ⟨A, hAe⟩ : ∃ A : Nat → Prop, A = fun _ => False := ⟨_, rfl⟩
  rw [← hAe] at hQ
  have hS : va_S A s.heap s.heap [] := va_S.rf
  have hl := lv_entry [.int x, .int y, .int z] (n := 4) (Nat.le_of_ble_eq_true rfl)
  rw [lg_entry_eq]
  generalize (lg_sl [.int x, .int y, .int z] ++ List.replicate (4 - (lg_sl [.int x, .int y, .int z]).length) Slot.unset).toArray = ls at hl ⊢
  generalize hag : ([.int x, .int y, .int z] : List Value).toArray = args at hts hQ ⊢
  have hl : lv_has ls 4 [(0, .int x), (1, .int y), (2, .int z)] := hl
  refine lv_iload_n hx hb dX12_wayOf_0 rfl (lv_at hl 1 rfl) ?_
  refine lv_iconst (v := 1) hx hb dX12_wayOf_1 (by decide) ?_
  refine lv_isub hx hb dX12_wayOf_2 ?_
  refine lv_iload_n hx hb dX12_wayOf_3 rfl (lv_at hl 2 rfl) ?_
  refine lv_isub hx hb dX12_wayOf_4 ?_
  refine lv_istore_n (lv' := [(3, .int ((y - 1) - z)), (0, .int x), (1, .int y), (2, .int z)]) hx hb dX12_wayOf_5 rfl hl (by decide) rfl (fun ls hl => ?_)
  refine lv_iload_n hx hb dX12_wayOf_6 rfl (lv_at hl 0 rfl) ?_
  refine lv_iconst (v := 2) hx hb dX12_wayOf_7 (by decide) ?_
  refine lv_icmp_ne (tgt := 18) hx hb dX12_wayOf_8 (by decide) (fun c_1 => ?_) (fun c_1 => ?_)
  · skip
    refine lv_iload_n hx hb dX12_wayOf_18 rfl (lv_at hl 0 rfl) ?_
    refine lv_iconst (v := 1) hx hb dX12_wayOf_19 (by decide) ?_
    refine lv_icmp_ne (tgt := 33) hx hb dX12_wayOf_20 (by decide) (fun c_2 => ?_) (fun c_2 => ?_)
    · skip
      refine lv_iload_n hx hb dX12_wayOf_33 rfl (lv_at hl 1 rfl) ?_
      refine lv_bipush (v := 8) hx hb dX12_wayOf_34 (by decide) ?_
      refine lv_irem hx hb dX12_wayOf_36 (by decide) ?_
      rw [hQ]
      exact W.iret (v := x - x / 8 * 8) hx hb hr (fun tQ htQ hWQ => ⟨x - x / 8 * 8, rfl, trivial, by rw [htQ]⟩) (fun q hq => absurd hq List.not_mem_nil) dX12_wayOf_37
    · skip
      refine lv_iload_n hx hb dX12_wayOf_23 rfl (lv_at hl 1 rfl) ?_
      refine lv_bipush (v := 8) hx hb dX12_wayOf_24 (by decide) ?_
      refine lv_idiv hx hb dX12_wayOf_26 (by decide) ?_
      refine lv_bipush (v := 8) hx hb dX12_wayOf_27 (by decide) ?_
      refine lv_irem hx hb dX12_wayOf_29 (by decide) ?_
      refine lv_goto (tgt := 37) hx hb dX12_wayOf_30 (by decide) ?_
      rw [hQ]
      exact W.iret (v := (x / 8) - (x / 8) / 8 * 8) hx hb hr (fun tQ htQ hWQ => ⟨(x / 8) - (x / 8) / 8 * 8, rfl, trivial, by rw [htQ]⟩) (fun q hq => absurd hq List.not_mem_nil) dX12_wayOf_37
  · skip
    refine lv_iload_n hx hb dX12_wayOf_11 rfl (lv_at hl 1 rfl) ?_
    refine lv_bipush (v := 64) hx hb dX12_wayOf_12 (by decide) ?_
    refine lv_idiv hx hb dX12_wayOf_14 (by decide) ?_
    refine lv_goto (tgt := 37) hx hb dX12_wayOf_15 (by decide) ?_
    rw [hQ]
    exact W.iret (v := x / 64) hx hb hr (fun tQ htQ hWQ => ⟨x / 64, rfl, trivial, by rw [htQ]⟩) (fun q hq => absurd hq List.not_mem_nil) dX12_wayOf_37

set_option maxHeartbeats 4000000 in
set_option maxRecDepth 100000 in
theorem c_mBest (l : Launch) (dC : Nat → ClassId) (dI : Nat → Nat → Nat) (m0 aS aI aB aT aG aO aN aD aY : Nat) (th im ac sp en wg op se dn rn kd nu tv : Int32) (bv : Int64) (cS cB cT cO cN cD : ClassId) (fS : Nat → Int32) (fB : Nat → Int32) (fT : Nat → Int32) (fO : Nat → Int64) (fN : Nat → Int64) (fD : Nat → Int32) (x y z u : Int32) (cz : List pCla) (sz : Nat) (zh : hol fS cz) : Met l yX12_best wsX12_best ({ frames := 6, cells := 0, slots := 0, locals := 142 } : Room) (va_Pc [.ref m0, .int x, .int y, .int z, .int u] (fun U => U.heap.size = sz ∧ va_P (dC, dI) vwCl [(zo14irriiiiiirriirrrrlriiii m0 th aS aI im ac sp en wg op aB aT se dn aG aO aN aD bv aY rn kd nu tv), (zaI aS cS 901 fS), (zaI aB cB 6 fB), (zaI aT cT 64 fT), (zaL aO cO 36 fO), (zaL aN cN 36 fN), (zaI aD cD 36 fD)] U.heap ∧ va_K (dC, dI) vwCl [(cS, .int), (cB, .int), (cT, .boolean), (cO, .long), (cN, .long), (cD, .int)] U ∧ va_D (fun _ => True) [(zo14irriiiiiirriirrrrlriiii m0 th aS aI im ac sp en wg op aB aT se dn aG aO aN aD bv aY rn kd nu tv), (zaI aS cS 901 fS), (zaI aB cB 6 fB), (zaI aT cT 64 fT), (zaL aO cO 36 fO), (zaL aN cN 36 fN), (zaI aD cD 36 fD)])) (va_Qi (fun (r : Int32) (u : (Nat → Int32) × (Nat → Int32) × (Int32) × (Int32) × (Nat → Int32) × (Nat → Int64) × (Nat → Int64) × (Int64)) => match u with | (fB9, fT9, se9, dn9, fD9, fO9, fN9, bv9) => True) (fun (u : (Nat → Int32) × (Nat → Int32) × (Int32) × (Int32) × (Nat → Int32) × (Nat → Int64) × (Nat → Int64) × (Int64)) (t : State) => match u with | (fB9, fT9, se9, dn9, fD9, fO9, fN9, bv9) => va_P (dC, dI) vwCl [(zo14irriiiiiirriirrrrlriiii m0 th aS aI im ac sp en wg op aB aT se9 dn9 aG aO aN aD bv9 aY rn kd nu tv), (zaI aS cS 901 fS), (zaI aB cB 6 fB9), (zaI aT cT 64 fT9), (zaL aO cO 36 fO9), (zaL aN cN 36 fN9), (zaI aD cD 36 fD9)] t.heap ∧ va_K (dC, dI) vwCl [(cS, .int), (cB, .int), (cT, .boolean), (cO, .long), (cN, .long), (cD, .int)] t ∧ va_D (va_A [(zo14irriiiiiirriirrrrlriiii m0 th aS aI im ac sp en wg op aB aT se dn aG aO aN aD bv aY rn kd nu tv), (zaI aS cS 901 fS), (zaI aB cB 6 fB), (zaI aT cT 64 fT), (zaL aO cO 36 fO), (zaL aN cN 36 fN), (zaI aD cD 36 fD)] sz) [(zo14irriiiiiirriirrrrlriiii m0 th aS aI im ac sp en wg op aB aT se9 dn9 aG aO aN aD bv9 aY rn kd nu tv), (zaI aS cS 901 fS), (zaI aB cB 6 fB9), (zaI aT cT 64 fT9), (zaL aO cO 36 fO9), (zaL aN cN 36 fN9), (zaI aD cD 36 fD9)]) (va_A [(zo14irriiiiiirriirrrrlriiii m0 th aS aI im ac sp en wg op aB aT se dn aG aO aN aD bv aY rn kd nu tv), (zaI aS cS 901 fS), (zaI aB cB 6 fB), (zaI aT cT 64 fT), (zaL aO cO 36 fO), (zaL aN cN 36 fN), (zaI aD cD 36 fD)] sz)) 0 0 (va_A [(zo14irriiiiiirriirrrrlriiii m0 th aS aI im ac sp en wg op aB aT se dn aG aO aN aD bv aY rn kd nu tv), (zaI aS cS 901 fS), (zaI aB cB 6 fB), (zaI aT cT 64 fT), (zaL aO cO 36 fO), (zaL aN cN 36 fN), (zaI aD cD 36 fD)] sz) := by
  refine met_ofQ (cc := cX12_best) (maxL := 5) (ret := (some .int)) (by decide) rfl ?_
  intro p e s m args below meth c s₁ Q B hml hv hQ
  obtain ⟨rfl, hsz, hP, hK, hD0⟩ := hv
  have hx := B.exec
  have hb := B.bytes
  have hr := B.returns
  have hts := atoms_spec (ws := wsX12_best) B.pre
  have hown : s.vm.findClass RX12 = some m.cls := findClass_of_methodNamed B.named
  have hlocks := B.notSynchronized
  subst hsz
  have hD := hD0.self (sz := s.heap.size)
  generalize hAe : va_A [(zo14irriiiiiirriirrrrlriiii m0 th aS aI im ac sp en wg op aB aT se dn aG aO aN aD bv aY rn kd nu tv), (zaI aS cS 901 fS), (zaI aB cB 6 fB), (zaI aT cT 64 fT), (zaL aO cO 36 fO), (zaL aN cN 36 fN), (zaI aD cD 36 fD)] s.heap.size = A at hD hQ ⊢
  have hA : ∀ q : Nat, s.heap.size ≤ q → A q := fun q h => by rw [← hAe]; exact Or.inr h
  have hS : va_S A s.heap s.heap [] := va_S.rf
  have hl := lv_entry [.ref m0, .int x, .int y, .int z, .int u] (n := 5) (Nat.le_of_ble_eq_true rfl)
  rw [lg_entry_eq]
  generalize (lg_sl [.ref m0, .int x, .int y, .int z, .int u] ++ List.replicate (5 - (lg_sl [.ref m0, .int x, .int y, .int z, .int u]).length) Slot.unset).toArray = ls at hl ⊢
  generalize hag : ([.ref m0, .int x, .int y, .int z, .int u] : List Value).toArray = args at hts hQ ⊢
  have hl : lv_has ls 5 [(0, .ref m0), (1, .int x), (2, .int y), (3, .int z), (4, .int u)] := hl
  obtain ⟨H, hH⟩ : ∃ H : Heap, H = s.heap := ⟨_, rfl⟩
  rw [← hH] at hP
  rw [← hH]
  have hS : va_S A s.heap H [] := by rw [hH]; exact hS
  obtain ⟨locs, hlo⟩ : ∃ L : List Loc, L = [] := ⟨_, rfl⟩
  rw [← hlo] at hS
  rw [← hlo]
  clear hH hlo
  refine lv_iload_n hx hb dX12_best_0 rfl (lv_at hl 1 rfl) ?_
  refine vp_callSi (va_runS (As := [.int x]) (rest := []) ⟨hx, hb, hml, hown, hts⟩ (c_mCell l dC dI x) (va_cwS 1 hts gX12_best_X12_isCell rfl rfl rfl hd_yX12_isCell.2 ⟨Nat.le_of_ble_eq_true rfl, Nat.le_of_ble_eq_true rfl⟩) ⟨fun a U g mk q => ⟨q.1, trivial⟩, fun U hU hW => ⟨rfl, trivial⟩⟩ rfl rfl hl.1 rfl (lv_room (Nat.le_of_ble_eq_true rfl)) dX12_best_1 ⟨Nat.le_of_ble_eq_true rfl, Nat.le_of_ble_eq_true rfl⟩).run (fun r_1 hw_2 => ?_)
  rcases hw_2 with ⟨rfl, h_3, h_4⟩ | ⟨rfl, h_5⟩
  · skip
    obtain ⟨j_6, hj_7, rfl⟩ := nI_of2 (n := 35) (M := 35) rfl h_3 (Int32.not_lt.mp h_4)
    refine lv_if_eq (tgt := 24) hx hb dX12_best_4 (by decide) (fun c_8 => absurd c_8 (by decide)) (fun _ => ?_)
    refine lv_iload_n hx hb dX12_best_7 rfl (lv_at hl 2 rfl) ?_
    refine vp_callSi (va_runS (As := [.int y]) (rest := []) ⟨hx, hb, hml, hown, hts⟩ (c_mCell l dC dI y) (va_cwS 1 hts gX12_best_X12_isCell rfl rfl rfl hd_yX12_isCell.2 ⟨Nat.le_of_ble_eq_true rfl, Nat.le_of_ble_eq_true rfl⟩) ⟨fun a U g mk q => ⟨q.1, trivial⟩, fun U hU hW => ⟨rfl, trivial⟩⟩ rfl rfl hl.1 rfl (lv_room (Nat.le_of_ble_eq_true rfl)) dX12_best_8 ⟨Nat.le_of_ble_eq_true rfl, Nat.le_of_ble_eq_true rfl⟩).run (fun r_9 hw_10 => ?_)
    rcases hw_10 with ⟨rfl, h_11, h_12⟩ | ⟨rfl, h_13⟩
    · skip
      obtain ⟨j_14, hj_15, rfl⟩ := nI_of2 (n := 35) (M := 35) rfl h_11 (Int32.not_lt.mp h_12)
      refine lv_if_eq (tgt := 24) hx hb dX12_best_11 (by decide) (fun c_16 => absurd c_16 (by decide)) (fun _ => ?_)
      refine lv_iload hx hb dX12_best_14 (lv_at hl 4 rfl) ?_
      refine lv_iconst (v := 0) hx hb dX12_best_16 (by decide) ?_
      refine lv_iconst (v := 2) hx hb dX12_best_17 (by decide) ?_
      refine vp_callSi (va_runS (As := [.int u, .int 0, .int 2]) (rest := []) ⟨hx, hb, hml, hown, hts⟩ (c_in l dC dI u 0 2) (va_cwS 3 hts gX12_best_X12_in rfl rfl rfl hd_yX12_in.2 ⟨Nat.le_of_ble_eq_true rfl, Nat.le_of_ble_eq_true rfl⟩) ⟨fun a U g mk q => ⟨q.1, trivial⟩, fun U hU hW => ⟨rfl, trivial⟩⟩ rfl rfl hl.1 rfl (lv_room (Nat.le_of_ble_eq_true rfl)) dX12_best_18 ⟨Nat.le_of_ble_eq_true rfl, Nat.le_of_ble_eq_true rfl⟩).run (fun r_17 hw_18 => ?_)
      rcases hw_18 with ⟨rfl, h_19, h_20⟩ | ⟨rfl, h_21⟩
      · skip
        obtain ⟨j_22, hj_23, rfl⟩ := nI_of2 (n := 2) (M := 2) rfl h_19 (Int32.not_lt.mp h_20)
        refine lv_if_ne (tgt := 26) hx hb dX12_best_21 (by decide) (fun _ => ?_) (fun c_24 => absurd c_24 (by decide))
        refine lv_iload_n hx hb dX12_best_26 rfl (lv_at hl 3 rfl) ?_
        refine lv_iconst (v := 1) hx hb dX12_best_27 (by decide) ?_
        refine lv_iconst (v := 3) hx hb dX12_best_28 (by decide) ?_
        refine vp_callSi (va_runS (As := [.int z, .int 1, .int 3]) (rest := []) ⟨hx, hb, hml, hown, hts⟩ (c_in l dC dI z 1 3) (va_cwS 3 hts gX12_best_X12_in rfl rfl rfl hd_yX12_in.2 ⟨Nat.le_of_ble_eq_true rfl, Nat.le_of_ble_eq_true rfl⟩) ⟨fun a U g mk q => ⟨q.1, trivial⟩, fun U hU hW => ⟨rfl, trivial⟩⟩ rfl rfl hl.1 rfl (lv_room (Nat.le_of_ble_eq_true rfl)) dX12_best_29 ⟨Nat.le_of_ble_eq_true rfl, Nat.le_of_ble_eq_true rfl⟩).run (fun r_25 hw_26 => ?_)
        rcases hw_26 with ⟨rfl, h_27, h_28⟩ | ⟨rfl, h_29⟩
        · skip
          obtain ⟨j_30, hj_31, rfl⟩ := nI_of2 (n := 3) (M := 3) rfl (fun q0 => h_27 (Int32.lt_trans q0 (by decide))) (Int32.not_lt.mp h_28)
          refine lv_if_ne (tgt := 38) hx hb dX12_best_32 (by decide) (fun _ => ?_) (fun c_32 => absurd c_32 (by decide))
          refine lv_iload hx hb dX12_best_38 (lv_at hl 4 rfl) ?_
          refine lv_iload_n hx hb dX12_best_40 rfl (lv_at hl 3 rfl) ?_
          refine lv_icmp_lt (tgt := 48) hx hb dX12_best_41 (by decide) (fun c_33 => ?_) (fun c_33 => ?_)
          · skip
            have c_33 : j_22 < j_30 := (nI_ltI (a := j_22) (b := j_30) (by omega) (by omega)).mp c_33
            refine lv_aload_n hx hb dX12_best_48 rfl (lv_at hl 0 rfl) ?_
            refine lv_iload_n hx hb dX12_best_49 rfl (lv_at hl 1 rfl) ?_
            refine lv_iload_n hx hb dX12_best_50 rfl (lv_at hl 2 rfl) ?_
            refine lv_iload_n hx hb dX12_best_51 rfl (lv_at hl 3 rfl) ?_
            have hPc := hP.sub (ws' := [(zo14irriiiiiirriirrrrlriiii m0 th aS aI im ac sp en wg op aB aT se dn aG aO aN aD bv aY rn kd nu tv), (zaI aS cS 901 fS), (zaI aB cB 6 fB), (zaI aT cT 64 fT), (zaL aO cO 36 fO), (zaL aN cN 36 fN), (zaI aD cD 36 fD)]) [0, 1, 2, 3, 4, 5, 6] rfl
            have hDc := hD.sub (ws' := [(zo14irriiiiiirriirrrrlriiii m0 th aS aI im ac sp en wg op aB aT se dn aG aO aN aD bv aY rn kd nu tv), (zaI aS cS 901 fS), (zaI aB cB 6 fB), (zaI aT cT 64 fT), (zaL aO cO 36 fO), (zaL aN cN 36 fN), (zaI aD cD 36 fD)]) [0, 1, 2, 3, 4, 5, 6] (by decide) rfl
            have hKc := hK.sub (tys' := [(cS, .int), (cB, .int), (cT, .boolean), (cO, .long), (cN, .long), (cD, .int)]) [0, 1, 2, 3, 4, 5] rfl
            have hFc := va_free (wc := [(zo14irriiiiiirriirrrrlriiii m0 th aS aI im ac sp en wg op aB aT se dn aG aO aN aD bv aY rn kd nu tv), (zaI aS cS 901 fS), (zaI aB cB 6 fB), (zaI aT cT 64 fT), (zaL aO cO 36 fO), (zaL aN cN 36 fN), (zaI aD cD 36 fD)]) hD hS hA [0, 1, 2, 3, 4, 5, 6] rfl
            refine va_calli (va_runV (As := [.int (nI j_6), .int (nI j_14), .int (nI j_30)]) (rest := []) ⟨hx, hb, hml, hown, hts⟩ (c_bestRow l dC dI m0 aS aI aB aT aG aO aN aD aY th im ac sp en wg op se dn rn kd nu tv bv cS cB cT cO cN cD fS fB fT fO fN fD (nI j_6) (nI j_14) j_30 cz H.size (zh) (by omega) (Or.inr ⟨_, by omega, rfl⟩)) (cwV 3 hts gX12_best_X12_bestRow rfl rfl rfl hd_yX12_bestRow ⟨Nat.le_of_ble_eq_true rfl, Nat.le_of_ble_eq_true rfl⟩) ⟨fun a U g mk q => by obtain ⟨q0, q1, qP, qK, qD⟩ := q; exact ⟨q0, q1, qP, va_K.moved (u := U) (U := U.calling g mk a) (Vm.Alike.refl U.vm) qK, qD⟩, va_recv hK hP (ci := 14) (q := (RX12, TX12, 23)) (q0 := 0) rfl rfl, fun U hU hW => ⟨rfl, by rw [hU], by rw [hU]; exact hPc, va_K.moved hW.alike hKc, hDc.weaken (fun _ _ _ _ => trivial)⟩⟩ rfl rfl hl.1 rfl (lv_room (Nat.le_of_ble_eq_true rfl)) dX12_best_52 ⟨Nat.le_of_ble_eq_true rfl, Nat.le_of_ble_eq_true rfl⟩) hS (fun q _ h => hFc q h) hFc (fun r_34 u tC H1 locs htC hvm hw_35 hB hz1 hk1 hS => ?_)
            obtain ⟨fB9_36, fT9_37, se9_38, dn9_39, fD9_40, fO9_41, fN9_42, bv9_43⟩ := u
            try dsimp only at hw_35 hB
            obtain ⟨hP1, hK1, hD1⟩ := hB
            rw [htC] at hP1
            have hK1 := va_K.moved hvm.symm hK1
            obtain ⟨hP, hD⟩ := va_join (wr := []) (w1 := [(zo14irriiiiiirriirrrrlriiii m0 th aS aI im ac sp en wg op aB aT se9_38 dn9_39 aG aO aN aD bv9_43 aY rn kd nu tv), (zaI aS cS 901 fS), (zaI aB cB 6 fB9_36), (zaI aT cT 64 fT9_37), (zaL aO cO 36 fO9_41), (zaL aN cN 36 fN9_42), (zaI aD cD 36 fD9_40)]) hP hD [0, 1, 2, 3, 4, 5, 6] [] rfl rfl (by decide) (by decide) hk1 hFc hP1 hD1
            have hK := (hK.sub (tys' := []) [] rfl).app hK1
            generalize H1 = H at hP hS ⊢
            have hP : va_P (dC, dI) vwCl [(zo14irriiiiiirriirrrrlriiii m0 th aS aI im ac sp en wg op aB aT se9_38 dn9_39 aG aO aN aD bv9_43 aY rn kd nu tv), (zaI aS cS 901 fS), (zaI aB cB 6 fB9_36), (zaI aT cT 64 fT9_37), (zaL aO cO 36 fO9_41), (zaL aN cN 36 fN9_42), (zaI aD cD 36 fD9_40)] H := hP
            have hD : va_D A [(zo14irriiiiiirriirrrrlriiii m0 th aS aI im ac sp en wg op aB aT se9_38 dn9_39 aG aO aN aD bv9_43 aY rn kd nu tv), (zaI aS cS 901 fS), (zaI aB cB 6 fB9_36), (zaI aT cT 64 fT9_37), (zaL aO cO 36 fO9_41), (zaL aN cN 36 fN9_42), (zaI aD cD 36 fD9_40)] := hD
            have hK : va_K (dC, dI) vwCl [(cS, .int), (cB, .int), (cT, .boolean), (cO, .long), (cN, .long), (cD, .int)] s := hK
            refine lv_iload_n hx hb dX12_best_55 rfl (lv_at hl 3 rfl) ?_
            refine lv_iload hx hb dX12_best_56 (lv_at hl 4 rfl) ?_
            refine vp_callSi (va_runS (As := [.int r_34, .int (nI j_30), .int (nI j_22)]) (rest := []) ⟨hx, hb, hml, hown, hts⟩ (c_wayOf l dC dI r_34 (nI j_30) (nI j_22)) (va_cwS 3 hts gX12_best_X12_wayOf rfl rfl rfl hd_yX12_wayOf.2 ⟨Nat.le_of_ble_eq_true rfl, Nat.le_of_ble_eq_true rfl⟩) ⟨fun a U g mk q => ⟨q.1, trivial⟩, fun U hU hW => ⟨rfl, trivial⟩⟩ rfl rfl hl.1 rfl (lv_room (Nat.le_of_ble_eq_true rfl)) dX12_best_58 ⟨Nat.le_of_ble_eq_true rfl, Nat.le_of_ble_eq_true rfl⟩).run (fun r_44 hw_45 => ?_)
            rw [hQ]
            have hP9 := hP.sub (ws' := [(zo14irriiiiiirriirrrrlriiii m0 th aS aI im ac sp en wg op aB aT se9_38 dn9_39 aG aO aN aD bv9_43 aY rn kd nu tv), (zaI aS cS 901 fS), (zaI aB cB 6 fB9_36), (zaI aT cT 64 fT9_37), (zaL aO cO 36 fO9_41), (zaL aN cN 36 fN9_42), (zaI aD cD 36 fD9_40)]) [0, 1, 2, 3, 4, 5, 6] rfl
            have hD9 := hD.sub (ws' := [(zo14irriiiiiirriirrrrlriiii m0 th aS aI im ac sp en wg op aB aT se9_38 dn9_39 aG aO aN aD bv9_43 aY rn kd nu tv), (zaI aS cS 901 fS), (zaI aB cB 6 fB9_36), (zaI aT cT 64 fT9_37), (zaL aO cO 36 fO9_41), (zaL aN cN 36 fN9_42), (zaI aD cD 36 fD9_40)]) [0, 1, 2, 3, 4, 5, 6] (by decide) rfl
            have hK9 := hK.sub (tys' := [(cS, .int), (cB, .int), (cT, .boolean), (cO, .long), (cN, .long), (cD, .int)]) [0, 1, 2, 3, 4, 5] rfl
            exact W.iret (v := r_44) hx hb hr (fun tQ htQ hWQ => ⟨⟨r_44, (fB9_36, fT9_37, se9_38, dn9_39, fD9_40, fO9_41, fN9_42, bv9_43), rfl, trivial, by rw [htQ]; exact hP9, va_K.moved hWQ.alike hK9, hD9⟩, hS.F htQ⟩) hS.2.2 dX12_best_61
          · skip
            have c_33 : ¬ j_22 < j_30 := fun q => c_33 ((nI_ltI (a := j_22) (b := j_30) (by omega) (by omega)).mpr q)
            refine lv_iconst (v := (-1)) hx hb dX12_best_44 (by decide) ?_
            refine lv_goto (tgt := 61) hx hb dX12_best_45 (by decide) ?_
            rw [hQ]
            have hP9 := hP.sub (ws' := [(zo14irriiiiiirriirrrrlriiii m0 th aS aI im ac sp en wg op aB aT se dn aG aO aN aD bv aY rn kd nu tv), (zaI aS cS 901 fS), (zaI aB cB 6 fB), (zaI aT cT 64 fT), (zaL aO cO 36 fO), (zaL aN cN 36 fN), (zaI aD cD 36 fD)]) [0, 1, 2, 3, 4, 5, 6] rfl
            have hD9 := hD.sub (ws' := [(zo14irriiiiiirriirrrrlriiii m0 th aS aI im ac sp en wg op aB aT se dn aG aO aN aD bv aY rn kd nu tv), (zaI aS cS 901 fS), (zaI aB cB 6 fB), (zaI aT cT 64 fT), (zaL aO cO 36 fO), (zaL aN cN 36 fN), (zaI aD cD 36 fD)]) [0, 1, 2, 3, 4, 5, 6] (by decide) rfl
            have hK9 := hK.sub (tys' := [(cS, .int), (cB, .int), (cT, .boolean), (cO, .long), (cN, .long), (cD, .int)]) [0, 1, 2, 3, 4, 5] rfl
            exact W.iret (v := (-1)) hx hb hr (fun tQ htQ hWQ => ⟨⟨(-1), (fB, fT, se, dn, fD, fO, fN, bv), rfl, trivial, by rw [htQ]; exact hP9, va_K.moved hWQ.alike hK9, hD9⟩, hS.F htQ⟩) hS.2.2 dX12_best_61
        · skip
          refine lv_if_ne (tgt := 38) hx hb dX12_best_32 (by decide) (fun c_46 => absurd c_46 (by decide)) (fun _ => ?_)
          refine lv_bipush (v := (-2)) hx hb dX12_best_35 (by decide) ?_
          rw [hQ]
          have hP9 := hP.sub (ws' := [(zo14irriiiiiirriirrrrlriiii m0 th aS aI im ac sp en wg op aB aT se dn aG aO aN aD bv aY rn kd nu tv), (zaI aS cS 901 fS), (zaI aB cB 6 fB), (zaI aT cT 64 fT), (zaL aO cO 36 fO), (zaL aN cN 36 fN), (zaI aD cD 36 fD)]) [0, 1, 2, 3, 4, 5, 6] rfl
          have hD9 := hD.sub (ws' := [(zo14irriiiiiirriirrrrlriiii m0 th aS aI im ac sp en wg op aB aT se dn aG aO aN aD bv aY rn kd nu tv), (zaI aS cS 901 fS), (zaI aB cB 6 fB), (zaI aT cT 64 fT), (zaL aO cO 36 fO), (zaL aN cN 36 fN), (zaI aD cD 36 fD)]) [0, 1, 2, 3, 4, 5, 6] (by decide) rfl
          have hK9 := hK.sub (tys' := [(cS, .int), (cB, .int), (cT, .boolean), (cO, .long), (cN, .long), (cD, .int)]) [0, 1, 2, 3, 4, 5] rfl
          exact W.iret (v := (-2)) hx hb hr (fun tQ htQ hWQ => ⟨⟨(-2), (fB, fT, se, dn, fD, fO, fN, bv), rfl, trivial, by rw [htQ]; exact hP9, va_K.moved hWQ.alike hK9, hD9⟩, hS.F htQ⟩) hS.2.2 dX12_best_37
      · skip
        refine lv_if_ne (tgt := 26) hx hb dX12_best_21 (by decide) (fun c_47 => absurd c_47 (by decide)) (fun _ => ?_)
        refine lv_iconst (v := (-1)) hx hb dX12_best_24 (by decide) ?_
        rw [hQ]
        have hP9 := hP.sub (ws' := [(zo14irriiiiiirriirrrrlriiii m0 th aS aI im ac sp en wg op aB aT se dn aG aO aN aD bv aY rn kd nu tv), (zaI aS cS 901 fS), (zaI aB cB 6 fB), (zaI aT cT 64 fT), (zaL aO cO 36 fO), (zaL aN cN 36 fN), (zaI aD cD 36 fD)]) [0, 1, 2, 3, 4, 5, 6] rfl
        have hD9 := hD.sub (ws' := [(zo14irriiiiiirriirrrrlriiii m0 th aS aI im ac sp en wg op aB aT se dn aG aO aN aD bv aY rn kd nu tv), (zaI aS cS 901 fS), (zaI aB cB 6 fB), (zaI aT cT 64 fT), (zaL aO cO 36 fO), (zaL aN cN 36 fN), (zaI aD cD 36 fD)]) [0, 1, 2, 3, 4, 5, 6] (by decide) rfl
        have hK9 := hK.sub (tys' := [(cS, .int), (cB, .int), (cT, .boolean), (cO, .long), (cN, .long), (cD, .int)]) [0, 1, 2, 3, 4, 5] rfl
        exact W.iret (v := (-1)) hx hb hr (fun tQ htQ hWQ => ⟨⟨(-1), (fB, fT, se, dn, fD, fO, fN, bv), rfl, trivial, by rw [htQ]; exact hP9, va_K.moved hWQ.alike hK9, hD9⟩, hS.F htQ⟩) hS.2.2 dX12_best_25
    · skip
      refine lv_if_eq (tgt := 24) hx hb dX12_best_11 (by decide) (fun _ => ?_) (fun c_48 => absurd c_48 (by decide))
      refine lv_iconst (v := (-1)) hx hb dX12_best_24 (by decide) ?_
      rw [hQ]
      have hP9 := hP.sub (ws' := [(zo14irriiiiiirriirrrrlriiii m0 th aS aI im ac sp en wg op aB aT se dn aG aO aN aD bv aY rn kd nu tv), (zaI aS cS 901 fS), (zaI aB cB 6 fB), (zaI aT cT 64 fT), (zaL aO cO 36 fO), (zaL aN cN 36 fN), (zaI aD cD 36 fD)]) [0, 1, 2, 3, 4, 5, 6] rfl
      have hD9 := hD.sub (ws' := [(zo14irriiiiiirriirrrrlriiii m0 th aS aI im ac sp en wg op aB aT se dn aG aO aN aD bv aY rn kd nu tv), (zaI aS cS 901 fS), (zaI aB cB 6 fB), (zaI aT cT 64 fT), (zaL aO cO 36 fO), (zaL aN cN 36 fN), (zaI aD cD 36 fD)]) [0, 1, 2, 3, 4, 5, 6] (by decide) rfl
      have hK9 := hK.sub (tys' := [(cS, .int), (cB, .int), (cT, .boolean), (cO, .long), (cN, .long), (cD, .int)]) [0, 1, 2, 3, 4, 5] rfl
      exact W.iret (v := (-1)) hx hb hr (fun tQ htQ hWQ => ⟨⟨(-1), (fB, fT, se, dn, fD, fO, fN, bv), rfl, trivial, by rw [htQ]; exact hP9, va_K.moved hWQ.alike hK9, hD9⟩, hS.F htQ⟩) hS.2.2 dX12_best_25
  · skip
    refine lv_if_eq (tgt := 24) hx hb dX12_best_4 (by decide) (fun _ => ?_) (fun c_49 => absurd c_49 (by decide))
    refine lv_iconst (v := (-1)) hx hb dX12_best_24 (by decide) ?_
    rw [hQ]
    have hP9 := hP.sub (ws' := [(zo14irriiiiiirriirrrrlriiii m0 th aS aI im ac sp en wg op aB aT se dn aG aO aN aD bv aY rn kd nu tv), (zaI aS cS 901 fS), (zaI aB cB 6 fB), (zaI aT cT 64 fT), (zaL aO cO 36 fO), (zaL aN cN 36 fN), (zaI aD cD 36 fD)]) [0, 1, 2, 3, 4, 5, 6] rfl
    have hD9 := hD.sub (ws' := [(zo14irriiiiiirriirrrrlriiii m0 th aS aI im ac sp en wg op aB aT se dn aG aO aN aD bv aY rn kd nu tv), (zaI aS cS 901 fS), (zaI aB cB 6 fB), (zaI aT cT 64 fT), (zaL aO cO 36 fO), (zaL aN cN 36 fN), (zaI aD cD 36 fD)]) [0, 1, 2, 3, 4, 5, 6] (by decide) rfl
    have hK9 := hK.sub (tys' := [(cS, .int), (cB, .int), (cT, .boolean), (cO, .long), (cN, .long), (cD, .int)]) [0, 1, 2, 3, 4, 5] rfl
    exact W.iret (v := (-1)) hx hb hr (fun tQ htQ hWQ => ⟨⟨(-1), (fB, fT, se, dn, fD, fO, fN, bv), rfl, trivial, by rw [htQ]; exact hP9, va_K.moved hWQ.alike hK9, hD9⟩, hS.F htQ⟩) hS.2.2 dX12_best_25

theorem kc_mBestOdds_0 : ∀ w ∈ wsX120, w ∈ wsX12_bestOdds := fun w h => List.mem_cons_of_mem _ (gin_wsX120 w h)
theorem kc_mBestOdds_1 : (.fieldLink RX12 236 "MistHeapsModel" "bestOften" "J" : Cond) ∈ wsX12_bestOdds := kc_of 1157 rfl rfl rfl
theorem kc_mBestOdds_2 : (.constantLong RX12 181 (-9223372036854775808) : Cond) ∈ wsX12_bestOdds := kc_of 1351 rfl rfl rfl
set_option maxHeartbeats 4000000 in
set_option maxRecDepth 100000 in
theorem c_mBestOdds (l : Launch) (dC : Nat → ClassId) (dI : Nat → Nat → Nat) (m0 aS aI aB aT aG aO aN aD aY : Nat) (th im ac sp en wg op se dn rn kd nu tv : Int32) (bv : Int64) (cS cB cT cO cN cD : ClassId) (fS : Nat → Int32) (fB : Nat → Int32) (fT : Nat → Int32) (fO : Nat → Int64) (fN : Nat → Int64) (fD : Nat → Int32) (x y z u : Int32) (cz : List pCla) (sz : Nat) (zh : hol fS cz) : Met l yX12_bestOdds wsX12_bestOdds ({ frames := 6, cells := 0, slots := 0, locals := 142 } : Room) (va_Pc [.ref m0, .int x, .int y, .int z, .int u] (fun U => U.heap.size = sz ∧ va_P (dC, dI) vwCl [(zo14irriiiiiirriirrrrlriiii m0 th aS aI im ac sp en wg op aB aT se dn aG aO aN aD bv aY rn kd nu tv), (zaI aS cS 901 fS), (zaI aB cB 6 fB), (zaI aT cT 64 fT), (zaL aO cO 36 fO), (zaL aN cN 36 fN), (zaI aD cD 36 fD)] U.heap ∧ va_K (dC, dI) vwCl [(cS, .int), (cB, .int), (cT, .boolean), (cO, .long), (cN, .long), (cD, .int)] U ∧ va_D (fun _ => True) [(zo14irriiiiiirriirrrrlriiii m0 th aS aI im ac sp en wg op aB aT se dn aG aO aN aD bv aY rn kd nu tv), (zaI aS cS 901 fS), (zaI aB cB 6 fB), (zaI aT cT 64 fT), (zaL aO cO 36 fO), (zaL aN cN 36 fN), (zaI aD cD 36 fD)])) (va_Ql (fun (r : Int64) (u : (Nat → Int32) × (Nat → Int32) × (Int32) × (Int32) × (Nat → Int32) × (Nat → Int64) × (Nat → Int64) × (Int64)) => match u with | (fB9, fT9, se9, dn9, fD9, fO9, fN9, bv9) => True) (fun (u : (Nat → Int32) × (Nat → Int32) × (Int32) × (Int32) × (Nat → Int32) × (Nat → Int64) × (Nat → Int64) × (Int64)) (t : State) => match u with | (fB9, fT9, se9, dn9, fD9, fO9, fN9, bv9) => va_P (dC, dI) vwCl [(zo14irriiiiiirriirrrrlriiii m0 th aS aI im ac sp en wg op aB aT se9 dn9 aG aO aN aD bv9 aY rn kd nu tv), (zaI aS cS 901 fS), (zaI aB cB 6 fB9), (zaI aT cT 64 fT9), (zaL aO cO 36 fO9), (zaL aN cN 36 fN9), (zaI aD cD 36 fD9)] t.heap ∧ va_K (dC, dI) vwCl [(cS, .int), (cB, .int), (cT, .boolean), (cO, .long), (cN, .long), (cD, .int)] t ∧ va_D (va_A [(zo14irriiiiiirriirrrrlriiii m0 th aS aI im ac sp en wg op aB aT se dn aG aO aN aD bv aY rn kd nu tv), (zaI aS cS 901 fS), (zaI aB cB 6 fB), (zaI aT cT 64 fT), (zaL aO cO 36 fO), (zaL aN cN 36 fN), (zaI aD cD 36 fD)] sz) [(zo14irriiiiiirriirrrrlriiii m0 th aS aI im ac sp en wg op aB aT se9 dn9 aG aO aN aD bv9 aY rn kd nu tv), (zaI aS cS 901 fS), (zaI aB cB 6 fB9), (zaI aT cT 64 fT9), (zaL aO cO 36 fO9), (zaL aN cN 36 fN9), (zaI aD cD 36 fD9)]) (va_A [(zo14irriiiiiirriirrrrlriiii m0 th aS aI im ac sp en wg op aB aT se dn aG aO aN aD bv aY rn kd nu tv), (zaI aS cS 901 fS), (zaI aB cB 6 fB), (zaI aT cT 64 fT), (zaL aO cO 36 fO), (zaL aN cN 36 fN), (zaI aD cD 36 fD)] sz)) 0 0 (va_A [(zo14irriiiiiirriirrrrlriiii m0 th aS aI im ac sp en wg op aB aT se dn aG aO aN aD bv aY rn kd nu tv), (zaI aS cS 901 fS), (zaI aB cB 6 fB), (zaI aT cT 64 fT), (zaL aO cO 36 fO), (zaL aN cN 36 fN), (zaI aD cD 36 fD)] sz) := by
  refine met_ofQ (cc := cX12_bestOdds) (maxL := 6) (ret := (some .long)) (by decide) rfl ?_
  intro p e s m args below meth c s₁ Q B hml hv hQ
  obtain ⟨rfl, hsz, hP, hK, hD0⟩ := hv
  have hx := B.exec
  have hb := B.bytes
  have hr := B.returns
  have hts := atoms_spec (ws := wsX12_bestOdds) B.pre
  have hown : s.vm.findClass RX12 = some m.cls := findClass_of_methodNamed B.named
  have hlocks := B.notSynchronized
  subst hsz
  have hD := hD0.self (sz := s.heap.size)
  generalize hAe : va_A [(zo14irriiiiiirriirrrrlriiii m0 th aS aI im ac sp en wg op aB aT se dn aG aO aN aD bv aY rn kd nu tv), (zaI aS cS 901 fS), (zaI aB cB 6 fB), (zaI aT cT 64 fT), (zaL aO cO 36 fO), (zaL aN cN 36 fN), (zaI aD cD 36 fD)] s.heap.size = A at hD hQ ⊢
  have hA : ∀ q : Nat, s.heap.size ≤ q → A q := fun q h => by rw [← hAe]; exact Or.inr h
  have hS : va_S A s.heap s.heap [] := va_S.rf
  have hl := lv_entry [.ref m0, .int x, .int y, .int z, .int u] (n := 6) (Nat.le_of_ble_eq_true rfl)
  rw [lg_entry_eq]
  generalize (lg_sl [.ref m0, .int x, .int y, .int z, .int u] ++ List.replicate (6 - (lg_sl [.ref m0, .int x, .int y, .int z, .int u]).length) Slot.unset).toArray = ls at hl ⊢
  generalize hag : ([.ref m0, .int x, .int y, .int z, .int u] : List Value).toArray = args at hts hQ ⊢
  have hl : lv_has ls 6 [(0, .ref m0), (1, .int x), (2, .int y), (3, .int z), (4, .int u)] := hl
  obtain ⟨H, hH⟩ : ∃ H : Heap, H = s.heap := ⟨_, rfl⟩
  rw [← hH] at hP
  rw [← hH]
  have hS : va_S A s.heap H [] := by rw [hH]; exact hS
  obtain ⟨locs, hlo⟩ : ∃ L : List Loc, L = [] := ⟨_, rfl⟩
  rw [← hlo] at hS
  rw [← hlo]
  clear hH hlo
  refine lv_iload_n hx hb dX12_bestOdds_0 rfl (lv_at hl 1 rfl) ?_
  refine vp_callSi (va_runS (As := [.int x]) (rest := []) ⟨hx, hb, hml, hown, hts⟩ (c_mCell l dC dI x) (va_cwS 1 hts gX12_bestOdds_X12_isCell rfl rfl rfl hd_yX12_isCell.2 ⟨Nat.le_of_ble_eq_true rfl, Nat.le_of_ble_eq_true rfl⟩) ⟨fun a U g mk q => ⟨q.1, trivial⟩, fun U hU hW => ⟨rfl, trivial⟩⟩ rfl rfl hl.1 rfl (lv_room (Nat.le_of_ble_eq_true rfl)) dX12_bestOdds_1 ⟨Nat.le_of_ble_eq_true rfl, Nat.le_of_ble_eq_true rfl⟩).run (fun r_1 hw_2 => ?_)
  rcases hw_2 with ⟨rfl, h_3, h_4⟩ | ⟨rfl, h_5⟩
  · skip
    obtain ⟨j_6, hj_7, rfl⟩ := nI_of2 (n := 35) (M := 35) rfl h_3 (Int32.not_lt.mp h_4)
    refine lv_if_eq (tgt := 33) hx hb dX12_bestOdds_4 (by decide) (fun c_8 => absurd c_8 (by decide)) (fun _ => ?_)
    refine lv_iload_n hx hb dX12_bestOdds_7 rfl (lv_at hl 2 rfl) ?_
    refine vp_callSi (va_runS (As := [.int y]) (rest := []) ⟨hx, hb, hml, hown, hts⟩ (c_mCell l dC dI y) (va_cwS 1 hts gX12_bestOdds_X12_isCell rfl rfl rfl hd_yX12_isCell.2 ⟨Nat.le_of_ble_eq_true rfl, Nat.le_of_ble_eq_true rfl⟩) ⟨fun a U g mk q => ⟨q.1, trivial⟩, fun U hU hW => ⟨rfl, trivial⟩⟩ rfl rfl hl.1 rfl (lv_room (Nat.le_of_ble_eq_true rfl)) dX12_bestOdds_8 ⟨Nat.le_of_ble_eq_true rfl, Nat.le_of_ble_eq_true rfl⟩).run (fun r_9 hw_10 => ?_)
    rcases hw_10 with ⟨rfl, h_11, h_12⟩ | ⟨rfl, h_13⟩
    · skip
      obtain ⟨j_14, hj_15, rfl⟩ := nI_of2 (n := 35) (M := 35) rfl h_11 (Int32.not_lt.mp h_12)
      refine lv_if_eq (tgt := 33) hx hb dX12_bestOdds_11 (by decide) (fun c_16 => absurd c_16 (by decide)) (fun _ => ?_)
      refine lv_iload_n hx hb dX12_bestOdds_14 rfl (lv_at hl 3 rfl) ?_
      refine lv_iconst (v := 1) hx hb dX12_bestOdds_15 (by decide) ?_
      refine lv_iconst (v := 3) hx hb dX12_bestOdds_16 (by decide) ?_
      refine vp_callSi (va_runS (As := [.int z, .int 1, .int 3]) (rest := []) ⟨hx, hb, hml, hown, hts⟩ (c_in l dC dI z 1 3) (va_cwS 3 hts gX12_bestOdds_X12_in rfl rfl rfl hd_yX12_in.2 ⟨Nat.le_of_ble_eq_true rfl, Nat.le_of_ble_eq_true rfl⟩) ⟨fun a U g mk q => ⟨q.1, trivial⟩, fun U hU hW => ⟨rfl, trivial⟩⟩ rfl rfl hl.1 rfl (lv_room (Nat.le_of_ble_eq_true rfl)) dX12_bestOdds_17 ⟨Nat.le_of_ble_eq_true rfl, Nat.le_of_ble_eq_true rfl⟩).run (fun r_17 hw_18 => ?_)
      rcases hw_18 with ⟨rfl, h_19, h_20⟩ | ⟨rfl, h_21⟩
      · skip
        obtain ⟨j_22, hj_23, rfl⟩ := nI_of2 (n := 3) (M := 3) rfl (fun q0 => h_19 (Int32.lt_trans q0 (by decide))) (Int32.not_lt.mp h_20)
        refine lv_if_eq (tgt := 33) hx hb dX12_bestOdds_20 (by decide) (fun c_24 => absurd c_24 (by decide)) (fun _ => ?_)
        refine lv_iload hx hb dX12_bestOdds_23 (lv_at hl 4 rfl) ?_
        refine lv_iconst (v := 0) hx hb dX12_bestOdds_25 (by decide) ?_
        refine lv_iconst (v := 1) hx hb dX12_bestOdds_26 (by decide) ?_
        refine vp_callSi (va_runS (As := [.int u, .int 0, .int 1]) (rest := []) ⟨hx, hb, hml, hown, hts⟩ (c_in l dC dI u 0 1) (va_cwS 3 hts gX12_bestOdds_X12_in rfl rfl rfl hd_yX12_in.2 ⟨Nat.le_of_ble_eq_true rfl, Nat.le_of_ble_eq_true rfl⟩) ⟨fun a U g mk q => ⟨q.1, trivial⟩, fun U hU hW => ⟨rfl, trivial⟩⟩ rfl rfl hl.1 rfl (lv_room (Nat.le_of_ble_eq_true rfl)) dX12_bestOdds_27 ⟨Nat.le_of_ble_eq_true rfl, Nat.le_of_ble_eq_true rfl⟩).run (fun r_25 hw_26 => ?_)
        rcases hw_26 with ⟨rfl, h_27, h_28⟩ | ⟨rfl, h_29⟩
        · skip
          obtain ⟨j_30, hj_31, rfl⟩ := nI_of2 (n := 1) (M := 1) rfl h_27 (Int32.not_lt.mp h_28)
          refine lv_if_ne (tgt := 37) hx hb dX12_bestOdds_30 (by decide) (fun _ => ?_) (fun c_32 => absurd c_32 (by decide))
          refine lv_aload_n hx hb dX12_bestOdds_37 rfl (lv_at hl 0 rfl) ?_
          refine lv_iload_n hx hb dX12_bestOdds_38 rfl (lv_at hl 1 rfl) ?_
          refine lv_iload_n hx hb dX12_bestOdds_39 rfl (lv_at hl 2 rfl) ?_
          refine lv_iload_n hx hb dX12_bestOdds_40 rfl (lv_at hl 3 rfl) ?_
          have hPc := hP.sub (ws' := [(zo14irriiiiiirriirrrrlriiii m0 th aS aI im ac sp en wg op aB aT se dn aG aO aN aD bv aY rn kd nu tv), (zaI aS cS 901 fS), (zaI aB cB 6 fB), (zaI aT cT 64 fT), (zaL aO cO 36 fO), (zaL aN cN 36 fN), (zaI aD cD 36 fD)]) [0, 1, 2, 3, 4, 5, 6] rfl
          have hDc := hD.sub (ws' := [(zo14irriiiiiirriirrrrlriiii m0 th aS aI im ac sp en wg op aB aT se dn aG aO aN aD bv aY rn kd nu tv), (zaI aS cS 901 fS), (zaI aB cB 6 fB), (zaI aT cT 64 fT), (zaL aO cO 36 fO), (zaL aN cN 36 fN), (zaI aD cD 36 fD)]) [0, 1, 2, 3, 4, 5, 6] (by decide) rfl
          have hKc := hK.sub (tys' := [(cS, .int), (cB, .int), (cT, .boolean), (cO, .long), (cN, .long), (cD, .int)]) [0, 1, 2, 3, 4, 5] rfl
          have hFc := va_free (wc := [(zo14irriiiiiirriirrrrlriiii m0 th aS aI im ac sp en wg op aB aT se dn aG aO aN aD bv aY rn kd nu tv), (zaI aS cS 901 fS), (zaI aB cB 6 fB), (zaI aT cT 64 fT), (zaL aO cO 36 fO), (zaL aN cN 36 fN), (zaI aD cD 36 fD)]) hD hS hA [0, 1, 2, 3, 4, 5, 6] rfl
          refine va_calli (va_runV (As := [.int (nI j_6), .int (nI j_14), .int (nI j_22)]) (rest := []) ⟨hx, hb, hml, hown, hts⟩ (c_bestRow l dC dI m0 aS aI aB aT aG aO aN aD aY th im ac sp en wg op se dn rn kd nu tv bv cS cB cT cO cN cD fS fB fT fO fN fD (nI j_6) (nI j_14) j_22 cz H.size (zh) (by omega) (Or.inr ⟨_, by omega, rfl⟩)) (cwV 3 hts gX12_bestOdds_X12_bestRow rfl rfl rfl hd_yX12_bestRow ⟨Nat.le_of_ble_eq_true rfl, Nat.le_of_ble_eq_true rfl⟩) ⟨fun a U g mk q => by obtain ⟨q0, q1, qP, qK, qD⟩ := q; exact ⟨q0, q1, qP, va_K.moved (u := U) (U := U.calling g mk a) (Vm.Alike.refl U.vm) qK, qD⟩, va_recv hK hP (ci := 14) (q := (RX12, TX12, 23)) (q0 := 0) rfl rfl, fun U hU hW => ⟨rfl, by rw [hU], by rw [hU]; exact hPc, va_K.moved hW.alike hKc, hDc.weaken (fun _ _ _ _ => trivial)⟩⟩ rfl rfl hl.1 rfl (lv_room (Nat.le_of_ble_eq_true rfl)) dX12_bestOdds_41 ⟨Nat.le_of_ble_eq_true rfl, Nat.le_of_ble_eq_true rfl⟩) hS (fun q _ h => hFc q h) hFc (fun r_33 u tC H1 locs htC hvm hw_34 hB hz1 hk1 hS => ?_)
          obtain ⟨fB9_35, fT9_36, se9_37, dn9_38, fD9_39, fO9_40, fN9_41, bv9_42⟩ := u
          try dsimp only at hw_34 hB
          obtain ⟨hP1, hK1, hD1⟩ := hB
          rw [htC] at hP1
          have hK1 := va_K.moved hvm.symm hK1
          obtain ⟨hP, hD⟩ := va_join (wr := []) (w1 := [(zo14irriiiiiirriirrrrlriiii m0 th aS aI im ac sp en wg op aB aT se9_37 dn9_38 aG aO aN aD bv9_42 aY rn kd nu tv), (zaI aS cS 901 fS), (zaI aB cB 6 fB9_35), (zaI aT cT 64 fT9_36), (zaL aO cO 36 fO9_40), (zaL aN cN 36 fN9_41), (zaI aD cD 36 fD9_39)]) hP hD [0, 1, 2, 3, 4, 5, 6] [] rfl rfl (by decide) (by decide) hk1 hFc hP1 hD1
          have hK := (hK.sub (tys' := []) [] rfl).app hK1
          generalize H1 = H at hP hS ⊢
          have hP : va_P (dC, dI) vwCl [(zo14irriiiiiirriirrrrlriiii m0 th aS aI im ac sp en wg op aB aT se9_37 dn9_38 aG aO aN aD bv9_42 aY rn kd nu tv), (zaI aS cS 901 fS), (zaI aB cB 6 fB9_35), (zaI aT cT 64 fT9_36), (zaL aO cO 36 fO9_40), (zaL aN cN 36 fN9_41), (zaI aD cD 36 fD9_39)] H := hP
          have hD : va_D A [(zo14irriiiiiirriirrrrlriiii m0 th aS aI im ac sp en wg op aB aT se9_37 dn9_38 aG aO aN aD bv9_42 aY rn kd nu tv), (zaI aS cS 901 fS), (zaI aB cB 6 fB9_35), (zaI aT cT 64 fT9_36), (zaL aO cO 36 fO9_40), (zaL aN cN 36 fN9_41), (zaI aD cD 36 fD9_39)] := hD
          have hK : va_K (dC, dI) vwCl [(cS, .int), (cB, .int), (cT, .boolean), (cO, .long), (cN, .long), (cD, .int)] s := hK
          refine lv_istore (lv' := [(5, .int r_33), (0, .ref m0), (1, .int (nI j_6)), (2, .int (nI j_14)), (3, .int (nI j_22)), (4, .int (nI j_30))]) hx hb dX12_bestOdds_44 hl (by decide) rfl (fun ls hl => ?_)
          refine lv_iload hx hb dX12_bestOdds_46 (lv_at hl 0 rfl) ?_
          refine lv_iconst (v := (-1)) hx hb dX12_bestOdds_48 (by decide) ?_
          refine lv_icmp_ne (tgt := 58) hx hb dX12_bestOdds_49 (by decide) (fun c_43 => ?_) (fun c_43 => ?_)
          · skip
            refine lv_aload_n hx hb dX12_bestOdds_58 rfl (lv_at hl 1 rfl) ?_
            refine va_get (D := (dC, dI)) (ci := 14) (v := .long bv9_42) (C := RX12) (T := TX12) (N := 23) hx hb hts kc_mBestOdds_0 hown hK hP 0 rfl rfl 17 (by decide) (hts (.fieldLink RX12 236 "MistHeapsModel" "bestOften" "J") kc_mBestOdds_1) (fun _ h9 => h9) rfl dX12_bestOdds_59 ?_
            refine lv_iload_n hx hb dX12_bestOdds_62 rfl (lv_at hl 4 rfl) ?_
            refine vp_callSl (va_runS (As := [.int (nI j_22)]) (rest := [.long bv9_42]) ⟨hx, hb, hml, hown, hts⟩ (c_twenties l dC dI j_22 (by omega)) (va_cwS 1 hts gX12_bestOdds_X12_twenties rfl rfl rfl hd_yX12_twenties.2 ⟨Nat.le_of_ble_eq_true rfl, Nat.le_of_ble_eq_true rfl⟩) ⟨fun a U g mk q => ⟨q.1, trivial⟩, fun U hU hW => ⟨rfl, trivial⟩⟩ rfl rfl hl.1 rfl (lv_room (Nat.le_of_ble_eq_true rfl)) dX12_bestOdds_63 ⟨Nat.le_of_ble_eq_true rfl, Nat.le_of_ble_eq_true rfl⟩).run (fun r_44 hw_45 => ?_)
            refine lv_iload hx hb dX12_bestOdds_66 (lv_at hl 5 rfl) ?_
            refine vp_callSl (va_runS (As := [.long bv9_42, .long r_44, .int (nI j_30)]) (rest := []) ⟨hx, hb, hml, hown, hts⟩ (c_lowest l dC dI bv9_42 r_44 (nI j_30) hw_45) (va_cwS 3 hts gX12_bestOdds_X12_lowest rfl rfl rfl hd_yX12_lowest.2 ⟨Nat.le_of_ble_eq_true rfl, Nat.le_of_ble_eq_true rfl⟩) ⟨fun a U g mk q => ⟨q.1, trivial⟩, fun U hU hW => ⟨rfl, trivial⟩⟩ rfl rfl hl.1 rfl (lv_room (Nat.le_of_ble_eq_true rfl)) dX12_bestOdds_68 ⟨Nat.le_of_ble_eq_true rfl, Nat.le_of_ble_eq_true rfl⟩).run (fun r_46 hw_47 => ?_)
            rw [hQ]
            have hP9 := hP.sub (ws' := [(zo14irriiiiiirriirrrrlriiii m0 th aS aI im ac sp en wg op aB aT se9_37 dn9_38 aG aO aN aD bv9_42 aY rn kd nu tv), (zaI aS cS 901 fS), (zaI aB cB 6 fB9_35), (zaI aT cT 64 fT9_36), (zaL aO cO 36 fO9_40), (zaL aN cN 36 fN9_41), (zaI aD cD 36 fD9_39)]) [0, 1, 2, 3, 4, 5, 6] rfl
            have hD9 := hD.sub (ws' := [(zo14irriiiiiirriirrrrlriiii m0 th aS aI im ac sp en wg op aB aT se9_37 dn9_38 aG aO aN aD bv9_42 aY rn kd nu tv), (zaI aS cS 901 fS), (zaI aB cB 6 fB9_35), (zaI aT cT 64 fT9_36), (zaL aO cO 36 fO9_40), (zaL aN cN 36 fN9_41), (zaI aD cD 36 fD9_39)]) [0, 1, 2, 3, 4, 5, 6] (by decide) rfl
            have hK9 := hK.sub (tys' := [(cS, .int), (cB, .int), (cT, .boolean), (cO, .long), (cN, .long), (cD, .int)]) [0, 1, 2, 3, 4, 5] rfl
            exact W.lret (v := r_46) hx hb hr (fun tQ htQ hWQ => ⟨⟨r_46, (fB9_35, fT9_36, se9_37, dn9_38, fD9_39, fO9_40, fN9_41, bv9_42), rfl, trivial, by rw [htQ]; exact hP9, va_K.moved hWQ.alike hK9, hD9⟩, hS.F htQ⟩) hS.2.2 dX12_bestOdds_71
          · skip
            refine lv_ldc2 (v := (-9223372036854775808)) hx hb hown (hts (.constantLong RX12 181 (-9223372036854775808)) kc_mBestOdds_2) dX12_bestOdds_52 ?_
            refine lv_goto (tgt := 71) hx hb dX12_bestOdds_55 (by decide) ?_
            rw [hQ]
            have hP9 := hP.sub (ws' := [(zo14irriiiiiirriirrrrlriiii m0 th aS aI im ac sp en wg op aB aT se9_37 dn9_38 aG aO aN aD bv9_42 aY rn kd nu tv), (zaI aS cS 901 fS), (zaI aB cB 6 fB9_35), (zaI aT cT 64 fT9_36), (zaL aO cO 36 fO9_40), (zaL aN cN 36 fN9_41), (zaI aD cD 36 fD9_39)]) [0, 1, 2, 3, 4, 5, 6] rfl
            have hD9 := hD.sub (ws' := [(zo14irriiiiiirriirrrrlriiii m0 th aS aI im ac sp en wg op aB aT se9_37 dn9_38 aG aO aN aD bv9_42 aY rn kd nu tv), (zaI aS cS 901 fS), (zaI aB cB 6 fB9_35), (zaI aT cT 64 fT9_36), (zaL aO cO 36 fO9_40), (zaL aN cN 36 fN9_41), (zaI aD cD 36 fD9_39)]) [0, 1, 2, 3, 4, 5, 6] (by decide) rfl
            have hK9 := hK.sub (tys' := [(cS, .int), (cB, .int), (cT, .boolean), (cO, .long), (cN, .long), (cD, .int)]) [0, 1, 2, 3, 4, 5] rfl
            exact W.lret (v := (-9223372036854775808)) hx hb hr (fun tQ htQ hWQ => ⟨⟨(-9223372036854775808), (fB9_35, fT9_36, se9_37, dn9_38, fD9_39, fO9_40, fN9_41, bv9_42), rfl, trivial, by rw [htQ]; exact hP9, va_K.moved hWQ.alike hK9, hD9⟩, hS.F htQ⟩) hS.2.2 dX12_bestOdds_71
        · skip
          refine lv_if_ne (tgt := 37) hx hb dX12_bestOdds_30 (by decide) (fun c_48 => absurd c_48 (by decide)) (fun _ => ?_)
          refine lv_ldc2 (v := (-9223372036854775808)) hx hb hown (hts (.constantLong RX12 181 (-9223372036854775808)) kc_mBestOdds_2) dX12_bestOdds_33 ?_
          rw [hQ]
          have hP9 := hP.sub (ws' := [(zo14irriiiiiirriirrrrlriiii m0 th aS aI im ac sp en wg op aB aT se dn aG aO aN aD bv aY rn kd nu tv), (zaI aS cS 901 fS), (zaI aB cB 6 fB), (zaI aT cT 64 fT), (zaL aO cO 36 fO), (zaL aN cN 36 fN), (zaI aD cD 36 fD)]) [0, 1, 2, 3, 4, 5, 6] rfl
          have hD9 := hD.sub (ws' := [(zo14irriiiiiirriirrrrlriiii m0 th aS aI im ac sp en wg op aB aT se dn aG aO aN aD bv aY rn kd nu tv), (zaI aS cS 901 fS), (zaI aB cB 6 fB), (zaI aT cT 64 fT), (zaL aO cO 36 fO), (zaL aN cN 36 fN), (zaI aD cD 36 fD)]) [0, 1, 2, 3, 4, 5, 6] (by decide) rfl
          have hK9 := hK.sub (tys' := [(cS, .int), (cB, .int), (cT, .boolean), (cO, .long), (cN, .long), (cD, .int)]) [0, 1, 2, 3, 4, 5] rfl
          exact W.lret (v := (-9223372036854775808)) hx hb hr (fun tQ htQ hWQ => ⟨⟨(-9223372036854775808), (fB, fT, se, dn, fD, fO, fN, bv), rfl, trivial, by rw [htQ]; exact hP9, va_K.moved hWQ.alike hK9, hD9⟩, hS.F htQ⟩) hS.2.2 dX12_bestOdds_36
      · skip
        refine lv_if_eq (tgt := 33) hx hb dX12_bestOdds_20 (by decide) (fun _ => ?_) (fun c_49 => absurd c_49 (by decide))
        refine lv_ldc2 (v := (-9223372036854775808)) hx hb hown (hts (.constantLong RX12 181 (-9223372036854775808)) kc_mBestOdds_2) dX12_bestOdds_33 ?_
        rw [hQ]
        have hP9 := hP.sub (ws' := [(zo14irriiiiiirriirrrrlriiii m0 th aS aI im ac sp en wg op aB aT se dn aG aO aN aD bv aY rn kd nu tv), (zaI aS cS 901 fS), (zaI aB cB 6 fB), (zaI aT cT 64 fT), (zaL aO cO 36 fO), (zaL aN cN 36 fN), (zaI aD cD 36 fD)]) [0, 1, 2, 3, 4, 5, 6] rfl
        have hD9 := hD.sub (ws' := [(zo14irriiiiiirriirrrrlriiii m0 th aS aI im ac sp en wg op aB aT se dn aG aO aN aD bv aY rn kd nu tv), (zaI aS cS 901 fS), (zaI aB cB 6 fB), (zaI aT cT 64 fT), (zaL aO cO 36 fO), (zaL aN cN 36 fN), (zaI aD cD 36 fD)]) [0, 1, 2, 3, 4, 5, 6] (by decide) rfl
        have hK9 := hK.sub (tys' := [(cS, .int), (cB, .int), (cT, .boolean), (cO, .long), (cN, .long), (cD, .int)]) [0, 1, 2, 3, 4, 5] rfl
        exact W.lret (v := (-9223372036854775808)) hx hb hr (fun tQ htQ hWQ => ⟨⟨(-9223372036854775808), (fB, fT, se, dn, fD, fO, fN, bv), rfl, trivial, by rw [htQ]; exact hP9, va_K.moved hWQ.alike hK9, hD9⟩, hS.F htQ⟩) hS.2.2 dX12_bestOdds_36
    · skip
      refine lv_if_eq (tgt := 33) hx hb dX12_bestOdds_11 (by decide) (fun _ => ?_) (fun c_50 => absurd c_50 (by decide))
      refine lv_ldc2 (v := (-9223372036854775808)) hx hb hown (hts (.constantLong RX12 181 (-9223372036854775808)) kc_mBestOdds_2) dX12_bestOdds_33 ?_
      rw [hQ]
      have hP9 := hP.sub (ws' := [(zo14irriiiiiirriirrrrlriiii m0 th aS aI im ac sp en wg op aB aT se dn aG aO aN aD bv aY rn kd nu tv), (zaI aS cS 901 fS), (zaI aB cB 6 fB), (zaI aT cT 64 fT), (zaL aO cO 36 fO), (zaL aN cN 36 fN), (zaI aD cD 36 fD)]) [0, 1, 2, 3, 4, 5, 6] rfl
      have hD9 := hD.sub (ws' := [(zo14irriiiiiirriirrrrlriiii m0 th aS aI im ac sp en wg op aB aT se dn aG aO aN aD bv aY rn kd nu tv), (zaI aS cS 901 fS), (zaI aB cB 6 fB), (zaI aT cT 64 fT), (zaL aO cO 36 fO), (zaL aN cN 36 fN), (zaI aD cD 36 fD)]) [0, 1, 2, 3, 4, 5, 6] (by decide) rfl
      have hK9 := hK.sub (tys' := [(cS, .int), (cB, .int), (cT, .boolean), (cO, .long), (cN, .long), (cD, .int)]) [0, 1, 2, 3, 4, 5] rfl
      exact W.lret (v := (-9223372036854775808)) hx hb hr (fun tQ htQ hWQ => ⟨⟨(-9223372036854775808), (fB, fT, se, dn, fD, fO, fN, bv), rfl, trivial, by rw [htQ]; exact hP9, va_K.moved hWQ.alike hK9, hD9⟩, hS.F htQ⟩) hS.2.2 dX12_bestOdds_36
  · skip
    refine lv_if_eq (tgt := 33) hx hb dX12_bestOdds_4 (by decide) (fun _ => ?_) (fun c_51 => absurd c_51 (by decide))
    refine lv_ldc2 (v := (-9223372036854775808)) hx hb hown (hts (.constantLong RX12 181 (-9223372036854775808)) kc_mBestOdds_2) dX12_bestOdds_33 ?_
    rw [hQ]
    have hP9 := hP.sub (ws' := [(zo14irriiiiiirriirrrrlriiii m0 th aS aI im ac sp en wg op aB aT se dn aG aO aN aD bv aY rn kd nu tv), (zaI aS cS 901 fS), (zaI aB cB 6 fB), (zaI aT cT 64 fT), (zaL aO cO 36 fO), (zaL aN cN 36 fN), (zaI aD cD 36 fD)]) [0, 1, 2, 3, 4, 5, 6] rfl
    have hD9 := hD.sub (ws' := [(zo14irriiiiiirriirrrrlriiii m0 th aS aI im ac sp en wg op aB aT se dn aG aO aN aD bv aY rn kd nu tv), (zaI aS cS 901 fS), (zaI aB cB 6 fB), (zaI aT cT 64 fT), (zaL aO cO 36 fO), (zaL aN cN 36 fN), (zaI aD cD 36 fD)]) [0, 1, 2, 3, 4, 5, 6] (by decide) rfl
    have hK9 := hK.sub (tys' := [(cS, .int), (cB, .int), (cT, .boolean), (cO, .long), (cN, .long), (cD, .int)]) [0, 1, 2, 3, 4, 5] rfl
    exact W.lret (v := (-9223372036854775808)) hx hb hr (fun tQ htQ hWQ => ⟨⟨(-9223372036854775808), (fB, fT, se, dn, fD, fO, fN, bv), rfl, trivial, by rw [htQ]; exact hP9, va_K.moved hWQ.alike hK9, hD9⟩, hS.F htQ⟩) hS.2.2 dX12_bestOdds_36

set_option maxHeartbeats 4000000 in
set_option maxRecDepth 100000 in
theorem c_mSafe (l : Launch) (dC : Nat → ClassId) (dI : Nat → Nat → Nat) (m0 aS aI aB aT aG aO aN aD aY : Nat) (th im ac sp en wg op se dn rn kd nu tv : Int32) (bv : Int64) (cS cB cT cO cN cD : ClassId) (fS : Nat → Int32) (fB : Nat → Int32) (fT : Nat → Int32) (fO : Nat → Int64) (fN : Nat → Int64) (fD : Nat → Int32) (x y z : Int32) (cz : List pCla) (sz : Nat) (zh : hol fS cz) : Met l yX12_safe wsX12_safe ({ frames := 6, cells := 0, slots := 0, locals := 142 } : Room) (va_Pc [.ref m0, .int x, .int y, .int z] (fun U => U.heap.size = sz ∧ va_P (dC, dI) vwCl [(zo14irriiiiiirriirrrrlriiii m0 th aS aI im ac sp en wg op aB aT se dn aG aO aN aD bv aY rn kd nu tv), (zaI aS cS 901 fS), (zaI aB cB 6 fB), (zaI aT cT 64 fT), (zaL aO cO 36 fO), (zaL aN cN 36 fN), (zaI aD cD 36 fD)] U.heap ∧ va_K (dC, dI) vwCl [(cS, .int), (cB, .int), (cT, .boolean), (cO, .long), (cN, .long), (cD, .int)] U ∧ va_D (fun _ => True) [(zo14irriiiiiirriirrrrlriiii m0 th aS aI im ac sp en wg op aB aT se dn aG aO aN aD bv aY rn kd nu tv), (zaI aS cS 901 fS), (zaI aB cB 6 fB), (zaI aT cT 64 fT), (zaL aO cO 36 fO), (zaL aN cN 36 fN), (zaI aD cD 36 fD)])) (va_Qi (fun (r : Int32) (u : (Nat → Int32) × (Nat → Int32) × (Int32) × (Int32) × (Nat → Int32) × (Nat → Int64) × (Nat → Int64) × (Int64)) => match u with | (fB9, fT9, se9, dn9, fD9, fO9, fN9, bv9) => True) (fun (u : (Nat → Int32) × (Nat → Int32) × (Int32) × (Int32) × (Nat → Int32) × (Nat → Int64) × (Nat → Int64) × (Int64)) (t : State) => match u with | (fB9, fT9, se9, dn9, fD9, fO9, fN9, bv9) => va_P (dC, dI) vwCl [(zo14irriiiiiirriirrrrlriiii m0 th aS aI im ac sp en wg op aB aT se9 dn9 aG aO aN aD bv9 aY rn kd nu tv), (zaI aS cS 901 fS), (zaI aB cB 6 fB9), (zaI aT cT 64 fT9), (zaL aO cO 36 fO9), (zaL aN cN 36 fN9), (zaI aD cD 36 fD9)] t.heap ∧ va_K (dC, dI) vwCl [(cS, .int), (cB, .int), (cT, .boolean), (cO, .long), (cN, .long), (cD, .int)] t ∧ va_D (va_A [(zo14irriiiiiirriirrrrlriiii m0 th aS aI im ac sp en wg op aB aT se dn aG aO aN aD bv aY rn kd nu tv), (zaI aS cS 901 fS), (zaI aB cB 6 fB), (zaI aT cT 64 fT), (zaL aO cO 36 fO), (zaL aN cN 36 fN), (zaI aD cD 36 fD)] sz) [(zo14irriiiiiirriirrrrlriiii m0 th aS aI im ac sp en wg op aB aT se9 dn9 aG aO aN aD bv9 aY rn kd nu tv), (zaI aS cS 901 fS), (zaI aB cB 6 fB9), (zaI aT cT 64 fT9), (zaL aO cO 36 fO9), (zaL aN cN 36 fN9), (zaI aD cD 36 fD9)]) (va_A [(zo14irriiiiiirriirrrrlriiii m0 th aS aI im ac sp en wg op aB aT se dn aG aO aN aD bv aY rn kd nu tv), (zaI aS cS 901 fS), (zaI aB cB 6 fB), (zaI aT cT 64 fT), (zaL aO cO 36 fO), (zaL aN cN 36 fN), (zaI aD cD 36 fD)] sz)) 0 0 (va_A [(zo14irriiiiiirriirrrrlriiii m0 th aS aI im ac sp en wg op aB aT se dn aG aO aN aD bv aY rn kd nu tv), (zaI aS cS 901 fS), (zaI aB cB 6 fB), (zaI aT cT 64 fT), (zaL aO cO 36 fO), (zaL aN cN 36 fN), (zaI aD cD 36 fD)] sz) := by
  refine met_ofQ (cc := cX12_safe) (maxL := 4) (ret := (some .int)) (by decide) rfl ?_
  intro p e s m args below meth c s₁ Q B hml hv hQ
  obtain ⟨rfl, hsz, hP, hK, hD0⟩ := hv
  have hx := B.exec
  have hb := B.bytes
  have hr := B.returns
  have hts := atoms_spec (ws := wsX12_safe) B.pre
  have hown : s.vm.findClass RX12 = some m.cls := findClass_of_methodNamed B.named
  have hlocks := B.notSynchronized
  subst hsz
  have hD := hD0.self (sz := s.heap.size)
  generalize hAe : va_A [(zo14irriiiiiirriirrrrlriiii m0 th aS aI im ac sp en wg op aB aT se dn aG aO aN aD bv aY rn kd nu tv), (zaI aS cS 901 fS), (zaI aB cB 6 fB), (zaI aT cT 64 fT), (zaL aO cO 36 fO), (zaL aN cN 36 fN), (zaI aD cD 36 fD)] s.heap.size = A at hD hQ ⊢
  have hA : ∀ q : Nat, s.heap.size ≤ q → A q := fun q h => by rw [← hAe]; exact Or.inr h
  have hS : va_S A s.heap s.heap [] := va_S.rf
  have hl := lv_entry [.ref m0, .int x, .int y, .int z] (n := 4) (Nat.le_of_ble_eq_true rfl)
  rw [lg_entry_eq]
  generalize (lg_sl [.ref m0, .int x, .int y, .int z] ++ List.replicate (4 - (lg_sl [.ref m0, .int x, .int y, .int z]).length) Slot.unset).toArray = ls at hl ⊢
  generalize hag : ([.ref m0, .int x, .int y, .int z] : List Value).toArray = args at hts hQ ⊢
  have hl : lv_has ls 4 [(0, .ref m0), (1, .int x), (2, .int y), (3, .int z)] := hl
  obtain ⟨H, hH⟩ : ∃ H : Heap, H = s.heap := ⟨_, rfl⟩
  rw [← hH] at hP
  rw [← hH]
  have hS : va_S A s.heap H [] := by rw [hH]; exact hS
  obtain ⟨locs, hlo⟩ : ∃ L : List Loc, L = [] := ⟨_, rfl⟩
  rw [← hlo] at hS
  rw [← hlo]
  clear hH hlo
  refine lv_iload_n hx hb dX12_safe_0 rfl (lv_at hl 1 rfl) ?_
  refine vp_callSi (va_runS (As := [.int x]) (rest := []) ⟨hx, hb, hml, hown, hts⟩ (c_mCell l dC dI x) (va_cwS 1 hts gX12_safe_X12_isCell rfl rfl rfl hd_yX12_isCell.2 ⟨Nat.le_of_ble_eq_true rfl, Nat.le_of_ble_eq_true rfl⟩) ⟨fun a U g mk q => ⟨q.1, trivial⟩, fun U hU hW => ⟨rfl, trivial⟩⟩ rfl rfl hl.1 rfl (lv_room (Nat.le_of_ble_eq_true rfl)) dX12_safe_1 ⟨Nat.le_of_ble_eq_true rfl, Nat.le_of_ble_eq_true rfl⟩).run (fun r_1 hw_2 => ?_)
  rcases hw_2 with ⟨rfl, h_3, h_4⟩ | ⟨rfl, h_5⟩
  · skip
    obtain ⟨j_6, hj_7, rfl⟩ := nI_of2 (n := 35) (M := 35) rfl h_3 (Int32.not_lt.mp h_4)
    refine lv_if_eq (tgt := 16) hx hb dX12_safe_4 (by decide) (fun c_8 => absurd c_8 (by decide)) (fun _ => ?_)
    refine lv_iload_n hx hb dX12_safe_7 rfl (lv_at hl 3 rfl) ?_
    refine lv_iconst (v := 0) hx hb dX12_safe_8 (by decide) ?_
    refine lv_iconst (v := 2) hx hb dX12_safe_9 (by decide) ?_
    refine vp_callSi (va_runS (As := [.int z, .int 0, .int 2]) (rest := []) ⟨hx, hb, hml, hown, hts⟩ (c_in l dC dI z 0 2) (va_cwS 3 hts gX12_safe_X12_in rfl rfl rfl hd_yX12_in.2 ⟨Nat.le_of_ble_eq_true rfl, Nat.le_of_ble_eq_true rfl⟩) ⟨fun a U g mk q => ⟨q.1, trivial⟩, fun U hU hW => ⟨rfl, trivial⟩⟩ rfl rfl hl.1 rfl (lv_room (Nat.le_of_ble_eq_true rfl)) dX12_safe_10 ⟨Nat.le_of_ble_eq_true rfl, Nat.le_of_ble_eq_true rfl⟩).run (fun r_9 hw_10 => ?_)
    rcases hw_10 with ⟨rfl, h_11, h_12⟩ | ⟨rfl, h_13⟩
    · skip
      obtain ⟨j_14, hj_15, rfl⟩ := nI_of2 (n := 2) (M := 2) rfl h_11 (Int32.not_lt.mp h_12)
      refine lv_if_ne (tgt := 18) hx hb dX12_safe_13 (by decide) (fun _ => ?_) (fun c_16 => absurd c_16 (by decide))
      refine lv_iload_n hx hb dX12_safe_18 rfl (lv_at hl 2 rfl) ?_
      refine lv_iconst (v := 1) hx hb dX12_safe_19 (by decide) ?_
      refine lv_iconst (v := 3) hx hb dX12_safe_20 (by decide) ?_
      refine vp_callSi (va_runS (As := [.int y, .int 1, .int 3]) (rest := []) ⟨hx, hb, hml, hown, hts⟩ (c_in l dC dI y 1 3) (va_cwS 3 hts gX12_safe_X12_in rfl rfl rfl hd_yX12_in.2 ⟨Nat.le_of_ble_eq_true rfl, Nat.le_of_ble_eq_true rfl⟩) ⟨fun a U g mk q => ⟨q.1, trivial⟩, fun U hU hW => ⟨rfl, trivial⟩⟩ rfl rfl hl.1 rfl (lv_room (Nat.le_of_ble_eq_true rfl)) dX12_safe_21 ⟨Nat.le_of_ble_eq_true rfl, Nat.le_of_ble_eq_true rfl⟩).run (fun r_17 hw_18 => ?_)
      rcases hw_18 with ⟨rfl, h_19, h_20⟩ | ⟨rfl, h_21⟩
      · skip
        obtain ⟨j_22, hj_23, rfl⟩ := nI_of2 (n := 3) (M := 3) rfl (fun q0 => h_19 (Int32.lt_trans q0 (by decide))) (Int32.not_lt.mp h_20)
        refine lv_if_ne (tgt := 30) hx hb dX12_safe_24 (by decide) (fun _ => ?_) (fun c_24 => absurd c_24 (by decide))
        refine lv_iload_n hx hb dX12_safe_30 rfl (lv_at hl 3 rfl) ?_
        refine lv_iload_n hx hb dX12_safe_31 rfl (lv_at hl 2 rfl) ?_
        refine lv_icmp_lt (tgt := 39) hx hb dX12_safe_32 (by decide) (fun c_25 => ?_) (fun c_25 => ?_)
        · skip
          have c_25 : j_14 < j_22 := (nI_ltI (a := j_14) (b := j_22) (by omega) (by omega)).mp c_25
          refine lv_aload_n hx hb dX12_safe_39 rfl (lv_at hl 0 rfl) ?_
          refine lv_iload_n hx hb dX12_safe_40 rfl (lv_at hl 1 rfl) ?_
          refine lv_iconst (v := (-1)) hx hb dX12_safe_41 (by decide) ?_
          refine lv_iload_n hx hb dX12_safe_42 rfl (lv_at hl 2 rfl) ?_
          have hPc := hP.sub (ws' := [(zo14irriiiiiirriirrrrlriiii m0 th aS aI im ac sp en wg op aB aT se dn aG aO aN aD bv aY rn kd nu tv), (zaI aS cS 901 fS), (zaI aB cB 6 fB), (zaI aT cT 64 fT), (zaL aO cO 36 fO), (zaL aN cN 36 fN), (zaI aD cD 36 fD)]) [0, 1, 2, 3, 4, 5, 6] rfl
          have hDc := hD.sub (ws' := [(zo14irriiiiiirriirrrrlriiii m0 th aS aI im ac sp en wg op aB aT se dn aG aO aN aD bv aY rn kd nu tv), (zaI aS cS 901 fS), (zaI aB cB 6 fB), (zaI aT cT 64 fT), (zaL aO cO 36 fO), (zaL aN cN 36 fN), (zaI aD cD 36 fD)]) [0, 1, 2, 3, 4, 5, 6] (by decide) rfl
          have hKc := hK.sub (tys' := [(cS, .int), (cB, .int), (cT, .boolean), (cO, .long), (cN, .long), (cD, .int)]) [0, 1, 2, 3, 4, 5] rfl
          have hFc := va_free (wc := [(zo14irriiiiiirriirrrrlriiii m0 th aS aI im ac sp en wg op aB aT se dn aG aO aN aD bv aY rn kd nu tv), (zaI aS cS 901 fS), (zaI aB cB 6 fB), (zaI aT cT 64 fT), (zaL aO cO 36 fO), (zaL aN cN 36 fN), (zaI aD cD 36 fD)]) hD hS hA [0, 1, 2, 3, 4, 5, 6] rfl
          refine va_calli (va_runV (As := [.int (nI j_6), .int (-1), .int (nI j_22)]) (rest := []) ⟨hx, hb, hml, hown, hts⟩ (c_bestRow l dC dI m0 aS aI aB aT aG aO aN aD aY th im ac sp en wg op se dn rn kd nu tv bv cS cB cT cO cN cD fS fB fT fO fN fD (nI j_6) (-1) j_22 cz H.size (zh) (by omega) (Or.inl rfl)) (cwV 3 hts gX12_safe_X12_bestRow rfl rfl rfl hd_yX12_bestRow ⟨Nat.le_of_ble_eq_true rfl, Nat.le_of_ble_eq_true rfl⟩) ⟨fun a U g mk q => by obtain ⟨q0, q1, qP, qK, qD⟩ := q; exact ⟨q0, q1, qP, va_K.moved (u := U) (U := U.calling g mk a) (Vm.Alike.refl U.vm) qK, qD⟩, va_recv hK hP (ci := 14) (q := (RX12, TX12, 23)) (q0 := 0) rfl rfl, fun U hU hW => ⟨rfl, by rw [hU], by rw [hU]; exact hPc, va_K.moved hW.alike hKc, hDc.weaken (fun _ _ _ _ => trivial)⟩⟩ rfl rfl hl.1 rfl (lv_room (Nat.le_of_ble_eq_true rfl)) dX12_safe_43 ⟨Nat.le_of_ble_eq_true rfl, Nat.le_of_ble_eq_true rfl⟩) hS (fun q _ h => hFc q h) hFc (fun r_26 u tC H1 locs htC hvm hw_27 hB hz1 hk1 hS => ?_)
          obtain ⟨fB9_28, fT9_29, se9_30, dn9_31, fD9_32, fO9_33, fN9_34, bv9_35⟩ := u
          try dsimp only at hw_27 hB
          obtain ⟨hP1, hK1, hD1⟩ := hB
          rw [htC] at hP1
          have hK1 := va_K.moved hvm.symm hK1
          obtain ⟨hP, hD⟩ := va_join (wr := []) (w1 := [(zo14irriiiiiirriirrrrlriiii m0 th aS aI im ac sp en wg op aB aT se9_30 dn9_31 aG aO aN aD bv9_35 aY rn kd nu tv), (zaI aS cS 901 fS), (zaI aB cB 6 fB9_28), (zaI aT cT 64 fT9_29), (zaL aO cO 36 fO9_33), (zaL aN cN 36 fN9_34), (zaI aD cD 36 fD9_32)]) hP hD [0, 1, 2, 3, 4, 5, 6] [] rfl rfl (by decide) (by decide) hk1 hFc hP1 hD1
          have hK := (hK.sub (tys' := []) [] rfl).app hK1
          generalize H1 = H at hP hS ⊢
          have hP : va_P (dC, dI) vwCl [(zo14irriiiiiirriirrrrlriiii m0 th aS aI im ac sp en wg op aB aT se9_30 dn9_31 aG aO aN aD bv9_35 aY rn kd nu tv), (zaI aS cS 901 fS), (zaI aB cB 6 fB9_28), (zaI aT cT 64 fT9_29), (zaL aO cO 36 fO9_33), (zaL aN cN 36 fN9_34), (zaI aD cD 36 fD9_32)] H := hP
          have hD : va_D A [(zo14irriiiiiirriirrrrlriiii m0 th aS aI im ac sp en wg op aB aT se9_30 dn9_31 aG aO aN aD bv9_35 aY rn kd nu tv), (zaI aS cS 901 fS), (zaI aB cB 6 fB9_28), (zaI aT cT 64 fT9_29), (zaL aO cO 36 fO9_33), (zaL aN cN 36 fN9_34), (zaI aD cD 36 fD9_32)] := hD
          have hK : va_K (dC, dI) vwCl [(cS, .int), (cB, .int), (cT, .boolean), (cO, .long), (cN, .long), (cD, .int)] s := hK
          refine lv_iload_n hx hb dX12_safe_46 rfl (lv_at hl 2 rfl) ?_
          refine lv_iload_n hx hb dX12_safe_47 rfl (lv_at hl 3 rfl) ?_
          refine vp_callSi (va_runS (As := [.int r_26, .int (nI j_22), .int (nI j_14)]) (rest := []) ⟨hx, hb, hml, hown, hts⟩ (c_wayOf l dC dI r_26 (nI j_22) (nI j_14)) (va_cwS 3 hts gX12_safe_X12_wayOf rfl rfl rfl hd_yX12_wayOf.2 ⟨Nat.le_of_ble_eq_true rfl, Nat.le_of_ble_eq_true rfl⟩) ⟨fun a U g mk q => ⟨q.1, trivial⟩, fun U hU hW => ⟨rfl, trivial⟩⟩ rfl rfl hl.1 rfl (lv_room (Nat.le_of_ble_eq_true rfl)) dX12_safe_48 ⟨Nat.le_of_ble_eq_true rfl, Nat.le_of_ble_eq_true rfl⟩).run (fun r_36 hw_37 => ?_)
          rw [hQ]
          have hP9 := hP.sub (ws' := [(zo14irriiiiiirriirrrrlriiii m0 th aS aI im ac sp en wg op aB aT se9_30 dn9_31 aG aO aN aD bv9_35 aY rn kd nu tv), (zaI aS cS 901 fS), (zaI aB cB 6 fB9_28), (zaI aT cT 64 fT9_29), (zaL aO cO 36 fO9_33), (zaL aN cN 36 fN9_34), (zaI aD cD 36 fD9_32)]) [0, 1, 2, 3, 4, 5, 6] rfl
          have hD9 := hD.sub (ws' := [(zo14irriiiiiirriirrrrlriiii m0 th aS aI im ac sp en wg op aB aT se9_30 dn9_31 aG aO aN aD bv9_35 aY rn kd nu tv), (zaI aS cS 901 fS), (zaI aB cB 6 fB9_28), (zaI aT cT 64 fT9_29), (zaL aO cO 36 fO9_33), (zaL aN cN 36 fN9_34), (zaI aD cD 36 fD9_32)]) [0, 1, 2, 3, 4, 5, 6] (by decide) rfl
          have hK9 := hK.sub (tys' := [(cS, .int), (cB, .int), (cT, .boolean), (cO, .long), (cN, .long), (cD, .int)]) [0, 1, 2, 3, 4, 5] rfl
          exact W.iret (v := r_36) hx hb hr (fun tQ htQ hWQ => ⟨⟨r_36, (fB9_28, fT9_29, se9_30, dn9_31, fD9_32, fO9_33, fN9_34, bv9_35), rfl, trivial, by rw [htQ]; exact hP9, va_K.moved hWQ.alike hK9, hD9⟩, hS.F htQ⟩) hS.2.2 dX12_safe_51
        · skip
          have c_25 : ¬ j_14 < j_22 := fun q => c_25 ((nI_ltI (a := j_14) (b := j_22) (by omega) (by omega)).mpr q)
          refine lv_iconst (v := (-1)) hx hb dX12_safe_35 (by decide) ?_
          refine lv_goto (tgt := 51) hx hb dX12_safe_36 (by decide) ?_
          rw [hQ]
          have hP9 := hP.sub (ws' := [(zo14irriiiiiirriirrrrlriiii m0 th aS aI im ac sp en wg op aB aT se dn aG aO aN aD bv aY rn kd nu tv), (zaI aS cS 901 fS), (zaI aB cB 6 fB), (zaI aT cT 64 fT), (zaL aO cO 36 fO), (zaL aN cN 36 fN), (zaI aD cD 36 fD)]) [0, 1, 2, 3, 4, 5, 6] rfl
          have hD9 := hD.sub (ws' := [(zo14irriiiiiirriirrrrlriiii m0 th aS aI im ac sp en wg op aB aT se dn aG aO aN aD bv aY rn kd nu tv), (zaI aS cS 901 fS), (zaI aB cB 6 fB), (zaI aT cT 64 fT), (zaL aO cO 36 fO), (zaL aN cN 36 fN), (zaI aD cD 36 fD)]) [0, 1, 2, 3, 4, 5, 6] (by decide) rfl
          have hK9 := hK.sub (tys' := [(cS, .int), (cB, .int), (cT, .boolean), (cO, .long), (cN, .long), (cD, .int)]) [0, 1, 2, 3, 4, 5] rfl
          exact W.iret (v := (-1)) hx hb hr (fun tQ htQ hWQ => ⟨⟨(-1), (fB, fT, se, dn, fD, fO, fN, bv), rfl, trivial, by rw [htQ]; exact hP9, va_K.moved hWQ.alike hK9, hD9⟩, hS.F htQ⟩) hS.2.2 dX12_safe_51
      · skip
        refine lv_if_ne (tgt := 30) hx hb dX12_safe_24 (by decide) (fun c_38 => absurd c_38 (by decide)) (fun _ => ?_)
        refine lv_bipush (v := (-2)) hx hb dX12_safe_27 (by decide) ?_
        rw [hQ]
        have hP9 := hP.sub (ws' := [(zo14irriiiiiirriirrrrlriiii m0 th aS aI im ac sp en wg op aB aT se dn aG aO aN aD bv aY rn kd nu tv), (zaI aS cS 901 fS), (zaI aB cB 6 fB), (zaI aT cT 64 fT), (zaL aO cO 36 fO), (zaL aN cN 36 fN), (zaI aD cD 36 fD)]) [0, 1, 2, 3, 4, 5, 6] rfl
        have hD9 := hD.sub (ws' := [(zo14irriiiiiirriirrrrlriiii m0 th aS aI im ac sp en wg op aB aT se dn aG aO aN aD bv aY rn kd nu tv), (zaI aS cS 901 fS), (zaI aB cB 6 fB), (zaI aT cT 64 fT), (zaL aO cO 36 fO), (zaL aN cN 36 fN), (zaI aD cD 36 fD)]) [0, 1, 2, 3, 4, 5, 6] (by decide) rfl
        have hK9 := hK.sub (tys' := [(cS, .int), (cB, .int), (cT, .boolean), (cO, .long), (cN, .long), (cD, .int)]) [0, 1, 2, 3, 4, 5] rfl
        exact W.iret (v := (-2)) hx hb hr (fun tQ htQ hWQ => ⟨⟨(-2), (fB, fT, se, dn, fD, fO, fN, bv), rfl, trivial, by rw [htQ]; exact hP9, va_K.moved hWQ.alike hK9, hD9⟩, hS.F htQ⟩) hS.2.2 dX12_safe_29
    · skip
      refine lv_if_ne (tgt := 18) hx hb dX12_safe_13 (by decide) (fun c_39 => absurd c_39 (by decide)) (fun _ => ?_)
      refine lv_iconst (v := (-1)) hx hb dX12_safe_16 (by decide) ?_
      rw [hQ]
      have hP9 := hP.sub (ws' := [(zo14irriiiiiirriirrrrlriiii m0 th aS aI im ac sp en wg op aB aT se dn aG aO aN aD bv aY rn kd nu tv), (zaI aS cS 901 fS), (zaI aB cB 6 fB), (zaI aT cT 64 fT), (zaL aO cO 36 fO), (zaL aN cN 36 fN), (zaI aD cD 36 fD)]) [0, 1, 2, 3, 4, 5, 6] rfl
      have hD9 := hD.sub (ws' := [(zo14irriiiiiirriirrrrlriiii m0 th aS aI im ac sp en wg op aB aT se dn aG aO aN aD bv aY rn kd nu tv), (zaI aS cS 901 fS), (zaI aB cB 6 fB), (zaI aT cT 64 fT), (zaL aO cO 36 fO), (zaL aN cN 36 fN), (zaI aD cD 36 fD)]) [0, 1, 2, 3, 4, 5, 6] (by decide) rfl
      have hK9 := hK.sub (tys' := [(cS, .int), (cB, .int), (cT, .boolean), (cO, .long), (cN, .long), (cD, .int)]) [0, 1, 2, 3, 4, 5] rfl
      exact W.iret (v := (-1)) hx hb hr (fun tQ htQ hWQ => ⟨⟨(-1), (fB, fT, se, dn, fD, fO, fN, bv), rfl, trivial, by rw [htQ]; exact hP9, va_K.moved hWQ.alike hK9, hD9⟩, hS.F htQ⟩) hS.2.2 dX12_safe_17
  · skip
    refine lv_if_eq (tgt := 16) hx hb dX12_safe_4 (by decide) (fun _ => ?_) (fun c_40 => absurd c_40 (by decide))
    refine lv_iconst (v := (-1)) hx hb dX12_safe_16 (by decide) ?_
    rw [hQ]
    have hP9 := hP.sub (ws' := [(zo14irriiiiiirriirrrrlriiii m0 th aS aI im ac sp en wg op aB aT se dn aG aO aN aD bv aY rn kd nu tv), (zaI aS cS 901 fS), (zaI aB cB 6 fB), (zaI aT cT 64 fT), (zaL aO cO 36 fO), (zaL aN cN 36 fN), (zaI aD cD 36 fD)]) [0, 1, 2, 3, 4, 5, 6] rfl
    have hD9 := hD.sub (ws' := [(zo14irriiiiiirriirrrrlriiii m0 th aS aI im ac sp en wg op aB aT se dn aG aO aN aD bv aY rn kd nu tv), (zaI aS cS 901 fS), (zaI aB cB 6 fB), (zaI aT cT 64 fT), (zaL aO cO 36 fO), (zaL aN cN 36 fN), (zaI aD cD 36 fD)]) [0, 1, 2, 3, 4, 5, 6] (by decide) rfl
    have hK9 := hK.sub (tys' := [(cS, .int), (cB, .int), (cT, .boolean), (cO, .long), (cN, .long), (cD, .int)]) [0, 1, 2, 3, 4, 5] rfl
    exact W.iret (v := (-1)) hx hb hr (fun tQ htQ hWQ => ⟨⟨(-1), (fB, fT, se, dn, fD, fO, fN, bv), rfl, trivial, by rw [htQ]; exact hP9, va_K.moved hWQ.alike hK9, hD9⟩, hS.F htQ⟩) hS.2.2 dX12_safe_17
