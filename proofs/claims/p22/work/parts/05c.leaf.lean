theorem ggX12_isCell_X12_in : GoodIn wsX12_isCell wsX12_in := gga_of 1217 rfl rfl rfl
theorem gX12_isCell_X12_in : GoodIn wsX12_isCell (va_wsS RX12 45 yX12_in wsX12_in) := goodIn_app (ggh_of [1215, 1216, 72] rfl rfl rfl) ggX12_isCell_X12_in
theorem ggX12_columnsOf_X12_in : GoodIn wsX12_columnsOf wsX12_in := gga_of 1217 rfl rfl rfl
theorem gX12_columnsOf_X12_in : GoodIn wsX12_columnsOf (va_wsS RX12 45 yX12_in wsX12_in) := goodIn_app (ggh_of [1215, 1216, 72] rfl rfl rfl) ggX12_columnsOf_X12_in
theorem ggX12_nextTo_X12_rowsOf : GoodIn wsX12_nextTo wsX12_rowsOf := gga_of 1370 rfl rfl rfl
theorem gX12_nextTo_X12_rowsOf : GoodIn wsX12_nextTo (va_wsS RX12 53 yX12_rowsOf wsX12_rowsOf) := goodIn_app (ggh_of [1368, 1369, 72] rfl rfl rfl) ggX12_nextTo_X12_rowsOf
theorem ggX12_nextTo_X12_columnsOf : GoodIn wsX12_nextTo wsX12_columnsOf := gga_of 1376 rfl rfl rfl
theorem gX12_nextTo_X12_columnsOf : GoodIn wsX12_nextTo (va_wsS RX12 56 yX12_columnsOf wsX12_columnsOf) := goodIn_app (ggh_of [1374, 1375, 72] rfl rfl rfl) ggX12_nextTo_X12_columnsOf
theorem ggX12_nextTo_X12_in : GoodIn wsX12_nextTo wsX12_in := gga_of 1217 rfl rfl rfl
theorem gX12_nextTo_X12_in : GoodIn wsX12_nextTo (va_wsS RX12 45 yX12_in wsX12_in) := goodIn_app (ggh_of [1215, 1216, 72] rfl rfl rfl) ggX12_nextTo_X12_in
theorem ggX12_apart_X12_size : GoodIn wsX12_apart wsX12_size := gga_of 1346 rfl rfl rfl
theorem gX12_apart_X12_size : GoodIn wsX12_apart (va_wsS RX12 49 yX12_size wsX12_size) := goodIn_app (ggh_of [1344, 1345, 72] rfl rfl rfl) ggX12_apart_X12_size
theorem ggX12_isHeap_X12_in : GoodIn wsX12_isHeap wsX12_in := gga_of 1217 rfl rfl rfl
theorem gX12_isHeap_X12_in : GoodIn wsX12_isHeap (va_wsS RX12 45 yX12_in wsX12_in) := goodIn_app (ggh_of [1215, 1216, 72] rfl rfl rfl) ggX12_isHeap_X12_in
noncomputable def dk05cleaf_cX12_in_0 : List (Nat × Instr × Nat) := [(0, .iload_n 0, 1), (1, .iload_n 1, 1), (2, .if_icmp .lt 12, 3), (14, .iconst 0, 1), (15, .ireturn, 1), (5, .iload_n 0, 1), (6, .iload_n 2, 1), (7, .if_icmp .gt 7, 3), (10, .iconst 1, 1), (11, .goto 4, 3)]
set_option maxRecDepth 100000 in
theorem dk05cleaf_cX12_in_0_a : dkA cX12_in dk05cleaf_cX12_in_0 = true := by decide +kernel
theorem dX12_in_0 : decode cX12_in 0 = .ok (.iload_n 0, 1) := dkAt dk05cleaf_cX12_in_0_a 0 rfl
theorem dX12_in_1 : decode cX12_in 1 = .ok (.iload_n 1, 1) := dkAt dk05cleaf_cX12_in_0_a 1 rfl
theorem dX12_in_2 : decode cX12_in 2 = .ok (.if_icmp .lt 12, 3) := dkAt dk05cleaf_cX12_in_0_a 2 rfl
theorem dX12_in_14 : decode cX12_in 14 = .ok (.iconst 0, 1) := dkAt dk05cleaf_cX12_in_0_a 3 rfl
theorem dX12_in_15 : decode cX12_in 15 = .ok (.ireturn, 1) := dkAt dk05cleaf_cX12_in_0_a 4 rfl
theorem dX12_in_5 : decode cX12_in 5 = .ok (.iload_n 0, 1) := dkAt dk05cleaf_cX12_in_0_a 5 rfl
theorem dX12_in_6 : decode cX12_in 6 = .ok (.iload_n 2, 1) := dkAt dk05cleaf_cX12_in_0_a 6 rfl
theorem dX12_in_7 : decode cX12_in 7 = .ok (.if_icmp .gt 7, 3) := dkAt dk05cleaf_cX12_in_0_a 7 rfl
theorem dX12_in_10 : decode cX12_in 10 = .ok (.iconst 1, 1) := dkAt dk05cleaf_cX12_in_0_a 8 rfl
theorem dX12_in_11 : decode cX12_in 11 = .ok (.goto 4, 3) := dkAt dk05cleaf_cX12_in_0_a 9 rfl
noncomputable def dk05cleaf_cX12_size_0 : List (Nat × Instr × Nat) := [(0, .iload_n 0, 1), (1, .ifCond .ge 8, 3), (9, .iload_n 0, 1), (10, .ireturn, 1), (4, .iload_n 0, 1), (5, .ineg, 1), (6, .goto 4, 3)]
set_option maxRecDepth 100000 in
theorem dk05cleaf_cX12_size_0_a : dkA cX12_size dk05cleaf_cX12_size_0 = true := by decide +kernel
theorem dX12_size_0 : decode cX12_size 0 = .ok (.iload_n 0, 1) := dkAt dk05cleaf_cX12_size_0_a 0 rfl
theorem dX12_size_1 : decode cX12_size 1 = .ok (.ifCond .ge 8, 3) := dkAt dk05cleaf_cX12_size_0_a 1 rfl
theorem dX12_size_9 : decode cX12_size 9 = .ok (.iload_n 0, 1) := dkAt dk05cleaf_cX12_size_0_a 2 rfl
theorem dX12_size_10 : decode cX12_size 10 = .ok (.ireturn, 1) := dkAt dk05cleaf_cX12_size_0_a 3 rfl
theorem dX12_size_4 : decode cX12_size 4 = .ok (.iload_n 0, 1) := dkAt dk05cleaf_cX12_size_0_a 4 rfl
theorem dX12_size_5 : decode cX12_size 5 = .ok (.ineg, 1) := dkAt dk05cleaf_cX12_size_0_a 5 rfl
theorem dX12_size_6 : decode cX12_size 6 = .ok (.goto 4, 3) := dkAt dk05cleaf_cX12_size_0_a 6 rfl
noncomputable def dk05cleaf_cX12_isCell_0 : List (Nat × Instr × Nat) := [(0, .iload_n 0, 1), (1, .iconst 0, 1), (2, .bipush 35, 2), (4, .invokestatic 45, 3), (7, .ireturn, 1)]
set_option maxRecDepth 100000 in
theorem dk05cleaf_cX12_isCell_0_a : dkA cX12_isCell dk05cleaf_cX12_isCell_0 = true := by decide +kernel
theorem dX12_isCell_0 : decode cX12_isCell 0 = .ok (.iload_n 0, 1) := dkAt dk05cleaf_cX12_isCell_0_a 0 rfl
theorem dX12_isCell_1 : decode cX12_isCell 1 = .ok (.iconst 0, 1) := dkAt dk05cleaf_cX12_isCell_0_a 1 rfl
theorem dX12_isCell_2 : decode cX12_isCell 2 = .ok (.bipush 35, 2) := dkAt dk05cleaf_cX12_isCell_0_a 2 rfl
theorem dX12_isCell_4 : decode cX12_isCell 4 = .ok (.invokestatic 45, 3) := dkAt dk05cleaf_cX12_isCell_0_a 3 rfl
theorem dX12_isCell_7 : decode cX12_isCell 7 = .ok (.ireturn, 1) := dkAt dk05cleaf_cX12_isCell_0_a 4 rfl
noncomputable def dk05cleaf_cX12_rowsOf_0 : List (Nat × Instr × Nat) := [(0, .iload_n 0, 1), (1, .bipush 7, 2), (3, .if_icmp .eq 8, 3), (11, .iconst (-1), 1), (12, .goto 19, 3), (31, .ireturn, 1), (6, .iload_n 0, 1), (7, .iconst 2, 1), (8, .if_icmp .ge 7, 3), (15, .iload_n 0, 1), (16, .iconst 2, 1), (17, .if_icmp .le 13, 3), (30, .iconst 0, 1), (20, .iload_n 0, 1), (21, .bipush 6, 2), (23, .if_icmp .ge 7, 3), (26, .iconst 1, 1), (27, .goto 4, 3)]
set_option maxRecDepth 100000 in
theorem dk05cleaf_cX12_rowsOf_0_a : dkA cX12_rowsOf dk05cleaf_cX12_rowsOf_0 = true := by decide +kernel
theorem dX12_rowsOf_0 : decode cX12_rowsOf 0 = .ok (.iload_n 0, 1) := dkAt dk05cleaf_cX12_rowsOf_0_a 0 rfl
theorem dX12_rowsOf_1 : decode cX12_rowsOf 1 = .ok (.bipush 7, 2) := dkAt dk05cleaf_cX12_rowsOf_0_a 1 rfl
theorem dX12_rowsOf_3 : decode cX12_rowsOf 3 = .ok (.if_icmp .eq 8, 3) := dkAt dk05cleaf_cX12_rowsOf_0_a 2 rfl
theorem dX12_rowsOf_11 : decode cX12_rowsOf 11 = .ok (.iconst (-1), 1) := dkAt dk05cleaf_cX12_rowsOf_0_a 3 rfl
theorem dX12_rowsOf_12 : decode cX12_rowsOf 12 = .ok (.goto 19, 3) := dkAt dk05cleaf_cX12_rowsOf_0_a 4 rfl
theorem dX12_rowsOf_31 : decode cX12_rowsOf 31 = .ok (.ireturn, 1) := dkAt dk05cleaf_cX12_rowsOf_0_a 5 rfl
theorem dX12_rowsOf_6 : decode cX12_rowsOf 6 = .ok (.iload_n 0, 1) := dkAt dk05cleaf_cX12_rowsOf_0_a 6 rfl
theorem dX12_rowsOf_7 : decode cX12_rowsOf 7 = .ok (.iconst 2, 1) := dkAt dk05cleaf_cX12_rowsOf_0_a 7 rfl
theorem dX12_rowsOf_8 : decode cX12_rowsOf 8 = .ok (.if_icmp .ge 7, 3) := dkAt dk05cleaf_cX12_rowsOf_0_a 8 rfl
theorem dX12_rowsOf_15 : decode cX12_rowsOf 15 = .ok (.iload_n 0, 1) := dkAt dk05cleaf_cX12_rowsOf_0_a 9 rfl
theorem dX12_rowsOf_16 : decode cX12_rowsOf 16 = .ok (.iconst 2, 1) := dkAt dk05cleaf_cX12_rowsOf_0_a 10 rfl
theorem dX12_rowsOf_17 : decode cX12_rowsOf 17 = .ok (.if_icmp .le 13, 3) := dkAt dk05cleaf_cX12_rowsOf_0_a 11 rfl
theorem dX12_rowsOf_30 : decode cX12_rowsOf 30 = .ok (.iconst 0, 1) := dkAt dk05cleaf_cX12_rowsOf_0_a 12 rfl
theorem dX12_rowsOf_20 : decode cX12_rowsOf 20 = .ok (.iload_n 0, 1) := dkAt dk05cleaf_cX12_rowsOf_0_a 13 rfl
theorem dX12_rowsOf_21 : decode cX12_rowsOf 21 = .ok (.bipush 6, 2) := dkAt dk05cleaf_cX12_rowsOf_0_a 14 rfl
theorem dX12_rowsOf_23 : decode cX12_rowsOf 23 = .ok (.if_icmp .ge 7, 3) := dkAt dk05cleaf_cX12_rowsOf_0_a 15 rfl
theorem dX12_rowsOf_26 : decode cX12_rowsOf 26 = .ok (.iconst 1, 1) := dkAt dk05cleaf_cX12_rowsOf_0_a 16 rfl
theorem dX12_rowsOf_27 : decode cX12_rowsOf 27 = .ok (.goto 4, 3) := dkAt dk05cleaf_cX12_rowsOf_0_a 17 rfl
noncomputable def dk05cleaf_cX12_columnsOf_0 : List (Nat × Instr × Nat) := [(0, .iload_n 0, 1), (1, .iconst 1, 1), (2, .iconst 3, 1), (3, .invokestatic 45, 3), (6, .ifCond .eq 7, 3), (9, .iconst 1, 1), (10, .goto 13, 3), (23, .ireturn, 1), (13, .iload_n 0, 1), (14, .iconst 4, 1), (15, .if_icmp .le 7, 3), (22, .iconst 0, 1), (18, .iconst (-1), 1), (19, .goto 4, 3)]
set_option maxRecDepth 100000 in
theorem dk05cleaf_cX12_columnsOf_0_a : dkA cX12_columnsOf dk05cleaf_cX12_columnsOf_0 = true := by decide +kernel
theorem dX12_columnsOf_0 : decode cX12_columnsOf 0 = .ok (.iload_n 0, 1) := dkAt dk05cleaf_cX12_columnsOf_0_a 0 rfl
theorem dX12_columnsOf_1 : decode cX12_columnsOf 1 = .ok (.iconst 1, 1) := dkAt dk05cleaf_cX12_columnsOf_0_a 1 rfl
theorem dX12_columnsOf_2 : decode cX12_columnsOf 2 = .ok (.iconst 3, 1) := dkAt dk05cleaf_cX12_columnsOf_0_a 2 rfl
theorem dX12_columnsOf_3 : decode cX12_columnsOf 3 = .ok (.invokestatic 45, 3) := dkAt dk05cleaf_cX12_columnsOf_0_a 3 rfl
theorem dX12_columnsOf_6 : decode cX12_columnsOf 6 = .ok (.ifCond .eq 7, 3) := dkAt dk05cleaf_cX12_columnsOf_0_a 4 rfl
theorem dX12_columnsOf_9 : decode cX12_columnsOf 9 = .ok (.iconst 1, 1) := dkAt dk05cleaf_cX12_columnsOf_0_a 5 rfl
theorem dX12_columnsOf_10 : decode cX12_columnsOf 10 = .ok (.goto 13, 3) := dkAt dk05cleaf_cX12_columnsOf_0_a 6 rfl
theorem dX12_columnsOf_23 : decode cX12_columnsOf 23 = .ok (.ireturn, 1) := dkAt dk05cleaf_cX12_columnsOf_0_a 7 rfl
theorem dX12_columnsOf_13 : decode cX12_columnsOf 13 = .ok (.iload_n 0, 1) := dkAt dk05cleaf_cX12_columnsOf_0_a 8 rfl
theorem dX12_columnsOf_14 : decode cX12_columnsOf 14 = .ok (.iconst 4, 1) := dkAt dk05cleaf_cX12_columnsOf_0_a 9 rfl
theorem dX12_columnsOf_15 : decode cX12_columnsOf 15 = .ok (.if_icmp .le 7, 3) := dkAt dk05cleaf_cX12_columnsOf_0_a 10 rfl
theorem dX12_columnsOf_22 : decode cX12_columnsOf 22 = .ok (.iconst 0, 1) := dkAt dk05cleaf_cX12_columnsOf_0_a 11 rfl
theorem dX12_columnsOf_18 : decode cX12_columnsOf 18 = .ok (.iconst (-1), 1) := dkAt dk05cleaf_cX12_columnsOf_0_a 12 rfl
theorem dX12_columnsOf_19 : decode cX12_columnsOf 19 = .ok (.goto 4, 3) := dkAt dk05cleaf_cX12_columnsOf_0_a 13 rfl
noncomputable def dk05cleaf_cX12_nextTo_0 : List (Nat × Instr × Nat) := [(0, .iload_n 0, 1), (1, .bipush 6, 2), (3, .idiv, 1), (4, .iload_n 1, 1), (5, .invokestatic 53, 3), (8, .iadd, 1), (9, .istore_n 2, 1), (10, .iload_n 0, 1), (11, .bipush 6, 2), (13, .irem, 1), (14, .iload_n 1, 1), (15, .invokestatic 56, 3), (18, .iadd, 1), (19, .istore_n 3, 1), (20, .iload_n 2, 1), (21, .iconst 0, 1), (22, .iconst 5, 1), (23, .invokestatic 45, 3), (26, .ifCond .eq 21, 3), (29, .iload_n 3, 1), (30, .iconst 0, 1), (31, .iconst 5, 1), (32, .invokestatic 45, 3), (35, .ifCond .eq 12, 3), (38, .bipush 6, 2), (40, .iload_n 2, 1), (41, .imul, 1), (42, .iload_n 3, 1), (43, .iadd, 1), (44, .goto 4, 3), (48, .ireturn, 1), (47, .iload_n 0, 1)]
set_option maxRecDepth 100000 in
theorem dk05cleaf_cX12_nextTo_0_a : dkA cX12_nextTo dk05cleaf_cX12_nextTo_0 = true := by decide +kernel
theorem dX12_nextTo_0 : decode cX12_nextTo 0 = .ok (.iload_n 0, 1) := dkAt dk05cleaf_cX12_nextTo_0_a 0 rfl
theorem dX12_nextTo_1 : decode cX12_nextTo 1 = .ok (.bipush 6, 2) := dkAt dk05cleaf_cX12_nextTo_0_a 1 rfl
theorem dX12_nextTo_3 : decode cX12_nextTo 3 = .ok (.idiv, 1) := dkAt dk05cleaf_cX12_nextTo_0_a 2 rfl
theorem dX12_nextTo_4 : decode cX12_nextTo 4 = .ok (.iload_n 1, 1) := dkAt dk05cleaf_cX12_nextTo_0_a 3 rfl
theorem dX12_nextTo_5 : decode cX12_nextTo 5 = .ok (.invokestatic 53, 3) := dkAt dk05cleaf_cX12_nextTo_0_a 4 rfl
theorem dX12_nextTo_8 : decode cX12_nextTo 8 = .ok (.iadd, 1) := dkAt dk05cleaf_cX12_nextTo_0_a 5 rfl
theorem dX12_nextTo_9 : decode cX12_nextTo 9 = .ok (.istore_n 2, 1) := dkAt dk05cleaf_cX12_nextTo_0_a 6 rfl
theorem dX12_nextTo_10 : decode cX12_nextTo 10 = .ok (.iload_n 0, 1) := dkAt dk05cleaf_cX12_nextTo_0_a 7 rfl
theorem dX12_nextTo_11 : decode cX12_nextTo 11 = .ok (.bipush 6, 2) := dkAt dk05cleaf_cX12_nextTo_0_a 8 rfl
theorem dX12_nextTo_13 : decode cX12_nextTo 13 = .ok (.irem, 1) := dkAt dk05cleaf_cX12_nextTo_0_a 9 rfl
theorem dX12_nextTo_14 : decode cX12_nextTo 14 = .ok (.iload_n 1, 1) := dkAt dk05cleaf_cX12_nextTo_0_a 10 rfl
theorem dX12_nextTo_15 : decode cX12_nextTo 15 = .ok (.invokestatic 56, 3) := dkAt dk05cleaf_cX12_nextTo_0_a 11 rfl
theorem dX12_nextTo_18 : decode cX12_nextTo 18 = .ok (.iadd, 1) := dkAt dk05cleaf_cX12_nextTo_0_a 12 rfl
theorem dX12_nextTo_19 : decode cX12_nextTo 19 = .ok (.istore_n 3, 1) := dkAt dk05cleaf_cX12_nextTo_0_a 13 rfl
theorem dX12_nextTo_20 : decode cX12_nextTo 20 = .ok (.iload_n 2, 1) := dkAt dk05cleaf_cX12_nextTo_0_a 14 rfl
theorem dX12_nextTo_21 : decode cX12_nextTo 21 = .ok (.iconst 0, 1) := dkAt dk05cleaf_cX12_nextTo_0_a 15 rfl
theorem dX12_nextTo_22 : decode cX12_nextTo 22 = .ok (.iconst 5, 1) := dkAt dk05cleaf_cX12_nextTo_0_a 16 rfl
theorem dX12_nextTo_23 : decode cX12_nextTo 23 = .ok (.invokestatic 45, 3) := dkAt dk05cleaf_cX12_nextTo_0_a 17 rfl
theorem dX12_nextTo_26 : decode cX12_nextTo 26 = .ok (.ifCond .eq 21, 3) := dkAt dk05cleaf_cX12_nextTo_0_a 18 rfl
theorem dX12_nextTo_29 : decode cX12_nextTo 29 = .ok (.iload_n 3, 1) := dkAt dk05cleaf_cX12_nextTo_0_a 19 rfl
theorem dX12_nextTo_30 : decode cX12_nextTo 30 = .ok (.iconst 0, 1) := dkAt dk05cleaf_cX12_nextTo_0_a 20 rfl
theorem dX12_nextTo_31 : decode cX12_nextTo 31 = .ok (.iconst 5, 1) := dkAt dk05cleaf_cX12_nextTo_0_a 21 rfl
theorem dX12_nextTo_32 : decode cX12_nextTo 32 = .ok (.invokestatic 45, 3) := dkAt dk05cleaf_cX12_nextTo_0_a 22 rfl
theorem dX12_nextTo_35 : decode cX12_nextTo 35 = .ok (.ifCond .eq 12, 3) := dkAt dk05cleaf_cX12_nextTo_0_a 23 rfl
theorem dX12_nextTo_38 : decode cX12_nextTo 38 = .ok (.bipush 6, 2) := dkAt dk05cleaf_cX12_nextTo_0_a 24 rfl
theorem dX12_nextTo_40 : decode cX12_nextTo 40 = .ok (.iload_n 2, 1) := dkAt dk05cleaf_cX12_nextTo_0_a 25 rfl
theorem dX12_nextTo_41 : decode cX12_nextTo 41 = .ok (.imul, 1) := dkAt dk05cleaf_cX12_nextTo_0_a 26 rfl
theorem dX12_nextTo_42 : decode cX12_nextTo 42 = .ok (.iload_n 3, 1) := dkAt dk05cleaf_cX12_nextTo_0_a 27 rfl
theorem dX12_nextTo_43 : decode cX12_nextTo 43 = .ok (.iadd, 1) := dkAt dk05cleaf_cX12_nextTo_0_a 28 rfl
theorem dX12_nextTo_44 : decode cX12_nextTo 44 = .ok (.goto 4, 3) := dkAt dk05cleaf_cX12_nextTo_0_a 29 rfl
theorem dX12_nextTo_48 : decode cX12_nextTo 48 = .ok (.ireturn, 1) := dkAt dk05cleaf_cX12_nextTo_0_a 30 rfl
theorem dX12_nextTo_47 : decode cX12_nextTo 47 = .ok (.iload_n 0, 1) := dkAt dk05cleaf_cX12_nextTo_0_a 31 rfl
noncomputable def dk05cleaf_cX12_isThatSide_0 : List (Nat × Instr × Nat) := [(0, .iload_n 0, 1), (1, .ifCond .eq 21, 3), (22, .iconst 1, 1), (23, .goto 4, 3), (27, .ireturn, 1), (4, .iload_n 0, 1), (5, .ifCond .ge 8, 3), (13, .iload_n 0, 1), (14, .ifCond .le 12, 3), (26, .iconst 0, 1), (17, .iload_n 2, 1), (18, .iload_n 1, 1), (19, .if_icmp .le 7, 3), (8, .iload_n 2, 1), (9, .iload_n 1, 1), (10, .if_icmp .lt 12, 3)]
set_option maxRecDepth 100000 in
theorem dk05cleaf_cX12_isThatSide_0_a : dkA cX12_isThatSide dk05cleaf_cX12_isThatSide_0 = true := by decide +kernel
theorem dX12_isThatSide_0 : decode cX12_isThatSide 0 = .ok (.iload_n 0, 1) := dkAt dk05cleaf_cX12_isThatSide_0_a 0 rfl
theorem dX12_isThatSide_1 : decode cX12_isThatSide 1 = .ok (.ifCond .eq 21, 3) := dkAt dk05cleaf_cX12_isThatSide_0_a 1 rfl
theorem dX12_isThatSide_22 : decode cX12_isThatSide 22 = .ok (.iconst 1, 1) := dkAt dk05cleaf_cX12_isThatSide_0_a 2 rfl
theorem dX12_isThatSide_23 : decode cX12_isThatSide 23 = .ok (.goto 4, 3) := dkAt dk05cleaf_cX12_isThatSide_0_a 3 rfl
theorem dX12_isThatSide_27 : decode cX12_isThatSide 27 = .ok (.ireturn, 1) := dkAt dk05cleaf_cX12_isThatSide_0_a 4 rfl
theorem dX12_isThatSide_4 : decode cX12_isThatSide 4 = .ok (.iload_n 0, 1) := dkAt dk05cleaf_cX12_isThatSide_0_a 5 rfl
theorem dX12_isThatSide_5 : decode cX12_isThatSide 5 = .ok (.ifCond .ge 8, 3) := dkAt dk05cleaf_cX12_isThatSide_0_a 6 rfl
theorem dX12_isThatSide_13 : decode cX12_isThatSide 13 = .ok (.iload_n 0, 1) := dkAt dk05cleaf_cX12_isThatSide_0_a 7 rfl
theorem dX12_isThatSide_14 : decode cX12_isThatSide 14 = .ok (.ifCond .le 12, 3) := dkAt dk05cleaf_cX12_isThatSide_0_a 8 rfl
theorem dX12_isThatSide_26 : decode cX12_isThatSide 26 = .ok (.iconst 0, 1) := dkAt dk05cleaf_cX12_isThatSide_0_a 9 rfl
theorem dX12_isThatSide_17 : decode cX12_isThatSide 17 = .ok (.iload_n 2, 1) := dkAt dk05cleaf_cX12_isThatSide_0_a 10 rfl
theorem dX12_isThatSide_18 : decode cX12_isThatSide 18 = .ok (.iload_n 1, 1) := dkAt dk05cleaf_cX12_isThatSide_0_a 11 rfl
theorem dX12_isThatSide_19 : decode cX12_isThatSide 19 = .ok (.if_icmp .le 7, 3) := dkAt dk05cleaf_cX12_isThatSide_0_a 12 rfl
theorem dX12_isThatSide_8 : decode cX12_isThatSide 8 = .ok (.iload_n 2, 1) := dkAt dk05cleaf_cX12_isThatSide_0_a 13 rfl
theorem dX12_isThatSide_9 : decode cX12_isThatSide 9 = .ok (.iload_n 1, 1) := dkAt dk05cleaf_cX12_isThatSide_0_a 14 rfl
theorem dX12_isThatSide_10 : decode cX12_isThatSide 10 = .ok (.if_icmp .lt 12, 3) := dkAt dk05cleaf_cX12_isThatSide_0_a 15 rfl
noncomputable def dk05cleaf_cX12_apart_0 : List (Nat × Instr × Nat) := [(0, .iload_n 0, 1), (1, .bipush 6, 2), (3, .idiv, 1), (4, .iload_n 1, 1), (5, .bipush 6, 2), (7, .idiv, 1), (8, .isub, 1), (9, .invokestatic 49, 3), (12, .istore_n 2, 1), (13, .iload_n 0, 1), (14, .bipush 6, 2), (16, .irem, 1), (17, .iload_n 1, 1), (18, .bipush 6, 2), (20, .irem, 1), (21, .isub, 1), (22, .invokestatic 49, 3), (25, .istore_n 3, 1), (26, .iload_n 2, 1), (27, .iload_n 3, 1), (28, .if_icmp .le 7, 3), (35, .iload_n 3, 1), (36, .ireturn, 1), (31, .iload_n 2, 1), (32, .goto 4, 3)]
set_option maxRecDepth 100000 in
theorem dk05cleaf_cX12_apart_0_a : dkA cX12_apart dk05cleaf_cX12_apart_0 = true := by decide +kernel
theorem dX12_apart_0 : decode cX12_apart 0 = .ok (.iload_n 0, 1) := dkAt dk05cleaf_cX12_apart_0_a 0 rfl
theorem dX12_apart_1 : decode cX12_apart 1 = .ok (.bipush 6, 2) := dkAt dk05cleaf_cX12_apart_0_a 1 rfl
theorem dX12_apart_3 : decode cX12_apart 3 = .ok (.idiv, 1) := dkAt dk05cleaf_cX12_apart_0_a 2 rfl
theorem dX12_apart_4 : decode cX12_apart 4 = .ok (.iload_n 1, 1) := dkAt dk05cleaf_cX12_apart_0_a 3 rfl
theorem dX12_apart_5 : decode cX12_apart 5 = .ok (.bipush 6, 2) := dkAt dk05cleaf_cX12_apart_0_a 4 rfl
theorem dX12_apart_7 : decode cX12_apart 7 = .ok (.idiv, 1) := dkAt dk05cleaf_cX12_apart_0_a 5 rfl
theorem dX12_apart_8 : decode cX12_apart 8 = .ok (.isub, 1) := dkAt dk05cleaf_cX12_apart_0_a 6 rfl
theorem dX12_apart_9 : decode cX12_apart 9 = .ok (.invokestatic 49, 3) := dkAt dk05cleaf_cX12_apart_0_a 7 rfl
theorem dX12_apart_12 : decode cX12_apart 12 = .ok (.istore_n 2, 1) := dkAt dk05cleaf_cX12_apart_0_a 8 rfl
theorem dX12_apart_13 : decode cX12_apart 13 = .ok (.iload_n 0, 1) := dkAt dk05cleaf_cX12_apart_0_a 9 rfl
theorem dX12_apart_14 : decode cX12_apart 14 = .ok (.bipush 6, 2) := dkAt dk05cleaf_cX12_apart_0_a 10 rfl
theorem dX12_apart_16 : decode cX12_apart 16 = .ok (.irem, 1) := dkAt dk05cleaf_cX12_apart_0_a 11 rfl
theorem dX12_apart_17 : decode cX12_apart 17 = .ok (.iload_n 1, 1) := dkAt dk05cleaf_cX12_apart_0_a 12 rfl
theorem dX12_apart_18 : decode cX12_apart 18 = .ok (.bipush 6, 2) := dkAt dk05cleaf_cX12_apart_0_a 13 rfl
theorem dX12_apart_20 : decode cX12_apart 20 = .ok (.irem, 1) := dkAt dk05cleaf_cX12_apart_0_a 14 rfl
theorem dX12_apart_21 : decode cX12_apart 21 = .ok (.isub, 1) := dkAt dk05cleaf_cX12_apart_0_a 15 rfl
theorem dX12_apart_22 : decode cX12_apart 22 = .ok (.invokestatic 49, 3) := dkAt dk05cleaf_cX12_apart_0_a 16 rfl
theorem dX12_apart_25 : decode cX12_apart 25 = .ok (.istore_n 3, 1) := dkAt dk05cleaf_cX12_apart_0_a 17 rfl
theorem dX12_apart_26 : decode cX12_apart 26 = .ok (.iload_n 2, 1) := dkAt dk05cleaf_cX12_apart_0_a 18 rfl
theorem dX12_apart_27 : decode cX12_apart 27 = .ok (.iload_n 3, 1) := dkAt dk05cleaf_cX12_apart_0_a 19 rfl
theorem dX12_apart_28 : decode cX12_apart 28 = .ok (.if_icmp .le 7, 3) := dkAt dk05cleaf_cX12_apart_0_a 20 rfl
theorem dX12_apart_35 : decode cX12_apart 35 = .ok (.iload_n 3, 1) := dkAt dk05cleaf_cX12_apart_0_a 21 rfl
theorem dX12_apart_36 : decode cX12_apart 36 = .ok (.ireturn, 1) := dkAt dk05cleaf_cX12_apart_0_a 22 rfl
theorem dX12_apart_31 : decode cX12_apart 31 = .ok (.iload_n 2, 1) := dkAt dk05cleaf_cX12_apart_0_a 23 rfl
theorem dX12_apart_32 : decode cX12_apart 32 = .ok (.goto 4, 3) := dkAt dk05cleaf_cX12_apart_0_a 24 rfl
noncomputable def dk05cleaf_cX12_isHeap_0 : List (Nat × Instr × Nat) := [(0, .iload_n 1, 1), (1, .iconst 0, 1), (2, .aload_n 0, 1), (3, .getfield 9, 3), (6, .iconst 0, 1), (7, .iaload, 1), (8, .iconst 1, 1), (9, .isub, 1), (10, .invokestatic 45, 3), (13, .ireturn, 1)]
set_option maxRecDepth 100000 in
theorem dk05cleaf_cX12_isHeap_0_a : dkA cX12_isHeap dk05cleaf_cX12_isHeap_0 = true := by decide +kernel
theorem dX12_isHeap_0 : decode cX12_isHeap 0 = .ok (.iload_n 1, 1) := dkAt dk05cleaf_cX12_isHeap_0_a 0 rfl
theorem dX12_isHeap_1 : decode cX12_isHeap 1 = .ok (.iconst 0, 1) := dkAt dk05cleaf_cX12_isHeap_0_a 1 rfl
theorem dX12_isHeap_2 : decode cX12_isHeap 2 = .ok (.aload_n 0, 1) := dkAt dk05cleaf_cX12_isHeap_0_a 2 rfl
theorem dX12_isHeap_3 : decode cX12_isHeap 3 = .ok (.getfield 9, 3) := dkAt dk05cleaf_cX12_isHeap_0_a 3 rfl
theorem dX12_isHeap_6 : decode cX12_isHeap 6 = .ok (.iconst 0, 1) := dkAt dk05cleaf_cX12_isHeap_0_a 4 rfl
theorem dX12_isHeap_7 : decode cX12_isHeap 7 = .ok (.iaload, 1) := dkAt dk05cleaf_cX12_isHeap_0_a 5 rfl
theorem dX12_isHeap_8 : decode cX12_isHeap 8 = .ok (.iconst 1, 1) := dkAt dk05cleaf_cX12_isHeap_0_a 6 rfl
theorem dX12_isHeap_9 : decode cX12_isHeap 9 = .ok (.isub, 1) := dkAt dk05cleaf_cX12_isHeap_0_a 7 rfl
theorem dX12_isHeap_10 : decode cX12_isHeap 10 = .ok (.invokestatic 45, 3) := dkAt dk05cleaf_cX12_isHeap_0_a 8 rfl
theorem dX12_isHeap_13 : decode cX12_isHeap 13 = .ok (.ireturn, 1) := dkAt dk05cleaf_cX12_isHeap_0_a 9 rfl
set_option maxHeartbeats 4000000 in
set_option maxRecDepth 100000 in
theorem c_in (l : Launch) (dC : Nat → ClassId) (dI : Nat → Nat → Nat) (v lo hi : Int32) : Met l yX12_in wsX12_in ({ frames := 0, cells := 0, slots := 0, locals := 0 } : Room) (va_Pc [.int v, .int lo, .int hi] (fun U => True)) (vp_Si (fun r => (r = 1 ∧ ¬ v < lo ∧ ¬ hi < v) ∨ (r = 0 ∧ (v < lo ∨ hi < v)))) 0 0 (fun _ => False) := by
  refine met_ofQ (cc := cX12_in) (maxL := 3) (ret := (some .boolean)) (by decide) rfl ?_
  intro p e s m args below meth c s₁ Q B hml hv hQ
  obtain ⟨rfl, -⟩ := hv
  have hx := B.exec
  have hb := B.bytes
  have hr := B.returns
  have hts := atoms_spec (ws := wsX12_in) B.pre
  have hown : s.vm.findClass RX12 = some m.cls := findClass_of_methodNamed B.named
  have hlocks := B.notSynchronized
  obtain ⟨A, hAe⟩ : ∃ A : Nat → Prop, A = fun _ => False := ⟨_, rfl⟩
  rw [← hAe] at hQ
  have hS : va_S A s.heap s.heap [] := va_S.rf
  have hl := lv_entry [.int v, .int lo, .int hi] (n := 3) (Nat.le_of_ble_eq_true rfl)
  rw [lg_entry_eq]
  generalize (lg_sl [.int v, .int lo, .int hi] ++ List.replicate (3 - (lg_sl [.int v, .int lo, .int hi]).length) Slot.unset).toArray = ls at hl ⊢
  generalize hag : ([.int v, .int lo, .int hi] : List Value).toArray = args at hts hQ ⊢
  have hl : lv_has ls 3 [(0, .int v), (1, .int lo), (2, .int hi)] := hl
  refine lv_iload_n hx hb dX12_in_0 rfl (lv_at hl 0 rfl) ?_
  refine lv_iload_n hx hb dX12_in_1 rfl (lv_at hl 1 rfl) ?_
  refine lv_icmp_lt (tgt := 14) hx hb dX12_in_2 (by decide) (fun c_1 => ?_) (fun c_1 => ?_)
  · skip
    refine lv_iconst (v := 0) hx hb dX12_in_14 (by decide) ?_
    rw [hQ]
    exact W.zret (v := 0) hx hb hr rfl (fun tQ htQ hWQ => ⟨0, rfl, by simp_all, by rw [htQ]⟩) (fun q hq => absurd hq List.not_mem_nil) dX12_in_15
  · skip
    refine lv_iload_n hx hb dX12_in_5 rfl (lv_at hl 0 rfl) ?_
    refine lv_iload_n hx hb dX12_in_6 rfl (lv_at hl 2 rfl) ?_
    refine lv_icmp_gt (tgt := 14) hx hb dX12_in_7 (by decide) (fun c_2 => ?_) (fun c_2 => ?_)
    · skip
      refine lv_iconst (v := 0) hx hb dX12_in_14 (by decide) ?_
      rw [hQ]
      exact W.zret (v := 0) hx hb hr rfl (fun tQ htQ hWQ => ⟨0, rfl, by simp_all, by rw [htQ]⟩) (fun q hq => absurd hq List.not_mem_nil) dX12_in_15
    · skip
      refine lv_iconst (v := 1) hx hb dX12_in_10 (by decide) ?_
      refine lv_goto (tgt := 15) hx hb dX12_in_11 (by decide) ?_
      rw [hQ]
      exact W.zret (v := 1) hx hb hr rfl (fun tQ htQ hWQ => ⟨1, rfl, by simp_all, by rw [htQ]⟩) (fun q hq => absurd hq List.not_mem_nil) dX12_in_15

set_option maxHeartbeats 4000000 in
set_option maxRecDepth 100000 in
theorem c_size (l : Launch) (dC : Nat → ClassId) (dI : Nat → Nat → Nat) (v : Int32) : Met l yX12_size wsX12_size ({ frames := 0, cells := 0, slots := 0, locals := 0 } : Room) (va_Pc [.int v] (fun U => True)) (vp_Si (fun r => r = szR v)) 0 0 (fun _ => False) := by
  refine met_ofQ (cc := cX12_size) (maxL := 1) (ret := (some .int)) (by decide) rfl ?_
  intro p e s m args below meth c s₁ Q B hml hv hQ
  obtain ⟨rfl, -⟩ := hv
  have hx := B.exec
  have hb := B.bytes
  have hr := B.returns
  have hts := atoms_spec (ws := wsX12_size) B.pre
  have hown : s.vm.findClass RX12 = some m.cls := findClass_of_methodNamed B.named
  have hlocks := B.notSynchronized
  obtain ⟨A, hAe⟩ : ∃ A : Nat → Prop, A = fun _ => False := ⟨_, rfl⟩
  rw [← hAe] at hQ
  have hS : va_S A s.heap s.heap [] := va_S.rf
  have hl := lv_entry [.int v] (n := 1) (Nat.le_of_ble_eq_true rfl)
  rw [lg_entry_eq]
  generalize (lg_sl [.int v] ++ List.replicate (1 - (lg_sl [.int v]).length) Slot.unset).toArray = ls at hl ⊢
  generalize hag : ([.int v] : List Value).toArray = args at hts hQ ⊢
  have hl : lv_has ls 1 [(0, .int v)] := hl
  refine lv_iload_n hx hb dX12_size_0 rfl (lv_at hl 0 rfl) ?_
  refine lv_if_ge (tgt := 9) hx hb dX12_size_1 (by decide) (fun c_1 => ?_) (fun c_1 => ?_)
  · skip
    refine lv_iload_n hx hb dX12_size_9 rfl (lv_at hl 0 rfl) ?_
    rw [hQ]
    exact W.iret (v := v) hx hb hr (fun tQ htQ hWQ => ⟨v, rfl, by first | exact (if_pos (by assumption)).symm | exact (if_neg (by assumption)).symm, by rw [htQ]⟩) (fun q hq => absurd hq List.not_mem_nil) dX12_size_10
  · skip
    refine lv_iload_n hx hb dX12_size_4 rfl (lv_at hl 0 rfl) ?_
    refine lv_ineg hx hb dX12_size_5 ?_
    refine lv_goto (tgt := 10) hx hb dX12_size_6 (by decide) ?_
    rw [hQ]
    exact W.iret (v := -v) hx hb hr (fun tQ htQ hWQ => ⟨-v, rfl, by first | exact (if_pos (by assumption)).symm | exact (if_neg (by assumption)).symm, by rw [htQ]⟩) (fun q hq => absurd hq List.not_mem_nil) dX12_size_10

set_option maxHeartbeats 4000000 in
set_option maxRecDepth 100000 in
theorem c_mCell (l : Launch) (dC : Nat → ClassId) (dI : Nat → Nat → Nat) (c0 : Int32) : Met l yX12_isCell wsX12_isCell ({ frames := 1, cells := 0, slots := 0, locals := 22 } : Room) (va_Pc [.int c0] (fun U => True)) (vp_Si (fun r => (r = 1 ∧ ¬ c0 < 0 ∧ ¬ 35 < c0) ∨ (r = 0 ∧ (c0 < 0 ∨ 35 < c0)))) 0 0 (fun _ => False) := by
  refine met_ofQ (cc := cX12_isCell) (maxL := 1) (ret := (some .boolean)) (by decide) rfl ?_
  intro p e s m args below meth c s₁ Q B hml hv hQ
  obtain ⟨rfl, -⟩ := hv
  have hx := B.exec
  have hb := B.bytes
  have hr := B.returns
  have hts := atoms_spec (ws := wsX12_isCell) B.pre
  have hown : s.vm.findClass RX12 = some m.cls := findClass_of_methodNamed B.named
  have hlocks := B.notSynchronized
  obtain ⟨A, hAe⟩ : ∃ A : Nat → Prop, A = fun _ => False := ⟨_, rfl⟩
  rw [← hAe] at hQ
  have hS : va_S A s.heap s.heap [] := va_S.rf
  have hl := lv_entry [.int c0] (n := 1) (Nat.le_of_ble_eq_true rfl)
  rw [lg_entry_eq]
  generalize (lg_sl [.int c0] ++ List.replicate (1 - (lg_sl [.int c0]).length) Slot.unset).toArray = ls at hl ⊢
  generalize hag : ([.int c0] : List Value).toArray = args at hts hQ ⊢
  have hl : lv_has ls 1 [(0, .int c0)] := hl
  refine lv_iload_n hx hb dX12_isCell_0 rfl (lv_at hl 0 rfl) ?_
  refine lv_iconst (v := 0) hx hb dX12_isCell_1 (by decide) ?_
  refine lv_bipush (v := 35) hx hb dX12_isCell_2 (by decide) ?_
  refine vp_callSi (va_runS (As := [.int c0, .int 0, .int 35]) (rest := []) ⟨hx, hb, hml, hown, hts⟩ (c_in l dC dI c0 0 35) (va_cwS 3 hts gX12_isCell_X12_in rfl rfl rfl hd_yX12_in.2 ⟨Nat.le_of_ble_eq_true rfl, Nat.le_of_ble_eq_true rfl⟩) ⟨fun a U g mk q => ⟨q.1, trivial⟩, fun U hU hW => ⟨rfl, trivial⟩⟩ rfl rfl hl.1 rfl (lv_room (Nat.le_of_ble_eq_true rfl)) dX12_isCell_4 ⟨Nat.le_of_ble_eq_true rfl, Nat.le_of_ble_eq_true rfl⟩).run (fun r_1 hw_2 => ?_)
  rw [hQ]
  exact W.zret (v := r_1) hx hb hr (by rcases hw_2 with ⟨rfl, _⟩ | ⟨rfl, _⟩ <;> rfl) (fun tQ htQ hWQ => ⟨r_1, rfl, by assumption, by rw [htQ]⟩) (fun q hq => absurd hq List.not_mem_nil) dX12_isCell_7

set_option maxHeartbeats 4000000 in
set_option maxRecDepth 100000 in
theorem c_rowsOf (l : Launch) (dC : Nat → ClassId) (dI : Nat → Nat → Nat) (x : Int32) : Met l yX12_rowsOf wsX12_rowsOf ({ frames := 0, cells := 0, slots := 0, locals := 0 } : Room) (va_Pc [.int x] (fun U => True)) (vp_Si (fun r => r = rwR x)) 0 0 (fun _ => False) := by
  refine met_ofQ (cc := cX12_rowsOf) (maxL := 1) (ret := (some .int)) (by decide) rfl ?_
  intro p e s m args below meth c s₁ Q B hml hv hQ
  obtain ⟨rfl, -⟩ := hv
  have hx := B.exec
  have hb := B.bytes
  have hr := B.returns
  have hts := atoms_spec (ws := wsX12_rowsOf) B.pre
  have hown : s.vm.findClass RX12 = some m.cls := findClass_of_methodNamed B.named
  have hlocks := B.notSynchronized
  obtain ⟨A, hAe⟩ : ∃ A : Nat → Prop, A = fun _ => False := ⟨_, rfl⟩
  rw [← hAe] at hQ
  have hS : va_S A s.heap s.heap [] := va_S.rf
  have hl := lv_entry [.int x] (n := 1) (Nat.le_of_ble_eq_true rfl)
  rw [lg_entry_eq]
  generalize (lg_sl [.int x] ++ List.replicate (1 - (lg_sl [.int x]).length) Slot.unset).toArray = ls at hl ⊢
  generalize hag : ([.int x] : List Value).toArray = args at hts hQ ⊢
  have hl : lv_has ls 1 [(0, .int x)] := hl
  refine lv_iload_n hx hb dX12_rowsOf_0 rfl (lv_at hl 0 rfl) ?_
  refine lv_bipush (v := 7) hx hb dX12_rowsOf_1 (by decide) ?_
  refine lv_icmp_eq (tgt := 11) hx hb dX12_rowsOf_3 (by decide) (fun c_1 => ?_) (fun c_1 => ?_)
  · skip
    refine lv_iconst (v := (-1)) hx hb dX12_rowsOf_11 (by decide) ?_
    refine lv_goto (tgt := 31) hx hb dX12_rowsOf_12 (by decide) ?_
    rw [hQ]
    exact W.iret (v := (-1)) hx hb hr (fun tQ htQ hWQ => ⟨(-1), rfl, by first | exact rw_a (by assumption) | exact rw_b (by assumption) (by assumption) | exact rw_c (by assumption) (by assumption) (by assumption) | exact rw_d (by assumption) (by assumption) (by assumption) (by assumption) | exact rw_e (by assumption) (by assumption) (by assumption) (by assumption), by rw [htQ]⟩) (fun q hq => absurd hq List.not_mem_nil) dX12_rowsOf_31
  · skip
    refine lv_iload_n hx hb dX12_rowsOf_6 rfl (lv_at hl 0 rfl) ?_
    refine lv_iconst (v := 2) hx hb dX12_rowsOf_7 (by decide) ?_
    refine lv_icmp_ge (tgt := 15) hx hb dX12_rowsOf_8 (by decide) (fun c_2 => ?_) (fun c_2 => ?_)
    · skip
      refine lv_iload_n hx hb dX12_rowsOf_15 rfl (lv_at hl 0 rfl) ?_
      refine lv_iconst (v := 2) hx hb dX12_rowsOf_16 (by decide) ?_
      refine lv_icmp_le (tgt := 30) hx hb dX12_rowsOf_17 (by decide) (fun c_3 => ?_) (fun c_3 => ?_)
      · skip
        refine lv_iconst (v := 0) hx hb dX12_rowsOf_30 (by decide) ?_
        rw [hQ]
        exact W.iret (v := 0) hx hb hr (fun tQ htQ hWQ => ⟨0, rfl, by first | exact rw_a (by assumption) | exact rw_b (by assumption) (by assumption) | exact rw_c (by assumption) (by assumption) (by assumption) | exact rw_d (by assumption) (by assumption) (by assumption) (by assumption) | exact rw_e (by assumption) (by assumption) (by assumption) (by assumption), by rw [htQ]⟩) (fun q hq => absurd hq List.not_mem_nil) dX12_rowsOf_31
      · skip
        refine lv_iload_n hx hb dX12_rowsOf_20 rfl (lv_at hl 0 rfl) ?_
        refine lv_bipush (v := 6) hx hb dX12_rowsOf_21 (by decide) ?_
        refine lv_icmp_ge (tgt := 30) hx hb dX12_rowsOf_23 (by decide) (fun c_4 => ?_) (fun c_4 => ?_)
        · skip
          refine lv_iconst (v := 0) hx hb dX12_rowsOf_30 (by decide) ?_
          rw [hQ]
          exact W.iret (v := 0) hx hb hr (fun tQ htQ hWQ => ⟨0, rfl, by first | exact rw_a (by assumption) | exact rw_b (by assumption) (by assumption) | exact rw_c (by assumption) (by assumption) (by assumption) | exact rw_d (by assumption) (by assumption) (by assumption) (by assumption) | exact rw_e (by assumption) (by assumption) (by assumption) (by assumption), by rw [htQ]⟩) (fun q hq => absurd hq List.not_mem_nil) dX12_rowsOf_31
        · skip
          refine lv_iconst (v := 1) hx hb dX12_rowsOf_26 (by decide) ?_
          refine lv_goto (tgt := 31) hx hb dX12_rowsOf_27 (by decide) ?_
          rw [hQ]
          exact W.iret (v := 1) hx hb hr (fun tQ htQ hWQ => ⟨1, rfl, by first | exact rw_a (by assumption) | exact rw_b (by assumption) (by assumption) | exact rw_c (by assumption) (by assumption) (by assumption) | exact rw_d (by assumption) (by assumption) (by assumption) (by assumption) | exact rw_e (by assumption) (by assumption) (by assumption) (by assumption), by rw [htQ]⟩) (fun q hq => absurd hq List.not_mem_nil) dX12_rowsOf_31
    · skip
      refine lv_iconst (v := (-1)) hx hb dX12_rowsOf_11 (by decide) ?_
      refine lv_goto (tgt := 31) hx hb dX12_rowsOf_12 (by decide) ?_
      rw [hQ]
      exact W.iret (v := (-1)) hx hb hr (fun tQ htQ hWQ => ⟨(-1), rfl, by first | exact rw_a (by assumption) | exact rw_b (by assumption) (by assumption) | exact rw_c (by assumption) (by assumption) (by assumption) | exact rw_d (by assumption) (by assumption) (by assumption) (by assumption) | exact rw_e (by assumption) (by assumption) (by assumption) (by assumption), by rw [htQ]⟩) (fun q hq => absurd hq List.not_mem_nil) dX12_rowsOf_31

set_option maxHeartbeats 4000000 in
set_option maxRecDepth 100000 in
theorem c_columnsOf (l : Launch) (dC : Nat → ClassId) (dI : Nat → Nat → Nat) (x : Int32) : Met l yX12_columnsOf wsX12_columnsOf ({ frames := 1, cells := 0, slots := 0, locals := 22 } : Room) (va_Pc [.int x] (fun U => True)) (vp_Si (fun r => r = clR x)) 0 0 (fun _ => False) := by
  refine met_ofQ (cc := cX12_columnsOf) (maxL := 1) (ret := (some .int)) (by decide) rfl ?_
  intro p e s m args below meth c s₁ Q B hml hv hQ
  obtain ⟨rfl, -⟩ := hv
  have hx := B.exec
  have hb := B.bytes
  have hr := B.returns
  have hts := atoms_spec (ws := wsX12_columnsOf) B.pre
  have hown : s.vm.findClass RX12 = some m.cls := findClass_of_methodNamed B.named
  have hlocks := B.notSynchronized
  obtain ⟨A, hAe⟩ : ∃ A : Nat → Prop, A = fun _ => False := ⟨_, rfl⟩
  rw [← hAe] at hQ
  have hS : va_S A s.heap s.heap [] := va_S.rf
  have hl := lv_entry [.int x] (n := 1) (Nat.le_of_ble_eq_true rfl)
  rw [lg_entry_eq]
  generalize (lg_sl [.int x] ++ List.replicate (1 - (lg_sl [.int x]).length) Slot.unset).toArray = ls at hl ⊢
  generalize hag : ([.int x] : List Value).toArray = args at hts hQ ⊢
  have hl : lv_has ls 1 [(0, .int x)] := hl
  refine lv_iload_n hx hb dX12_columnsOf_0 rfl (lv_at hl 0 rfl) ?_
  refine lv_iconst (v := 1) hx hb dX12_columnsOf_1 (by decide) ?_
  refine lv_iconst (v := 3) hx hb dX12_columnsOf_2 (by decide) ?_
  refine vp_callSi (va_runS (As := [.int x, .int 1, .int 3]) (rest := []) ⟨hx, hb, hml, hown, hts⟩ (c_in l dC dI x 1 3) (va_cwS 3 hts gX12_columnsOf_X12_in rfl rfl rfl hd_yX12_in.2 ⟨Nat.le_of_ble_eq_true rfl, Nat.le_of_ble_eq_true rfl⟩) ⟨fun a U g mk q => ⟨q.1, trivial⟩, fun U hU hW => ⟨rfl, trivial⟩⟩ rfl rfl hl.1 rfl (lv_room (Nat.le_of_ble_eq_true rfl)) dX12_columnsOf_3 ⟨Nat.le_of_ble_eq_true rfl, Nat.le_of_ble_eq_true rfl⟩).run (fun r_1 hw_2 => ?_)
  rcases hw_2 with ⟨rfl, h_3, h_4⟩ | ⟨rfl, h_5⟩
  · skip
    refine lv_if_eq (tgt := 13) hx hb dX12_columnsOf_6 (by decide) (fun c_6 => absurd c_6 (by decide)) (fun _ => ?_)
    refine lv_iconst (v := 1) hx hb dX12_columnsOf_9 (by decide) ?_
    refine lv_goto (tgt := 23) hx hb dX12_columnsOf_10 (by decide) ?_
    rw [hQ]
    exact W.iret (v := 1) hx hb hr (fun tQ htQ hWQ => ⟨1, rfl, by first | exact cl_a (by assumption) (by assumption) | exact cl_b (by assumption) (by assumption) | exact cl_c (by assumption) (by assumption), by rw [htQ]⟩) (fun q hq => absurd hq List.not_mem_nil) dX12_columnsOf_23
  · skip
    refine lv_if_eq (tgt := 13) hx hb dX12_columnsOf_6 (by decide) (fun _ => ?_) (fun c_7 => absurd c_7 (by decide))
    refine lv_iload_n hx hb dX12_columnsOf_13 rfl (lv_at hl 0 rfl) ?_
    refine lv_iconst (v := 4) hx hb dX12_columnsOf_14 (by decide) ?_
    refine lv_icmp_le (tgt := 22) hx hb dX12_columnsOf_15 (by decide) (fun c_8 => ?_) (fun c_8 => ?_)
    · skip
      refine lv_iconst (v := 0) hx hb dX12_columnsOf_22 (by decide) ?_
      rw [hQ]
      exact W.iret (v := 0) hx hb hr (fun tQ htQ hWQ => ⟨0, rfl, by first | exact cl_a (by assumption) (by assumption) | exact cl_b (by assumption) (by assumption) | exact cl_c (by assumption) (by assumption), by rw [htQ]⟩) (fun q hq => absurd hq List.not_mem_nil) dX12_columnsOf_23
    · skip
      refine lv_iconst (v := (-1)) hx hb dX12_columnsOf_18 (by decide) ?_
      refine lv_goto (tgt := 23) hx hb dX12_columnsOf_19 (by decide) ?_
      rw [hQ]
      exact W.iret (v := (-1)) hx hb hr (fun tQ htQ hWQ => ⟨(-1), rfl, by first | exact cl_a (by assumption) (by assumption) | exact cl_b (by assumption) (by assumption) | exact cl_c (by assumption) (by assumption), by rw [htQ]⟩) (fun q hq => absurd hq List.not_mem_nil) dX12_columnsOf_23

set_option maxHeartbeats 4000000 in
set_option maxRecDepth 100000 in
theorem c_nextTo (l : Launch) (dC : Nat → ClassId) (dI : Nat → Nat → Nat) (j : Nat) (x : Int32) (zj : j < 36) : Met l yX12_nextTo wsX12_nextTo ({ frames := 2, cells := 0, slots := 0, locals := 42 } : Room) (va_Pc [.int (nI j), .int x] (fun U => True)) (vp_Si (fun r => ∃ k : Nat, k < 36 ∧ r = nI k)) 0 0 (fun _ => False) := by
  refine met_ofQ (cc := cX12_nextTo) (maxL := 4) (ret := (some .int)) (by decide) rfl ?_
  intro p e s m args below meth c s₁ Q B hml hv hQ
  obtain ⟨rfl, -⟩ := hv
  have hx := B.exec
  have hb := B.bytes
  have hr := B.returns
  have hts := atoms_spec (ws := wsX12_nextTo) B.pre
  have hown : s.vm.findClass RX12 = some m.cls := findClass_of_methodNamed B.named
  have hlocks := B.notSynchronized
  obtain ⟨A, hAe⟩ : ∃ A : Nat → Prop, A = fun _ => False := ⟨_, rfl⟩
  rw [← hAe] at hQ
  have hS : va_S A s.heap s.heap [] := va_S.rf
  have hl := lv_entry [.int (nI j), .int x] (n := 4) (Nat.le_of_ble_eq_true rfl)
  rw [lg_entry_eq]
  generalize (lg_sl [.int (nI j), .int x] ++ List.replicate (4 - (lg_sl [.int (nI j), .int x]).length) Slot.unset).toArray = ls at hl ⊢
  generalize hag : ([.int (nI j), .int x] : List Value).toArray = args at hts hQ ⊢
  have hl : lv_has ls 4 [(0, .int (nI j)), (1, .int x)] := hl
  refine lv_iload_n hx hb dX12_nextTo_0 rfl (lv_at hl 0 rfl) ?_
  refine lv_bipush (v := 6) hx hb dX12_nextTo_1 (by decide) ?_
  refine lv_idiv hx hb dX12_nextTo_3 (by decide) ?_
  refine qi_as (y := nI (j / 6)) (pk_div (a := j) (d := 6) (by omega) (by omega) (by omega)) ?_
  refine lv_iload_n hx hb dX12_nextTo_4 rfl (lv_at hl 1 rfl) ?_
  refine vp_callSi (va_runS (As := [.int x]) (rest := [.int (nI (j / 6))]) ⟨hx, hb, hml, hown, hts⟩ (c_rowsOf l dC dI x) (va_cwS 1 hts gX12_nextTo_X12_rowsOf rfl rfl rfl hd_yX12_rowsOf.2 ⟨Nat.le_of_ble_eq_true rfl, Nat.le_of_ble_eq_true rfl⟩) ⟨fun a U g mk q => ⟨q.1, trivial⟩, fun U hU hW => ⟨rfl, trivial⟩⟩ rfl rfl hl.1 rfl (lv_room (Nat.le_of_ble_eq_true rfl)) dX12_nextTo_5 ⟨Nat.le_of_ble_eq_true rfl, Nat.le_of_ble_eq_true rfl⟩).run (fun r_1 hw_2 => ?_)
  refine lv_iadd hx hb dX12_nextTo_8 ?_
  refine lv_istore_n (lv' := [(2, .int ((nI (j / 6)) + r_1)), (0, .int (nI j)), (1, .int x)]) hx hb dX12_nextTo_9 rfl hl (by decide) rfl (fun ls hl => ?_)
  refine lv_iload_n hx hb dX12_nextTo_10 rfl (lv_at hl 1 rfl) ?_
  refine lv_bipush (v := 6) hx hb dX12_nextTo_11 (by decide) ?_
  refine lv_irem hx hb dX12_nextTo_13 (by decide) ?_
  refine qi_as (y := nI (j % 6)) (pk_rem (a := j) (d := 6) (by omega) (by omega) (by omega)) ?_
  refine lv_iload_n hx hb dX12_nextTo_14 rfl (lv_at hl 2 rfl) ?_
  refine vp_callSi (va_runS (As := [.int x]) (rest := [.int (nI (j % 6))]) ⟨hx, hb, hml, hown, hts⟩ (c_columnsOf l dC dI x) (va_cwS 1 hts gX12_nextTo_X12_columnsOf rfl rfl rfl hd_yX12_columnsOf.2 ⟨Nat.le_of_ble_eq_true rfl, Nat.le_of_ble_eq_true rfl⟩) ⟨fun a U g mk q => ⟨q.1, trivial⟩, fun U hU hW => ⟨rfl, trivial⟩⟩ rfl rfl hl.1 rfl (lv_room (Nat.le_of_ble_eq_true rfl)) dX12_nextTo_15 ⟨Nat.le_of_ble_eq_true rfl, Nat.le_of_ble_eq_true rfl⟩).run (fun r_3 hw_4 => ?_)
  refine lv_iadd hx hb dX12_nextTo_18 ?_
  refine lv_istore_n (lv' := [(3, .int ((nI (j % 6)) + r_3)), (2, .int ((nI (j / 6)) + r_1)), (0, .int (nI j)), (1, .int x)]) hx hb dX12_nextTo_19 rfl hl (by decide) rfl (fun ls hl => ?_)
  refine lv_iload_n hx hb dX12_nextTo_20 rfl (lv_at hl 1 rfl) ?_
  refine lv_iconst (v := 0) hx hb dX12_nextTo_21 (by decide) ?_
  refine lv_iconst (v := 5) hx hb dX12_nextTo_22 (by decide) ?_
  refine vp_callSi (va_runS (As := [.int ((nI (j / 6)) + r_1), .int 0, .int 5]) (rest := []) ⟨hx, hb, hml, hown, hts⟩ (c_in l dC dI ((nI (j / 6)) + r_1) 0 5) (va_cwS 3 hts gX12_nextTo_X12_in rfl rfl rfl hd_yX12_in.2 ⟨Nat.le_of_ble_eq_true rfl, Nat.le_of_ble_eq_true rfl⟩) ⟨fun a U g mk q => ⟨q.1, trivial⟩, fun U hU hW => ⟨rfl, trivial⟩⟩ rfl rfl hl.1 rfl (lv_room (Nat.le_of_ble_eq_true rfl)) dX12_nextTo_23 ⟨Nat.le_of_ble_eq_true rfl, Nat.le_of_ble_eq_true rfl⟩).run (fun r_5 hw_6 => ?_)
  rcases hw_6 with ⟨rfl, h_7, h_8⟩ | ⟨rfl, h_9⟩
  · skip
    obtain ⟨ja, hja, eja⟩ := nI_of2 (n := 5) (M := 5) rfl h_7 (Int32.not_lt.mp h_8)
    refine lv_if_eq (tgt := 47) hx hb dX12_nextTo_26 (by decide) (fun c_10 => absurd c_10 (by decide)) (fun _ => ?_)
    refine lv_iload_n hx hb dX12_nextTo_29 rfl (lv_at hl 0 rfl) ?_
    refine lv_iconst (v := 0) hx hb dX12_nextTo_30 (by decide) ?_
    refine lv_iconst (v := 5) hx hb dX12_nextTo_31 (by decide) ?_
    refine vp_callSi (va_runS (As := [.int ((nI (j % 6)) + r_3), .int 0, .int 5]) (rest := []) ⟨hx, hb, hml, hown, hts⟩ (c_in l dC dI ((nI (j % 6)) + r_3) 0 5) (va_cwS 3 hts gX12_nextTo_X12_in rfl rfl rfl hd_yX12_in.2 ⟨Nat.le_of_ble_eq_true rfl, Nat.le_of_ble_eq_true rfl⟩) ⟨fun a U g mk q => ⟨q.1, trivial⟩, fun U hU hW => ⟨rfl, trivial⟩⟩ rfl rfl hl.1 rfl (lv_room (Nat.le_of_ble_eq_true rfl)) dX12_nextTo_32 ⟨Nat.le_of_ble_eq_true rfl, Nat.le_of_ble_eq_true rfl⟩).run (fun r_11 hw_12 => ?_)
    rcases hw_12 with ⟨rfl, h_13, h_14⟩ | ⟨rfl, h_15⟩
    · skip
      obtain ⟨jb, hjb, ejb⟩ := nI_of2 (n := 5) (M := 5) rfl h_13 (Int32.not_lt.mp h_14)
      refine lv_if_eq (tgt := 47) hx hb dX12_nextTo_35 (by decide) (fun c_16 => absurd c_16 (by decide)) (fun _ => ?_)
      refine lv_bipush (v := 6) hx hb dX12_nextTo_38 (by decide) ?_
      refine lv_iload_n hx hb dX12_nextTo_40 rfl (lv_at hl 1 rfl) ?_
      refine lv_imul hx hb dX12_nextTo_41 ?_
      refine lv_iload_n hx hb dX12_nextTo_42 rfl (lv_at hl 0 rfl) ?_
      refine lv_iadd hx hb dX12_nextTo_43 ?_
      refine lv_goto (tgt := 48) hx hb dX12_nextTo_44 (by decide) ?_
      rw [hQ]
      exact W.iret (v := (6 * ((nI (j / 6)) + r_1)) + ((nI (j % 6)) + r_3)) hx hb hr (fun tQ htQ hWQ => ⟨(6 * ((nI (j / 6)) + r_1)) + ((nI (j % 6)) + r_3), rfl, by first | exact ⟨j, zj, rfl⟩ | exact rc_of2 hja hjb eja ejb, by rw [htQ]⟩) (fun q hq => absurd hq List.not_mem_nil) dX12_nextTo_48
    · skip
      refine lv_if_eq (tgt := 47) hx hb dX12_nextTo_35 (by decide) (fun _ => ?_) (fun c_17 => absurd c_17 (by decide))
      refine lv_iload_n hx hb dX12_nextTo_47 rfl (lv_at hl 2 rfl) ?_
      rw [hQ]
      exact W.iret (v := nI j) hx hb hr (fun tQ htQ hWQ => ⟨nI j, rfl, by first | exact ⟨j, zj, rfl⟩ | exact rc_of2 hja hjb eja ejb, by rw [htQ]⟩) (fun q hq => absurd hq List.not_mem_nil) dX12_nextTo_48
  · skip
    refine lv_if_eq (tgt := 47) hx hb dX12_nextTo_26 (by decide) (fun _ => ?_) (fun c_18 => absurd c_18 (by decide))
    refine lv_iload_n hx hb dX12_nextTo_47 rfl (lv_at hl 2 rfl) ?_
    rw [hQ]
    exact W.iret (v := nI j) hx hb hr (fun tQ htQ hWQ => ⟨nI j, rfl, by first | exact ⟨j, zj, rfl⟩ | exact rc_of2 hja hjb eja ejb, by rw [htQ]⟩) (fun q hq => absurd hq List.not_mem_nil) dX12_nextTo_48

set_option maxHeartbeats 4000000 in
set_option maxRecDepth 100000 in
theorem c_side (l : Launch) (dC : Nat → ClassId) (dI : Nat → Nat → Nat) (x y z : Int32) : Met l yX12_isThatSide wsX12_isThatSide ({ frames := 0, cells := 0, slots := 0, locals := 0 } : Room) (va_Pc [.int x, .int y, .int z] (fun U => True)) (vp_Si (fun r => (r = 1 ∧ sdR x y z) ∨ (r = 0 ∧ ¬ sdR x y z))) 0 0 (fun _ => False) := by
  refine met_ofQ (cc := cX12_isThatSide) (maxL := 3) (ret := (some .boolean)) (by decide) rfl ?_
  intro p e s m args below meth c s₁ Q B hml hv hQ
  obtain ⟨rfl, -⟩ := hv
  have hx := B.exec
  have hb := B.bytes
  have hr := B.returns
  have hts := atoms_spec (ws := wsX12_isThatSide) B.pre
  have hown : s.vm.findClass RX12 = some m.cls := findClass_of_methodNamed B.named
  have hlocks := B.notSynchronized
  obtain ⟨A, hAe⟩ : ∃ A : Nat → Prop, A = fun _ => False := ⟨_, rfl⟩
  rw [← hAe] at hQ
  have hS : va_S A s.heap s.heap [] := va_S.rf
  have hl := lv_entry [.int x, .int y, .int z] (n := 3) (Nat.le_of_ble_eq_true rfl)
  rw [lg_entry_eq]
  generalize (lg_sl [.int x, .int y, .int z] ++ List.replicate (3 - (lg_sl [.int x, .int y, .int z]).length) Slot.unset).toArray = ls at hl ⊢
  generalize hag : ([.int x, .int y, .int z] : List Value).toArray = args at hts hQ ⊢
  have hl : lv_has ls 3 [(0, .int x), (1, .int y), (2, .int z)] := hl
  refine lv_iload_n hx hb dX12_isThatSide_0 rfl (lv_at hl 0 rfl) ?_
  refine lv_if_eq (tgt := 22) hx hb dX12_isThatSide_1 (by decide) (fun c_1 => ?_) (fun c_1 => ?_)
  · skip
    refine lv_iconst (v := 1) hx hb dX12_isThatSide_22 (by decide) ?_
    refine lv_goto (tgt := 27) hx hb dX12_isThatSide_23 (by decide) ?_
    rw [hQ]
    exact W.zret (v := 1) hx hb hr rfl (fun tQ htQ hWQ => ⟨1, rfl, by first | exact Or.inl ⟨rfl, sd_a (by assumption)⟩ | exact Or.inl ⟨rfl, sd_b (by assumption) (by assumption)⟩ | exact Or.inl ⟨rfl, sd_c (by assumption) (by assumption)⟩ | exact Or.inr ⟨rfl, sd_f (by assumption) (by first | exact Or.inl (by assumption) | exact Or.inr (by assumption)) (by first | exact Or.inl (by assumption) | exact Or.inr (by assumption))⟩, by rw [htQ]⟩) (fun q hq => absurd hq List.not_mem_nil) dX12_isThatSide_27
  · skip
    refine lv_iload_n hx hb dX12_isThatSide_4 rfl (lv_at hl 0 rfl) ?_
    refine lv_if_ge (tgt := 13) hx hb dX12_isThatSide_5 (by decide) (fun c_2 => ?_) (fun c_2 => ?_)
    · skip
      refine lv_iload_n hx hb dX12_isThatSide_13 rfl (lv_at hl 0 rfl) ?_
      refine lv_if_le (tgt := 26) hx hb dX12_isThatSide_14 (by decide) (fun c_3 => ?_) (fun c_3 => ?_)
      · skip
        refine lv_iconst (v := 0) hx hb dX12_isThatSide_26 (by decide) ?_
        rw [hQ]
        exact W.zret (v := 0) hx hb hr rfl (fun tQ htQ hWQ => ⟨0, rfl, by first | exact Or.inl ⟨rfl, sd_a (by assumption)⟩ | exact Or.inl ⟨rfl, sd_b (by assumption) (by assumption)⟩ | exact Or.inl ⟨rfl, sd_c (by assumption) (by assumption)⟩ | exact Or.inr ⟨rfl, sd_f (by assumption) (by first | exact Or.inl (by assumption) | exact Or.inr (by assumption)) (by first | exact Or.inl (by assumption) | exact Or.inr (by assumption))⟩, by rw [htQ]⟩) (fun q hq => absurd hq List.not_mem_nil) dX12_isThatSide_27
      · skip
        refine lv_iload_n hx hb dX12_isThatSide_17 rfl (lv_at hl 2 rfl) ?_
        refine lv_iload_n hx hb dX12_isThatSide_18 rfl (lv_at hl 1 rfl) ?_
        refine lv_icmp_le (tgt := 26) hx hb dX12_isThatSide_19 (by decide) (fun c_4 => ?_) (fun c_4 => ?_)
        · skip
          refine lv_iconst (v := 0) hx hb dX12_isThatSide_26 (by decide) ?_
          rw [hQ]
          exact W.zret (v := 0) hx hb hr rfl (fun tQ htQ hWQ => ⟨0, rfl, by first | exact Or.inl ⟨rfl, sd_a (by assumption)⟩ | exact Or.inl ⟨rfl, sd_b (by assumption) (by assumption)⟩ | exact Or.inl ⟨rfl, sd_c (by assumption) (by assumption)⟩ | exact Or.inr ⟨rfl, sd_f (by assumption) (by first | exact Or.inl (by assumption) | exact Or.inr (by assumption)) (by first | exact Or.inl (by assumption) | exact Or.inr (by assumption))⟩, by rw [htQ]⟩) (fun q hq => absurd hq List.not_mem_nil) dX12_isThatSide_27
        · skip
          refine lv_iconst (v := 1) hx hb dX12_isThatSide_22 (by decide) ?_
          refine lv_goto (tgt := 27) hx hb dX12_isThatSide_23 (by decide) ?_
          rw [hQ]
          exact W.zret (v := 1) hx hb hr rfl (fun tQ htQ hWQ => ⟨1, rfl, by first | exact Or.inl ⟨rfl, sd_a (by assumption)⟩ | exact Or.inl ⟨rfl, sd_b (by assumption) (by assumption)⟩ | exact Or.inl ⟨rfl, sd_c (by assumption) (by assumption)⟩ | exact Or.inr ⟨rfl, sd_f (by assumption) (by first | exact Or.inl (by assumption) | exact Or.inr (by assumption)) (by first | exact Or.inl (by assumption) | exact Or.inr (by assumption))⟩, by rw [htQ]⟩) (fun q hq => absurd hq List.not_mem_nil) dX12_isThatSide_27
    · skip
      refine lv_iload_n hx hb dX12_isThatSide_8 rfl (lv_at hl 2 rfl) ?_
      refine lv_iload_n hx hb dX12_isThatSide_9 rfl (lv_at hl 1 rfl) ?_
      refine lv_icmp_lt (tgt := 22) hx hb dX12_isThatSide_10 (by decide) (fun c_5 => ?_) (fun c_5 => ?_)
      · skip
        refine lv_iconst (v := 1) hx hb dX12_isThatSide_22 (by decide) ?_
        refine lv_goto (tgt := 27) hx hb dX12_isThatSide_23 (by decide) ?_
        rw [hQ]
        exact W.zret (v := 1) hx hb hr rfl (fun tQ htQ hWQ => ⟨1, rfl, by first | exact Or.inl ⟨rfl, sd_a (by assumption)⟩ | exact Or.inl ⟨rfl, sd_b (by assumption) (by assumption)⟩ | exact Or.inl ⟨rfl, sd_c (by assumption) (by assumption)⟩ | exact Or.inr ⟨rfl, sd_f (by assumption) (by first | exact Or.inl (by assumption) | exact Or.inr (by assumption)) (by first | exact Or.inl (by assumption) | exact Or.inr (by assumption))⟩, by rw [htQ]⟩) (fun q hq => absurd hq List.not_mem_nil) dX12_isThatSide_27
      · skip
        refine lv_iload_n hx hb dX12_isThatSide_13 rfl (lv_at hl 0 rfl) ?_
        refine lv_if_le (tgt := 26) hx hb dX12_isThatSide_14 (by decide) (fun c_6 => ?_) (fun c_6 => ?_)
        · skip
          refine lv_iconst (v := 0) hx hb dX12_isThatSide_26 (by decide) ?_
          rw [hQ]
          exact W.zret (v := 0) hx hb hr rfl (fun tQ htQ hWQ => ⟨0, rfl, by first | exact Or.inl ⟨rfl, sd_a (by assumption)⟩ | exact Or.inl ⟨rfl, sd_b (by assumption) (by assumption)⟩ | exact Or.inl ⟨rfl, sd_c (by assumption) (by assumption)⟩ | exact Or.inr ⟨rfl, sd_f (by assumption) (by first | exact Or.inl (by assumption) | exact Or.inr (by assumption)) (by first | exact Or.inl (by assumption) | exact Or.inr (by assumption))⟩, by rw [htQ]⟩) (fun q hq => absurd hq List.not_mem_nil) dX12_isThatSide_27
        · skip
          refine lv_iload_n hx hb dX12_isThatSide_17 rfl (lv_at hl 2 rfl) ?_
          refine lv_iload_n hx hb dX12_isThatSide_18 rfl (lv_at hl 1 rfl) ?_
          refine lv_icmp_le (tgt := 26) hx hb dX12_isThatSide_19 (by decide) (fun c_7 => ?_) (fun c_7 => ?_)
          · skip
            refine lv_iconst (v := 0) hx hb dX12_isThatSide_26 (by decide) ?_
            rw [hQ]
            exact W.zret (v := 0) hx hb hr rfl (fun tQ htQ hWQ => ⟨0, rfl, by first | exact Or.inl ⟨rfl, sd_a (by assumption)⟩ | exact Or.inl ⟨rfl, sd_b (by assumption) (by assumption)⟩ | exact Or.inl ⟨rfl, sd_c (by assumption) (by assumption)⟩ | exact Or.inr ⟨rfl, sd_f (by assumption) (by first | exact Or.inl (by assumption) | exact Or.inr (by assumption)) (by first | exact Or.inl (by assumption) | exact Or.inr (by assumption))⟩, by rw [htQ]⟩) (fun q hq => absurd hq List.not_mem_nil) dX12_isThatSide_27
          · skip
            refine lv_iconst (v := 1) hx hb dX12_isThatSide_22 (by decide) ?_
            refine lv_goto (tgt := 27) hx hb dX12_isThatSide_23 (by decide) ?_
            rw [hQ]
            exact W.zret (v := 1) hx hb hr rfl (fun tQ htQ hWQ => ⟨1, rfl, by first | exact Or.inl ⟨rfl, sd_a (by assumption)⟩ | exact Or.inl ⟨rfl, sd_b (by assumption) (by assumption)⟩ | exact Or.inl ⟨rfl, sd_c (by assumption) (by assumption)⟩ | exact Or.inr ⟨rfl, sd_f (by assumption) (by first | exact Or.inl (by assumption) | exact Or.inr (by assumption)) (by first | exact Or.inl (by assumption) | exact Or.inr (by assumption))⟩, by rw [htQ]⟩) (fun q hq => absurd hq List.not_mem_nil) dX12_isThatSide_27

set_option maxHeartbeats 4000000 in
set_option maxRecDepth 100000 in
theorem c_apart (l : Launch) (dC : Nat → ClassId) (dI : Nat → Nat → Nat) (x y : Int32) : Met l yX12_apart wsX12_apart ({ frames := 1, cells := 0, slots := 0, locals := 20 } : Room) (va_Pc [.int x, .int y] (fun U => True)) (vp_Si (fun r => r = apR x y)) 0 0 (fun _ => False) := by
  refine met_ofQ (cc := cX12_apart) (maxL := 4) (ret := (some .int)) (by decide) rfl ?_
  intro p e s m args below meth c s₁ Q B hml hv hQ
  obtain ⟨rfl, -⟩ := hv
  have hx := B.exec
  have hb := B.bytes
  have hr := B.returns
  have hts := atoms_spec (ws := wsX12_apart) B.pre
  have hown : s.vm.findClass RX12 = some m.cls := findClass_of_methodNamed B.named
  have hlocks := B.notSynchronized
  obtain ⟨A, hAe⟩ : ∃ A : Nat → Prop, A = fun _ => False := ⟨_, rfl⟩
  rw [← hAe] at hQ
  have hS : va_S A s.heap s.heap [] := va_S.rf
  have hl := lv_entry [.int x, .int y] (n := 4) (Nat.le_of_ble_eq_true rfl)
  rw [lg_entry_eq]
  generalize (lg_sl [.int x, .int y] ++ List.replicate (4 - (lg_sl [.int x, .int y]).length) Slot.unset).toArray = ls at hl ⊢
  generalize hag : ([.int x, .int y] : List Value).toArray = args at hts hQ ⊢
  have hl : lv_has ls 4 [(0, .int x), (1, .int y)] := hl
  refine lv_iload_n hx hb dX12_apart_0 rfl (lv_at hl 0 rfl) ?_
  refine lv_bipush (v := 6) hx hb dX12_apart_1 (by decide) ?_
  refine lv_idiv hx hb dX12_apart_3 (by decide) ?_
  refine lv_iload_n hx hb dX12_apart_4 rfl (lv_at hl 1 rfl) ?_
  refine lv_bipush (v := 6) hx hb dX12_apart_5 (by decide) ?_
  refine lv_idiv hx hb dX12_apart_7 (by decide) ?_
  refine lv_isub hx hb dX12_apart_8 ?_
  refine vp_callSi (va_runS (As := [.int ((x / 6) - (y / 6))]) (rest := []) ⟨hx, hb, hml, hown, hts⟩ (c_size l dC dI ((x / 6) - (y / 6))) (va_cwS 1 hts gX12_apart_X12_size rfl rfl rfl hd_yX12_size.2 ⟨Nat.le_of_ble_eq_true rfl, Nat.le_of_ble_eq_true rfl⟩) ⟨fun a U g mk q => ⟨q.1, trivial⟩, fun U hU hW => ⟨rfl, trivial⟩⟩ rfl rfl hl.1 rfl (lv_room (Nat.le_of_ble_eq_true rfl)) dX12_apart_9 ⟨Nat.le_of_ble_eq_true rfl, Nat.le_of_ble_eq_true rfl⟩).run (fun r_1 hw_2 => ?_)
  obtain rfl := hw_2
  refine lv_istore_n (lv' := [(2, .int (szR ((x / 6) - (y / 6)))), (0, .int x), (1, .int y)]) hx hb dX12_apart_12 rfl hl (by decide) rfl (fun ls hl => ?_)
  refine lv_iload_n hx hb dX12_apart_13 rfl (lv_at hl 1 rfl) ?_
  refine lv_bipush (v := 6) hx hb dX12_apart_14 (by decide) ?_
  refine lv_irem hx hb dX12_apart_16 (by decide) ?_
  refine lv_iload_n hx hb dX12_apart_17 rfl (lv_at hl 2 rfl) ?_
  refine lv_bipush (v := 6) hx hb dX12_apart_18 (by decide) ?_
  refine lv_irem hx hb dX12_apart_20 (by decide) ?_
  refine lv_isub hx hb dX12_apart_21 ?_
  refine vp_callSi (va_runS (As := [.int ((x - x / 6 * 6) - (y - y / 6 * 6))]) (rest := []) ⟨hx, hb, hml, hown, hts⟩ (c_size l dC dI ((x - x / 6 * 6) - (y - y / 6 * 6))) (va_cwS 1 hts gX12_apart_X12_size rfl rfl rfl hd_yX12_size.2 ⟨Nat.le_of_ble_eq_true rfl, Nat.le_of_ble_eq_true rfl⟩) ⟨fun a U g mk q => ⟨q.1, trivial⟩, fun U hU hW => ⟨rfl, trivial⟩⟩ rfl rfl hl.1 rfl (lv_room (Nat.le_of_ble_eq_true rfl)) dX12_apart_22 ⟨Nat.le_of_ble_eq_true rfl, Nat.le_of_ble_eq_true rfl⟩).run (fun r_3 hw_4 => ?_)
  obtain rfl := hw_4
  refine lv_istore_n (lv' := [(3, .int (szR ((x - x / 6 * 6) - (y - y / 6 * 6)))), (2, .int (szR ((x / 6) - (y / 6)))), (0, .int x), (1, .int y)]) hx hb dX12_apart_25 rfl hl (by decide) rfl (fun ls hl => ?_)
  refine lv_iload_n hx hb dX12_apart_26 rfl (lv_at hl 1 rfl) ?_
  refine lv_iload_n hx hb dX12_apart_27 rfl (lv_at hl 0 rfl) ?_
  refine lv_icmp_le (tgt := 35) hx hb dX12_apart_28 (by decide) (fun c_5 => ?_) (fun c_5 => ?_)
  · skip
    refine lv_iload_n hx hb dX12_apart_35 rfl (lv_at hl 0 rfl) ?_
    rw [hQ]
    exact W.iret (v := szR ((x - x / 6 * 6) - (y - y / 6 * 6))) hx hb hr (fun tQ htQ hWQ => ⟨szR ((x - x / 6 * 6) - (y - y / 6 * 6)), rfl, by first | exact (if_pos (by assumption)).symm | exact (if_neg (by assumption)).symm, by rw [htQ]⟩) (fun q hq => absurd hq List.not_mem_nil) dX12_apart_36
  · skip
    refine lv_iload_n hx hb dX12_apart_31 rfl (lv_at hl 1 rfl) ?_
    refine lv_goto (tgt := 36) hx hb dX12_apart_32 (by decide) ?_
    rw [hQ]
    exact W.iret (v := szR ((x / 6) - (y / 6))) hx hb hr (fun tQ htQ hWQ => ⟨szR ((x / 6) - (y / 6)), rfl, by first | exact (if_pos (by assumption)).symm | exact (if_neg (by assumption)).symm, by rw [htQ]⟩) (fun q hq => absurd hq List.not_mem_nil) dX12_apart_36

theorem kc_isHeap_0 : ∀ w ∈ wsX120, w ∈ wsX12_isHeap := fun w h => List.mem_cons_of_mem _ (gin_wsX120 w h)
theorem kc_isHeap_1 : (.fieldLink RX12 9 "MistHeapsModel" "s" "[I" : Cond) ∈ wsX12_isHeap := kc_of 1141 rfl rfl rfl
set_option maxHeartbeats 4000000 in
set_option maxRecDepth 100000 in
theorem c_isHeap (l : Launch) (dC : Nat → ClassId) (dI : Nat → Nat → Nat) (m0 aS aI aB aT aG aO aN aD aY : Nat) (th im ac sp en wg op se dn rn kd nu tv : Int32) (bv : Int64) (cS : ClassId) (fS : Nat → Int32) (n : Nat) (x : Int32) (zn : fS 0 = nI n) (hn : n ≤ 8) : Met l yX12_isHeap wsX12_isHeap ({ frames := 1, cells := 0, slots := 0, locals := 22 } : Room) (va_Pc [.ref m0, .int x] (fun U => va_P (dC, dI) vwCl [(zo14irriiiiiirriirrrrlriiii m0 th aS aI im ac sp en wg op aB aT se dn aG aO aN aD bv aY rn kd nu tv), (zaI aS cS 901 fS)] U.heap ∧ va_K (dC, dI) vwCl [(cS, .int)] U)) (vp_Si (fun r => (r = 1 ∧ ∃ j : Nat, j < n ∧ x = nI j) ∨ (r = 0 ∧ ∀ j : Nat, j < n → x ≠ nI j))) 0 0 (fun _ => False) := by
  refine met_ofQ (cc := cX12_isHeap) (maxL := 2) (ret := (some .boolean)) (by decide) rfl ?_
  intro p e s m args below meth c s₁ Q B hml hv hQ
  obtain ⟨rfl, hP, hK⟩ := hv
  have hx := B.exec
  have hb := B.bytes
  have hr := B.returns
  have hts := atoms_spec (ws := wsX12_isHeap) B.pre
  have hown : s.vm.findClass RX12 = some m.cls := findClass_of_methodNamed B.named
  have hlocks := B.notSynchronized
  obtain ⟨A, hAe⟩ : ∃ A : Nat → Prop, A = fun _ => False := ⟨_, rfl⟩
  rw [← hAe] at hQ
  have hS : va_S A s.heap s.heap [] := va_S.rf
  have hl := lv_entry [.ref m0, .int x] (n := 2) (Nat.le_of_ble_eq_true rfl)
  rw [lg_entry_eq]
  generalize (lg_sl [.ref m0, .int x] ++ List.replicate (2 - (lg_sl [.ref m0, .int x]).length) Slot.unset).toArray = ls at hl ⊢
  generalize hag : ([.ref m0, .int x] : List Value).toArray = args at hts hQ ⊢
  have hl : lv_has ls 2 [(0, .ref m0), (1, .int x)] := hl
  refine lv_iload_n hx hb dX12_isHeap_0 rfl (lv_at hl 1 rfl) ?_
  refine lv_iconst (v := 0) hx hb dX12_isHeap_1 (by decide) ?_
  refine lv_aload_n hx hb dX12_isHeap_2 rfl (lv_at hl 0 rfl) ?_
  refine va_get (D := (dC, dI)) (ci := 14) (v := .ref aS) (C := RX12) (T := TX12) (N := 23) hx hb hts kc_isHeap_0 hown hK hP 0 rfl rfl 1 (by decide) (hts (.fieldLink RX12 9 "MistHeapsModel" "s" "[I") kc_isHeap_1) (fun _ h9 => h9) rfl dX12_isHeap_3 ?_
  refine lv_iconst (v := 0) hx hb dX12_isHeap_6 (by decide) ?_
  refine va_iald hx hb hK hP 1 0 rfl rfl (vp_in_nI (n := 0) (N := 901) (by omega) (by omega)) dX12_isHeap_7 ?_
  refine qi_as (y := nI n) ((show fS (0 : Int32).toNatClampNeg = fS 0 from rfl).trans (zn)) ?_
  refine lv_iconst (v := 1) hx hb dX12_isHeap_8 (by decide) ?_
  refine lv_isub hx hb dX12_isHeap_9 ?_
  refine vp_callSi (va_runS (As := [.int x, .int 0, .int ((nI n) - 1)]) (rest := []) ⟨hx, hb, hml, hown, hts⟩ (c_in l dC dI x 0 (nI n - 1)) (va_cwS 3 hts gX12_isHeap_X12_in rfl rfl rfl hd_yX12_in.2 ⟨Nat.le_of_ble_eq_true rfl, Nat.le_of_ble_eq_true rfl⟩) ⟨fun a U g mk q => ⟨q.1, trivial⟩, fun U hU hW => ⟨rfl, trivial⟩⟩ rfl rfl hl.1 rfl (lv_room (Nat.le_of_ble_eq_true rfl)) dX12_isHeap_10 ⟨Nat.le_of_ble_eq_true rfl, Nat.le_of_ble_eq_true rfl⟩).run (fun r_1 hw_2 => ?_)
  rw [hQ]
  exact W.zret (v := r_1) hx hb hr (by rcases hw_2 with ⟨e, _⟩ | ⟨e, _⟩ <;> rw [e] <;> rfl) (fun tQ htQ hWQ => ⟨r_1, rfl, isheap_of (by omega) hw_2, by rw [htQ]⟩) (fun q hq => absurd hq List.not_mem_nil) dX12_isHeap_13
