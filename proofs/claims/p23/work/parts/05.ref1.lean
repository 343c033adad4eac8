theorem ggX12_isCell_X12_in : GoodIn wsX12_isCell wsX12_in := gga_of 1217 rfl rfl rfl
theorem gX12_isCell_X12_in : GoodIn wsX12_isCell (va_wsS RX12 45 yX12_in wsX12_in) := goodIn_app (ggh_of [1215, 1216, 72] rfl rfl rfl) ggX12_isCell_X12_in
theorem ggX12_columnsOf_X12_in : GoodIn wsX12_columnsOf wsX12_in := gga_of 1217 rfl rfl rfl
theorem gX12_columnsOf_X12_in : GoodIn wsX12_columnsOf (va_wsS RX12 45 yX12_in wsX12_in) := goodIn_app (ggh_of [1215, 1216, 72] rfl rfl rfl) ggX12_columnsOf_X12_in
theorem ggX12_nextTo_X12_rowsOf : GoodIn wsX12_nextTo wsX12_rowsOf := gga_of 1370 rfl rfl rfl
theorem gX12_nextTo_X12_rowsOf : GoodIn wsX12_nextTo (va_wsS RX12 53 yX12_rowsOf wsX12_rowsOf) := goodIn_app (ggh_of [1368, 1369, 72] rfl rfl rfl) ggX12_nextTo_X12_rowsOf
theorem ggX12_nextTo_X12_columnsOf : GoodIn wsX12_nextTo wsX12_columnsOf := gga_of 1376 rfl rfl rfl
theorem gX12_nextTo_X12_columnsOf : GoodIn wsX12_nextTo (va_wsS RX12 56 yX12_columnsOf wsX12_columnsOf) := goodIn_app (ggh_of [1374, 1375, 72] rfl rfl rfl) ggX12_nextTo_X12_columnsOf
theorem ggX12_nextTo_X12_in : GoodIn wsX12_nextTo wsX12_in := gga_of 1217 rfl rfl rfl
theorem gX12_nextTo_X12_in : GoodIn wsX12_nextTo (va_wsS RX12 45 yX12_in wsX12_in) := goodIn_app (ggh_of [1215, 1216, 72] rfl rfl rfl) ggX12_nextTo_X12_in
theorem ggX12_apart_X12_size : GoodIn wsX12_apart wsX12_size := gga_of 1346 rfl rfl rfl
theorem gX12_apart_X12_size : GoodIn wsX12_apart (va_wsS RX12 49 yX12_size wsX12_size) := goodIn_app (ggh_of [1344, 1345, 72] rfl rfl rfl) ggX12_apart_X12_size
theorem ggX12_isHeap_X12_in : GoodIn wsX12_isHeap wsX12_in := gga_of 1217 rfl rfl rfl
theorem gX12_isHeap_X12_in : GoodIn wsX12_isHeap (va_wsS RX12 45 yX12_in wsX12_in) := goodIn_app (ggh_of [1215, 1216, 72] rfl rfl rfl) ggX12_isHeap_X12_in
noncomputable def dk05ref1_cX12_in_0 : List (Nat × Instr × Nat) := [(0, .iload_n 0, 1), (1, .iload_n 1, 1), (2, .if_icmp .lt 12, 3), (14, .iconst 0, 1), (15, .ireturn, 1), (5, .iload_n 0, 1), (6, .iload_n 2, 1), (7, .if_icmp .gt 7, 3), (10, .iconst 1, 1), (11, .goto 4, 3)]
set_option maxRecDepth 100000 in
theorem dk05ref1_cX12_in_0_a : dkA cX12_in dk05ref1_cX12_in_0 = true := by decide +kernel
theorem dX12_in_0 : decode cX12_in 0 = .ok (.iload_n 0, 1) := dkAt dk05ref1_cX12_in_0_a 0 rfl
theorem dX12_in_1 : decode cX12_in 1 = .ok (.iload_n 1, 1) := dkAt dk05ref1_cX12_in_0_a 1 rfl
theorem dX12_in_2 : decode cX12_in 2 = .ok (.if_icmp .lt 12, 3) := dkAt dk05ref1_cX12_in_0_a 2 rfl
theorem dX12_in_14 : decode cX12_in 14 = .ok (.iconst 0, 1) := dkAt dk05ref1_cX12_in_0_a 3 rfl
theorem dX12_in_15 : decode cX12_in 15 = .ok (.ireturn, 1) := dkAt dk05ref1_cX12_in_0_a 4 rfl
theorem dX12_in_5 : decode cX12_in 5 = .ok (.iload_n 0, 1) := dkAt dk05ref1_cX12_in_0_a 5 rfl
theorem dX12_in_6 : decode cX12_in 6 = .ok (.iload_n 2, 1) := dkAt dk05ref1_cX12_in_0_a 6 rfl
theorem dX12_in_7 : decode cX12_in 7 = .ok (.if_icmp .gt 7, 3) := dkAt dk05ref1_cX12_in_0_a 7 rfl
theorem dX12_in_10 : decode cX12_in 10 = .ok (.iconst 1, 1) := dkAt dk05ref1_cX12_in_0_a 8 rfl
theorem dX12_in_11 : decode cX12_in 11 = .ok (.goto 4, 3) := dkAt dk05ref1_cX12_in_0_a 9 rfl
noncomputable def dk05ref1_cX12_size_0 : List (Nat × Instr × Nat) := [(0, .iload_n 0, 1), (1, .ifCond .ge 8, 3), (9, .iload_n 0, 1), (10, .ireturn, 1), (4, .iload_n 0, 1), (5, .ineg, 1), (6, .goto 4, 3)]
set_option maxRecDepth 100000 in
theorem dk05ref1_cX12_size_0_a : dkA cX12_size dk05ref1_cX12_size_0 = true := by decide +kernel
theorem dX12_size_0 : decode cX12_size 0 = .ok (.iload_n 0, 1) := dkAt dk05ref1_cX12_size_0_a 0 rfl
theorem dX12_size_1 : decode cX12_size 1 = .ok (.ifCond .ge 8, 3) := dkAt dk05ref1_cX12_size_0_a 1 rfl
theorem dX12_size_9 : decode cX12_size 9 = .ok (.iload_n 0, 1) := dkAt dk05ref1_cX12_size_0_a 2 rfl
theorem dX12_size_10 : decode cX12_size 10 = .ok (.ireturn, 1) := dkAt dk05ref1_cX12_size_0_a 3 rfl
theorem dX12_size_4 : decode cX12_size 4 = .ok (.iload_n 0, 1) := dkAt dk05ref1_cX12_size_0_a 4 rfl
theorem dX12_size_5 : decode cX12_size 5 = .ok (.ineg, 1) := dkAt dk05ref1_cX12_size_0_a 5 rfl
theorem dX12_size_6 : decode cX12_size 6 = .ok (.goto 4, 3) := dkAt dk05ref1_cX12_size_0_a 6 rfl
noncomputable def dk05ref1_cX12_isCell_0 : List (Nat × Instr × Nat) := [(0, .iload_n 0, 1), (1, .iconst 0, 1), (2, .bipush 35, 2), (4, .invokestatic 45, 3), (7, .ireturn, 1)]
set_option maxRecDepth 100000 in
theorem dk05ref1_cX12_isCell_0_a : dkA cX12_isCell dk05ref1_cX12_isCell_0 = true := by decide +kernel
theorem dX12_isCell_0 : decode cX12_isCell 0 = .ok (.iload_n 0, 1) := dkAt dk05ref1_cX12_isCell_0_a 0 rfl
theorem dX12_isCell_1 : decode cX12_isCell 1 = .ok (.iconst 0, 1) := dkAt dk05ref1_cX12_isCell_0_a 1 rfl
theorem dX12_isCell_2 : decode cX12_isCell 2 = .ok (.bipush 35, 2) := dkAt dk05ref1_cX12_isCell_0_a 2 rfl
theorem dX12_isCell_4 : decode cX12_isCell 4 = .ok (.invokestatic 45, 3) := dkAt dk05ref1_cX12_isCell_0_a 3 rfl
theorem dX12_isCell_7 : decode cX12_isCell 7 = .ok (.ireturn, 1) := dkAt dk05ref1_cX12_isCell_0_a 4 rfl
noncomputable def dk05ref1_cX12_rowsOf_0 : List (Nat × Instr × Nat) := [(0, .iload_n 0, 1), (1, .bipush 7, 2), (3, .if_icmp .eq 8, 3), (11, .iconst (-1), 1), (12, .goto 19, 3), (31, .ireturn, 1), (6, .iload_n 0, 1), (7, .iconst 2, 1), (8, .if_icmp .ge 7, 3), (15, .iload_n 0, 1), (16, .iconst 2, 1), (17, .if_icmp .le 13, 3), (30, .iconst 0, 1), (20, .iload_n 0, 1), (21, .bipush 6, 2), (23, .if_icmp .ge 7, 3), (26, .iconst 1, 1), (27, .goto 4, 3)]
set_option maxRecDepth 100000 in
theorem dk05ref1_cX12_rowsOf_0_a : dkA cX12_rowsOf dk05ref1_cX12_rowsOf_0 = true := by decide +kernel
theorem dX12_rowsOf_0 : decode cX12_rowsOf 0 = .ok (.iload_n 0, 1) := dkAt dk05ref1_cX12_rowsOf_0_a 0 rfl
theorem dX12_rowsOf_1 : decode cX12_rowsOf 1 = .ok (.bipush 7, 2) := dkAt dk05ref1_cX12_rowsOf_0_a 1 rfl
theorem dX12_rowsOf_3 : decode cX12_rowsOf 3 = .ok (.if_icmp .eq 8, 3) := dkAt dk05ref1_cX12_rowsOf_0_a 2 rfl
theorem dX12_rowsOf_11 : decode cX12_rowsOf 11 = .ok (.iconst (-1), 1) := dkAt dk05ref1_cX12_rowsOf_0_a 3 rfl
theorem dX12_rowsOf_12 : decode cX12_rowsOf 12 = .ok (.goto 19, 3) := dkAt dk05ref1_cX12_rowsOf_0_a 4 rfl
theorem dX12_rowsOf_31 : decode cX12_rowsOf 31 = .ok (.ireturn, 1) := dkAt dk05ref1_cX12_rowsOf_0_a 5 rfl
theorem dX12_rowsOf_6 : decode cX12_rowsOf 6 = .ok (.iload_n 0, 1) := dkAt dk05ref1_cX12_rowsOf_0_a 6 rfl
theorem dX12_rowsOf_7 : decode cX12_rowsOf 7 = .ok (.iconst 2, 1) := dkAt dk05ref1_cX12_rowsOf_0_a 7 rfl
theorem dX12_rowsOf_8 : decode cX12_rowsOf 8 = .ok (.if_icmp .ge 7, 3) := dkAt dk05ref1_cX12_rowsOf_0_a 8 rfl
theorem dX12_rowsOf_15 : decode cX12_rowsOf 15 = .ok (.iload_n 0, 1) := dkAt dk05ref1_cX12_rowsOf_0_a 9 rfl
theorem dX12_rowsOf_16 : decode cX12_rowsOf 16 = .ok (.iconst 2, 1) := dkAt dk05ref1_cX12_rowsOf_0_a 10 rfl
theorem dX12_rowsOf_17 : decode cX12_rowsOf 17 = .ok (.if_icmp .le 13, 3) := dkAt dk05ref1_cX12_rowsOf_0_a 11 rfl
theorem dX12_rowsOf_30 : decode cX12_rowsOf 30 = .ok (.iconst 0, 1) := dkAt dk05ref1_cX12_rowsOf_0_a 12 rfl
theorem dX12_rowsOf_20 : decode cX12_rowsOf 20 = .ok (.iload_n 0, 1) := dkAt dk05ref1_cX12_rowsOf_0_a 13 rfl
theorem dX12_rowsOf_21 : decode cX12_rowsOf 21 = .ok (.bipush 6, 2) := dkAt dk05ref1_cX12_rowsOf_0_a 14 rfl
theorem dX12_rowsOf_23 : decode cX12_rowsOf 23 = .ok (.if_icmp .ge 7, 3) := dkAt dk05ref1_cX12_rowsOf_0_a 15 rfl
theorem dX12_rowsOf_26 : decode cX12_rowsOf 26 = .ok (.iconst 1, 1) := dkAt dk05ref1_cX12_rowsOf_0_a 16 rfl
theorem dX12_rowsOf_27 : decode cX12_rowsOf 27 = .ok (.goto 4, 3) := dkAt dk05ref1_cX12_rowsOf_0_a 17 rfl
noncomputable def dk05ref1_cX12_columnsOf_0 : List (Nat × Instr × Nat) := [(0, .iload_n 0, 1), (1, .iconst 1, 1), (2, .iconst 3, 1), (3, .invokestatic 45, 3), (6, .ifCond .eq 7, 3), (9, .iconst 1, 1), (10, .goto 13, 3), (23, .ireturn, 1), (13, .iload_n 0, 1), (14, .iconst 4, 1), (15, .if_icmp .le 7, 3), (22, .iconst 0, 1), (18, .iconst (-1), 1), (19, .goto 4, 3)]
set_option maxRecDepth 100000 in
theorem dk05ref1_cX12_columnsOf_0_a : dkA cX12_columnsOf dk05ref1_cX12_columnsOf_0 = true := by decide +kernel
theorem dX12_columnsOf_0 : decode cX12_columnsOf 0 = .ok (.iload_n 0, 1) := dkAt dk05ref1_cX12_columnsOf_0_a 0 rfl
theorem dX12_columnsOf_1 : decode cX12_columnsOf 1 = .ok (.iconst 1, 1) := dkAt dk05ref1_cX12_columnsOf_0_a 1 rfl
theorem dX12_columnsOf_2 : decode cX12_columnsOf 2 = .ok (.iconst 3, 1) := dkAt dk05ref1_cX12_columnsOf_0_a 2 rfl
theorem dX12_columnsOf_3 : decode cX12_columnsOf 3 = .ok (.invokestatic 45, 3) := dkAt dk05ref1_cX12_columnsOf_0_a 3 rfl
theorem dX12_columnsOf_6 : decode cX12_columnsOf 6 = .ok (.ifCond .eq 7, 3) := dkAt dk05ref1_cX12_columnsOf_0_a 4 rfl
theorem dX12_columnsOf_9 : decode cX12_columnsOf 9 = .ok (.iconst 1, 1) := dkAt dk05ref1_cX12_columnsOf_0_a 5 rfl
theorem dX12_columnsOf_10 : decode cX12_columnsOf 10 = .ok (.goto 13, 3) := dkAt dk05ref1_cX12_columnsOf_0_a 6 rfl
theorem dX12_columnsOf_23 : decode cX12_columnsOf 23 = .ok (.ireturn, 1) := dkAt dk05ref1_cX12_columnsOf_0_a 7 rfl
theorem dX12_columnsOf_13 : decode cX12_columnsOf 13 = .ok (.iload_n 0, 1) := dkAt dk05ref1_cX12_columnsOf_0_a 8 rfl
theorem dX12_columnsOf_14 : decode cX12_columnsOf 14 = .ok (.iconst 4, 1) := dkAt dk05ref1_cX12_columnsOf_0_a 9 rfl
theorem dX12_columnsOf_15 : decode cX12_columnsOf 15 = .ok (.if_icmp .le 7, 3) := dkAt dk05ref1_cX12_columnsOf_0_a 10 rfl
theorem dX12_columnsOf_22 : decode cX12_columnsOf 22 = .ok (.iconst 0, 1) := dkAt dk05ref1_cX12_columnsOf_0_a 11 rfl
theorem dX12_columnsOf_18 : decode cX12_columnsOf 18 = .ok (.iconst (-1), 1) := dkAt dk05ref1_cX12_columnsOf_0_a 12 rfl
theorem dX12_columnsOf_19 : decode cX12_columnsOf 19 = .ok (.goto 4, 3) := dkAt dk05ref1_cX12_columnsOf_0_a 13 rfl
noncomputable def dk05ref1_cX12_nextTo_0 : List (Nat × Instr × Nat) := [(0, .iload_n 0, 1), (1, .bipush 6, 2), (3, .idiv, 1), (4, .iload_n 1, 1), (5, .invokestatic 53, 3), (8, .iadd, 1), (9, .istore_n 2, 1), (10, .iload_n 0, 1), (11, .bipush 6, 2), (13, .irem, 1), (14, .iload_n 1, 1), (15, .invokestatic 56, 3), (18, .iadd, 1), (19, .istore_n 3, 1), (20, .iload_n 2, 1), (21, .iconst 0, 1), (22, .iconst 5, 1), (23, .invokestatic 45, 3), (26, .ifCond .eq 21, 3), (29, .iload_n 3, 1), (30, .iconst 0, 1), (31, .iconst 5, 1), (32, .invokestatic 45, 3), (35, .ifCond .eq 12, 3), (38, .bipush 6, 2), (40, .iload_n 2, 1), (41, .imul, 1), (42, .iload_n 3, 1), (43, .iadd, 1), (44, .goto 4, 3), (48, .ireturn, 1), (47, .iload_n 0, 1)]
set_option maxRecDepth 100000 in
theorem dk05ref1_cX12_nextTo_0_a : dkA cX12_nextTo dk05ref1_cX12_nextTo_0 = true := by decide +kernel
theorem dX12_nextTo_0 : decode cX12_nextTo 0 = .ok (.iload_n 0, 1) := dkAt dk05ref1_cX12_nextTo_0_a 0 rfl
theorem dX12_nextTo_1 : decode cX12_nextTo 1 = .ok (.bipush 6, 2) := dkAt dk05ref1_cX12_nextTo_0_a 1 rfl
theorem dX12_nextTo_3 : decode cX12_nextTo 3 = .ok (.idiv, 1) := dkAt dk05ref1_cX12_nextTo_0_a 2 rfl
theorem dX12_nextTo_4 : decode cX12_nextTo 4 = .ok (.iload_n 1, 1) := dkAt dk05ref1_cX12_nextTo_0_a 3 rfl
theorem dX12_nextTo_5 : decode cX12_nextTo 5 = .ok (.invokestatic 53, 3) := dkAt dk05ref1_cX12_nextTo_0_a 4 rfl
theorem dX12_nextTo_8 : decode cX12_nextTo 8 = .ok (.iadd, 1) := dkAt dk05ref1_cX12_nextTo_0_a 5 rfl
theorem dX12_nextTo_9 : decode cX12_nextTo 9 = .ok (.istore_n 2, 1) := dkAt dk05ref1_cX12_nextTo_0_a 6 rfl
theorem dX12_nextTo_10 : decode cX12_nextTo 10 = .ok (.iload_n 0, 1) := dkAt dk05ref1_cX12_nextTo_0_a 7 rfl
theorem dX12_nextTo_11 : decode cX12_nextTo 11 = .ok (.bipush 6, 2) := dkAt dk05ref1_cX12_nextTo_0_a 8 rfl
theorem dX12_nextTo_13 : decode cX12_nextTo 13 = .ok (.irem, 1) := dkAt dk05ref1_cX12_nextTo_0_a 9 rfl
theorem dX12_nextTo_14 : decode cX12_nextTo 14 = .ok (.iload_n 1, 1) := dkAt dk05ref1_cX12_nextTo_0_a 10 rfl
theorem dX12_nextTo_15 : decode cX12_nextTo 15 = .ok (.invokestatic 56, 3) := dkAt dk05ref1_cX12_nextTo_0_a 11 rfl
theorem dX12_nextTo_18 : decode cX12_nextTo 18 = .ok (.iadd, 1) := dkAt dk05ref1_cX12_nextTo_0_a 12 rfl
theorem dX12_nextTo_19 : decode cX12_nextTo 19 = .ok (.istore_n 3, 1) := dkAt dk05ref1_cX12_nextTo_0_a 13 rfl
theorem dX12_nextTo_20 : decode cX12_nextTo 20 = .ok (.iload_n 2, 1) := dkAt dk05ref1_cX12_nextTo_0_a 14 rfl
theorem dX12_nextTo_21 : decode cX12_nextTo 21 = .ok (.iconst 0, 1) := dkAt dk05ref1_cX12_nextTo_0_a 15 rfl
theorem dX12_nextTo_22 : decode cX12_nextTo 22 = .ok (.iconst 5, 1) := dkAt dk05ref1_cX12_nextTo_0_a 16 rfl
theorem dX12_nextTo_23 : decode cX12_nextTo 23 = .ok (.invokestatic 45, 3) := dkAt dk05ref1_cX12_nextTo_0_a 17 rfl
theorem dX12_nextTo_26 : decode cX12_nextTo 26 = .ok (.ifCond .eq 21, 3) := dkAt dk05ref1_cX12_nextTo_0_a 18 rfl
theorem dX12_nextTo_29 : decode cX12_nextTo 29 = .ok (.iload_n 3, 1) := dkAt dk05ref1_cX12_nextTo_0_a 19 rfl
theorem dX12_nextTo_30 : decode cX12_nextTo 30 = .ok (.iconst 0, 1) := dkAt dk05ref1_cX12_nextTo_0_a 20 rfl
theorem dX12_nextTo_31 : decode cX12_nextTo 31 = .ok (.iconst 5, 1) := dkAt dk05ref1_cX12_nextTo_0_a 21 rfl
theorem dX12_nextTo_32 : decode cX12_nextTo 32 = .ok (.invokestatic 45, 3) := dkAt dk05ref1_cX12_nextTo_0_a 22 rfl
theorem dX12_nextTo_35 : decode cX12_nextTo 35 = .ok (.ifCond .eq 12, 3) := dkAt dk05ref1_cX12_nextTo_0_a 23 rfl
theorem dX12_nextTo_38 : decode cX12_nextTo 38 = .ok (.bipush 6, 2) := dkAt dk05ref1_cX12_nextTo_0_a 24 rfl
theorem dX12_nextTo_40 : decode cX12_nextTo 40 = .ok (.iload_n 2, 1) := dkAt dk05ref1_cX12_nextTo_0_a 25 rfl
theorem dX12_nextTo_41 : decode cX12_nextTo 41 = .ok (.imul, 1) := dkAt dk05ref1_cX12_nextTo_0_a 26 rfl
theorem dX12_nextTo_42 : decode cX12_nextTo 42 = .ok (.iload_n 3, 1) := dkAt dk05ref1_cX12_nextTo_0_a 27 rfl
theorem dX12_nextTo_43 : decode cX12_nextTo 43 = .ok (.iadd, 1) := dkAt dk05ref1_cX12_nextTo_0_a 28 rfl
theorem dX12_nextTo_44 : decode cX12_nextTo 44 = .ok (.goto 4, 3) := dkAt dk05ref1_cX12_nextTo_0_a 29 rfl
theorem dX12_nextTo_48 : decode cX12_nextTo 48 = .ok (.ireturn, 1) := dkAt dk05ref1_cX12_nextTo_0_a 30 rfl
theorem dX12_nextTo_47 : decode cX12_nextTo 47 = .ok (.iload_n 0, 1) := dkAt dk05ref1_cX12_nextTo_0_a 31 rfl
noncomputable def dk05ref1_cX12_isThatSide_0 : List (Nat × Instr × Nat) := [(0, .iload_n 0, 1), (1, .ifCond .eq 21, 3), (22, .iconst 1, 1), (23, .goto 4, 3), (27, .ireturn, 1), (4, .iload_n 0, 1), (5, .ifCond .ge 8, 3), (13, .iload_n 0, 1), (14, .ifCond .le 12, 3), (26, .iconst 0, 1), (17, .iload_n 2, 1), (18, .iload_n 1, 1), (19, .if_icmp .le 7, 3), (8, .iload_n 2, 1), (9, .iload_n 1, 1), (10, .if_icmp .lt 12, 3)]
set_option maxRecDepth 100000 in
theorem dk05ref1_cX12_isThatSide_0_a : dkA cX12_isThatSide dk05ref1_cX12_isThatSide_0 = true := by decide +kernel
theorem dX12_isThatSide_0 : decode cX12_isThatSide 0 = .ok (.iload_n 0, 1) := dkAt dk05ref1_cX12_isThatSide_0_a 0 rfl
theorem dX12_isThatSide_1 : decode cX12_isThatSide 1 = .ok (.ifCond .eq 21, 3) := dkAt dk05ref1_cX12_isThatSide_0_a 1 rfl
theorem dX12_isThatSide_22 : decode cX12_isThatSide 22 = .ok (.iconst 1, 1) := dkAt dk05ref1_cX12_isThatSide_0_a 2 rfl
theorem dX12_isThatSide_23 : decode cX12_isThatSide 23 = .ok (.goto 4, 3) := dkAt dk05ref1_cX12_isThatSide_0_a 3 rfl
theorem dX12_isThatSide_27 : decode cX12_isThatSide 27 = .ok (.ireturn, 1) := dkAt dk05ref1_cX12_isThatSide_0_a 4 rfl
theorem dX12_isThatSide_4 : decode cX12_isThatSide 4 = .ok (.iload_n 0, 1) := dkAt dk05ref1_cX12_isThatSide_0_a 5 rfl
theorem dX12_isThatSide_5 : decode cX12_isThatSide 5 = .ok (.ifCond .ge 8, 3) := dkAt dk05ref1_cX12_isThatSide_0_a 6 rfl
theorem dX12_isThatSide_13 : decode cX12_isThatSide 13 = .ok (.iload_n 0, 1) := dkAt dk05ref1_cX12_isThatSide_0_a 7 rfl
theorem dX12_isThatSide_14 : decode cX12_isThatSide 14 = .ok (.ifCond .le 12, 3) := dkAt dk05ref1_cX12_isThatSide_0_a 8 rfl
theorem dX12_isThatSide_26 : decode cX12_isThatSide 26 = .ok (.iconst 0, 1) := dkAt dk05ref1_cX12_isThatSide_0_a 9 rfl
theorem dX12_isThatSide_17 : decode cX12_isThatSide 17 = .ok (.iload_n 2, 1) := dkAt dk05ref1_cX12_isThatSide_0_a 10 rfl
theorem dX12_isThatSide_18 : decode cX12_isThatSide 18 = .ok (.iload_n 1, 1) := dkAt dk05ref1_cX12_isThatSide_0_a 11 rfl
theorem dX12_isThatSide_19 : decode cX12_isThatSide 19 = .ok (.if_icmp .le 7, 3) := dkAt dk05ref1_cX12_isThatSide_0_a 12 rfl
theorem dX12_isThatSide_8 : decode cX12_isThatSide 8 = .ok (.iload_n 2, 1) := dkAt dk05ref1_cX12_isThatSide_0_a 13 rfl
theorem dX12_isThatSide_9 : decode cX12_isThatSide 9 = .ok (.iload_n 1, 1) := dkAt dk05ref1_cX12_isThatSide_0_a 14 rfl
theorem dX12_isThatSide_10 : decode cX12_isThatSide 10 = .ok (.if_icmp .lt 12, 3) := dkAt dk05ref1_cX12_isThatSide_0_a 15 rfl
noncomputable def dk05ref1_cX12_apart_0 : List (Nat × Instr × Nat) := [(0, .iload_n 0, 1), (1, .bipush 6, 2), (3, .idiv, 1), (4, .iload_n 1, 1), (5, .bipush 6, 2), (7, .idiv, 1), (8, .isub, 1), (9, .invokestatic 49, 3), (12, .istore_n 2, 1), (13, .iload_n 0, 1), (14, .bipush 6, 2), (16, .irem, 1), (17, .iload_n 1, 1), (18, .bipush 6, 2), (20, .irem, 1), (21, .isub, 1), (22, .invokestatic 49, 3), (25, .istore_n 3, 1), (26, .iload_n 2, 1), (27, .iload_n 3, 1), (28, .if_icmp .le 7, 3), (35, .iload_n 3, 1), (36, .ireturn, 1), (31, .iload_n 2, 1), (32, .goto 4, 3)]
set_option maxRecDepth 100000 in
theorem dk05ref1_cX12_apart_0_a : dkA cX12_apart dk05ref1_cX12_apart_0 = true := by decide +kernel
theorem dX12_apart_0 : decode cX12_apart 0 = .ok (.iload_n 0, 1) := dkAt dk05ref1_cX12_apart_0_a 0 rfl
theorem dX12_apart_1 : decode cX12_apart 1 = .ok (.bipush 6, 2) := dkAt dk05ref1_cX12_apart_0_a 1 rfl
theorem dX12_apart_3 : decode cX12_apart 3 = .ok (.idiv, 1) := dkAt dk05ref1_cX12_apart_0_a 2 rfl
theorem dX12_apart_4 : decode cX12_apart 4 = .ok (.iload_n 1, 1) := dkAt dk05ref1_cX12_apart_0_a 3 rfl
theorem dX12_apart_5 : decode cX12_apart 5 = .ok (.bipush 6, 2) := dkAt dk05ref1_cX12_apart_0_a 4 rfl
theorem dX12_apart_7 : decode cX12_apart 7 = .ok (.idiv, 1) := dkAt dk05ref1_cX12_apart_0_a 5 rfl
theorem dX12_apart_8 : decode cX12_apart 8 = .ok (.isub, 1) := dkAt dk05ref1_cX12_apart_0_a 6 rfl
theorem dX12_apart_9 : decode cX12_apart 9 = .ok (.invokestatic 49, 3) := dkAt dk05ref1_cX12_apart_0_a 7 rfl
theorem dX12_apart_12 : decode cX12_apart 12 = .ok (.istore_n 2, 1) := dkAt dk05ref1_cX12_apart_0_a 8 rfl
theorem dX12_apart_13 : decode cX12_apart 13 = .ok (.iload_n 0, 1) := dkAt dk05ref1_cX12_apart_0_a 9 rfl
theorem dX12_apart_14 : decode cX12_apart 14 = .ok (.bipush 6, 2) := dkAt dk05ref1_cX12_apart_0_a 10 rfl
theorem dX12_apart_16 : decode cX12_apart 16 = .ok (.irem, 1) := dkAt dk05ref1_cX12_apart_0_a 11 rfl
theorem dX12_apart_17 : decode cX12_apart 17 = .ok (.iload_n 1, 1) := dkAt dk05ref1_cX12_apart_0_a 12 rfl
theorem dX12_apart_18 : decode cX12_apart 18 = .ok (.bipush 6, 2) := dkAt dk05ref1_cX12_apart_0_a 13 rfl
theorem dX12_apart_20 : decode cX12_apart 20 = .ok (.irem, 1) := dkAt dk05ref1_cX12_apart_0_a 14 rfl
theorem dX12_apart_21 : decode cX12_apart 21 = .ok (.isub, 1) := dkAt dk05ref1_cX12_apart_0_a 15 rfl
theorem dX12_apart_22 : decode cX12_apart 22 = .ok (.invokestatic 49, 3) := dkAt dk05ref1_cX12_apart_0_a 16 rfl
theorem dX12_apart_25 : decode cX12_apart 25 = .ok (.istore_n 3, 1) := dkAt dk05ref1_cX12_apart_0_a 17 rfl
theorem dX12_apart_26 : decode cX12_apart 26 = .ok (.iload_n 2, 1) := dkAt dk05ref1_cX12_apart_0_a 18 rfl
theorem dX12_apart_27 : decode cX12_apart 27 = .ok (.iload_n 3, 1) := dkAt dk05ref1_cX12_apart_0_a 19 rfl
theorem dX12_apart_28 : decode cX12_apart 28 = .ok (.if_icmp .le 7, 3) := dkAt dk05ref1_cX12_apart_0_a 20 rfl
theorem dX12_apart_35 : decode cX12_apart 35 = .ok (.iload_n 3, 1) := dkAt dk05ref1_cX12_apart_0_a 21 rfl
theorem dX12_apart_36 : decode cX12_apart 36 = .ok (.ireturn, 1) := dkAt dk05ref1_cX12_apart_0_a 22 rfl
theorem dX12_apart_31 : decode cX12_apart 31 = .ok (.iload_n 2, 1) := dkAt dk05ref1_cX12_apart_0_a 23 rfl
theorem dX12_apart_32 : decode cX12_apart 32 = .ok (.goto 4, 3) := dkAt dk05ref1_cX12_apart_0_a 24 rfl
noncomputable def dk05ref1_cX12_isHeap_0 : List (Nat × Instr × Nat) := [(0, .iload_n 1, 1), (1, .iconst 0, 1), (2, .aload_n 0, 1), (3, .getfield 9, 3), (6, .iconst 0, 1), (7, .iaload, 1), (8, .iconst 1, 1), (9, .isub, 1), (10, .invokestatic 45, 3), (13, .ireturn, 1)]
set_option maxRecDepth 100000 in
theorem dk05ref1_cX12_isHeap_0_a : dkA cX12_isHeap dk05ref1_cX12_isHeap_0 = true := by decide +kernel
theorem dX12_isHeap_0 : decode cX12_isHeap 0 = .ok (.iload_n 1, 1) := dkAt dk05ref1_cX12_isHeap_0_a 0 rfl
theorem dX12_isHeap_1 : decode cX12_isHeap 1 = .ok (.iconst 0, 1) := dkAt dk05ref1_cX12_isHeap_0_a 1 rfl
theorem dX12_isHeap_2 : decode cX12_isHeap 2 = .ok (.aload_n 0, 1) := dkAt dk05ref1_cX12_isHeap_0_a 2 rfl
theorem dX12_isHeap_3 : decode cX12_isHeap 3 = .ok (.getfield 9, 3) := dkAt dk05ref1_cX12_isHeap_0_a 3 rfl
theorem dX12_isHeap_6 : decode cX12_isHeap 6 = .ok (.iconst 0, 1) := dkAt dk05ref1_cX12_isHeap_0_a 4 rfl
theorem dX12_isHeap_7 : decode cX12_isHeap 7 = .ok (.iaload, 1) := dkAt dk05ref1_cX12_isHeap_0_a 5 rfl
theorem dX12_isHeap_8 : decode cX12_isHeap 8 = .ok (.iconst 1, 1) := dkAt dk05ref1_cX12_isHeap_0_a 6 rfl
theorem dX12_isHeap_9 : decode cX12_isHeap 9 = .ok (.isub, 1) := dkAt dk05ref1_cX12_isHeap_0_a 7 rfl
theorem dX12_isHeap_10 : decode cX12_isHeap 10 = .ok (.invokestatic 45, 3) := dkAt dk05ref1_cX12_isHeap_0_a 8 rfl
theorem dX12_isHeap_13 : decode cX12_isHeap 13 = .ok (.ireturn, 1) := dkAt dk05ref1_cX12_isHeap_0_a 9 rfl
/-! the reference at every state: what its numbers keep to -/
noncomputable def stepd (x : Int32) (d : Nat) : Option Nat := if 0 ≤ x then (if x - x / 8 * 8 < 6 ∧ d < 60 then some (d + 1) else none) else if x = -1 then (if 1 ≤ d then some d else none) else if -10 < x then (if 2 ≤ d then some (d - 1) else none) else some 0
noncomputable def sdep (g : Nat → Int32) : Nat → Option Nat
  | 0 => some 0
  | i + 1 => match sdep g i with
    | none => none
    | some d => stepd (g i) d
noncomputable def okP (f : Nat → Int32) (h : Nat) : Prop := ∃ k : Nat, k ≤ 140 ∧ f (196 + h) = nI k ∧ sdep (fun i => f (201 + 140 * h + i)) k ≠ none
noncomputable def hold (f : Nat → Int32) : Prop := f 5 = -1 ∨ ∃ h : Nat, h < 5 ∧ f 5 = nI h ∧ okP f h
theorem sdep_le {g : Nat → Int32} {k : Nat} (h : sdep g k ≠ none) : ∀ i, i ≤ k → sdep g i ≠ none := by
  induction k with
  | zero => intro i hi; rw [Nat.le_zero.mp hi]; exact h
  | succ k ih =>
    intro i hi
    have h2 : sdep g k ≠ none := fun e => h (by simp only [sdep, e])
    rcases Nat.lt_or_ge i (k + 1) with q | q
    · exact ih h2 i (by omega)
    · rw [show i = k + 1 by omega]; exact h
theorem sdep_step {g : Nat → Int32} {k i d : Nat} (h : sdep g k ≠ none) (hi : i < k) (hd : sdep g i = some d) : ∃ d' : Nat, stepd (g i) d = some d' ∧ sdep g (i + 1) = some d' := by
  have h1 := sdep_le h (i + 1) (by omega)
  have e : sdep g (i + 1) = stepd (g i) d := by simp only [sdep, hd]
  rcases hq : stepd (g i) d with _ | d'
  · exact absurd (e.trans hq) h1
  · exact ⟨d', rfl, e.trans hq⟩
theorem stepd_t {x : Int32} {d d' : Nat} (h : stepd x d = some d') (hx : ¬ x < 0) : d' = d + 1 ∧ d < 60 ∧ ∃ j : Nat, j < 6 ∧ x - x / 8 * 8 = nI j := by
  have hx' : 0 ≤ x := Int32.not_lt.mp hx
  rw [stepd, if_pos hx'] at h
  by_cases q : x - x / 8 * 8 < 6 ∧ d < 60
  · rw [if_pos q] at h
    refine ⟨(Option.some.inj h).symm, q.2, ?_⟩
    obtain ⟨j, hj, rfl⟩ := nI_of hx
    rw [show (8 : Int32) = nI 8 from rfl, pk_rem hj (by omega) (by omega)] at q ⊢
    refine ⟨j % 8, ?_, rfl⟩
    exact (nI_ltI (b := 6) (by omega) (by omega)).mp q.1
  · rw [if_neg q] at h; exact absurd h (by simp)
theorem stepd_n {d d' : Nat} (h : stepd (-1) d = some d') : d' = d ∧ 1 ≤ d := by
  rw [stepd, if_neg (by decide), if_pos rfl] at h
  by_cases q : 1 ≤ d
  · rw [if_pos q] at h; exact ⟨(Option.some.inj h).symm, q⟩
  · rw [if_neg q] at h; exact absurd h (by simp)
theorem stepd_b {x : Int32} {d d' : Nat} (h : stepd x d = some d') (h0 : x < 0) (h1 : ¬ x = -1) (h2 : ¬ x ≤ -10) : d' = d - 1 ∧ 2 ≤ d := by
  rw [stepd, if_neg (Int32.not_le.mpr h0), if_neg h1, if_pos (Int32.not_le.mp h2)] at h
  by_cases q : 2 ≤ d
  · rw [if_pos q] at h; exact ⟨(Option.some.inj h).symm, q⟩
  · rw [if_neg q] at h; exact absurd h (by simp)
theorem stepd_c {x : Int32} {d d' : Nat} (h : stepd x d = some d') (h0 : x < 0) (h1 : ¬ x = -1) (h2 : x ≤ -10) : d' = 0 := by
  rw [stepd, if_neg (Int32.not_le.mpr h0), if_neg h1, if_neg (Int32.not_lt.mpr h2)] at h
  exact (Option.some.inj h).symm
theorem sdep_cong {f g : Nat → Int32} {k : Nat} (h : ∀ i, i < k → g i = f i) : sdep g k = sdep f k := by
  induction k with
  | zero => rfl
  | succ k ih => simp only [sdep, ih (fun i hi => h i (by omega)), h k (by omega)]
theorem hold_of {f g : Nat → Int32} (h : hold f) (he : ∀ i, i < 901 → (i = 5 ∨ 191 ≤ i) → g i = f i) : hold g := by
  rcases h with h | ⟨k, hk, h, n, hn, h2, h3⟩
  · exact Or.inl ((he 5 (by omega) (Or.inl rfl)).trans h)
  · refine Or.inr ⟨k, hk, (he 5 (by omega) (Or.inl rfl)).trans h, n, hn, (he _ (by omega) (Or.inr (by omega))).trans h2, ?_⟩
    rw [sdep_cong (f := fun i => f (201 + 140 * k + i)) (fun i hi => he _ (by omega) (Or.inr (by omega)))]; exact h3
theorem rg64 (x : Int64) : -(2 ^ 63 : Int) ≤ x.toInt ∧ x.toInt < (2 ^ 63 : Int) := ⟨Int64.le_toInt x, Int64.toInt_lt x⟩
theorem lrem_lt {u v : Int64} (hv : ¬ v = 0) : (u - u / v * v).toInt.natAbs < v.toInt.natAbs := by
  have hV : v.toInt ≠ 0 := fun e => hv (Int64.toInt_inj.mp (e.trans rfl))
  have e1 : (u - u / v * v).toInt = (u.toInt - u.toInt.tdiv v.toInt * v.toInt).bmod (2 ^ 64) := by
    rw [Int64.toInt_sub, Int64.toInt_mul, Int64.toInt_div, Int.bmod_mul_bmod, Int.sub_bmod_bmod]
  have e2 : u.toInt - u.toInt.tdiv v.toInt * v.toInt = u.toInt.tmod v.toInt := by
    have := Int.tmod_add_mul_tdiv u.toInt v.toInt
    rw [Int.mul_comm] at this
    omega
  have h3 : (u.toInt.tmod v.toInt).natAbs < v.toInt.natAbs := by
    rw [Int.natAbs_tmod]; exact Nat.mod_lt _ (Int.natAbs_pos.mpr hV)
  have h4 := rg64 v
  rw [e1, e2, Int.bmod_eq_of_le (by omega) (by omega)]
  exact h3
theorem nI_nm1 {n : Nat} (h : n < 2 ^ 31) : ¬ nI n = -1 := fun e => absurd (nI_pos' h) (by rw [e]; decide)
theorem nI_dec {n : Nat} (h : 1 ≤ n) : nI n + (-1) = nI (n - 1) := by
  obtain ⟨m, rfl⟩ : ∃ m, n = m + 1 := ⟨n - 1, by omega⟩
  exact pk_m1 m
theorem rc_of2 {a b : Nat} {x y : Int32} (ha : a ≤ 5) (hb : b ≤ 5) (ex : x = nI a) (ey : y = nI b) : ∃ k : Nat, k < 36 ∧ 6 * x + y = nI k := by
  subst ex ey
  refine ⟨6 * a + b, by omega, ?_⟩
  have e := pk_mul 6 a
  have e2 := nI_add (6 * a) b
  rw [← e2, ← e]
  rfl
theorem isheap_of {r h : Int32} {n : Nat} (hn : n ≤ 100) (q : (r = 1 ∧ ¬ h < 0 ∧ ¬ nI n - 1 < h) ∨ (r = 0 ∧ (h < 0 ∨ nI n - 1 < h))) : (r = 1 ∧ ∃ j : Nat, j < n ∧ h = nI j) ∨ (r = 0 ∧ ∀ j : Nat, j < n → h ≠ nI j) := by
  rcases Nat.eq_zero_or_pos n with e | e
  · subst e
    rcases q with ⟨q1, q2, q3⟩ | ⟨q1, q2⟩
    · exfalso
      have h3 : h ≤ nI 0 - 1 := Int32.not_lt.mp q3
      have h2 : (0 : Int32) ≤ h := Int32.not_lt.mp q2
      exact absurd (Int32.le_trans h2 h3) (by decide)
    · exact Or.inr ⟨q1, fun j hj => absurd hj (Nat.not_lt_zero j)⟩
  · have e1 : nI n - 1 = nI (n - 1) := pk_sub (a := n) (b := 1) e
    rw [e1] at q
    rcases q with ⟨q1, q2, q3⟩ | ⟨q1, q2⟩
    · obtain ⟨j, hj, e2⟩ := nI_of2 (n := n - 1) (nI_toInt (by omega)) q2 (Int32.not_lt.mp q3)
      exact Or.inl ⟨q1, j, by omega, e2⟩
    · refine Or.inr ⟨q1, fun j hj e2 => ?_⟩
      subst e2
      rcases q2 with q2 | q2
      · exact absurd q2 (nI_pos (by omega))
      · exact absurd q2 (nI_nlt (by omega) (by omega))

set_option maxHeartbeats 4000000 in
set_option maxRecDepth 100000 in
theorem c_in (l : Launch) (dC : Nat → ClassId) (dI : Nat → Nat → Nat) (v lo hi : Int32) : Met l yX12_in wsX12_in ({ frames := 0, cells := 0, slots := 0, locals := 0 } : Room) (va_Pc [.int v, .int lo, .int hi] (fun U => True)) (vp_Si (fun r => (r = 1 ∧ ¬ v < lo ∧ ¬ hi < v) ∨ (r = 0 ∧ (v < lo ∨ hi < v)))) 0 0 (fun _ => False) := by
  refine met_ofQ (cc := cX12_in) (maxL := 3) (ret := (some .boolean)) (by decide) rfl ?_
  intro p e s m args below meth c s₁ Q B hml hv hQ
  obtain ⟨rfl, -⟩ := hv
  have hx := B.exec
  have hb := B.bytes
  have hr := B.returns
  have hts := atoms_spec (ws := wsX12_in) B.pre
  have hown : s.vm.findClass RX12 = some m.cls := findClass_of_methodNamed B.named
  have hlocks := B.notSynchronized
  obtain ⟨A, hAe⟩ : ∃ A : Nat → Prop, A = fun _ => False := ⟨_, rfl⟩
  rw [← hAe] at hQ
  have hS : va_S A s.heap s.heap [] := va_S.rf
  have hl := lv_entry [.int v, .int lo, .int hi] (n := 3) (Nat.le_of_ble_eq_true rfl)
  rw [lg_entry_eq]
  generalize (lg_sl [.int v, .int lo, .int hi] ++ List.replicate (3 - (lg_sl [.int v, .int lo, .int hi]).length) Slot.unset).toArray = ls at hl ⊢
  generalize hag : ([.int v, .int lo, .int hi] : List Value).toArray = args at hts hQ ⊢
  have hl : lv_has ls 3 [(0, .int v), (1, .int lo), (2, .int hi)] := hl
  refine lv_iload_n hx hb dX12_in_0 rfl (lv_at hl 0 rfl) ?_
  refine lv_iload_n hx hb dX12_in_1 rfl (lv_at hl 1 rfl) ?_
  refine lv_icmp_lt (tgt := 14) hx hb dX12_in_2 (by decide) (fun c_1 => ?_) (fun c_1 => ?_)
  · skip
    refine lv_iconst (v := 0) hx hb dX12_in_14 (by decide) ?_
    rw [hQ]
    exact W.zret (v := 0) hx hb hr rfl (fun tQ htQ hWQ => ⟨0, rfl, by simp_all, by rw [htQ]⟩) (fun q hq => absurd hq List.not_mem_nil) dX12_in_15
  · skip
    refine lv_iload_n hx hb dX12_in_5 rfl (lv_at hl 0 rfl) ?_
    refine lv_iload_n hx hb dX12_in_6 rfl (lv_at hl 2 rfl) ?_
    refine lv_icmp_gt (tgt := 14) hx hb dX12_in_7 (by decide) (fun c_2 => ?_) (fun c_2 => ?_)
    · skip
      refine lv_iconst (v := 0) hx hb dX12_in_14 (by decide) ?_
      rw [hQ]
      exact W.zret (v := 0) hx hb hr rfl (fun tQ htQ hWQ => ⟨0, rfl, by simp_all, by rw [htQ]⟩) (fun q hq => absurd hq List.not_mem_nil) dX12_in_15
    · skip
      refine lv_iconst (v := 1) hx hb dX12_in_10 (by decide) ?_
      refine lv_goto (tgt := 15) hx hb dX12_in_11 (by decide) ?_
      rw [hQ]
      exact W.zret (v := 1) hx hb hr rfl (fun tQ htQ hWQ => ⟨1, rfl, by simp_all, by rw [htQ]⟩) (fun q hq => absurd hq List.not_mem_nil) dX12_in_15

set_option maxHeartbeats 4000000 in
set_option maxRecDepth 100000 in
theorem c_size (l : Launch) (dC : Nat → ClassId) (dI : Nat → Nat → Nat) (v : Int32) : Met l yX12_size wsX12_size ({ frames := 0, cells := 0, slots := 0, locals := 0 } : Room) (va_Pc [.int v] (fun U => True)) (vp_Si (fun r => True)) 0 0 (fun _ => False) := by
  refine met_ofQ (cc := cX12_size) (maxL := 1) (ret := (some .int)) (by decide) rfl ?_
  intro p e s m args below meth c s₁ Q B hml hv hQ
  obtain ⟨rfl, -⟩ := hv
  have hx := B.exec
  have hb := B.bytes
  have hr := B.returns
  have hts := atoms_spec (ws := wsX12_size) B.pre
  have hown : s.vm.findClass RX12 = some m.cls := findClass_of_methodNamed B.named
  have hlocks := B.notSynchronized
  obtain ⟨A, hAe⟩ : ∃ A : Nat → Prop, A = fun _ => False := ⟨_, rfl⟩
  rw [← hAe] at hQ
  have hS : va_S A s.heap s.heap [] := va_S.rf
  have hl := lv_entry [.int v] (n := 1) (Nat.le_of_ble_eq_true rfl)
  rw [lg_entry_eq]
  generalize (lg_sl [.int v] ++ List.replicate (1 - (lg_sl [.int v]).length) Slot.unset).toArray = ls at hl ⊢
  generalize hag : ([.int v] : List Value).toArray = args at hts hQ ⊢
  have hl : lv_has ls 1 [(0, .int v)] := hl
  refine lv_iload_n hx hb dX12_size_0 rfl (lv_at hl 0 rfl) ?_
  refine lv_if_ge (tgt := 9) hx hb dX12_size_1 (by decide) (fun c_1 => ?_) (fun c_1 => ?_)
  · skip
    refine lv_iload_n hx hb dX12_size_9 rfl (lv_at hl 0 rfl) ?_
    rw [hQ]
    exact W.iret (v := v) hx hb hr (fun tQ htQ hWQ => ⟨v, rfl, trivial, by rw [htQ]⟩) (fun q hq => absurd hq List.not_mem_nil) dX12_size_10
  · skip
    refine lv_iload_n hx hb dX12_size_4 rfl (lv_at hl 0 rfl) ?_
    refine lv_ineg hx hb dX12_size_5 ?_
    refine lv_goto (tgt := 10) hx hb dX12_size_6 (by decide) ?_
    rw [hQ]
    exact W.iret (v := -v) hx hb hr (fun tQ htQ hWQ => ⟨-v, rfl, trivial, by rw [htQ]⟩) (fun q hq => absurd hq List.not_mem_nil) dX12_size_10

set_option maxHeartbeats 4000000 in
set_option maxRecDepth 100000 in
theorem c_mCell (l : Launch) (dC : Nat → ClassId) (dI : Nat → Nat → Nat) (c0 : Int32) : Met l yX12_isCell wsX12_isCell ({ frames := 1, cells := 0, slots := 0, locals := 22 } : Room) (va_Pc [.int c0] (fun U => True)) (vp_Si (fun r => (r = 1 ∧ ¬ c0 < 0 ∧ ¬ 35 < c0) ∨ (r = 0 ∧ (c0 < 0 ∨ 35 < c0)))) 0 0 (fun _ => False) := by
  refine met_ofQ (cc := cX12_isCell) (maxL := 1) (ret := (some .boolean)) (by decide) rfl ?_
  intro p e s m args below meth c s₁ Q B hml hv hQ
  obtain ⟨rfl, -⟩ := hv
  have hx := B.exec
  have hb := B.bytes
  have hr := B.returns
  have hts := atoms_spec (ws := wsX12_isCell) B.pre
  have hown : s.vm.findClass RX12 = some m.cls := findClass_of_methodNamed B.named
  have hlocks := B.notSynchronized
  obtain ⟨A, hAe⟩ : ∃ A : Nat → Prop, A = fun _ => False := ⟨_, rfl⟩
  rw [← hAe] at hQ
  have hS : va_S A s.heap s.heap [] := va_S.rf
  have hl := lv_entry [.int c0] (n := 1) (Nat.le_of_ble_eq_true rfl)
  rw [lg_entry_eq]
  generalize (lg_sl [.int c0] ++ List.replicate (1 - (lg_sl [.int c0]).length) Slot.unset).toArray = ls at hl ⊢
  generalize hag : ([.int c0] : List Value).toArray = args at hts hQ ⊢
  have hl : lv_has ls 1 [(0, .int c0)] := hl
  refine lv_iload_n hx hb dX12_isCell_0 rfl (lv_at hl 0 rfl) ?_
  refine lv_iconst (v := 0) hx hb dX12_isCell_1 (by decide) ?_
  refine lv_bipush (v := 35) hx hb dX12_isCell_2 (by decide) ?_
  refine vp_callSi (va_runS (As := [.int c0, .int 0, .int 35]) (rest := []) ⟨hx, hb, hml, hown, hts⟩ (c_in l dC dI c0 0 35) (va_cwS 3 hts gX12_isCell_X12_in rfl rfl rfl hd_yX12_in.2 ⟨Nat.le_of_ble_eq_true rfl, Nat.le_of_ble_eq_true rfl⟩) ⟨fun a U g mk q => ⟨q.1, trivial⟩, fun U hU hW => ⟨rfl, trivial⟩⟩ rfl rfl hl.1 rfl (lv_room (Nat.le_of_ble_eq_true rfl)) dX12_isCell_4 ⟨Nat.le_of_ble_eq_true rfl, Nat.le_of_ble_eq_true rfl⟩).run (fun r_1 hw_2 => ?_)
  rw [hQ]
  exact W.zret (v := r_1) hx hb hr (by rcases hw_2 with ⟨rfl, _⟩ | ⟨rfl, _⟩ <;> rfl) (fun tQ htQ hWQ => ⟨r_1, rfl, by assumption, by rw [htQ]⟩) (fun q hq => absurd hq List.not_mem_nil) dX12_isCell_7

set_option maxHeartbeats 4000000 in
set_option maxRecDepth 100000 in
theorem c_rowsOf (l : Launch) (dC : Nat → ClassId) (dI : Nat → Nat → Nat) (x : Int32) : Met l yX12_rowsOf wsX12_rowsOf ({ frames := 0, cells := 0, slots := 0, locals := 0 } : Room) (va_Pc [.int x] (fun U => True)) (vp_Si (fun r => True)) 0 0 (fun _ => False) := by
  refine met_ofQ (cc := cX12_rowsOf) (maxL := 1) (ret := (some .int)) (by decide) rfl ?_
  intro p e s m args below meth c s₁ Q B hml hv hQ
  obtain ⟨rfl, -⟩ := hv
  have hx := B.exec
  have hb := B.bytes
  have hr := B.returns
  have hts := atoms_spec (ws := wsX12_rowsOf) B.pre
  have hown : s.vm.findClass RX12 = some m.cls := findClass_of_methodNamed B.named
  have hlocks := B.notSynchronized
  obtain ⟨A, hAe⟩ : ∃ A : Nat → Prop, A = fun _ => False := ⟨_, rfl⟩
  rw [← hAe] at hQ
  have hS : va_S A s.heap s.heap [] := va_S.rf
  have hl := lv_entry [.int x] (n := 1) (Nat.le_of_ble_eq_true rfl)
  rw [lg_entry_eq]
  generalize (lg_sl [.int x] ++ List.replicate (1 - (lg_sl [.int x]).length) Slot.unset).toArray = ls at hl ⊢
  generalize hag : ([.int x] : List Value).toArray = args at hts hQ ⊢
  have hl : lv_has ls 1 [(0, .int x)] := hl
  refine lv_iload_n hx hb dX12_rowsOf_0 rfl (lv_at hl 0 rfl) ?_
  refine lv_bipush (v := 7) hx hb dX12_rowsOf_1 (by decide) ?_
  refine lv_icmp_eq (tgt := 11) hx hb dX12_rowsOf_3 (by decide) (fun c_1 => ?_) (fun c_1 => ?_)
  · skip
    refine lv_iconst (v := (-1)) hx hb dX12_rowsOf_11 (by decide) ?_
    refine lv_goto (tgt := 31) hx hb dX12_rowsOf_12 (by decide) ?_
    rw [hQ]
    exact W.iret (v := (-1)) hx hb hr (fun tQ htQ hWQ => ⟨(-1), rfl, trivial, by rw [htQ]⟩) (fun q hq => absurd hq List.not_mem_nil) dX12_rowsOf_31
  · skip
    refine lv_iload_n hx hb dX12_rowsOf_6 rfl (lv_at hl 0 rfl) ?_
    refine lv_iconst (v := 2) hx hb dX12_rowsOf_7 (by decide) ?_
    refine lv_icmp_ge (tgt := 15) hx hb dX12_rowsOf_8 (by decide) (fun c_2 => ?_) (fun c_2 => ?_)
    · skip
      refine lv_iload_n hx hb dX12_rowsOf_15 rfl (lv_at hl 0 rfl) ?_
      refine lv_iconst (v := 2) hx hb dX12_rowsOf_16 (by decide) ?_
      refine lv_icmp_le (tgt := 30) hx hb dX12_rowsOf_17 (by decide) (fun c_3 => ?_) (fun c_3 => ?_)
      · skip
        refine lv_iconst (v := 0) hx hb dX12_rowsOf_30 (by decide) ?_
        rw [hQ]
        exact W.iret (v := 0) hx hb hr (fun tQ htQ hWQ => ⟨0, rfl, trivial, by rw [htQ]⟩) (fun q hq => absurd hq List.not_mem_nil) dX12_rowsOf_31
      · skip
        refine lv_iload_n hx hb dX12_rowsOf_20 rfl (lv_at hl 0 rfl) ?_
        refine lv_bipush (v := 6) hx hb dX12_rowsOf_21 (by decide) ?_
        refine lv_icmp_ge (tgt := 30) hx hb dX12_rowsOf_23 (by decide) (fun c_4 => ?_) (fun c_4 => ?_)
        · skip
          refine lv_iconst (v := 0) hx hb dX12_rowsOf_30 (by decide) ?_
          rw [hQ]
          exact W.iret (v := 0) hx hb hr (fun tQ htQ hWQ => ⟨0, rfl, trivial, by rw [htQ]⟩) (fun q hq => absurd hq List.not_mem_nil) dX12_rowsOf_31
        · skip
          refine lv_iconst (v := 1) hx hb dX12_rowsOf_26 (by decide) ?_
          refine lv_goto (tgt := 31) hx hb dX12_rowsOf_27 (by decide) ?_
          rw [hQ]
          exact W.iret (v := 1) hx hb hr (fun tQ htQ hWQ => ⟨1, rfl, trivial, by rw [htQ]⟩) (fun q hq => absurd hq List.not_mem_nil) dX12_rowsOf_31
    · skip
      refine lv_iconst (v := (-1)) hx hb dX12_rowsOf_11 (by decide) ?_
      refine lv_goto (tgt := 31) hx hb dX12_rowsOf_12 (by decide) ?_
      rw [hQ]
      exact W.iret (v := (-1)) hx hb hr (fun tQ htQ hWQ => ⟨(-1), rfl, trivial, by rw [htQ]⟩) (fun q hq => absurd hq List.not_mem_nil) dX12_rowsOf_31

set_option maxHeartbeats 4000000 in
set_option maxRecDepth 100000 in
theorem c_columnsOf (l : Launch) (dC : Nat → ClassId) (dI : Nat → Nat → Nat) (x : Int32) : Met l yX12_columnsOf wsX12_columnsOf ({ frames := 1, cells := 0, slots := 0, locals := 22 } : Room) (va_Pc [.int x] (fun U => True)) (vp_Si (fun r => True)) 0 0 (fun _ => False) := by
  refine met_ofQ (cc := cX12_columnsOf) (maxL := 1) (ret := (some .int)) (by decide) rfl ?_
  intro p e s m args below meth c s₁ Q B hml hv hQ
  obtain ⟨rfl, -⟩ := hv
  have hx := B.exec
  have hb := B.bytes
  have hr := B.returns
  have hts := atoms_spec (ws := wsX12_columnsOf) B.pre
  have hown : s.vm.findClass RX12 = some m.cls := findClass_of_methodNamed B.named
  have hlocks := B.notSynchronized
  obtain ⟨A, hAe⟩ : ∃ A : Nat → Prop, A = fun _ => False := ⟨_, rfl⟩
  rw [← hAe] at hQ
  have hS : va_S A s.heap s.heap [] := va_S.rf
  have hl := lv_entry [.int x] (n := 1) (Nat.le_of_ble_eq_true rfl)
  rw [lg_entry_eq]
  generalize (lg_sl [.int x] ++ List.replicate (1 - (lg_sl [.int x]).length) Slot.unset).toArray = ls at hl ⊢
  generalize hag : ([.int x] : List Value).toArray = args at hts hQ ⊢
  have hl : lv_has ls 1 [(0, .int x)] := hl
  refine lv_iload_n hx hb dX12_columnsOf_0 rfl (lv_at hl 0 rfl) ?_
  refine lv_iconst (v := 1) hx hb dX12_columnsOf_1 (by decide) ?_
  refine lv_iconst (v := 3) hx hb dX12_columnsOf_2 (by decide) ?_
  refine vp_callSi (va_runS (As := [.int x, .int 1, .int 3]) (rest := []) ⟨hx, hb, hml, hown, hts⟩ (c_in l dC dI x 1 3) (va_cwS 3 hts gX12_columnsOf_X12_in rfl rfl rfl hd_yX12_in.2 ⟨Nat.le_of_ble_eq_true rfl, Nat.le_of_ble_eq_true rfl⟩) ⟨fun a U g mk q => ⟨q.1, trivial⟩, fun U hU hW => ⟨rfl, trivial⟩⟩ rfl rfl hl.1 rfl (lv_room (Nat.le_of_ble_eq_true rfl)) dX12_columnsOf_3 ⟨Nat.le_of_ble_eq_true rfl, Nat.le_of_ble_eq_true rfl⟩).run (fun r_1 hw_2 => ?_)
  rcases hw_2 with ⟨rfl, h_3, h_4⟩ | ⟨rfl, h_5⟩
  · skip
    refine lv_if_eq (tgt := 13) hx hb dX12_columnsOf_6 (by decide) (fun c_6 => absurd c_6 (by decide)) (fun _ => ?_)
    refine lv_iconst (v := 1) hx hb dX12_columnsOf_9 (by decide) ?_
    refine lv_goto (tgt := 23) hx hb dX12_columnsOf_10 (by decide) ?_
    rw [hQ]
    exact W.iret (v := 1) hx hb hr (fun tQ htQ hWQ => ⟨1, rfl, trivial, by rw [htQ]⟩) (fun q hq => absurd hq List.not_mem_nil) dX12_columnsOf_23
  · skip
    refine lv_if_eq (tgt := 13) hx hb dX12_columnsOf_6 (by decide) (fun _ => ?_) (fun c_7 => absurd c_7 (by decide))
    refine lv_iload_n hx hb dX12_columnsOf_13 rfl (lv_at hl 0 rfl) ?_
    refine lv_iconst (v := 4) hx hb dX12_columnsOf_14 (by decide) ?_
    refine lv_icmp_le (tgt := 22) hx hb dX12_columnsOf_15 (by decide) (fun c_8 => ?_) (fun c_8 => ?_)
    · skip
      refine lv_iconst (v := 0) hx hb dX12_columnsOf_22 (by decide) ?_
      rw [hQ]
      exact W.iret (v := 0) hx hb hr (fun tQ htQ hWQ => ⟨0, rfl, trivial, by rw [htQ]⟩) (fun q hq => absurd hq List.not_mem_nil) dX12_columnsOf_23
    · skip
      refine lv_iconst (v := (-1)) hx hb dX12_columnsOf_18 (by decide) ?_
      refine lv_goto (tgt := 23) hx hb dX12_columnsOf_19 (by decide) ?_
      rw [hQ]
      exact W.iret (v := (-1)) hx hb hr (fun tQ htQ hWQ => ⟨(-1), rfl, trivial, by rw [htQ]⟩) (fun q hq => absurd hq List.not_mem_nil) dX12_columnsOf_23

set_option maxHeartbeats 4000000 in
set_option maxRecDepth 100000 in
theorem c_nextTo (l : Launch) (dC : Nat → ClassId) (dI : Nat → Nat → Nat) (j : Nat) (x : Int32) (zj : j < 36) : Met l yX12_nextTo wsX12_nextTo ({ frames := 2, cells := 0, slots := 0, locals := 42 } : Room) (va_Pc [.int (nI j), .int x] (fun U => True)) (vp_Si (fun r => ∃ k : Nat, k < 36 ∧ r = nI k)) 0 0 (fun _ => False) := by
  refine met_ofQ (cc := cX12_nextTo) (maxL := 4) (ret := (some .int)) (by decide) rfl ?_
  intro p e s m args below meth c s₁ Q B hml hv hQ
  obtain ⟨rfl, -⟩ := hv
  have hx := B.exec
  have hb := B.bytes
  have hr := B.returns
  have hts := atoms_spec (ws := wsX12_nextTo) B.pre
  have hown : s.vm.findClass RX12 = some m.cls := findClass_of_methodNamed B.named
  have hlocks := B.notSynchronized
  obtain ⟨A, hAe⟩ : ∃ A : Nat → Prop, A = fun _ => False := ⟨_, rfl⟩
  rw [← hAe] at hQ
  have hS : va_S A s.heap s.heap [] := va_S.rf
  have hl := lv_entry [.int (nI j), .int x] (n := 4) (Nat.le_of_ble_eq_true rfl)
  rw [lg_entry_eq]
  generalize (lg_sl [.int (nI j), .int x] ++ List.replicate (4 - (lg_sl [.int (nI j), .int x]).length) Slot.unset).toArray = ls at hl ⊢
  generalize hag : ([.int (nI j), .int x] : List Value).toArray = args at hts hQ ⊢
  have hl : lv_has ls 4 [(0, .int (nI j)), (1, .int x)] := hl
  refine lv_iload_n hx hb dX12_nextTo_0 rfl (lv_at hl 0 rfl) ?_
  refine lv_bipush (v := 6) hx hb dX12_nextTo_1 (by decide) ?_
  refine lv_idiv hx hb dX12_nextTo_3 (by decide) ?_
  refine qi_as (y := nI (j / 6)) (pk_div (a := j) (d := 6) (by omega) (by omega) (by omega)) ?_
  refine lv_iload_n hx hb dX12_nextTo_4 rfl (lv_at hl 1 rfl) ?_
  refine vp_callSi (va_runS (As := [.int x]) (rest := [.int (nI (j / 6))]) ⟨hx, hb, hml, hown, hts⟩ (c_rowsOf l dC dI x) (va_cwS 1 hts gX12_nextTo_X12_rowsOf rfl rfl rfl hd_yX12_rowsOf.2 ⟨Nat.le_of_ble_eq_true rfl, Nat.le_of_ble_eq_true rfl⟩) ⟨fun a U g mk q => ⟨q.1, trivial⟩, fun U hU hW => ⟨rfl, trivial⟩⟩ rfl rfl hl.1 rfl (lv_room (Nat.le_of_ble_eq_true rfl)) dX12_nextTo_5 ⟨Nat.le_of_ble_eq_true rfl, Nat.le_of_ble_eq_true rfl⟩).run (fun r_1 hw_2 => ?_)
  refine lv_iadd hx hb dX12_nextTo_8 ?_
  refine lv_istore_n (lv' := [(2, .int ((nI (j / 6)) + r_1)), (0, .int (nI j)), (1, .int x)]) hx hb dX12_nextTo_9 rfl hl (by decide) rfl (fun ls hl => ?_)
  refine lv_iload_n hx hb dX12_nextTo_10 rfl (lv_at hl 1 rfl) ?_
  refine lv_bipush (v := 6) hx hb dX12_nextTo_11 (by decide) ?_
  refine lv_irem hx hb dX12_nextTo_13 (by decide) ?_
  refine qi_as (y := nI (j % 6)) (pk_rem (a := j) (d := 6) (by omega) (by omega) (by omega)) ?_
  refine lv_iload_n hx hb dX12_nextTo_14 rfl (lv_at hl 2 rfl) ?_
  refine vp_callSi (va_runS (As := [.int x]) (rest := [.int (nI (j % 6))]) ⟨hx, hb, hml, hown, hts⟩ (c_columnsOf l dC dI x) (va_cwS 1 hts gX12_nextTo_X12_columnsOf rfl rfl rfl hd_yX12_columnsOf.2 ⟨Nat.le_of_ble_eq_true rfl, Nat.le_of_ble_eq_true rfl⟩) ⟨fun a U g mk q => ⟨q.1, trivial⟩, fun U hU hW => ⟨rfl, trivial⟩⟩ rfl rfl hl.1 rfl (lv_room (Nat.le_of_ble_eq_true rfl)) dX12_nextTo_15 ⟨Nat.le_of_ble_eq_true rfl, Nat.le_of_ble_eq_true rfl⟩).run (fun r_3 hw_4 => ?_)
  refine lv_iadd hx hb dX12_nextTo_18 ?_
  refine lv_istore_n (lv' := [(3, .int ((nI (j % 6)) + r_3)), (2, .int ((nI (j / 6)) + r_1)), (0, .int (nI j)), (1, .int x)]) hx hb dX12_nextTo_19 rfl hl (by decide) rfl (fun ls hl => ?_)
  refine lv_iload_n hx hb dX12_nextTo_20 rfl (lv_at hl 1 rfl) ?_
  refine lv_iconst (v := 0) hx hb dX12_nextTo_21 (by decide) ?_
  refine lv_iconst (v := 5) hx hb dX12_nextTo_22 (by decide) ?_
  refine vp_callSi (va_runS (As := [.int ((nI (j / 6)) + r_1), .int 0, .int 5]) (rest := []) ⟨hx, hb, hml, hown, hts⟩ (c_in l dC dI ((nI (j / 6)) + r_1) 0 5) (va_cwS 3 hts gX12_nextTo_X12_in rfl rfl rfl hd_yX12_in.2 ⟨Nat.le_of_ble_eq_true rfl, Nat.le_of_ble_eq_true rfl⟩) ⟨fun a U g mk q => ⟨q.1, trivial⟩, fun U hU hW => ⟨rfl, trivial⟩⟩ rfl rfl hl.1 rfl (lv_room (Nat.le_of_ble_eq_true rfl)) dX12_nextTo_23 ⟨Nat.le_of_ble_eq_true rfl, Nat.le_of_ble_eq_true rfl⟩).run (fun r_5 hw_6 => ?_)
  rcases hw_6 with ⟨rfl, h_7, h_8⟩ | ⟨rfl, h_9⟩
  · skip
    obtain ⟨ja, hja, eja⟩ := nI_of2 (n := 5) (M := 5) rfl h_7 (Int32.not_lt.mp h_8)
    refine lv_if_eq (tgt := 47) hx hb dX12_nextTo_26 (by decide) (fun c_10 => absurd c_10 (by decide)) (fun _ => ?_)
    refine lv_iload_n hx hb dX12_nextTo_29 rfl (lv_at hl 0 rfl) ?_
    refine lv_iconst (v := 0) hx hb dX12_nextTo_30 (by decide) ?_
    refine lv_iconst (v := 5) hx hb dX12_nextTo_31 (by decide) ?_
    refine vp_callSi (va_runS (As := [.int ((nI (j % 6)) + r_3), .int 0, .int 5]) (rest := []) ⟨hx, hb, hml, hown, hts⟩ (c_in l dC dI ((nI (j % 6)) + r_3) 0 5) (va_cwS 3 hts gX12_nextTo_X12_in rfl rfl rfl hd_yX12_in.2 ⟨Nat.le_of_ble_eq_true rfl, Nat.le_of_ble_eq_true rfl⟩) ⟨fun a U g mk q => ⟨q.1, trivial⟩, fun U hU hW => ⟨rfl, trivial⟩⟩ rfl rfl hl.1 rfl (lv_room (Nat.le_of_ble_eq_true rfl)) dX12_nextTo_32 ⟨Nat.le_of_ble_eq_true rfl, Nat.le_of_ble_eq_true rfl⟩).run (fun r_11 hw_12 => ?_)
    rcases hw_12 with ⟨rfl, h_13, h_14⟩ | ⟨rfl, h_15⟩
    · skip
      obtain ⟨jb, hjb, ejb⟩ := nI_of2 (n := 5) (M := 5) rfl h_13 (Int32.not_lt.mp h_14)
      refine lv_if_eq (tgt := 47) hx hb dX12_nextTo_35 (by decide) (fun c_16 => absurd c_16 (by decide)) (fun _ => ?_)
      refine lv_bipush (v := 6) hx hb dX12_nextTo_38 (by decide) ?_
      refine lv_iload_n hx hb dX12_nextTo_40 rfl (lv_at hl 1 rfl) ?_
      refine lv_imul hx hb dX12_nextTo_41 ?_
      refine lv_iload_n hx hb dX12_nextTo_42 rfl (lv_at hl 0 rfl) ?_
      refine lv_iadd hx hb dX12_nextTo_43 ?_
      refine lv_goto (tgt := 48) hx hb dX12_nextTo_44 (by decide) ?_
      rw [hQ]
      exact W.iret (v := (6 * ((nI (j / 6)) + r_1)) + ((nI (j % 6)) + r_3)) hx hb hr (fun tQ htQ hWQ => ⟨(6 * ((nI (j / 6)) + r_1)) + ((nI (j % 6)) + r_3), rfl, by first | exact ⟨j, zj, rfl⟩ | exact rc_of2 hja hjb eja ejb, by rw [htQ]⟩) (fun q hq => absurd hq List.not_mem_nil) dX12_nextTo_48
    · skip
      refine lv_if_eq (tgt := 47) hx hb dX12_nextTo_35 (by decide) (fun _ => ?_) (fun c_17 => absurd c_17 (by decide))
      refine lv_iload_n hx hb dX12_nextTo_47 rfl (lv_at hl 2 rfl) ?_
      rw [hQ]
      exact W.iret (v := nI j) hx hb hr (fun tQ htQ hWQ => ⟨nI j, rfl, by first | exact ⟨j, zj, rfl⟩ | exact rc_of2 hja hjb eja ejb, by rw [htQ]⟩) (fun q hq => absurd hq List.not_mem_nil) dX12_nextTo_48
  · skip
    refine lv_if_eq (tgt := 47) hx hb dX12_nextTo_26 (by decide) (fun _ => ?_) (fun c_18 => absurd c_18 (by decide))
    refine lv_iload_n hx hb dX12_nextTo_47 rfl (lv_at hl 2 rfl) ?_
    rw [hQ]
    exact W.iret (v := nI j) hx hb hr (fun tQ htQ hWQ => ⟨nI j, rfl, by first | exact ⟨j, zj, rfl⟩ | exact rc_of2 hja hjb eja ejb, by rw [htQ]⟩) (fun q hq => absurd hq List.not_mem_nil) dX12_nextTo_48

set_option maxHeartbeats 4000000 in
set_option maxRecDepth 100000 in
theorem c_side (l : Launch) (dC : Nat → ClassId) (dI : Nat → Nat → Nat) (x y z : Int32) : Met l yX12_isThatSide wsX12_isThatSide ({ frames := 0, cells := 0, slots := 0, locals := 0 } : Room) (va_Pc [.int x, .int y, .int z] (fun U => True)) (vp_Si (fun r => r = 1 ∨ r = 0)) 0 0 (fun _ => False) := by
  refine met_ofQ (cc := cX12_isThatSide) (maxL := 3) (ret := (some .boolean)) (by decide) rfl ?_
  intro p e s m args below meth c s₁ Q B hml hv hQ
  obtain ⟨rfl, -⟩ := hv
  have hx := B.exec
  have hb := B.bytes
  have hr := B.returns
  have hts := atoms_spec (ws := wsX12_isThatSide) B.pre
  have hown : s.vm.findClass RX12 = some m.cls := findClass_of_methodNamed B.named
  have hlocks := B.notSynchronized
  obtain ⟨A, hAe⟩ : ∃ A : Nat → Prop, A = fun _ => False := ⟨_, rfl⟩
  rw [← hAe] at hQ
  have hS : va_S A s.heap s.heap [] := va_S.rf
  have hl := lv_entry [.int x, .int y, .int z] (n := 3) (Nat.le_of_ble_eq_true rfl)
  rw [lg_entry_eq]
  generalize (lg_sl [.int x, .int y, .int z] ++ List.replicate (3 - (lg_sl [.int x, .int y, .int z]).length) Slot.unset).toArray = ls at hl ⊢
  generalize hag : ([.int x, .int y, .int z] : List Value).toArray = args at hts hQ ⊢
  have hl : lv_has ls 3 [(0, .int x), (1, .int y), (2, .int z)] := hl
  refine lv_iload_n hx hb dX12_isThatSide_0 rfl (lv_at hl 0 rfl) ?_
  refine lv_if_eq (tgt := 22) hx hb dX12_isThatSide_1 (by decide) (fun c_1 => ?_) (fun c_1 => ?_)
  · skip
    refine lv_iconst (v := 1) hx hb dX12_isThatSide_22 (by decide) ?_
    refine lv_goto (tgt := 27) hx hb dX12_isThatSide_23 (by decide) ?_
    rw [hQ]
    exact W.zret (v := 1) hx hb hr rfl (fun tQ htQ hWQ => ⟨1, rfl, by first | exact Or.inl rfl | exact Or.inr rfl, by rw [htQ]⟩) (fun q hq => absurd hq List.not_mem_nil) dX12_isThatSide_27
  · skip
    refine lv_iload_n hx hb dX12_isThatSide_4 rfl (lv_at hl 0 rfl) ?_
    refine lv_if_ge (tgt := 13) hx hb dX12_isThatSide_5 (by decide) (fun c_2 => ?_) (fun c_2 => ?_)
    · skip
      refine lv_iload_n hx hb dX12_isThatSide_13 rfl (lv_at hl 0 rfl) ?_
      refine lv_if_le (tgt := 26) hx hb dX12_isThatSide_14 (by decide) (fun c_3 => ?_) (fun c_3 => ?_)
      · skip
        refine lv_iconst (v := 0) hx hb dX12_isThatSide_26 (by decide) ?_
        rw [hQ]
        exact W.zret (v := 0) hx hb hr rfl (fun tQ htQ hWQ => ⟨0, rfl, by first | exact Or.inl rfl | exact Or.inr rfl, by rw [htQ]⟩) (fun q hq => absurd hq List.not_mem_nil) dX12_isThatSide_27
      · skip
        refine lv_iload_n hx hb dX12_isThatSide_17 rfl (lv_at hl 2 rfl) ?_
        refine lv_iload_n hx hb dX12_isThatSide_18 rfl (lv_at hl 1 rfl) ?_
        refine lv_icmp_le (tgt := 26) hx hb dX12_isThatSide_19 (by decide) (fun c_4 => ?_) (fun c_4 => ?_)
        · skip
          refine lv_iconst (v := 0) hx hb dX12_isThatSide_26 (by decide) ?_
          rw [hQ]
          exact W.zret (v := 0) hx hb hr rfl (fun tQ htQ hWQ => ⟨0, rfl, by first | exact Or.inl rfl | exact Or.inr rfl, by rw [htQ]⟩) (fun q hq => absurd hq List.not_mem_nil) dX12_isThatSide_27
        · skip
          refine lv_iconst (v := 1) hx hb dX12_isThatSide_22 (by decide) ?_
          refine lv_goto (tgt := 27) hx hb dX12_isThatSide_23 (by decide) ?_
          rw [hQ]
          exact W.zret (v := 1) hx hb hr rfl (fun tQ htQ hWQ => ⟨1, rfl, by first | exact Or.inl rfl | exact Or.inr rfl, by rw [htQ]⟩) (fun q hq => absurd hq List.not_mem_nil) dX12_isThatSide_27
    · skip
      refine lv_iload_n hx hb dX12_isThatSide_8 rfl (lv_at hl 2 rfl) ?_
      refine lv_iload_n hx hb dX12_isThatSide_9 rfl (lv_at hl 1 rfl) ?_
      refine lv_icmp_lt (tgt := 22) hx hb dX12_isThatSide_10 (by decide) (fun c_5 => ?_) (fun c_5 => ?_)
      · skip
        refine lv_iconst (v := 1) hx hb dX12_isThatSide_22 (by decide) ?_
        refine lv_goto (tgt := 27) hx hb dX12_isThatSide_23 (by decide) ?_
        rw [hQ]
        exact W.zret (v := 1) hx hb hr rfl (fun tQ htQ hWQ => ⟨1, rfl, by first | exact Or.inl rfl | exact Or.inr rfl, by rw [htQ]⟩) (fun q hq => absurd hq List.not_mem_nil) dX12_isThatSide_27
      · skip
        refine lv_iload_n hx hb dX12_isThatSide_13 rfl (lv_at hl 0 rfl) ?_
        refine lv_if_le (tgt := 26) hx hb dX12_isThatSide_14 (by decide) (fun c_6 => ?_) (fun c_6 => ?_)
        · skip
          refine lv_iconst (v := 0) hx hb dX12_isThatSide_26 (by decide) ?_
          rw [hQ]
          exact W.zret (v := 0) hx hb hr rfl (fun tQ htQ hWQ => ⟨0, rfl, by first | exact Or.inl rfl | exact Or.inr rfl, by rw [htQ]⟩) (fun q hq => absurd hq List.not_mem_nil) dX12_isThatSide_27
        · skip
          refine lv_iload_n hx hb dX12_isThatSide_17 rfl (lv_at hl 2 rfl) ?_
          refine lv_iload_n hx hb dX12_isThatSide_18 rfl (lv_at hl 1 rfl) ?_
          refine lv_icmp_le (tgt := 26) hx hb dX12_isThatSide_19 (by decide) (fun c_7 => ?_) (fun c_7 => ?_)
          · skip
            refine lv_iconst (v := 0) hx hb dX12_isThatSide_26 (by decide) ?_
            rw [hQ]
            exact W.zret (v := 0) hx hb hr rfl (fun tQ htQ hWQ => ⟨0, rfl, by first | exact Or.inl rfl | exact Or.inr rfl, by rw [htQ]⟩) (fun q hq => absurd hq List.not_mem_nil) dX12_isThatSide_27
          · skip
            refine lv_iconst (v := 1) hx hb dX12_isThatSide_22 (by decide) ?_
            refine lv_goto (tgt := 27) hx hb dX12_isThatSide_23 (by decide) ?_
            rw [hQ]
            exact W.zret (v := 1) hx hb hr rfl (fun tQ htQ hWQ => ⟨1, rfl, by first | exact Or.inl rfl | exact Or.inr rfl, by rw [htQ]⟩) (fun q hq => absurd hq List.not_mem_nil) dX12_isThatSide_27

set_option maxHeartbeats 4000000 in
set_option maxRecDepth 100000 in
theorem c_apart (l : Launch) (dC : Nat → ClassId) (dI : Nat → Nat → Nat) (x y : Int32) : Met l yX12_apart wsX12_apart ({ frames := 1, cells := 0, slots := 0, locals := 20 } : Room) (va_Pc [.int x, .int y] (fun U => True)) (vp_Si (fun r => True)) 0 0 (fun _ => False) := by
  refine met_ofQ (cc := cX12_apart) (maxL := 4) (ret := (some .int)) (by decide) rfl ?_
  intro p e s m args below meth c s₁ Q B hml hv hQ
  obtain ⟨rfl, -⟩ := hv
  have hx := B.exec
  have hb := B.bytes
  have hr := B.returns
  have hts := atoms_spec (ws := wsX12_apart) B.pre
  have hown : s.vm.findClass RX12 = some m.cls := findClass_of_methodNamed B.named
  have hlocks := B.notSynchronized
  obtain ⟨A, hAe⟩ : ∃ A : Nat → Prop, A = fun _ => False := ⟨_, rfl⟩
  rw [← hAe] at hQ
  have hS : va_S A s.heap s.heap [] := va_S.rf
  have hl := lv_entry [.int x, .int y] (n := 4) (Nat.le_of_ble_eq_true rfl)
  rw [lg_entry_eq]
  generalize (lg_sl [.int x, .int y] ++ List.replicate (4 - (lg_sl [.int x, .int y]).length) Slot.unset).toArray = ls at hl ⊢
  generalize hag : ([.int x, .int y] : List Value).toArray = args at hts hQ ⊢
  have hl : lv_has ls 4 [(0, .int x), (1, .int y)] := hl
  refine lv_iload_n hx hb dX12_apart_0 rfl (lv_at hl 0 rfl) ?_
  refine lv_bipush (v := 6) hx hb dX12_apart_1 (by decide) ?_
  refine lv_idiv hx hb dX12_apart_3 (by decide) ?_
  refine lv_iload_n hx hb dX12_apart_4 rfl (lv_at hl 1 rfl) ?_
  refine lv_bipush (v := 6) hx hb dX12_apart_5 (by decide) ?_
  refine lv_idiv hx hb dX12_apart_7 (by decide) ?_
  refine lv_isub hx hb dX12_apart_8 ?_
  refine vp_callSi (va_runS (As := [.int ((x / 6) - (y / 6))]) (rest := []) ⟨hx, hb, hml, hown, hts⟩ (c_size l dC dI ((x / 6) - (y / 6))) (va_cwS 1 hts gX12_apart_X12_size rfl rfl rfl hd_yX12_size.2 ⟨Nat.le_of_ble_eq_true rfl, Nat.le_of_ble_eq_true rfl⟩) ⟨fun a U g mk q => ⟨q.1, trivial⟩, fun U hU hW => ⟨rfl, trivial⟩⟩ rfl rfl hl.1 rfl (lv_room (Nat.le_of_ble_eq_true rfl)) dX12_apart_9 ⟨Nat.le_of_ble_eq_true rfl, Nat.le_of_ble_eq_true rfl⟩).run (fun r_1 hw_2 => ?_)
  refine lv_istore_n (lv' := [(2, .int r_1), (0, .int x), (1, .int y)]) hx hb dX12_apart_12 rfl hl (by decide) rfl (fun ls hl => ?_)
  refine lv_iload_n hx hb dX12_apart_13 rfl (lv_at hl 1 rfl) ?_
  refine lv_bipush (v := 6) hx hb dX12_apart_14 (by decide) ?_
  refine lv_irem hx hb dX12_apart_16 (by decide) ?_
  refine lv_iload_n hx hb dX12_apart_17 rfl (lv_at hl 2 rfl) ?_
  refine lv_bipush (v := 6) hx hb dX12_apart_18 (by decide) ?_
  refine lv_irem hx hb dX12_apart_20 (by decide) ?_
  refine lv_isub hx hb dX12_apart_21 ?_
  refine vp_callSi (va_runS (As := [.int ((x - x / 6 * 6) - (y - y / 6 * 6))]) (rest := []) ⟨hx, hb, hml, hown, hts⟩ (c_size l dC dI ((x - x / 6 * 6) - (y - y / 6 * 6))) (va_cwS 1 hts gX12_apart_X12_size rfl rfl rfl hd_yX12_size.2 ⟨Nat.le_of_ble_eq_true rfl, Nat.le_of_ble_eq_true rfl⟩) ⟨fun a U g mk q => ⟨q.1, trivial⟩, fun U hU hW => ⟨rfl, trivial⟩⟩ rfl rfl hl.1 rfl (lv_room (Nat.le_of_ble_eq_true rfl)) dX12_apart_22 ⟨Nat.le_of_ble_eq_true rfl, Nat.le_of_ble_eq_true rfl⟩).run (fun r_3 hw_4 => ?_)
  refine lv_istore_n (lv' := [(3, .int r_3), (2, .int r_1), (0, .int x), (1, .int y)]) hx hb dX12_apart_25 rfl hl (by decide) rfl (fun ls hl => ?_)
  refine lv_iload_n hx hb dX12_apart_26 rfl (lv_at hl 1 rfl) ?_
  refine lv_iload_n hx hb dX12_apart_27 rfl (lv_at hl 0 rfl) ?_
  refine lv_icmp_le (tgt := 35) hx hb dX12_apart_28 (by decide) (fun c_5 => ?_) (fun c_5 => ?_)
  · skip
    refine lv_iload_n hx hb dX12_apart_35 rfl (lv_at hl 0 rfl) ?_
    rw [hQ]
    exact W.iret (v := r_3) hx hb hr (fun tQ htQ hWQ => ⟨r_3, rfl, trivial, by rw [htQ]⟩) (fun q hq => absurd hq List.not_mem_nil) dX12_apart_36
  · skip
    refine lv_iload_n hx hb dX12_apart_31 rfl (lv_at hl 1 rfl) ?_
    refine lv_goto (tgt := 36) hx hb dX12_apart_32 (by decide) ?_
    rw [hQ]
    exact W.iret (v := r_1) hx hb hr (fun tQ htQ hWQ => ⟨r_1, rfl, trivial, by rw [htQ]⟩) (fun q hq => absurd hq List.not_mem_nil) dX12_apart_36

/-! what the answers are, as functions of what is visible -/
noncomputable def hh (n : Nat) (x : Int32) : Prop := ∃ j : Nat, j < n ∧ x = nI j
theorem hh_yes {n j : Nat} (h : j < n) : hh n (nI j) := ⟨j, h, rfl⟩
theorem hh_no {n : Nat} {x : Int32} (h : ∀ j : Nat, j < n → x ≠ nI j) : ¬ hh n x := fun ⟨j, hj, e⟩ => h j hj e
theorem i32_step {a b : Nat} (hb : b + 1 < 2 ^ 31) {x : Int32} (h : nI b < x) : nI (b + 1) ≤ x := by
  rw [Int32.le_iff_toInt_le, nI_toInt (by omega)]
  rw [Int32.lt_iff_toInt_lt, nI_toInt (by omega)] at h
  omega
theorem lt6_le7 {x : Int32} (h : 6 < x) : 7 ≤ x := i32_step (a := 0) (b := 6) (by omega) h
theorem le7_lt6 {x : Int32} (h : 7 ≤ x) : 6 < x := Int32.lt_of_lt_of_le (by decide) h
theorem lt5_le6 {x : Int32} (h : 5 < x) : 6 ≤ x := i32_step (a := 0) (b := 5) (by omega) h
theorem le6_lt5 {x : Int32} (h : 6 ≤ x) : 5 < x := Int32.lt_of_lt_of_le (by decide) h
theorem le36_lt35 {x : Int32} (h : 36 ≤ x) : 35 < x := Int32.lt_of_lt_of_le (by decide) h
theorem one3b {y : Int32} (h1 : ¬ y ≤ 0) (h2 : ¬ 4 ≤ y) : y = 1 ∨ y = 2 ∨ y = 3 := by
  have h3 : 0 < y := Int32.not_le.mp h1
  have h4 : y < 4 := Int32.not_le.mp h2
  obtain ⟨j, hj, rfl⟩ := nI_of2 (n := 4) (M := 4) (x := y) rfl (Int32.not_lt.mpr (Int32.le_of_lt h3)) (Int32.le_of_lt h4)
  have h5 : ¬ j = 0 := fun e => by subst e; exact absurd h3 (by decide)
  have h6 : ¬ j = 4 := fun e => by subst e; exact absurd h4 (by decide)
  have e : j = 1 ∨ j = 2 ∨ j = 3 := by omega
  rcases e with rfl | rfl | rfl
  · exact Or.inl rfl
  · exact Or.inr (Or.inl rfl)
  · exact Or.inr (Or.inr rfl)
/-- whether a cell has a heap: the reference's number of it -/
noncomputable def hoI (yc : Nat → Int32) (x : Int32) (i : Nat) (q : Int32) : Prop := (q = -1 ∧ ∀ k, k < i → ¬ yc k = x) ∨ (¬ q = -1 ∧ ∃ k, k < i ∧ yc k = x)
theorem ho_0 {yc : Nat → Int32} {x : Int32} : hoI yc x 0 (-1) := Or.inl ⟨rfl, fun k h => absurd h (Nat.not_lt_zero k)⟩
theorem ho_hit {yc : Nat → Int32} {x : Int32} {i : Nat} (hi : i < 1000) (e : yc i = x) : hoI yc x (i + 1) (nI i) := Or.inr ⟨nI_nm1 (by omega), i, by omega, e⟩
theorem ho_miss {yc : Nat → Int32} {x q : Int32} {i : Nat} (h : hoI yc x i q) (e : ¬ yc i = x) : hoI yc x (i + 1) q := by
  rcases h with ⟨h1, h2⟩ | ⟨h1, k, hk, h2⟩
  · refine Or.inl ⟨h1, fun k hk => ?_⟩
    by_cases z : k = i
    · rw [z]; exact e
    · exact h2 k (by omega)
  · exact Or.inr ⟨h1, k, by omega, h2⟩
theorem ho_end {yc : Nat → Int32} {x q : Int32} {i n : Nat} (h1 : n ≤ i) (h2 : i ≤ n) (h : hoI yc x i q) : hoI yc x n q := by
  rw [show n = i by omega]; exact h
noncomputable def hpR (n : Nat) (yc : Nat → Int32) (x y z : Int32) : Int32 := if (x < 0 ∨ 6 < x) ∨ (z < 0 ∨ 35 < z) then -1 else if y < 0 ∨ 9 < y then -2 else @ite Int32 (∃ k, k < n ∧ yc k = z) (Classical.propDecidable _) (-3) (if n = 8 then -4 else nI n)
section
variable {n : Nat} {yc : Nat → Int32} {x y z : Int32}
theorem no_ex (h : ∀ k, k < n → ¬ yc k = z) : ¬ ∃ k, k < n ∧ yc k = z := fun ⟨k, hk, e⟩ => h k hk e
theorem hp_none (h : (x < 0 ∨ 6 < x) ∨ (z < 0 ∨ 35 < z)) : -1 = hpR n yc x y z := by rw [hpR, if_pos h]
theorem hp_g (h1 : ¬ x < 0) (h2 : ¬ 6 < x) (h3 : ¬ z < 0) (h4 : ¬ 35 < z) : ¬ ((x < 0 ∨ 6 < x) ∨ (z < 0 ∨ 35 < z)) := fun q => by
  rcases q with (q | q) | (q | q)
  · exact h1 q
  · exact h2 q
  · exact h3 q
  · exact h4 q
theorem hp_y (h5 : ¬ y < 0) (h6 : ¬ 9 < y) : ¬ (y < 0 ∨ 9 < y) := fun q => by
  rcases q with q | q
  · exact h5 q
  · exact h6 q
theorem hp_bad (h1 : ¬ x < 0) (h2 : ¬ 6 < x) (h3 : ¬ z < 0) (h4 : ¬ 35 < z) (h : y < 0 ∨ 9 < y) : -2 = hpR n yc x y z := by rw [hpR, if_neg (hp_g h1 h2 h3 h4), if_pos h]
theorem hp_state (h1 : ¬ x < 0) (h2 : ¬ 6 < x) (h3 : ¬ z < 0) (h4 : ¬ 35 < z) (h5 : ¬ y < 0) (h6 : ¬ 9 < y) (h : ∃ k, k < n ∧ yc k = z) : -3 = hpR n yc x y z := by rw [hpR, if_neg (hp_g h1 h2 h3 h4), if_neg (hp_y h5 h6), if_pos h]
theorem hp_full (h1 : ¬ x < 0) (h2 : ¬ 6 < x) (h3 : ¬ z < 0) (h4 : ¬ 35 < z) (h5 : ¬ y < 0) (h6 : ¬ 9 < y) (h : ∀ k, k < n → ¬ yc k = z) (h8 : n = 8) : -4 = hpR n yc x y z := by rw [hpR, if_neg (hp_g h1 h2 h3 h4), if_neg (hp_y h5 h6), if_neg (no_ex h), if_pos h8]
theorem hp_ok (h1 : ¬ x < 0) (h2 : ¬ 6 < x) (h3 : ¬ z < 0) (h4 : ¬ 35 < z) (h5 : ¬ y < 0) (h6 : ¬ 9 < y) (h : ∀ k, k < n → ¬ yc k = z) (h8 : ¬ n = 8) : nI n = hpR n yc x y z := by rw [hpR, if_neg (hp_g h1 h2 h3 h4), if_neg (hp_y h5 h6), if_neg (no_ex h), if_neg h8]
end
noncomputable def bkR (n bz : Nat) (x : Int32) : Int32 := if x = -1 then 0 else @ite Int32 (hh n x) (Classical.propDecidable _) (if bz = 12 then -4 else nI (bz + 1)) (-1)
noncomputable def bkN (n bz : Nat) (x : Int32) : Nat := if x = -1 then 0 else @ite Nat (hh n x) (Classical.propDecidable _) (if bz = 12 then bz else bz + 1) bz
section
variable {n bz j : Nat} {x : Int32}
theorem bo_clear (h : x = -1) : 0 = bkR n bz x ∧ 0 = bkN n bz x := ⟨by rw [bkR, if_pos h], by rw [bkN, if_pos h]⟩
theorem bo_none (h : ¬ x = -1) (h2 : ∀ j : Nat, j < n → x ≠ nI j) : -1 = bkR n bz x ∧ bz = bkN n bz x := ⟨by rw [bkR, if_neg h, if_neg (hh_no h2)], by rw [bkN, if_neg h, if_neg (hh_no h2)]⟩
theorem bo_full (hn : n ≤ 8) (hj : j < n) (h : bz = 12) : -4 = bkR n bz (nI j) ∧ bz = bkN n bz (nI j) := ⟨by rw [bkR, if_neg (nI_nm1 (by omega)), if_pos (hh_yes hj), if_pos h], by rw [bkN, if_neg (nI_nm1 (by omega)), if_pos (hh_yes hj), if_pos h]⟩
theorem bo_one (hn : n ≤ 8) (hj : j < n) (h : ¬ bz = 12) : nI (bz + 1) = bkR n bz (nI j) ∧ bz + 1 = bkN n bz (nI j) := ⟨by rw [bkR, if_neg (nI_nm1 (by omega)), if_pos (hh_yes hj), if_neg h], by rw [bkN, if_neg (nI_nm1 (by omega)), if_pos (hh_yes hj), if_neg h]⟩
theorem bkN_le (h : bz ≤ 12) : bkN n bz x ≤ 12 := by
  by_cases h1 : x = -1
  · rw [bkN, if_pos h1]; omega
  · by_cases h2 : hh n x
    · by_cases h3 : bz = 12
      · rw [bkN, if_neg h1, if_pos h2, if_pos h3]; omega
      · rw [bkN, if_neg h1, if_pos h2, if_neg h3]; omega
    · rw [bkN, if_neg h1, if_neg h2]; exact h
end
/-- one kind under another -/
noncomputable abbrev isU (kind k : Int32) : Prop := k = 0 ∨ k = kind ∨ (k = 1 ∧ kind = 4) ∨ (k = 2 ∧ kind = 5) ∨ (k = 3 ∧ kind = 6)
theorem isU_a {x y : Int32} (h0 : ¬ y = 0) (h1 : ¬ y = x) (h2 : y ≤ 0) : ¬ isU x y := fun q => by
  rcases q with h | h | ⟨h, _⟩ | ⟨h, _⟩ | ⟨h, _⟩
  · exact h0 h
  · exact h1 h
  · rw [h] at h2; exact absurd h2 (by decide)
  · rw [h] at h2; exact absurd h2 (by decide)
  · rw [h] at h2; exact absurd h2 (by decide)
theorem isU_b {x y : Int32} (h0 : ¬ y = 0) (h1 : ¬ y = x) (h2 : 4 ≤ y) : ¬ isU x y := fun q => by
  rcases q with h | h | ⟨h, _⟩ | ⟨h, _⟩ | ⟨h, _⟩
  · exact h0 h
  · exact h1 h
  · rw [h] at h2; exact absurd h2 (by decide)
  · rw [h] at h2; exact absurd h2 (by decide)
  · rw [h] at h2; exact absurd h2 (by decide)
theorem isU_1 {x : Int32} (h1 : ¬ (1 : Int32) = x) (h2 : ¬ x = 4) : ¬ isU x 1 := fun q => by
  rcases q with h | h | ⟨_, h⟩ | ⟨h, _⟩ | ⟨h, _⟩
  · exact absurd h (by decide)
  · exact h1 h
  · exact h2 h
  · exact absurd h (by decide)
  · exact absurd h (by decide)
theorem isU_2 {x : Int32} (h1 : ¬ (2 : Int32) = x) (h2 : ¬ x = 5) : ¬ isU x 2 := fun q => by
  rcases q with h | h | ⟨h, _⟩ | ⟨_, h⟩ | ⟨h, _⟩
  · exact absurd h (by decide)
  · exact h1 h
  · exact absurd h (by decide)
  · exact h2 h
  · exact absurd h (by decide)
theorem isU_3 {x : Int32} (h1 : ¬ (3 : Int32) = x) (h2 : ¬ x = 6) : ¬ isU x 3 := fun q => by
  rcases q with h | h | ⟨h, _⟩ | ⟨h, _⟩ | ⟨_, h⟩
  · exact absurd h (by decide)
  · exact h1 h
  · exact absurd h (by decide)
  · exact absurd h (by decide)
  · exact h2 h
noncomputable def asR (n : Nat) (yk yv : Nat → Int32) (x y : Int32) : Int32 := @ite Int32 (hh n x) (Classical.propDecidable _) (if y < 0 ∨ 6 < y then -1 else if isU (yk x.toNatClampNeg) y then yv x.toNatClampNeg else -6) (-1)
section
variable {n j : Nat} {yk yv : Nat → Int32} {x y : Int32}
theorem as_y (h1 : ¬ y < 0) (h2 : ¬ 6 < y) : ¬ (y < 0 ∨ 6 < y) := fun q => q.elim h1 h2
theorem as_no (h : ∀ j : Nat, j < n → x ≠ nI j) : -1 = asR n yk yv x y := by rw [asR, if_neg (hh_no h)]
theorem as_bad (hn : n ≤ 8) (hj : j < n) (h : y < 0 ∨ 6 < y) : -1 = asR n yk yv (nI j) y := by rw [asR, if_pos (hh_yes hj), if_pos h]
theorem as_yes (hn : n ≤ 8) (hj : j < n) (h1 : ¬ y < 0) (h2 : ¬ 6 < y) (hU : isU (yk j) y) : yv j = asR n yk yv (nI j) y := by rw [asR, if_pos (hh_yes hj), if_neg (as_y h1 h2), nI_clamp (by omega), if_pos hU]
theorem as_not (hn : n ≤ 8) (hj : j < n) (h1 : ¬ y < 0) (h2 : ¬ 6 < y) (hU : ¬ isU (yk j) y) : -6 = asR n yk yv (nI j) y := by rw [asR, if_pos (hh_yes hj), if_neg (as_y h1 h2), nI_clamp (by omega), if_neg hU]
end
noncomputable def nxW (a b c : Int32) : Int32 := 3 * (c / 6) - 3 * (b / 6) + a / 6
noncomputable def nxL (a b c : Int32) : Int32 := 3 * (c - c / 6 * 6) - 3 * (b - b / 6 * 6) + (a - a / 6 * 6)
noncomputable def nxA (a b c : Int32) : Int32 := if (nxW a b c < 0 ∨ 5 < nxW a b c) ∨ (nxL a b c < 0 ∨ 5 < nxL a b c) then -5 else nxW a b c * 6 + nxL a b c
noncomputable def nxR (n : Nat) (yc : Nat → Int32) (x y z : Int32) : Int32 := @ite Int32 (hh n x ∧ hh n y ∧ hh n z) (Classical.propDecidable _) (nxA (yc x.toNatClampNeg) (yc y.toNatClampNeg) (yc z.toNatClampNeg)) (-1)
section
variable {n j1 j2 j3 : Nat} {yc : Nat → Int32} {x y z : Int32}
theorem nx_no1 (h : ∀ j : Nat, j < n → x ≠ nI j) : -1 = nxR n yc x y z := by rw [nxR, if_neg (show ¬ (hh n x ∧ hh n y ∧ hh n z) from fun q => hh_no h q.1)]
theorem nx_no2 (h : ∀ j : Nat, j < n → y ≠ nI j) : -1 = nxR n yc x y z := by rw [nxR, if_neg (show ¬ (hh n x ∧ hh n y ∧ hh n z) from fun q => hh_no h q.2.1)]
theorem nx_no3 (h : ∀ j : Nat, j < n → z ≠ nI j) : -1 = nxR n yc x y z := by rw [nxR, if_neg (show ¬ (hh n x ∧ hh n y ∧ hh n z) from fun q => hh_no h q.2.2)]
theorem nx_all (hn : n ≤ 8) (h1 : j1 < n) (h2 : j2 < n) (h3 : j3 < n) : nxR n yc (nI j1) (nI j2) (nI j3) = nxA (yc j1) (yc j2) (yc j3) := by rw [nxR, if_pos ⟨hh_yes h1, hh_yes h2, hh_yes h3⟩, nI_clamp (by omega), nI_clamp (by omega), nI_clamp (by omega)]
theorem nx_off (hn : n ≤ 8) (h1 : j1 < n) (h2 : j2 < n) (h3 : j3 < n) (h : (nxW (yc j1) (yc j2) (yc j3) < 0 ∨ 5 < nxW (yc j1) (yc j2) (yc j3)) ∨ (nxL (yc j1) (yc j2) (yc j3) < 0 ∨ 5 < nxL (yc j1) (yc j2) (yc j3))) : -5 = nxR n yc (nI j1) (nI j2) (nI j3) := by rw [nx_all hn h1 h2 h3, nxA, if_pos h]
theorem nx_on (hn : n ≤ 8) (h1 : j1 < n) (h2 : j2 < n) (h3 : j3 < n) (g1 : ¬ nxW (yc j1) (yc j2) (yc j3) < 0) (g2 : ¬ 5 < nxW (yc j1) (yc j2) (yc j3)) (g3 : ¬ nxL (yc j1) (yc j2) (yc j3) < 0) (g4 : ¬ 5 < nxL (yc j1) (yc j2) (yc j3)) : nxW (yc j1) (yc j2) (yc j3) * 6 + nxL (yc j1) (yc j2) (yc j3) = nxR n yc (nI j1) (nI j2) (nI j3) := by
  have hg : ¬ ((nxW (yc j1) (yc j2) (yc j3) < 0 ∨ 5 < nxW (yc j1) (yc j2) (yc j3)) ∨ (nxL (yc j1) (yc j2) (yc j3) < 0 ∨ 5 < nxL (yc j1) (yc j2) (yc j3))) := fun q => by
    rcases q with (q | q) | (q | q)
    · exact g1 q
    · exact g2 q
    · exact g3 q
    · exact g4 q
  rw [nx_all hn h1 h2 h3, nxA, if_neg hg]
theorem nx_in (hn : n ≤ 8) (h1 : j1 < n) (h2 : j2 < n) (h3 : j3 < n) (g1 : ¬ nxW (yc j1) (yc j2) (yc j3) < 0) (g2 : ¬ 5 < nxW (yc j1) (yc j2) (yc j3)) (g3 : ¬ nxL (yc j1) (yc j2) (yc j3) < 0) (g4 : ¬ 5 < nxL (yc j1) (yc j2) (yc j3)) : 6 * nxW (yc j1) (yc j2) (yc j3) + nxL (yc j1) (yc j2) (yc j3) = nxR n yc (nI j1) (nI j2) (nI j3) := by
  rw [Int32.mul_comm]; exact nx_on hn h1 h2 h3 g1 g2 g3 g4
end
theorem hill_off {a b : Int32} (h : (a < 0 ∨ 6 ≤ a) ∨ (b < 0 ∨ 6 ≤ b)) : (a < 0 ∨ 5 < a) ∨ (b < 0 ∨ 5 < b) := by
  rcases h with (h | h) | (h | h)
  · exact Or.inl (Or.inl h)
  · exact Or.inl (Or.inr (le6_lt5 h))
  · exact Or.inr (Or.inl h)
  · exact Or.inr (Or.inr (le6_lt5 h))
theorem hp_cell {z : Int32} (h : z < 0 ∨ 36 ≤ z) : z < 0 ∨ 35 < z := h.imp id le36_lt35
/-! acts: what they answer, which bodies run -/
noncomputable def acS (k m v x : Int32) : Int32 := if isU k 1 then x * 3 + m else if k = 5 then (x + m) ^^^ m else x + m
noncomputable def acG (k m v x : Int32) : Int32 := if isU k 2 then -(acS k m v x - v) else if k = 6 then acS k m v x - v + v else acS k m v x - v
noncomputable def acL (k m v x : Int32) : Int32 := if isU k 3 then (acG k m v x * 2) ^^^ 7 else if k = 4 then acG k m v (x - 1) * 2 + acS k m v 2 else acG k m v x * 2
noncomputable def btS (k : Int32) : List Nat := if isU k 1 then [11, 1] else if k = 5 then [51, 1] else [1]
noncomputable def btG (k : Int32) : List Nat := if isU k 2 then 21 :: 2 :: btS k else if k = 6 then 61 :: 2 :: btS k else 2 :: btS k
noncomputable def btL (k : Int32) : List Nat := if isU k 3 then 31 :: 3 :: btG k else if k = 4 then 41 :: 3 :: (btG k ++ btS k) else 3 :: btG k
section
variable {k m v x : Int32}
theorem acS_1 (h : isU k 1) : x * 3 + m = acS k m v x := by rw [acS, if_pos h]
theorem acS_5 (h : ¬ isU k 1) (h2 : k = 5) : (x + m) ^^^ m = acS k m v x := by rw [acS, if_neg h, if_pos h2]
theorem acS_0 (h : ¬ isU k 1) (h2 : ¬ k = 5) : x + m = acS k m v x := by rw [acS, if_neg h, if_neg h2]
theorem acG_2 (h : isU k 2) : -(acS k m v x - v) = acG k m v x := by rw [acG, if_pos h]
theorem acG_6 (h : ¬ isU k 2) (h2 : k = 6) : acS k m v x - v + v = acG k m v x := by rw [acG, if_neg h, if_pos h2]
theorem acG_0 (h : ¬ isU k 2) (h2 : ¬ k = 6) : acS k m v x - v = acG k m v x := by rw [acG, if_neg h, if_neg h2]
theorem acL_3 (h : isU k 3) : (acG k m v x * 2) ^^^ 7 = acL k m v x := by rw [acL, if_pos h]
theorem acL_4 (h : ¬ isU k 3) (h2 : k = 4) : acG k m v (x - 1) * 2 + acS k m v 2 = acL k m v x := by rw [acL, if_neg h, if_pos h2]
theorem acL_0 (h : ¬ isU k 3) (h2 : ¬ k = 4) : acG k m v x * 2 = acL k m v x := by rw [acL, if_neg h, if_neg h2]
theorem btS_1 (h : isU k 1) : btS k = [11, 1] := if_pos h
theorem btS_5 (h : ¬ isU k 1) (h2 : k = 5) : btS k = [51, 1] := by rw [btS, if_neg h, if_pos h2]
theorem btS_0 (h : ¬ isU k 1) (h2 : ¬ k = 5) : btS k = [1] := by rw [btS, if_neg h, if_neg h2]
theorem btG_2 (h : isU k 2) : btG k = 21 :: 2 :: btS k := if_pos h
theorem btG_6 (h : ¬ isU k 2) (h2 : k = 6) : btG k = 61 :: 2 :: btS k := by rw [btG, if_neg h, if_pos h2]
theorem btG_0 (h : ¬ isU k 2) (h2 : ¬ k = 6) : btG k = 2 :: btS k := by rw [btG, if_neg h, if_neg h2]
theorem btL_3 (h : isU k 3) : btL k = 31 :: 3 :: btG k := if_pos h
theorem btL_4 (h : ¬ isU k 3) (h2 : k = 4) : btL k = 41 :: 3 :: (btG k ++ btS k) := by rw [btL, if_neg h, if_pos h2]
theorem btL_0 (h : ¬ isU k 3) (h2 : ¬ k = 4) : btL k = 3 :: btG k := by rw [btL, if_neg h, if_neg h2]
theorem btS_le (k : Int32) : (btS k).length ≤ 2 := by
  by_cases h : isU k 1
  · rw [btS_1 h]; exact Nat.le_refl _
  · by_cases h2 : k = 5
    · rw [btS_5 h h2]; exact Nat.le_refl _
    · rw [btS_0 h h2]; exact Nat.le_of_ble_eq_true rfl
theorem btG_le (k : Int32) : (btG k).length ≤ 4 := by
  have q := btS_le k
  by_cases h : isU k 2
  · rw [btG_2 h]; simp only [List.length_cons]; omega
  · by_cases h2 : k = 6
    · rw [btG_6 h h2]; simp only [List.length_cons]; omega
    · rw [btG_0 h h2]; simp only [List.length_cons]; omega
theorem btL_le (k : Int32) : (btL k).length ≤ 8 := by
  have q := btS_le k
  have q2 := btG_le k
  by_cases h : isU k 3
  · rw [btL_3 h]; simp only [List.length_cons]; omega
  · by_cases h2 : k = 4
    · rw [btL_4 h h2]; simp only [List.length_cons, List.length_append]; omega
    · rw [btL_0 h h2]; simp only [List.length_cons]; omega
end
noncomputable def acR (n : Nat) (yk yv : Nat → Int32) (x y z : Int32) : Int32 := @ite Int32 (hh n x) (Classical.propDecidable _) (if y = 0 then acS (yk x.toNatClampNeg) x (yv x.toNatClampNeg) z else if y = 1 then acG (yk x.toNatClampNeg) x (yv x.toNatClampNeg) z else if y = 2 then acL (yk x.toNatClampNeg) x (yv x.toNatClampNeg) z else 0) 0
noncomputable def acT (n : Nat) (yk : Nat → Int32) (x y : Int32) : List Nat := @ite (List Nat) (hh n x) (Classical.propDecidable _) (if y = 0 then btS (yk x.toNatClampNeg) else if y = 1 then btG (yk x.toNatClampNeg) else if y = 2 then btL (yk x.toNatClampNeg) else []) []
section
variable {n j : Nat} {yk yv : Nat → Int32} {x y z : Int32}
theorem ac_no (h : ∀ j : Nat, j < n → x ≠ nI j) : 0 = acR n yk yv x y z ∧ acT n yk x y = [] := ⟨by rw [acR, if_neg (hh_no h)], by rw [acT, if_neg (hh_no h)]⟩
theorem ac_bad (hj : j < n) (h0 : ¬ y = 0) (h1 : ¬ y = 1) (h2 : ¬ y = 2) : 0 = acR n yk yv (nI j) y z ∧ acT n yk (nI j) y = [] := ⟨by rw [acR, if_pos (hh_yes hj), if_neg h0, if_neg h1, if_neg h2], by rw [acT, if_pos (hh_yes hj), if_neg h0, if_neg h1, if_neg h2]⟩
theorem ac_bad2 (hj : j < n) (h : y < 0 ∨ 2 < y) : 0 = acR n yk yv (nI j) y z ∧ acT n yk (nI j) y = [] := by
  refine ac_bad hj (fun e => ?_) (fun e => ?_) (fun e => ?_)
  · rw [e] at h; exact absurd h (by decide)
  · rw [e] at h; exact absurd h (by decide)
  · rw [e] at h; exact absurd h (by decide)
theorem ac_0 (hn : n ≤ 8) (hj : j < n) (h : y = 0) : acS (yk j) (nI j) (yv j) z = acR n yk yv (nI j) y z ∧ acT n yk (nI j) y = btS (yk j) := ⟨by rw [acR, if_pos (hh_yes hj), if_pos h, nI_clamp (by omega)], by rw [acT, if_pos (hh_yes hj), if_pos h, nI_clamp (by omega)]⟩
theorem ac_1 (hn : n ≤ 8) (hj : j < n) (h : y = 1) : acG (yk j) (nI j) (yv j) z = acR n yk yv (nI j) y z ∧ acT n yk (nI j) y = btG (yk j) := by
  subst h
  exact ⟨by rw [acR, if_pos (hh_yes hj), if_neg (by decide), if_pos rfl, nI_clamp (by omega)], by rw [acT, if_pos (hh_yes hj), if_neg (by decide), if_pos rfl, nI_clamp (by omega)]⟩
theorem ac_2 (hn : n ≤ 8) (hj : j < n) (h : y = 2) : acL (yk j) (nI j) (yv j) z = acR n yk yv (nI j) y z ∧ acT n yk (nI j) y = btL (yk j) := by
  subst h
  exact ⟨by rw [acR, if_pos (hh_yes hj), if_neg (by decide), if_neg (by decide), if_pos rfl, nI_clamp (by omega)], by rw [acT, if_pos (hh_yes hj), if_neg (by decide), if_neg (by decide), if_pos rfl, nI_clamp (by omega)]⟩
theorem y_is2 (h1 : ¬ y < 0) (h2 : ¬ 2 < y) (h3 : ¬ y = 0) (h4 : ¬ y = 1) : y = 2 := by
  obtain ⟨i, hi, rfl⟩ := nI_of2 (n := 2) (M := 2) (x := y) rfl h1 (Int32.not_lt.mp h2)
  have e : i = 0 ∨ i = 1 ∨ i = 2 := by omega
  rcases e with rfl | rfl | rfl
  · exact absurd rfl h3
  · exact absurd rfl h4
  · rfl
theorem acT_le : (acT n yk x y).length ≤ 8 := by
  by_cases h : hh n x
  · rw [acT, if_pos h]
    have q1 := btS_le (yk x.toNatClampNeg)
    have q2 := btG_le (yk x.toNatClampNeg)
    have q3 := btL_le (yk x.toNatClampNeg)
    split
    · omega
    · split
      · omega
      · split
        · omega
        · exact Nat.zero_le _
  · rw [acT, if_neg h]; exact Nat.zero_le _
end
/-! the bodies of the last act -/
theorem getD_l {L M : List Nat} {k : Nat} (h : k < L.length) : (L ++ M).getD k 0 = L.getD k 0 := by
  rw [List.getD_eq_getElem?_getD, List.getElem?_append_left h, ← List.getD_eq_getElem?_getD]
theorem getD_r {L : List Nat} {b : Nat} : (L ++ [b]).getD L.length 0 = b := by
  rw [List.getD_eq_getElem?_getD, List.getElem?_append_right (Nat.le_refl _), Nat.sub_self]; rfl
noncomputable def okY (f : Nat → Int32) (L : List Nat) : Prop := ∀ k, k < L.length → f k = nI (L.getD k 0)
theorem okY_nil {f : Nat → Int32} : okY f [] := fun k h => absurd h (Nat.not_lt_zero k)
theorem okY_add {f : Nat → Int32} {L : List Nat} {b : Nat} (h : okY f L) : okY (upd f L.length (nI b)) (L ++ [b]) := by
  intro k hk
  rw [List.length_append] at hk
  have hk : k < L.length + 1 := hk
  by_cases q : k = L.length
  · subst q; rw [pk_us, getD_r]
  · rw [pk_un q, getD_l (by omega)]; exact h k (by omega)
noncomputable def trR (L : List Nat) (x : Int32) : Int32 := @ite Int32 (hh L.length x) (Classical.propDecidable _) (nI (L.getD x.toNatClampNeg 0)) (-1)
theorem tr_no {L : List Nat} {x : Int32} (h : ∀ j : Nat, j < L.length → x ≠ nI j) : -1 = trR L x := by rw [trR, if_neg (hh_no h)]
theorem tr_yes {L : List Nat} {j : Nat} (hL : L.length ≤ 100) (hj : j < L.length) : nI (L.getD j 0) = trR L (nI j) := by rw [trR, if_pos (hh_yes hj), nI_clamp (by omega)]
theorem trL_of {x : Int32} {k : Nat} (hk : k ≤ 20) (h1 : ¬ x < 0) (h2 : ¬ nI k - 1 < x) : ∃ j : Nat, j < k ∧ x = nI j := by
  rcases isheap_of (n := k) (r := 1) (h := x) (by omega) (Or.inl ⟨rfl, h1, h2⟩) with ⟨_, j, hj, e⟩ | ⟨e, _⟩
  · exact ⟨j, hj, e⟩
  · exact absurd e (by decide)
theorem trL_no {x : Int32} {k : Nat} (hk : k ≤ 20) (h : x < 0 ∨ nI k - 1 < x) : ∀ j : Nat, j < k → x ≠ nI j := by
  rcases isheap_of (n := k) (r := 0) (h := x) (by omega) (Or.inr ⟨rfl, h⟩) with ⟨e, _⟩ | ⟨_, q⟩
  · exact absurd e (by decide)
  · exact q

theorem kc_isHeap_0 : ∀ w ∈ wsX120, w ∈ wsX12_isHeap := fun w h => List.mem_cons_of_mem _ (gin_wsX120 w h)
theorem kc_isHeap_1 : (.fieldLink RX12 9 "MistHeapsModel" "s" "[I" : Cond) ∈ wsX12_isHeap := kc_of 1141 rfl rfl rfl
set_option maxHeartbeats 4000000 in
set_option maxRecDepth 100000 in
theorem c_isHeap (l : Launch) (dC : Nat → ClassId) (dI : Nat → Nat → Nat) (m0 aS aI aB aT aG aO aN aD aY : Nat) (th im ac sp en wg op se dn rn kd nu tv : Int32) (bv : Int64) (cS : ClassId) (fS : Nat → Int32) (n : Nat) (x : Int32) (zn : fS 0 = nI n) (hn : n ≤ 8) : Met l yX12_isHeap wsX12_isHeap ({ frames := 1, cells := 0, slots := 0, locals := 22 } : Room) (va_Pc [.ref m0, .int x] (fun U => va_P (dC, dI) vwCl [(zo14irriiiiiirriirrrrlriiii m0 th aS aI im ac sp en wg op aB aT se dn aG aO aN aD bv aY rn kd nu tv), (zaI aS cS 901 fS)] U.heap ∧ va_K (dC, dI) vwCl [(cS, .int)] U)) (vp_Si (fun r => (r = 1 ∧ ∃ j : Nat, j < n ∧ x = nI j) ∨ (r = 0 ∧ ∀ j : Nat, j < n → x ≠ nI j))) 0 0 (fun _ => False) := by
  refine met_ofQ (cc := cX12_isHeap) (maxL := 2) (ret := (some .boolean)) (by decide) rfl ?_
  intro p e s m args below meth c s₁ Q B hml hv hQ
  obtain ⟨rfl, hP, hK⟩ := hv
  have hx := B.exec
  have hb := B.bytes
  have hr := B.returns
  have hts := atoms_spec (ws := wsX12_isHeap) B.pre
  have hown : s.vm.findClass RX12 = some m.cls := findClass_of_methodNamed B.named
  have hlocks := B.notSynchronized
  obtain ⟨A, hAe⟩ : ∃ A : Nat → Prop, A = fun _ => False := ⟨_, rfl⟩
  rw [← hAe] at hQ
  have hS : va_S A s.heap s.heap [] := va_S.rf
  have hl := lv_entry [.ref m0, .int x] (n := 2) (Nat.le_of_ble_eq_true rfl)
  rw [lg_entry_eq]
  generalize (lg_sl [.ref m0, .int x] ++ List.replicate (2 - (lg_sl [.ref m0, .int x]).length) Slot.unset).toArray = ls at hl ⊢
  generalize hag : ([.ref m0, .int x] : List Value).toArray = args at hts hQ ⊢
  have hl : lv_has ls 2 [(0, .ref m0), (1, .int x)] := hl
  refine lv_iload_n hx hb dX12_isHeap_0 rfl (lv_at hl 1 rfl) ?_
  refine lv_iconst (v := 0) hx hb dX12_isHeap_1 (by decide) ?_
  refine lv_aload_n hx hb dX12_isHeap_2 rfl (lv_at hl 0 rfl) ?_
  refine va_get (D := (dC, dI)) (ci := 14) (v := .ref aS) (C := RX12) (T := TX12) (N := 23) hx hb hts kc_isHeap_0 hown hK hP 0 rfl rfl 1 (by decide) (hts (.fieldLink RX12 9 "MistHeapsModel" "s" "[I") kc_isHeap_1) (fun _ h9 => h9) rfl dX12_isHeap_3 ?_
  refine lv_iconst (v := 0) hx hb dX12_isHeap_6 (by decide) ?_
  refine va_iald hx hb hK hP 1 0 rfl rfl (vp_in_nI (n := 0) (N := 901) (by omega) (by omega)) dX12_isHeap_7 ?_
  refine qi_as (y := nI n) ((show fS (0 : Int32).toNatClampNeg = fS 0 from rfl).trans (zn)) ?_
  refine lv_iconst (v := 1) hx hb dX12_isHeap_8 (by decide) ?_
  refine lv_isub hx hb dX12_isHeap_9 ?_
  refine vp_callSi (va_runS (As := [.int x, .int 0, .int ((nI n) - 1)]) (rest := []) ⟨hx, hb, hml, hown, hts⟩ (c_in l dC dI x 0 (nI n - 1)) (va_cwS 3 hts gX12_isHeap_X12_in rfl rfl rfl hd_yX12_in.2 ⟨Nat.le_of_ble_eq_true rfl, Nat.le_of_ble_eq_true rfl⟩) ⟨fun a U g mk q => ⟨q.1, trivial⟩, fun U hU hW => ⟨rfl, trivial⟩⟩ rfl rfl hl.1 rfl (lv_room (Nat.le_of_ble_eq_true rfl)) dX12_isHeap_10 ⟨Nat.le_of_ble_eq_true rfl, Nat.le_of_ble_eq_true rfl⟩).run (fun r_1 hw_2 => ?_)
  rw [hQ]
  exact W.zret (v := r_1) hx hb hr (by rcases hw_2 with ⟨e, _⟩ | ⟨e, _⟩ <;> rw [e] <;> rfl) (fun tQ htQ hWQ => ⟨r_1, rfl, isheap_of (by omega) hw_2, by rw [htQ]⟩) (fun q hq => absurd hq List.not_mem_nil) dX12_isHeap_13
