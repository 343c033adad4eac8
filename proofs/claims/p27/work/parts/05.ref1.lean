section mg05
theorem ggX12_isCell_X12_in : GoodIn wsX12_isCell wsX12_in := gga_of 1217 rfl rfl rfl
theorem gX12_isCell_X12_in : GoodIn wsX12_isCell (va_wsS RX12 45 yX12_in wsX12_in) := goodIn_app (ggh_of [1215, 1216, 72] rfl rfl rfl) ggX12_isCell_X12_in
theorem ggX12_columnsOf_X12_in : GoodIn wsX12_columnsOf wsX12_in := gga_of 1217 rfl rfl rfl
theorem gX12_columnsOf_X12_in : GoodIn wsX12_columnsOf (va_wsS RX12 45 yX12_in wsX12_in) := goodIn_app (ggh_of [1215, 1216, 72] rfl rfl rfl) ggX12_columnsOf_X12_in
theorem ggX12_nextTo_X12_rowsOf : GoodIn wsX12_nextTo wsX12_rowsOf := gga_of 1370 rfl rfl rfl
theorem gX12_nextTo_X12_rowsOf : GoodIn wsX12_nextTo (va_wsS RX12 53 yX12_rowsOf wsX12_rowsOf) := goodIn_app (ggh_of [1368, 1369, 72] rfl rfl rfl) ggX12_nextTo_X12_rowsOf
theorem ggX12_nextTo_X12_columnsOf : GoodIn wsX12_nextTo wsX12_columnsOf := gga_of 1376 rfl rfl rfl
theorem gX12_nextTo_X12_columnsOf : GoodIn wsX12_nextTo (va_wsS RX12 56 yX12_columnsOf wsX12_columnsOf) := goodIn_app (ggh_of [1374, 1375, 72] rfl rfl rfl) ggX12_nextTo_X12_columnsOf
theorem ggX12_nextTo_X12_in : GoodIn wsX12_nextTo wsX12_in := gga_of 1217 rfl rfl rfl
theorem gX12_nextTo_X12_in : GoodIn wsX12_nextTo (va_wsS RX12 45 yX12_in wsX12_in) := goodIn_app (ggh_of [1215, 1216, 72] rfl rfl rfl) ggX12_nextTo_X12_in
theorem ggX12_apart_X12_size : GoodIn wsX12_apart wsX12_size := gga_of 1346 rfl rfl rfl
theorem gX12_apart_X12_size : GoodIn wsX12_apart (va_wsS RX12 49 yX12_size wsX12_size) := goodIn_app (ggh_of [1344, 1345, 72] rfl rfl rfl) ggX12_apart_X12_size
theorem ggX12_isHeap_X12_in : GoodIn wsX12_isHeap wsX12_in := gga_of 1217 rfl rfl rfl
theorem gX12_isHeap_X12_in : GoodIn wsX12_isHeap (va_wsS RX12 45 yX12_in wsX12_in) := goodIn_app (ggh_of [1215, 1216, 72] rfl rfl rfl) ggX12_isHeap_X12_in
noncomputable def dk05ref1_cX12_in_0 : List (Nat × Instr × Nat) := [(0, .iload_n 0, 1), (1, .iload_n 1, 1), (2, .if_icmp .lt 12, 3), (14, .iconst 0, 1), (15, .ireturn, 1), (5, .iload_n 0, 1), (6, .iload_n 2, 1), (7, .if_icmp .gt 7, 3), (10, .iconst 1, 1), (11, .goto 4, 3)]
set_option maxRecDepth 100000 in
theorem dk05ref1_cX12_in_0_a : dkA cX12_in dk05ref1_cX12_in_0 = true := by decide +kernel
theorem dX12_in_0 : decode cX12_in 0 = .ok (.iload_n 0, 1) := dkAt dk05ref1_cX12_in_0_a 0 rfl
theorem dX12_in_1 : decode cX12_in 1 = .ok (.iload_n 1, 1) := dkAt dk05ref1_cX12_in_0_a 1 rfl
theorem dX12_in_2 : decode cX12_in 2 = .ok (.if_icmp .lt 12, 3) := dkAt dk05ref1_cX12_in_0_a 2 rfl
theorem dX12_in_14 : decode cX12_in 14 = .ok (.iconst 0, 1) := dkAt dk05ref1_cX12_in_0_a 3 rfl
theorem dX12_in_15 : decode cX12_in 15 = .ok (.ireturn, 1) := dkAt dk05ref1_cX12_in_0_a 4 rfl
theorem dX12_in_5 : decode cX12_in 5 = .ok (.iload_n 0, 1) := dkAt dk05ref1_cX12_in_0_a 5 rfl
theorem dX12_in_6 : decode cX12_in 6 = .ok (.iload_n 2, 1) := dkAt dk05ref1_cX12_in_0_a 6 rfl
theorem dX12_in_7 : decode cX12_in 7 = .ok (.if_icmp .gt 7, 3) := dkAt dk05ref1_cX12_in_0_a 7 rfl
theorem dX12_in_10 : decode cX12_in 10 = .ok (.iconst 1, 1) := dkAt dk05ref1_cX12_in_0_a 8 rfl
theorem dX12_in_11 : decode cX12_in 11 = .ok (.goto 4, 3) := dkAt dk05ref1_cX12_in_0_a 9 rfl
noncomputable def dk05ref1_cX12_size_0 : List (Nat × Instr × Nat) := [(0, .iload_n 0, 1), (1, .ifCond .ge 8, 3), (9, .iload_n 0, 1), (10, .ireturn, 1), (4, .iload_n 0, 1), (5, .ineg, 1), (6, .goto 4, 3)]
set_option maxRecDepth 100000 in
theorem dk05ref1_cX12_size_0_a : dkA cX12_size dk05ref1_cX12_size_0 = true := by decide +kernel
theorem dX12_size_0 : decode cX12_size 0 = .ok (.iload_n 0, 1) := dkAt dk05ref1_cX12_size_0_a 0 rfl
theorem dX12_size_1 : decode cX12_size 1 = .ok (.ifCond .ge 8, 3) := dkAt dk05ref1_cX12_size_0_a 1 rfl
theorem dX12_size_9 : decode cX12_size 9 = .ok (.iload_n 0, 1) := dkAt dk05ref1_cX12_size_0_a 2 rfl
theorem dX12_size_10 : decode cX12_size 10 = .ok (.ireturn, 1) := dkAt dk05ref1_cX12_size_0_a 3 rfl
theorem dX12_size_4 : decode cX12_size 4 = .ok (.iload_n 0, 1) := dkAt dk05ref1_cX12_size_0_a 4 rfl
theorem dX12_size_5 : decode cX12_size 5 = .ok (.ineg, 1) := dkAt dk05ref1_cX12_size_0_a 5 rfl
theorem dX12_size_6 : decode cX12_size 6 = .ok (.goto 4, 3) := dkAt dk05ref1_cX12_size_0_a 6 rfl
noncomputable def dk05ref1_cX12_isCell_0 : List (Nat × Instr × Nat) := [(0, .iload_n 0, 1), (1, .iconst 0, 1), (2, .bipush 35, 2), (4, .invokestatic 45, 3), (7, .ireturn, 1)]
set_option maxRecDepth 100000 in
theorem dk05ref1_cX12_isCell_0_a : dkA cX12_isCell dk05ref1_cX12_isCell_0 = true := by decide +kernel
theorem dX12_isCell_0 : decode cX12_isCell 0 = .ok (.iload_n 0, 1) := dkAt dk05ref1_cX12_isCell_0_a 0 rfl
theorem dX12_isCell_1 : decode cX12_isCell 1 = .ok (.iconst 0, 1) := dkAt dk05ref1_cX12_isCell_0_a 1 rfl
theorem dX12_isCell_2 : decode cX12_isCell 2 = .ok (.bipush 35, 2) := dkAt dk05ref1_cX12_isCell_0_a 2 rfl
theorem dX12_isCell_4 : decode cX12_isCell 4 = .ok (.invokestatic 45, 3) := dkAt dk05ref1_cX12_isCell_0_a 3 rfl
theorem dX12_isCell_7 : decode cX12_isCell 7 = .ok (.ireturn, 1) := dkAt dk05ref1_cX12_isCell_0_a 4 rfl
noncomputable def dk05ref1_cX12_rowsOf_0 : List (Nat × Instr × Nat) := [(0, .iload_n 0, 1), (1, .bipush 7, 2), (3, .if_icmp .eq 8, 3), (11, .iconst (-1), 1), (12, .goto 19, 3), (31, .ireturn, 1), (6, .iload_n 0, 1), (7, .iconst 2, 1), (8, .if_icmp .ge 7, 3), (15, .iload_n 0, 1), (16, .iconst 2, 1), (17, .if_icmp .le 13, 3), (30, .iconst 0, 1), (20, .iload_n 0, 1), (21, .bipush 6, 2), (23, .if_icmp .ge 7, 3), (26, .iconst 1, 1), (27, .goto 4, 3)]
set_option maxRecDepth 100000 in
theorem dk05ref1_cX12_rowsOf_0_a : dkA cX12_rowsOf dk05ref1_cX12_rowsOf_0 = true := by decide +kernel
theorem dX12_rowsOf_0 : decode cX12_rowsOf 0 = .ok (.iload_n 0, 1) := dkAt dk05ref1_cX12_rowsOf_0_a 0 rfl
theorem dX12_rowsOf_1 : decode cX12_rowsOf 1 = .ok (.bipush 7, 2) := dkAt dk05ref1_cX12_rowsOf_0_a 1 rfl
theorem dX12_rowsOf_3 : decode cX12_rowsOf 3 = .ok (.if_icmp .eq 8, 3) := dkAt dk05ref1_cX12_rowsOf_0_a 2 rfl
theorem dX12_rowsOf_11 : decode cX12_rowsOf 11 = .ok (.iconst (-1), 1) := dkAt dk05ref1_cX12_rowsOf_0_a 3 rfl
theorem dX12_rowsOf_12 : decode cX12_rowsOf 12 = .ok (.goto 19, 3) := dkAt dk05ref1_cX12_rowsOf_0_a 4 rfl
theorem dX12_rowsOf_31 : decode cX12_rowsOf 31 = .ok (.ireturn, 1) := dkAt dk05ref1_cX12_rowsOf_0_a 5 rfl
theorem dX12_rowsOf_6 : decode cX12_rowsOf 6 = .ok (.iload_n 0, 1) := dkAt dk05ref1_cX12_rowsOf_0_a 6 rfl
theorem dX12_rowsOf_7 : decode cX12_rowsOf 7 = .ok (.iconst 2, 1) := dkAt dk05ref1_cX12_rowsOf_0_a 7 rfl
theorem dX12_rowsOf_8 : decode cX12_rowsOf 8 = .ok (.if_icmp .ge 7, 3) := dkAt dk05ref1_cX12_rowsOf_0_a 8 rfl
theorem dX12_rowsOf_15 : decode cX12_rowsOf 15 = .ok (.iload_n 0, 1) := dkAt dk05ref1_cX12_rowsOf_0_a 9 rfl
theorem dX12_rowsOf_16 : decode cX12_rowsOf 16 = .ok (.iconst 2, 1) := dkAt dk05ref1_cX12_rowsOf_0_a 10 rfl
theorem dX12_rowsOf_17 : decode cX12_rowsOf 17 = .ok (.if_icmp .le 13, 3) := dkAt dk05ref1_cX12_rowsOf_0_a 11 rfl
theorem dX12_rowsOf_30 : decode cX12_rowsOf 30 = .ok (.iconst 0, 1) := dkAt dk05ref1_cX12_rowsOf_0_a 12 rfl
theorem dX12_rowsOf_20 : decode cX12_rowsOf 20 = .ok (.iload_n 0, 1) := dkAt dk05ref1_cX12_rowsOf_0_a 13 rfl
theorem dX12_rowsOf_21 : decode cX12_rowsOf 21 = .ok (.bipush 6, 2) := dkAt dk05ref1_cX12_rowsOf_0_a 14 rfl
theorem dX12_rowsOf_23 : decode cX12_rowsOf 23 = .ok (.if_icmp .ge 7, 3) := dkAt dk05ref1_cX12_rowsOf_0_a 15 rfl
theorem dX12_rowsOf_26 : decode cX12_rowsOf 26 = .ok (.iconst 1, 1) := dkAt dk05ref1_cX12_rowsOf_0_a 16 rfl
theorem dX12_rowsOf_27 : decode cX12_rowsOf 27 = .ok (.goto 4, 3) := dkAt dk05ref1_cX12_rowsOf_0_a 17 rfl
noncomputable def dk05ref1_cX12_columnsOf_0 : List (Nat × Instr × Nat) := [(0, .iload_n 0, 1), (1, .iconst 1, 1), (2, .iconst 3, 1), (3, .invokestatic 45, 3), (6, .ifCond .eq 7, 3), (9, .iconst 1, 1), (10, .goto 13, 3), (23, .ireturn, 1), (13, .iload_n 0, 1), (14, .iconst 4, 1), (15, .if_icmp .le 7, 3), (22, .iconst 0, 1), (18, .iconst (-1), 1), (19, .goto 4, 3)]
set_option maxRecDepth 100000 in
theorem dk05ref1_cX12_columnsOf_0_a : dkA cX12_columnsOf dk05ref1_cX12_columnsOf_0 = true := by decide +kernel
theorem dX12_columnsOf_0 : decode cX12_columnsOf 0 = .ok (.iload_n 0, 1) := dkAt dk05ref1_cX12_columnsOf_0_a 0 rfl
theorem dX12_columnsOf_1 : decode cX12_columnsOf 1 = .ok (.iconst 1, 1) := dkAt dk05ref1_cX12_columnsOf_0_a 1 rfl
theorem dX12_columnsOf_2 : decode cX12_columnsOf 2 = .ok (.iconst 3, 1) := dkAt dk05ref1_cX12_columnsOf_0_a 2 rfl
theorem dX12_columnsOf_3 : decode cX12_columnsOf 3 = .ok (.invokestatic 45, 3) := dkAt dk05ref1_cX12_columnsOf_0_a 3 rfl
theorem dX12_columnsOf_6 : decode cX12_columnsOf 6 = .ok (.ifCond .eq 7, 3) := dkAt dk05ref1_cX12_columnsOf_0_a 4 rfl
theorem dX12_columnsOf_9 : decode cX12_columnsOf 9 = .ok (.iconst 1, 1) := dkAt dk05ref1_cX12_columnsOf_0_a 5 rfl
theorem dX12_columnsOf_10 : decode cX12_columnsOf 10 = .ok (.goto 13, 3) := dkAt dk05ref1_cX12_columnsOf_0_a 6 rfl
theorem dX12_columnsOf_23 : decode cX12_columnsOf 23 = .ok (.ireturn, 1) := dkAt dk05ref1_cX12_columnsOf_0_a 7 rfl
theorem dX12_columnsOf_13 : decode cX12_columnsOf 13 = .ok (.iload_n 0, 1) := dkAt dk05ref1_cX12_columnsOf_0_a 8 rfl
theorem dX12_columnsOf_14 : decode cX12_columnsOf 14 = .ok (.iconst 4, 1) := dkAt dk05ref1_cX12_columnsOf_0_a 9 rfl
theorem dX12_columnsOf_15 : decode cX12_columnsOf 15 = .ok (.if_icmp .le 7, 3) := dkAt dk05ref1_cX12_columnsOf_0_a 10 rfl
theorem dX12_columnsOf_22 : decode cX12_columnsOf 22 = .ok (.iconst 0, 1) := dkAt dk05ref1_cX12_columnsOf_0_a 11 rfl
theorem dX12_columnsOf_18 : decode cX12_columnsOf 18 = .ok (.iconst (-1), 1) := dkAt dk05ref1_cX12_columnsOf_0_a 12 rfl
theorem dX12_columnsOf_19 : decode cX12_columnsOf 19 = .ok (.goto 4, 3) := dkAt dk05ref1_cX12_columnsOf_0_a 13 rfl
noncomputable def dk05ref1_cX12_nextTo_0 : List (Nat × Instr × Nat) := [(0, .iload_n 0, 1), (1, .bipush 6, 2), (3, .idiv, 1), (4, .iload_n 1, 1), (5, .invokestatic 53, 3), (8, .iadd, 1), (9, .istore_n 2, 1), (10, .iload_n 0, 1), (11, .bipush 6, 2), (13, .irem, 1), (14, .iload_n 1, 1), (15, .invokestatic 56, 3), (18, .iadd, 1), (19, .istore_n 3, 1), (20, .iload_n 2, 1), (21, .iconst 0, 1), (22, .iconst 5, 1), (23, .invokestatic 45, 3), (26, .ifCond .eq 21, 3), (29, .iload_n 3, 1), (30, .iconst 0, 1), (31, .iconst 5, 1), (32, .invokestatic 45, 3), (35, .ifCond .eq 12, 3), (38, .bipush 6, 2), (40, .iload_n 2, 1), (41, .imul, 1), (42, .iload_n 3, 1), (43, .iadd, 1), (44, .goto 4, 3), (48, .ireturn, 1), (47, .iload_n 0, 1)]
set_option maxRecDepth 100000 in
theorem dk05ref1_cX12_nextTo_0_a : dkA cX12_nextTo dk05ref1_cX12_nextTo_0 = true := by decide +kernel
theorem dX12_nextTo_0 : decode cX12_nextTo 0 = .ok (.iload_n 0, 1) := dkAt dk05ref1_cX12_nextTo_0_a 0 rfl
theorem dX12_nextTo_1 : decode cX12_nextTo 1 = .ok (.bipush 6, 2) := dkAt dk05ref1_cX12_nextTo_0_a 1 rfl
theorem dX12_nextTo_3 : decode cX12_nextTo 3 = .ok (.idiv, 1) := dkAt dk05ref1_cX12_nextTo_0_a 2 rfl
theorem dX12_nextTo_4 : decode cX12_nextTo 4 = .ok (.iload_n 1, 1) := dkAt dk05ref1_cX12_nextTo_0_a 3 rfl
theorem dX12_nextTo_5 : decode cX12_nextTo 5 = .ok (.invokestatic 53, 3) := dkAt dk05ref1_cX12_nextTo_0_a 4 rfl
theorem dX12_nextTo_8 : decode cX12_nextTo 8 = .ok (.iadd, 1) := dkAt dk05ref1_cX12_nextTo_0_a 5 rfl
theorem dX12_nextTo_9 : decode cX12_nextTo 9 = .ok (.istore_n 2, 1) := dkAt dk05ref1_cX12_nextTo_0_a 6 rfl
theorem dX12_nextTo_10 : decode cX12_nextTo 10 = .ok (.iload_n 0, 1) := dkAt dk05ref1_cX12_nextTo_0_a 7 rfl
theorem dX12_nextTo_11 : decode cX12_nextTo 11 = .ok (.bipush 6, 2) := dkAt dk05ref1_cX12_nextTo_0_a 8 rfl
theorem dX12_nextTo_13 : decode cX12_nextTo 13 = .ok (.irem, 1) := dkAt dk05ref1_cX12_nextTo_0_a 9 rfl
theorem dX12_nextTo_14 : decode cX12_nextTo 14 = .ok (.iload_n 1, 1) := dkAt dk05ref1_cX12_nextTo_0_a 10 rfl
theorem dX12_nextTo_15 : decode cX12_nextTo 15 = .ok (.invokestatic 56, 3) := dkAt dk05ref1_cX12_nextTo_0_a 11 rfl
theorem dX12_nextTo_18 : decode cX12_nextTo 18 = .ok (.iadd, 1) := dkAt dk05ref1_cX12_nextTo_0_a 12 rfl
theorem dX12_nextTo_19 : decode cX12_nextTo 19 = .ok (.istore_n 3, 1) := dkAt dk05ref1_cX12_nextTo_0_a 13 rfl
theorem dX12_nextTo_20 : decode cX12_nextTo 20 = .ok (.iload_n 2, 1) := dkAt dk05ref1_cX12_nextTo_0_a 14 rfl
theorem dX12_nextTo_21 : decode cX12_nextTo 21 = .ok (.iconst 0, 1) := dkAt dk05ref1_cX12_nextTo_0_a 15 rfl
theorem dX12_nextTo_22 : decode cX12_nextTo 22 = .ok (.iconst 5, 1) := dkAt dk05ref1_cX12_nextTo_0_a 16 rfl
theorem dX12_nextTo_23 : decode cX12_nextTo 23 = .ok (.invokestatic 45, 3) := dkAt dk05ref1_cX12_nextTo_0_a 17 rfl
theorem dX12_nextTo_26 : decode cX12_nextTo 26 = .ok (.ifCond .eq 21, 3) := dkAt dk05ref1_cX12_nextTo_0_a 18 rfl
theorem dX12_nextTo_29 : decode cX12_nextTo 29 = .ok (.iload_n 3, 1) := dkAt dk05ref1_cX12_nextTo_0_a 19 rfl
theorem dX12_nextTo_30 : decode cX12_nextTo 30 = .ok (.iconst 0, 1) := dkAt dk05ref1_cX12_nextTo_0_a 20 rfl
theorem dX12_nextTo_31 : decode cX12_nextTo 31 = .ok (.iconst 5, 1) := dkAt dk05ref1_cX12_nextTo_0_a 21 rfl
theorem dX12_nextTo_32 : decode cX12_nextTo 32 = .ok (.invokestatic 45, 3) := dkAt dk05ref1_cX12_nextTo_0_a 22 rfl
theorem dX12_nextTo_35 : decode cX12_nextTo 35 = .ok (.ifCond .eq 12, 3) := dkAt dk05ref1_cX12_nextTo_0_a 23 rfl
theorem dX12_nextTo_38 : decode cX12_nextTo 38 = .ok (.bipush 6, 2) := dkAt dk05ref1_cX12_nextTo_0_a 24 rfl
theorem dX12_nextTo_40 : decode cX12_nextTo 40 = .ok (.iload_n 2, 1) := dkAt dk05ref1_cX12_nextTo_0_a 25 rfl
theorem dX12_nextTo_41 : decode cX12_nextTo 41 = .ok (.imul, 1) := dkAt dk05ref1_cX12_nextTo_0_a 26 rfl
theorem dX12_nextTo_42 : decode cX12_nextTo 42 = .ok (.iload_n 3, 1) := dkAt dk05ref1_cX12_nextTo_0_a 27 rfl
theorem dX12_nextTo_43 : decode cX12_nextTo 43 = .ok (.iadd, 1) := dkAt dk05ref1_cX12_nextTo_0_a 28 rfl
theorem dX12_nextTo_44 : decode cX12_nextTo 44 = .ok (.goto 4, 3) := dkAt dk05ref1_cX12_nextTo_0_a 29 rfl
theorem dX12_nextTo_48 : decode cX12_nextTo 48 = .ok (.ireturn, 1) := dkAt dk05ref1_cX12_nextTo_0_a 30 rfl
theorem dX12_nextTo_47 : decode cX12_nextTo 47 = .ok (.iload_n 0, 1) := dkAt dk05ref1_cX12_nextTo_0_a 31 rfl
noncomputable def dk05ref1_cX12_isThatSide_0 : List (Nat × Instr × Nat) := [(0, .iload_n 0, 1), (1, .ifCond .eq 21, 3), (22, .iconst 1, 1), (23, .goto 4, 3), (27, .ireturn, 1), (4, .iload_n 0, 1), (5, .ifCond .ge 8, 3), (13, .iload_n 0, 1), (14, .ifCond .le 12, 3), (26, .iconst 0, 1), (17, .iload_n 2, 1), (18, .iload_n 1, 1), (19, .if_icmp .le 7, 3), (8, .iload_n 2, 1), (9, .iload_n 1, 1), (10, .if_icmp .lt 12, 3)]
set_option maxRecDepth 100000 in
theorem dk05ref1_cX12_isThatSide_0_a : dkA cX12_isThatSide dk05ref1_cX12_isThatSide_0 = true := by decide +kernel
theorem dX12_isThatSide_0 : decode cX12_isThatSide 0 = .ok (.iload_n 0, 1) := dkAt dk05ref1_cX12_isThatSide_0_a 0 rfl
theorem dX12_isThatSide_1 : decode cX12_isThatSide 1 = .ok (.ifCond .eq 21, 3) := dkAt dk05ref1_cX12_isThatSide_0_a 1 rfl
theorem dX12_isThatSide_22 : decode cX12_isThatSide 22 = .ok (.iconst 1, 1) := dkAt dk05ref1_cX12_isThatSide_0_a 2 rfl
theorem dX12_isThatSide_23 : decode cX12_isThatSide 23 = .ok (.goto 4, 3) := dkAt dk05ref1_cX12_isThatSide_0_a 3 rfl
theorem dX12_isThatSide_27 : decode cX12_isThatSide 27 = .ok (.ireturn, 1) := dkAt dk05ref1_cX12_isThatSide_0_a 4 rfl
theorem dX12_isThatSide_4 : decode cX12_isThatSide 4 = .ok (.iload_n 0, 1) := dkAt dk05ref1_cX12_isThatSide_0_a 5 rfl
theorem dX12_isThatSide_5 : decode cX12_isThatSide 5 = .ok (.ifCond .ge 8, 3) := dkAt dk05ref1_cX12_isThatSide_0_a 6 rfl
theorem dX12_isThatSide_13 : decode cX12_isThatSide 13 = .ok (.iload_n 0, 1) := dkAt dk05ref1_cX12_isThatSide_0_a 7 rfl
theorem dX12_isThatSide_14 : decode cX12_isThatSide 14 = .ok (.ifCond .le 12, 3) := dkAt dk05ref1_cX12_isThatSide_0_a 8 rfl
theorem dX12_isThatSide_26 : decode cX12_isThatSide 26 = .ok (.iconst 0, 1) := dkAt dk05ref1_cX12_isThatSide_0_a 9 rfl
theorem dX12_isThatSide_17 : decode cX12_isThatSide 17 = .ok (.iload_n 2, 1) := dkAt dk05ref1_cX12_isThatSide_0_a 10 rfl
theorem dX12_isThatSide_18 : decode cX12_isThatSide 18 = .ok (.iload_n 1, 1) := dkAt dk05ref1_cX12_isThatSide_0_a 11 rfl
theorem dX12_isThatSide_19 : decode cX12_isThatSide 19 = .ok (.if_icmp .le 7, 3) := dkAt dk05ref1_cX12_isThatSide_0_a 12 rfl
theorem dX12_isThatSide_8 : decode cX12_isThatSide 8 = .ok (.iload_n 2, 1) := dkAt dk05ref1_cX12_isThatSide_0_a 13 rfl
theorem dX12_isThatSide_9 : decode cX12_isThatSide 9 = .ok (.iload_n 1, 1) := dkAt dk05ref1_cX12_isThatSide_0_a 14 rfl
theorem dX12_isThatSide_10 : decode cX12_isThatSide 10 = .ok (.if_icmp .lt 12, 3) := dkAt dk05ref1_cX12_isThatSide_0_a 15 rfl
noncomputable def dk05ref1_cX12_apart_0 : List (Nat × Instr × Nat) := [(0, .iload_n 0, 1), (1, .bipush 6, 2), (3, .idiv, 1), (4, .iload_n 1, 1), (5, .bipush 6, 2), (7, .idiv, 1), (8, .isub, 1), (9, .invokestatic 49, 3), (12, .istore_n 2, 1), (13, .iload_n 0, 1), (14, .bipush 6, 2), (16, .irem, 1), (17, .iload_n 1, 1), (18, .bipush 6, 2), (20, .irem, 1), (21, .isub, 1), (22, .invokestatic 49, 3), (25, .istore_n 3, 1), (26, .iload_n 2, 1), (27, .iload_n 3, 1), (28, .if_icmp .le 7, 3), (35, .iload_n 3, 1), (36, .ireturn, 1), (31, .iload_n 2, 1), (32, .goto 4, 3)]
set_option maxRecDepth 100000 in
theorem dk05ref1_cX12_apart_0_a : dkA cX12_apart dk05ref1_cX12_apart_0 = true := by decide +kernel
theorem dX12_apart_0 : decode cX12_apart 0 = .ok (.iload_n 0, 1) := dkAt dk05ref1_cX12_apart_0_a 0 rfl
theorem dX12_apart_1 : decode cX12_apart 1 = .ok (.bipush 6, 2) := dkAt dk05ref1_cX12_apart_0_a 1 rfl
theorem dX12_apart_3 : decode cX12_apart 3 = .ok (.idiv, 1) := dkAt dk05ref1_cX12_apart_0_a 2 rfl
theorem dX12_apart_4 : decode cX12_apart 4 = .ok (.iload_n 1, 1) := dkAt dk05ref1_cX12_apart_0_a 3 rfl
theorem dX12_apart_5 : decode cX12_apart 5 = .ok (.bipush 6, 2) := dkAt dk05ref1_cX12_apart_0_a 4 rfl
theorem dX12_apart_7 : decode cX12_apart 7 = .ok (.idiv, 1) := dkAt dk05ref1_cX12_apart_0_a 5 rfl
theorem dX12_apart_8 : decode cX12_apart 8 = .ok (.isub, 1) := dkAt dk05ref1_cX12_apart_0_a 6 rfl
theorem dX12_apart_9 : decode cX12_apart 9 = .ok (.invokestatic 49, 3) := dkAt dk05ref1_cX12_apart_0_a 7 rfl
theorem dX12_apart_12 : decode cX12_apart 12 = .ok (.istore_n 2, 1) := dkAt dk05ref1_cX12_apart_0_a 8 rfl
theorem dX12_apart_13 : decode cX12_apart 13 = .ok (.iload_n 0, 1) := dkAt dk05ref1_cX12_apart_0_a 9 rfl
theorem dX12_apart_14 : decode cX12_apart 14 = .ok (.bipush 6, 2) := dkAt dk05ref1_cX12_apart_0_a 10 rfl
theorem dX12_apart_16 : decode cX12_apart 16 = .ok (.irem, 1) := dkAt dk05ref1_cX12_apart_0_a 11 rfl
theorem dX12_apart_17 : decode cX12_apart 17 = .ok (.iload_n 1, 1) := dkAt dk05ref1_cX12_apart_0_a 12 rfl
theorem dX12_apart_18 : decode cX12_apart 18 = .ok (.bipush 6, 2) := dkAt dk05ref1_cX12_apart_0_a 13 rfl
theorem dX12_apart_20 : decode cX12_apart 20 = .ok (.irem, 1) := dkAt dk05ref1_cX12_apart_0_a 14 rfl
theorem dX12_apart_21 : decode cX12_apart 21 = .ok (.isub, 1) := dkAt dk05ref1_cX12_apart_0_a 15 rfl
theorem dX12_apart_22 : decode cX12_apart 22 = .ok (.invokestatic 49, 3) := dkAt dk05ref1_cX12_apart_0_a 16 rfl
theorem dX12_apart_25 : decode cX12_apart 25 = .ok (.istore_n 3, 1) := dkAt dk05ref1_cX12_apart_0_a 17 rfl
theorem dX12_apart_26 : decode cX12_apart 26 = .ok (.iload_n 2, 1) := dkAt dk05ref1_cX12_apart_0_a 18 rfl
theorem dX12_apart_27 : decode cX12_apart 27 = .ok (.iload_n 3, 1) := dkAt dk05ref1_cX12_apart_0_a 19 rfl
theorem dX12_apart_28 : decode cX12_apart 28 = .ok (.if_icmp .le 7, 3) := dkAt dk05ref1_cX12_apart_0_a 20 rfl
theorem dX12_apart_35 : decode cX12_apart 35 = .ok (.iload_n 3, 1) := dkAt dk05ref1_cX12_apart_0_a 21 rfl
theorem dX12_apart_36 : decode cX12_apart 36 = .ok (.ireturn, 1) := dkAt dk05ref1_cX12_apart_0_a 22 rfl
theorem dX12_apart_31 : decode cX12_apart 31 = .ok (.iload_n 2, 1) := dkAt dk05ref1_cX12_apart_0_a 23 rfl
theorem dX12_apart_32 : decode cX12_apart 32 = .ok (.goto 4, 3) := dkAt dk05ref1_cX12_apart_0_a 24 rfl
noncomputable def dk05ref1_cX12_isHeap_0 : List (Nat × Instr × Nat) := [(0, .iload_n 1, 1), (1, .iconst 0, 1), (2, .aload_n 0, 1), (3, .getfield 9, 3), (6, .iconst 0, 1), (7, .iaload, 1), (8, .iconst 1, 1), (9, .isub, 1), (10, .invokestatic 45, 3), (13, .ireturn, 1)]
set_option maxRecDepth 100000 in
theorem dk05ref1_cX12_isHeap_0_a : dkA cX12_isHeap dk05ref1_cX12_isHeap_0 = true := by decide +kernel
theorem dX12_isHeap_0 : decode cX12_isHeap 0 = .ok (.iload_n 1, 1) := dkAt dk05ref1_cX12_isHeap_0_a 0 rfl
theorem dX12_isHeap_1 : decode cX12_isHeap 1 = .ok (.iconst 0, 1) := dkAt dk05ref1_cX12_isHeap_0_a 1 rfl
theorem dX12_isHeap_2 : decode cX12_isHeap 2 = .ok (.aload_n 0, 1) := dkAt dk05ref1_cX12_isHeap_0_a 2 rfl
theorem dX12_isHeap_3 : decode cX12_isHeap 3 = .ok (.getfield 9, 3) := dkAt dk05ref1_cX12_isHeap_0_a 3 rfl
theorem dX12_isHeap_6 : decode cX12_isHeap 6 = .ok (.iconst 0, 1) := dkAt dk05ref1_cX12_isHeap_0_a 4 rfl
theorem dX12_isHeap_7 : decode cX12_isHeap 7 = .ok (.iaload, 1) := dkAt dk05ref1_cX12_isHeap_0_a 5 rfl
theorem dX12_isHeap_8 : decode cX12_isHeap 8 = .ok (.iconst 1, 1) := dkAt dk05ref1_cX12_isHeap_0_a 6 rfl
theorem dX12_isHeap_9 : decode cX12_isHeap 9 = .ok (.isub, 1) := dkAt dk05ref1_cX12_isHeap_0_a 7 rfl
theorem dX12_isHeap_10 : decode cX12_isHeap 10 = .ok (.invokestatic 45, 3) := dkAt dk05ref1_cX12_isHeap_0_a 8 rfl
theorem dX12_isHeap_13 : decode cX12_isHeap 13 = .ok (.ireturn, 1) := dkAt dk05ref1_cX12_isHeap_0_a 9 rfl
/-! the reference at every state: what its numbers keep to -/
noncomputable def stepd (x : Int32) (d : Nat) : Option Nat := if 0 ≤ x then (if x - x / 8 * 8 < 6 ∧ d < 60 then some (d + 1) else none) else if x = -1 then (if 1 ≤ d then some d else none) else if -10 < x then (if 2 ≤ d then some (d - 1) else none) else some 0
noncomputable def sdep (g : Nat → Int32) : Nat → Option Nat
  | 0 => some 0
  | i + 1 => match sdep g i with
    | none => none
    | some d => stepd (g i) d
noncomputable def okP (f : Nat → Int32) (h : Nat) : Prop := ∃ k : Nat, k ≤ 140 ∧ f (196 + h) = nI k ∧ sdep (fun i => f (201 + 140 * h + i)) k ≠ none
noncomputable def hold (f : Nat → Int32) : Prop := f 5 = -1 ∨ ∃ h : Nat, h < 5 ∧ f 5 = nI h ∧ okP f h
theorem sdep_le {g : Nat → Int32} {k : Nat} (h : sdep g k ≠ none) : ∀ i, i ≤ k → sdep g i ≠ none := by
  induction k with
  | zero => intro i hi; rw [Nat.le_zero.mp hi]; exact h
  | succ k ih =>
    intro i hi
    have h2 : sdep g k ≠ none := fun e => h (by simp only [sdep, e])
    rcases Nat.lt_or_ge i (k + 1) with q | q
    · exact ih h2 i (by omega)
    · rw [show i = k + 1 by omega]; exact h
theorem sdep_step {g : Nat → Int32} {k i d : Nat} (h : sdep g k ≠ none) (hi : i < k) (hd : sdep g i = some d) : ∃ d' : Nat, stepd (g i) d = some d' ∧ sdep g (i + 1) = some d' := by
  have h1 := sdep_le h (i + 1) (by omega)
  have e : sdep g (i + 1) = stepd (g i) d := by simp only [sdep, hd]
  rcases hq : stepd (g i) d with _ | d'
  · exact absurd (e.trans hq) h1
  · exact ⟨d', rfl, e.trans hq⟩
theorem stepd_t {x : Int32} {d d' : Nat} (h : stepd x d = some d') (hx : ¬ x < 0) : d' = d + 1 ∧ d < 60 ∧ ∃ j : Nat, j < 6 ∧ x - x / 8 * 8 = nI j := by
  have hx' : 0 ≤ x := Int32.not_lt.mp hx
  rw [stepd, if_pos hx'] at h
  by_cases q : x - x / 8 * 8 < 6 ∧ d < 60
  · rw [if_pos q] at h
    refine ⟨(Option.some.inj h).symm, q.2, ?_⟩
    obtain ⟨j, hj, rfl⟩ := nI_of hx
    rw [show (8 : Int32) = nI 8 from rfl, pk_rem hj (by omega) (by omega)] at q ⊢
    refine ⟨j % 8, ?_, rfl⟩
    exact (nI_ltI (b := 6) (by omega) (by omega)).mp q.1
  · rw [if_neg q] at h; exact absurd h (by simp)
theorem stepd_n {d d' : Nat} (h : stepd (-1) d = some d') : d' = d ∧ 1 ≤ d := by
  rw [stepd, if_neg (by decide), if_pos rfl] at h
  by_cases q : 1 ≤ d
  · rw [if_pos q] at h; exact ⟨(Option.some.inj h).symm, q⟩
  · rw [if_neg q] at h; exact absurd h (by simp)
theorem stepd_b {x : Int32} {d d' : Nat} (h : stepd x d = some d') (h0 : x < 0) (h1 : ¬ x = -1) (h2 : ¬ x ≤ -10) : d' = d - 1 ∧ 2 ≤ d := by
  rw [stepd, if_neg (Int32.not_le.mpr h0), if_neg h1, if_pos (Int32.not_le.mp h2)] at h
  by_cases q : 2 ≤ d
  · rw [if_pos q] at h; exact ⟨(Option.some.inj h).symm, q⟩
  · rw [if_neg q] at h; exact absurd h (by simp)
theorem stepd_c {x : Int32} {d d' : Nat} (h : stepd x d = some d') (h0 : x < 0) (h1 : ¬ x = -1) (h2 : x ≤ -10) : d' = 0 := by
  rw [stepd, if_neg (Int32.not_le.mpr h0), if_neg h1, if_neg (Int32.not_lt.mpr h2)] at h
  exact (Option.some.inj h).symm
theorem sdep_cong {f g : Nat → Int32} {k : Nat} (h : ∀ i, i < k → g i = f i) : sdep g k = sdep f k := by
  induction k with
  | zero => rfl
  | succ k ih => simp only [sdep, ih (fun i hi => h i (by omega)), h k (by omega)]
theorem hold_of {f g : Nat → Int32} (h : hold f) (he : ∀ i, i < 901 → (i = 5 ∨ 191 ≤ i) → g i = f i) : hold g := by
  rcases h with h | ⟨k, hk, h, n, hn, h2, h3⟩
  · exact Or.inl ((he 5 (by omega) (Or.inl rfl)).trans h)
  · refine Or.inr ⟨k, hk, (he 5 (by omega) (Or.inl rfl)).trans h, n, hn, (he _ (by omega) (Or.inr (by omega))).trans h2, ?_⟩
    rw [sdep_cong (f := fun i => f (201 + 140 * k + i)) (fun i hi => he _ (by omega) (Or.inr (by omega)))]; exact h3
theorem rg64 (x : Int64) : -(2 ^ 63 : Int) ≤ x.toInt ∧ x.toInt < (2 ^ 63 : Int) := ⟨Int64.le_toInt x, Int64.toInt_lt x⟩
theorem lrem_lt {u v : Int64} (hv : ¬ v = 0) : (u - u / v * v).toInt.natAbs < v.toInt.natAbs := by
  have hV : v.toInt ≠ 0 := fun e => hv (Int64.toInt_inj.mp (e.trans rfl))
  have e1 : (u - u / v * v).toInt = (u.toInt - u.toInt.tdiv v.toInt * v.toInt).bmod (2 ^ 64) := by
    rw [Int64.toInt_sub, Int64.toInt_mul, Int64.toInt_div, Int.bmod_mul_bmod, Int.sub_bmod_bmod]
  have e2 : u.toInt - u.toInt.tdiv v.toInt * v.toInt = u.toInt.tmod v.toInt := by
    have := Int.tmod_add_mul_tdiv u.toInt v.toInt
    rw [Int.mul_comm] at this
    omega
  have h3 : (u.toInt.tmod v.toInt).natAbs < v.toInt.natAbs := by
    rw [Int.natAbs_tmod]; exact Nat.mod_lt _ (Int.natAbs_pos.mpr hV)
  have h4 := rg64 v
  rw [e1, e2, Int.bmod_eq_of_le (by omega) (by omega)]
  exact h3
theorem nI_nm1 {n : Nat} (h : n < 2 ^ 31) : ¬ nI n = -1 := fun e => absurd (nI_pos' h) (by rw [e]; decide)
theorem nI_dec {n : Nat} (h : 1 ≤ n) : nI n + (-1) = nI (n - 1) := by
  obtain ⟨m, rfl⟩ : ∃ m, n = m + 1 := ⟨n - 1, by omega⟩
  exact pk_m1 m
theorem rc_of2 {a b : Nat} {x y : Int32} (ha : a ≤ 5) (hb : b ≤ 5) (ex : x = nI a) (ey : y = nI b) : ∃ k : Nat, k < 36 ∧ 6 * x + y = nI k := by
  subst ex ey
  refine ⟨6 * a + b, by omega, ?_⟩
  have e := pk_mul 6 a
  have e2 := nI_add (6 * a) b
  rw [← e2, ← e]
  rfl
theorem isheap_of {r h : Int32} {n : Nat} (hn : n ≤ 100) (q : (r = 1 ∧ ¬ h < 0 ∧ ¬ nI n - 1 < h) ∨ (r = 0 ∧ (h < 0 ∨ nI n - 1 < h))) : (r = 1 ∧ ∃ j : Nat, j < n ∧ h = nI j) ∨ (r = 0 ∧ ∀ j : Nat, j < n → h ≠ nI j) := by
  rcases Nat.eq_zero_or_pos n with e | e
  · subst e
    rcases q with ⟨q1, q2, q3⟩ | ⟨q1, q2⟩
    · exfalso
      have h3 : h ≤ nI 0 - 1 := Int32.not_lt.mp q3
      have h2 : (0 : Int32) ≤ h := Int32.not_lt.mp q2
      exact absurd (Int32.le_trans h2 h3) (by decide)
    · exact Or.inr ⟨q1, fun j hj => absurd hj (Nat.not_lt_zero j)⟩
  · have e1 : nI n - 1 = nI (n - 1) := pk_sub (a := n) (b := 1) e
    rw [e1] at q
    rcases q with ⟨q1, q2, q3⟩ | ⟨q1, q2⟩
    · obtain ⟨j, hj, e2⟩ := nI_of2 (n := n - 1) (nI_toInt (by omega)) q2 (Int32.not_lt.mp q3)
      exact Or.inl ⟨q1, j, by omega, e2⟩
    · refine Or.inr ⟨q1, fun j hj e2 => ?_⟩
      subst e2
      rcases q2 with q2 | q2
      · exact absurd q2 (nI_pos (by omega))
      · exact absurd q2 (nI_nlt (by omega) (by omega))

set_option maxHeartbeats 4000000 in
set_option maxRecDepth 100000 in
theorem c_in (l : Launch) (dC : Nat → ClassId) (dI : Nat → Nat → Nat) (v lo hi : Int32) : Met l yX12_in wsX12_in ({ frames := 0, cells := 0, slots := 0, locals := 0 } : Room) (va_Pc [.int v, .int lo, .int hi] (fun U => True)) (vp_Si (fun r => (r = 1 ∧ ¬ v < lo ∧ ¬ hi < v) ∨ (r = 0 ∧ (v < lo ∨ hi < v)))) 0 0 (fun _ => False) := by
  refine met_ofQ (cc := cX12_in) (maxL := 3) (ret := (some .boolean)) (by decide) rfl ?_
  intro p e s m args below meth c s₁ Q B hml hv hQ
  obtain ⟨rfl, -⟩ := hv
  have hx := B.exec
  have hb := B.bytes
  have hr := B.returns
  have hts := atoms_spec (ws := wsX12_in) B.pre
  have hown : s.vm.findClass RX12 = some m.cls := findClass_of_methodNamed B.named
  have hlocks := B.notSynchronized
  obtain ⟨A, hAe⟩ : ∃ A : Nat → Prop, A = fun _ => False := ⟨_, rfl⟩
  rw [← hAe] at hQ
  have hS : va_S A s.heap s.heap [] := va_S.rf
  have hl := lv_entry [.int v, .int lo, .int hi] (n := 3) (Nat.le_of_ble_eq_true rfl)
  rw [lg_entry_eq]
  generalize (lg_sl [.int v, .int lo, .int hi] ++ List.replicate (3 - (lg_sl [.int v, .int lo, .int hi]).length) Slot.unset).toArray = ls at hl ⊢
  generalize hag : ([.int v, .int lo, .int hi] : List Value).toArray = args at hts hQ ⊢
  have hl : lv_has ls 3 [(0, .int v), (1, .int lo), (2, .int hi)] := hl
  refine lv_iload_n hx hb dX12_in_0 rfl (lv_at hl 0 rfl) ?_
  refine lv_iload_n hx hb dX12_in_1 rfl (lv_at hl 1 rfl) ?_
  refine lv_icmp_lt (tgt := 14) hx hb dX12_in_2 (by decide) (fun c_1 => ?_) (fun c_1 => ?_)
  · skip
    refine lv_iconst (v := 0) hx hb dX12_in_14 (by decide) ?_
    rw [hQ]
    exact W.zret (v := 0) hx hb hr rfl (fun tQ htQ hWQ => ⟨0, rfl, by simp_all, by rw [htQ]⟩) (fun q hq => absurd hq List.not_mem_nil) dX12_in_15
  · skip
    refine lv_iload_n hx hb dX12_in_5 rfl (lv_at hl 0 rfl) ?_
    refine lv_iload_n hx hb dX12_in_6 rfl (lv_at hl 2 rfl) ?_
    refine lv_icmp_gt (tgt := 14) hx hb dX12_in_7 (by decide) (fun c_2 => ?_) (fun c_2 => ?_)
    · skip
      refine lv_iconst (v := 0) hx hb dX12_in_14 (by decide) ?_
      rw [hQ]
      exact W.zret (v := 0) hx hb hr rfl (fun tQ htQ hWQ => ⟨0, rfl, by simp_all, by rw [htQ]⟩) (fun q hq => absurd hq List.not_mem_nil) dX12_in_15
    · skip
      refine lv_iconst (v := 1) hx hb dX12_in_10 (by decide) ?_
      refine lv_goto (tgt := 15) hx hb dX12_in_11 (by decide) ?_
      rw [hQ]
      exact W.zret (v := 1) hx hb hr rfl (fun tQ htQ hWQ => ⟨1, rfl, by simp_all, by rw [htQ]⟩) (fun q hq => absurd hq List.not_mem_nil) dX12_in_15

set_option maxHeartbeats 4000000 in
set_option maxRecDepth 100000 in
theorem c_size (l : Launch) (dC : Nat → ClassId) (dI : Nat → Nat → Nat) (v : Int32) : Met l yX12_size wsX12_size ({ frames := 0, cells := 0, slots := 0, locals := 0 } : Room) (va_Pc [.int v] (fun U => True)) (vp_Si (fun r => True)) 0 0 (fun _ => False) := by
  refine met_ofQ (cc := cX12_size) (maxL := 1) (ret := (some .int)) (by decide) rfl ?_
  intro p e s m args below meth c s₁ Q B hml hv hQ
  obtain ⟨rfl, -⟩ := hv
  have hx := B.exec
  have hb := B.bytes
  have hr := B.returns
  have hts := atoms_spec (ws := wsX12_size) B.pre
  have hown : s.vm.findClass RX12 = some m.cls := findClass_of_methodNamed B.named
  have hlocks := B.notSynchronized
  obtain ⟨A, hAe⟩ : ∃ A : Nat → Prop, A = fun _ => False := ⟨_, rfl⟩
  rw [← hAe] at hQ
  have hS : va_S A s.heap s.heap [] := va_S.rf
  have hl := lv_entry [.int v] (n := 1) (Nat.le_of_ble_eq_true rfl)
  rw [lg_entry_eq]
  generalize (lg_sl [.int v] ++ List.replicate (1 - (lg_sl [.int v]).length) Slot.unset).toArray = ls at hl ⊢
  generalize hag : ([.int v] : List Value).toArray = args at hts hQ ⊢
  have hl : lv_has ls 1 [(0, .int v)] := hl
  refine lv_iload_n hx hb dX12_size_0 rfl (lv_at hl 0 rfl) ?_
  refine lv_if_ge (tgt := 9) hx hb dX12_size_1 (by decide) (fun c_1 => ?_) (fun c_1 => ?_)
  · skip
    refine lv_iload_n hx hb dX12_size_9 rfl (lv_at hl 0 rfl) ?_
    rw [hQ]
    exact W.iret (v := v) hx hb hr (fun tQ htQ hWQ => ⟨v, rfl, trivial, by rw [htQ]⟩) (fun q hq => absurd hq List.not_mem_nil) dX12_size_10
  · skip
    refine lv_iload_n hx hb dX12_size_4 rfl (lv_at hl 0 rfl) ?_
    refine lv_ineg hx hb dX12_size_5 ?_
    refine lv_goto (tgt := 10) hx hb dX12_size_6 (by decide) ?_
    rw [hQ]
    exact W.iret (v := -v) hx hb hr (fun tQ htQ hWQ => ⟨-v, rfl, trivial, by rw [htQ]⟩) (fun q hq => absurd hq List.not_mem_nil) dX12_size_10

set_option maxHeartbeats 4000000 in
set_option maxRecDepth 100000 in
theorem c_mCell (l : Launch) (dC : Nat → ClassId) (dI : Nat → Nat → Nat) (c0 : Int32) : Met l yX12_isCell wsX12_isCell ({ frames := 1, cells := 0, slots := 0, locals := 22 } : Room) (va_Pc [.int c0] (fun U => True)) (vp_Si (fun r => (r = 1 ∧ ¬ c0 < 0 ∧ ¬ 35 < c0) ∨ (r = 0 ∧ (c0 < 0 ∨ 35 < c0)))) 0 0 (fun _ => False) := by
  refine met_ofQ (cc := cX12_isCell) (maxL := 1) (ret := (some .boolean)) (by decide) rfl ?_
  intro p e s m args below meth c s₁ Q B hml hv hQ
  obtain ⟨rfl, -⟩ := hv
  have hx := B.exec
  have hb := B.bytes
  have hr := B.returns
  have hts := atoms_spec (ws := wsX12_isCell) B.pre
  have hown : s.vm.findClass RX12 = some m.cls := findClass_of_methodNamed B.named
  have hlocks := B.notSynchronized
  obtain ⟨A, hAe⟩ : ∃ A : Nat → Prop, A = fun _ => False := ⟨_, rfl⟩
  rw [← hAe] at hQ
  have hS : va_S A s.heap s.heap [] := va_S.rf
  have hl := lv_entry [.int c0] (n := 1) (Nat.le_of_ble_eq_true rfl)
  rw [lg_entry_eq]
  generalize (lg_sl [.int c0] ++ List.replicate (1 - (lg_sl [.int c0]).length) Slot.unset).toArray = ls at hl ⊢
  generalize hag : ([.int c0] : List Value).toArray = args at hts hQ ⊢
  have hl : lv_has ls 1 [(0, .int c0)] := hl
  refine lv_iload_n hx hb dX12_isCell_0 rfl (lv_at hl 0 rfl) ?_
  refine lv_iconst (v := 0) hx hb dX12_isCell_1 (by decide) ?_
  refine lv_bipush (v := 35) hx hb dX12_isCell_2 (by decide) ?_
  refine vp_callSi (va_runS (As := [.int c0, .int 0, .int 35]) (rest := []) ⟨hx, hb, hml, hown, hts⟩ (c_in l dC dI c0 0 35) (va_cwS 3 hts gX12_isCell_X12_in rfl rfl rfl hd_yX12_in.2 ⟨Nat.le_of_ble_eq_true rfl, Nat.le_of_ble_eq_true rfl⟩) ⟨fun a U g mk q => ⟨q.1, trivial⟩, fun U hU hW => ⟨rfl, trivial⟩⟩ rfl rfl hl.1 rfl (lv_room (Nat.le_of_ble_eq_true rfl)) dX12_isCell_4 ⟨Nat.le_of_ble_eq_true rfl, Nat.le_of_ble_eq_true rfl⟩).run (fun r_1 hw_2 => ?_)
  rw [hQ]
  exact W.zret (v := r_1) hx hb hr (by rcases hw_2 with ⟨rfl, _⟩ | ⟨rfl, _⟩ <;> rfl) (fun tQ htQ hWQ => ⟨r_1, rfl, by assumption, by rw [htQ]⟩) (fun q hq => absurd hq List.not_mem_nil) dX12_isCell_7

set_option maxHeartbeats 4000000 in
set_option maxRecDepth 100000 in
theorem c_rowsOf (l : Launch) (dC : Nat → ClassId) (dI : Nat → Nat → Nat) (x : Int32) : Met l yX12_rowsOf wsX12_rowsOf ({ frames := 0, cells := 0, slots := 0, locals := 0 } : Room) (va_Pc [.int x] (fun U => True)) (vp_Si (fun r => True)) 0 0 (fun _ => False) := by
  refine met_ofQ (cc := cX12_rowsOf) (maxL := 1) (ret := (some .int)) (by decide) rfl ?_
  intro p e s m args below meth c s₁ Q B hml hv hQ
  obtain ⟨rfl, -⟩ := hv
  have hx := B.exec
  have hb := B.bytes
  have hr := B.returns
  have hts := atoms_spec (ws := wsX12_rowsOf) B.pre
  have hown : s.vm.findClass RX12 = some m.cls := findClass_of_methodNamed B.named
  have hlocks := B.notSynchronized
  obtain ⟨A, hAe⟩ : ∃ A : Nat → Prop, A = fun _ => False := ⟨_, rfl⟩
  rw [← hAe] at hQ
  have hS : va_S A s.heap s.heap [] := va_S.rf
  have hl := lv_entry [.int x] (n := 1) (Nat.le_of_ble_eq_true rfl)
  rw [lg_entry_eq]
  generalize (lg_sl [.int x] ++ List.replicate (1 - (lg_sl [.int x]).length) Slot.unset).toArray = ls at hl ⊢
  generalize hag : ([.int x] : List Value).toArray = args at hts hQ ⊢
  have hl : lv_has ls 1 [(0, .int x)] := hl
  refine lv_iload_n hx hb dX12_rowsOf_0 rfl (lv_at hl 0 rfl) ?_
  refine lv_bipush (v := 7) hx hb dX12_rowsOf_1 (by decide) ?_
  refine lv_icmp_eq (tgt := 11) hx hb dX12_rowsOf_3 (by decide) (fun c_1 => ?_) (fun c_1 => ?_)
  · skip
    refine lv_iconst (v := (-1)) hx hb dX12_rowsOf_11 (by decide) ?_
    refine lv_goto (tgt := 31) hx hb dX12_rowsOf_12 (by decide) ?_
    rw [hQ]
    exact W.iret (v := (-1)) hx hb hr (fun tQ htQ hWQ => ⟨(-1), rfl, trivial, by rw [htQ]⟩) (fun q hq => absurd hq List.not_mem_nil) dX12_rowsOf_31
  · skip
    refine lv_iload_n hx hb dX12_rowsOf_6 rfl (lv_at hl 0 rfl) ?_
    refine lv_iconst (v := 2) hx hb dX12_rowsOf_7 (by decide) ?_
    refine lv_icmp_ge (tgt := 15) hx hb dX12_rowsOf_8 (by decide) (fun c_2 => ?_) (fun c_2 => ?_)
    · skip
      refine lv_iload_n hx hb dX12_rowsOf_15 rfl (lv_at hl 0 rfl) ?_
      refine lv_iconst (v := 2) hx hb dX12_rowsOf_16 (by decide) ?_
      refine lv_icmp_le (tgt := 30) hx hb dX12_rowsOf_17 (by decide) (fun c_3 => ?_) (fun c_3 => ?_)
      · skip
        refine lv_iconst (v := 0) hx hb dX12_rowsOf_30 (by decide) ?_
        rw [hQ]
        exact W.iret (v := 0) hx hb hr (fun tQ htQ hWQ => ⟨0, rfl, trivial, by rw [htQ]⟩) (fun q hq => absurd hq List.not_mem_nil) dX12_rowsOf_31
      · skip
        refine lv_iload_n hx hb dX12_rowsOf_20 rfl (lv_at hl 0 rfl) ?_
        refine lv_bipush (v := 6) hx hb dX12_rowsOf_21 (by decide) ?_
        refine lv_icmp_ge (tgt := 30) hx hb dX12_rowsOf_23 (by decide) (fun c_4 => ?_) (fun c_4 => ?_)
        · skip
          refine lv_iconst (v := 0) hx hb dX12_rowsOf_30 (by decide) ?_
          rw [hQ]
          exact W.iret (v := 0) hx hb hr (fun tQ htQ hWQ => ⟨0, rfl, trivial, by rw [htQ]⟩) (fun q hq => absurd hq List.not_mem_nil) dX12_rowsOf_31
        · skip
          refine lv_iconst (v := 1) hx hb dX12_rowsOf_26 (by decide) ?_
          refine lv_goto (tgt := 31) hx hb dX12_rowsOf_27 (by decide) ?_
          rw [hQ]
          exact W.iret (v := 1) hx hb hr (fun tQ htQ hWQ => ⟨1, rfl, trivial, by rw [htQ]⟩) (fun q hq => absurd hq List.not_mem_nil) dX12_rowsOf_31
    · skip
      refine lv_iconst (v := (-1)) hx hb dX12_rowsOf_11 (by decide) ?_
      refine lv_goto (tgt := 31) hx hb dX12_rowsOf_12 (by decide) ?_
      rw [hQ]
      exact W.iret (v := (-1)) hx hb hr (fun tQ htQ hWQ => ⟨(-1), rfl, trivial, by rw [htQ]⟩) (fun q hq => absurd hq List.not_mem_nil) dX12_rowsOf_31

set_option maxHeartbeats 4000000 in
set_option maxRecDepth 100000 in
theorem c_columnsOf (l : Launch) (dC : Nat → ClassId) (dI : Nat → Nat → Nat) (x : Int32) : Met l yX12_columnsOf wsX12_columnsOf ({ frames := 1, cells := 0, slots := 0, locals := 22 } : Room) (va_Pc [.int x] (fun U => True)) (vp_Si (fun r => True)) 0 0 (fun _ => False) := by
  refine met_ofQ (cc := cX12_columnsOf) (maxL := 1) (ret := (some .int)) (by decide) rfl ?_
  intro p e s m args below meth c s₁ Q B hml hv hQ
  obtain ⟨rfl, -⟩ := hv
  have hx := B.exec
  have hb := B.bytes
  have hr := B.returns
  have hts := atoms_spec (ws := wsX12_columnsOf) B.pre
  have hown : s.vm.findClass RX12 = some m.cls := findClass_of_methodNamed B.named
  have hlocks := B.notSynchronized
  obtain ⟨A, hAe⟩ : ∃ A : Nat → Prop, A = fun _ => False := ⟨_, rfl⟩
  rw [← hAe] at hQ
  have hS : va_S A s.heap s.heap [] := va_S.rf
  have hl := lv_entry [.int x] (n := 1) (Nat.le_of_ble_eq_true rfl)
  rw [lg_entry_eq]
  generalize (lg_sl [.int x] ++ List.replicate (1 - (lg_sl [.int x]).length) Slot.unset).toArray = ls at hl ⊢
  generalize hag : ([.int x] : List Value).toArray = args at hts hQ ⊢
  have hl : lv_has ls 1 [(0, .int x)] := hl
  refine lv_iload_n hx hb dX12_columnsOf_0 rfl (lv_at hl 0 rfl) ?_
  refine lv_iconst (v := 1) hx hb dX12_columnsOf_1 (by decide) ?_
  refine lv_iconst (v := 3) hx hb dX12_columnsOf_2 (by decide) ?_
  refine vp_callSi (va_runS (As := [.int x, .int 1, .int 3]) (rest := []) ⟨hx, hb, hml, hown, hts⟩ (c_in l dC dI x 1 3) (va_cwS 3 hts gX12_columnsOf_X12_in rfl rfl rfl hd_yX12_in.2 ⟨Nat.le_of_ble_eq_true rfl, Nat.le_of_ble_eq_true rfl⟩) ⟨fun a U g mk q => ⟨q.1, trivial⟩, fun U hU hW => ⟨rfl, trivial⟩⟩ rfl rfl hl.1 rfl (lv_room (Nat.le_of_ble_eq_true rfl)) dX12_columnsOf_3 ⟨Nat.le_of_ble_eq_true rfl, Nat.le_of_ble_eq_true rfl⟩).run (fun r_1 hw_2 => ?_)
  rcases hw_2 with ⟨rfl, h_3, h_4⟩ | ⟨rfl, h_5⟩
  · skip
    refine lv_if_eq (tgt := 13) hx hb dX12_columnsOf_6 (by decide) (fun c_6 => absurd c_6 (by decide)) (fun _ => ?_)
    refine lv_iconst (v := 1) hx hb dX12_columnsOf_9 (by decide) ?_
    refine lv_goto (tgt := 23) hx hb dX12_columnsOf_10 (by decide) ?_
    rw [hQ]
    exact W.iret (v := 1) hx hb hr (fun tQ htQ hWQ => ⟨1, rfl, trivial, by rw [htQ]⟩) (fun q hq => absurd hq List.not_mem_nil) dX12_columnsOf_23
  · skip
    refine lv_if_eq (tgt := 13) hx hb dX12_columnsOf_6 (by decide) (fun _ => ?_) (fun c_7 => absurd c_7 (by decide))
    refine lv_iload_n hx hb dX12_columnsOf_13 rfl (lv_at hl 0 rfl) ?_
    refine lv_iconst (v := 4) hx hb dX12_columnsOf_14 (by decide) ?_
    refine lv_icmp_le (tgt := 22) hx hb dX12_columnsOf_15 (by decide) (fun c_8 => ?_) (fun c_8 => ?_)
    · skip
      refine lv_iconst (v := 0) hx hb dX12_columnsOf_22 (by decide) ?_
      rw [hQ]
      exact W.iret (v := 0) hx hb hr (fun tQ htQ hWQ => ⟨0, rfl, trivial, by rw [htQ]⟩) (fun q hq => absurd hq List.not_mem_nil) dX12_columnsOf_23
    · skip
      refine lv_iconst (v := (-1)) hx hb dX12_columnsOf_18 (by decide) ?_
      refine lv_goto (tgt := 23) hx hb dX12_columnsOf_19 (by decide) ?_
      rw [hQ]
      exact W.iret (v := (-1)) hx hb hr (fun tQ htQ hWQ => ⟨(-1), rfl, trivial, by rw [htQ]⟩) (fun q hq => absurd hq List.not_mem_nil) dX12_columnsOf_23

set_option maxHeartbeats 4000000 in
set_option maxRecDepth 100000 in
theorem c_nextTo (l : Launch) (dC : Nat → ClassId) (dI : Nat → Nat → Nat) (j : Nat) (x : Int32) (zj : j < 36) : Met l yX12_nextTo wsX12_nextTo ({ frames := 2, cells := 0, slots := 0, locals := 42 } : Room) (va_Pc [.int (nI j), .int x] (fun U => True)) (vp_Si (fun r => ∃ k : Nat, k < 36 ∧ r = nI k)) 0 0 (fun _ => False) := by
  refine met_ofQ (cc := cX12_nextTo) (maxL := 4) (ret := (some .int)) (by decide) rfl ?_
  intro p e s m args below meth c s₁ Q B hml hv hQ
  obtain ⟨rfl, -⟩ := hv
  have hx := B.exec
  have hb := B.bytes
  have hr := B.returns
  have hts := atoms_spec (ws := wsX12_nextTo) B.pre
  have hown : s.vm.findClass RX12 = some m.cls := findClass_of_methodNamed B.named
  have hlocks := B.notSynchronized
  obtain ⟨A, hAe⟩ : ∃ A : Nat → Prop, A = fun _ => False := ⟨_, rfl⟩
  rw [← hAe] at hQ
  have hS : va_S A s.heap s.heap [] := va_S.rf
  have hl := lv_entry [.int (nI j), .int x] (n := 4) (Nat.le_of_ble_eq_true rfl)
  rw [lg_entry_eq]
  generalize (lg_sl [.int (nI j), .int x] ++ List.replicate (4 - (lg_sl [.int (nI j), .int x]).length) Slot.unset).toArray = ls at hl ⊢
  generalize hag : ([.int (nI j), .int x] : List Value).toArray = args at hts hQ ⊢
  have hl : lv_has ls 4 [(0, .int (nI j)), (1, .int x)] := hl
  refine lv_iload_n hx hb dX12_nextTo_0 rfl (lv_at hl 0 rfl) ?_
  refine lv_bipush (v := 6) hx hb dX12_nextTo_1 (by decide) ?_
  refine lv_idiv hx hb dX12_nextTo_3 (by decide) ?_
  refine qi_as (y := nI (j / 6)) (pk_div (a := j) (d := 6) (by omega) (by omega) (by omega)) ?_
  refine lv_iload_n hx hb dX12_nextTo_4 rfl (lv_at hl 1 rfl) ?_
  refine vp_callSi (va_runS (As := [.int x]) (rest := [.int (nI (j / 6))]) ⟨hx, hb, hml, hown, hts⟩ (c_rowsOf l dC dI x) (va_cwS 1 hts gX12_nextTo_X12_rowsOf rfl rfl rfl hd_yX12_rowsOf.2 ⟨Nat.le_of_ble_eq_true rfl, Nat.le_of_ble_eq_true rfl⟩) ⟨fun a U g mk q => ⟨q.1, trivial⟩, fun U hU hW => ⟨rfl, trivial⟩⟩ rfl rfl hl.1 rfl (lv_room (Nat.le_of_ble_eq_true rfl)) dX12_nextTo_5 ⟨Nat.le_of_ble_eq_true rfl, Nat.le_of_ble_eq_true rfl⟩).run (fun r_1 hw_2 => ?_)
  refine lv_iadd hx hb dX12_nextTo_8 ?_
  refine lv_istore_n (lv' := [(2, .int ((nI (j / 6)) + r_1)), (0, .int (nI j)), (1, .int x)]) hx hb dX12_nextTo_9 rfl hl (by decide) rfl (fun ls hl => ?_)
  refine lv_iload_n hx hb dX12_nextTo_10 rfl (lv_at hl 1 rfl) ?_
  refine lv_bipush (v := 6) hx hb dX12_nextTo_11 (by decide) ?_
  refine lv_irem hx hb dX12_nextTo_13 (by decide) ?_
  refine qi_as (y := nI (j % 6)) (pk_rem (a := j) (d := 6) (by omega) (by omega) (by omega)) ?_
  refine lv_iload_n hx hb dX12_nextTo_14 rfl (lv_at hl 2 rfl) ?_
  refine vp_callSi (va_runS (As := [.int x]) (rest := [.int (nI (j % 6))]) ⟨hx, hb, hml, hown, hts⟩ (c_columnsOf l dC dI x) (va_cwS 1 hts gX12_nextTo_X12_columnsOf rfl rfl rfl hd_yX12_columnsOf.2 ⟨Nat.le_of_ble_eq_true rfl, Nat.le_of_ble_eq_true rfl⟩) ⟨fun a U g mk q => ⟨q.1, trivial⟩, fun U hU hW => ⟨rfl, trivial⟩⟩ rfl rfl hl.1 rfl (lv_room (Nat.le_of_ble_eq_true rfl)) dX12_nextTo_15 ⟨Nat.le_of_ble_eq_true rfl, Nat.le_of_ble_eq_true rfl⟩).run (fun r_3 hw_4 => ?_)
  refine lv_iadd hx hb dX12_nextTo_18 ?_
  refine lv_istore_n (lv' := [(3, .int ((nI (j % 6)) + r_3)), (2, .int ((nI (j / 6)) + r_1)), (0, .int (nI j)), (1, .int x)]) hx hb dX12_nextTo_19 rfl hl (by decide) rfl (fun ls hl => ?_)
  refine lv_iload_n hx hb dX12_nextTo_20 rfl (lv_at hl 1 rfl) ?_
  refine lv_iconst (v := 0) hx hb dX12_nextTo_21 (by decide) ?_
  refine lv_iconst (v := 5) hx hb dX12_nextTo_22 (by decide) ?_
  refine vp_callSi (va_runS (As := [.int ((nI (j / 6)) + r_1), .int 0, .int 5]) (rest := []) ⟨hx, hb, hml, hown, hts⟩ (c_in l dC dI ((nI (j / 6)) + r_1) 0 5) (va_cwS 3 hts gX12_nextTo_X12_in rfl rfl rfl hd_yX12_in.2 ⟨Nat.le_of_ble_eq_true rfl, Nat.le_of_ble_eq_true rfl⟩) ⟨fun a U g mk q => ⟨q.1, trivial⟩, fun U hU hW => ⟨rfl, trivial⟩⟩ rfl rfl hl.1 rfl (lv_room (Nat.le_of_ble_eq_true rfl)) dX12_nextTo_23 ⟨Nat.le_of_ble_eq_true rfl, Nat.le_of_ble_eq_true rfl⟩).run (fun r_5 hw_6 => ?_)
  rcases hw_6 with ⟨rfl, h_7, h_8⟩ | ⟨rfl, h_9⟩
  · skip
    obtain ⟨ja, hja, eja⟩ := nI_of2 (n := 5) (M := 5) rfl h_7 (Int32.not_lt.mp h_8)
    refine lv_if_eq (tgt := 47) hx hb dX12_nextTo_26 (by decide) (fun c_10 => absurd c_10 (by decide)) (fun _ => ?_)
    refine lv_iload_n hx hb dX12_nextTo_29 rfl (lv_at hl 0 rfl) ?_
    refine lv_iconst (v := 0) hx hb dX12_nextTo_30 (by decide) ?_
    refine lv_iconst (v := 5) hx hb dX12_nextTo_31 (by decide) ?_
    refine vp_callSi (va_runS (As := [.int ((nI (j % 6)) + r_3), .int 0, .int 5]) (rest := []) ⟨hx, hb, hml, hown, hts⟩ (c_in l dC dI ((nI (j % 6)) + r_3) 0 5) (va_cwS 3 hts gX12_nextTo_X12_in rfl rfl rfl hd_yX12_in.2 ⟨Nat.le_of_ble_eq_true rfl, Nat.le_of_ble_eq_true rfl⟩) ⟨fun a U g mk q => ⟨q.1, trivial⟩, fun U hU hW => ⟨rfl, trivial⟩⟩ rfl rfl hl.1 rfl (lv_room (Nat.le_of_ble_eq_true rfl)) dX12_nextTo_32 ⟨Nat.le_of_ble_eq_true rfl, Nat.le_of_ble_eq_true rfl⟩).run (fun r_11 hw_12 => ?_)
    rcases hw_12 with ⟨rfl, h_13, h_14⟩ | ⟨rfl, h_15⟩
    · skip
      obtain ⟨jb, hjb, ejb⟩ := nI_of2 (n := 5) (M := 5) rfl h_13 (Int32.not_lt.mp h_14)
      refine lv_if_eq (tgt := 47) hx hb dX12_nextTo_35 (by decide) (fun c_16 => absurd c_16 (by decide)) (fun _ => ?_)
      refine lv_bipush (v := 6) hx hb dX12_nextTo_38 (by decide) ?_
      refine lv_iload_n hx hb dX12_nextTo_40 rfl (lv_at hl 1 rfl) ?_
      refine lv_imul hx hb dX12_nextTo_41 ?_
      refine lv_iload_n hx hb dX12_nextTo_42 rfl (lv_at hl 0 rfl) ?_
      refine lv_iadd hx hb dX12_nextTo_43 ?_
      refine lv_goto (tgt := 48) hx hb dX12_nextTo_44 (by decide) ?_
      rw [hQ]
      exact W.iret (v := (6 * ((nI (j / 6)) + r_1)) + ((nI (j % 6)) + r_3)) hx hb hr (fun tQ htQ hWQ => ⟨(6 * ((nI (j / 6)) + r_1)) + ((nI (j % 6)) + r_3), rfl, by first | exact ⟨j, zj, rfl⟩ | exact rc_of2 hja hjb eja ejb, by rw [htQ]⟩) (fun q hq => absurd hq List.not_mem_nil) dX12_nextTo_48
    · skip
      refine lv_if_eq (tgt := 47) hx hb dX12_nextTo_35 (by decide) (fun _ => ?_) (fun c_17 => absurd c_17 (by decide))
      refine lv_iload_n hx hb dX12_nextTo_47 rfl (lv_at hl 2 rfl) ?_
      rw [hQ]
      exact W.iret (v := nI j) hx hb hr (fun tQ htQ hWQ => ⟨nI j, rfl, by first | exact ⟨j, zj, rfl⟩ | exact rc_of2 hja hjb eja ejb, by rw [htQ]⟩) (fun q hq => absurd hq List.not_mem_nil) dX12_nextTo_48
  · skip
    refine lv_if_eq (tgt := 47) hx hb dX12_nextTo_26 (by decide) (fun _ => ?_) (fun c_18 => absurd c_18 (by decide))
    refine lv_iload_n hx hb dX12_nextTo_47 rfl (lv_at hl 2 rfl) ?_
    rw [hQ]
    exact W.iret (v := nI j) hx hb hr (fun tQ htQ hWQ => ⟨nI j, rfl, by first | exact ⟨j, zj, rfl⟩ | exact rc_of2 hja hjb eja ejb, by rw [htQ]⟩) (fun q hq => absurd hq List.not_mem_nil) dX12_nextTo_48

set_option maxHeartbeats 4000000 in
set_option maxRecDepth 100000 in
theorem c_side (l : Launch) (dC : Nat → ClassId) (dI : Nat → Nat → Nat) (x y z : Int32) : Met l yX12_isThatSide wsX12_isThatSide ({ frames := 0, cells := 0, slots := 0, locals := 0 } : Room) (va_Pc [.int x, .int y, .int z] (fun U => True)) (vp_Si (fun r => r = 1 ∨ r = 0)) 0 0 (fun _ => False) := by
  refine met_ofQ (cc := cX12_isThatSide) (maxL := 3) (ret := (some .boolean)) (by decide) rfl ?_
  intro p e s m args below meth c s₁ Q B hml hv hQ
  obtain ⟨rfl, -⟩ := hv
  have hx := B.exec
  have hb := B.bytes
  have hr := B.returns
  have hts := atoms_spec (ws := wsX12_isThatSide) B.pre
  have hown : s.vm.findClass RX12 = some m.cls := findClass_of_methodNamed B.named
  have hlocks := B.notSynchronized
  obtain ⟨A, hAe⟩ : ∃ A : Nat → Prop, A = fun _ => False := ⟨_, rfl⟩
  rw [← hAe] at hQ
  have hS : va_S A s.heap s.heap [] := va_S.rf
  have hl := lv_entry [.int x, .int y, .int z] (n := 3) (Nat.le_of_ble_eq_true rfl)
  rw [lg_entry_eq]
  generalize (lg_sl [.int x, .int y, .int z] ++ List.replicate (3 - (lg_sl [.int x, .int y, .int z]).length) Slot.unset).toArray = ls at hl ⊢
  generalize hag : ([.int x, .int y, .int z] : List Value).toArray = args at hts hQ ⊢
  have hl : lv_has ls 3 [(0, .int x), (1, .int y), (2, .int z)] := hl
  refine lv_iload_n hx hb dX12_isThatSide_0 rfl (lv_at hl 0 rfl) ?_
  refine lv_if_eq (tgt := 22) hx hb dX12_isThatSide_1 (by decide) (fun c_1 => ?_) (fun c_1 => ?_)
  · skip
    refine lv_iconst (v := 1) hx hb dX12_isThatSide_22 (by decide) ?_
    refine lv_goto (tgt := 27) hx hb dX12_isThatSide_23 (by decide) ?_
    rw [hQ]
    exact W.zret (v := 1) hx hb hr rfl (fun tQ htQ hWQ => ⟨1, rfl, by first | exact Or.inl rfl | exact Or.inr rfl, by rw [htQ]⟩) (fun q hq => absurd hq List.not_mem_nil) dX12_isThatSide_27
  · skip
    refine lv_iload_n hx hb dX12_isThatSide_4 rfl (lv_at hl 0 rfl) ?_
    refine lv_if_ge (tgt := 13) hx hb dX12_isThatSide_5 (by decide) (fun c_2 => ?_) (fun c_2 => ?_)
    · skip
      refine lv_iload_n hx hb dX12_isThatSide_13 rfl (lv_at hl 0 rfl) ?_
      refine lv_if_le (tgt := 26) hx hb dX12_isThatSide_14 (by decide) (fun c_3 => ?_) (fun c_3 => ?_)
      · skip
        refine lv_iconst (v := 0) hx hb dX12_isThatSide_26 (by decide) ?_
        rw [hQ]
        exact W.zret (v := 0) hx hb hr rfl (fun tQ htQ hWQ => ⟨0, rfl, by first | exact Or.inl rfl | exact Or.inr rfl, by rw [htQ]⟩) (fun q hq => absurd hq List.not_mem_nil) dX12_isThatSide_27
      · skip
        refine lv_iload_n hx hb dX12_isThatSide_17 rfl (lv_at hl 2 rfl) ?_
        refine lv_iload_n hx hb dX12_isThatSide_18 rfl (lv_at hl 1 rfl) ?_
        refine lv_icmp_le (tgt := 26) hx hb dX12_isThatSide_19 (by decide) (fun c_4 => ?_) (fun c_4 => ?_)
        · skip
          refine lv_iconst (v := 0) hx hb dX12_isThatSide_26 (by decide) ?_
          rw [hQ]
          exact W.zret (v := 0) hx hb hr rfl (fun tQ htQ hWQ => ⟨0, rfl, by first | exact Or.inl rfl | exact Or.inr rfl, by rw [htQ]⟩) (fun q hq => absurd hq List.not_mem_nil) dX12_isThatSide_27
        · skip
          refine lv_iconst (v := 1) hx hb dX12_isThatSide_22 (by decide) ?_
          refine lv_goto (tgt := 27) hx hb dX12_isThatSide_23 (by decide) ?_
          rw [hQ]
          exact W.zret (v := 1) hx hb hr rfl (fun tQ htQ hWQ => ⟨1, rfl, by first | exact Or.inl rfl | exact Or.inr rfl, by rw [htQ]⟩) (fun q hq => absurd hq List.not_mem_nil) dX12_isThatSide_27
    · skip
      refine lv_iload_n hx hb dX12_isThatSide_8 rfl (lv_at hl 2 rfl) ?_
      refine lv_iload_n hx hb dX12_isThatSide_9 rfl (lv_at hl 1 rfl) ?_
      refine lv_icmp_lt (tgt := 22) hx hb dX12_isThatSide_10 (by decide) (fun c_5 => ?_) (fun c_5 => ?_)
      · skip
        refine lv_iconst (v := 1) hx hb dX12_isThatSide_22 (by decide) ?_
        refine lv_goto (tgt := 27) hx hb dX12_isThatSide_23 (by decide) ?_
        rw [hQ]
        exact W.zret (v := 1) hx hb hr rfl (fun tQ htQ hWQ => ⟨1, rfl, by first | exact Or.inl rfl | exact Or.inr rfl, by rw [htQ]⟩) (fun q hq => absurd hq List.not_mem_nil) dX12_isThatSide_27
      · skip
        refine lv_iload_n hx hb dX12_isThatSide_13 rfl (lv_at hl 0 rfl) ?_
        refine lv_if_le (tgt := 26) hx hb dX12_isThatSide_14 (by decide) (fun c_6 => ?_) (fun c_6 => ?_)
        · skip
          refine lv_iconst (v := 0) hx hb dX12_isThatSide_26 (by decide) ?_
          rw [hQ]
          exact W.zret (v := 0) hx hb hr rfl (fun tQ htQ hWQ => ⟨0, rfl, by first | exact Or.inl rfl | exact Or.inr rfl, by rw [htQ]⟩) (fun q hq => absurd hq List.not_mem_nil) dX12_isThatSide_27
        · skip
          refine lv_iload_n hx hb dX12_isThatSide_17 rfl (lv_at hl 2 rfl) ?_
          refine lv_iload_n hx hb dX12_isThatSide_18 rfl (lv_at hl 1 rfl) ?_
          refine lv_icmp_le (tgt := 26) hx hb dX12_isThatSide_19 (by decide) (fun c_7 => ?_) (fun c_7 => ?_)
          · skip
            refine lv_iconst (v := 0) hx hb dX12_isThatSide_26 (by decide) ?_
            rw [hQ]
            exact W.zret (v := 0) hx hb hr rfl (fun tQ htQ hWQ => ⟨0, rfl, by first | exact Or.inl rfl | exact Or.inr rfl, by rw [htQ]⟩) (fun q hq => absurd hq List.not_mem_nil) dX12_isThatSide_27
          · skip
            refine lv_iconst (v := 1) hx hb dX12_isThatSide_22 (by decide) ?_
            refine lv_goto (tgt := 27) hx hb dX12_isThatSide_23 (by decide) ?_
            rw [hQ]
            exact W.zret (v := 1) hx hb hr rfl (fun tQ htQ hWQ => ⟨1, rfl, by first | exact Or.inl rfl | exact Or.inr rfl, by rw [htQ]⟩) (fun q hq => absurd hq List.not_mem_nil) dX12_isThatSide_27

set_option maxHeartbeats 4000000 in
set_option maxRecDepth 100000 in
theorem c_apart (l : Launch) (dC : Nat → ClassId) (dI : Nat → Nat → Nat) (x y : Int32) : Met l yX12_apart wsX12_apart ({ frames := 1, cells := 0, slots := 0, locals := 20 } : Room) (va_Pc [.int x, .int y] (fun U => True)) (vp_Si (fun r => True)) 0 0 (fun _ => False) := by
  refine met_ofQ (cc := cX12_apart) (maxL := 4) (ret := (some .int)) (by decide) rfl ?_
  intro p e s m args below meth c s₁ Q B hml hv hQ
  obtain ⟨rfl, -⟩ := hv
  have hx := B.exec
  have hb := B.bytes
  have hr := B.returns
  have hts := atoms_spec (ws := wsX12_apart) B.pre
  have hown : s.vm.findClass RX12 = some m.cls := findClass_of_methodNamed B.named
  have hlocks := B.notSynchronized
  obtain ⟨A, hAe⟩ : ∃ A : Nat → Prop, A = fun _ => False := ⟨_, rfl⟩
  rw [← hAe] at hQ
  have hS : va_S A s.heap s.heap [] := va_S.rf
  have hl := lv_entry [.int x, .int y] (n := 4) (Nat.le_of_ble_eq_true rfl)
  rw [lg_entry_eq]
  generalize (lg_sl [.int x, .int y] ++ List.replicate (4 - (lg_sl [.int x, .int y]).length) Slot.unset).toArray = ls at hl ⊢
  generalize hag : ([.int x, .int y] : List Value).toArray = args at hts hQ ⊢
  have hl : lv_has ls 4 [(0, .int x), (1, .int y)] := hl
  refine lv_iload_n hx hb dX12_apart_0 rfl (lv_at hl 0 rfl) ?_
  refine lv_bipush (v := 6) hx hb dX12_apart_1 (by decide) ?_
  refine lv_idiv hx hb dX12_apart_3 (by decide) ?_
  refine lv_iload_n hx hb dX12_apart_4 rfl (lv_at hl 1 rfl) ?_
  refine lv_bipush (v := 6) hx hb dX12_apart_5 (by decide) ?_
  refine lv_idiv hx hb dX12_apart_7 (by decide) ?_
  refine lv_isub hx hb dX12_apart_8 ?_
  refine vp_callSi (va_runS (As := [.int ((x / 6) - (y / 6))]) (rest := []) ⟨hx, hb, hml, hown, hts⟩ (c_size l dC dI ((x / 6) - (y / 6))) (va_cwS 1 hts gX12_apart_X12_size rfl rfl rfl hd_yX12_size.2 ⟨Nat.le_of_ble_eq_true rfl, Nat.le_of_ble_eq_true rfl⟩) ⟨fun a U g mk q => ⟨q.1, trivial⟩, fun U hU hW => ⟨rfl, trivial⟩⟩ rfl rfl hl.1 rfl (lv_room (Nat.le_of_ble_eq_true rfl)) dX12_apart_9 ⟨Nat.le_of_ble_eq_true rfl, Nat.le_of_ble_eq_true rfl⟩).run (fun r_1 hw_2 => ?_)
  refine lv_istore_n (lv' := [(2, .int r_1), (0, .int x), (1, .int y)]) hx hb dX12_apart_12 rfl hl (by decide) rfl (fun ls hl => ?_)
  refine lv_iload_n hx hb dX12_apart_13 rfl (lv_at hl 1 rfl) ?_
  refine lv_bipush (v := 6) hx hb dX12_apart_14 (by decide) ?_
  refine lv_irem hx hb dX12_apart_16 (by decide) ?_
  refine lv_iload_n hx hb dX12_apart_17 rfl (lv_at hl 2 rfl) ?_
  refine lv_bipush (v := 6) hx hb dX12_apart_18 (by decide) ?_
  refine lv_irem hx hb dX12_apart_20 (by decide) ?_
  refine lv_isub hx hb dX12_apart_21 ?_
  refine vp_callSi (va_runS (As := [.int ((x - x / 6 * 6) - (y - y / 6 * 6))]) (rest := []) ⟨hx, hb, hml, hown, hts⟩ (c_size l dC dI ((x - x / 6 * 6) - (y - y / 6 * 6))) (va_cwS 1 hts gX12_apart_X12_size rfl rfl rfl hd_yX12_size.2 ⟨Nat.le_of_ble_eq_true rfl, Nat.le_of_ble_eq_true rfl⟩) ⟨fun a U g mk q => ⟨q.1, trivial⟩, fun U hU hW => ⟨rfl, trivial⟩⟩ rfl rfl hl.1 rfl (lv_room (Nat.le_of_ble_eq_true rfl)) dX12_apart_22 ⟨Nat.le_of_ble_eq_true rfl, Nat.le_of_ble_eq_true rfl⟩).run (fun r_3 hw_4 => ?_)
  refine lv_istore_n (lv' := [(3, .int r_3), (2, .int r_1), (0, .int x), (1, .int y)]) hx hb dX12_apart_25 rfl hl (by decide) rfl (fun ls hl => ?_)
  refine lv_iload_n hx hb dX12_apart_26 rfl (lv_at hl 1 rfl) ?_
  refine lv_iload_n hx hb dX12_apart_27 rfl (lv_at hl 0 rfl) ?_
  refine lv_icmp_le (tgt := 35) hx hb dX12_apart_28 (by decide) (fun c_5 => ?_) (fun c_5 => ?_)
  · skip
    refine lv_iload_n hx hb dX12_apart_35 rfl (lv_at hl 0 rfl) ?_
    rw [hQ]
    exact W.iret (v := r_3) hx hb hr (fun tQ htQ hWQ => ⟨r_3, rfl, trivial, by rw [htQ]⟩) (fun q hq => absurd hq List.not_mem_nil) dX12_apart_36
  · skip
    refine lv_iload_n hx hb dX12_apart_31 rfl (lv_at hl 1 rfl) ?_
    refine lv_goto (tgt := 36) hx hb dX12_apart_32 (by decide) ?_
    rw [hQ]
    exact W.iret (v := r_1) hx hb hr (fun tQ htQ hWQ => ⟨r_1, rfl, trivial, by rw [htQ]⟩) (fun q hq => absurd hq List.not_mem_nil) dX12_apart_36

/-! what the answers are, as functions of what is visible -/
noncomputable def hh (n : Nat) (x : Int32) : Prop := ∃ j : Nat, j < n ∧ x = nI j
theorem hh_yes {n j : Nat} (h : j < n) : hh n (nI j) := ⟨j, h, rfl⟩
theorem hh_no {n : Nat} {x : Int32} (h : ∀ j : Nat, j < n → x ≠ nI j) : ¬ hh n x := fun ⟨j, hj, e⟩ => h j hj e
theorem i32_step {a b : Nat} (hb : b + 1 < 2 ^ 31) {x : Int32} (h : nI b < x) : nI (b + 1) ≤ x := by
  rw [Int32.le_iff_toInt_le, nI_toInt (by omega)]
  rw [Int32.lt_iff_toInt_lt, nI_toInt (by omega)] at h
  omega
theorem lt6_le7 {x : Int32} (h : 6 < x) : 7 ≤ x := i32_step (a := 0) (b := 6) (by omega) h
theorem le7_lt6 {x : Int32} (h : 7 ≤ x) : 6 < x := Int32.lt_of_lt_of_le (by decide) h
theorem lt5_le6 {x : Int32} (h : 5 < x) : 6 ≤ x := i32_step (a := 0) (b := 5) (by omega) h
theorem le6_lt5 {x : Int32} (h : 6 ≤ x) : 5 < x := Int32.lt_of_lt_of_le (by decide) h
theorem le36_lt35 {x : Int32} (h : 36 ≤ x) : 35 < x := Int32.lt_of_lt_of_le (by decide) h
theorem one3b {y : Int32} (h1 : ¬ y ≤ 0) (h2 : ¬ 4 ≤ y) : y = 1 ∨ y = 2 ∨ y = 3 := by
  have h3 : 0 < y := Int32.not_le.mp h1
  have h4 : y < 4 := Int32.not_le.mp h2
  obtain ⟨j, hj, rfl⟩ := nI_of2 (n := 4) (M := 4) (x := y) rfl (Int32.not_lt.mpr (Int32.le_of_lt h3)) (Int32.le_of_lt h4)
  have h5 : ¬ j = 0 := fun e => by subst e; exact absurd h3 (by decide)
  have h6 : ¬ j = 4 := fun e => by subst e; exact absurd h4 (by decide)
  have e : j = 1 ∨ j = 2 ∨ j = 3 := by omega
  rcases e with rfl | rfl | rfl
  · exact Or.inl rfl
  · exact Or.inr (Or.inl rfl)
  · exact Or.inr (Or.inr rfl)
/-- whether a cell has a heap: the reference's number of it -/
noncomputable def hoI (yc : Nat → Int32) (x : Int32) (i : Nat) (q : Int32) : Prop := (q = -1 ∧ ∀ k, k < i → ¬ yc k = x) ∨ (¬ q = -1 ∧ ∃ k, k < i ∧ yc k = x)
theorem ho_0 {yc : Nat → Int32} {x : Int32} : hoI yc x 0 (-1) := Or.inl ⟨rfl, fun k h => absurd h (Nat.not_lt_zero k)⟩
theorem ho_hit {yc : Nat → Int32} {x : Int32} {i : Nat} (hi : i < 1000) (e : yc i = x) : hoI yc x (i + 1) (nI i) := Or.inr ⟨nI_nm1 (by omega), i, by omega, e⟩
theorem ho_miss {yc : Nat → Int32} {x q : Int32} {i : Nat} (h : hoI yc x i q) (e : ¬ yc i = x) : hoI yc x (i + 1) q := by
  rcases h with ⟨h1, h2⟩ | ⟨h1, k, hk, h2⟩
  · refine Or.inl ⟨h1, fun k hk => ?_⟩
    by_cases z : k = i
    · rw [z]; exact e
    · exact h2 k (by omega)
  · exact Or.inr ⟨h1, k, by omega, h2⟩
theorem ho_end {yc : Nat → Int32} {x q : Int32} {i n : Nat} (h1 : n ≤ i) (h2 : i ≤ n) (h : hoI yc x i q) : hoI yc x n q := by
  rw [show n = i by omega]; exact h
noncomputable def hpR (n : Nat) (yc : Nat → Int32) (x y z : Int32) : Int32 := if (x < 0 ∨ 6 < x) ∨ (z < 0 ∨ 35 < z) then -1 else if y < 0 ∨ 9 < y then -2 else @ite Int32 (∃ k, k < n ∧ yc k = z) (Classical.propDecidable _) (-3) (if n = 8 then -4 else nI n)
section
variable {n : Nat} {yc : Nat → Int32} {x y z : Int32}
theorem no_ex (h : ∀ k, k < n → ¬ yc k = z) : ¬ ∃ k, k < n ∧ yc k = z := fun ⟨k, hk, e⟩ => h k hk e
theorem hp_none (h : (x < 0 ∨ 6 < x) ∨ (z < 0 ∨ 35 < z)) : -1 = hpR n yc x y z := by rw [hpR, if_pos h]
theorem hp_g (h1 : ¬ x < 0) (h2 : ¬ 6 < x) (h3 : ¬ z < 0) (h4 : ¬ 35 < z) : ¬ ((x < 0 ∨ 6 < x) ∨ (z < 0 ∨ 35 < z)) := fun q => by
  rcases q with (q | q) | (q | q)
  · exact h1 q
  · exact h2 q
  · exact h3 q
  · exact h4 q
theorem hp_y (h5 : ¬ y < 0) (h6 : ¬ 9 < y) : ¬ (y < 0 ∨ 9 < y) := fun q => by
  rcases q with q | q
  · exact h5 q
  · exact h6 q
theorem hp_bad (h1 : ¬ x < 0) (h2 : ¬ 6 < x) (h3 : ¬ z < 0) (h4 : ¬ 35 < z) (h : y < 0 ∨ 9 < y) : -2 = hpR n yc x y z := by rw [hpR, if_neg (hp_g h1 h2 h3 h4), if_pos h]
theorem hp_state (h1 : ¬ x < 0) (h2 : ¬ 6 < x) (h3 : ¬ z < 0) (h4 : ¬ 35 < z) (h5 : ¬ y < 0) (h6 : ¬ 9 < y) (h : ∃ k, k < n ∧ yc k = z) : -3 = hpR n yc x y z := by rw [hpR, if_neg (hp_g h1 h2 h3 h4), if_neg (hp_y h5 h6), if_pos h]
theorem hp_full (h1 : ¬ x < 0) (h2 : ¬ 6 < x) (h3 : ¬ z < 0) (h4 : ¬ 35 < z) (h5 : ¬ y < 0) (h6 : ¬ 9 < y) (h : ∀ k, k < n → ¬ yc k = z) (h8 : n = 8) : -4 = hpR n yc x y z := by rw [hpR, if_neg (hp_g h1 h2 h3 h4), if_neg (hp_y h5 h6), if_neg (no_ex h), if_pos h8]
theorem hp_ok (h1 : ¬ x < 0) (h2 : ¬ 6 < x) (h3 : ¬ z < 0) (h4 : ¬ 35 < z) (h5 : ¬ y < 0) (h6 : ¬ 9 < y) (h : ∀ k, k < n → ¬ yc k = z) (h8 : ¬ n = 8) : nI n = hpR n yc x y z := by rw [hpR, if_neg (hp_g h1 h2 h3 h4), if_neg (hp_y h5 h6), if_neg (no_ex h), if_neg h8]
end
noncomputable def bkR (n bz : Nat) (x : Int32) : Int32 := if x = -1 then 0 else @ite Int32 (hh n x) (Classical.propDecidable _) (if bz = 12 then -4 else nI (bz + 1)) (-1)
noncomputable def bkN (n bz : Nat) (x : Int32) : Nat := if x = -1 then 0 else @ite Nat (hh n x) (Classical.propDecidable _) (if bz = 12 then bz else bz + 1) bz
section
variable {n bz j : Nat} {x : Int32}
theorem bo_clear (h : x = -1) : 0 = bkR n bz x ∧ 0 = bkN n bz x := ⟨by rw [bkR, if_pos h], by rw [bkN, if_pos h]⟩
theorem bo_none (h : ¬ x = -1) (h2 : ∀ j : Nat, j < n → x ≠ nI j) : -1 = bkR n bz x ∧ bz = bkN n bz x := ⟨by rw [bkR, if_neg h, if_neg (hh_no h2)], by rw [bkN, if_neg h, if_neg (hh_no h2)]⟩
theorem bo_full (hn : n ≤ 8) (hj : j < n) (h : bz = 12) : -4 = bkR n bz (nI j) ∧ bz = bkN n bz (nI j) := ⟨by rw [bkR, if_neg (nI_nm1 (by omega)), if_pos (hh_yes hj), if_pos h], by rw [bkN, if_neg (nI_nm1 (by omega)), if_pos (hh_yes hj), if_pos h]⟩
theorem bo_one (hn : n ≤ 8) (hj : j < n) (h : ¬ bz = 12) : nI (bz + 1) = bkR n bz (nI j) ∧ bz + 1 = bkN n bz (nI j) := ⟨by rw [bkR, if_neg (nI_nm1 (by omega)), if_pos (hh_yes hj), if_neg h], by rw [bkN, if_neg (nI_nm1 (by omega)), if_pos (hh_yes hj), if_neg h]⟩
theorem bkN_le (h : bz ≤ 12) : bkN n bz x ≤ 12 := by
  by_cases h1 : x = -1
  · rw [bkN, if_pos h1]; omega
  · by_cases h2 : hh n x
    · by_cases h3 : bz = 12
      · rw [bkN, if_neg h1, if_pos h2, if_pos h3]; omega
      · rw [bkN, if_neg h1, if_pos h2, if_neg h3]; omega
    · rw [bkN, if_neg h1, if_neg h2]; exact h
end
/-- one kind under another -/
noncomputable abbrev isU (kind k : Int32) : Prop := k = 0 ∨ k = kind ∨ (k = 1 ∧ kind = 4) ∨ (k = 2 ∧ kind = 5) ∨ (k = 3 ∧ kind = 6)
theorem isU_a {x y : Int32} (h0 : ¬ y = 0) (h1 : ¬ y = x) (h2 : y ≤ 0) : ¬ isU x y := fun q => by
  rcases q with h | h | ⟨h, _⟩ | ⟨h, _⟩ | ⟨h, _⟩
  · exact h0 h
  · exact h1 h
  · rw [h] at h2; exact absurd h2 (by decide)
  · rw [h] at h2; exact absurd h2 (by decide)
  · rw [h] at h2; exact absurd h2 (by decide)
theorem isU_b {x y : Int32} (h0 : ¬ y = 0) (h1 : ¬ y = x) (h2 : 4 ≤ y) : ¬ isU x y := fun q => by
  rcases q with h | h | ⟨h, _⟩ | ⟨h, _⟩ | ⟨h, _⟩
  · exact h0 h
  · exact h1 h
  · rw [h] at h2; exact absurd h2 (by decide)
  · rw [h] at h2; exact absurd h2 (by decide)
  · rw [h] at h2; exact absurd h2 (by decide)
theorem isU_1 {x : Int32} (h1 : ¬ (1 : Int32) = x) (h2 : ¬ x = 4) : ¬ isU x 1 := fun q => by
  rcases q with h | h | ⟨_, h⟩ | ⟨h, _⟩ | ⟨h, _⟩
  · exact absurd h (by decide)
  · exact h1 h
  · exact h2 h
  · exact absurd h (by decide)
  · exact absurd h (by decide)
theorem isU_2 {x : Int32} (h1 : ¬ (2 : Int32) = x) (h2 : ¬ x = 5) : ¬ isU x 2 := fun q => by
  rcases q with h | h | ⟨h, _⟩ | ⟨_, h⟩ | ⟨h, _⟩
  · exact absurd h (by decide)
  · exact h1 h
  · exact absurd h (by decide)
  · exact h2 h
  · exact absurd h (by decide)
theorem isU_3 {x : Int32} (h1 : ¬ (3 : Int32) = x) (h2 : ¬ x = 6) : ¬ isU x 3 := fun q => by
  rcases q with h | h | ⟨h, _⟩ | ⟨h, _⟩ | ⟨_, h⟩
  · exact absurd h (by decide)
  · exact h1 h
  · exact absurd h (by decide)
  · exact absurd h (by decide)
  · exact h2 h
noncomputable def asR (n : Nat) (yk yv : Nat → Int32) (x y : Int32) : Int32 := @ite Int32 (hh n x) (Classical.propDecidable _) (if y < 0 ∨ 6 < y then -1 else if isU (yk x.toNatClampNeg) y then yv x.toNatClampNeg else -6) (-1)
section
variable {n j : Nat} {yk yv : Nat → Int32} {x y : Int32}
theorem as_y (h1 : ¬ y < 0) (h2 : ¬ 6 < y) : ¬ (y < 0 ∨ 6 < y) := fun q => q.elim h1 h2
theorem as_no (h : ∀ j : Nat, j < n → x ≠ nI j) : -1 = asR n yk yv x y := by rw [asR, if_neg (hh_no h)]
theorem as_bad (hn : n ≤ 8) (hj : j < n) (h : y < 0 ∨ 6 < y) : -1 = asR n yk yv (nI j) y := by rw [asR, if_pos (hh_yes hj), if_pos h]
theorem as_yes (hn : n ≤ 8) (hj : j < n) (h1 : ¬ y < 0) (h2 : ¬ 6 < y) (hU : isU (yk j) y) : yv j = asR n yk yv (nI j) y := by rw [asR, if_pos (hh_yes hj), if_neg (as_y h1 h2), nI_clamp (by omega), if_pos hU]
theorem as_not (hn : n ≤ 8) (hj : j < n) (h1 : ¬ y < 0) (h2 : ¬ 6 < y) (hU : ¬ isU (yk j) y) : -6 = asR n yk yv (nI j) y := by rw [asR, if_pos (hh_yes hj), if_neg (as_y h1 h2), nI_clamp (by omega), if_neg hU]
end
noncomputable def nxW (a b c : Int32) : Int32 := 3 * (c / 6) - 3 * (b / 6) + a / 6
noncomputable def nxL (a b c : Int32) : Int32 := 3 * (c - c / 6 * 6) - 3 * (b - b / 6 * 6) + (a - a / 6 * 6)
noncomputable def nxA (a b c : Int32) : Int32 := if (nxW a b c < 0 ∨ 5 < nxW a b c) ∨ (nxL a b c < 0 ∨ 5 < nxL a b c) then -5 else nxW a b c * 6 + nxL a b c
noncomputable def nxR (n : Nat) (yc : Nat → Int32) (x y z : Int32) : Int32 := @ite Int32 (hh n x ∧ hh n y ∧ hh n z) (Classical.propDecidable _) (nxA (yc x.toNatClampNeg) (yc y.toNatClampNeg) (yc z.toNatClampNeg)) (-1)
section
variable {n j1 j2 j3 : Nat} {yc : Nat → Int32} {x y z : Int32}
theorem nx_no1 (h : ∀ j : Nat, j < n → x ≠ nI j) : -1 = nxR n yc x y z := by rw [nxR, if_neg (show ¬ (hh n x ∧ hh n y ∧ hh n z) from fun q => hh_no h q.1)]
theorem nx_no2 (h : ∀ j : Nat, j < n → y ≠ nI j) : -1 = nxR n yc x y z := by rw [nxR, if_neg (show ¬ (hh n x ∧ hh n y ∧ hh n z) from fun q => hh_no h q.2.1)]
theorem nx_no3 (h : ∀ j : Nat, j < n → z ≠ nI j) : -1 = nxR n yc x y z := by rw [nxR, if_neg (show ¬ (hh n x ∧ hh n y ∧ hh n z) from fun q => hh_no h q.2.2)]
theorem nx_all (hn : n ≤ 8) (h1 : j1 < n) (h2 : j2 < n) (h3 : j3 < n) : nxR n yc (nI j1) (nI j2) (nI j3) = nxA (yc j1) (yc j2) (yc j3) := by rw [nxR, if_pos ⟨hh_yes h1, hh_yes h2, hh_yes h3⟩, nI_clamp (by omega), nI_clamp (by omega), nI_clamp (by omega)]
theorem nx_off (hn : n ≤ 8) (h1 : j1 < n) (h2 : j2 < n) (h3 : j3 < n) (h : (nxW (yc j1) (yc j2) (yc j3) < 0 ∨ 5 < nxW (yc j1) (yc j2) (yc j3)) ∨ (nxL (yc j1) (yc j2) (yc j3) < 0 ∨ 5 < nxL (yc j1) (yc j2) (yc j3))) : -5 = nxR n yc (nI j1) (nI j2) (nI j3) := by rw [nx_all hn h1 h2 h3, nxA, if_pos h]
theorem nx_on (hn : n ≤ 8) (h1 : j1 < n) (h2 : j2 < n) (h3 : j3 < n) (g1 : ¬ nxW (yc j1) (yc j2) (yc j3) < 0) (g2 : ¬ 5 < nxW (yc j1) (yc j2) (yc j3)) (g3 : ¬ nxL (yc j1) (yc j2) (yc j3) < 0) (g4 : ¬ 5 < nxL (yc j1) (yc j2) (yc j3)) : nxW (yc j1) (yc j2) (yc j3) * 6 + nxL (yc j1) (yc j2) (yc j3) = nxR n yc (nI j1) (nI j2) (nI j3) := by
  have hg : ¬ ((nxW (yc j1) (yc j2) (yc j3) < 0 ∨ 5 < nxW (yc j1) (yc j2) (yc j3)) ∨ (nxL (yc j1) (yc j2) (yc j3) < 0 ∨ 5 < nxL (yc j1) (yc j2) (yc j3))) := fun q => by
    rcases q with (q | q) | (q | q)
    · exact g1 q
    · exact g2 q
    · exact g3 q
    · exact g4 q
  rw [nx_all hn h1 h2 h3, nxA, if_neg hg]
theorem nx_in (hn : n ≤ 8) (h1 : j1 < n) (h2 : j2 < n) (h3 : j3 < n) (g1 : ¬ nxW (yc j1) (yc j2) (yc j3) < 0) (g2 : ¬ 5 < nxW (yc j1) (yc j2) (yc j3)) (g3 : ¬ nxL (yc j1) (yc j2) (yc j3) < 0) (g4 : ¬ 5 < nxL (yc j1) (yc j2) (yc j3)) : 6 * nxW (yc j1) (yc j2) (yc j3) + nxL (yc j1) (yc j2) (yc j3) = nxR n yc (nI j1) (nI j2) (nI j3) := by
  rw [Int32.mul_comm]; exact nx_on hn h1 h2 h3 g1 g2 g3 g4
end
theorem hill_off {a b : Int32} (h : (a < 0 ∨ 6 ≤ a) ∨ (b < 0 ∨ 6 ≤ b)) : (a < 0 ∨ 5 < a) ∨ (b < 0 ∨ 5 < b) := by
  rcases h with (h | h) | (h | h)
  · exact Or.inl (Or.inl h)
  · exact Or.inl (Or.inr (le6_lt5 h))
  · exact Or.inr (Or.inl h)
  · exact Or.inr (Or.inr (le6_lt5 h))
theorem hp_cell {z : Int32} (h : z < 0 ∨ 36 ≤ z) : z < 0 ∨ 35 < z := h.imp id le36_lt35
/-! acts: what they answer, which bodies run -/
noncomputable def acS (k m v x : Int32) : Int32 := if isU k 1 then x * 3 + m else if k = 5 then (x + m) ^^^ m else x + m
noncomputable def acG (k m v x : Int32) : Int32 := if isU k 2 then -(acS k m v x - v) else if k = 6 then acS k m v x - v + v else acS k m v x - v
noncomputable def acL (k m v x : Int32) : Int32 := if isU k 3 then (acG k m v x * 2) ^^^ 7 else if k = 4 then acG k m v (x - 1) * 2 + acS k m v 2 else acG k m v x * 2
noncomputable def btS (k : Int32) : List Nat := if isU k 1 then [11, 1] else if k = 5 then [51, 1] else [1]
noncomputable def btG (k : Int32) : List Nat := if isU k 2 then 21 :: 2 :: btS k else if k = 6 then 61 :: 2 :: btS k else 2 :: btS k
noncomputable def btL (k : Int32) : List Nat := if isU k 3 then 31 :: 3 :: btG k else if k = 4 then 41 :: 3 :: (btG k ++ btS k) else 3 :: btG k
section
variable {k m v x : Int32}
theorem acS_1 (h : isU k 1) : x * 3 + m = acS k m v x := by rw [acS, if_pos h]
theorem acS_5 (h : ¬ isU k 1) (h2 : k = 5) : (x + m) ^^^ m = acS k m v x := by rw [acS, if_neg h, if_pos h2]
theorem acS_0 (h : ¬ isU k 1) (h2 : ¬ k = 5) : x + m = acS k m v x := by rw [acS, if_neg h, if_neg h2]
theorem acG_2 (h : isU k 2) : -(acS k m v x - v) = acG k m v x := by rw [acG, if_pos h]
theorem acG_6 (h : ¬ isU k 2) (h2 : k = 6) : acS k m v x - v + v = acG k m v x := by rw [acG, if_neg h, if_pos h2]
theorem acG_0 (h : ¬ isU k 2) (h2 : ¬ k = 6) : acS k m v x - v = acG k m v x := by rw [acG, if_neg h, if_neg h2]
theorem acL_3 (h : isU k 3) : (acG k m v x * 2) ^^^ 7 = acL k m v x := by rw [acL, if_pos h]
theorem acL_4 (h : ¬ isU k 3) (h2 : k = 4) : acG k m v (x - 1) * 2 + acS k m v 2 = acL k m v x := by rw [acL, if_neg h, if_pos h2]
theorem acL_0 (h : ¬ isU k 3) (h2 : ¬ k = 4) : acG k m v x * 2 = acL k m v x := by rw [acL, if_neg h, if_neg h2]
theorem btS_1 (h : isU k 1) : btS k = [11, 1] := if_pos h
theorem btS_5 (h : ¬ isU k 1) (h2 : k = 5) : btS k = [51, 1] := by rw [btS, if_neg h, if_pos h2]
theorem btS_0 (h : ¬ isU k 1) (h2 : ¬ k = 5) : btS k = [1] := by rw [btS, if_neg h, if_neg h2]
theorem btG_2 (h : isU k 2) : btG k = 21 :: 2 :: btS k := if_pos h
theorem btG_6 (h : ¬ isU k 2) (h2 : k = 6) : btG k = 61 :: 2 :: btS k := by rw [btG, if_neg h, if_pos h2]
theorem btG_0 (h : ¬ isU k 2) (h2 : ¬ k = 6) : btG k = 2 :: btS k := by rw [btG, if_neg h, if_neg h2]
theorem btL_3 (h : isU k 3) : btL k = 31 :: 3 :: btG k := if_pos h
theorem btL_4 (h : ¬ isU k 3) (h2 : k = 4) : btL k = 41 :: 3 :: (btG k ++ btS k) := by rw [btL, if_neg h, if_pos h2]
theorem btL_0 (h : ¬ isU k 3) (h2 : ¬ k = 4) : btL k = 3 :: btG k := by rw [btL, if_neg h, if_neg h2]
theorem btS_le (k : Int32) : (btS k).length ≤ 2 := by
  by_cases h : isU k 1
  · rw [btS_1 h]; exact Nat.le_refl _
  · by_cases h2 : k = 5
    · rw [btS_5 h h2]; exact Nat.le_refl _
    · rw [btS_0 h h2]; exact Nat.le_of_ble_eq_true rfl
theorem btG_le (k : Int32) : (btG k).length ≤ 4 := by
  have q := btS_le k
  by_cases h : isU k 2
  · rw [btG_2 h]; simp only [List.length_cons]; omega
  · by_cases h2 : k = 6
    · rw [btG_6 h h2]; simp only [List.length_cons]; omega
    · rw [btG_0 h h2]; simp only [List.length_cons]; omega
theorem btL_le (k : Int32) : (btL k).length ≤ 8 := by
  have q := btS_le k
  have q2 := btG_le k
  by_cases h : isU k 3
  · rw [btL_3 h]; simp only [List.length_cons]; omega
  · by_cases h2 : k = 4
    · rw [btL_4 h h2]; simp only [List.length_cons, List.length_append]; omega
    · rw [btL_0 h h2]; simp only [List.length_cons]; omega
end
noncomputable def acR (n : Nat) (yk yv : Nat → Int32) (x y z : Int32) : Int32 := @ite Int32 (hh n x) (Classical.propDecidable _) (if y = 0 then acS (yk x.toNatClampNeg) x (yv x.toNatClampNeg) z else if y = 1 then acG (yk x.toNatClampNeg) x (yv x.toNatClampNeg) z else if y = 2 then acL (yk x.toNatClampNeg) x (yv x.toNatClampNeg) z else 0) 0
noncomputable def acT (n : Nat) (yk : Nat → Int32) (x y : Int32) : List Nat := @ite (List Nat) (hh n x) (Classical.propDecidable _) (if y = 0 then btS (yk x.toNatClampNeg) else if y = 1 then btG (yk x.toNatClampNeg) else if y = 2 then btL (yk x.toNatClampNeg) else []) []
section
variable {n j : Nat} {yk yv : Nat → Int32} {x y z : Int32}
theorem ac_no (h : ∀ j : Nat, j < n → x ≠ nI j) : 0 = acR n yk yv x y z ∧ acT n yk x y = [] := ⟨by rw [acR, if_neg (hh_no h)], by rw [acT, if_neg (hh_no h)]⟩
theorem ac_bad (hj : j < n) (h0 : ¬ y = 0) (h1 : ¬ y = 1) (h2 : ¬ y = 2) : 0 = acR n yk yv (nI j) y z ∧ acT n yk (nI j) y = [] := ⟨by rw [acR, if_pos (hh_yes hj), if_neg h0, if_neg h1, if_neg h2], by rw [acT, if_pos (hh_yes hj), if_neg h0, if_neg h1, if_neg h2]⟩
theorem ac_bad2 (hj : j < n) (h : y < 0 ∨ 2 < y) : 0 = acR n yk yv (nI j) y z ∧ acT n yk (nI j) y = [] := by
  refine ac_bad hj (fun e => ?_) (fun e => ?_) (fun e => ?_)
  · rw [e] at h; exact absurd h (by decide)
  · rw [e] at h; exact absurd h (by decide)
  · rw [e] at h; exact absurd h (by decide)
theorem ac_0 (hn : n ≤ 8) (hj : j < n) (h : y = 0) : acS (yk j) (nI j) (yv j) z = acR n yk yv (nI j) y z ∧ acT n yk (nI j) y = btS (yk j) := ⟨by rw [acR, if_pos (hh_yes hj), if_pos h, nI_clamp (by omega)], by rw [acT, if_pos (hh_yes hj), if_pos h, nI_clamp (by omega)]⟩
theorem ac_1 (hn : n ≤ 8) (hj : j < n) (h : y = 1) : acG (yk j) (nI j) (yv j) z = acR n yk yv (nI j) y z ∧ acT n yk (nI j) y = btG (yk j) := by
  subst h
  exact ⟨by rw [acR, if_pos (hh_yes hj), if_neg (by decide), if_pos rfl, nI_clamp (by omega)], by rw [acT, if_pos (hh_yes hj), if_neg (by decide), if_pos rfl, nI_clamp (by omega)]⟩
theorem ac_2 (hn : n ≤ 8) (hj : j < n) (h : y = 2) : acL (yk j) (nI j) (yv j) z = acR n yk yv (nI j) y z ∧ acT n yk (nI j) y = btL (yk j) := by
  subst h
  exact ⟨by rw [acR, if_pos (hh_yes hj), if_neg (by decide), if_neg (by decide), if_pos rfl, nI_clamp (by omega)], by rw [acT, if_pos (hh_yes hj), if_neg (by decide), if_neg (by decide), if_pos rfl, nI_clamp (by omega)]⟩
theorem y_is2 (h1 : ¬ y < 0) (h2 : ¬ 2 < y) (h3 : ¬ y = 0) (h4 : ¬ y = 1) : y = 2 := by
  obtain ⟨i, hi, rfl⟩ := nI_of2 (n := 2) (M := 2) (x := y) rfl h1 (Int32.not_lt.mp h2)
  have e : i = 0 ∨ i = 1 ∨ i = 2 := by omega
  rcases e with rfl | rfl | rfl
  · exact absurd rfl h3
  · exact absurd rfl h4
  · rfl
theorem acT_le : (acT n yk x y).length ≤ 8 := by
  by_cases h : hh n x
  · rw [acT, if_pos h]
    have q1 := btS_le (yk x.toNatClampNeg)
    have q2 := btG_le (yk x.toNatClampNeg)
    have q3 := btL_le (yk x.toNatClampNeg)
    split
    · omega
    · split
      · omega
      · split
        · omega
        · exact Nat.zero_le _
  · rw [acT, if_neg h]; exact Nat.zero_le _
end
/-! the bodies of the last act -/
theorem getD_l {L M : List Nat} {k : Nat} (h : k < L.length) : (L ++ M).getD k 0 = L.getD k 0 := by
  rw [List.getD_eq_getElem?_getD, List.getElem?_append_left h, ← List.getD_eq_getElem?_getD]
theorem getD_r {L : List Nat} {b : Nat} : (L ++ [b]).getD L.length 0 = b := by
  rw [List.getD_eq_getElem?_getD, List.getElem?_append_right (Nat.le_refl _), Nat.sub_self]; rfl
noncomputable def okY (f : Nat → Int32) (L : List Nat) : Prop := ∀ k, k < L.length → f k = nI (L.getD k 0)
theorem okY_nil {f : Nat → Int32} : okY f [] := fun k h => absurd h (Nat.not_lt_zero k)
theorem okY_add {f : Nat → Int32} {L : List Nat} {b : Nat} (h : okY f L) : okY (upd f L.length (nI b)) (L ++ [b]) := by
  intro k hk
  rw [List.length_append] at hk
  have hk : k < L.length + 1 := hk
  by_cases q : k = L.length
  · subst q; rw [pk_us, getD_r]
  · rw [pk_un q, getD_l (by omega)]; exact h k (by omega)
noncomputable def trR (L : List Nat) (x : Int32) : Int32 := @ite Int32 (hh L.length x) (Classical.propDecidable _) (nI (L.getD x.toNatClampNeg 0)) (-1)
theorem tr_no {L : List Nat} {x : Int32} (h : ∀ j : Nat, j < L.length → x ≠ nI j) : -1 = trR L x := by rw [trR, if_neg (hh_no h)]
theorem tr_yes {L : List Nat} {j : Nat} (hL : L.length ≤ 100) (hj : j < L.length) : nI (L.getD j 0) = trR L (nI j) := by rw [trR, if_pos (hh_yes hj), nI_clamp (by omega)]
theorem trL_of {x : Int32} {k : Nat} (hk : k ≤ 20) (h1 : ¬ x < 0) (h2 : ¬ nI k - 1 < x) : ∃ j : Nat, j < k ∧ x = nI j := by
  rcases isheap_of (n := k) (r := 1) (h := x) (by omega) (Or.inl ⟨rfl, h1, h2⟩) with ⟨_, j, hj, e⟩ | ⟨e, _⟩
  · exact ⟨j, hj, e⟩
  · exact absurd e (by decide)
theorem trL_no {x : Int32} {k : Nat} (hk : k ≤ 20) (h : x < 0 ∨ nI k - 1 < x) : ∀ j : Nat, j < k → x ≠ nI j := by
  rcases isheap_of (n := k) (r := 0) (h := x) (by omega) (Or.inr ⟨rfl, h⟩) with ⟨e, _⟩ | ⟨_, q⟩
  · exact absurd e (by decide)
  · exact q

theorem kc_isHeap_0 : ∀ w ∈ wsX120, w ∈ wsX12_isHeap := fun w h => List.mem_cons_of_mem _ (gin_wsX120 w h)
theorem kc_isHeap_1 : (.fieldLink RX12 9 "MistHeapsModel" "s" "[I" : Cond) ∈ wsX12_isHeap := kc_of 1141 rfl rfl rfl
set_option maxHeartbeats 4000000 in
set_option maxRecDepth 100000 in
theorem c_isHeap (l : Launch) (dC : Nat → ClassId) (dI : Nat → Nat → Nat) (m0 aS aI aB aT aG aO aN aD aY : Nat) (th im ac sp en wg op se dn rn kd nu tv : Int32) (bv : Int64) (cS : ClassId) (fS : Nat → Int32) (n : Nat) (x : Int32) (zn : fS 0 = nI n) (hn : n ≤ 8) : Met l yX12_isHeap wsX12_isHeap ({ frames := 1, cells := 0, slots := 0, locals := 22 } : Room) (va_Pc [.ref m0, .int x] (fun U => va_P (dC, dI) vwCl [(zo14irriiiiiirriirrrrlriiii m0 th aS aI im ac sp en wg op aB aT se dn aG aO aN aD bv aY rn kd nu tv), (zaI aS cS 901 fS)] U.heap ∧ va_K (dC, dI) vwCl [(cS, .int)] U)) (vp_Si (fun r => (r = 1 ∧ ∃ j : Nat, j < n ∧ x = nI j) ∨ (r = 0 ∧ ∀ j : Nat, j < n → x ≠ nI j))) 0 0 (fun _ => False) := by
  refine met_ofQ (cc := cX12_isHeap) (maxL := 2) (ret := (some .boolean)) (by decide) rfl ?_
  intro p e s m args below meth c s₁ Q B hml hv hQ
  obtain ⟨rfl, hP, hK⟩ := hv
  have hx := B.exec
  have hb := B.bytes
  have hr := B.returns
  have hts := atoms_spec (ws := wsX12_isHeap) B.pre
  have hown : s.vm.findClass RX12 = some m.cls := findClass_of_methodNamed B.named
  have hlocks := B.notSynchronized
  obtain ⟨A, hAe⟩ : ∃ A : Nat → Prop, A = fun _ => False := ⟨_, rfl⟩
  rw [← hAe] at hQ
  have hS : va_S A s.heap s.heap [] := va_S.rf
  have hl := lv_entry [.ref m0, .int x] (n := 2) (Nat.le_of_ble_eq_true rfl)
  rw [lg_entry_eq]
  generalize (lg_sl [.ref m0, .int x] ++ List.replicate (2 - (lg_sl [.ref m0, .int x]).length) Slot.unset).toArray = ls at hl ⊢
  generalize hag : ([.ref m0, .int x] : List Value).toArray = args at hts hQ ⊢
  have hl : lv_has ls 2 [(0, .ref m0), (1, .int x)] := hl
  refine lv_iload_n hx hb dX12_isHeap_0 rfl (lv_at hl 1 rfl) ?_
  refine lv_iconst (v := 0) hx hb dX12_isHeap_1 (by decide) ?_
  refine lv_aload_n hx hb dX12_isHeap_2 rfl (lv_at hl 0 rfl) ?_
  refine va_get (D := (dC, dI)) (ci := 14) (v := .ref aS) (C := RX12) (T := TX12) (N := 23) hx hb hts kc_isHeap_0 hown hK hP 0 rfl rfl 1 (by decide) (hts (.fieldLink RX12 9 "MistHeapsModel" "s" "[I") kc_isHeap_1) (fun _ h9 => h9) rfl dX12_isHeap_3 ?_
  refine lv_iconst (v := 0) hx hb dX12_isHeap_6 (by decide) ?_
  refine va_iald hx hb hK hP 1 0 rfl rfl (vp_in_nI (n := 0) (N := 901) (by omega) (by omega)) dX12_isHeap_7 ?_
  refine qi_as (y := nI n) ((show fS (0 : Int32).toNatClampNeg = fS 0 from rfl).trans (zn)) ?_
  refine lv_iconst (v := 1) hx hb dX12_isHeap_8 (by decide) ?_
  refine lv_isub hx hb dX12_isHeap_9 ?_
  refine vp_callSi (va_runS (As := [.int x, .int 0, .int ((nI n) - 1)]) (rest := []) ⟨hx, hb, hml, hown, hts⟩ (c_in l dC dI x 0 (nI n - 1)) (va_cwS 3 hts gX12_isHeap_X12_in rfl rfl rfl hd_yX12_in.2 ⟨Nat.le_of_ble_eq_true rfl, Nat.le_of_ble_eq_true rfl⟩) ⟨fun a U g mk q => ⟨q.1, trivial⟩, fun U hU hW => ⟨rfl, trivial⟩⟩ rfl rfl hl.1 rfl (lv_room (Nat.le_of_ble_eq_true rfl)) dX12_isHeap_10 ⟨Nat.le_of_ble_eq_true rfl, Nat.le_of_ble_eq_true rfl⟩).run (fun r_1 hw_2 => ?_)
  rw [hQ]
  exact W.zret (v := r_1) hx hb hr (by rcases hw_2 with ⟨e, _⟩ | ⟨e, _⟩ <;> rw [e] <;> rfl) (fun tQ htQ hWQ => ⟨r_1, rfl, isheap_of (by omega) hw_2, by rw [htQ]⟩) (fun q hq => absurd hq List.not_mem_nil) dX12_isHeap_13
end mg05
section mg05
theorem ggX12_reachOf_X12_looks : GoodIn wsX12_reachOf wsX12_looks := gga_of 1328 rfl rfl rfl
theorem gX12_reachOf_X12_looks : GoodIn wsX12_reachOf (wsV RX12 160 RX12 yX12_looks wsX12_looks) := goodIn_app (ggh_of [1325, 1327, 39, 72] rfl rfl rfl) ggX12_reachOf_X12_looks
theorem ggX12_reachOf_X12_sight : GoodIn wsX12_reachOf wsX12_sight := gga_of 1297 rfl rfl rfl
theorem gX12_reachOf_X12_sight : GoodIn wsX12_reachOf (wsV RX12 140 RX12 yX12_sight wsX12_sight) := goodIn_app (ggh_of [1294, 1296, 34, 72] rfl rfl rfl) ggX12_reachOf_X12_sight
theorem ggX12_isSeen_X12_apart : GoodIn wsX12_isSeen wsX12_apart := gga_of 1343 rfl rfl rfl
theorem gX12_isSeen_X12_apart : GoodIn wsX12_isSeen (va_wsS RX12 170 yX12_apart wsX12_apart) := goodIn_app (ggh_of [1341, 1342, 72] rfl rfl rfl) ggX12_isSeen_X12_apart
theorem ggX12_isSeen_X12_reachOf : GoodIn wsX12_isSeen wsX12_reachOf := gga_of 1324 rfl rfl rfl
theorem gX12_isSeen_X12_reachOf : GoodIn wsX12_isSeen (wsV RX12 167 RX12 yX12_reachOf wsX12_reachOf) := goodIn_app (ggh_of [1321, 1323, 38, 72] rfl rfl rfl) ggX12_isSeen_X12_reachOf
theorem ggX12_seesOf_X12_isSeen : GoodIn wsX12_seesOf wsX12_isSeen := gga_of 1340 rfl rfl rfl
theorem gX12_seesOf_X12_isSeen : GoodIn wsX12_seesOf (wsV RX12 174 RX12 yX12_isSeen wsX12_isSeen) := goodIn_app (ggh_of [1337, 1339, 41, 72] rfl rfl rfl) ggX12_seesOf_X12_isSeen
theorem ggX12_sees_X12_isCell : GoodIn wsX12_sees wsX12_isCell := gga_of 1304 rfl rfl rfl
theorem gX12_sees_X12_isCell : GoodIn wsX12_sees (va_wsS RX12 149 yX12_isCell wsX12_isCell) := goodIn_app (ggh_of [1302, 1303, 72] rfl rfl rfl) ggX12_sees_X12_isCell
theorem ggX12_sees_X12_seesOf : GoodIn wsX12_sees wsX12_seesOf := gga_of 1336 rfl rfl rfl
theorem gX12_sees_X12_seesOf : GoodIn wsX12_sees (wsV RX12 178 RX12 yX12_seesOf wsX12_seesOf) := goodIn_app (ggh_of [1333, 1335, 40, 72] rfl rfl rfl) ggX12_sees_X12_seesOf
theorem ggX12_where_X12_seesOf : GoodIn wsX12_where wsX12_seesOf := gga_of 1336 rfl rfl rfl
theorem gX12_where_X12_seesOf : GoodIn wsX12_where (wsV RX12 178 RX12 yX12_seesOf wsX12_seesOf) := goodIn_app (ggh_of [1333, 1335, 40, 72] rfl rfl rfl) ggX12_where_X12_seesOf
noncomputable def dk06ref2_cX12_looks_0 : List (Nat × Instr × Nat) := [(0, .aload_n 0, 1), (1, .getfield 18, 3), (4, .iconst 0, 1), (5, .iload_n 1, 1), (6, .iastore, 1), (7, .aload_n 0, 1), (8, .getfield 18, 3), (11, .iconst 1, 1), (12, .iload_n 2, 1), (13, .iastore, 1), (14, .aload_n 0, 1), (15, .getfield 18, 3), (18, .iconst 2, 1), (19, .iload_n 3, 1), (20, .bipush 6, 2), (22, .idiv, 1), (23, .iastore, 1), (24, .aload_n 0, 1), (25, .getfield 18, 3), (28, .iconst 3, 1), (29, .iload_n 3, 1), (30, .bipush 6, 2), (32, .irem, 1), (33, .iastore, 1), (34, .aload_n 0, 1), (35, .getfield 18, 3), (38, .iconst 4, 1), (39, .aload_n 0, 1), (40, .getfield 9, 3), (43, .bipush 6, 2), (45, .iaload, 1), (46, .iastore, 1), (47, .aload_n 0, 1), (48, .getfield 18, 3), (51, .iconst 5, 1), (52, .aload_n 0, 1), (53, .getfield 9, 3), (56, .bipush 7, 2), (58, .iaload, 1), (59, .iastore, 1)]
set_option maxRecDepth 100000 in
theorem dk06ref2_cX12_looks_0_a : dkA cX12_looks dk06ref2_cX12_looks_0 = true := by decide +kernel
theorem dX12_looks_0 : decode cX12_looks 0 = .ok (.aload_n 0, 1) := dkAt dk06ref2_cX12_looks_0_a 0 rfl
theorem dX12_looks_1 : decode cX12_looks 1 = .ok (.getfield 18, 3) := dkAt dk06ref2_cX12_looks_0_a 1 rfl
theorem dX12_looks_4 : decode cX12_looks 4 = .ok (.iconst 0, 1) := dkAt dk06ref2_cX12_looks_0_a 2 rfl
theorem dX12_looks_5 : decode cX12_looks 5 = .ok (.iload_n 1, 1) := dkAt dk06ref2_cX12_looks_0_a 3 rfl
theorem dX12_looks_6 : decode cX12_looks 6 = .ok (.iastore, 1) := dkAt dk06ref2_cX12_looks_0_a 4 rfl
theorem dX12_looks_7 : decode cX12_looks 7 = .ok (.aload_n 0, 1) := dkAt dk06ref2_cX12_looks_0_a 5 rfl
theorem dX12_looks_8 : decode cX12_looks 8 = .ok (.getfield 18, 3) := dkAt dk06ref2_cX12_looks_0_a 6 rfl
theorem dX12_looks_11 : decode cX12_looks 11 = .ok (.iconst 1, 1) := dkAt dk06ref2_cX12_looks_0_a 7 rfl
theorem dX12_looks_12 : decode cX12_looks 12 = .ok (.iload_n 2, 1) := dkAt dk06ref2_cX12_looks_0_a 8 rfl
theorem dX12_looks_13 : decode cX12_looks 13 = .ok (.iastore, 1) := dkAt dk06ref2_cX12_looks_0_a 9 rfl
theorem dX12_looks_14 : decode cX12_looks 14 = .ok (.aload_n 0, 1) := dkAt dk06ref2_cX12_looks_0_a 10 rfl
theorem dX12_looks_15 : decode cX12_looks 15 = .ok (.getfield 18, 3) := dkAt dk06ref2_cX12_looks_0_a 11 rfl
theorem dX12_looks_18 : decode cX12_looks 18 = .ok (.iconst 2, 1) := dkAt dk06ref2_cX12_looks_0_a 12 rfl
theorem dX12_looks_19 : decode cX12_looks 19 = .ok (.iload_n 3, 1) := dkAt dk06ref2_cX12_looks_0_a 13 rfl
theorem dX12_looks_20 : decode cX12_looks 20 = .ok (.bipush 6, 2) := dkAt dk06ref2_cX12_looks_0_a 14 rfl
theorem dX12_looks_22 : decode cX12_looks 22 = .ok (.idiv, 1) := dkAt dk06ref2_cX12_looks_0_a 15 rfl
theorem dX12_looks_23 : decode cX12_looks 23 = .ok (.iastore, 1) := dkAt dk06ref2_cX12_looks_0_a 16 rfl
theorem dX12_looks_24 : decode cX12_looks 24 = .ok (.aload_n 0, 1) := dkAt dk06ref2_cX12_looks_0_a 17 rfl
theorem dX12_looks_25 : decode cX12_looks 25 = .ok (.getfield 18, 3) := dkAt dk06ref2_cX12_looks_0_a 18 rfl
theorem dX12_looks_28 : decode cX12_looks 28 = .ok (.iconst 3, 1) := dkAt dk06ref2_cX12_looks_0_a 19 rfl
theorem dX12_looks_29 : decode cX12_looks 29 = .ok (.iload_n 3, 1) := dkAt dk06ref2_cX12_looks_0_a 20 rfl
theorem dX12_looks_30 : decode cX12_looks 30 = .ok (.bipush 6, 2) := dkAt dk06ref2_cX12_looks_0_a 21 rfl
theorem dX12_looks_32 : decode cX12_looks 32 = .ok (.irem, 1) := dkAt dk06ref2_cX12_looks_0_a 22 rfl
theorem dX12_looks_33 : decode cX12_looks 33 = .ok (.iastore, 1) := dkAt dk06ref2_cX12_looks_0_a 23 rfl
theorem dX12_looks_34 : decode cX12_looks 34 = .ok (.aload_n 0, 1) := dkAt dk06ref2_cX12_looks_0_a 24 rfl
theorem dX12_looks_35 : decode cX12_looks 35 = .ok (.getfield 18, 3) := dkAt dk06ref2_cX12_looks_0_a 25 rfl
theorem dX12_looks_38 : decode cX12_looks 38 = .ok (.iconst 4, 1) := dkAt dk06ref2_cX12_looks_0_a 26 rfl
theorem dX12_looks_39 : decode cX12_looks 39 = .ok (.aload_n 0, 1) := dkAt dk06ref2_cX12_looks_0_a 27 rfl
theorem dX12_looks_40 : decode cX12_looks 40 = .ok (.getfield 9, 3) := dkAt dk06ref2_cX12_looks_0_a 28 rfl
theorem dX12_looks_43 : decode cX12_looks 43 = .ok (.bipush 6, 2) := dkAt dk06ref2_cX12_looks_0_a 29 rfl
theorem dX12_looks_45 : decode cX12_looks 45 = .ok (.iaload, 1) := dkAt dk06ref2_cX12_looks_0_a 30 rfl
theorem dX12_looks_46 : decode cX12_looks 46 = .ok (.iastore, 1) := dkAt dk06ref2_cX12_looks_0_a 31 rfl
theorem dX12_looks_47 : decode cX12_looks 47 = .ok (.aload_n 0, 1) := dkAt dk06ref2_cX12_looks_0_a 32 rfl
theorem dX12_looks_48 : decode cX12_looks 48 = .ok (.getfield 18, 3) := dkAt dk06ref2_cX12_looks_0_a 33 rfl
theorem dX12_looks_51 : decode cX12_looks 51 = .ok (.iconst 5, 1) := dkAt dk06ref2_cX12_looks_0_a 34 rfl
theorem dX12_looks_52 : decode cX12_looks 52 = .ok (.aload_n 0, 1) := dkAt dk06ref2_cX12_looks_0_a 35 rfl
theorem dX12_looks_53 : decode cX12_looks 53 = .ok (.getfield 9, 3) := dkAt dk06ref2_cX12_looks_0_a 36 rfl
theorem dX12_looks_56 : decode cX12_looks 56 = .ok (.bipush 7, 2) := dkAt dk06ref2_cX12_looks_0_a 37 rfl
theorem dX12_looks_58 : decode cX12_looks 58 = .ok (.iaload, 1) := dkAt dk06ref2_cX12_looks_0_a 38 rfl
theorem dX12_looks_59 : decode cX12_looks 59 = .ok (.iastore, 1) := dkAt dk06ref2_cX12_looks_0_a 39 rfl
noncomputable def dk06ref2_cX12_looks_40 : List (Nat × Instr × Nat) := [(60, .aload_n 0, 1), (61, .iconst 0, 1), (62, .putfield 143, 3), (65, .aload_n 0, 1), (66, .iconst 0, 1), (67, .putfield 146, 3), (70, .aload_n 0, 1), (71, .getfield 9, 3), (74, .iconst 5, 1), (75, .iaload, 1), (76, .iconst (-1), 1), (77, .if_icmp .ne 7, 3), (80, .iconst 0, 1), (81, .goto 18, 3), (99, .istore 4, 2), (101, .sipush 201, 3), (104, .sipush 140, 3), (107, .aload_n 0, 1), (108, .getfield 9, 3), (111, .iconst 5, 1), (112, .iaload, 1), (113, .imul, 1), (114, .iadd, 1), (115, .istore 5, 2), (117, .iconst 0, 1), (118, .istore 6, 2), (120, .iload 5, 2), (122, .istore 7, 2), (124, .iload 7, 2), (126, .iload 5, 2), (128, .iload 4, 2), (130, .iadd, 1), (131, .if_icmp .ge 329, 3), (460, .return_, 1), (84, .aload_n 0, 1), (85, .getfield 9, 3), (88, .sipush 196, 3), (91, .aload_n 0, 1), (92, .getfield 9, 3), (95, .iconst 5, 1)]
set_option maxRecDepth 100000 in
theorem dk06ref2_cX12_looks_40_a : dkA cX12_looks dk06ref2_cX12_looks_40 = true := by decide +kernel
theorem dX12_looks_60 : decode cX12_looks 60 = .ok (.aload_n 0, 1) := dkAt dk06ref2_cX12_looks_40_a 0 rfl
theorem dX12_looks_61 : decode cX12_looks 61 = .ok (.iconst 0, 1) := dkAt dk06ref2_cX12_looks_40_a 1 rfl
theorem dX12_looks_62 : decode cX12_looks 62 = .ok (.putfield 143, 3) := dkAt dk06ref2_cX12_looks_40_a 2 rfl
theorem dX12_looks_65 : decode cX12_looks 65 = .ok (.aload_n 0, 1) := dkAt dk06ref2_cX12_looks_40_a 3 rfl
theorem dX12_looks_66 : decode cX12_looks 66 = .ok (.iconst 0, 1) := dkAt dk06ref2_cX12_looks_40_a 4 rfl
theorem dX12_looks_67 : decode cX12_looks 67 = .ok (.putfield 146, 3) := dkAt dk06ref2_cX12_looks_40_a 5 rfl
theorem dX12_looks_70 : decode cX12_looks 70 = .ok (.aload_n 0, 1) := dkAt dk06ref2_cX12_looks_40_a 6 rfl
theorem dX12_looks_71 : decode cX12_looks 71 = .ok (.getfield 9, 3) := dkAt dk06ref2_cX12_looks_40_a 7 rfl
theorem dX12_looks_74 : decode cX12_looks 74 = .ok (.iconst 5, 1) := dkAt dk06ref2_cX12_looks_40_a 8 rfl
theorem dX12_looks_75 : decode cX12_looks 75 = .ok (.iaload, 1) := dkAt dk06ref2_cX12_looks_40_a 9 rfl
theorem dX12_looks_76 : decode cX12_looks 76 = .ok (.iconst (-1), 1) := dkAt dk06ref2_cX12_looks_40_a 10 rfl
theorem dX12_looks_77 : decode cX12_looks 77 = .ok (.if_icmp .ne 7, 3) := dkAt dk06ref2_cX12_looks_40_a 11 rfl
theorem dX12_looks_80 : decode cX12_looks 80 = .ok (.iconst 0, 1) := dkAt dk06ref2_cX12_looks_40_a 12 rfl
theorem dX12_looks_81 : decode cX12_looks 81 = .ok (.goto 18, 3) := dkAt dk06ref2_cX12_looks_40_a 13 rfl
theorem dX12_looks_99 : decode cX12_looks 99 = .ok (.istore 4, 2) := dkAt dk06ref2_cX12_looks_40_a 14 rfl
theorem dX12_looks_101 : decode cX12_looks 101 = .ok (.sipush 201, 3) := dkAt dk06ref2_cX12_looks_40_a 15 rfl
theorem dX12_looks_104 : decode cX12_looks 104 = .ok (.sipush 140, 3) := dkAt dk06ref2_cX12_looks_40_a 16 rfl
theorem dX12_looks_107 : decode cX12_looks 107 = .ok (.aload_n 0, 1) := dkAt dk06ref2_cX12_looks_40_a 17 rfl
theorem dX12_looks_108 : decode cX12_looks 108 = .ok (.getfield 9, 3) := dkAt dk06ref2_cX12_looks_40_a 18 rfl
theorem dX12_looks_111 : decode cX12_looks 111 = .ok (.iconst 5, 1) := dkAt dk06ref2_cX12_looks_40_a 19 rfl
theorem dX12_looks_112 : decode cX12_looks 112 = .ok (.iaload, 1) := dkAt dk06ref2_cX12_looks_40_a 20 rfl
theorem dX12_looks_113 : decode cX12_looks 113 = .ok (.imul, 1) := dkAt dk06ref2_cX12_looks_40_a 21 rfl
theorem dX12_looks_114 : decode cX12_looks 114 = .ok (.iadd, 1) := dkAt dk06ref2_cX12_looks_40_a 22 rfl
theorem dX12_looks_115 : decode cX12_looks 115 = .ok (.istore 5, 2) := dkAt dk06ref2_cX12_looks_40_a 23 rfl
theorem dX12_looks_117 : decode cX12_looks 117 = .ok (.iconst 0, 1) := dkAt dk06ref2_cX12_looks_40_a 24 rfl
theorem dX12_looks_118 : decode cX12_looks 118 = .ok (.istore 6, 2) := dkAt dk06ref2_cX12_looks_40_a 25 rfl
theorem dX12_looks_120 : decode cX12_looks 120 = .ok (.iload 5, 2) := dkAt dk06ref2_cX12_looks_40_a 26 rfl
theorem dX12_looks_122 : decode cX12_looks 122 = .ok (.istore 7, 2) := dkAt dk06ref2_cX12_looks_40_a 27 rfl
theorem dX12_looks_124 : decode cX12_looks 124 = .ok (.iload 7, 2) := dkAt dk06ref2_cX12_looks_40_a 28 rfl
theorem dX12_looks_126 : decode cX12_looks 126 = .ok (.iload 5, 2) := dkAt dk06ref2_cX12_looks_40_a 29 rfl
theorem dX12_looks_128 : decode cX12_looks 128 = .ok (.iload 4, 2) := dkAt dk06ref2_cX12_looks_40_a 30 rfl
theorem dX12_looks_130 : decode cX12_looks 130 = .ok (.iadd, 1) := dkAt dk06ref2_cX12_looks_40_a 31 rfl
theorem dX12_looks_131 : decode cX12_looks 131 = .ok (.if_icmp .ge 329, 3) := dkAt dk06ref2_cX12_looks_40_a 32 rfl
theorem dX12_looks_460 : decode cX12_looks 460 = .ok (.return_, 1) := dkAt dk06ref2_cX12_looks_40_a 33 rfl
theorem dX12_looks_84 : decode cX12_looks 84 = .ok (.aload_n 0, 1) := dkAt dk06ref2_cX12_looks_40_a 34 rfl
theorem dX12_looks_85 : decode cX12_looks 85 = .ok (.getfield 9, 3) := dkAt dk06ref2_cX12_looks_40_a 35 rfl
theorem dX12_looks_88 : decode cX12_looks 88 = .ok (.sipush 196, 3) := dkAt dk06ref2_cX12_looks_40_a 36 rfl
theorem dX12_looks_91 : decode cX12_looks 91 = .ok (.aload_n 0, 1) := dkAt dk06ref2_cX12_looks_40_a 37 rfl
theorem dX12_looks_92 : decode cX12_looks 92 = .ok (.getfield 9, 3) := dkAt dk06ref2_cX12_looks_40_a 38 rfl
theorem dX12_looks_95 : decode cX12_looks 95 = .ok (.iconst 5, 1) := dkAt dk06ref2_cX12_looks_40_a 39 rfl
noncomputable def dk06ref2_cX12_looks_80 : List (Nat × Instr × Nat) := [(96, .iaload, 1), (97, .iadd, 1), (98, .iaload, 1), (134, .aload_n 0, 1), (135, .getfield 9, 3), (138, .iload 7, 2), (140, .iaload, 1), (141, .istore 8, 2), (143, .iload 8, 2), (145, .ifCond .lt 97, 3), (242, .iload 8, 2), (244, .iconst (-1), 1), (245, .if_icmp .ne 32, 3), (277, .iload 8, 2), (279, .bipush (-10), 2), (281, .if_icmp .le 82, 3), (363, .iconst 0, 1), (364, .istore 6, 2), (366, .aload_n 0, 1), (367, .getfield 21, 3), (370, .iconst 0, 1), (371, .baload, 1), (372, .istore 9, 2), (374, .aload_n 0, 1), (375, .dup, 1), (376, .getfield 143, 3), (379, .iload 9, 2), (418, .iadd, 1), (419, .putfield 143, 3), (422, .aload_n 0, 1), (423, .dup, 1), (424, .getfield 146, 3), (427, .iload 9, 2), (450, .iadd, 1), (451, .putfield 146, 3), (454, .iinc 7 1, 3), (457, .goto (-333), 3), (429, .ifCond .eq 20, 3), (449, .iconst 0, 1), (432, .iload 8, 2)]
set_option maxRecDepth 100000 in
theorem dk06ref2_cX12_looks_80_a : dkA cX12_looks dk06ref2_cX12_looks_80 = true := by decide +kernel
theorem dX12_looks_96 : decode cX12_looks 96 = .ok (.iaload, 1) := dkAt dk06ref2_cX12_looks_80_a 0 rfl
theorem dX12_looks_97 : decode cX12_looks 97 = .ok (.iadd, 1) := dkAt dk06ref2_cX12_looks_80_a 1 rfl
theorem dX12_looks_98 : decode cX12_looks 98 = .ok (.iaload, 1) := dkAt dk06ref2_cX12_looks_80_a 2 rfl
theorem dX12_looks_134 : decode cX12_looks 134 = .ok (.aload_n 0, 1) := dkAt dk06ref2_cX12_looks_80_a 3 rfl
theorem dX12_looks_135 : decode cX12_looks 135 = .ok (.getfield 9, 3) := dkAt dk06ref2_cX12_looks_80_a 4 rfl
theorem dX12_looks_138 : decode cX12_looks 138 = .ok (.iload 7, 2) := dkAt dk06ref2_cX12_looks_80_a 5 rfl
theorem dX12_looks_140 : decode cX12_looks 140 = .ok (.iaload, 1) := dkAt dk06ref2_cX12_looks_80_a 6 rfl
theorem dX12_looks_141 : decode cX12_looks 141 = .ok (.istore 8, 2) := dkAt dk06ref2_cX12_looks_80_a 7 rfl
theorem dX12_looks_143 : decode cX12_looks 143 = .ok (.iload 8, 2) := dkAt dk06ref2_cX12_looks_80_a 8 rfl
theorem dX12_looks_145 : decode cX12_looks 145 = .ok (.ifCond .lt 97, 3) := dkAt dk06ref2_cX12_looks_80_a 9 rfl
theorem dX12_looks_242 : decode cX12_looks 242 = .ok (.iload 8, 2) := dkAt dk06ref2_cX12_looks_80_a 10 rfl
theorem dX12_looks_244 : decode cX12_looks 244 = .ok (.iconst (-1), 1) := dkAt dk06ref2_cX12_looks_80_a 11 rfl
theorem dX12_looks_245 : decode cX12_looks 245 = .ok (.if_icmp .ne 32, 3) := dkAt dk06ref2_cX12_looks_80_a 12 rfl
theorem dX12_looks_277 : decode cX12_looks 277 = .ok (.iload 8, 2) := dkAt dk06ref2_cX12_looks_80_a 13 rfl
theorem dX12_looks_279 : decode cX12_looks 279 = .ok (.bipush (-10), 2) := dkAt dk06ref2_cX12_looks_80_a 14 rfl
theorem dX12_looks_281 : decode cX12_looks 281 = .ok (.if_icmp .le 82, 3) := dkAt dk06ref2_cX12_looks_80_a 15 rfl
theorem dX12_looks_363 : decode cX12_looks 363 = .ok (.iconst 0, 1) := dkAt dk06ref2_cX12_looks_80_a 16 rfl
theorem dX12_looks_364 : decode cX12_looks 364 = .ok (.istore 6, 2) := dkAt dk06ref2_cX12_looks_80_a 17 rfl
theorem dX12_looks_366 : decode cX12_looks 366 = .ok (.aload_n 0, 1) := dkAt dk06ref2_cX12_looks_80_a 18 rfl
theorem dX12_looks_367 : decode cX12_looks 367 = .ok (.getfield 21, 3) := dkAt dk06ref2_cX12_looks_80_a 19 rfl
theorem dX12_looks_370 : decode cX12_looks 370 = .ok (.iconst 0, 1) := dkAt dk06ref2_cX12_looks_80_a 20 rfl
theorem dX12_looks_371 : decode cX12_looks 371 = .ok (.baload, 1) := dkAt dk06ref2_cX12_looks_80_a 21 rfl
theorem dX12_looks_372 : decode cX12_looks 372 = .ok (.istore 9, 2) := dkAt dk06ref2_cX12_looks_80_a 22 rfl
theorem dX12_looks_374 : decode cX12_looks 374 = .ok (.aload_n 0, 1) := dkAt dk06ref2_cX12_looks_80_a 23 rfl
theorem dX12_looks_375 : decode cX12_looks 375 = .ok (.dup, 1) := dkAt dk06ref2_cX12_looks_80_a 24 rfl
theorem dX12_looks_376 : decode cX12_looks 376 = .ok (.getfield 143, 3) := dkAt dk06ref2_cX12_looks_80_a 25 rfl
theorem dX12_looks_379 : decode cX12_looks 379 = .ok (.iload 9, 2) := dkAt dk06ref2_cX12_looks_80_a 26 rfl
theorem dX12_looks_418 : decode cX12_looks 418 = .ok (.iadd, 1) := dkAt dk06ref2_cX12_looks_80_a 27 rfl
theorem dX12_looks_419 : decode cX12_looks 419 = .ok (.putfield 143, 3) := dkAt dk06ref2_cX12_looks_80_a 28 rfl
theorem dX12_looks_422 : decode cX12_looks 422 = .ok (.aload_n 0, 1) := dkAt dk06ref2_cX12_looks_80_a 29 rfl
theorem dX12_looks_423 : decode cX12_looks 423 = .ok (.dup, 1) := dkAt dk06ref2_cX12_looks_80_a 30 rfl
theorem dX12_looks_424 : decode cX12_looks 424 = .ok (.getfield 146, 3) := dkAt dk06ref2_cX12_looks_80_a 31 rfl
theorem dX12_looks_427 : decode cX12_looks 427 = .ok (.iload 9, 2) := dkAt dk06ref2_cX12_looks_80_a 32 rfl
theorem dX12_looks_450 : decode cX12_looks 450 = .ok (.iadd, 1) := dkAt dk06ref2_cX12_looks_80_a 33 rfl
theorem dX12_looks_451 : decode cX12_looks 451 = .ok (.putfield 146, 3) := dkAt dk06ref2_cX12_looks_80_a 34 rfl
theorem dX12_looks_454 : decode cX12_looks 454 = .ok (.iinc 7 1, 3) := dkAt dk06ref2_cX12_looks_80_a 35 rfl
theorem dX12_looks_457 : decode cX12_looks 457 = .ok (.goto (-333), 3) := dkAt dk06ref2_cX12_looks_80_a 36 rfl
theorem dX12_looks_429 : decode cX12_looks 429 = .ok (.ifCond .eq 20, 3) := dkAt dk06ref2_cX12_looks_80_a 37 rfl
theorem dX12_looks_449 : decode cX12_looks 449 = .ok (.iconst 0, 1) := dkAt dk06ref2_cX12_looks_80_a 38 rfl
theorem dX12_looks_432 : decode cX12_looks 432 = .ok (.iload 8, 2) := dkAt dk06ref2_cX12_looks_80_a 39 rfl
noncomputable def dk06ref2_cX12_looks_120 : List (Nat × Instr × Nat) := [(434, .sipush (-400), 3), (437, .if_icmp .gt 12, 3), (440, .sipush (-400), 3), (443, .iload 8, 2), (445, .isub, 1), (446, .goto 4, 3), (381, .ifCond .eq 11, 3), (392, .iconst 0, 1), (393, .goto 25, 3), (384, .iload 8, 2), (386, .sipush (-400), 3), (389, .if_icmp .gt 7, 3), (396, .iload 8, 2), (398, .sipush (-200), 3), (401, .if_icmp .le 11, 3), (412, .iload 8, 2), (414, .sipush (-200), 3), (417, .isub, 1), (404, .bipush (-10), 2), (406, .iload 8, 2), (408, .isub, 1), (409, .goto 9, 3), (284, .iinc 6 (-1), 3), (287, .aload_n 0, 1), (288, .getfield 21, 3), (291, .iload 6, 2), (293, .iconst 1, 1), (294, .isub, 1), (295, .iload 8, 2), (297, .bipush (-2), 2), (359, .bastore, 1), (360, .goto 94, 3), (299, .if_icmp .ne 33, 3), (332, .aload_n 0, 1), (333, .getfield 21, 3), (336, .iload 6, 2), (338, .iconst 1, 1), (339, .isub, 1), (340, .baload, 1), (341, .ifCond .ne 13, 3)]
set_option maxRecDepth 100000 in
theorem dk06ref2_cX12_looks_120_a : dkA cX12_looks dk06ref2_cX12_looks_120 = true := by decide +kernel
theorem dX12_looks_434 : decode cX12_looks 434 = .ok (.sipush (-400), 3) := dkAt dk06ref2_cX12_looks_120_a 0 rfl
theorem dX12_looks_437 : decode cX12_looks 437 = .ok (.if_icmp .gt 12, 3) := dkAt dk06ref2_cX12_looks_120_a 1 rfl
theorem dX12_looks_440 : decode cX12_looks 440 = .ok (.sipush (-400), 3) := dkAt dk06ref2_cX12_looks_120_a 2 rfl
theorem dX12_looks_443 : decode cX12_looks 443 = .ok (.iload 8, 2) := dkAt dk06ref2_cX12_looks_120_a 3 rfl
theorem dX12_looks_445 : decode cX12_looks 445 = .ok (.isub, 1) := dkAt dk06ref2_cX12_looks_120_a 4 rfl
theorem dX12_looks_446 : decode cX12_looks 446 = .ok (.goto 4, 3) := dkAt dk06ref2_cX12_looks_120_a 5 rfl
theorem dX12_looks_381 : decode cX12_looks 381 = .ok (.ifCond .eq 11, 3) := dkAt dk06ref2_cX12_looks_120_a 6 rfl
theorem dX12_looks_392 : decode cX12_looks 392 = .ok (.iconst 0, 1) := dkAt dk06ref2_cX12_looks_120_a 7 rfl
theorem dX12_looks_393 : decode cX12_looks 393 = .ok (.goto 25, 3) := dkAt dk06ref2_cX12_looks_120_a 8 rfl
theorem dX12_looks_384 : decode cX12_looks 384 = .ok (.iload 8, 2) := dkAt dk06ref2_cX12_looks_120_a 9 rfl
theorem dX12_looks_386 : decode cX12_looks 386 = .ok (.sipush (-400), 3) := dkAt dk06ref2_cX12_looks_120_a 10 rfl
theorem dX12_looks_389 : decode cX12_looks 389 = .ok (.if_icmp .gt 7, 3) := dkAt dk06ref2_cX12_looks_120_a 11 rfl
theorem dX12_looks_396 : decode cX12_looks 396 = .ok (.iload 8, 2) := dkAt dk06ref2_cX12_looks_120_a 12 rfl
theorem dX12_looks_398 : decode cX12_looks 398 = .ok (.sipush (-200), 3) := dkAt dk06ref2_cX12_looks_120_a 13 rfl
theorem dX12_looks_401 : decode cX12_looks 401 = .ok (.if_icmp .le 11, 3) := dkAt dk06ref2_cX12_looks_120_a 14 rfl
theorem dX12_looks_412 : decode cX12_looks 412 = .ok (.iload 8, 2) := dkAt dk06ref2_cX12_looks_120_a 15 rfl
theorem dX12_looks_414 : decode cX12_looks 414 = .ok (.sipush (-200), 3) := dkAt dk06ref2_cX12_looks_120_a 16 rfl
theorem dX12_looks_417 : decode cX12_looks 417 = .ok (.isub, 1) := dkAt dk06ref2_cX12_looks_120_a 17 rfl
theorem dX12_looks_404 : decode cX12_looks 404 = .ok (.bipush (-10), 2) := dkAt dk06ref2_cX12_looks_120_a 18 rfl
theorem dX12_looks_406 : decode cX12_looks 406 = .ok (.iload 8, 2) := dkAt dk06ref2_cX12_looks_120_a 19 rfl
theorem dX12_looks_408 : decode cX12_looks 408 = .ok (.isub, 1) := dkAt dk06ref2_cX12_looks_120_a 20 rfl
theorem dX12_looks_409 : decode cX12_looks 409 = .ok (.goto 9, 3) := dkAt dk06ref2_cX12_looks_120_a 21 rfl
theorem dX12_looks_284 : decode cX12_looks 284 = .ok (.iinc 6 (-1), 3) := dkAt dk06ref2_cX12_looks_120_a 22 rfl
theorem dX12_looks_287 : decode cX12_looks 287 = .ok (.aload_n 0, 1) := dkAt dk06ref2_cX12_looks_120_a 23 rfl
theorem dX12_looks_288 : decode cX12_looks 288 = .ok (.getfield 21, 3) := dkAt dk06ref2_cX12_looks_120_a 24 rfl
theorem dX12_looks_291 : decode cX12_looks 291 = .ok (.iload 6, 2) := dkAt dk06ref2_cX12_looks_120_a 25 rfl
theorem dX12_looks_293 : decode cX12_looks 293 = .ok (.iconst 1, 1) := dkAt dk06ref2_cX12_looks_120_a 26 rfl
theorem dX12_looks_294 : decode cX12_looks 294 = .ok (.isub, 1) := dkAt dk06ref2_cX12_looks_120_a 27 rfl
theorem dX12_looks_295 : decode cX12_looks 295 = .ok (.iload 8, 2) := dkAt dk06ref2_cX12_looks_120_a 28 rfl
theorem dX12_looks_297 : decode cX12_looks 297 = .ok (.bipush (-2), 2) := dkAt dk06ref2_cX12_looks_120_a 29 rfl
theorem dX12_looks_359 : decode cX12_looks 359 = .ok (.bastore, 1) := dkAt dk06ref2_cX12_looks_120_a 30 rfl
theorem dX12_looks_360 : decode cX12_looks 360 = .ok (.goto 94, 3) := dkAt dk06ref2_cX12_looks_120_a 31 rfl
theorem dX12_looks_299 : decode cX12_looks 299 = .ok (.if_icmp .ne 33, 3) := dkAt dk06ref2_cX12_looks_120_a 32 rfl
theorem dX12_looks_332 : decode cX12_looks 332 = .ok (.aload_n 0, 1) := dkAt dk06ref2_cX12_looks_120_a 33 rfl
theorem dX12_looks_333 : decode cX12_looks 333 = .ok (.getfield 21, 3) := dkAt dk06ref2_cX12_looks_120_a 34 rfl
theorem dX12_looks_336 : decode cX12_looks 336 = .ok (.iload 6, 2) := dkAt dk06ref2_cX12_looks_120_a 35 rfl
theorem dX12_looks_338 : decode cX12_looks 338 = .ok (.iconst 1, 1) := dkAt dk06ref2_cX12_looks_120_a 36 rfl
theorem dX12_looks_339 : decode cX12_looks 339 = .ok (.isub, 1) := dkAt dk06ref2_cX12_looks_120_a 37 rfl
theorem dX12_looks_340 : decode cX12_looks 340 = .ok (.baload, 1) := dkAt dk06ref2_cX12_looks_120_a 38 rfl
theorem dX12_looks_341 : decode cX12_looks 341 = .ok (.ifCond .ne 13, 3) := dkAt dk06ref2_cX12_looks_120_a 39 rfl
noncomputable def dk06ref2_cX12_looks_160 : List (Nat × Instr × Nat) := [(354, .iconst 1, 1), (355, .goto 4, 3), (344, .aload_n 0, 1), (345, .getfield 21, 3), (348, .iload 6, 2), (350, .baload, 1), (351, .ifCond .eq 7, 3), (358, .iconst 0, 1), (302, .aload_n 0, 1), (303, .getfield 21, 3), (306, .iload 6, 2), (308, .iconst 1, 1), (309, .isub, 1), (310, .baload, 1), (311, .ifCond .eq 17, 3), (328, .iconst 0, 1), (329, .goto 30, 3), (314, .aload_n 0, 1), (315, .getfield 21, 3), (318, .iload 6, 2), (320, .baload, 1), (321, .ifCond .eq 7, 3), (324, .iconst 1, 1), (325, .goto 34, 3), (248, .aload_n 0, 1), (249, .getfield 21, 3), (252, .iload 6, 2), (254, .iconst 1, 1), (255, .isub, 1), (256, .aload_n 0, 1), (257, .getfield 21, 3), (260, .iload 6, 2), (262, .iconst 1, 1), (263, .isub, 1), (264, .baload, 1), (273, .bastore, 1), (274, .goto 180, 3), (265, .ifCond .ne 7, 3), (272, .iconst 0, 1), (268, .iconst 1, 1)]
set_option maxRecDepth 100000 in
theorem dk06ref2_cX12_looks_160_a : dkA cX12_looks dk06ref2_cX12_looks_160 = true := by decide +kernel
theorem dX12_looks_354 : decode cX12_looks 354 = .ok (.iconst 1, 1) := dkAt dk06ref2_cX12_looks_160_a 0 rfl
theorem dX12_looks_355 : decode cX12_looks 355 = .ok (.goto 4, 3) := dkAt dk06ref2_cX12_looks_160_a 1 rfl
theorem dX12_looks_344 : decode cX12_looks 344 = .ok (.aload_n 0, 1) := dkAt dk06ref2_cX12_looks_160_a 2 rfl
theorem dX12_looks_345 : decode cX12_looks 345 = .ok (.getfield 21, 3) := dkAt dk06ref2_cX12_looks_160_a 3 rfl
theorem dX12_looks_348 : decode cX12_looks 348 = .ok (.iload 6, 2) := dkAt dk06ref2_cX12_looks_160_a 4 rfl
theorem dX12_looks_350 : decode cX12_looks 350 = .ok (.baload, 1) := dkAt dk06ref2_cX12_looks_160_a 5 rfl
theorem dX12_looks_351 : decode cX12_looks 351 = .ok (.ifCond .eq 7, 3) := dkAt dk06ref2_cX12_looks_160_a 6 rfl
theorem dX12_looks_358 : decode cX12_looks 358 = .ok (.iconst 0, 1) := dkAt dk06ref2_cX12_looks_160_a 7 rfl
theorem dX12_looks_302 : decode cX12_looks 302 = .ok (.aload_n 0, 1) := dkAt dk06ref2_cX12_looks_160_a 8 rfl
theorem dX12_looks_303 : decode cX12_looks 303 = .ok (.getfield 21, 3) := dkAt dk06ref2_cX12_looks_160_a 9 rfl
theorem dX12_looks_306 : decode cX12_looks 306 = .ok (.iload 6, 2) := dkAt dk06ref2_cX12_looks_160_a 10 rfl
theorem dX12_looks_308 : decode cX12_looks 308 = .ok (.iconst 1, 1) := dkAt dk06ref2_cX12_looks_160_a 11 rfl
theorem dX12_looks_309 : decode cX12_looks 309 = .ok (.isub, 1) := dkAt dk06ref2_cX12_looks_160_a 12 rfl
theorem dX12_looks_310 : decode cX12_looks 310 = .ok (.baload, 1) := dkAt dk06ref2_cX12_looks_160_a 13 rfl
theorem dX12_looks_311 : decode cX12_looks 311 = .ok (.ifCond .eq 17, 3) := dkAt dk06ref2_cX12_looks_160_a 14 rfl
theorem dX12_looks_328 : decode cX12_looks 328 = .ok (.iconst 0, 1) := dkAt dk06ref2_cX12_looks_160_a 15 rfl
theorem dX12_looks_329 : decode cX12_looks 329 = .ok (.goto 30, 3) := dkAt dk06ref2_cX12_looks_160_a 16 rfl
theorem dX12_looks_314 : decode cX12_looks 314 = .ok (.aload_n 0, 1) := dkAt dk06ref2_cX12_looks_160_a 17 rfl
theorem dX12_looks_315 : decode cX12_looks 315 = .ok (.getfield 21, 3) := dkAt dk06ref2_cX12_looks_160_a 18 rfl
theorem dX12_looks_318 : decode cX12_looks 318 = .ok (.iload 6, 2) := dkAt dk06ref2_cX12_looks_160_a 19 rfl
theorem dX12_looks_320 : decode cX12_looks 320 = .ok (.baload, 1) := dkAt dk06ref2_cX12_looks_160_a 20 rfl
theorem dX12_looks_321 : decode cX12_looks 321 = .ok (.ifCond .eq 7, 3) := dkAt dk06ref2_cX12_looks_160_a 21 rfl
theorem dX12_looks_324 : decode cX12_looks 324 = .ok (.iconst 1, 1) := dkAt dk06ref2_cX12_looks_160_a 22 rfl
theorem dX12_looks_325 : decode cX12_looks 325 = .ok (.goto 34, 3) := dkAt dk06ref2_cX12_looks_160_a 23 rfl
theorem dX12_looks_248 : decode cX12_looks 248 = .ok (.aload_n 0, 1) := dkAt dk06ref2_cX12_looks_160_a 24 rfl
theorem dX12_looks_249 : decode cX12_looks 249 = .ok (.getfield 21, 3) := dkAt dk06ref2_cX12_looks_160_a 25 rfl
theorem dX12_looks_252 : decode cX12_looks 252 = .ok (.iload 6, 2) := dkAt dk06ref2_cX12_looks_160_a 26 rfl
theorem dX12_looks_254 : decode cX12_looks 254 = .ok (.iconst 1, 1) := dkAt dk06ref2_cX12_looks_160_a 27 rfl
theorem dX12_looks_255 : decode cX12_looks 255 = .ok (.isub, 1) := dkAt dk06ref2_cX12_looks_160_a 28 rfl
theorem dX12_looks_256 : decode cX12_looks 256 = .ok (.aload_n 0, 1) := dkAt dk06ref2_cX12_looks_160_a 29 rfl
theorem dX12_looks_257 : decode cX12_looks 257 = .ok (.getfield 21, 3) := dkAt dk06ref2_cX12_looks_160_a 30 rfl
theorem dX12_looks_260 : decode cX12_looks 260 = .ok (.iload 6, 2) := dkAt dk06ref2_cX12_looks_160_a 31 rfl
theorem dX12_looks_262 : decode cX12_looks 262 = .ok (.iconst 1, 1) := dkAt dk06ref2_cX12_looks_160_a 32 rfl
theorem dX12_looks_263 : decode cX12_looks 263 = .ok (.isub, 1) := dkAt dk06ref2_cX12_looks_160_a 33 rfl
theorem dX12_looks_264 : decode cX12_looks 264 = .ok (.baload, 1) := dkAt dk06ref2_cX12_looks_160_a 34 rfl
theorem dX12_looks_273 : decode cX12_looks 273 = .ok (.bastore, 1) := dkAt dk06ref2_cX12_looks_160_a 35 rfl
theorem dX12_looks_274 : decode cX12_looks 274 = .ok (.goto 180, 3) := dkAt dk06ref2_cX12_looks_160_a 36 rfl
theorem dX12_looks_265 : decode cX12_looks 265 = .ok (.ifCond .ne 7, 3) := dkAt dk06ref2_cX12_looks_160_a 37 rfl
theorem dX12_looks_272 : decode cX12_looks 272 = .ok (.iconst 0, 1) := dkAt dk06ref2_cX12_looks_160_a 38 rfl
theorem dX12_looks_268 : decode cX12_looks 268 = .ok (.iconst 1, 1) := dkAt dk06ref2_cX12_looks_160_a 39 rfl
noncomputable def dk06ref2_cX12_looks_200 : List (Nat × Instr × Nat) := [(269, .goto 4, 3), (148, .aload_n 0, 1), (149, .getfield 18, 3), (152, .iload 8, 2), (154, .bipush 8, 2), (156, .irem, 1), (157, .iaload, 1), (158, .istore 9, 2), (160, .iload 8, 2), (162, .bipush 8, 2), (164, .idiv, 1), (165, .iconst 4, 1), (166, .irem, 1), (167, .istore 10, 2), (169, .iload 8, 2), (171, .bipush 32, 2), (173, .idiv, 1), (174, .istore 11, 2), (176, .aload_n 0, 1), (177, .getfield 21, 3), (180, .iload 6, 2), (182, .iload 10, 2), (235, .bastore, 1), (236, .iinc 6 1, 3), (239, .goto 215, 3), (184, .ifCond .ne 18, 3), (202, .iload 10, 2), (204, .iconst 1, 1), (205, .if_icmp .ne 18, 3), (223, .iload 9, 2), (225, .iload 11, 2), (227, .if_icmp .le 7, 3), (234, .iconst 0, 1), (230, .iconst 1, 1), (231, .goto 4, 3), (208, .iload 9, 2), (210, .iload 11, 2), (212, .if_icmp .ne 7, 3), (219, .iconst 0, 1), (220, .goto 15, 3)]
set_option maxRecDepth 100000 in
theorem dk06ref2_cX12_looks_200_a : dkA cX12_looks dk06ref2_cX12_looks_200 = true := by decide +kernel
theorem dX12_looks_269 : decode cX12_looks 269 = .ok (.goto 4, 3) := dkAt dk06ref2_cX12_looks_200_a 0 rfl
theorem dX12_looks_148 : decode cX12_looks 148 = .ok (.aload_n 0, 1) := dkAt dk06ref2_cX12_looks_200_a 1 rfl
theorem dX12_looks_149 : decode cX12_looks 149 = .ok (.getfield 18, 3) := dkAt dk06ref2_cX12_looks_200_a 2 rfl
theorem dX12_looks_152 : decode cX12_looks 152 = .ok (.iload 8, 2) := dkAt dk06ref2_cX12_looks_200_a 3 rfl
theorem dX12_looks_154 : decode cX12_looks 154 = .ok (.bipush 8, 2) := dkAt dk06ref2_cX12_looks_200_a 4 rfl
theorem dX12_looks_156 : decode cX12_looks 156 = .ok (.irem, 1) := dkAt dk06ref2_cX12_looks_200_a 5 rfl
theorem dX12_looks_157 : decode cX12_looks 157 = .ok (.iaload, 1) := dkAt dk06ref2_cX12_looks_200_a 6 rfl
theorem dX12_looks_158 : decode cX12_looks 158 = .ok (.istore 9, 2) := dkAt dk06ref2_cX12_looks_200_a 7 rfl
theorem dX12_looks_160 : decode cX12_looks 160 = .ok (.iload 8, 2) := dkAt dk06ref2_cX12_looks_200_a 8 rfl
theorem dX12_looks_162 : decode cX12_looks 162 = .ok (.bipush 8, 2) := dkAt dk06ref2_cX12_looks_200_a 9 rfl
theorem dX12_looks_164 : decode cX12_looks 164 = .ok (.idiv, 1) := dkAt dk06ref2_cX12_looks_200_a 10 rfl
theorem dX12_looks_165 : decode cX12_looks 165 = .ok (.iconst 4, 1) := dkAt dk06ref2_cX12_looks_200_a 11 rfl
theorem dX12_looks_166 : decode cX12_looks 166 = .ok (.irem, 1) := dkAt dk06ref2_cX12_looks_200_a 12 rfl
theorem dX12_looks_167 : decode cX12_looks 167 = .ok (.istore 10, 2) := dkAt dk06ref2_cX12_looks_200_a 13 rfl
theorem dX12_looks_169 : decode cX12_looks 169 = .ok (.iload 8, 2) := dkAt dk06ref2_cX12_looks_200_a 14 rfl
theorem dX12_looks_171 : decode cX12_looks 171 = .ok (.bipush 32, 2) := dkAt dk06ref2_cX12_looks_200_a 15 rfl
theorem dX12_looks_173 : decode cX12_looks 173 = .ok (.idiv, 1) := dkAt dk06ref2_cX12_looks_200_a 16 rfl
theorem dX12_looks_174 : decode cX12_looks 174 = .ok (.istore 11, 2) := dkAt dk06ref2_cX12_looks_200_a 17 rfl
theorem dX12_looks_176 : decode cX12_looks 176 = .ok (.aload_n 0, 1) := dkAt dk06ref2_cX12_looks_200_a 18 rfl
theorem dX12_looks_177 : decode cX12_looks 177 = .ok (.getfield 21, 3) := dkAt dk06ref2_cX12_looks_200_a 19 rfl
theorem dX12_looks_180 : decode cX12_looks 180 = .ok (.iload 6, 2) := dkAt dk06ref2_cX12_looks_200_a 20 rfl
theorem dX12_looks_182 : decode cX12_looks 182 = .ok (.iload 10, 2) := dkAt dk06ref2_cX12_looks_200_a 21 rfl
theorem dX12_looks_235 : decode cX12_looks 235 = .ok (.bastore, 1) := dkAt dk06ref2_cX12_looks_200_a 22 rfl
theorem dX12_looks_236 : decode cX12_looks 236 = .ok (.iinc 6 1, 3) := dkAt dk06ref2_cX12_looks_200_a 23 rfl
theorem dX12_looks_239 : decode cX12_looks 239 = .ok (.goto 215, 3) := dkAt dk06ref2_cX12_looks_200_a 24 rfl
theorem dX12_looks_184 : decode cX12_looks 184 = .ok (.ifCond .ne 18, 3) := dkAt dk06ref2_cX12_looks_200_a 25 rfl
theorem dX12_looks_202 : decode cX12_looks 202 = .ok (.iload 10, 2) := dkAt dk06ref2_cX12_looks_200_a 26 rfl
theorem dX12_looks_204 : decode cX12_looks 204 = .ok (.iconst 1, 1) := dkAt dk06ref2_cX12_looks_200_a 27 rfl
theorem dX12_looks_205 : decode cX12_looks 205 = .ok (.if_icmp .ne 18, 3) := dkAt dk06ref2_cX12_looks_200_a 28 rfl
theorem dX12_looks_223 : decode cX12_looks 223 = .ok (.iload 9, 2) := dkAt dk06ref2_cX12_looks_200_a 29 rfl
theorem dX12_looks_225 : decode cX12_looks 225 = .ok (.iload 11, 2) := dkAt dk06ref2_cX12_looks_200_a 30 rfl
theorem dX12_looks_227 : decode cX12_looks 227 = .ok (.if_icmp .le 7, 3) := dkAt dk06ref2_cX12_looks_200_a 31 rfl
theorem dX12_looks_234 : decode cX12_looks 234 = .ok (.iconst 0, 1) := dkAt dk06ref2_cX12_looks_200_a 32 rfl
theorem dX12_looks_230 : decode cX12_looks 230 = .ok (.iconst 1, 1) := dkAt dk06ref2_cX12_looks_200_a 33 rfl
theorem dX12_looks_231 : decode cX12_looks 231 = .ok (.goto 4, 3) := dkAt dk06ref2_cX12_looks_200_a 34 rfl
theorem dX12_looks_208 : decode cX12_looks 208 = .ok (.iload 9, 2) := dkAt dk06ref2_cX12_looks_200_a 35 rfl
theorem dX12_looks_210 : decode cX12_looks 210 = .ok (.iload 11, 2) := dkAt dk06ref2_cX12_looks_200_a 36 rfl
theorem dX12_looks_212 : decode cX12_looks 212 = .ok (.if_icmp .ne 7, 3) := dkAt dk06ref2_cX12_looks_200_a 37 rfl
theorem dX12_looks_219 : decode cX12_looks 219 = .ok (.iconst 0, 1) := dkAt dk06ref2_cX12_looks_200_a 38 rfl
theorem dX12_looks_220 : decode cX12_looks 220 = .ok (.goto 15, 3) := dkAt dk06ref2_cX12_looks_200_a 39 rfl
noncomputable def dk06ref2_cX12_looks_240 : List (Nat × Instr × Nat) := [(215, .iconst 1, 1), (216, .goto 19, 3), (187, .iload 9, 2), (189, .iload 11, 2), (191, .if_icmp .ge 7, 3), (198, .iconst 0, 1), (199, .goto 36, 3), (194, .iconst 1, 1), (195, .goto 40, 3)]
set_option maxRecDepth 100000 in
theorem dk06ref2_cX12_looks_240_a : dkA cX12_looks dk06ref2_cX12_looks_240 = true := by decide +kernel
theorem dX12_looks_215 : decode cX12_looks 215 = .ok (.iconst 1, 1) := dkAt dk06ref2_cX12_looks_240_a 0 rfl
theorem dX12_looks_216 : decode cX12_looks 216 = .ok (.goto 19, 3) := dkAt dk06ref2_cX12_looks_240_a 1 rfl
theorem dX12_looks_187 : decode cX12_looks 187 = .ok (.iload 9, 2) := dkAt dk06ref2_cX12_looks_240_a 2 rfl
theorem dX12_looks_189 : decode cX12_looks 189 = .ok (.iload 11, 2) := dkAt dk06ref2_cX12_looks_240_a 3 rfl
theorem dX12_looks_191 : decode cX12_looks 191 = .ok (.if_icmp .ge 7, 3) := dkAt dk06ref2_cX12_looks_240_a 4 rfl
theorem dX12_looks_198 : decode cX12_looks 198 = .ok (.iconst 0, 1) := dkAt dk06ref2_cX12_looks_240_a 5 rfl
theorem dX12_looks_199 : decode cX12_looks 199 = .ok (.goto 36, 3) := dkAt dk06ref2_cX12_looks_240_a 6 rfl
theorem dX12_looks_194 : decode cX12_looks 194 = .ok (.iconst 1, 1) := dkAt dk06ref2_cX12_looks_240_a 7 rfl
theorem dX12_looks_195 : decode cX12_looks 195 = .ok (.goto 40, 3) := dkAt dk06ref2_cX12_looks_240_a 8 rfl
noncomputable def dk06ref2_cX12_sight_0 : List (Nat × Instr × Nat) := [(0, .aload_n 0, 1), (1, .getfield 9, 3), (4, .iconst 5, 1), (5, .iaload, 1), (6, .iconst (-1), 1), (7, .if_icmp .ne 7, 3), (10, .iconst 3, 1), (11, .goto 18, 3), (29, .ireturn, 1), (14, .aload_n 0, 1), (15, .getfield 9, 3), (18, .sipush 191, 3), (21, .aload_n 0, 1), (22, .getfield 9, 3), (25, .iconst 5, 1), (26, .iaload, 1), (27, .iadd, 1), (28, .iaload, 1)]
set_option maxRecDepth 100000 in
theorem dk06ref2_cX12_sight_0_a : dkA cX12_sight dk06ref2_cX12_sight_0 = true := by decide +kernel
theorem dX12_sight_0 : decode cX12_sight 0 = .ok (.aload_n 0, 1) := dkAt dk06ref2_cX12_sight_0_a 0 rfl
theorem dX12_sight_1 : decode cX12_sight 1 = .ok (.getfield 9, 3) := dkAt dk06ref2_cX12_sight_0_a 1 rfl
theorem dX12_sight_4 : decode cX12_sight 4 = .ok (.iconst 5, 1) := dkAt dk06ref2_cX12_sight_0_a 2 rfl
theorem dX12_sight_5 : decode cX12_sight 5 = .ok (.iaload, 1) := dkAt dk06ref2_cX12_sight_0_a 3 rfl
theorem dX12_sight_6 : decode cX12_sight 6 = .ok (.iconst (-1), 1) := dkAt dk06ref2_cX12_sight_0_a 4 rfl
theorem dX12_sight_7 : decode cX12_sight 7 = .ok (.if_icmp .ne 7, 3) := dkAt dk06ref2_cX12_sight_0_a 5 rfl
theorem dX12_sight_10 : decode cX12_sight 10 = .ok (.iconst 3, 1) := dkAt dk06ref2_cX12_sight_0_a 6 rfl
theorem dX12_sight_11 : decode cX12_sight 11 = .ok (.goto 18, 3) := dkAt dk06ref2_cX12_sight_0_a 7 rfl
theorem dX12_sight_29 : decode cX12_sight 29 = .ok (.ireturn, 1) := dkAt dk06ref2_cX12_sight_0_a 8 rfl
theorem dX12_sight_14 : decode cX12_sight 14 = .ok (.aload_n 0, 1) := dkAt dk06ref2_cX12_sight_0_a 9 rfl
theorem dX12_sight_15 : decode cX12_sight 15 = .ok (.getfield 9, 3) := dkAt dk06ref2_cX12_sight_0_a 10 rfl
theorem dX12_sight_18 : decode cX12_sight 18 = .ok (.sipush 191, 3) := dkAt dk06ref2_cX12_sight_0_a 11 rfl
theorem dX12_sight_21 : decode cX12_sight 21 = .ok (.aload_n 0, 1) := dkAt dk06ref2_cX12_sight_0_a 12 rfl
theorem dX12_sight_22 : decode cX12_sight 22 = .ok (.getfield 9, 3) := dkAt dk06ref2_cX12_sight_0_a 13 rfl
theorem dX12_sight_25 : decode cX12_sight 25 = .ok (.iconst 5, 1) := dkAt dk06ref2_cX12_sight_0_a 14 rfl
theorem dX12_sight_26 : decode cX12_sight 26 = .ok (.iaload, 1) := dkAt dk06ref2_cX12_sight_0_a 15 rfl
theorem dX12_sight_27 : decode cX12_sight 27 = .ok (.iadd, 1) := dkAt dk06ref2_cX12_sight_0_a 16 rfl
theorem dX12_sight_28 : decode cX12_sight 28 = .ok (.iaload, 1) := dkAt dk06ref2_cX12_sight_0_a 17 rfl
noncomputable def dk06ref2_cX12_reachOf_0 : List (Nat × Instr × Nat) := [(0, .aload_n 0, 1), (1, .getfield 9, 3), (4, .bipush 10, 2), (6, .iload_n 1, 1), (7, .iadd, 1), (8, .iaload, 1), (9, .istore_n 2, 1), (10, .aload_n 0, 1), (11, .getfield 9, 3), (14, .bipush 19, 2), (16, .iload_n 1, 1), (17, .iadd, 1), (18, .iaload, 1), (19, .istore_n 3, 1), (20, .aload_n 0, 1), (21, .iload_n 1, 1), (22, .iload_n 2, 1), (23, .aload_n 0, 1), (24, .getfield 9, 3), (27, .bipush 28, 2), (29, .iload_n 1, 1), (30, .iadd, 1), (31, .iaload, 1), (32, .invokevirtual 160, 3), (35, .aload_n 0, 1), (36, .invokevirtual 140, 3), (39, .aload_n 0, 1), (40, .getfield 143, 3), (43, .iadd, 1), (44, .aload_n 0, 1), (45, .getfield 9, 3), (48, .bipush 6, 2), (50, .iaload, 1), (51, .isub, 1), (52, .istore 4, 2), (54, .iload 4, 2), (56, .iload_n 2, 1), (57, .iconst 1, 1), (87, .iadd, 1), (88, .istore 4, 2)]
set_option maxRecDepth 100000 in
theorem dk06ref2_cX12_reachOf_0_a : dkA cX12_reachOf dk06ref2_cX12_reachOf_0 = true := by decide +kernel
theorem dX12_reachOf_0 : decode cX12_reachOf 0 = .ok (.aload_n 0, 1) := dkAt dk06ref2_cX12_reachOf_0_a 0 rfl
theorem dX12_reachOf_1 : decode cX12_reachOf 1 = .ok (.getfield 9, 3) := dkAt dk06ref2_cX12_reachOf_0_a 1 rfl
theorem dX12_reachOf_4 : decode cX12_reachOf 4 = .ok (.bipush 10, 2) := dkAt dk06ref2_cX12_reachOf_0_a 2 rfl
theorem dX12_reachOf_6 : decode cX12_reachOf 6 = .ok (.iload_n 1, 1) := dkAt dk06ref2_cX12_reachOf_0_a 3 rfl
theorem dX12_reachOf_7 : decode cX12_reachOf 7 = .ok (.iadd, 1) := dkAt dk06ref2_cX12_reachOf_0_a 4 rfl
theorem dX12_reachOf_8 : decode cX12_reachOf 8 = .ok (.iaload, 1) := dkAt dk06ref2_cX12_reachOf_0_a 5 rfl
theorem dX12_reachOf_9 : decode cX12_reachOf 9 = .ok (.istore_n 2, 1) := dkAt dk06ref2_cX12_reachOf_0_a 6 rfl
theorem dX12_reachOf_10 : decode cX12_reachOf 10 = .ok (.aload_n 0, 1) := dkAt dk06ref2_cX12_reachOf_0_a 7 rfl
theorem dX12_reachOf_11 : decode cX12_reachOf 11 = .ok (.getfield 9, 3) := dkAt dk06ref2_cX12_reachOf_0_a 8 rfl
theorem dX12_reachOf_14 : decode cX12_reachOf 14 = .ok (.bipush 19, 2) := dkAt dk06ref2_cX12_reachOf_0_a 9 rfl
theorem dX12_reachOf_16 : decode cX12_reachOf 16 = .ok (.iload_n 1, 1) := dkAt dk06ref2_cX12_reachOf_0_a 10 rfl
theorem dX12_reachOf_17 : decode cX12_reachOf 17 = .ok (.iadd, 1) := dkAt dk06ref2_cX12_reachOf_0_a 11 rfl
theorem dX12_reachOf_18 : decode cX12_reachOf 18 = .ok (.iaload, 1) := dkAt dk06ref2_cX12_reachOf_0_a 12 rfl
theorem dX12_reachOf_19 : decode cX12_reachOf 19 = .ok (.istore_n 3, 1) := dkAt dk06ref2_cX12_reachOf_0_a 13 rfl
theorem dX12_reachOf_20 : decode cX12_reachOf 20 = .ok (.aload_n 0, 1) := dkAt dk06ref2_cX12_reachOf_0_a 14 rfl
theorem dX12_reachOf_21 : decode cX12_reachOf 21 = .ok (.iload_n 1, 1) := dkAt dk06ref2_cX12_reachOf_0_a 15 rfl
theorem dX12_reachOf_22 : decode cX12_reachOf 22 = .ok (.iload_n 2, 1) := dkAt dk06ref2_cX12_reachOf_0_a 16 rfl
theorem dX12_reachOf_23 : decode cX12_reachOf 23 = .ok (.aload_n 0, 1) := dkAt dk06ref2_cX12_reachOf_0_a 17 rfl
theorem dX12_reachOf_24 : decode cX12_reachOf 24 = .ok (.getfield 9, 3) := dkAt dk06ref2_cX12_reachOf_0_a 18 rfl
theorem dX12_reachOf_27 : decode cX12_reachOf 27 = .ok (.bipush 28, 2) := dkAt dk06ref2_cX12_reachOf_0_a 19 rfl
theorem dX12_reachOf_29 : decode cX12_reachOf 29 = .ok (.iload_n 1, 1) := dkAt dk06ref2_cX12_reachOf_0_a 20 rfl
theorem dX12_reachOf_30 : decode cX12_reachOf 30 = .ok (.iadd, 1) := dkAt dk06ref2_cX12_reachOf_0_a 21 rfl
theorem dX12_reachOf_31 : decode cX12_reachOf 31 = .ok (.iaload, 1) := dkAt dk06ref2_cX12_reachOf_0_a 22 rfl
theorem dX12_reachOf_32 : decode cX12_reachOf 32 = .ok (.invokevirtual 160, 3) := dkAt dk06ref2_cX12_reachOf_0_a 23 rfl
theorem dX12_reachOf_35 : decode cX12_reachOf 35 = .ok (.aload_n 0, 1) := dkAt dk06ref2_cX12_reachOf_0_a 24 rfl
theorem dX12_reachOf_36 : decode cX12_reachOf 36 = .ok (.invokevirtual 140, 3) := dkAt dk06ref2_cX12_reachOf_0_a 25 rfl
theorem dX12_reachOf_39 : decode cX12_reachOf 39 = .ok (.aload_n 0, 1) := dkAt dk06ref2_cX12_reachOf_0_a 26 rfl
theorem dX12_reachOf_40 : decode cX12_reachOf 40 = .ok (.getfield 143, 3) := dkAt dk06ref2_cX12_reachOf_0_a 27 rfl
theorem dX12_reachOf_43 : decode cX12_reachOf 43 = .ok (.iadd, 1) := dkAt dk06ref2_cX12_reachOf_0_a 28 rfl
theorem dX12_reachOf_44 : decode cX12_reachOf 44 = .ok (.aload_n 0, 1) := dkAt dk06ref2_cX12_reachOf_0_a 29 rfl
theorem dX12_reachOf_45 : decode cX12_reachOf 45 = .ok (.getfield 9, 3) := dkAt dk06ref2_cX12_reachOf_0_a 30 rfl
theorem dX12_reachOf_48 : decode cX12_reachOf 48 = .ok (.bipush 6, 2) := dkAt dk06ref2_cX12_reachOf_0_a 31 rfl
theorem dX12_reachOf_50 : decode cX12_reachOf 50 = .ok (.iaload, 1) := dkAt dk06ref2_cX12_reachOf_0_a 32 rfl
theorem dX12_reachOf_51 : decode cX12_reachOf 51 = .ok (.isub, 1) := dkAt dk06ref2_cX12_reachOf_0_a 33 rfl
theorem dX12_reachOf_52 : decode cX12_reachOf 52 = .ok (.istore 4, 2) := dkAt dk06ref2_cX12_reachOf_0_a 34 rfl
theorem dX12_reachOf_54 : decode cX12_reachOf 54 = .ok (.iload 4, 2) := dkAt dk06ref2_cX12_reachOf_0_a 35 rfl
theorem dX12_reachOf_56 : decode cX12_reachOf 56 = .ok (.iload_n 2, 1) := dkAt dk06ref2_cX12_reachOf_0_a 36 rfl
theorem dX12_reachOf_57 : decode cX12_reachOf 57 = .ok (.iconst 1, 1) := dkAt dk06ref2_cX12_reachOf_0_a 37 rfl
theorem dX12_reachOf_87 : decode cX12_reachOf 87 = .ok (.iadd, 1) := dkAt dk06ref2_cX12_reachOf_0_a 38 rfl
theorem dX12_reachOf_88 : decode cX12_reachOf 88 = .ok (.istore 4, 2) := dkAt dk06ref2_cX12_reachOf_0_a 39 rfl
noncomputable def dk06ref2_cX12_reachOf_40 : List (Nat × Instr × Nat) := [(90, .iload 4, 2), (117, .istore 4, 2), (119, .iload_n 2, 1), (120, .bipush 6, 2), (137, .ireturn, 1), (122, .if_icmp .ne 13, 3), (135, .iload 4, 2), (125, .iload 4, 2), (127, .iconst 1, 1), (128, .if_icmp .le 7, 3), (131, .iconst 1, 1), (132, .goto 5, 3), (92, .ifCond .lt 19, 3), (111, .iconst 0, 1), (112, .goto 5, 3), (95, .iload_n 2, 1), (96, .iconst 5, 1), (97, .if_icmp .ne 18, 3), (115, .iload 4, 2), (100, .aload_n 0, 1), (101, .getfield 9, 3), (104, .bipush 7, 2), (106, .iaload, 1), (107, .iload_n 3, 1), (108, .if_icmp .le 7, 3), (58, .if_icmp .eq 8, 3), (66, .iload_n 3, 1), (67, .iconst 3, 1), (68, .idiv, 1), (69, .goto 18, 3), (61, .iload_n 2, 1), (62, .iconst 4, 1), (63, .if_icmp .ne 9, 3), (72, .iload_n 2, 1), (73, .iconst 2, 1), (74, .if_icmp .eq 8, 3), (82, .iconst (-1), 1), (83, .goto 4, 3), (77, .iload_n 2, 1), (78, .iconst 5, 1)]
set_option maxRecDepth 100000 in
theorem dk06ref2_cX12_reachOf_40_a : dkA cX12_reachOf dk06ref2_cX12_reachOf_40 = true := by decide +kernel
theorem dX12_reachOf_90 : decode cX12_reachOf 90 = .ok (.iload 4, 2) := dkAt dk06ref2_cX12_reachOf_40_a 0 rfl
theorem dX12_reachOf_117 : decode cX12_reachOf 117 = .ok (.istore 4, 2) := dkAt dk06ref2_cX12_reachOf_40_a 1 rfl
theorem dX12_reachOf_119 : decode cX12_reachOf 119 = .ok (.iload_n 2, 1) := dkAt dk06ref2_cX12_reachOf_40_a 2 rfl
theorem dX12_reachOf_120 : decode cX12_reachOf 120 = .ok (.bipush 6, 2) := dkAt dk06ref2_cX12_reachOf_40_a 3 rfl
theorem dX12_reachOf_137 : decode cX12_reachOf 137 = .ok (.ireturn, 1) := dkAt dk06ref2_cX12_reachOf_40_a 4 rfl
theorem dX12_reachOf_122 : decode cX12_reachOf 122 = .ok (.if_icmp .ne 13, 3) := dkAt dk06ref2_cX12_reachOf_40_a 5 rfl
theorem dX12_reachOf_135 : decode cX12_reachOf 135 = .ok (.iload 4, 2) := dkAt dk06ref2_cX12_reachOf_40_a 6 rfl
theorem dX12_reachOf_125 : decode cX12_reachOf 125 = .ok (.iload 4, 2) := dkAt dk06ref2_cX12_reachOf_40_a 7 rfl
theorem dX12_reachOf_127 : decode cX12_reachOf 127 = .ok (.iconst 1, 1) := dkAt dk06ref2_cX12_reachOf_40_a 8 rfl
theorem dX12_reachOf_128 : decode cX12_reachOf 128 = .ok (.if_icmp .le 7, 3) := dkAt dk06ref2_cX12_reachOf_40_a 9 rfl
theorem dX12_reachOf_131 : decode cX12_reachOf 131 = .ok (.iconst 1, 1) := dkAt dk06ref2_cX12_reachOf_40_a 10 rfl
theorem dX12_reachOf_132 : decode cX12_reachOf 132 = .ok (.goto 5, 3) := dkAt dk06ref2_cX12_reachOf_40_a 11 rfl
theorem dX12_reachOf_92 : decode cX12_reachOf 92 = .ok (.ifCond .lt 19, 3) := dkAt dk06ref2_cX12_reachOf_40_a 12 rfl
theorem dX12_reachOf_111 : decode cX12_reachOf 111 = .ok (.iconst 0, 1) := dkAt dk06ref2_cX12_reachOf_40_a 13 rfl
theorem dX12_reachOf_112 : decode cX12_reachOf 112 = .ok (.goto 5, 3) := dkAt dk06ref2_cX12_reachOf_40_a 14 rfl
theorem dX12_reachOf_95 : decode cX12_reachOf 95 = .ok (.iload_n 2, 1) := dkAt dk06ref2_cX12_reachOf_40_a 15 rfl
theorem dX12_reachOf_96 : decode cX12_reachOf 96 = .ok (.iconst 5, 1) := dkAt dk06ref2_cX12_reachOf_40_a 16 rfl
theorem dX12_reachOf_97 : decode cX12_reachOf 97 = .ok (.if_icmp .ne 18, 3) := dkAt dk06ref2_cX12_reachOf_40_a 17 rfl
theorem dX12_reachOf_115 : decode cX12_reachOf 115 = .ok (.iload 4, 2) := dkAt dk06ref2_cX12_reachOf_40_a 18 rfl
theorem dX12_reachOf_100 : decode cX12_reachOf 100 = .ok (.aload_n 0, 1) := dkAt dk06ref2_cX12_reachOf_40_a 19 rfl
theorem dX12_reachOf_101 : decode cX12_reachOf 101 = .ok (.getfield 9, 3) := dkAt dk06ref2_cX12_reachOf_40_a 20 rfl
theorem dX12_reachOf_104 : decode cX12_reachOf 104 = .ok (.bipush 7, 2) := dkAt dk06ref2_cX12_reachOf_40_a 21 rfl
theorem dX12_reachOf_106 : decode cX12_reachOf 106 = .ok (.iaload, 1) := dkAt dk06ref2_cX12_reachOf_40_a 22 rfl
theorem dX12_reachOf_107 : decode cX12_reachOf 107 = .ok (.iload_n 3, 1) := dkAt dk06ref2_cX12_reachOf_40_a 23 rfl
theorem dX12_reachOf_108 : decode cX12_reachOf 108 = .ok (.if_icmp .le 7, 3) := dkAt dk06ref2_cX12_reachOf_40_a 24 rfl
theorem dX12_reachOf_58 : decode cX12_reachOf 58 = .ok (.if_icmp .eq 8, 3) := dkAt dk06ref2_cX12_reachOf_40_a 25 rfl
theorem dX12_reachOf_66 : decode cX12_reachOf 66 = .ok (.iload_n 3, 1) := dkAt dk06ref2_cX12_reachOf_40_a 26 rfl
theorem dX12_reachOf_67 : decode cX12_reachOf 67 = .ok (.iconst 3, 1) := dkAt dk06ref2_cX12_reachOf_40_a 27 rfl
theorem dX12_reachOf_68 : decode cX12_reachOf 68 = .ok (.idiv, 1) := dkAt dk06ref2_cX12_reachOf_40_a 28 rfl
theorem dX12_reachOf_69 : decode cX12_reachOf 69 = .ok (.goto 18, 3) := dkAt dk06ref2_cX12_reachOf_40_a 29 rfl
theorem dX12_reachOf_61 : decode cX12_reachOf 61 = .ok (.iload_n 2, 1) := dkAt dk06ref2_cX12_reachOf_40_a 30 rfl
theorem dX12_reachOf_62 : decode cX12_reachOf 62 = .ok (.iconst 4, 1) := dkAt dk06ref2_cX12_reachOf_40_a 31 rfl
theorem dX12_reachOf_63 : decode cX12_reachOf 63 = .ok (.if_icmp .ne 9, 3) := dkAt dk06ref2_cX12_reachOf_40_a 32 rfl
theorem dX12_reachOf_72 : decode cX12_reachOf 72 = .ok (.iload_n 2, 1) := dkAt dk06ref2_cX12_reachOf_40_a 33 rfl
theorem dX12_reachOf_73 : decode cX12_reachOf 73 = .ok (.iconst 2, 1) := dkAt dk06ref2_cX12_reachOf_40_a 34 rfl
theorem dX12_reachOf_74 : decode cX12_reachOf 74 = .ok (.if_icmp .eq 8, 3) := dkAt dk06ref2_cX12_reachOf_40_a 35 rfl
theorem dX12_reachOf_82 : decode cX12_reachOf 82 = .ok (.iconst (-1), 1) := dkAt dk06ref2_cX12_reachOf_40_a 36 rfl
theorem dX12_reachOf_83 : decode cX12_reachOf 83 = .ok (.goto 4, 3) := dkAt dk06ref2_cX12_reachOf_40_a 37 rfl
theorem dX12_reachOf_77 : decode cX12_reachOf 77 = .ok (.iload_n 2, 1) := dkAt dk06ref2_cX12_reachOf_40_a 38 rfl
theorem dX12_reachOf_78 : decode cX12_reachOf 78 = .ok (.iconst 5, 1) := dkAt dk06ref2_cX12_reachOf_40_a 39 rfl
noncomputable def dk06ref2_cX12_reachOf_80 : List (Nat × Instr × Nat) := [(79, .if_icmp .ne 7, 3), (86, .iconst 0, 1)]
set_option maxRecDepth 100000 in
theorem dk06ref2_cX12_reachOf_80_a : dkA cX12_reachOf dk06ref2_cX12_reachOf_80 = true := by decide +kernel
theorem dX12_reachOf_79 : decode cX12_reachOf 79 = .ok (.if_icmp .ne 7, 3) := dkAt dk06ref2_cX12_reachOf_80_a 0 rfl
theorem dX12_reachOf_86 : decode cX12_reachOf 86 = .ok (.iconst 0, 1) := dkAt dk06ref2_cX12_reachOf_80_a 1 rfl
noncomputable def dk06ref2_cX12_isSeen_0 : List (Nat × Instr × Nat) := [(0, .iload_n 2, 1), (1, .aload_n 0, 1), (2, .getfield 9, 3), (5, .bipush 28, 2), (7, .iload_n 1, 1), (8, .iadd, 1), (9, .iaload, 1), (10, .invokestatic 170, 3), (13, .aload_n 0, 1), (14, .iload_n 1, 1), (15, .invokevirtual 167, 3), (18, .if_icmp .gt 7, 3), (25, .iconst 0, 1), (26, .ireturn, 1), (21, .iconst 1, 1), (22, .goto 4, 3)]
set_option maxRecDepth 100000 in
theorem dk06ref2_cX12_isSeen_0_a : dkA cX12_isSeen dk06ref2_cX12_isSeen_0 = true := by decide +kernel
theorem dX12_isSeen_0 : decode cX12_isSeen 0 = .ok (.iload_n 2, 1) := dkAt dk06ref2_cX12_isSeen_0_a 0 rfl
theorem dX12_isSeen_1 : decode cX12_isSeen 1 = .ok (.aload_n 0, 1) := dkAt dk06ref2_cX12_isSeen_0_a 1 rfl
theorem dX12_isSeen_2 : decode cX12_isSeen 2 = .ok (.getfield 9, 3) := dkAt dk06ref2_cX12_isSeen_0_a 2 rfl
theorem dX12_isSeen_5 : decode cX12_isSeen 5 = .ok (.bipush 28, 2) := dkAt dk06ref2_cX12_isSeen_0_a 3 rfl
theorem dX12_isSeen_7 : decode cX12_isSeen 7 = .ok (.iload_n 1, 1) := dkAt dk06ref2_cX12_isSeen_0_a 4 rfl
theorem dX12_isSeen_8 : decode cX12_isSeen 8 = .ok (.iadd, 1) := dkAt dk06ref2_cX12_isSeen_0_a 5 rfl
theorem dX12_isSeen_9 : decode cX12_isSeen 9 = .ok (.iaload, 1) := dkAt dk06ref2_cX12_isSeen_0_a 6 rfl
theorem dX12_isSeen_10 : decode cX12_isSeen 10 = .ok (.invokestatic 170, 3) := dkAt dk06ref2_cX12_isSeen_0_a 7 rfl
theorem dX12_isSeen_13 : decode cX12_isSeen 13 = .ok (.aload_n 0, 1) := dkAt dk06ref2_cX12_isSeen_0_a 8 rfl
theorem dX12_isSeen_14 : decode cX12_isSeen 14 = .ok (.iload_n 1, 1) := dkAt dk06ref2_cX12_isSeen_0_a 9 rfl
theorem dX12_isSeen_15 : decode cX12_isSeen 15 = .ok (.invokevirtual 167, 3) := dkAt dk06ref2_cX12_isSeen_0_a 10 rfl
theorem dX12_isSeen_18 : decode cX12_isSeen 18 = .ok (.if_icmp .gt 7, 3) := dkAt dk06ref2_cX12_isSeen_0_a 11 rfl
theorem dX12_isSeen_25 : decode cX12_isSeen 25 = .ok (.iconst 0, 1) := dkAt dk06ref2_cX12_isSeen_0_a 12 rfl
theorem dX12_isSeen_26 : decode cX12_isSeen 26 = .ok (.ireturn, 1) := dkAt dk06ref2_cX12_isSeen_0_a 13 rfl
theorem dX12_isSeen_21 : decode cX12_isSeen 21 = .ok (.iconst 1, 1) := dkAt dk06ref2_cX12_isSeen_0_a 14 rfl
theorem dX12_isSeen_22 : decode cX12_isSeen 22 = .ok (.goto 4, 3) := dkAt dk06ref2_cX12_isSeen_0_a 15 rfl
noncomputable def dk06ref2_cX12_seesOf_0 : List (Nat × Instr × Nat) := [(0, .iconst 0, 1), (1, .istore_n 2, 1), (2, .iconst 0, 1), (3, .istore_n 3, 1), (4, .iload_n 3, 1), (5, .aload_n 0, 1), (6, .getfield 9, 3), (9, .iconst 0, 1), (10, .iaload, 1), (11, .if_icmp .ge 28, 3), (39, .iload_n 2, 1), (40, .ireturn, 1), (14, .iload_n 2, 1), (15, .aload_n 0, 1), (16, .iload_n 3, 1), (17, .iload_n 1, 1), (18, .invokevirtual 174, 3), (21, .ifCond .eq 9, 3), (24, .iconst 1, 1), (25, .iload_n 3, 1), (26, .ishl, 1), (27, .goto 4, 3), (31, .ior, 1), (32, .istore_n 2, 1), (33, .iinc 3 1, 3), (36, .goto (-32), 3), (30, .iconst 0, 1)]
set_option maxRecDepth 100000 in
theorem dk06ref2_cX12_seesOf_0_a : dkA cX12_seesOf dk06ref2_cX12_seesOf_0 = true := by decide +kernel
theorem dX12_seesOf_0 : decode cX12_seesOf 0 = .ok (.iconst 0, 1) := dkAt dk06ref2_cX12_seesOf_0_a 0 rfl
theorem dX12_seesOf_1 : decode cX12_seesOf 1 = .ok (.istore_n 2, 1) := dkAt dk06ref2_cX12_seesOf_0_a 1 rfl
theorem dX12_seesOf_2 : decode cX12_seesOf 2 = .ok (.iconst 0, 1) := dkAt dk06ref2_cX12_seesOf_0_a 2 rfl
theorem dX12_seesOf_3 : decode cX12_seesOf 3 = .ok (.istore_n 3, 1) := dkAt dk06ref2_cX12_seesOf_0_a 3 rfl
theorem dX12_seesOf_4 : decode cX12_seesOf 4 = .ok (.iload_n 3, 1) := dkAt dk06ref2_cX12_seesOf_0_a 4 rfl
theorem dX12_seesOf_5 : decode cX12_seesOf 5 = .ok (.aload_n 0, 1) := dkAt dk06ref2_cX12_seesOf_0_a 5 rfl
theorem dX12_seesOf_6 : decode cX12_seesOf 6 = .ok (.getfield 9, 3) := dkAt dk06ref2_cX12_seesOf_0_a 6 rfl
theorem dX12_seesOf_9 : decode cX12_seesOf 9 = .ok (.iconst 0, 1) := dkAt dk06ref2_cX12_seesOf_0_a 7 rfl
theorem dX12_seesOf_10 : decode cX12_seesOf 10 = .ok (.iaload, 1) := dkAt dk06ref2_cX12_seesOf_0_a 8 rfl
theorem dX12_seesOf_11 : decode cX12_seesOf 11 = .ok (.if_icmp .ge 28, 3) := dkAt dk06ref2_cX12_seesOf_0_a 9 rfl
theorem dX12_seesOf_39 : decode cX12_seesOf 39 = .ok (.iload_n 2, 1) := dkAt dk06ref2_cX12_seesOf_0_a 10 rfl
theorem dX12_seesOf_40 : decode cX12_seesOf 40 = .ok (.ireturn, 1) := dkAt dk06ref2_cX12_seesOf_0_a 11 rfl
theorem dX12_seesOf_14 : decode cX12_seesOf 14 = .ok (.iload_n 2, 1) := dkAt dk06ref2_cX12_seesOf_0_a 12 rfl
theorem dX12_seesOf_15 : decode cX12_seesOf 15 = .ok (.aload_n 0, 1) := dkAt dk06ref2_cX12_seesOf_0_a 13 rfl
theorem dX12_seesOf_16 : decode cX12_seesOf 16 = .ok (.iload_n 3, 1) := dkAt dk06ref2_cX12_seesOf_0_a 14 rfl
theorem dX12_seesOf_17 : decode cX12_seesOf 17 = .ok (.iload_n 1, 1) := dkAt dk06ref2_cX12_seesOf_0_a 15 rfl
theorem dX12_seesOf_18 : decode cX12_seesOf 18 = .ok (.invokevirtual 174, 3) := dkAt dk06ref2_cX12_seesOf_0_a 16 rfl
theorem dX12_seesOf_21 : decode cX12_seesOf 21 = .ok (.ifCond .eq 9, 3) := dkAt dk06ref2_cX12_seesOf_0_a 17 rfl
theorem dX12_seesOf_24 : decode cX12_seesOf 24 = .ok (.iconst 1, 1) := dkAt dk06ref2_cX12_seesOf_0_a 18 rfl
theorem dX12_seesOf_25 : decode cX12_seesOf 25 = .ok (.iload_n 3, 1) := dkAt dk06ref2_cX12_seesOf_0_a 19 rfl
theorem dX12_seesOf_26 : decode cX12_seesOf 26 = .ok (.ishl, 1) := dkAt dk06ref2_cX12_seesOf_0_a 20 rfl
theorem dX12_seesOf_27 : decode cX12_seesOf 27 = .ok (.goto 4, 3) := dkAt dk06ref2_cX12_seesOf_0_a 21 rfl
theorem dX12_seesOf_31 : decode cX12_seesOf 31 = .ok (.ior, 1) := dkAt dk06ref2_cX12_seesOf_0_a 22 rfl
theorem dX12_seesOf_32 : decode cX12_seesOf 32 = .ok (.istore_n 2, 1) := dkAt dk06ref2_cX12_seesOf_0_a 23 rfl
theorem dX12_seesOf_33 : decode cX12_seesOf 33 = .ok (.iinc 3 1, 3) := dkAt dk06ref2_cX12_seesOf_0_a 24 rfl
theorem dX12_seesOf_36 : decode cX12_seesOf 36 = .ok (.goto (-32), 3) := dkAt dk06ref2_cX12_seesOf_0_a 25 rfl
theorem dX12_seesOf_30 : decode cX12_seesOf 30 = .ok (.iconst 0, 1) := dkAt dk06ref2_cX12_seesOf_0_a 26 rfl
noncomputable def dk06ref2_cX12_sees_0 : List (Nat × Instr × Nat) := [(0, .iload_n 1, 1), (1, .invokestatic 149, 3), (4, .ifCond .eq 11, 3), (7, .aload_n 0, 1), (8, .iload_n 1, 1), (9, .invokevirtual 178, 3), (12, .goto 4, 3), (16, .ireturn, 1), (15, .iconst (-1), 1)]
set_option maxRecDepth 100000 in
theorem dk06ref2_cX12_sees_0_a : dkA cX12_sees dk06ref2_cX12_sees_0 = true := by decide +kernel
theorem dX12_sees_0 : decode cX12_sees 0 = .ok (.iload_n 1, 1) := dkAt dk06ref2_cX12_sees_0_a 0 rfl
theorem dX12_sees_1 : decode cX12_sees 1 = .ok (.invokestatic 149, 3) := dkAt dk06ref2_cX12_sees_0_a 1 rfl
theorem dX12_sees_4 : decode cX12_sees 4 = .ok (.ifCond .eq 11, 3) := dkAt dk06ref2_cX12_sees_0_a 2 rfl
theorem dX12_sees_7 : decode cX12_sees 7 = .ok (.aload_n 0, 1) := dkAt dk06ref2_cX12_sees_0_a 3 rfl
theorem dX12_sees_8 : decode cX12_sees 8 = .ok (.iload_n 1, 1) := dkAt dk06ref2_cX12_sees_0_a 4 rfl
theorem dX12_sees_9 : decode cX12_sees 9 = .ok (.invokevirtual 178, 3) := dkAt dk06ref2_cX12_sees_0_a 5 rfl
theorem dX12_sees_12 : decode cX12_sees 12 = .ok (.goto 4, 3) := dkAt dk06ref2_cX12_sees_0_a 6 rfl
theorem dX12_sees_16 : decode cX12_sees 16 = .ok (.ireturn, 1) := dkAt dk06ref2_cX12_sees_0_a 7 rfl
theorem dX12_sees_15 : decode cX12_sees 15 = .ok (.iconst (-1), 1) := dkAt dk06ref2_cX12_sees_0_a 8 rfl
noncomputable def dk06ref2_cX12_where_0 : List (Nat × Instr × Nat) := [(0, .iload_n 1, 1), (1, .ifCond .lt 14, 3), (15, .ldc2_w 181, 3), (18, .lreturn, 1), (4, .iload_n 1, 1), (5, .aload_n 0, 1), (6, .getfield 9, 3), (9, .iconst 0, 1), (10, .iaload, 1), (11, .ishr, 1), (12, .ifCond .eq 7, 3), (19, .lconst 0, 1), (20, .lstore_n 2, 1), (21, .iconst 0, 1), (22, .istore 4, 2), (24, .iload 4, 2), (26, .bipush 36, 2), (28, .if_icmp .ge 30, 3), (58, .lload_n 2, 1), (59, .lreturn, 1), (31, .lload_n 2, 1), (32, .aload_n 0, 1), (33, .iload 4, 2), (35, .invokevirtual 178, 3), (38, .iload_n 1, 1), (39, .if_icmp .ne 10, 3), (49, .lconst 0, 1), (50, .lor, 1), (51, .lstore_n 2, 1), (52, .iinc 4 1, 3), (55, .goto (-31), 3), (42, .lconst 1, 1), (43, .iload 4, 2), (45, .lshl, 1), (46, .goto 4, 3)]
set_option maxRecDepth 100000 in
theorem dk06ref2_cX12_where_0_a : dkA cX12_where dk06ref2_cX12_where_0 = true := by decide +kernel
theorem dX12_where_0 : decode cX12_where 0 = .ok (.iload_n 1, 1) := dkAt dk06ref2_cX12_where_0_a 0 rfl
theorem dX12_where_1 : decode cX12_where 1 = .ok (.ifCond .lt 14, 3) := dkAt dk06ref2_cX12_where_0_a 1 rfl
theorem dX12_where_15 : decode cX12_where 15 = .ok (.ldc2_w 181, 3) := dkAt dk06ref2_cX12_where_0_a 2 rfl
theorem dX12_where_18 : decode cX12_where 18 = .ok (.lreturn, 1) := dkAt dk06ref2_cX12_where_0_a 3 rfl
theorem dX12_where_4 : decode cX12_where 4 = .ok (.iload_n 1, 1) := dkAt dk06ref2_cX12_where_0_a 4 rfl
theorem dX12_where_5 : decode cX12_where 5 = .ok (.aload_n 0, 1) := dkAt dk06ref2_cX12_where_0_a 5 rfl
theorem dX12_where_6 : decode cX12_where 6 = .ok (.getfield 9, 3) := dkAt dk06ref2_cX12_where_0_a 6 rfl
theorem dX12_where_9 : decode cX12_where 9 = .ok (.iconst 0, 1) := dkAt dk06ref2_cX12_where_0_a 7 rfl
theorem dX12_where_10 : decode cX12_where 10 = .ok (.iaload, 1) := dkAt dk06ref2_cX12_where_0_a 8 rfl
theorem dX12_where_11 : decode cX12_where 11 = .ok (.ishr, 1) := dkAt dk06ref2_cX12_where_0_a 9 rfl
theorem dX12_where_12 : decode cX12_where 12 = .ok (.ifCond .eq 7, 3) := dkAt dk06ref2_cX12_where_0_a 10 rfl
theorem dX12_where_19 : decode cX12_where 19 = .ok (.lconst 0, 1) := dkAt dk06ref2_cX12_where_0_a 11 rfl
theorem dX12_where_20 : decode cX12_where 20 = .ok (.lstore_n 2, 1) := dkAt dk06ref2_cX12_where_0_a 12 rfl
theorem dX12_where_21 : decode cX12_where 21 = .ok (.iconst 0, 1) := dkAt dk06ref2_cX12_where_0_a 13 rfl
theorem dX12_where_22 : decode cX12_where 22 = .ok (.istore 4, 2) := dkAt dk06ref2_cX12_where_0_a 14 rfl
theorem dX12_where_24 : decode cX12_where 24 = .ok (.iload 4, 2) := dkAt dk06ref2_cX12_where_0_a 15 rfl
theorem dX12_where_26 : decode cX12_where 26 = .ok (.bipush 36, 2) := dkAt dk06ref2_cX12_where_0_a 16 rfl
theorem dX12_where_28 : decode cX12_where 28 = .ok (.if_icmp .ge 30, 3) := dkAt dk06ref2_cX12_where_0_a 17 rfl
theorem dX12_where_58 : decode cX12_where 58 = .ok (.lload_n 2, 1) := dkAt dk06ref2_cX12_where_0_a 18 rfl
theorem dX12_where_59 : decode cX12_where 59 = .ok (.lreturn, 1) := dkAt dk06ref2_cX12_where_0_a 19 rfl
theorem dX12_where_31 : decode cX12_where 31 = .ok (.lload_n 2, 1) := dkAt dk06ref2_cX12_where_0_a 20 rfl
theorem dX12_where_32 : decode cX12_where 32 = .ok (.aload_n 0, 1) := dkAt dk06ref2_cX12_where_0_a 21 rfl
theorem dX12_where_33 : decode cX12_where 33 = .ok (.iload 4, 2) := dkAt dk06ref2_cX12_where_0_a 22 rfl
theorem dX12_where_35 : decode cX12_where 35 = .ok (.invokevirtual 178, 3) := dkAt dk06ref2_cX12_where_0_a 23 rfl
theorem dX12_where_38 : decode cX12_where 38 = .ok (.iload_n 1, 1) := dkAt dk06ref2_cX12_where_0_a 24 rfl
theorem dX12_where_39 : decode cX12_where 39 = .ok (.if_icmp .ne 10, 3) := dkAt dk06ref2_cX12_where_0_a 25 rfl
theorem dX12_where_49 : decode cX12_where 49 = .ok (.lconst 0, 1) := dkAt dk06ref2_cX12_where_0_a 26 rfl
theorem dX12_where_50 : decode cX12_where 50 = .ok (.lor, 1) := dkAt dk06ref2_cX12_where_0_a 27 rfl
theorem dX12_where_51 : decode cX12_where 51 = .ok (.lstore_n 2, 1) := dkAt dk06ref2_cX12_where_0_a 28 rfl
theorem dX12_where_52 : decode cX12_where 52 = .ok (.iinc 4 1, 3) := dkAt dk06ref2_cX12_where_0_a 29 rfl
theorem dX12_where_55 : decode cX12_where 55 = .ok (.goto (-31), 3) := dkAt dk06ref2_cX12_where_0_a 30 rfl
theorem dX12_where_42 : decode cX12_where 42 = .ok (.lconst 1, 1) := dkAt dk06ref2_cX12_where_0_a 31 rfl
theorem dX12_where_43 : decode cX12_where 43 = .ok (.iload 4, 2) := dkAt dk06ref2_cX12_where_0_a 32 rfl
theorem dX12_where_45 : decode cX12_where 45 = .ok (.lshl, 1) := dkAt dk06ref2_cX12_where_0_a 33 rfl
theorem dX12_where_46 : decode cX12_where 46 = .ok (.goto 4, 3) := dkAt dk06ref2_cX12_where_0_a 34 rfl
theorem kc_looks_0 : ∀ w ∈ wsX120, w ∈ wsX12_looks := fun w h => List.mem_cons_of_mem _ (gin_wsX120 w h)
theorem kc_looks_1 : (.fieldLink RX12 18 "MistHeapsModel" "by" "[I" : Cond) ∈ wsX12_looks := kc_of 1149 rfl rfl rfl
theorem kc_looks_2 : (.fieldLink RX12 9 "MistHeapsModel" "s" "[I" : Cond) ∈ wsX12_looks := kc_of 1141 rfl rfl rfl
theorem kc_looks_3 : (.fieldLink RX12 143 "MistHeapsModel" "seeing" "I" : Cond) ∈ wsX12_looks := kc_of 1151 rfl rfl rfl
theorem kc_looks_4 : (.fieldLink RX12 146 "MistHeapsModel" "drifting" "I" : Cond) ∈ wsX12_looks := kc_of 1152 rfl rfl rfl
theorem kc_looks_5 : (.fieldLink RX12 21 "MistHeapsModel" "truths" "[Z" : Cond) ∈ wsX12_looks := kc_of 1150 rfl rfl rfl
set_option maxHeartbeats 4000000 in
set_option maxRecDepth 100000 in
theorem c_looks (l : Launch) (dC : Nat → ClassId) (dI : Nat → Nat → Nat) (m0 aS aI aB aT aG aO aN aD aY : Nat) (th im ac sp en wg op se dn rn kd nu tv : Int32) (bv : Int64) (cS cB cT : ClassId) (fS : Nat → Int32) (fB : Nat → Int32) (fT : Nat → Int32) (x y z : Int32) (sz : Nat) (zh : hold fS) : Met l yX12_looks wsX12_looks ({ frames := 0, cells := 0, slots := 0, locals := 0 } : Room) (va_Pc [.ref m0, .int x, .int y, .int z] (fun U => U.heap.size = sz ∧ va_P (dC, dI) vwCl [(zo14irriiiiiirriirrrrlriiii m0 th aS aI im ac sp en wg op aB aT se dn aG aO aN aD bv aY rn kd nu tv), (zaI aS cS 901 fS), (zaI aB cB 6 fB), (zaI aT cT 64 fT)] U.heap ∧ va_K (dC, dI) vwCl [(cS, .int), (cB, .int), (cT, .boolean)] U ∧ va_D (fun _ => True) [(zo14irriiiiiirriirrrrlriiii m0 th aS aI im ac sp en wg op aB aT se dn aG aO aN aD bv aY rn kd nu tv), (zaI aS cS 901 fS), (zaI aB cB 6 fB), (zaI aT cT 64 fT)])) (va_Qv (fun (u : (Nat → Int32) × (Nat → Int32) × (Int32) × (Int32)) => match u with | (fB9, fT9, se9, dn9) => True) (fun (u : (Nat → Int32) × (Nat → Int32) × (Int32) × (Int32)) (t : State) => match u with | (fB9, fT9, se9, dn9) => va_P (dC, dI) vwCl [(zo14irriiiiiirriirrrrlriiii m0 th aS aI im ac sp en wg op aB aT se9 dn9 aG aO aN aD bv aY rn kd nu tv), (zaI aS cS 901 fS), (zaI aB cB 6 fB9), (zaI aT cT 64 fT9)] t.heap ∧ va_K (dC, dI) vwCl [(cS, .int), (cB, .int), (cT, .boolean)] t ∧ va_D (va_A [(zo14irriiiiiirriirrrrlriiii m0 th aS aI im ac sp en wg op aB aT se dn aG aO aN aD bv aY rn kd nu tv), (zaI aS cS 901 fS), (zaI aB cB 6 fB), (zaI aT cT 64 fT)] sz) [(zo14irriiiiiirriirrrrlriiii m0 th aS aI im ac sp en wg op aB aT se9 dn9 aG aO aN aD bv aY rn kd nu tv), (zaI aS cS 901 fS), (zaI aB cB 6 fB9), (zaI aT cT 64 fT9)]) (va_A [(zo14irriiiiiirriirrrrlriiii m0 th aS aI im ac sp en wg op aB aT se dn aG aO aN aD bv aY rn kd nu tv), (zaI aS cS 901 fS), (zaI aB cB 6 fB), (zaI aT cT 64 fT)] sz)) 0 0 (va_A [(zo14irriiiiiirriirrrrlriiii m0 th aS aI im ac sp en wg op aB aT se dn aG aO aN aD bv aY rn kd nu tv), (zaI aS cS 901 fS), (zaI aB cB 6 fB), (zaI aT cT 64 fT)] sz) := by
  refine met_ofQ (cc := cX12_looks) (maxL := 12) (ret := none) (by decide) rfl ?_
  intro p e s m args below meth c s₁ Q B hml hv hQ
  obtain ⟨rfl, hsz, hP, hK, hD0⟩ := hv
  have hx := B.exec
  have hb := B.bytes
  have hr := B.returns
  have hts := atoms_spec (ws := wsX12_looks) B.pre
  have hown : s.vm.findClass RX12 = some m.cls := findClass_of_methodNamed B.named
  have hlocks := B.notSynchronized
  subst hsz
  have hD := hD0.self (sz := s.heap.size)
  generalize hAe : va_A [(zo14irriiiiiirriirrrrlriiii m0 th aS aI im ac sp en wg op aB aT se dn aG aO aN aD bv aY rn kd nu tv), (zaI aS cS 901 fS), (zaI aB cB 6 fB), (zaI aT cT 64 fT)] s.heap.size = A at hD hQ ⊢
  have hA : ∀ q : Nat, s.heap.size ≤ q → A q := fun q h => by rw [← hAe]; exact Or.inr h
  have hS : va_S A s.heap s.heap [] := va_S.rf
  have hl := lv_entry [.ref m0, .int x, .int y, .int z] (n := 12) (Nat.le_of_ble_eq_true rfl)
  rw [lg_entry_eq]
  generalize (lg_sl [.ref m0, .int x, .int y, .int z] ++ List.replicate (12 - (lg_sl [.ref m0, .int x, .int y, .int z]).length) Slot.unset).toArray = ls at hl ⊢
  generalize hag : ([.ref m0, .int x, .int y, .int z] : List Value).toArray = args at hts hQ ⊢
  have hl : lv_has ls 12 [(0, .ref m0), (1, .int x), (2, .int y), (3, .int z)] := hl
  obtain ⟨H, hH⟩ : ∃ H : Heap, H = s.heap := ⟨_, rfl⟩
  rw [← hH] at hP
  rw [← hH]
  have hS : va_S A s.heap H [] := by rw [hH]; exact hS
  obtain ⟨locs, hlo⟩ : ∃ L : List Loc, L = [] := ⟨_, rfl⟩
  rw [← hlo] at hS
  rw [← hlo]
  clear hH hlo
  rcases zh with zh | ⟨h, hh, zh, k, hk, zk, zo⟩
  · skip
    refine lv_aload_n hx hb dX12_looks_0 rfl (lv_at hl 0 rfl) ?_
    refine va_get (D := (dC, dI)) (ci := 14) (v := .ref aB) (C := RX12) (T := TX12) (N := 23) hx hb hts kc_looks_0 hown hK hP 0 rfl rfl 9 (by decide) (hts (.fieldLink RX12 18 "MistHeapsModel" "by" "[I") kc_looks_1) (fun _ h9 => h9) rfl dX12_looks_1 ?_
    refine lv_iconst (v := 0) hx hb dX12_looks_4 (by decide) ?_
    refine lv_iload_n hx hb dX12_looks_5 rfl (lv_at hl 1 rfl) ?_
    refine va_iast hx hb hK hP hD hS 2 1 rfl rfl (vp_in_nI (n := 0) (N := 6) (by omega) (by omega)) dX12_looks_6 (fun H locs hP hD hS => ?_)
    have hP : va_P (dC, dI) vwCl [(zo14irriiiiiirriirrrrlriiii m0 th aS aI im ac sp en wg op aB aT se dn aG aO aN aD bv aY rn kd nu tv), (zaI aS cS 901 fS), (zaI aB cB 6 (upd fB 0 x)), (zaI aT cT 64 fT)] H := hP
    have hD : va_D A [(zo14irriiiiiirriirrrrlriiii m0 th aS aI im ac sp en wg op aB aT se dn aG aO aN aD bv aY rn kd nu tv), (zaI aS cS 901 fS), (zaI aB cB 6 (upd fB 0 x)), (zaI aT cT 64 fT)] := hD
    refine lv_aload_n hx hb dX12_looks_7 rfl (lv_at hl 0 rfl) ?_
    refine va_get (D := (dC, dI)) (ci := 14) (v := .ref aB) (C := RX12) (T := TX12) (N := 23) hx hb hts kc_looks_0 hown hK hP 0 rfl rfl 9 (by decide) (hts (.fieldLink RX12 18 "MistHeapsModel" "by" "[I") kc_looks_1) (fun _ h9 => h9) rfl dX12_looks_8 ?_
    refine lv_iconst (v := 1) hx hb dX12_looks_11 (by decide) ?_
    refine lv_iload_n hx hb dX12_looks_12 rfl (lv_at hl 2 rfl) ?_
    refine va_iast hx hb hK hP hD hS 2 1 rfl rfl (vp_in_nI (n := 1) (N := 6) (by omega) (by omega)) dX12_looks_13 (fun H locs hP hD hS => ?_)
    have hP : va_P (dC, dI) vwCl [(zo14irriiiiiirriirrrrlriiii m0 th aS aI im ac sp en wg op aB aT se dn aG aO aN aD bv aY rn kd nu tv), (zaI aS cS 901 fS), (zaI aB cB 6 (upd (upd fB 0 x) 1 y)), (zaI aT cT 64 fT)] H := hP
    have hD : va_D A [(zo14irriiiiiirriirrrrlriiii m0 th aS aI im ac sp en wg op aB aT se dn aG aO aN aD bv aY rn kd nu tv), (zaI aS cS 901 fS), (zaI aB cB 6 (upd (upd fB 0 x) 1 y)), (zaI aT cT 64 fT)] := hD
    refine lv_aload_n hx hb dX12_looks_14 rfl (lv_at hl 0 rfl) ?_
    refine va_get (D := (dC, dI)) (ci := 14) (v := .ref aB) (C := RX12) (T := TX12) (N := 23) hx hb hts kc_looks_0 hown hK hP 0 rfl rfl 9 (by decide) (hts (.fieldLink RX12 18 "MistHeapsModel" "by" "[I") kc_looks_1) (fun _ h9 => h9) rfl dX12_looks_15 ?_
    refine lv_iconst (v := 2) hx hb dX12_looks_18 (by decide) ?_
    refine lv_iload_n hx hb dX12_looks_19 rfl (lv_at hl 3 rfl) ?_
    refine lv_bipush (v := 6) hx hb dX12_looks_20 (by decide) ?_
    refine lv_idiv hx hb dX12_looks_22 (by decide) ?_
    refine va_iast hx hb hK hP hD hS 2 1 rfl rfl (vp_in_nI (n := 2) (N := 6) (by omega) (by omega)) dX12_looks_23 (fun H locs hP hD hS => ?_)
    have hP : va_P (dC, dI) vwCl [(zo14irriiiiiirriirrrrlriiii m0 th aS aI im ac sp en wg op aB aT se dn aG aO aN aD bv aY rn kd nu tv), (zaI aS cS 901 fS), (zaI aB cB 6 (upd (upd (upd fB 0 x) 1 y) 2 (z / 6))), (zaI aT cT 64 fT)] H := hP
    have hD : va_D A [(zo14irriiiiiirriirrrrlriiii m0 th aS aI im ac sp en wg op aB aT se dn aG aO aN aD bv aY rn kd nu tv), (zaI aS cS 901 fS), (zaI aB cB 6 (upd (upd (upd fB 0 x) 1 y) 2 (z / 6))), (zaI aT cT 64 fT)] := hD
    refine lv_aload_n hx hb dX12_looks_24 rfl (lv_at hl 0 rfl) ?_
    refine va_get (D := (dC, dI)) (ci := 14) (v := .ref aB) (C := RX12) (T := TX12) (N := 23) hx hb hts kc_looks_0 hown hK hP 0 rfl rfl 9 (by decide) (hts (.fieldLink RX12 18 "MistHeapsModel" "by" "[I") kc_looks_1) (fun _ h9 => h9) rfl dX12_looks_25 ?_
    refine lv_iconst (v := 3) hx hb dX12_looks_28 (by decide) ?_
    refine lv_iload_n hx hb dX12_looks_29 rfl (lv_at hl 3 rfl) ?_
    refine lv_bipush (v := 6) hx hb dX12_looks_30 (by decide) ?_
    refine lv_irem hx hb dX12_looks_32 (by decide) ?_
    refine va_iast hx hb hK hP hD hS 2 1 rfl rfl (vp_in_nI (n := 3) (N := 6) (by omega) (by omega)) dX12_looks_33 (fun H locs hP hD hS => ?_)
    have hP : va_P (dC, dI) vwCl [(zo14irriiiiiirriirrrrlriiii m0 th aS aI im ac sp en wg op aB aT se dn aG aO aN aD bv aY rn kd nu tv), (zaI aS cS 901 fS), (zaI aB cB 6 (upd (upd (upd (upd fB 0 x) 1 y) 2 (z / 6)) 3 (z - z / 6 * 6))), (zaI aT cT 64 fT)] H := hP
    have hD : va_D A [(zo14irriiiiiirriirrrrlriiii m0 th aS aI im ac sp en wg op aB aT se dn aG aO aN aD bv aY rn kd nu tv), (zaI aS cS 901 fS), (zaI aB cB 6 (upd (upd (upd (upd fB 0 x) 1 y) 2 (z / 6)) 3 (z - z / 6 * 6))), (zaI aT cT 64 fT)] := hD
    refine lv_aload_n hx hb dX12_looks_34 rfl (lv_at hl 0 rfl) ?_
    refine va_get (D := (dC, dI)) (ci := 14) (v := .ref aB) (C := RX12) (T := TX12) (N := 23) hx hb hts kc_looks_0 hown hK hP 0 rfl rfl 9 (by decide) (hts (.fieldLink RX12 18 "MistHeapsModel" "by" "[I") kc_looks_1) (fun _ h9 => h9) rfl dX12_looks_35 ?_
    refine lv_iconst (v := 4) hx hb dX12_looks_38 (by decide) ?_
    refine lv_aload_n hx hb dX12_looks_39 rfl (lv_at hl 0 rfl) ?_
    refine va_get (D := (dC, dI)) (ci := 14) (v := .ref aS) (C := RX12) (T := TX12) (N := 23) hx hb hts kc_looks_0 hown hK hP 0 rfl rfl 1 (by decide) (hts (.fieldLink RX12 9 "MistHeapsModel" "s" "[I") kc_looks_2) (fun _ h9 => h9) rfl dX12_looks_40 ?_
    refine lv_bipush (v := 6) hx hb dX12_looks_43 (by decide) ?_
    refine va_iald hx hb hK hP 1 0 rfl rfl (vp_in_nI (n := 6) (N := 901) (by omega) (by omega)) dX12_looks_45 ?_
    refine qi_as (y := fS 6) (rfl) ?_
    refine va_iast hx hb hK hP hD hS 2 1 rfl rfl (vp_in_nI (n := 4) (N := 6) (by omega) (by omega)) dX12_looks_46 (fun H locs hP hD hS => ?_)
    have hP : va_P (dC, dI) vwCl [(zo14irriiiiiirriirrrrlriiii m0 th aS aI im ac sp en wg op aB aT se dn aG aO aN aD bv aY rn kd nu tv), (zaI aS cS 901 fS), (zaI aB cB 6 (upd (upd (upd (upd (upd fB 0 x) 1 y) 2 (z / 6)) 3 (z - z / 6 * 6)) 4 (fS 6))), (zaI aT cT 64 fT)] H := hP
    have hD : va_D A [(zo14irriiiiiirriirrrrlriiii m0 th aS aI im ac sp en wg op aB aT se dn aG aO aN aD bv aY rn kd nu tv), (zaI aS cS 901 fS), (zaI aB cB 6 (upd (upd (upd (upd (upd fB 0 x) 1 y) 2 (z / 6)) 3 (z - z / 6 * 6)) 4 (fS 6))), (zaI aT cT 64 fT)] := hD
    refine lv_aload_n hx hb dX12_looks_47 rfl (lv_at hl 0 rfl) ?_
    refine va_get (D := (dC, dI)) (ci := 14) (v := .ref aB) (C := RX12) (T := TX12) (N := 23) hx hb hts kc_looks_0 hown hK hP 0 rfl rfl 9 (by decide) (hts (.fieldLink RX12 18 "MistHeapsModel" "by" "[I") kc_looks_1) (fun _ h9 => h9) rfl dX12_looks_48 ?_
    refine lv_iconst (v := 5) hx hb dX12_looks_51 (by decide) ?_
    refine lv_aload_n hx hb dX12_looks_52 rfl (lv_at hl 0 rfl) ?_
    refine va_get (D := (dC, dI)) (ci := 14) (v := .ref aS) (C := RX12) (T := TX12) (N := 23) hx hb hts kc_looks_0 hown hK hP 0 rfl rfl 1 (by decide) (hts (.fieldLink RX12 9 "MistHeapsModel" "s" "[I") kc_looks_2) (fun _ h9 => h9) rfl dX12_looks_53 ?_
    refine lv_bipush (v := 7) hx hb dX12_looks_56 (by decide) ?_
    refine va_iald hx hb hK hP 1 0 rfl rfl (vp_in_nI (n := 7) (N := 901) (by omega) (by omega)) dX12_looks_58 ?_
    refine qi_as (y := fS 7) (rfl) ?_
    refine va_iast hx hb hK hP hD hS 2 1 rfl rfl (vp_in_nI (n := 5) (N := 6) (by omega) (by omega)) dX12_looks_59 (fun H locs hP hD hS => ?_)
    have hP : va_P (dC, dI) vwCl [(zo14irriiiiiirriirrrrlriiii m0 th aS aI im ac sp en wg op aB aT se dn aG aO aN aD bv aY rn kd nu tv), (zaI aS cS 901 fS), (zaI aB cB 6 (upd (upd (upd (upd (upd (upd fB 0 x) 1 y) 2 (z / 6)) 3 (z - z / 6 * 6)) 4 (fS 6)) 5 (fS 7))), (zaI aT cT 64 fT)] H := hP
    have hD : va_D A [(zo14irriiiiiirriirrrrlriiii m0 th aS aI im ac sp en wg op aB aT se dn aG aO aN aD bv aY rn kd nu tv), (zaI aS cS 901 fS), (zaI aB cB 6 (upd (upd (upd (upd (upd (upd fB 0 x) 1 y) 2 (z / 6)) 3 (z - z / 6 * 6)) 4 (fS 6)) 5 (fS 7))), (zaI aT cT 64 fT)] := hD
    refine lv_aload_n hx hb dX12_looks_60 rfl (lv_at hl 0 rfl) ?_
    refine lv_iconst (v := 0) hx hb dX12_looks_61 (by decide) ?_
    refine va_put (D := (dC, dI)) (ci := 14) (v := .int 0) (ty := .int) (C := RX12) (T := TX12) (N := 23) hx hb hts kc_looks_0 tyX12 tyX12_ok nmX12 hown hK hP hD hS 0 rfl rfl 11 (by decide) (hts (.fieldLink RX12 143 "MistHeapsModel" "seeing" "I") kc_looks_3) (fun _ h9 => h9) rfl (by decide +kernel) rfl rfl (Nat.le_of_ble_eq_true rfl) dX12_looks_62 (fun H locs hP hD hS => ?_)
    have hP : va_P (dC, dI) vwCl [(zo14irriiiiiirriirrrrlriiii m0 th aS aI im ac sp en wg op aB aT 0 dn aG aO aN aD bv aY rn kd nu tv), (zaI aS cS 901 fS), (zaI aB cB 6 (upd (upd (upd (upd (upd (upd fB 0 x) 1 y) 2 (z / 6)) 3 (z - z / 6 * 6)) 4 (fS 6)) 5 (fS 7))), (zaI aT cT 64 fT)] H := hP
    have hD : va_D A [(zo14irriiiiiirriirrrrlriiii m0 th aS aI im ac sp en wg op aB aT 0 dn aG aO aN aD bv aY rn kd nu tv), (zaI aS cS 901 fS), (zaI aB cB 6 (upd (upd (upd (upd (upd (upd fB 0 x) 1 y) 2 (z / 6)) 3 (z - z / 6 * 6)) 4 (fS 6)) 5 (fS 7))), (zaI aT cT 64 fT)] := hD
    refine lv_aload_n hx hb dX12_looks_65 rfl (lv_at hl 0 rfl) ?_
    refine lv_iconst (v := 0) hx hb dX12_looks_66 (by decide) ?_
    refine va_put (D := (dC, dI)) (ci := 14) (v := .int 0) (ty := .int) (C := RX12) (T := TX12) (N := 23) hx hb hts kc_looks_0 tyX12 tyX12_ok nmX12 hown hK hP hD hS 0 rfl rfl 12 (by decide) (hts (.fieldLink RX12 146 "MistHeapsModel" "drifting" "I") kc_looks_4) (fun _ h9 => h9) rfl (by decide +kernel) rfl rfl (Nat.le_of_ble_eq_true rfl) dX12_looks_67 (fun H locs hP hD hS => ?_)
    have hP : va_P (dC, dI) vwCl [(zo14irriiiiiirriirrrrlriiii m0 th aS aI im ac sp en wg op aB aT 0 0 aG aO aN aD bv aY rn kd nu tv), (zaI aS cS 901 fS), (zaI aB cB 6 (upd (upd (upd (upd (upd (upd fB 0 x) 1 y) 2 (z / 6)) 3 (z - z / 6 * 6)) 4 (fS 6)) 5 (fS 7))), (zaI aT cT 64 fT)] H := hP
    have hD : va_D A [(zo14irriiiiiirriirrrrlriiii m0 th aS aI im ac sp en wg op aB aT 0 0 aG aO aN aD bv aY rn kd nu tv), (zaI aS cS 901 fS), (zaI aB cB 6 (upd (upd (upd (upd (upd (upd fB 0 x) 1 y) 2 (z / 6)) 3 (z - z / 6 * 6)) 4 (fS 6)) 5 (fS 7))), (zaI aT cT 64 fT)] := hD
    refine lv_aload_n hx hb dX12_looks_70 rfl (lv_at hl 0 rfl) ?_
    refine va_get (D := (dC, dI)) (ci := 14) (v := .ref aS) (C := RX12) (T := TX12) (N := 23) hx hb hts kc_looks_0 hown hK hP 0 rfl rfl 1 (by decide) (hts (.fieldLink RX12 9 "MistHeapsModel" "s" "[I") kc_looks_2) (fun _ h9 => h9) rfl dX12_looks_71 ?_
    refine lv_iconst (v := 5) hx hb dX12_looks_74 (by decide) ?_
    refine va_iald hx hb hK hP 1 0 rfl rfl (vp_in_nI (n := 5) (N := 901) (by omega) (by omega)) dX12_looks_75 ?_
    refine qi_as (y := (-1)) ((show fS (5 : Int32).toNatClampNeg = fS 5 from rfl).trans (zh)) ?_
    refine lv_iconst (v := (-1)) hx hb dX12_looks_76 (by decide) ?_
    refine lv_icmp_ne (tgt := 84) hx hb dX12_looks_77 (by decide) (fun c_1 => absurd c_1 (by decide)) (fun _ => ?_)
    refine lv_iconst (v := 0) hx hb dX12_looks_80 (by decide) ?_
    refine lv_goto (tgt := 99) hx hb dX12_looks_81 (by decide) ?_
    refine lv_istore (lv' := [(4, .int 0), (0, .ref m0), (1, .int x), (2, .int y), (3, .int z)]) hx hb dX12_looks_99 hl (by decide) rfl (fun ls hl => ?_)
    refine lv_sipush (v := 201) hx hb dX12_looks_101 (by decide) ?_
    refine lv_sipush (v := 140) hx hb dX12_looks_104 (by decide) ?_
    refine lv_aload_n hx hb dX12_looks_107 rfl (lv_at hl 1 rfl) ?_
    refine va_get (D := (dC, dI)) (ci := 14) (v := .ref aS) (C := RX12) (T := TX12) (N := 23) hx hb hts kc_looks_0 hown hK hP 0 rfl rfl 1 (by decide) (hts (.fieldLink RX12 9 "MistHeapsModel" "s" "[I") kc_looks_2) (fun _ h9 => h9) rfl dX12_looks_108 ?_
    refine lv_iconst (v := 5) hx hb dX12_looks_111 (by decide) ?_
    refine va_iald hx hb hK hP 1 0 rfl rfl (vp_in_nI (n := 5) (N := 901) (by omega) (by omega)) dX12_looks_112 ?_
    refine qi_as (y := (-1)) ((show fS (5 : Int32).toNatClampNeg = fS 5 from rfl).trans (zh)) ?_
    refine lv_imul hx hb dX12_looks_113 ?_
    refine qi_as (y := (-140)) (by decide) ?_
    refine lv_iadd hx hb dX12_looks_114 ?_
    refine qi_as (y := 61) (by decide) ?_
    refine lv_istore (lv' := [(5, .int 61), (4, .int 0), (0, .ref m0), (1, .int x), (2, .int y), (3, .int z)]) hx hb dX12_looks_115 hl (by decide) rfl (fun ls hl => ?_)
    refine lv_iconst (v := 0) hx hb dX12_looks_117 (by decide) ?_
    refine lv_istore (lv' := [(6, .int 0), (5, .int 61), (4, .int 0), (0, .ref m0), (1, .int x), (2, .int y), (3, .int z)]) hx hb dX12_looks_118 hl (by decide) rfl (fun ls hl => ?_)
    refine lv_iload hx hb dX12_looks_120 (lv_at hl 1 rfl) ?_
    refine lv_istore (lv' := [(7, .int 61), (6, .int 0), (5, .int 61), (4, .int 0), (0, .ref m0), (1, .int x), (2, .int y), (3, .int z)]) hx hb dX12_looks_122 hl (by decide) rfl (fun ls hl => ?_)
    refine lv_iload hx hb dX12_looks_124 (lv_at hl 0 rfl) ?_
    refine lv_iload hx hb dX12_looks_126 (lv_at hl 2 rfl) ?_
    refine lv_iload hx hb dX12_looks_128 (lv_at hl 3 rfl) ?_
    refine lv_iadd hx hb dX12_looks_130 ?_
    refine qi_as (y := 61) (by decide) ?_
    refine lv_icmp_ge (tgt := 460) hx hb dX12_looks_131 (by decide) (fun _ => ?_) (fun c_2 => absurd c_2 (by decide))
    rw [hQ]
    have hP9 := hP.sub (ws' := [(zo14irriiiiiirriirrrrlriiii m0 th aS aI im ac sp en wg op aB aT 0 0 aG aO aN aD bv aY rn kd nu tv), (zaI aS cS 901 fS), (zaI aB cB 6 (upd (upd (upd (upd (upd (upd fB 0 x) 1 y) 2 (z / 6)) 3 (z - z / 6 * 6)) 4 (fS 6)) 5 (fS 7))), (zaI aT cT 64 fT)]) [0, 1, 2, 3] rfl
    have hD9 := hD.sub (ws' := [(zo14irriiiiiirriirrrrlriiii m0 th aS aI im ac sp en wg op aB aT 0 0 aG aO aN aD bv aY rn kd nu tv), (zaI aS cS 901 fS), (zaI aB cB 6 (upd (upd (upd (upd (upd (upd fB 0 x) 1 y) 2 (z / 6)) 3 (z - z / 6 * 6)) 4 (fS 6)) 5 (fS 7))), (zaI aT cT 64 fT)]) [0, 1, 2, 3] (by decide) rfl
    have hK9 := hK.sub (tys' := [(cS, .int), (cB, .int), (cT, .boolean)]) [0, 1, 2] rfl
    exact W.vret hx hb hr (fun tQ htQ hWQ => ⟨⟨((upd (upd (upd (upd (upd (upd fB 0 x) 1 y) 2 (z / 6)) 3 (z - z / 6 * 6)) 4 (fS 6)) 5 (fS 7)), fT, 0, 0), rfl, trivial, by rw [htQ]; exact hP9, va_K.moved hWQ.alike hK9, hD9⟩, hS.F htQ⟩) hS.2.2 dX12_looks_460
  · skip
    refine lv_aload_n hx hb dX12_looks_0 rfl (lv_at hl 0 rfl) ?_
    refine va_get (D := (dC, dI)) (ci := 14) (v := .ref aB) (C := RX12) (T := TX12) (N := 23) hx hb hts kc_looks_0 hown hK hP 0 rfl rfl 9 (by decide) (hts (.fieldLink RX12 18 "MistHeapsModel" "by" "[I") kc_looks_1) (fun _ h9 => h9) rfl dX12_looks_1 ?_
    refine lv_iconst (v := 0) hx hb dX12_looks_4 (by decide) ?_
    refine lv_iload_n hx hb dX12_looks_5 rfl (lv_at hl 1 rfl) ?_
    refine va_iast hx hb hK hP hD hS 2 1 rfl rfl (vp_in_nI (n := 0) (N := 6) (by omega) (by omega)) dX12_looks_6 (fun H locs hP hD hS => ?_)
    have hP : va_P (dC, dI) vwCl [(zo14irriiiiiirriirrrrlriiii m0 th aS aI im ac sp en wg op aB aT se dn aG aO aN aD bv aY rn kd nu tv), (zaI aS cS 901 fS), (zaI aB cB 6 (upd fB 0 x)), (zaI aT cT 64 fT)] H := hP
    have hD : va_D A [(zo14irriiiiiirriirrrrlriiii m0 th aS aI im ac sp en wg op aB aT se dn aG aO aN aD bv aY rn kd nu tv), (zaI aS cS 901 fS), (zaI aB cB 6 (upd fB 0 x)), (zaI aT cT 64 fT)] := hD
    refine lv_aload_n hx hb dX12_looks_7 rfl (lv_at hl 0 rfl) ?_
    refine va_get (D := (dC, dI)) (ci := 14) (v := .ref aB) (C := RX12) (T := TX12) (N := 23) hx hb hts kc_looks_0 hown hK hP 0 rfl rfl 9 (by decide) (hts (.fieldLink RX12 18 "MistHeapsModel" "by" "[I") kc_looks_1) (fun _ h9 => h9) rfl dX12_looks_8 ?_
    refine lv_iconst (v := 1) hx hb dX12_looks_11 (by decide) ?_
    refine lv_iload_n hx hb dX12_looks_12 rfl (lv_at hl 2 rfl) ?_
    refine va_iast hx hb hK hP hD hS 2 1 rfl rfl (vp_in_nI (n := 1) (N := 6) (by omega) (by omega)) dX12_looks_13 (fun H locs hP hD hS => ?_)
    have hP : va_P (dC, dI) vwCl [(zo14irriiiiiirriirrrrlriiii m0 th aS aI im ac sp en wg op aB aT se dn aG aO aN aD bv aY rn kd nu tv), (zaI aS cS 901 fS), (zaI aB cB 6 (upd (upd fB 0 x) 1 y)), (zaI aT cT 64 fT)] H := hP
    have hD : va_D A [(zo14irriiiiiirriirrrrlriiii m0 th aS aI im ac sp en wg op aB aT se dn aG aO aN aD bv aY rn kd nu tv), (zaI aS cS 901 fS), (zaI aB cB 6 (upd (upd fB 0 x) 1 y)), (zaI aT cT 64 fT)] := hD
    refine lv_aload_n hx hb dX12_looks_14 rfl (lv_at hl 0 rfl) ?_
    refine va_get (D := (dC, dI)) (ci := 14) (v := .ref aB) (C := RX12) (T := TX12) (N := 23) hx hb hts kc_looks_0 hown hK hP 0 rfl rfl 9 (by decide) (hts (.fieldLink RX12 18 "MistHeapsModel" "by" "[I") kc_looks_1) (fun _ h9 => h9) rfl dX12_looks_15 ?_
    refine lv_iconst (v := 2) hx hb dX12_looks_18 (by decide) ?_
    refine lv_iload_n hx hb dX12_looks_19 rfl (lv_at hl 3 rfl) ?_
    refine lv_bipush (v := 6) hx hb dX12_looks_20 (by decide) ?_
    refine lv_idiv hx hb dX12_looks_22 (by decide) ?_
    refine va_iast hx hb hK hP hD hS 2 1 rfl rfl (vp_in_nI (n := 2) (N := 6) (by omega) (by omega)) dX12_looks_23 (fun H locs hP hD hS => ?_)
    have hP : va_P (dC, dI) vwCl [(zo14irriiiiiirriirrrrlriiii m0 th aS aI im ac sp en wg op aB aT se dn aG aO aN aD bv aY rn kd nu tv), (zaI aS cS 901 fS), (zaI aB cB 6 (upd (upd (upd fB 0 x) 1 y) 2 (z / 6))), (zaI aT cT 64 fT)] H := hP
    have hD : va_D A [(zo14irriiiiiirriirrrrlriiii m0 th aS aI im ac sp en wg op aB aT se dn aG aO aN aD bv aY rn kd nu tv), (zaI aS cS 901 fS), (zaI aB cB 6 (upd (upd (upd fB 0 x) 1 y) 2 (z / 6))), (zaI aT cT 64 fT)] := hD
    refine lv_aload_n hx hb dX12_looks_24 rfl (lv_at hl 0 rfl) ?_
    refine va_get (D := (dC, dI)) (ci := 14) (v := .ref aB) (C := RX12) (T := TX12) (N := 23) hx hb hts kc_looks_0 hown hK hP 0 rfl rfl 9 (by decide) (hts (.fieldLink RX12 18 "MistHeapsModel" "by" "[I") kc_looks_1) (fun _ h9 => h9) rfl dX12_looks_25 ?_
    refine lv_iconst (v := 3) hx hb dX12_looks_28 (by decide) ?_
    refine lv_iload_n hx hb dX12_looks_29 rfl (lv_at hl 3 rfl) ?_
    refine lv_bipush (v := 6) hx hb dX12_looks_30 (by decide) ?_
    refine lv_irem hx hb dX12_looks_32 (by decide) ?_
    refine va_iast hx hb hK hP hD hS 2 1 rfl rfl (vp_in_nI (n := 3) (N := 6) (by omega) (by omega)) dX12_looks_33 (fun H locs hP hD hS => ?_)
    have hP : va_P (dC, dI) vwCl [(zo14irriiiiiirriirrrrlriiii m0 th aS aI im ac sp en wg op aB aT se dn aG aO aN aD bv aY rn kd nu tv), (zaI aS cS 901 fS), (zaI aB cB 6 (upd (upd (upd (upd fB 0 x) 1 y) 2 (z / 6)) 3 (z - z / 6 * 6))), (zaI aT cT 64 fT)] H := hP
    have hD : va_D A [(zo14irriiiiiirriirrrrlriiii m0 th aS aI im ac sp en wg op aB aT se dn aG aO aN aD bv aY rn kd nu tv), (zaI aS cS 901 fS), (zaI aB cB 6 (upd (upd (upd (upd fB 0 x) 1 y) 2 (z / 6)) 3 (z - z / 6 * 6))), (zaI aT cT 64 fT)] := hD
    refine lv_aload_n hx hb dX12_looks_34 rfl (lv_at hl 0 rfl) ?_
    refine va_get (D := (dC, dI)) (ci := 14) (v := .ref aB) (C := RX12) (T := TX12) (N := 23) hx hb hts kc_looks_0 hown hK hP 0 rfl rfl 9 (by decide) (hts (.fieldLink RX12 18 "MistHeapsModel" "by" "[I") kc_looks_1) (fun _ h9 => h9) rfl dX12_looks_35 ?_
    refine lv_iconst (v := 4) hx hb dX12_looks_38 (by decide) ?_
    refine lv_aload_n hx hb dX12_looks_39 rfl (lv_at hl 0 rfl) ?_
    refine va_get (D := (dC, dI)) (ci := 14) (v := .ref aS) (C := RX12) (T := TX12) (N := 23) hx hb hts kc_looks_0 hown hK hP 0 rfl rfl 1 (by decide) (hts (.fieldLink RX12 9 "MistHeapsModel" "s" "[I") kc_looks_2) (fun _ h9 => h9) rfl dX12_looks_40 ?_
    refine lv_bipush (v := 6) hx hb dX12_looks_43 (by decide) ?_
    refine va_iald hx hb hK hP 1 0 rfl rfl (vp_in_nI (n := 6) (N := 901) (by omega) (by omega)) dX12_looks_45 ?_
    refine qi_as (y := fS 6) (rfl) ?_
    refine va_iast hx hb hK hP hD hS 2 1 rfl rfl (vp_in_nI (n := 4) (N := 6) (by omega) (by omega)) dX12_looks_46 (fun H locs hP hD hS => ?_)
    have hP : va_P (dC, dI) vwCl [(zo14irriiiiiirriirrrrlriiii m0 th aS aI im ac sp en wg op aB aT se dn aG aO aN aD bv aY rn kd nu tv), (zaI aS cS 901 fS), (zaI aB cB 6 (upd (upd (upd (upd (upd fB 0 x) 1 y) 2 (z / 6)) 3 (z - z / 6 * 6)) 4 (fS 6))), (zaI aT cT 64 fT)] H := hP
    have hD : va_D A [(zo14irriiiiiirriirrrrlriiii m0 th aS aI im ac sp en wg op aB aT se dn aG aO aN aD bv aY rn kd nu tv), (zaI aS cS 901 fS), (zaI aB cB 6 (upd (upd (upd (upd (upd fB 0 x) 1 y) 2 (z / 6)) 3 (z - z / 6 * 6)) 4 (fS 6))), (zaI aT cT 64 fT)] := hD
    refine lv_aload_n hx hb dX12_looks_47 rfl (lv_at hl 0 rfl) ?_
    refine va_get (D := (dC, dI)) (ci := 14) (v := .ref aB) (C := RX12) (T := TX12) (N := 23) hx hb hts kc_looks_0 hown hK hP 0 rfl rfl 9 (by decide) (hts (.fieldLink RX12 18 "MistHeapsModel" "by" "[I") kc_looks_1) (fun _ h9 => h9) rfl dX12_looks_48 ?_
    refine lv_iconst (v := 5) hx hb dX12_looks_51 (by decide) ?_
    refine lv_aload_n hx hb dX12_looks_52 rfl (lv_at hl 0 rfl) ?_
    refine va_get (D := (dC, dI)) (ci := 14) (v := .ref aS) (C := RX12) (T := TX12) (N := 23) hx hb hts kc_looks_0 hown hK hP 0 rfl rfl 1 (by decide) (hts (.fieldLink RX12 9 "MistHeapsModel" "s" "[I") kc_looks_2) (fun _ h9 => h9) rfl dX12_looks_53 ?_
    refine lv_bipush (v := 7) hx hb dX12_looks_56 (by decide) ?_
    refine va_iald hx hb hK hP 1 0 rfl rfl (vp_in_nI (n := 7) (N := 901) (by omega) (by omega)) dX12_looks_58 ?_
    refine qi_as (y := fS 7) (rfl) ?_
    refine va_iast hx hb hK hP hD hS 2 1 rfl rfl (vp_in_nI (n := 5) (N := 6) (by omega) (by omega)) dX12_looks_59 (fun H locs hP hD hS => ?_)
    have hP : va_P (dC, dI) vwCl [(zo14irriiiiiirriirrrrlriiii m0 th aS aI im ac sp en wg op aB aT se dn aG aO aN aD bv aY rn kd nu tv), (zaI aS cS 901 fS), (zaI aB cB 6 (upd (upd (upd (upd (upd (upd fB 0 x) 1 y) 2 (z / 6)) 3 (z - z / 6 * 6)) 4 (fS 6)) 5 (fS 7))), (zaI aT cT 64 fT)] H := hP
    have hD : va_D A [(zo14irriiiiiirriirrrrlriiii m0 th aS aI im ac sp en wg op aB aT se dn aG aO aN aD bv aY rn kd nu tv), (zaI aS cS 901 fS), (zaI aB cB 6 (upd (upd (upd (upd (upd (upd fB 0 x) 1 y) 2 (z / 6)) 3 (z - z / 6 * 6)) 4 (fS 6)) 5 (fS 7))), (zaI aT cT 64 fT)] := hD
    refine lv_aload_n hx hb dX12_looks_60 rfl (lv_at hl 0 rfl) ?_
    refine lv_iconst (v := 0) hx hb dX12_looks_61 (by decide) ?_
    refine va_put (D := (dC, dI)) (ci := 14) (v := .int 0) (ty := .int) (C := RX12) (T := TX12) (N := 23) hx hb hts kc_looks_0 tyX12 tyX12_ok nmX12 hown hK hP hD hS 0 rfl rfl 11 (by decide) (hts (.fieldLink RX12 143 "MistHeapsModel" "seeing" "I") kc_looks_3) (fun _ h9 => h9) rfl (by decide +kernel) rfl rfl (Nat.le_of_ble_eq_true rfl) dX12_looks_62 (fun H locs hP hD hS => ?_)
    have hP : va_P (dC, dI) vwCl [(zo14irriiiiiirriirrrrlriiii m0 th aS aI im ac sp en wg op aB aT 0 dn aG aO aN aD bv aY rn kd nu tv), (zaI aS cS 901 fS), (zaI aB cB 6 (upd (upd (upd (upd (upd (upd fB 0 x) 1 y) 2 (z / 6)) 3 (z - z / 6 * 6)) 4 (fS 6)) 5 (fS 7))), (zaI aT cT 64 fT)] H := hP
    have hD : va_D A [(zo14irriiiiiirriirrrrlriiii m0 th aS aI im ac sp en wg op aB aT 0 dn aG aO aN aD bv aY rn kd nu tv), (zaI aS cS 901 fS), (zaI aB cB 6 (upd (upd (upd (upd (upd (upd fB 0 x) 1 y) 2 (z / 6)) 3 (z - z / 6 * 6)) 4 (fS 6)) 5 (fS 7))), (zaI aT cT 64 fT)] := hD
    refine lv_aload_n hx hb dX12_looks_65 rfl (lv_at hl 0 rfl) ?_
    refine lv_iconst (v := 0) hx hb dX12_looks_66 (by decide) ?_
    refine va_put (D := (dC, dI)) (ci := 14) (v := .int 0) (ty := .int) (C := RX12) (T := TX12) (N := 23) hx hb hts kc_looks_0 tyX12 tyX12_ok nmX12 hown hK hP hD hS 0 rfl rfl 12 (by decide) (hts (.fieldLink RX12 146 "MistHeapsModel" "drifting" "I") kc_looks_4) (fun _ h9 => h9) rfl (by decide +kernel) rfl rfl (Nat.le_of_ble_eq_true rfl) dX12_looks_67 (fun H locs hP hD hS => ?_)
    have hP : va_P (dC, dI) vwCl [(zo14irriiiiiirriirrrrlriiii m0 th aS aI im ac sp en wg op aB aT 0 0 aG aO aN aD bv aY rn kd nu tv), (zaI aS cS 901 fS), (zaI aB cB 6 (upd (upd (upd (upd (upd (upd fB 0 x) 1 y) 2 (z / 6)) 3 (z - z / 6 * 6)) 4 (fS 6)) 5 (fS 7))), (zaI aT cT 64 fT)] H := hP
    have hD : va_D A [(zo14irriiiiiirriirrrrlriiii m0 th aS aI im ac sp en wg op aB aT 0 0 aG aO aN aD bv aY rn kd nu tv), (zaI aS cS 901 fS), (zaI aB cB 6 (upd (upd (upd (upd (upd (upd fB 0 x) 1 y) 2 (z / 6)) 3 (z - z / 6 * 6)) 4 (fS 6)) 5 (fS 7))), (zaI aT cT 64 fT)] := hD
    refine lv_aload_n hx hb dX12_looks_70 rfl (lv_at hl 0 rfl) ?_
    refine va_get (D := (dC, dI)) (ci := 14) (v := .ref aS) (C := RX12) (T := TX12) (N := 23) hx hb hts kc_looks_0 hown hK hP 0 rfl rfl 1 (by decide) (hts (.fieldLink RX12 9 "MistHeapsModel" "s" "[I") kc_looks_2) (fun _ h9 => h9) rfl dX12_looks_71 ?_
    refine lv_iconst (v := 5) hx hb dX12_looks_74 (by decide) ?_
    refine va_iald hx hb hK hP 1 0 rfl rfl (vp_in_nI (n := 5) (N := 901) (by omega) (by omega)) dX12_looks_75 ?_
    refine qi_as (y := nI h) ((show fS (5 : Int32).toNatClampNeg = fS 5 from rfl).trans (zh)) ?_
    refine lv_iconst (v := (-1)) hx hb dX12_looks_76 (by decide) ?_
    refine lv_icmp_ne (tgt := 84) hx hb dX12_looks_77 (by decide) (fun c_3 => ?_) (fun c_3 => absurd c_3 (nI_nm1 (by omega)))
    refine lv_aload_n hx hb dX12_looks_84 rfl (lv_at hl 0 rfl) ?_
    refine va_get (D := (dC, dI)) (ci := 14) (v := .ref aS) (C := RX12) (T := TX12) (N := 23) hx hb hts kc_looks_0 hown hK hP 0 rfl rfl 1 (by decide) (hts (.fieldLink RX12 9 "MistHeapsModel" "s" "[I") kc_looks_2) (fun _ h9 => h9) rfl dX12_looks_85 ?_
    refine lv_sipush (v := 196) hx hb dX12_looks_88 (by decide) ?_
    refine lv_aload_n hx hb dX12_looks_91 rfl (lv_at hl 0 rfl) ?_
    refine va_get (D := (dC, dI)) (ci := 14) (v := .ref aS) (C := RX12) (T := TX12) (N := 23) hx hb hts kc_looks_0 hown hK hP 0 rfl rfl 1 (by decide) (hts (.fieldLink RX12 9 "MistHeapsModel" "s" "[I") kc_looks_2) (fun _ h9 => h9) rfl dX12_looks_92 ?_
    refine lv_iconst (v := 5) hx hb dX12_looks_95 (by decide) ?_
    refine va_iald hx hb hK hP 1 0 rfl rfl (vp_in_nI (n := 5) (N := 901) (by omega) (by omega)) dX12_looks_96 ?_
    refine qi_as (y := nI h) ((show fS (5 : Int32).toNatClampNeg = fS 5 from rfl).trans (zh)) ?_
    refine lv_iadd hx hb dX12_looks_97 ?_
    refine qi_as (y := nI (196 + h)) (nI_add 196 h) ?_
    refine va_iald hx hb hK hP 1 0 rfl rfl (vp_in_nI (n := 196 + h) (N := 901) (by omega) (by omega)) dX12_looks_98 ?_
    refine qi_as (y := nI k) ((show fS (nI (196 + h) : Int32).toNatClampNeg = fS (196 + h) from by rw [nI_clamp (by omega)]).trans (zk)) ?_
    refine lv_istore (lv' := [(4, .int (nI k)), (0, .ref m0), (1, .int x), (2, .int y), (3, .int z)]) hx hb dX12_looks_99 hl (by decide) rfl (fun ls hl => ?_)
    refine lv_sipush (v := 201) hx hb dX12_looks_101 (by decide) ?_
    refine lv_sipush (v := 140) hx hb dX12_looks_104 (by decide) ?_
    refine lv_aload_n hx hb dX12_looks_107 rfl (lv_at hl 1 rfl) ?_
    refine va_get (D := (dC, dI)) (ci := 14) (v := .ref aS) (C := RX12) (T := TX12) (N := 23) hx hb hts kc_looks_0 hown hK hP 0 rfl rfl 1 (by decide) (hts (.fieldLink RX12 9 "MistHeapsModel" "s" "[I") kc_looks_2) (fun _ h9 => h9) rfl dX12_looks_108 ?_
    refine lv_iconst (v := 5) hx hb dX12_looks_111 (by decide) ?_
    refine va_iald hx hb hK hP 1 0 rfl rfl (vp_in_nI (n := 5) (N := 901) (by omega) (by omega)) dX12_looks_112 ?_
    refine qi_as (y := nI h) ((show fS (5 : Int32).toNatClampNeg = fS 5 from rfl).trans (zh)) ?_
    refine lv_imul hx hb dX12_looks_113 ?_
    refine qi_as (y := nI (140 * h)) (pk_mul 140 h) ?_
    refine lv_iadd hx hb dX12_looks_114 ?_
    refine qi_as (y := nI (201 + (140 * h))) (nI_add 201 (140 * h)) ?_
    refine lv_istore (lv' := [(5, .int (nI (201 + (140 * h)))), (4, .int (nI k)), (0, .ref m0), (1, .int x), (2, .int y), (3, .int z)]) hx hb dX12_looks_115 hl (by decide) rfl (fun ls hl => ?_)
    refine lv_iconst (v := 0) hx hb dX12_looks_117 (by decide) ?_
    refine lv_istore (lv' := [(6, .int 0), (5, .int (nI (201 + (140 * h)))), (4, .int (nI k)), (0, .ref m0), (1, .int x), (2, .int y), (3, .int z)]) hx hb dX12_looks_118 hl (by decide) rfl (fun ls hl => ?_)
    refine lv_iload hx hb dX12_looks_120 (lv_at hl 1 rfl) ?_
    refine lv_istore (lv' := [(7, .int (nI (201 + (140 * h)))), (6, .int 0), (5, .int (nI (201 + (140 * h)))), (4, .int (nI k)), (0, .ref m0), (1, .int x), (2, .int y), (3, .int z)]) hx hb dX12_looks_122 hl (by decide) rfl (fun ls hl => ?_)
    have L124 : ∀ (nF : Nat) (i : Nat) (d : Nat) (se2 : Int32) (dn2 : Int32) (fB2 : Nat → Int32) (fT2 : Nat → Int32), k - i < nF → (i ≤ k) → (d ≤ 60) → (sdep (fun i => fS (201 + 140 * h + i)) i = some d) → ∀ (H : Heap) (locs : List Loc), va_K (dC, dI) vwCl [(cS, .int), (cB, .int), (cT, .boolean)] s → va_P (dC, dI) vwCl [(zo14irriiiiiirriirrrrlriiii m0 th aS aI im ac sp en wg op aB aT se2 dn2 aG aO aN aD bv aY rn kd nu tv), (zaI aS cS 901 fS), (zaI aB cB 6 fB2), (zaI aT cT 64 fT2)] H → va_D A [(zo14irriiiiiirriirrrrlriiii m0 th aS aI im ac sp en wg op aB aT se2 dn2 aG aO aN aD bv aY rn kd nu tv), (zaI aS cS 901 fS), (zaI aB cB 6 fB2), (zaI aT cT 64 fT2)] → va_S A s.heap H locs → ∀ (ls : Array Slot), lv_has ls 12 [(0, .ref m0), (4, .int (nI k)), (5, .int (nI (201 + 140 * h))), (6, .int (nI d)), (7, .int (nI (201 + 140 * h + i)))] → W p l e ({ frames := 0, cells := 0, slots := 0, locals := 0 } : Room) s m args below meth c H locs 0 0 Q (F0 m 124 ls []) := by
      intro nF
      induction nF with
      | zero => intro i d se2 dn2 fB2 fT2 hm; exact absurd hm (Nat.not_lt_zero _)
      | succ nF ih124 =>
        intro i d se2 dn2 fB2 fT2 hm hi hd6 hd H locs hK hP hD hS ls hl
        refine lv_iload hx hb dX12_looks_124 (lv_at hl 4 rfl) ?_
        refine lv_iload hx hb dX12_looks_126 (lv_at hl 2 rfl) ?_
        refine lv_iload hx hb dX12_looks_128 (lv_at hl 1 rfl) ?_
        refine lv_iadd hx hb dX12_looks_130 ?_
        refine qi_as (y := nI ((201 + 140 * h) + k)) (nI_add (201 + 140 * h) k) ?_
        refine lv_icmp_ge (tgt := 460) hx hb dX12_looks_131 (by decide) (fun c_4 => ?_) (fun c_4 => ?_)
        · skip
          have c_4 : ((201 + 140 * h) + k) ≤ (201 + 140 * h + i) := (nI_leI (a := ((201 + 140 * h) + k)) (b := (201 + 140 * h + i)) (by omega) (by omega)).mp c_4
          rw [hQ]
          have hP9 := hP.sub (ws' := [(zo14irriiiiiirriirrrrlriiii m0 th aS aI im ac sp en wg op aB aT se2 dn2 aG aO aN aD bv aY rn kd nu tv), (zaI aS cS 901 fS), (zaI aB cB 6 fB2), (zaI aT cT 64 fT2)]) [0, 1, 2, 3] rfl
          have hD9 := hD.sub (ws' := [(zo14irriiiiiirriirrrrlriiii m0 th aS aI im ac sp en wg op aB aT se2 dn2 aG aO aN aD bv aY rn kd nu tv), (zaI aS cS 901 fS), (zaI aB cB 6 fB2), (zaI aT cT 64 fT2)]) [0, 1, 2, 3] (by decide) rfl
          have hK9 := hK.sub (tys' := [(cS, .int), (cB, .int), (cT, .boolean)]) [0, 1, 2] rfl
          exact W.vret hx hb hr (fun tQ htQ hWQ => ⟨⟨(fB2, fT2, se2, dn2), rfl, trivial, by rw [htQ]; exact hP9, va_K.moved hWQ.alike hK9, hD9⟩, hS.F htQ⟩) hS.2.2 dX12_looks_460
        · skip
          have c_4 : ¬ ((201 + 140 * h) + k) ≤ (201 + 140 * h + i) := fun q => c_4 ((nI_leI (a := ((201 + 140 * h) + k)) (b := (201 + 140 * h + i)) (by omega) (by omega)).mpr q)
          refine lv_aload_n hx hb dX12_looks_134 rfl (lv_at hl 0 rfl) ?_
          refine va_get (D := (dC, dI)) (ci := 14) (v := .ref aS) (C := RX12) (T := TX12) (N := 23) hx hb hts kc_looks_0 hown hK hP 0 rfl rfl 1 (by decide) (hts (.fieldLink RX12 9 "MistHeapsModel" "s" "[I") kc_looks_2) (fun _ h9 => h9) rfl dX12_looks_135 ?_
          refine lv_iload hx hb dX12_looks_138 (lv_at hl 4 rfl) ?_
          refine va_iald hx hb hK hP 1 0 rfl rfl (vp_in_nI (n := 201 + 140 * h + i) (N := 901) (by omega) (by omega)) dX12_looks_140 ?_
          obtain ⟨x0, ex⟩ : ∃ q : Int32, q = fS (201 + 140 * h + i) := ⟨_, rfl⟩
          obtain ⟨d2, hs2, hd2⟩ := sdep_step zo (show i < k by omega) hd
          have hs2 : stepd x0 d = some d2 := by rw [ex]; exact hs2
          refine qi_as (y := x0) ((show fS (nI (201 + 140 * h + i) : Int32).toNatClampNeg = fS (201 + 140 * h + i) from by rw [nI_clamp (by omega)]).trans (ex.symm)) ?_
          refine lv_istore (lv' := [(8, .int x0), (0, .ref m0), (4, .int (nI k)), (5, .int (nI (201 + 140 * h))), (6, .int (nI d)), (7, .int (nI (201 + 140 * h + i)))]) hx hb dX12_looks_141 hl (by decide) rfl (fun ls hl => ?_)
          refine lv_iload hx hb dX12_looks_143 (lv_at hl 0 rfl) ?_
          refine lv_if_lt (tgt := 242) hx hb dX12_looks_145 (by decide) (fun c_5 => ?_) (fun c_5 => ?_)
          · skip
            refine lv_iload hx hb dX12_looks_242 (lv_at hl 0 rfl) ?_
            refine lv_iconst (v := (-1)) hx hb dX12_looks_244 (by decide) ?_
            refine lv_icmp_ne (tgt := 277) hx hb dX12_looks_245 (by decide) (fun c_6 => ?_) (fun c_6 => ?_)
            · skip
              refine lv_iload hx hb dX12_looks_277 (lv_at hl 0 rfl) ?_
              refine lv_bipush (v := (-10)) hx hb dX12_looks_279 (by decide) ?_
              refine lv_icmp_le (tgt := 363) hx hb dX12_looks_281 (by decide) (fun c_7 => ?_) (fun c_7 => ?_)
              · skip
                have e2 := stepd_c hs2 c_5 c_6 c_7
                subst e2
                refine lv_iconst (v := 0) hx hb dX12_looks_363 (by decide) ?_
                refine lv_istore (lv' := [(6, .int 0), (8, .int x0), (0, .ref m0), (4, .int (nI k)), (5, .int (nI (201 + 140 * h))), (7, .int (nI (201 + 140 * h + i)))]) hx hb dX12_looks_364 hl (by decide) rfl (fun ls hl => ?_)
                refine lv_aload_n hx hb dX12_looks_366 rfl (lv_at hl 2 rfl) ?_
                refine va_get (D := (dC, dI)) (ci := 14) (v := .ref aT) (C := RX12) (T := TX12) (N := 23) hx hb hts kc_looks_0 hown hK hP 0 rfl rfl 10 (by decide) (hts (.fieldLink RX12 21 "MistHeapsModel" "truths" "[Z") kc_looks_5) (fun _ h9 => h9) rfl dX12_looks_367 ?_
                refine lv_iconst (v := 0) hx hb dX12_looks_370 (by decide) ?_
                refine va_zald hx hb hK hP 3 2 rfl rfl (vp_in_nI (n := 0) (N := 64) (by omega) (by omega)) dX12_looks_371 ?_
                refine qi_as (y := fT2 0) (rfl) ?_
                refine lv_istore (lv' := [(9, .int (fT2 0)), (6, .int 0), (8, .int x0), (0, .ref m0), (4, .int (nI k)), (5, .int (nI (201 + 140 * h))), (7, .int (nI (201 + 140 * h + i)))]) hx hb dX12_looks_372 hl (by decide) rfl (fun ls hl => ?_)
                refine lv_aload_n hx hb dX12_looks_374 rfl (lv_at hl 3 rfl) ?_
                refine lv_dup hx hb dX12_looks_375 rfl ?_
                refine va_get (D := (dC, dI)) (ci := 14) (v := .int se2) (C := RX12) (T := TX12) (N := 23) hx hb hts kc_looks_0 hown hK hP 0 rfl rfl 11 (by decide) (hts (.fieldLink RX12 143 "MistHeapsModel" "seeing" "I") kc_looks_3) (fun _ h9 => h9) rfl dX12_looks_376 ?_
                refine lv_iload hx hb dX12_looks_379 (lv_at hl 0 rfl) ?_
                have J381 : ∀ v_8 : Int32, W p l e ({ frames := 0, cells := 0, slots := 0, locals := 0 } : Room) s m args below meth c H locs 0 0 Q (F0 m 418 ls [.int v_8, .int se2, .ref m0]) := by
                  intro v_8
                  refine lv_iadd hx hb dX12_looks_418 ?_
                  refine va_put (D := (dC, dI)) (ci := 14) (v := .int (se2 + v_8)) (ty := .int) (C := RX12) (T := TX12) (N := 23) hx hb hts kc_looks_0 tyX12 tyX12_ok nmX12 hown hK hP hD hS 0 rfl rfl 11 (by decide) (hts (.fieldLink RX12 143 "MistHeapsModel" "seeing" "I") kc_looks_3) (fun _ h9 => h9) rfl (by decide +kernel) rfl rfl (Nat.le_of_ble_eq_true rfl) dX12_looks_419 (fun H locs hP hD hS => ?_)
                  have hP : va_P (dC, dI) vwCl [(zo14irriiiiiirriirrrrlriiii m0 th aS aI im ac sp en wg op aB aT (se2 + v_8) dn2 aG aO aN aD bv aY rn kd nu tv), (zaI aS cS 901 fS), (zaI aB cB 6 fB2), (zaI aT cT 64 fT2)] H := hP
                  have hD : va_D A [(zo14irriiiiiirriirrrrlriiii m0 th aS aI im ac sp en wg op aB aT (se2 + v_8) dn2 aG aO aN aD bv aY rn kd nu tv), (zaI aS cS 901 fS), (zaI aB cB 6 fB2), (zaI aT cT 64 fT2)] := hD
                  refine lv_aload_n hx hb dX12_looks_422 rfl (lv_at hl 3 rfl) ?_
                  refine lv_dup hx hb dX12_looks_423 rfl ?_
                  refine va_get (D := (dC, dI)) (ci := 14) (v := .int dn2) (C := RX12) (T := TX12) (N := 23) hx hb hts kc_looks_0 hown hK hP 0 rfl rfl 12 (by decide) (hts (.fieldLink RX12 146 "MistHeapsModel" "drifting" "I") kc_looks_4) (fun _ h9 => h9) rfl dX12_looks_424 ?_
                  refine lv_iload hx hb dX12_looks_427 (lv_at hl 0 rfl) ?_
                  have J429 : ∀ v_10 : Int32, W p l e ({ frames := 0, cells := 0, slots := 0, locals := 0 } : Room) s m args below meth c H locs 0 0 Q (F0 m 450 ls [.int v_10, .int dn2, .ref m0]) := by
                    intro v_10
                    refine lv_iadd hx hb dX12_looks_450 ?_
                    refine va_put (D := (dC, dI)) (ci := 14) (v := .int (dn2 + v_10)) (ty := .int) (C := RX12) (T := TX12) (N := 23) hx hb hts kc_looks_0 tyX12 tyX12_ok nmX12 hown hK hP hD hS 0 rfl rfl 12 (by decide) (hts (.fieldLink RX12 146 "MistHeapsModel" "drifting" "I") kc_looks_4) (fun _ h9 => h9) rfl (by decide +kernel) rfl rfl (Nat.le_of_ble_eq_true rfl) dX12_looks_451 (fun H locs hP hD hS => ?_)
                    have hP : va_P (dC, dI) vwCl [(zo14irriiiiiirriirrrrlriiii m0 th aS aI im ac sp en wg op aB aT (se2 + v_8) (dn2 + v_10) aG aO aN aD bv aY rn kd nu tv), (zaI aS cS 901 fS), (zaI aB cB 6 fB2), (zaI aT cT 64 fT2)] H := hP
                    have hD : va_D A [(zo14irriiiiiirriirrrrlriiii m0 th aS aI im ac sp en wg op aB aT (se2 + v_8) (dn2 + v_10) aG aO aN aD bv aY rn kd nu tv), (zaI aS cS 901 fS), (zaI aB cB 6 fB2), (zaI aT cT 64 fT2)] := hD
                    refine lv_iinc (v := nI (201 + 140 * h + i + 1)) (lv' := [(7, .int (nI (201 + 140 * h + i + 1))), (9, .int (fT2 0)), (6, .int 0), (8, .int x0), (0, .ref m0), (4, .int (nI k)), (5, .int (nI (201 + 140 * h)))]) hx hb dX12_looks_454 hl (k := 6) rfl (nI_add (201 + 140 * h + i) 1) (by decide) rfl (fun ls hl => ?_)
                    refine lv_goto (tgt := 124) hx hb dX12_looks_457 (by decide) ?_
                    exact ih124 (i + 1) (0) _ _ _ _ (by omega) (by omega) (by omega) (hd2) _ _ (hK.sub [0, 1, 2] rfl) (hP.sub [0, 1, 2, 3] rfl) (hD.sub [0, 1, 2, 3] (by decide) rfl) hS ls (lv_sub hl [4, 5, 6, 2, 0] rfl)
                  refine lv_if_eq (tgt := 449) hx hb dX12_looks_429 (by decide) (fun c_12 => ?_) (fun c_12 => ?_)
                  · skip
                    refine lv_iconst (v := 0) hx hb dX12_looks_449 (by decide) ?_
                    exact J429 0
                  · skip
                    refine lv_iload hx hb dX12_looks_432 (lv_at hl 2 rfl) ?_
                    refine lv_sipush (v := (-400)) hx hb dX12_looks_434 (by decide) ?_
                    refine lv_icmp_gt (tgt := 449) hx hb dX12_looks_437 (by decide) (fun c_13 => ?_) (fun c_13 => ?_)
                    · skip
                      refine lv_iconst (v := 0) hx hb dX12_looks_449 (by decide) ?_
                      exact J429 0
                    · skip
                      refine lv_sipush (v := (-400)) hx hb dX12_looks_440 (by decide) ?_
                      refine lv_iload hx hb dX12_looks_443 (lv_at hl 2 rfl) ?_
                      refine lv_isub hx hb dX12_looks_445 ?_
                      refine lv_goto (tgt := 450) hx hb dX12_looks_446 (by decide) ?_
                      exact J429 ((-400) - x0)
                refine lv_if_eq (tgt := 392) hx hb dX12_looks_381 (by decide) (fun c_14 => ?_) (fun c_14 => ?_)
                · skip
                  refine lv_iconst (v := 0) hx hb dX12_looks_392 (by decide) ?_
                  refine lv_goto (tgt := 418) hx hb dX12_looks_393 (by decide) ?_
                  exact J381 0
                · skip
                  refine lv_iload hx hb dX12_looks_384 (lv_at hl 2 rfl) ?_
                  refine lv_sipush (v := (-400)) hx hb dX12_looks_386 (by decide) ?_
                  refine lv_icmp_gt (tgt := 396) hx hb dX12_looks_389 (by decide) (fun c_15 => ?_) (fun c_15 => ?_)
                  · skip
                    refine lv_iload hx hb dX12_looks_396 (lv_at hl 2 rfl) ?_
                    refine lv_sipush (v := (-200)) hx hb dX12_looks_398 (by decide) ?_
                    refine lv_icmp_le (tgt := 412) hx hb dX12_looks_401 (by decide) (fun c_16 => ?_) (fun c_16 => ?_)
                    · skip
                      refine lv_iload hx hb dX12_looks_412 (lv_at hl 2 rfl) ?_
                      refine lv_sipush (v := (-200)) hx hb dX12_looks_414 (by decide) ?_
                      refine lv_isub hx hb dX12_looks_417 ?_
                      exact J381 (x0 - (-200))
                    · skip
                      refine lv_bipush (v := (-10)) hx hb dX12_looks_404 (by decide) ?_
                      refine lv_iload hx hb dX12_looks_406 (lv_at hl 2 rfl) ?_
                      refine lv_isub hx hb dX12_looks_408 ?_
                      refine lv_goto (tgt := 418) hx hb dX12_looks_409 (by decide) ?_
                      exact J381 ((-10) - x0)
                  · skip
                    refine lv_iconst (v := 0) hx hb dX12_looks_392 (by decide) ?_
                    refine lv_goto (tgt := 418) hx hb dX12_looks_393 (by decide) ?_
                    exact J381 0
              · skip
                obtain ⟨e2, h1⟩ := stepd_b hs2 c_5 c_6 c_7
                subst e2
                refine lv_iinc (v := nI (d - 1)) (lv' := [(6, .int (nI (d - 1))), (8, .int x0), (0, .ref m0), (4, .int (nI k)), (5, .int (nI (201 + 140 * h))), (7, .int (nI (201 + 140 * h + i)))]) hx hb dX12_looks_284 hl (k := 4) rfl (nI_dec (by omega)) (by decide) rfl (fun ls hl => ?_)
                refine lv_aload_n hx hb dX12_looks_287 rfl (lv_at hl 2 rfl) ?_
                refine va_get (D := (dC, dI)) (ci := 14) (v := .ref aT) (C := RX12) (T := TX12) (N := 23) hx hb hts kc_looks_0 hown hK hP 0 rfl rfl 10 (by decide) (hts (.fieldLink RX12 21 "MistHeapsModel" "truths" "[Z") kc_looks_5) (fun _ h9 => h9) rfl dX12_looks_288 ?_
                refine lv_iload hx hb dX12_looks_291 (lv_at hl 0 rfl) ?_
                refine lv_iconst (v := 1) hx hb dX12_looks_293 (by decide) ?_
                refine lv_isub hx hb dX12_looks_294 ?_
                refine qi_as (y := nI ((d - 1) - 1)) (pk_sub (a := d - 1) (b := 1) (by omega)) ?_
                refine lv_iload hx hb dX12_looks_295 (lv_at hl 1 rfl) ?_
                refine lv_bipush (v := (-2)) hx hb dX12_looks_297 (by decide) ?_
                have J299 : ∀ v_17 : Int32, W p l e ({ frames := 0, cells := 0, slots := 0, locals := 0 } : Room) s m args below meth c H locs 0 0 Q (F0 m 359 ls [.int v_17, .int (nI ((d - 1) - 1)), .ref aT]) := by
                  intro v_17
                  refine va_zast hx hb hK hP hD hS 3 2 rfl rfl (vp_in_nI (n := (d - 1) - 1) (N := 64) (by omega) (by omega)) dX12_looks_359 (fun H locs hP hD hS => ?_)
                  rw [nI_clamp (n := (d - 1) - 1) (by omega)] at hP hD
                  have hP : va_P (dC, dI) vwCl [(zo14irriiiiiirriirrrrlriiii m0 th aS aI im ac sp en wg op aB aT se2 dn2 aG aO aN aD bv aY rn kd nu tv), (zaI aS cS 901 fS), (zaI aB cB 6 fB2), (zaI aT cT 64 (upd fT2 ((d - 1) - 1) (vp_nar .boolean v_17)))] H := hP
                  have hD : va_D A [(zo14irriiiiiirriirrrrlriiii m0 th aS aI im ac sp en wg op aB aT se2 dn2 aG aO aN aD bv aY rn kd nu tv), (zaI aS cS 901 fS), (zaI aB cB 6 fB2), (zaI aT cT 64 (upd fT2 ((d - 1) - 1) (vp_nar .boolean v_17)))] := hD
                  refine lv_goto (tgt := 454) hx hb dX12_looks_360 (by decide) ?_
                  refine lv_iinc (v := nI (201 + 140 * h + i + 1)) (lv' := [(7, .int (nI (201 + 140 * h + i + 1))), (6, .int (nI (d - 1))), (8, .int x0), (0, .ref m0), (4, .int (nI k)), (5, .int (nI (201 + 140 * h)))]) hx hb dX12_looks_454 hl (k := 5) rfl (nI_add (201 + 140 * h + i) 1) (by decide) rfl (fun ls hl => ?_)
                  refine lv_goto (tgt := 124) hx hb dX12_looks_457 (by decide) ?_
                  exact ih124 (i + 1) (d - 1) _ _ _ _ (by omega) (by omega) (by omega) (hd2) _ _ (hK.sub [0, 1, 2] rfl) (hP.sub [0, 1, 2, 3] rfl) (hD.sub [0, 1, 2, 3] (by decide) rfl) hS ls (lv_sub hl [3, 4, 5, 1, 0] rfl)
                refine lv_icmp_ne (tgt := 332) hx hb dX12_looks_299 (by decide) (fun c_19 => ?_) (fun c_19 => ?_)
                · skip
                  refine lv_aload_n hx hb dX12_looks_332 rfl (lv_at hl 2 rfl) ?_
                  refine va_get (D := (dC, dI)) (ci := 14) (v := .ref aT) (C := RX12) (T := TX12) (N := 23) hx hb hts kc_looks_0 hown hK hP 0 rfl rfl 10 (by decide) (hts (.fieldLink RX12 21 "MistHeapsModel" "truths" "[Z") kc_looks_5) (fun _ h9 => h9) rfl dX12_looks_333 ?_
                  refine lv_iload hx hb dX12_looks_336 (lv_at hl 0 rfl) ?_
                  refine lv_iconst (v := 1) hx hb dX12_looks_338 (by decide) ?_
                  refine lv_isub hx hb dX12_looks_339 ?_
                  refine qi_as (y := nI ((d - 1) - 1)) (pk_sub (a := d - 1) (b := 1) (by omega)) ?_
                  refine va_zald hx hb hK hP 3 2 rfl rfl (vp_in_nI (n := (d - 1) - 1) (N := 64) (by omega) (by omega)) dX12_looks_340 ?_
                  refine qi_as (y := fT2 ((d - 1) - 1)) (by rw [nI_clamp (by omega)]) ?_
                  refine lv_if_ne (tgt := 354) hx hb dX12_looks_341 (by decide) (fun c_20 => ?_) (fun c_20 => ?_)
                  · skip
                    refine lv_iconst (v := 1) hx hb dX12_looks_354 (by decide) ?_
                    refine lv_goto (tgt := 359) hx hb dX12_looks_355 (by decide) ?_
                    exact J299 1
                  · skip
                    refine lv_aload_n hx hb dX12_looks_344 rfl (lv_at hl 2 rfl) ?_
                    refine va_get (D := (dC, dI)) (ci := 14) (v := .ref aT) (C := RX12) (T := TX12) (N := 23) hx hb hts kc_looks_0 hown hK hP 0 rfl rfl 10 (by decide) (hts (.fieldLink RX12 21 "MistHeapsModel" "truths" "[Z") kc_looks_5) (fun _ h9 => h9) rfl dX12_looks_345 ?_
                    refine lv_iload hx hb dX12_looks_348 (lv_at hl 0 rfl) ?_
                    refine va_zald hx hb hK hP 3 2 rfl rfl (vp_in_nI (n := d - 1) (N := 64) (by omega) (by omega)) dX12_looks_350 ?_
                    refine qi_as (y := fT2 (d - 1)) (by rw [nI_clamp (by omega)]) ?_
                    refine lv_if_eq (tgt := 358) hx hb dX12_looks_351 (by decide) (fun c_21 => ?_) (fun c_21 => ?_)
                    · skip
                      refine lv_iconst (v := 0) hx hb dX12_looks_358 (by decide) ?_
                      exact J299 0
                    · skip
                      refine lv_iconst (v := 1) hx hb dX12_looks_354 (by decide) ?_
                      refine lv_goto (tgt := 359) hx hb dX12_looks_355 (by decide) ?_
                      exact J299 1
                · skip
                  refine lv_aload_n hx hb dX12_looks_302 rfl (lv_at hl 2 rfl) ?_
                  refine va_get (D := (dC, dI)) (ci := 14) (v := .ref aT) (C := RX12) (T := TX12) (N := 23) hx hb hts kc_looks_0 hown hK hP 0 rfl rfl 10 (by decide) (hts (.fieldLink RX12 21 "MistHeapsModel" "truths" "[Z") kc_looks_5) (fun _ h9 => h9) rfl dX12_looks_303 ?_
                  refine lv_iload hx hb dX12_looks_306 (lv_at hl 0 rfl) ?_
                  refine lv_iconst (v := 1) hx hb dX12_looks_308 (by decide) ?_
                  refine lv_isub hx hb dX12_looks_309 ?_
                  refine qi_as (y := nI ((d - 1) - 1)) (pk_sub (a := d - 1) (b := 1) (by omega)) ?_
                  refine va_zald hx hb hK hP 3 2 rfl rfl (vp_in_nI (n := (d - 1) - 1) (N := 64) (by omega) (by omega)) dX12_looks_310 ?_
                  refine qi_as (y := fT2 ((d - 1) - 1)) (by rw [nI_clamp (by omega)]) ?_
                  refine lv_if_eq (tgt := 328) hx hb dX12_looks_311 (by decide) (fun c_22 => ?_) (fun c_22 => ?_)
                  · skip
                    refine lv_iconst (v := 0) hx hb dX12_looks_328 (by decide) ?_
                    refine lv_goto (tgt := 359) hx hb dX12_looks_329 (by decide) ?_
                    exact J299 0
                  · skip
                    refine lv_aload_n hx hb dX12_looks_314 rfl (lv_at hl 2 rfl) ?_
                    refine va_get (D := (dC, dI)) (ci := 14) (v := .ref aT) (C := RX12) (T := TX12) (N := 23) hx hb hts kc_looks_0 hown hK hP 0 rfl rfl 10 (by decide) (hts (.fieldLink RX12 21 "MistHeapsModel" "truths" "[Z") kc_looks_5) (fun _ h9 => h9) rfl dX12_looks_315 ?_
                    refine lv_iload hx hb dX12_looks_318 (lv_at hl 0 rfl) ?_
                    refine va_zald hx hb hK hP 3 2 rfl rfl (vp_in_nI (n := d - 1) (N := 64) (by omega) (by omega)) dX12_looks_320 ?_
                    refine qi_as (y := fT2 (d - 1)) (by rw [nI_clamp (by omega)]) ?_
                    refine lv_if_eq (tgt := 328) hx hb dX12_looks_321 (by decide) (fun c_23 => ?_) (fun c_23 => ?_)
                    · skip
                      refine lv_iconst (v := 0) hx hb dX12_looks_328 (by decide) ?_
                      refine lv_goto (tgt := 359) hx hb dX12_looks_329 (by decide) ?_
                      exact J299 0
                    · skip
                      refine lv_iconst (v := 1) hx hb dX12_looks_324 (by decide) ?_
                      refine lv_goto (tgt := 359) hx hb dX12_looks_325 (by decide) ?_
                      exact J299 1
            · skip
              have hs3 : stepd (-1) d = some d2 := by rw [← c_6]; exact hs2
              obtain ⟨e2, h1⟩ := stepd_n hs3
              rw [e2] at hd2
              refine lv_aload_n hx hb dX12_looks_248 rfl (lv_at hl 1 rfl) ?_
              refine va_get (D := (dC, dI)) (ci := 14) (v := .ref aT) (C := RX12) (T := TX12) (N := 23) hx hb hts kc_looks_0 hown hK hP 0 rfl rfl 10 (by decide) (hts (.fieldLink RX12 21 "MistHeapsModel" "truths" "[Z") kc_looks_5) (fun _ h9 => h9) rfl dX12_looks_249 ?_
              refine lv_iload hx hb dX12_looks_252 (lv_at hl 4 rfl) ?_
              refine lv_iconst (v := 1) hx hb dX12_looks_254 (by decide) ?_
              refine lv_isub hx hb dX12_looks_255 ?_
              refine qi_as (y := nI (d - 1)) (pk_sub (a := d) (b := 1) (by omega)) ?_
              refine lv_aload_n hx hb dX12_looks_256 rfl (lv_at hl 1 rfl) ?_
              refine va_get (D := (dC, dI)) (ci := 14) (v := .ref aT) (C := RX12) (T := TX12) (N := 23) hx hb hts kc_looks_0 hown hK hP 0 rfl rfl 10 (by decide) (hts (.fieldLink RX12 21 "MistHeapsModel" "truths" "[Z") kc_looks_5) (fun _ h9 => h9) rfl dX12_looks_257 ?_
              refine lv_iload hx hb dX12_looks_260 (lv_at hl 4 rfl) ?_
              refine lv_iconst (v := 1) hx hb dX12_looks_262 (by decide) ?_
              refine lv_isub hx hb dX12_looks_263 ?_
              refine qi_as (y := nI (d - 1)) (pk_sub (a := d) (b := 1) (by omega)) ?_
              refine va_zald hx hb hK hP 3 2 rfl rfl (vp_in_nI (n := d - 1) (N := 64) (by omega) (by omega)) dX12_looks_264 ?_
              refine qi_as (y := fT2 (d - 1)) (by rw [nI_clamp (by omega)]) ?_
              have J265 : ∀ v_24 : Int32, W p l e ({ frames := 0, cells := 0, slots := 0, locals := 0 } : Room) s m args below meth c H locs 0 0 Q (F0 m 273 ls [.int v_24, .int (nI (d - 1)), .ref aT]) := by
                intro v_24
                refine va_zast hx hb hK hP hD hS 3 2 rfl rfl (vp_in_nI (n := d - 1) (N := 64) (by omega) (by omega)) dX12_looks_273 (fun H locs hP hD hS => ?_)
                rw [nI_clamp (n := d - 1) (by omega)] at hP hD
                have hP : va_P (dC, dI) vwCl [(zo14irriiiiiirriirrrrlriiii m0 th aS aI im ac sp en wg op aB aT se2 dn2 aG aO aN aD bv aY rn kd nu tv), (zaI aS cS 901 fS), (zaI aB cB 6 fB2), (zaI aT cT 64 (upd fT2 (d - 1) (vp_nar .boolean v_24)))] H := hP
                have hD : va_D A [(zo14irriiiiiirriirrrrlriiii m0 th aS aI im ac sp en wg op aB aT se2 dn2 aG aO aN aD bv aY rn kd nu tv), (zaI aS cS 901 fS), (zaI aB cB 6 fB2), (zaI aT cT 64 (upd fT2 (d - 1) (vp_nar .boolean v_24)))] := hD
                refine lv_goto (tgt := 454) hx hb dX12_looks_274 (by decide) ?_
                refine lv_iinc (v := nI (201 + 140 * h + i + 1)) (lv' := [(7, .int (nI (201 + 140 * h + i + 1))), (8, .int x0), (0, .ref m0), (4, .int (nI k)), (5, .int (nI (201 + 140 * h))), (6, .int (nI d))]) hx hb dX12_looks_454 hl (k := 5) rfl (nI_add (201 + 140 * h + i) 1) (by decide) rfl (fun ls hl => ?_)
                refine lv_goto (tgt := 124) hx hb dX12_looks_457 (by decide) ?_
                exact ih124 (i + 1) (d) _ _ _ _ (by omega) (by omega) (by omega) (hd2) _ _ (hK.sub [0, 1, 2] rfl) (hP.sub [0, 1, 2, 3] rfl) (hD.sub [0, 1, 2, 3] (by decide) rfl) hS ls (lv_sub hl [2, 3, 4, 5, 0] rfl)
              refine lv_if_ne (tgt := 272) hx hb dX12_looks_265 (by decide) (fun c_26 => ?_) (fun c_26 => ?_)
              · skip
                refine lv_iconst (v := 0) hx hb dX12_looks_272 (by decide) ?_
                exact J265 0
              · skip
                refine lv_iconst (v := 1) hx hb dX12_looks_268 (by decide) ?_
                refine lv_goto (tgt := 273) hx hb dX12_looks_269 (by decide) ?_
                exact J265 1
          · skip
            obtain ⟨e2, h60, j, hj, ej⟩ := stepd_t hs2 c_5
            subst e2
            refine lv_aload_n hx hb dX12_looks_148 rfl (lv_at hl 1 rfl) ?_
            refine va_get (D := (dC, dI)) (ci := 14) (v := .ref aB) (C := RX12) (T := TX12) (N := 23) hx hb hts kc_looks_0 hown hK hP 0 rfl rfl 9 (by decide) (hts (.fieldLink RX12 18 "MistHeapsModel" "by" "[I") kc_looks_1) (fun _ h9 => h9) rfl dX12_looks_149 ?_
            refine lv_iload hx hb dX12_looks_152 (lv_at hl 0 rfl) ?_
            refine lv_bipush (v := 8) hx hb dX12_looks_154 (by decide) ?_
            refine lv_irem hx hb dX12_looks_156 (by decide) ?_
            refine qi_as (y := nI j) (ej) ?_
            refine va_iald hx hb hK hP 2 1 rfl rfl (vp_in_nI (n := j) (N := 6) (by omega) (by omega)) dX12_looks_157 ?_
            refine qi_as (y := fB2 j) (by rw [nI_clamp (by omega)]) ?_
            refine lv_istore (lv' := [(9, .int (fB2 j)), (8, .int x0), (0, .ref m0), (4, .int (nI k)), (5, .int (nI (201 + 140 * h))), (6, .int (nI d)), (7, .int (nI (201 + 140 * h + i)))]) hx hb dX12_looks_158 hl (by decide) rfl (fun ls hl => ?_)
            refine lv_iload hx hb dX12_looks_160 (lv_at hl 1 rfl) ?_
            refine lv_bipush (v := 8) hx hb dX12_looks_162 (by decide) ?_
            refine lv_idiv hx hb dX12_looks_164 (by decide) ?_
            refine lv_iconst (v := 4) hx hb dX12_looks_165 (by decide) ?_
            refine lv_irem hx hb dX12_looks_166 (by decide) ?_
            refine lv_istore (lv' := [(10, .int ((x0 / 8) - (x0 / 8) / 4 * 4)), (9, .int (fB2 j)), (8, .int x0), (0, .ref m0), (4, .int (nI k)), (5, .int (nI (201 + 140 * h))), (6, .int (nI d)), (7, .int (nI (201 + 140 * h + i)))]) hx hb dX12_looks_167 hl (by decide) rfl (fun ls hl => ?_)
            refine lv_iload hx hb dX12_looks_169 (lv_at hl 2 rfl) ?_
            refine lv_bipush (v := 32) hx hb dX12_looks_171 (by decide) ?_
            refine lv_idiv hx hb dX12_looks_173 (by decide) ?_
            refine lv_istore (lv' := [(11, .int (x0 / 32)), (10, .int ((x0 / 8) - (x0 / 8) / 4 * 4)), (9, .int (fB2 j)), (8, .int x0), (0, .ref m0), (4, .int (nI k)), (5, .int (nI (201 + 140 * h))), (6, .int (nI d)), (7, .int (nI (201 + 140 * h + i)))]) hx hb dX12_looks_174 hl (by decide) rfl (fun ls hl => ?_)
            refine lv_aload_n hx hb dX12_looks_176 rfl (lv_at hl 4 rfl) ?_
            refine va_get (D := (dC, dI)) (ci := 14) (v := .ref aT) (C := RX12) (T := TX12) (N := 23) hx hb hts kc_looks_0 hown hK hP 0 rfl rfl 10 (by decide) (hts (.fieldLink RX12 21 "MistHeapsModel" "truths" "[Z") kc_looks_5) (fun _ h9 => h9) rfl dX12_looks_177 ?_
            refine lv_iload hx hb dX12_looks_180 (lv_at hl 7 rfl) ?_
            refine lv_iload hx hb dX12_looks_182 (lv_at hl 1 rfl) ?_
            have J184 : ∀ v_27 : Int32, W p l e ({ frames := 0, cells := 0, slots := 0, locals := 0 } : Room) s m args below meth c H locs 0 0 Q (F0 m 235 ls [.int v_27, .int (nI d), .ref aT]) := by
              intro v_27
              refine va_zast hx hb hK hP hD hS 3 2 rfl rfl (vp_in_nI (n := d) (N := 64) (by omega) (by omega)) dX12_looks_235 (fun H locs hP hD hS => ?_)
              rw [nI_clamp (n := d) (by omega)] at hP hD
              have hP : va_P (dC, dI) vwCl [(zo14irriiiiiirriirrrrlriiii m0 th aS aI im ac sp en wg op aB aT se2 dn2 aG aO aN aD bv aY rn kd nu tv), (zaI aS cS 901 fS), (zaI aB cB 6 fB2), (zaI aT cT 64 (upd fT2 d (vp_nar .boolean v_27)))] H := hP
              have hD : va_D A [(zo14irriiiiiirriirrrrlriiii m0 th aS aI im ac sp en wg op aB aT se2 dn2 aG aO aN aD bv aY rn kd nu tv), (zaI aS cS 901 fS), (zaI aB cB 6 fB2), (zaI aT cT 64 (upd fT2 d (vp_nar .boolean v_27)))] := hD
              refine lv_iinc (v := nI (d + 1)) (lv' := [(6, .int (nI (d + 1))), (11, .int (x0 / 32)), (10, .int ((x0 / 8) - (x0 / 8) / 4 * 4)), (9, .int (fB2 j)), (8, .int x0), (0, .ref m0), (4, .int (nI k)), (5, .int (nI (201 + 140 * h))), (7, .int (nI (201 + 140 * h + i)))]) hx hb dX12_looks_236 hl (k := 7) rfl (nI_add d 1) (by decide) rfl (fun ls hl => ?_)
              refine lv_goto (tgt := 454) hx hb dX12_looks_239 (by decide) ?_
              refine lv_iinc (v := nI (201 + 140 * h + i + 1)) (lv' := [(7, .int (nI (201 + 140 * h + i + 1))), (6, .int (nI (d + 1))), (11, .int (x0 / 32)), (10, .int ((x0 / 8) - (x0 / 8) / 4 * 4)), (9, .int (fB2 j)), (8, .int x0), (0, .ref m0), (4, .int (nI k)), (5, .int (nI (201 + 140 * h)))]) hx hb dX12_looks_454 hl (k := 8) rfl (nI_add (201 + 140 * h + i) 1) (by decide) rfl (fun ls hl => ?_)
              refine lv_goto (tgt := 124) hx hb dX12_looks_457 (by decide) ?_
              exact ih124 (i + 1) (d + 1) _ _ _ _ (by omega) (by omega) (by omega) (hd2) _ _ (hK.sub [0, 1, 2] rfl) (hP.sub [0, 1, 2, 3] rfl) (hD.sub [0, 1, 2, 3] (by decide) rfl) hS ls (lv_sub hl [6, 7, 8, 1, 0] rfl)
            refine lv_if_ne (tgt := 202) hx hb dX12_looks_184 (by decide) (fun c_29 => ?_) (fun c_29 => ?_)
            · skip
              refine lv_iload hx hb dX12_looks_202 (lv_at hl 1 rfl) ?_
              refine lv_iconst (v := 1) hx hb dX12_looks_204 (by decide) ?_
              refine lv_icmp_ne (tgt := 223) hx hb dX12_looks_205 (by decide) (fun c_30 => ?_) (fun c_30 => ?_)
              · skip
                refine lv_iload hx hb dX12_looks_223 (lv_at hl 2 rfl) ?_
                refine lv_iload hx hb dX12_looks_225 (lv_at hl 0 rfl) ?_
                refine lv_icmp_le (tgt := 234) hx hb dX12_looks_227 (by decide) (fun c_31 => ?_) (fun c_31 => ?_)
                · skip
                  refine lv_iconst (v := 0) hx hb dX12_looks_234 (by decide) ?_
                  exact J184 0
                · skip
                  refine lv_iconst (v := 1) hx hb dX12_looks_230 (by decide) ?_
                  refine lv_goto (tgt := 235) hx hb dX12_looks_231 (by decide) ?_
                  exact J184 1
              · skip
                refine lv_iload hx hb dX12_looks_208 (lv_at hl 2 rfl) ?_
                refine lv_iload hx hb dX12_looks_210 (lv_at hl 0 rfl) ?_
                refine lv_icmp_ne (tgt := 219) hx hb dX12_looks_212 (by decide) (fun c_32 => ?_) (fun c_32 => ?_)
                · skip
                  refine lv_iconst (v := 0) hx hb dX12_looks_219 (by decide) ?_
                  refine lv_goto (tgt := 235) hx hb dX12_looks_220 (by decide) ?_
                  exact J184 0
                · skip
                  refine lv_iconst (v := 1) hx hb dX12_looks_215 (by decide) ?_
                  refine lv_goto (tgt := 235) hx hb dX12_looks_216 (by decide) ?_
                  exact J184 1
            · skip
              refine lv_iload hx hb dX12_looks_187 (lv_at hl 2 rfl) ?_
              refine lv_iload hx hb dX12_looks_189 (lv_at hl 0 rfl) ?_
              refine lv_icmp_ge (tgt := 198) hx hb dX12_looks_191 (by decide) (fun c_33 => ?_) (fun c_33 => ?_)
              · skip
                refine lv_iconst (v := 0) hx hb dX12_looks_198 (by decide) ?_
                refine lv_goto (tgt := 235) hx hb dX12_looks_199 (by decide) ?_
                exact J184 0
              · skip
                refine lv_iconst (v := 1) hx hb dX12_looks_194 (by decide) ?_
                refine lv_goto (tgt := 235) hx hb dX12_looks_195 (by decide) ?_
                exact J184 1
    exact L124 _ (0) (0) _ _ _ _ (Nat.lt_succ_self _) (by omega) (by omega) (rfl) _ _ (hK.sub [0, 1, 2] rfl) (hP.sub [0, 1, 2, 3] rfl) (hD.sub [0, 1, 2, 3] (by decide) rfl) hS ls (lv_sub hl [4, 3, 2, 1, 0] rfl)

theorem kc_sight_0 : ∀ w ∈ wsX120, w ∈ wsX12_sight := fun w h => List.mem_cons_of_mem _ (gin_wsX120 w h)
theorem kc_sight_1 : (.fieldLink RX12 9 "MistHeapsModel" "s" "[I" : Cond) ∈ wsX12_sight := kc_of 1141 rfl rfl rfl
set_option maxHeartbeats 4000000 in
set_option maxRecDepth 100000 in
theorem c_sight (l : Launch) (dC : Nat → ClassId) (dI : Nat → Nat → Nat) (m0 aS aI aB aT aG aO aN aD aY : Nat) (th im ac sp en wg op se dn rn kd nu tv : Int32) (bv : Int64) (cS : ClassId) (fS : Nat → Int32) (zh : hold fS) : Met l yX12_sight wsX12_sight ({ frames := 0, cells := 0, slots := 0, locals := 0 } : Room) (va_Pc [.ref m0] (fun U => va_P (dC, dI) vwCl [(zo14irriiiiiirriirrrrlriiii m0 th aS aI im ac sp en wg op aB aT se dn aG aO aN aD bv aY rn kd nu tv), (zaI aS cS 901 fS)] U.heap ∧ va_K (dC, dI) vwCl [(cS, .int)] U)) (vp_Si (fun r => True)) 0 0 (fun _ => False) := by
  refine met_ofQ (cc := cX12_sight) (maxL := 1) (ret := (some .int)) (by decide) rfl ?_
  intro p e s m args below meth c s₁ Q B hml hv hQ
  obtain ⟨rfl, hP, hK⟩ := hv
  have hx := B.exec
  have hb := B.bytes
  have hr := B.returns
  have hts := atoms_spec (ws := wsX12_sight) B.pre
  have hown : s.vm.findClass RX12 = some m.cls := findClass_of_methodNamed B.named
  have hlocks := B.notSynchronized
  obtain ⟨A, hAe⟩ : ∃ A : Nat → Prop, A = fun _ => False := ⟨_, rfl⟩
  rw [← hAe] at hQ
  have hS : va_S A s.heap s.heap [] := va_S.rf
  have hl := lv_entry [.ref m0] (n := 1) (Nat.le_of_ble_eq_true rfl)
  rw [lg_entry_eq]
  generalize (lg_sl [.ref m0] ++ List.replicate (1 - (lg_sl [.ref m0]).length) Slot.unset).toArray = ls at hl ⊢
  generalize hag : ([.ref m0] : List Value).toArray = args at hts hQ ⊢
  have hl : lv_has ls 1 [(0, .ref m0)] := hl
  rcases zh with zh | ⟨h, hh, zh, k, hk, zk, zo⟩
  · skip
    refine lv_aload_n hx hb dX12_sight_0 rfl (lv_at hl 0 rfl) ?_
    refine va_get (D := (dC, dI)) (ci := 14) (v := .ref aS) (C := RX12) (T := TX12) (N := 23) hx hb hts kc_sight_0 hown hK hP 0 rfl rfl 1 (by decide) (hts (.fieldLink RX12 9 "MistHeapsModel" "s" "[I") kc_sight_1) (fun _ h9 => h9) rfl dX12_sight_1 ?_
    refine lv_iconst (v := 5) hx hb dX12_sight_4 (by decide) ?_
    refine va_iald hx hb hK hP 1 0 rfl rfl (vp_in_nI (n := 5) (N := 901) (by omega) (by omega)) dX12_sight_5 ?_
    refine qi_as (y := (-1)) ((show fS (5 : Int32).toNatClampNeg = fS 5 from rfl).trans (zh)) ?_
    refine lv_iconst (v := (-1)) hx hb dX12_sight_6 (by decide) ?_
    refine lv_icmp_ne (tgt := 14) hx hb dX12_sight_7 (by decide) (fun c_1 => absurd c_1 (by decide)) (fun _ => ?_)
    refine lv_iconst (v := 3) hx hb dX12_sight_10 (by decide) ?_
    refine lv_goto (tgt := 29) hx hb dX12_sight_11 (by decide) ?_
    rw [hQ]
    exact W.iret (v := 3) hx hb hr (fun tQ htQ hWQ => ⟨3, rfl, trivial, by rw [htQ]⟩) (fun q hq => absurd hq List.not_mem_nil) dX12_sight_29
  · skip
    refine lv_aload_n hx hb dX12_sight_0 rfl (lv_at hl 0 rfl) ?_
    refine va_get (D := (dC, dI)) (ci := 14) (v := .ref aS) (C := RX12) (T := TX12) (N := 23) hx hb hts kc_sight_0 hown hK hP 0 rfl rfl 1 (by decide) (hts (.fieldLink RX12 9 "MistHeapsModel" "s" "[I") kc_sight_1) (fun _ h9 => h9) rfl dX12_sight_1 ?_
    refine lv_iconst (v := 5) hx hb dX12_sight_4 (by decide) ?_
    refine va_iald hx hb hK hP 1 0 rfl rfl (vp_in_nI (n := 5) (N := 901) (by omega) (by omega)) dX12_sight_5 ?_
    refine qi_as (y := nI h) ((show fS (5 : Int32).toNatClampNeg = fS 5 from rfl).trans (zh)) ?_
    refine lv_iconst (v := (-1)) hx hb dX12_sight_6 (by decide) ?_
    refine lv_icmp_ne (tgt := 14) hx hb dX12_sight_7 (by decide) (fun c_2 => ?_) (fun c_2 => absurd c_2 (nI_nm1 (by omega)))
    refine lv_aload_n hx hb dX12_sight_14 rfl (lv_at hl 0 rfl) ?_
    refine va_get (D := (dC, dI)) (ci := 14) (v := .ref aS) (C := RX12) (T := TX12) (N := 23) hx hb hts kc_sight_0 hown hK hP 0 rfl rfl 1 (by decide) (hts (.fieldLink RX12 9 "MistHeapsModel" "s" "[I") kc_sight_1) (fun _ h9 => h9) rfl dX12_sight_15 ?_
    refine lv_sipush (v := 191) hx hb dX12_sight_18 (by decide) ?_
    refine lv_aload_n hx hb dX12_sight_21 rfl (lv_at hl 0 rfl) ?_
    refine va_get (D := (dC, dI)) (ci := 14) (v := .ref aS) (C := RX12) (T := TX12) (N := 23) hx hb hts kc_sight_0 hown hK hP 0 rfl rfl 1 (by decide) (hts (.fieldLink RX12 9 "MistHeapsModel" "s" "[I") kc_sight_1) (fun _ h9 => h9) rfl dX12_sight_22 ?_
    refine lv_iconst (v := 5) hx hb dX12_sight_25 (by decide) ?_
    refine va_iald hx hb hK hP 1 0 rfl rfl (vp_in_nI (n := 5) (N := 901) (by omega) (by omega)) dX12_sight_26 ?_
    refine qi_as (y := nI h) ((show fS (5 : Int32).toNatClampNeg = fS 5 from rfl).trans (zh)) ?_
    refine lv_iadd hx hb dX12_sight_27 ?_
    refine qi_as (y := nI (191 + h)) (nI_add 191 h) ?_
    refine va_iald hx hb hK hP 1 0 rfl rfl (vp_in_nI (n := 191 + h) (N := 901) (by omega) (by omega)) dX12_sight_28 ?_
    refine qi_as (y := fS (191 + h)) (by rw [nI_clamp (by omega)]) ?_
    rw [hQ]
    exact W.iret (v := fS (191 + h)) hx hb hr (fun tQ htQ hWQ => ⟨fS (191 + h), rfl, trivial, by rw [htQ]⟩) (fun q hq => absurd hq List.not_mem_nil) dX12_sight_29

theorem kc_reachOf_0 : ∀ w ∈ wsX120, w ∈ wsX12_reachOf := fun w h => List.mem_cons_of_mem _ (gin_wsX120 w h)
theorem kc_reachOf_1 : (.fieldLink RX12 9 "MistHeapsModel" "s" "[I" : Cond) ∈ wsX12_reachOf := kc_of 1141 rfl rfl rfl
theorem kc_reachOf_2 : (.fieldLink RX12 143 "MistHeapsModel" "seeing" "I" : Cond) ∈ wsX12_reachOf := kc_of 1151 rfl rfl rfl
set_option maxHeartbeats 4000000 in
set_option maxRecDepth 100000 in
theorem c_reachOf (l : Launch) (dC : Nat → ClassId) (dI : Nat → Nat → Nat) (m0 aS aI aB aT aG aO aN aD aY : Nat) (th im ac sp en wg op se dn rn kd nu tv : Int32) (bv : Int64) (cS cB cT : ClassId) (fS : Nat → Int32) (fB : Nat → Int32) (fT : Nat → Int32) (h : Nat) (sz : Nat) (hh : h ≤ 8) (zh : hold fS) : Met l yX12_reachOf wsX12_reachOf ({ frames := 1, cells := 0, slots := 0, locals := 31 } : Room) (va_Pc [.ref m0, .int (nI h)] (fun U => U.heap.size = sz ∧ va_P (dC, dI) vwCl [(zo14irriiiiiirriirrrrlriiii m0 th aS aI im ac sp en wg op aB aT se dn aG aO aN aD bv aY rn kd nu tv), (zaI aS cS 901 fS), (zaI aB cB 6 fB), (zaI aT cT 64 fT)] U.heap ∧ va_K (dC, dI) vwCl [(cS, .int), (cB, .int), (cT, .boolean)] U ∧ va_D (fun _ => True) [(zo14irriiiiiirriirrrrlriiii m0 th aS aI im ac sp en wg op aB aT se dn aG aO aN aD bv aY rn kd nu tv), (zaI aS cS 901 fS), (zaI aB cB 6 fB), (zaI aT cT 64 fT)])) (va_Qi (fun (r : Int32) (u : (Nat → Int32) × (Nat → Int32) × (Int32) × (Int32)) => match u with | (fB9, fT9, se9, dn9) => True) (fun (u : (Nat → Int32) × (Nat → Int32) × (Int32) × (Int32)) (t : State) => match u with | (fB9, fT9, se9, dn9) => va_P (dC, dI) vwCl [(zo14irriiiiiirriirrrrlriiii m0 th aS aI im ac sp en wg op aB aT se9 dn9 aG aO aN aD bv aY rn kd nu tv), (zaI aS cS 901 fS), (zaI aB cB 6 fB9), (zaI aT cT 64 fT9)] t.heap ∧ va_K (dC, dI) vwCl [(cS, .int), (cB, .int), (cT, .boolean)] t ∧ va_D (va_A [(zo14irriiiiiirriirrrrlriiii m0 th aS aI im ac sp en wg op aB aT se dn aG aO aN aD bv aY rn kd nu tv), (zaI aS cS 901 fS), (zaI aB cB 6 fB), (zaI aT cT 64 fT)] sz) [(zo14irriiiiiirriirrrrlriiii m0 th aS aI im ac sp en wg op aB aT se9 dn9 aG aO aN aD bv aY rn kd nu tv), (zaI aS cS 901 fS), (zaI aB cB 6 fB9), (zaI aT cT 64 fT9)]) (va_A [(zo14irriiiiiirriirrrrlriiii m0 th aS aI im ac sp en wg op aB aT se dn aG aO aN aD bv aY rn kd nu tv), (zaI aS cS 901 fS), (zaI aB cB 6 fB), (zaI aT cT 64 fT)] sz)) 0 0 (va_A [(zo14irriiiiiirriirrrrlriiii m0 th aS aI im ac sp en wg op aB aT se dn aG aO aN aD bv aY rn kd nu tv), (zaI aS cS 901 fS), (zaI aB cB 6 fB), (zaI aT cT 64 fT)] sz) := by
  refine met_ofQ (cc := cX12_reachOf) (maxL := 5) (ret := (some .int)) (by decide) rfl ?_
  intro p e s m args below meth c s₁ Q B hml hv hQ
  obtain ⟨rfl, hsz, hP, hK, hD0⟩ := hv
  have hx := B.exec
  have hb := B.bytes
  have hr := B.returns
  have hts := atoms_spec (ws := wsX12_reachOf) B.pre
  have hown : s.vm.findClass RX12 = some m.cls := findClass_of_methodNamed B.named
  have hlocks := B.notSynchronized
  subst hsz
  have hD := hD0.self (sz := s.heap.size)
  generalize hAe : va_A [(zo14irriiiiiirriirrrrlriiii m0 th aS aI im ac sp en wg op aB aT se dn aG aO aN aD bv aY rn kd nu tv), (zaI aS cS 901 fS), (zaI aB cB 6 fB), (zaI aT cT 64 fT)] s.heap.size = A at hD hQ ⊢
  have hA : ∀ q : Nat, s.heap.size ≤ q → A q := fun q h => by rw [← hAe]; exact Or.inr h
  have hS : va_S A s.heap s.heap [] := va_S.rf
  have hl := lv_entry [.ref m0, .int (nI h)] (n := 5) (Nat.le_of_ble_eq_true rfl)
  rw [lg_entry_eq]
  generalize (lg_sl [.ref m0, .int (nI h)] ++ List.replicate (5 - (lg_sl [.ref m0, .int (nI h)]).length) Slot.unset).toArray = ls at hl ⊢
  generalize hag : ([.ref m0, .int (nI h)] : List Value).toArray = args at hts hQ ⊢
  have hl : lv_has ls 5 [(0, .ref m0), (1, .int (nI h))] := hl
  obtain ⟨H, hH⟩ : ∃ H : Heap, H = s.heap := ⟨_, rfl⟩
  rw [← hH] at hP
  rw [← hH]
  have hS : va_S A s.heap H [] := by rw [hH]; exact hS
  obtain ⟨locs, hlo⟩ : ∃ L : List Loc, L = [] := ⟨_, rfl⟩
  rw [← hlo] at hS
  rw [← hlo]
  clear hH hlo
  refine lv_aload_n hx hb dX12_reachOf_0 rfl (lv_at hl 0 rfl) ?_
  refine va_get (D := (dC, dI)) (ci := 14) (v := .ref aS) (C := RX12) (T := TX12) (N := 23) hx hb hts kc_reachOf_0 hown hK hP 0 rfl rfl 1 (by decide) (hts (.fieldLink RX12 9 "MistHeapsModel" "s" "[I") kc_reachOf_1) (fun _ h9 => h9) rfl dX12_reachOf_1 ?_
  refine lv_bipush (v := 10) hx hb dX12_reachOf_4 (by decide) ?_
  refine lv_iload_n hx hb dX12_reachOf_6 rfl (lv_at hl 1 rfl) ?_
  refine lv_iadd hx hb dX12_reachOf_7 ?_
  refine qi_as (y := nI (10 + h)) (nI_add 10 h) ?_
  refine va_iald hx hb hK hP 1 0 rfl rfl (vp_in_nI (n := 10 + h) (N := 901) (by omega) (by omega)) dX12_reachOf_8 ?_
  refine qi_as (y := fS (10 + h)) (by rw [nI_clamp (by omega)]) ?_
  refine lv_istore_n (lv' := [(2, .int (fS (10 + h))), (0, .ref m0), (1, .int (nI h))]) hx hb dX12_reachOf_9 rfl hl (by decide) rfl (fun ls hl => ?_)
  refine lv_aload_n hx hb dX12_reachOf_10 rfl (lv_at hl 1 rfl) ?_
  refine va_get (D := (dC, dI)) (ci := 14) (v := .ref aS) (C := RX12) (T := TX12) (N := 23) hx hb hts kc_reachOf_0 hown hK hP 0 rfl rfl 1 (by decide) (hts (.fieldLink RX12 9 "MistHeapsModel" "s" "[I") kc_reachOf_1) (fun _ h9 => h9) rfl dX12_reachOf_11 ?_
  refine lv_bipush (v := 19) hx hb dX12_reachOf_14 (by decide) ?_
  refine lv_iload_n hx hb dX12_reachOf_16 rfl (lv_at hl 2 rfl) ?_
  refine lv_iadd hx hb dX12_reachOf_17 ?_
  refine qi_as (y := nI (19 + h)) (nI_add 19 h) ?_
  refine va_iald hx hb hK hP 1 0 rfl rfl (vp_in_nI (n := 19 + h) (N := 901) (by omega) (by omega)) dX12_reachOf_18 ?_
  refine qi_as (y := fS (19 + h)) (by rw [nI_clamp (by omega)]) ?_
  refine lv_istore_n (lv' := [(3, .int (fS (19 + h))), (2, .int (fS (10 + h))), (0, .ref m0), (1, .int (nI h))]) hx hb dX12_reachOf_19 rfl hl (by decide) rfl (fun ls hl => ?_)
  refine lv_aload_n hx hb dX12_reachOf_20 rfl (lv_at hl 2 rfl) ?_
  refine lv_iload_n hx hb dX12_reachOf_21 rfl (lv_at hl 3 rfl) ?_
  refine lv_iload_n hx hb dX12_reachOf_22 rfl (lv_at hl 1 rfl) ?_
  refine lv_aload_n hx hb dX12_reachOf_23 rfl (lv_at hl 2 rfl) ?_
  refine va_get (D := (dC, dI)) (ci := 14) (v := .ref aS) (C := RX12) (T := TX12) (N := 23) hx hb hts kc_reachOf_0 hown hK hP 0 rfl rfl 1 (by decide) (hts (.fieldLink RX12 9 "MistHeapsModel" "s" "[I") kc_reachOf_1) (fun _ h9 => h9) rfl dX12_reachOf_24 ?_
  refine lv_bipush (v := 28) hx hb dX12_reachOf_27 (by decide) ?_
  refine lv_iload_n hx hb dX12_reachOf_29 rfl (lv_at hl 3 rfl) ?_
  refine lv_iadd hx hb dX12_reachOf_30 ?_
  refine qi_as (y := nI (28 + h)) (nI_add 28 h) ?_
  refine va_iald hx hb hK hP 1 0 rfl rfl (vp_in_nI (n := 28 + h) (N := 901) (by omega) (by omega)) dX12_reachOf_31 ?_
  refine qi_as (y := fS (28 + h)) (by rw [nI_clamp (by omega)]) ?_
  have hPc := hP.sub (ws' := [(zo14irriiiiiirriirrrrlriiii m0 th aS aI im ac sp en wg op aB aT se dn aG aO aN aD bv aY rn kd nu tv), (zaI aS cS 901 fS), (zaI aB cB 6 fB), (zaI aT cT 64 fT)]) [0, 1, 2, 3] rfl
  have hDc := hD.sub (ws' := [(zo14irriiiiiirriirrrrlriiii m0 th aS aI im ac sp en wg op aB aT se dn aG aO aN aD bv aY rn kd nu tv), (zaI aS cS 901 fS), (zaI aB cB 6 fB), (zaI aT cT 64 fT)]) [0, 1, 2, 3] (by decide) rfl
  have hKc := hK.sub (tys' := [(cS, .int), (cB, .int), (cT, .boolean)]) [0, 1, 2] rfl
  have hFc := va_free (wc := [(zo14irriiiiiirriirrrrlriiii m0 th aS aI im ac sp en wg op aB aT se dn aG aO aN aD bv aY rn kd nu tv), (zaI aS cS 901 fS), (zaI aB cB 6 fB), (zaI aT cT 64 fT)]) hD hS hA [0, 1, 2, 3] rfl
  refine va_callv (va_runV (As := [.int (nI h), .int (fS (10 + h)), .int (fS (28 + h))]) (rest := []) ⟨hx, hb, hml, hown, hts⟩ (c_looks l dC dI m0 aS aI aB aT aG aO aN aD aY th im ac sp en wg op se dn rn kd nu tv bv cS cB cT fS fB fT (nI h) (fS (10 + h)) (fS (28 + h)) H.size (zh)) (cwV 3 hts gX12_reachOf_X12_looks rfl rfl rfl hd_yX12_looks ⟨Nat.le_of_ble_eq_true rfl, Nat.le_of_ble_eq_true rfl⟩) ⟨fun a U g mk q => by obtain ⟨q0, q1, qP, qK, qD⟩ := q; exact ⟨q0, q1, qP, va_K.moved (u := U) (U := U.calling g mk a) (Vm.Alike.refl U.vm) qK, qD⟩, va_recv hK hP (ci := 14) (q := (RX12, TX12, 23)) (q0 := 0) rfl rfl, fun U hU hW => ⟨rfl, by rw [hU], by rw [hU]; exact hPc, va_K.moved hW.alike hKc, hDc.weaken (fun _ _ _ _ => trivial)⟩⟩ rfl rfl hl.1 rfl (lv_room (Nat.le_of_ble_eq_true rfl)) dX12_reachOf_32 ⟨Nat.le_of_ble_eq_true rfl, Nat.le_of_ble_eq_true rfl⟩) hS (fun q _ h => hFc q h) hFc (fun u tC H1 locs htC hvm hw_2 hB hz1 hk1 hS => ?_)
  obtain ⟨fB9_3, fT9_4, se9_5, dn9_6⟩ := u
  try dsimp only at hw_2 hB
  obtain ⟨hP1, hK1, hD1⟩ := hB
  rw [htC] at hP1
  have hK1 := va_K.moved hvm.symm hK1
  obtain ⟨hP, hD⟩ := va_join (wr := []) (w1 := [(zo14irriiiiiirriirrrrlriiii m0 th aS aI im ac sp en wg op aB aT se9_5 dn9_6 aG aO aN aD bv aY rn kd nu tv), (zaI aS cS 901 fS), (zaI aB cB 6 fB9_3), (zaI aT cT 64 fT9_4)]) hP hD [0, 1, 2, 3] [] rfl rfl (by decide) (by decide) hk1 hFc hP1 hD1
  have hK := (hK.sub (tys' := []) [] rfl).app hK1
  generalize H1 = H at hP hS ⊢
  have hP : va_P (dC, dI) vwCl [(zo14irriiiiiirriirrrrlriiii m0 th aS aI im ac sp en wg op aB aT se9_5 dn9_6 aG aO aN aD bv aY rn kd nu tv), (zaI aS cS 901 fS), (zaI aB cB 6 fB9_3), (zaI aT cT 64 fT9_4)] H := hP
  have hD : va_D A [(zo14irriiiiiirriirrrrlriiii m0 th aS aI im ac sp en wg op aB aT se9_5 dn9_6 aG aO aN aD bv aY rn kd nu tv), (zaI aS cS 901 fS), (zaI aB cB 6 fB9_3), (zaI aT cT 64 fT9_4)] := hD
  have hK : va_K (dC, dI) vwCl [(cS, .int), (cB, .int), (cT, .boolean)] s := hK
  refine lv_aload_n hx hb dX12_reachOf_35 rfl (lv_at hl 2 rfl) ?_
  have hPc := hP.sub (ws' := [(zo14irriiiiiirriirrrrlriiii m0 th aS aI im ac sp en wg op aB aT se9_5 dn9_6 aG aO aN aD bv aY rn kd nu tv), (zaI aS cS 901 fS)]) [0, 1] rfl
  have hKc := hK.sub (tys' := [(cS, .int)]) [0] rfl
  refine vp_callSi (va_runV (As := []) (rest := []) ⟨hx, hb, hml, hown, hts⟩ (c_sight l dC dI m0 aS aI aB aT aG aO aN aD aY th im ac sp en wg op se9_5 dn9_6 rn kd nu tv bv cS fS (zh)) (cwV 0 hts gX12_reachOf_X12_sight rfl rfl rfl hd_yX12_sight ⟨Nat.le_of_ble_eq_true rfl, Nat.le_of_ble_eq_true rfl⟩) ⟨fun a U g mk q => by obtain ⟨q0, qP, qK⟩ := q; exact ⟨q0, qP, va_K.moved (u := U) (U := U.calling g mk a) (Vm.Alike.refl U.vm) qK⟩, va_recv hK hP (ci := 14) (q := (RX12, TX12, 23)) (q0 := 0) rfl rfl, fun U hU hW => ⟨rfl, by rw [hU]; exact hPc, va_K.moved hW.alike hKc⟩⟩ rfl rfl hl.1 rfl (lv_room (Nat.le_of_ble_eq_true rfl)) dX12_reachOf_36 ⟨Nat.le_of_ble_eq_true rfl, Nat.le_of_ble_eq_true rfl⟩).run (fun r_7 hw_8 => ?_)
  refine lv_aload_n hx hb dX12_reachOf_39 rfl (lv_at hl 2 rfl) ?_
  refine va_get (D := (dC, dI)) (ci := 14) (v := .int se9_5) (C := RX12) (T := TX12) (N := 23) hx hb hts kc_reachOf_0 hown hK hP 0 rfl rfl 11 (by decide) (hts (.fieldLink RX12 143 "MistHeapsModel" "seeing" "I") kc_reachOf_2) (fun _ h9 => h9) rfl dX12_reachOf_40 ?_
  refine lv_iadd hx hb dX12_reachOf_43 ?_
  refine lv_aload_n hx hb dX12_reachOf_44 rfl (lv_at hl 2 rfl) ?_
  refine va_get (D := (dC, dI)) (ci := 14) (v := .ref aS) (C := RX12) (T := TX12) (N := 23) hx hb hts kc_reachOf_0 hown hK hP 0 rfl rfl 1 (by decide) (hts (.fieldLink RX12 9 "MistHeapsModel" "s" "[I") kc_reachOf_1) (fun _ h9 => h9) rfl dX12_reachOf_45 ?_
  refine lv_bipush (v := 6) hx hb dX12_reachOf_48 (by decide) ?_
  refine va_iald hx hb hK hP 1 0 rfl rfl (vp_in_nI (n := 6) (N := 901) (by omega) (by omega)) dX12_reachOf_50 ?_
  refine qi_as (y := fS 6) (rfl) ?_
  refine lv_isub hx hb dX12_reachOf_51 ?_
  refine lv_istore (lv' := [(4, .int ((r_7 + se9_5) - (fS 6))), (3, .int (fS (19 + h))), (2, .int (fS (10 + h))), (0, .ref m0), (1, .int (nI h))]) hx hb dX12_reachOf_52 hl (by decide) rfl (fun ls hl => ?_)
  refine lv_iload hx hb dX12_reachOf_54 (lv_at hl 0 rfl) ?_
  refine lv_iload_n hx hb dX12_reachOf_56 rfl (lv_at hl 2 rfl) ?_
  refine lv_iconst (v := 1) hx hb dX12_reachOf_57 (by decide) ?_
  have J58 : ∀ v_9 : Int32, W p l e ({ frames := 1, cells := 0, slots := 0, locals := 31 } : Room) s m args below meth c H locs 0 0 Q (F0 m 87 ls [.int v_9, .int ((r_7 + se9_5) - (fS 6))]) := by
    intro v_9
    refine lv_iadd hx hb dX12_reachOf_87 ?_
    refine lv_istore (lv' := [(4, .int (((r_7 + se9_5) - (fS 6)) + v_9)), (3, .int (fS (19 + h))), (2, .int (fS (10 + h))), (0, .ref m0), (1, .int (nI h))]) hx hb dX12_reachOf_88 hl (by decide) rfl (fun ls hl => ?_)
    refine lv_iload hx hb dX12_reachOf_90 (lv_at hl 0 rfl) ?_
    have J92 : ∀ v_11 : Int32, W p l e ({ frames := 1, cells := 0, slots := 0, locals := 31 } : Room) s m args below meth c H locs 0 0 Q (F0 m 117 ls [.int v_11]) := by
      intro v_11
      refine lv_istore (lv' := [(4, .int v_11), (3, .int (fS (19 + h))), (2, .int (fS (10 + h))), (0, .ref m0), (1, .int (nI h))]) hx hb dX12_reachOf_117 hl (by decide) rfl (fun ls hl => ?_)
      refine lv_iload_n hx hb dX12_reachOf_119 rfl (lv_at hl 2 rfl) ?_
      refine lv_bipush (v := 6) hx hb dX12_reachOf_120 (by decide) ?_
      have J122 : ∀ v_13 : Int32, W p l e ({ frames := 1, cells := 0, slots := 0, locals := 31 } : Room) s m args below meth c H locs 0 0 Q (F0 m 137 ls [.int v_13]) := by
        intro v_13
        rw [hQ]
        have hP9 := hP.sub (ws' := [(zo14irriiiiiirriirrrrlriiii m0 th aS aI im ac sp en wg op aB aT se9_5 dn9_6 aG aO aN aD bv aY rn kd nu tv), (zaI aS cS 901 fS), (zaI aB cB 6 fB9_3), (zaI aT cT 64 fT9_4)]) [0, 1, 2, 3] rfl
        have hD9 := hD.sub (ws' := [(zo14irriiiiiirriirrrrlriiii m0 th aS aI im ac sp en wg op aB aT se9_5 dn9_6 aG aO aN aD bv aY rn kd nu tv), (zaI aS cS 901 fS), (zaI aB cB 6 fB9_3), (zaI aT cT 64 fT9_4)]) [0, 1, 2, 3] (by decide) rfl
        have hK9 := hK.sub (tys' := [(cS, .int), (cB, .int), (cT, .boolean)]) [0, 1, 2] rfl
        exact W.iret (v := v_13) hx hb hr (fun tQ htQ hWQ => ⟨⟨v_13, (fB9_3, fT9_4, se9_5, dn9_6), rfl, trivial, by rw [htQ]; exact hP9, va_K.moved hWQ.alike hK9, hD9⟩, hS.F htQ⟩) hS.2.2 dX12_reachOf_137
      refine lv_icmp_ne (tgt := 135) hx hb dX12_reachOf_122 (by decide) (fun c_15 => ?_) (fun c_15 => ?_)
      · skip
        refine lv_iload hx hb dX12_reachOf_135 (lv_at hl 0 rfl) ?_
        exact J122 v_11
      · skip
        refine lv_iload hx hb dX12_reachOf_125 (lv_at hl 0 rfl) ?_
        refine lv_iconst (v := 1) hx hb dX12_reachOf_127 (by decide) ?_
        refine lv_icmp_le (tgt := 135) hx hb dX12_reachOf_128 (by decide) (fun c_16 => ?_) (fun c_16 => ?_)
        · skip
          refine lv_iload hx hb dX12_reachOf_135 (lv_at hl 0 rfl) ?_
          exact J122 v_11
        · skip
          refine lv_iconst (v := 1) hx hb dX12_reachOf_131 (by decide) ?_
          refine lv_goto (tgt := 137) hx hb dX12_reachOf_132 (by decide) ?_
          exact J122 1
    refine lv_if_lt (tgt := 111) hx hb dX12_reachOf_92 (by decide) (fun c_17 => ?_) (fun c_17 => ?_)
    · skip
      refine lv_iconst (v := 0) hx hb dX12_reachOf_111 (by decide) ?_
      refine lv_goto (tgt := 117) hx hb dX12_reachOf_112 (by decide) ?_
      exact J92 0
    · skip
      refine lv_iload_n hx hb dX12_reachOf_95 rfl (lv_at hl 2 rfl) ?_
      refine lv_iconst (v := 5) hx hb dX12_reachOf_96 (by decide) ?_
      refine lv_icmp_ne (tgt := 115) hx hb dX12_reachOf_97 (by decide) (fun c_18 => ?_) (fun c_18 => ?_)
      · skip
        refine lv_iload hx hb dX12_reachOf_115 (lv_at hl 0 rfl) ?_
        exact J92 (((r_7 + se9_5) - (fS 6)) + v_9)
      · skip
        refine lv_aload_n hx hb dX12_reachOf_100 rfl (lv_at hl 3 rfl) ?_
        refine va_get (D := (dC, dI)) (ci := 14) (v := .ref aS) (C := RX12) (T := TX12) (N := 23) hx hb hts kc_reachOf_0 hown hK hP 0 rfl rfl 1 (by decide) (hts (.fieldLink RX12 9 "MistHeapsModel" "s" "[I") kc_reachOf_1) (fun _ h9 => h9) rfl dX12_reachOf_101 ?_
        refine lv_bipush (v := 7) hx hb dX12_reachOf_104 (by decide) ?_
        refine va_iald hx hb hK hP 1 0 rfl rfl (vp_in_nI (n := 7) (N := 901) (by omega) (by omega)) dX12_reachOf_106 ?_
        refine qi_as (y := fS 7) (rfl) ?_
        refine lv_iload_n hx hb dX12_reachOf_107 rfl (lv_at hl 1 rfl) ?_
        refine lv_icmp_le (tgt := 115) hx hb dX12_reachOf_108 (by decide) (fun c_19 => ?_) (fun c_19 => ?_)
        · skip
          refine lv_iload hx hb dX12_reachOf_115 (lv_at hl 0 rfl) ?_
          exact J92 (((r_7 + se9_5) - (fS 6)) + v_9)
        · skip
          refine lv_iconst (v := 0) hx hb dX12_reachOf_111 (by decide) ?_
          refine lv_goto (tgt := 117) hx hb dX12_reachOf_112 (by decide) ?_
          exact J92 0
  refine lv_icmp_eq (tgt := 66) hx hb dX12_reachOf_58 (by decide) (fun c_20 => ?_) (fun c_20 => ?_)
  · skip
    refine lv_iload_n hx hb dX12_reachOf_66 rfl (lv_at hl 1 rfl) ?_
    refine lv_iconst (v := 3) hx hb dX12_reachOf_67 (by decide) ?_
    refine lv_idiv hx hb dX12_reachOf_68 (by decide) ?_
    refine lv_goto (tgt := 87) hx hb dX12_reachOf_69 (by decide) ?_
    exact J58 ((fS (19 + h)) / 3)
  · skip
    refine lv_iload_n hx hb dX12_reachOf_61 rfl (lv_at hl 2 rfl) ?_
    refine lv_iconst (v := 4) hx hb dX12_reachOf_62 (by decide) ?_
    refine lv_icmp_ne (tgt := 72) hx hb dX12_reachOf_63 (by decide) (fun c_21 => ?_) (fun c_21 => ?_)
    · skip
      refine lv_iload_n hx hb dX12_reachOf_72 rfl (lv_at hl 2 rfl) ?_
      refine lv_iconst (v := 2) hx hb dX12_reachOf_73 (by decide) ?_
      refine lv_icmp_eq (tgt := 82) hx hb dX12_reachOf_74 (by decide) (fun c_22 => ?_) (fun c_22 => ?_)
      · skip
        refine lv_iconst (v := (-1)) hx hb dX12_reachOf_82 (by decide) ?_
        refine lv_goto (tgt := 87) hx hb dX12_reachOf_83 (by decide) ?_
        exact J58 (-1)
      · skip
        refine lv_iload_n hx hb dX12_reachOf_77 rfl (lv_at hl 2 rfl) ?_
        refine lv_iconst (v := 5) hx hb dX12_reachOf_78 (by decide) ?_
        refine lv_icmp_ne (tgt := 86) hx hb dX12_reachOf_79 (by decide) (fun c_23 => ?_) (fun c_23 => ?_)
        · skip
          refine lv_iconst (v := 0) hx hb dX12_reachOf_86 (by decide) ?_
          exact J58 0
        · skip
          refine lv_iconst (v := (-1)) hx hb dX12_reachOf_82 (by decide) ?_
          refine lv_goto (tgt := 87) hx hb dX12_reachOf_83 (by decide) ?_
          exact J58 (-1)
    · skip
      refine lv_iload_n hx hb dX12_reachOf_66 rfl (lv_at hl 1 rfl) ?_
      refine lv_iconst (v := 3) hx hb dX12_reachOf_67 (by decide) ?_
      refine lv_idiv hx hb dX12_reachOf_68 (by decide) ?_
      refine lv_goto (tgt := 87) hx hb dX12_reachOf_69 (by decide) ?_
      exact J58 ((fS (19 + h)) / 3)

theorem kc_isSeen_0 : ∀ w ∈ wsX120, w ∈ wsX12_isSeen := fun w h => List.mem_cons_of_mem _ (gin_wsX120 w h)
theorem kc_isSeen_1 : (.fieldLink RX12 9 "MistHeapsModel" "s" "[I" : Cond) ∈ wsX12_isSeen := kc_of 1141 rfl rfl rfl
set_option maxHeartbeats 4000000 in
set_option maxRecDepth 100000 in
theorem c_isSeen (l : Launch) (dC : Nat → ClassId) (dI : Nat → Nat → Nat) (m0 aS aI aB aT aG aO aN aD aY : Nat) (th im ac sp en wg op se dn rn kd nu tv : Int32) (bv : Int64) (cS cB cT : ClassId) (fS : Nat → Int32) (fB : Nat → Int32) (fT : Nat → Int32) (h : Nat) (x : Int32) (sz : Nat) (hh : h ≤ 8) (zh : hold fS) : Met l yX12_isSeen wsX12_isSeen ({ frames := 2, cells := 0, slots := 0, locals := 55 } : Room) (va_Pc [.ref m0, .int (nI h), .int x] (fun U => U.heap.size = sz ∧ va_P (dC, dI) vwCl [(zo14irriiiiiirriirrrrlriiii m0 th aS aI im ac sp en wg op aB aT se dn aG aO aN aD bv aY rn kd nu tv), (zaI aS cS 901 fS), (zaI aB cB 6 fB), (zaI aT cT 64 fT)] U.heap ∧ va_K (dC, dI) vwCl [(cS, .int), (cB, .int), (cT, .boolean)] U ∧ va_D (fun _ => True) [(zo14irriiiiiirriirrrrlriiii m0 th aS aI im ac sp en wg op aB aT se dn aG aO aN aD bv aY rn kd nu tv), (zaI aS cS 901 fS), (zaI aB cB 6 fB), (zaI aT cT 64 fT)])) (va_Qi (fun (r : Int32) (u : (Nat → Int32) × (Nat → Int32) × (Int32) × (Int32)) => match u with | (fB9, fT9, se9, dn9) => r = 1 ∨ r = 0) (fun (u : (Nat → Int32) × (Nat → Int32) × (Int32) × (Int32)) (t : State) => match u with | (fB9, fT9, se9, dn9) => va_P (dC, dI) vwCl [(zo14irriiiiiirriirrrrlriiii m0 th aS aI im ac sp en wg op aB aT se9 dn9 aG aO aN aD bv aY rn kd nu tv), (zaI aS cS 901 fS), (zaI aB cB 6 fB9), (zaI aT cT 64 fT9)] t.heap ∧ va_K (dC, dI) vwCl [(cS, .int), (cB, .int), (cT, .boolean)] t ∧ va_D (va_A [(zo14irriiiiiirriirrrrlriiii m0 th aS aI im ac sp en wg op aB aT se dn aG aO aN aD bv aY rn kd nu tv), (zaI aS cS 901 fS), (zaI aB cB 6 fB), (zaI aT cT 64 fT)] sz) [(zo14irriiiiiirriirrrrlriiii m0 th aS aI im ac sp en wg op aB aT se9 dn9 aG aO aN aD bv aY rn kd nu tv), (zaI aS cS 901 fS), (zaI aB cB 6 fB9), (zaI aT cT 64 fT9)]) (va_A [(zo14irriiiiiirriirrrrlriiii m0 th aS aI im ac sp en wg op aB aT se dn aG aO aN aD bv aY rn kd nu tv), (zaI aS cS 901 fS), (zaI aB cB 6 fB), (zaI aT cT 64 fT)] sz)) 0 0 (va_A [(zo14irriiiiiirriirrrrlriiii m0 th aS aI im ac sp en wg op aB aT se dn aG aO aN aD bv aY rn kd nu tv), (zaI aS cS 901 fS), (zaI aB cB 6 fB), (zaI aT cT 64 fT)] sz) := by
  refine met_ofQ (cc := cX12_isSeen) (maxL := 3) (ret := (some .boolean)) (by decide) rfl ?_
  intro p e s m args below meth c s₁ Q B hml hv hQ
  obtain ⟨rfl, hsz, hP, hK, hD0⟩ := hv
  have hx := B.exec
  have hb := B.bytes
  have hr := B.returns
  have hts := atoms_spec (ws := wsX12_isSeen) B.pre
  have hown : s.vm.findClass RX12 = some m.cls := findClass_of_methodNamed B.named
  have hlocks := B.notSynchronized
  subst hsz
  have hD := hD0.self (sz := s.heap.size)
  generalize hAe : va_A [(zo14irriiiiiirriirrrrlriiii m0 th aS aI im ac sp en wg op aB aT se dn aG aO aN aD bv aY rn kd nu tv), (zaI aS cS 901 fS), (zaI aB cB 6 fB), (zaI aT cT 64 fT)] s.heap.size = A at hD hQ ⊢
  have hA : ∀ q : Nat, s.heap.size ≤ q → A q := fun q h => by rw [← hAe]; exact Or.inr h
  have hS : va_S A s.heap s.heap [] := va_S.rf
  have hl := lv_entry [.ref m0, .int (nI h), .int x] (n := 3) (Nat.le_of_ble_eq_true rfl)
  rw [lg_entry_eq]
  generalize (lg_sl [.ref m0, .int (nI h), .int x] ++ List.replicate (3 - (lg_sl [.ref m0, .int (nI h), .int x]).length) Slot.unset).toArray = ls at hl ⊢
  generalize hag : ([.ref m0, .int (nI h), .int x] : List Value).toArray = args at hts hQ ⊢
  have hl : lv_has ls 3 [(0, .ref m0), (1, .int (nI h)), (2, .int x)] := hl
  obtain ⟨H, hH⟩ : ∃ H : Heap, H = s.heap := ⟨_, rfl⟩
  rw [← hH] at hP
  rw [← hH]
  have hS : va_S A s.heap H [] := by rw [hH]; exact hS
  obtain ⟨locs, hlo⟩ : ∃ L : List Loc, L = [] := ⟨_, rfl⟩
  rw [← hlo] at hS
  rw [← hlo]
  clear hH hlo
  refine lv_iload_n hx hb dX12_isSeen_0 rfl (lv_at hl 2 rfl) ?_
  refine lv_aload_n hx hb dX12_isSeen_1 rfl (lv_at hl 0 rfl) ?_
  refine va_get (D := (dC, dI)) (ci := 14) (v := .ref aS) (C := RX12) (T := TX12) (N := 23) hx hb hts kc_isSeen_0 hown hK hP 0 rfl rfl 1 (by decide) (hts (.fieldLink RX12 9 "MistHeapsModel" "s" "[I") kc_isSeen_1) (fun _ h9 => h9) rfl dX12_isSeen_2 ?_
  refine lv_bipush (v := 28) hx hb dX12_isSeen_5 (by decide) ?_
  refine lv_iload_n hx hb dX12_isSeen_7 rfl (lv_at hl 1 rfl) ?_
  refine lv_iadd hx hb dX12_isSeen_8 ?_
  refine qi_as (y := nI (28 + h)) (nI_add 28 h) ?_
  refine va_iald hx hb hK hP 1 0 rfl rfl (vp_in_nI (n := 28 + h) (N := 901) (by omega) (by omega)) dX12_isSeen_9 ?_
  refine qi_as (y := fS (28 + h)) (by rw [nI_clamp (by omega)]) ?_
  refine vp_callSi (va_runS (As := [.int x, .int (fS (28 + h))]) (rest := []) ⟨hx, hb, hml, hown, hts⟩ (c_apart l dC dI x (fS (28 + h))) (va_cwS 2 hts gX12_isSeen_X12_apart rfl rfl rfl hd_yX12_apart.2 ⟨Nat.le_of_ble_eq_true rfl, Nat.le_of_ble_eq_true rfl⟩) ⟨fun a U g mk q => ⟨q.1, trivial⟩, fun U hU hW => ⟨rfl, trivial⟩⟩ rfl rfl hl.1 rfl (lv_room (Nat.le_of_ble_eq_true rfl)) dX12_isSeen_10 ⟨Nat.le_of_ble_eq_true rfl, Nat.le_of_ble_eq_true rfl⟩).run (fun r_1 hw_2 => ?_)
  refine lv_aload_n hx hb dX12_isSeen_13 rfl (lv_at hl 0 rfl) ?_
  refine lv_iload_n hx hb dX12_isSeen_14 rfl (lv_at hl 1 rfl) ?_
  have hPc := hP.sub (ws' := [(zo14irriiiiiirriirrrrlriiii m0 th aS aI im ac sp en wg op aB aT se dn aG aO aN aD bv aY rn kd nu tv), (zaI aS cS 901 fS), (zaI aB cB 6 fB), (zaI aT cT 64 fT)]) [0, 1, 2, 3] rfl
  have hDc := hD.sub (ws' := [(zo14irriiiiiirriirrrrlriiii m0 th aS aI im ac sp en wg op aB aT se dn aG aO aN aD bv aY rn kd nu tv), (zaI aS cS 901 fS), (zaI aB cB 6 fB), (zaI aT cT 64 fT)]) [0, 1, 2, 3] (by decide) rfl
  have hKc := hK.sub (tys' := [(cS, .int), (cB, .int), (cT, .boolean)]) [0, 1, 2] rfl
  have hFc := va_free (wc := [(zo14irriiiiiirriirrrrlriiii m0 th aS aI im ac sp en wg op aB aT se dn aG aO aN aD bv aY rn kd nu tv), (zaI aS cS 901 fS), (zaI aB cB 6 fB), (zaI aT cT 64 fT)]) hD hS hA [0, 1, 2, 3] rfl
  refine va_calli (va_runV (As := [.int (nI h)]) (rest := [.int r_1]) ⟨hx, hb, hml, hown, hts⟩ (c_reachOf l dC dI m0 aS aI aB aT aG aO aN aD aY th im ac sp en wg op se dn rn kd nu tv bv cS cB cT fS fB fT h H.size (by omega) (zh)) (cwV 1 hts gX12_isSeen_X12_reachOf rfl rfl rfl hd_yX12_reachOf ⟨Nat.le_of_ble_eq_true rfl, Nat.le_of_ble_eq_true rfl⟩) ⟨fun a U g mk q => by obtain ⟨q0, q1, qP, qK, qD⟩ := q; exact ⟨q0, q1, qP, va_K.moved (u := U) (U := U.calling g mk a) (Vm.Alike.refl U.vm) qK, qD⟩, va_recv hK hP (ci := 14) (q := (RX12, TX12, 23)) (q0 := 0) rfl rfl, fun U hU hW => ⟨rfl, by rw [hU], by rw [hU]; exact hPc, va_K.moved hW.alike hKc, hDc.weaken (fun _ _ _ _ => trivial)⟩⟩ rfl rfl hl.1 rfl (lv_room (Nat.le_of_ble_eq_true rfl)) dX12_isSeen_15 ⟨Nat.le_of_ble_eq_true rfl, Nat.le_of_ble_eq_true rfl⟩) hS (fun q _ h => hFc q h) hFc (fun r_3 u tC H1 locs htC hvm hw_4 hB hz1 hk1 hS => ?_)
  obtain ⟨fB9_5, fT9_6, se9_7, dn9_8⟩ := u
  try dsimp only at hw_4 hB
  obtain ⟨hP1, hK1, hD1⟩ := hB
  rw [htC] at hP1
  have hK1 := va_K.moved hvm.symm hK1
  obtain ⟨hP, hD⟩ := va_join (wr := []) (w1 := [(zo14irriiiiiirriirrrrlriiii m0 th aS aI im ac sp en wg op aB aT se9_7 dn9_8 aG aO aN aD bv aY rn kd nu tv), (zaI aS cS 901 fS), (zaI aB cB 6 fB9_5), (zaI aT cT 64 fT9_6)]) hP hD [0, 1, 2, 3] [] rfl rfl (by decide) (by decide) hk1 hFc hP1 hD1
  have hK := (hK.sub (tys' := []) [] rfl).app hK1
  generalize H1 = H at hP hS ⊢
  have hP : va_P (dC, dI) vwCl [(zo14irriiiiiirriirrrrlriiii m0 th aS aI im ac sp en wg op aB aT se9_7 dn9_8 aG aO aN aD bv aY rn kd nu tv), (zaI aS cS 901 fS), (zaI aB cB 6 fB9_5), (zaI aT cT 64 fT9_6)] H := hP
  have hD : va_D A [(zo14irriiiiiirriirrrrlriiii m0 th aS aI im ac sp en wg op aB aT se9_7 dn9_8 aG aO aN aD bv aY rn kd nu tv), (zaI aS cS 901 fS), (zaI aB cB 6 fB9_5), (zaI aT cT 64 fT9_6)] := hD
  have hK : va_K (dC, dI) vwCl [(cS, .int), (cB, .int), (cT, .boolean)] s := hK
  refine lv_icmp_gt (tgt := 25) hx hb dX12_isSeen_18 (by decide) (fun c_9 => ?_) (fun c_9 => ?_)
  · skip
    refine lv_iconst (v := 0) hx hb dX12_isSeen_25 (by decide) ?_
    rw [hQ]
    have hP9 := hP.sub (ws' := [(zo14irriiiiiirriirrrrlriiii m0 th aS aI im ac sp en wg op aB aT se9_7 dn9_8 aG aO aN aD bv aY rn kd nu tv), (zaI aS cS 901 fS), (zaI aB cB 6 fB9_5), (zaI aT cT 64 fT9_6)]) [0, 1, 2, 3] rfl
    have hD9 := hD.sub (ws' := [(zo14irriiiiiirriirrrrlriiii m0 th aS aI im ac sp en wg op aB aT se9_7 dn9_8 aG aO aN aD bv aY rn kd nu tv), (zaI aS cS 901 fS), (zaI aB cB 6 fB9_5), (zaI aT cT 64 fT9_6)]) [0, 1, 2, 3] (by decide) rfl
    have hK9 := hK.sub (tys' := [(cS, .int), (cB, .int), (cT, .boolean)]) [0, 1, 2] rfl
    exact W.zret (v := 0) hx hb hr rfl (fun tQ htQ hWQ => ⟨⟨0, (fB9_5, fT9_6, se9_7, dn9_8), rfl, by first | exact Or.inl rfl | exact Or.inr rfl, by rw [htQ]; exact hP9, va_K.moved hWQ.alike hK9, hD9⟩, hS.F htQ⟩) hS.2.2 dX12_isSeen_26
  · skip
    refine lv_iconst (v := 1) hx hb dX12_isSeen_21 (by decide) ?_
    refine lv_goto (tgt := 26) hx hb dX12_isSeen_22 (by decide) ?_
    rw [hQ]
    have hP9 := hP.sub (ws' := [(zo14irriiiiiirriirrrrlriiii m0 th aS aI im ac sp en wg op aB aT se9_7 dn9_8 aG aO aN aD bv aY rn kd nu tv), (zaI aS cS 901 fS), (zaI aB cB 6 fB9_5), (zaI aT cT 64 fT9_6)]) [0, 1, 2, 3] rfl
    have hD9 := hD.sub (ws' := [(zo14irriiiiiirriirrrrlriiii m0 th aS aI im ac sp en wg op aB aT se9_7 dn9_8 aG aO aN aD bv aY rn kd nu tv), (zaI aS cS 901 fS), (zaI aB cB 6 fB9_5), (zaI aT cT 64 fT9_6)]) [0, 1, 2, 3] (by decide) rfl
    have hK9 := hK.sub (tys' := [(cS, .int), (cB, .int), (cT, .boolean)]) [0, 1, 2] rfl
    exact W.zret (v := 1) hx hb hr rfl (fun tQ htQ hWQ => ⟨⟨1, (fB9_5, fT9_6, se9_7, dn9_8), rfl, by first | exact Or.inl rfl | exact Or.inr rfl, by rw [htQ]; exact hP9, va_K.moved hWQ.alike hK9, hD9⟩, hS.F htQ⟩) hS.2.2 dX12_isSeen_26

theorem kc_seesOf_0 : ∀ w ∈ wsX120, w ∈ wsX12_seesOf := fun w h => List.mem_cons_of_mem _ (gin_wsX120 w h)
theorem kc_seesOf_1 : (.fieldLink RX12 9 "MistHeapsModel" "s" "[I" : Cond) ∈ wsX12_seesOf := kc_of 1141 rfl rfl rfl
set_option maxHeartbeats 4000000 in
set_option maxRecDepth 100000 in
theorem c_seesOf (l : Launch) (dC : Nat → ClassId) (dI : Nat → Nat → Nat) (m0 aS aI aB aT aG aO aN aD aY : Nat) (th im ac sp en wg op se dn rn kd nu tv : Int32) (bv : Int64) (cS cB cT : ClassId) (fS : Nat → Int32) (fB : Nat → Int32) (fT : Nat → Int32) (n : Nat) (x : Int32) (sz : Nat) (zn : fS 0 = nI n) (hn : n ≤ 8) (zh : hold fS) : Met l yX12_seesOf wsX12_seesOf ({ frames := 3, cells := 0, slots := 0, locals := 77 } : Room) (va_Pc [.ref m0, .int x] (fun U => U.heap.size = sz ∧ va_P (dC, dI) vwCl [(zo14irriiiiiirriirrrrlriiii m0 th aS aI im ac sp en wg op aB aT se dn aG aO aN aD bv aY rn kd nu tv), (zaI aS cS 901 fS), (zaI aB cB 6 fB), (zaI aT cT 64 fT)] U.heap ∧ va_K (dC, dI) vwCl [(cS, .int), (cB, .int), (cT, .boolean)] U ∧ va_D (fun _ => True) [(zo14irriiiiiirriirrrrlriiii m0 th aS aI im ac sp en wg op aB aT se dn aG aO aN aD bv aY rn kd nu tv), (zaI aS cS 901 fS), (zaI aB cB 6 fB), (zaI aT cT 64 fT)])) (va_Qi (fun (r : Int32) (u : (Nat → Int32) × (Nat → Int32) × (Int32) × (Int32)) => match u with | (fB9, fT9, se9, dn9) => True) (fun (u : (Nat → Int32) × (Nat → Int32) × (Int32) × (Int32)) (t : State) => match u with | (fB9, fT9, se9, dn9) => va_P (dC, dI) vwCl [(zo14irriiiiiirriirrrrlriiii m0 th aS aI im ac sp en wg op aB aT se9 dn9 aG aO aN aD bv aY rn kd nu tv), (zaI aS cS 901 fS), (zaI aB cB 6 fB9), (zaI aT cT 64 fT9)] t.heap ∧ va_K (dC, dI) vwCl [(cS, .int), (cB, .int), (cT, .boolean)] t ∧ va_D (va_A [(zo14irriiiiiirriirrrrlriiii m0 th aS aI im ac sp en wg op aB aT se dn aG aO aN aD bv aY rn kd nu tv), (zaI aS cS 901 fS), (zaI aB cB 6 fB), (zaI aT cT 64 fT)] sz) [(zo14irriiiiiirriirrrrlriiii m0 th aS aI im ac sp en wg op aB aT se9 dn9 aG aO aN aD bv aY rn kd nu tv), (zaI aS cS 901 fS), (zaI aB cB 6 fB9), (zaI aT cT 64 fT9)]) (va_A [(zo14irriiiiiirriirrrrlriiii m0 th aS aI im ac sp en wg op aB aT se dn aG aO aN aD bv aY rn kd nu tv), (zaI aS cS 901 fS), (zaI aB cB 6 fB), (zaI aT cT 64 fT)] sz)) 0 0 (va_A [(zo14irriiiiiirriirrrrlriiii m0 th aS aI im ac sp en wg op aB aT se dn aG aO aN aD bv aY rn kd nu tv), (zaI aS cS 901 fS), (zaI aB cB 6 fB), (zaI aT cT 64 fT)] sz) := by
  refine met_ofQ (cc := cX12_seesOf) (maxL := 4) (ret := (some .int)) (by decide) rfl ?_
  intro p e s m args below meth c s₁ Q B hml hv hQ
  obtain ⟨rfl, hsz, hP, hK, hD0⟩ := hv
  have hx := B.exec
  have hb := B.bytes
  have hr := B.returns
  have hts := atoms_spec (ws := wsX12_seesOf) B.pre
  have hown : s.vm.findClass RX12 = some m.cls := findClass_of_methodNamed B.named
  have hlocks := B.notSynchronized
  subst hsz
  have hD := hD0.self (sz := s.heap.size)
  generalize hAe : va_A [(zo14irriiiiiirriirrrrlriiii m0 th aS aI im ac sp en wg op aB aT se dn aG aO aN aD bv aY rn kd nu tv), (zaI aS cS 901 fS), (zaI aB cB 6 fB), (zaI aT cT 64 fT)] s.heap.size = A at hD hQ ⊢
  have hA : ∀ q : Nat, s.heap.size ≤ q → A q := fun q h => by rw [← hAe]; exact Or.inr h
  have hS : va_S A s.heap s.heap [] := va_S.rf
  have hl := lv_entry [.ref m0, .int x] (n := 4) (Nat.le_of_ble_eq_true rfl)
  rw [lg_entry_eq]
  generalize (lg_sl [.ref m0, .int x] ++ List.replicate (4 - (lg_sl [.ref m0, .int x]).length) Slot.unset).toArray = ls at hl ⊢
  generalize hag : ([.ref m0, .int x] : List Value).toArray = args at hts hQ ⊢
  have hl : lv_has ls 4 [(0, .ref m0), (1, .int x)] := hl
  obtain ⟨H, hH⟩ : ∃ H : Heap, H = s.heap := ⟨_, rfl⟩
  rw [← hH] at hP
  rw [← hH]
  have hS : va_S A s.heap H [] := by rw [hH]; exact hS
  obtain ⟨locs, hlo⟩ : ∃ L : List Loc, L = [] := ⟨_, rfl⟩
  rw [← hlo] at hS
  rw [← hlo]
  clear hH hlo
  refine lv_iconst (v := 0) hx hb dX12_seesOf_0 (by decide) ?_
  refine lv_istore_n (lv' := [(2, .int 0), (0, .ref m0), (1, .int x)]) hx hb dX12_seesOf_1 rfl hl (by decide) rfl (fun ls hl => ?_)
  refine lv_iconst (v := 0) hx hb dX12_seesOf_2 (by decide) ?_
  refine lv_istore_n (lv' := [(3, .int 0), (2, .int 0), (0, .ref m0), (1, .int x)]) hx hb dX12_seesOf_3 rfl hl (by decide) rfl (fun ls hl => ?_)
  have L4 : ∀ (nF : Nat) (i : Nat) (se2 : Int32) (dn2 : Int32) (fB2 : Nat → Int32) (fT2 : Nat → Int32) (q : Int32), n - i < nF → (i ≤ n) → ∀ (H : Heap) (locs : List Loc), va_K (dC, dI) vwCl [(cS, .int), (cB, .int), (cT, .boolean)] s → va_P (dC, dI) vwCl [(zo14irriiiiiirriirrrrlriiii m0 th aS aI im ac sp en wg op aB aT se2 dn2 aG aO aN aD bv aY rn kd nu tv), (zaI aS cS 901 fS), (zaI aB cB 6 fB2), (zaI aT cT 64 fT2)] H → va_D A [(zo14irriiiiiirriirrrrlriiii m0 th aS aI im ac sp en wg op aB aT se2 dn2 aG aO aN aD bv aY rn kd nu tv), (zaI aS cS 901 fS), (zaI aB cB 6 fB2), (zaI aT cT 64 fT2)] → va_S A s.heap H locs → ∀ (ls : Array Slot), lv_has ls 4 [(0, .ref m0), (1, .int x), (2, .int q), (3, .int (nI i))] → W p l e ({ frames := 3, cells := 0, slots := 0, locals := 77 } : Room) s m args below meth c H locs 0 0 Q (F0 m 4 ls []) := by
    intro nF
    induction nF with
    | zero => intro i se2 dn2 fB2 fT2 q hm; exact absurd hm (Nat.not_lt_zero _)
    | succ nF ih4 =>
      intro i se2 dn2 fB2 fT2 q hm hii H locs hK hP hD hS ls hl
      refine lv_iload_n hx hb dX12_seesOf_4 rfl (lv_at hl 3 rfl) ?_
      refine lv_aload_n hx hb dX12_seesOf_5 rfl (lv_at hl 0 rfl) ?_
      refine va_get (D := (dC, dI)) (ci := 14) (v := .ref aS) (C := RX12) (T := TX12) (N := 23) hx hb hts kc_seesOf_0 hown hK hP 0 rfl rfl 1 (by decide) (hts (.fieldLink RX12 9 "MistHeapsModel" "s" "[I") kc_seesOf_1) (fun _ h9 => h9) rfl dX12_seesOf_6 ?_
      refine lv_iconst (v := 0) hx hb dX12_seesOf_9 (by decide) ?_
      refine va_iald hx hb hK hP 1 0 rfl rfl (vp_in_nI (n := 0) (N := 901) (by omega) (by omega)) dX12_seesOf_10 ?_
      refine qi_as (y := nI n) ((show fS (0 : Int32).toNatClampNeg = fS 0 from rfl).trans (zn)) ?_
      refine lv_icmp_ge (tgt := 39) hx hb dX12_seesOf_11 (by decide) (fun c_1 => ?_) (fun c_1 => ?_)
      · skip
        have c_1 : n ≤ i := (nI_leI (a := n) (b := i) (by omega) (by omega)).mp c_1
        refine lv_iload_n hx hb dX12_seesOf_39 rfl (lv_at hl 2 rfl) ?_
        rw [hQ]
        have hP9 := hP.sub (ws' := [(zo14irriiiiiirriirrrrlriiii m0 th aS aI im ac sp en wg op aB aT se2 dn2 aG aO aN aD bv aY rn kd nu tv), (zaI aS cS 901 fS), (zaI aB cB 6 fB2), (zaI aT cT 64 fT2)]) [0, 1, 2, 3] rfl
        have hD9 := hD.sub (ws' := [(zo14irriiiiiirriirrrrlriiii m0 th aS aI im ac sp en wg op aB aT se2 dn2 aG aO aN aD bv aY rn kd nu tv), (zaI aS cS 901 fS), (zaI aB cB 6 fB2), (zaI aT cT 64 fT2)]) [0, 1, 2, 3] (by decide) rfl
        have hK9 := hK.sub (tys' := [(cS, .int), (cB, .int), (cT, .boolean)]) [0, 1, 2] rfl
        exact W.iret (v := q) hx hb hr (fun tQ htQ hWQ => ⟨⟨q, (fB2, fT2, se2, dn2), rfl, trivial, by rw [htQ]; exact hP9, va_K.moved hWQ.alike hK9, hD9⟩, hS.F htQ⟩) hS.2.2 dX12_seesOf_40
      · skip
        have c_1 : ¬ n ≤ i := fun q => c_1 ((nI_leI (a := n) (b := i) (by omega) (by omega)).mpr q)
        refine lv_iload_n hx hb dX12_seesOf_14 rfl (lv_at hl 2 rfl) ?_
        refine lv_aload_n hx hb dX12_seesOf_15 rfl (lv_at hl 0 rfl) ?_
        refine lv_iload_n hx hb dX12_seesOf_16 rfl (lv_at hl 3 rfl) ?_
        refine lv_iload_n hx hb dX12_seesOf_17 rfl (lv_at hl 1 rfl) ?_
        have hPc := hP.sub (ws' := [(zo14irriiiiiirriirrrrlriiii m0 th aS aI im ac sp en wg op aB aT se2 dn2 aG aO aN aD bv aY rn kd nu tv), (zaI aS cS 901 fS), (zaI aB cB 6 fB2), (zaI aT cT 64 fT2)]) [0, 1, 2, 3] rfl
        have hDc := hD.sub (ws' := [(zo14irriiiiiirriirrrrlriiii m0 th aS aI im ac sp en wg op aB aT se2 dn2 aG aO aN aD bv aY rn kd nu tv), (zaI aS cS 901 fS), (zaI aB cB 6 fB2), (zaI aT cT 64 fT2)]) [0, 1, 2, 3] (by decide) rfl
        have hKc := hK.sub (tys' := [(cS, .int), (cB, .int), (cT, .boolean)]) [0, 1, 2] rfl
        have hFc := va_free (wc := [(zo14irriiiiiirriirrrrlriiii m0 th aS aI im ac sp en wg op aB aT se2 dn2 aG aO aN aD bv aY rn kd nu tv), (zaI aS cS 901 fS), (zaI aB cB 6 fB2), (zaI aT cT 64 fT2)]) hD hS hA [0, 1, 2, 3] rfl
        refine va_calli (va_runV (As := [.int (nI i), .int x]) (rest := [.int q]) ⟨hx, hb, hml, hown, hts⟩ (c_isSeen l dC dI m0 aS aI aB aT aG aO aN aD aY th im ac sp en wg op se2 dn2 rn kd nu tv bv cS cB cT fS fB2 fT2 i x H.size (by omega) (zh)) (cwV 2 hts gX12_seesOf_X12_isSeen rfl rfl rfl hd_yX12_isSeen ⟨Nat.le_of_ble_eq_true rfl, Nat.le_of_ble_eq_true rfl⟩) ⟨fun a U g mk q => by obtain ⟨q0, q1, qP, qK, qD⟩ := q; exact ⟨q0, q1, qP, va_K.moved (u := U) (U := U.calling g mk a) (Vm.Alike.refl U.vm) qK, qD⟩, va_recv hK hP (ci := 14) (q := (RX12, TX12, 23)) (q0 := 0) rfl rfl, fun U hU hW => ⟨rfl, by rw [hU], by rw [hU]; exact hPc, va_K.moved hW.alike hKc, hDc.weaken (fun _ _ _ _ => trivial)⟩⟩ rfl rfl hl.1 rfl (lv_room (Nat.le_of_ble_eq_true rfl)) dX12_seesOf_18 ⟨Nat.le_of_ble_eq_true rfl, Nat.le_of_ble_eq_true rfl⟩) hS (fun q _ h => hFc q h) hFc (fun r_2 u tC H1 locs htC hvm hw_3 hB hz1 hk1 hS => ?_)
        obtain ⟨fB9_4, fT9_5, se9_6, dn9_7⟩ := u
        try dsimp only at hw_3 hB
        obtain ⟨hP1, hK1, hD1⟩ := hB
        rw [htC] at hP1
        have hK1 := va_K.moved hvm.symm hK1
        obtain ⟨hP, hD⟩ := va_join (wr := []) (w1 := [(zo14irriiiiiirriirrrrlriiii m0 th aS aI im ac sp en wg op aB aT se9_6 dn9_7 aG aO aN aD bv aY rn kd nu tv), (zaI aS cS 901 fS), (zaI aB cB 6 fB9_4), (zaI aT cT 64 fT9_5)]) hP hD [0, 1, 2, 3] [] rfl rfl (by decide) (by decide) hk1 hFc hP1 hD1
        have hK := (hK.sub (tys' := []) [] rfl).app hK1
        generalize H1 = H at hP hS ⊢
        have hP : va_P (dC, dI) vwCl [(zo14irriiiiiirriirrrrlriiii m0 th aS aI im ac sp en wg op aB aT se9_6 dn9_7 aG aO aN aD bv aY rn kd nu tv), (zaI aS cS 901 fS), (zaI aB cB 6 fB9_4), (zaI aT cT 64 fT9_5)] H := hP
        have hD : va_D A [(zo14irriiiiiirriirrrrlriiii m0 th aS aI im ac sp en wg op aB aT se9_6 dn9_7 aG aO aN aD bv aY rn kd nu tv), (zaI aS cS 901 fS), (zaI aB cB 6 fB9_4), (zaI aT cT 64 fT9_5)] := hD
        have hK : va_K (dC, dI) vwCl [(cS, .int), (cB, .int), (cT, .boolean)] s := hK
        rcases hw_3 with rfl | rfl
        · skip
          refine lv_if_eq (tgt := 30) hx hb dX12_seesOf_21 (by decide) (fun c_8 => absurd c_8 (by decide)) (fun _ => ?_)
          refine lv_iconst (v := 1) hx hb dX12_seesOf_24 (by decide) ?_
          refine lv_iload_n hx hb dX12_seesOf_25 rfl (lv_at hl 3 rfl) ?_
          refine lv_ishl hx hb dX12_seesOf_26 ?_
          refine lv_goto (tgt := 31) hx hb dX12_seesOf_27 (by decide) ?_
          refine lv_ior hx hb dX12_seesOf_31 ?_
          refine lv_istore_n (lv' := [(2, .int (q ||| (1 <<< ((nI i) &&& 31)))), (0, .ref m0), (1, .int x), (3, .int (nI i))]) hx hb dX12_seesOf_32 rfl hl (by decide) rfl (fun ls hl => ?_)
          refine lv_iinc (v := nI (i + 1)) (lv' := [(3, .int (nI (i + 1))), (2, .int (q ||| (1 <<< ((nI i) &&& 31)))), (0, .ref m0), (1, .int x)]) hx hb dX12_seesOf_33 hl (k := 3) rfl (nI_add i 1) (by decide) rfl (fun ls hl => ?_)
          refine lv_goto (tgt := 4) hx hb dX12_seesOf_36 (by decide) ?_
          exact ih4 (i + 1) _ _ _ _ _ (by omega) (by omega) _ _ (hK.sub [0, 1, 2] rfl) (hP.sub [0, 1, 2, 3] rfl) (hD.sub [0, 1, 2, 3] (by decide) rfl) hS ls (lv_sub hl [2, 3, 1, 0] rfl)
        · skip
          refine lv_if_eq (tgt := 30) hx hb dX12_seesOf_21 (by decide) (fun _ => ?_) (fun c_9 => absurd c_9 (by decide))
          refine lv_iconst (v := 0) hx hb dX12_seesOf_30 (by decide) ?_
          refine lv_ior hx hb dX12_seesOf_31 ?_
          refine lv_istore_n (lv' := [(2, .int (q ||| 0)), (0, .ref m0), (1, .int x), (3, .int (nI i))]) hx hb dX12_seesOf_32 rfl hl (by decide) rfl (fun ls hl => ?_)
          refine lv_iinc (v := nI (i + 1)) (lv' := [(3, .int (nI (i + 1))), (2, .int (q ||| 0)), (0, .ref m0), (1, .int x)]) hx hb dX12_seesOf_33 hl (k := 3) rfl (nI_add i 1) (by decide) rfl (fun ls hl => ?_)
          refine lv_goto (tgt := 4) hx hb dX12_seesOf_36 (by decide) ?_
          exact ih4 (i + 1) _ _ _ _ _ (by omega) (by omega) _ _ (hK.sub [0, 1, 2] rfl) (hP.sub [0, 1, 2, 3] rfl) (hD.sub [0, 1, 2, 3] (by decide) rfl) hS ls (lv_sub hl [2, 3, 1, 0] rfl)
  exact L4 _ (0) _ _ _ _ _ (Nat.lt_succ_self _) (by omega) _ _ (hK.sub [0, 1, 2] rfl) (hP.sub [0, 1, 2, 3] rfl) (hD.sub [0, 1, 2, 3] (by decide) rfl) hS ls (lv_sub hl [2, 3, 1, 0] rfl)

set_option maxHeartbeats 4000000 in
set_option maxRecDepth 100000 in
theorem c_mSees (l : Launch) (dC : Nat → ClassId) (dI : Nat → Nat → Nat) (m0 aS aI aB aT aG aO aN aD aY : Nat) (th im ac sp en wg op se dn rn kd nu tv : Int32) (bv : Int64) (cS cB cT : ClassId) (fS : Nat → Int32) (fB : Nat → Int32) (fT : Nat → Int32) (n : Nat) (x : Int32) (sz : Nat) (zn : fS 0 = nI n) (hn : n ≤ 8) (zh : hold fS) : Met l yX12_sees wsX12_sees ({ frames := 4, cells := 0, slots := 0, locals := 100 } : Room) (va_Pc [.ref m0, .int x] (fun U => U.heap.size = sz ∧ va_P (dC, dI) vwCl [(zo14irriiiiiirriirrrrlriiii m0 th aS aI im ac sp en wg op aB aT se dn aG aO aN aD bv aY rn kd nu tv), (zaI aS cS 901 fS), (zaI aB cB 6 fB), (zaI aT cT 64 fT)] U.heap ∧ va_K (dC, dI) vwCl [(cS, .int), (cB, .int), (cT, .boolean)] U ∧ va_D (fun _ => True) [(zo14irriiiiiirriirrrrlriiii m0 th aS aI im ac sp en wg op aB aT se dn aG aO aN aD bv aY rn kd nu tv), (zaI aS cS 901 fS), (zaI aB cB 6 fB), (zaI aT cT 64 fT)])) (va_Qi (fun (r : Int32) (u : (Nat → Int32) × (Nat → Int32) × (Int32) × (Int32)) => match u with | (fB9, fT9, se9, dn9) => True) (fun (u : (Nat → Int32) × (Nat → Int32) × (Int32) × (Int32)) (t : State) => match u with | (fB9, fT9, se9, dn9) => va_P (dC, dI) vwCl [(zo14irriiiiiirriirrrrlriiii m0 th aS aI im ac sp en wg op aB aT se9 dn9 aG aO aN aD bv aY rn kd nu tv), (zaI aS cS 901 fS), (zaI aB cB 6 fB9), (zaI aT cT 64 fT9)] t.heap ∧ va_K (dC, dI) vwCl [(cS, .int), (cB, .int), (cT, .boolean)] t ∧ va_D (va_A [(zo14irriiiiiirriirrrrlriiii m0 th aS aI im ac sp en wg op aB aT se dn aG aO aN aD bv aY rn kd nu tv), (zaI aS cS 901 fS), (zaI aB cB 6 fB), (zaI aT cT 64 fT)] sz) [(zo14irriiiiiirriirrrrlriiii m0 th aS aI im ac sp en wg op aB aT se9 dn9 aG aO aN aD bv aY rn kd nu tv), (zaI aS cS 901 fS), (zaI aB cB 6 fB9), (zaI aT cT 64 fT9)]) (va_A [(zo14irriiiiiirriirrrrlriiii m0 th aS aI im ac sp en wg op aB aT se dn aG aO aN aD bv aY rn kd nu tv), (zaI aS cS 901 fS), (zaI aB cB 6 fB), (zaI aT cT 64 fT)] sz)) 0 0 (va_A [(zo14irriiiiiirriirrrrlriiii m0 th aS aI im ac sp en wg op aB aT se dn aG aO aN aD bv aY rn kd nu tv), (zaI aS cS 901 fS), (zaI aB cB 6 fB), (zaI aT cT 64 fT)] sz) := by
  refine met_ofQ (cc := cX12_sees) (maxL := 2) (ret := (some .int)) (by decide) rfl ?_
  intro p e s m args below meth c s₁ Q B hml hv hQ
  obtain ⟨rfl, hsz, hP, hK, hD0⟩ := hv
  have hx := B.exec
  have hb := B.bytes
  have hr := B.returns
  have hts := atoms_spec (ws := wsX12_sees) B.pre
  have hown : s.vm.findClass RX12 = some m.cls := findClass_of_methodNamed B.named
  have hlocks := B.notSynchronized
  subst hsz
  have hD := hD0.self (sz := s.heap.size)
  generalize hAe : va_A [(zo14irriiiiiirriirrrrlriiii m0 th aS aI im ac sp en wg op aB aT se dn aG aO aN aD bv aY rn kd nu tv), (zaI aS cS 901 fS), (zaI aB cB 6 fB), (zaI aT cT 64 fT)] s.heap.size = A at hD hQ ⊢
  have hA : ∀ q : Nat, s.heap.size ≤ q → A q := fun q h => by rw [← hAe]; exact Or.inr h
  have hS : va_S A s.heap s.heap [] := va_S.rf
  have hl := lv_entry [.ref m0, .int x] (n := 2) (Nat.le_of_ble_eq_true rfl)
  rw [lg_entry_eq]
  generalize (lg_sl [.ref m0, .int x] ++ List.replicate (2 - (lg_sl [.ref m0, .int x]).length) Slot.unset).toArray = ls at hl ⊢
  generalize hag : ([.ref m0, .int x] : List Value).toArray = args at hts hQ ⊢
  have hl : lv_has ls 2 [(0, .ref m0), (1, .int x)] := hl
  obtain ⟨H, hH⟩ : ∃ H : Heap, H = s.heap := ⟨_, rfl⟩
  rw [← hH] at hP
  rw [← hH]
  have hS : va_S A s.heap H [] := by rw [hH]; exact hS
  obtain ⟨locs, hlo⟩ : ∃ L : List Loc, L = [] := ⟨_, rfl⟩
  rw [← hlo] at hS
  rw [← hlo]
  clear hH hlo
  refine lv_iload_n hx hb dX12_sees_0 rfl (lv_at hl 1 rfl) ?_
  refine vp_callSi (va_runS (As := [.int x]) (rest := []) ⟨hx, hb, hml, hown, hts⟩ (c_mCell l dC dI x) (va_cwS 1 hts gX12_sees_X12_isCell rfl rfl rfl hd_yX12_isCell.2 ⟨Nat.le_of_ble_eq_true rfl, Nat.le_of_ble_eq_true rfl⟩) ⟨fun a U g mk q => ⟨q.1, trivial⟩, fun U hU hW => ⟨rfl, trivial⟩⟩ rfl rfl hl.1 rfl (lv_room (Nat.le_of_ble_eq_true rfl)) dX12_sees_1 ⟨Nat.le_of_ble_eq_true rfl, Nat.le_of_ble_eq_true rfl⟩).run (fun r_1 hw_2 => ?_)
  rcases hw_2 with ⟨rfl, h_3, h_4⟩ | ⟨rfl, h_5⟩
  · skip
    refine lv_if_eq (tgt := 15) hx hb dX12_sees_4 (by decide) (fun c_6 => absurd c_6 (by decide)) (fun _ => ?_)
    refine lv_aload_n hx hb dX12_sees_7 rfl (lv_at hl 0 rfl) ?_
    refine lv_iload_n hx hb dX12_sees_8 rfl (lv_at hl 1 rfl) ?_
    have hPc := hP.sub (ws' := [(zo14irriiiiiirriirrrrlriiii m0 th aS aI im ac sp en wg op aB aT se dn aG aO aN aD bv aY rn kd nu tv), (zaI aS cS 901 fS), (zaI aB cB 6 fB), (zaI aT cT 64 fT)]) [0, 1, 2, 3] rfl
    have hDc := hD.sub (ws' := [(zo14irriiiiiirriirrrrlriiii m0 th aS aI im ac sp en wg op aB aT se dn aG aO aN aD bv aY rn kd nu tv), (zaI aS cS 901 fS), (zaI aB cB 6 fB), (zaI aT cT 64 fT)]) [0, 1, 2, 3] (by decide) rfl
    have hKc := hK.sub (tys' := [(cS, .int), (cB, .int), (cT, .boolean)]) [0, 1, 2] rfl
    have hFc := va_free (wc := [(zo14irriiiiiirriirrrrlriiii m0 th aS aI im ac sp en wg op aB aT se dn aG aO aN aD bv aY rn kd nu tv), (zaI aS cS 901 fS), (zaI aB cB 6 fB), (zaI aT cT 64 fT)]) hD hS hA [0, 1, 2, 3] rfl
    refine va_calli (va_runV (As := [.int x]) (rest := []) ⟨hx, hb, hml, hown, hts⟩ (c_seesOf l dC dI m0 aS aI aB aT aG aO aN aD aY th im ac sp en wg op se dn rn kd nu tv bv cS cB cT fS fB fT n x H.size (zn) (hn) (zh)) (cwV 1 hts gX12_sees_X12_seesOf rfl rfl rfl hd_yX12_seesOf ⟨Nat.le_of_ble_eq_true rfl, Nat.le_of_ble_eq_true rfl⟩) ⟨fun a U g mk q => by obtain ⟨q0, q1, qP, qK, qD⟩ := q; exact ⟨q0, q1, qP, va_K.moved (u := U) (U := U.calling g mk a) (Vm.Alike.refl U.vm) qK, qD⟩, va_recv hK hP (ci := 14) (q := (RX12, TX12, 23)) (q0 := 0) rfl rfl, fun U hU hW => ⟨rfl, by rw [hU], by rw [hU]; exact hPc, va_K.moved hW.alike hKc, hDc.weaken (fun _ _ _ _ => trivial)⟩⟩ rfl rfl hl.1 rfl (lv_room (Nat.le_of_ble_eq_true rfl)) dX12_sees_9 ⟨Nat.le_of_ble_eq_true rfl, Nat.le_of_ble_eq_true rfl⟩) hS (fun q _ h => hFc q h) hFc (fun r_7 u tC H1 locs htC hvm hw_8 hB hz1 hk1 hS => ?_)
    obtain ⟨fB9_9, fT9_10, se9_11, dn9_12⟩ := u
    try dsimp only at hw_8 hB
    obtain ⟨hP1, hK1, hD1⟩ := hB
    rw [htC] at hP1
    have hK1 := va_K.moved hvm.symm hK1
    obtain ⟨hP, hD⟩ := va_join (wr := []) (w1 := [(zo14irriiiiiirriirrrrlriiii m0 th aS aI im ac sp en wg op aB aT se9_11 dn9_12 aG aO aN aD bv aY rn kd nu tv), (zaI aS cS 901 fS), (zaI aB cB 6 fB9_9), (zaI aT cT 64 fT9_10)]) hP hD [0, 1, 2, 3] [] rfl rfl (by decide) (by decide) hk1 hFc hP1 hD1
    have hK := (hK.sub (tys' := []) [] rfl).app hK1
    generalize H1 = H at hP hS ⊢
    have hP : va_P (dC, dI) vwCl [(zo14irriiiiiirriirrrrlriiii m0 th aS aI im ac sp en wg op aB aT se9_11 dn9_12 aG aO aN aD bv aY rn kd nu tv), (zaI aS cS 901 fS), (zaI aB cB 6 fB9_9), (zaI aT cT 64 fT9_10)] H := hP
    have hD : va_D A [(zo14irriiiiiirriirrrrlriiii m0 th aS aI im ac sp en wg op aB aT se9_11 dn9_12 aG aO aN aD bv aY rn kd nu tv), (zaI aS cS 901 fS), (zaI aB cB 6 fB9_9), (zaI aT cT 64 fT9_10)] := hD
    have hK : va_K (dC, dI) vwCl [(cS, .int), (cB, .int), (cT, .boolean)] s := hK
    refine lv_goto (tgt := 16) hx hb dX12_sees_12 (by decide) ?_
    rw [hQ]
    have hP9 := hP.sub (ws' := [(zo14irriiiiiirriirrrrlriiii m0 th aS aI im ac sp en wg op aB aT se9_11 dn9_12 aG aO aN aD bv aY rn kd nu tv), (zaI aS cS 901 fS), (zaI aB cB 6 fB9_9), (zaI aT cT 64 fT9_10)]) [0, 1, 2, 3] rfl
    have hD9 := hD.sub (ws' := [(zo14irriiiiiirriirrrrlriiii m0 th aS aI im ac sp en wg op aB aT se9_11 dn9_12 aG aO aN aD bv aY rn kd nu tv), (zaI aS cS 901 fS), (zaI aB cB 6 fB9_9), (zaI aT cT 64 fT9_10)]) [0, 1, 2, 3] (by decide) rfl
    have hK9 := hK.sub (tys' := [(cS, .int), (cB, .int), (cT, .boolean)]) [0, 1, 2] rfl
    exact W.iret (v := r_7) hx hb hr (fun tQ htQ hWQ => ⟨⟨r_7, (fB9_9, fT9_10, se9_11, dn9_12), rfl, trivial, by rw [htQ]; exact hP9, va_K.moved hWQ.alike hK9, hD9⟩, hS.F htQ⟩) hS.2.2 dX12_sees_16
  · skip
    refine lv_if_eq (tgt := 15) hx hb dX12_sees_4 (by decide) (fun _ => ?_) (fun c_13 => absurd c_13 (by decide))
    refine lv_iconst (v := (-1)) hx hb dX12_sees_15 (by decide) ?_
    rw [hQ]
    have hP9 := hP.sub (ws' := [(zo14irriiiiiirriirrrrlriiii m0 th aS aI im ac sp en wg op aB aT se dn aG aO aN aD bv aY rn kd nu tv), (zaI aS cS 901 fS), (zaI aB cB 6 fB), (zaI aT cT 64 fT)]) [0, 1, 2, 3] rfl
    have hD9 := hD.sub (ws' := [(zo14irriiiiiirriirrrrlriiii m0 th aS aI im ac sp en wg op aB aT se dn aG aO aN aD bv aY rn kd nu tv), (zaI aS cS 901 fS), (zaI aB cB 6 fB), (zaI aT cT 64 fT)]) [0, 1, 2, 3] (by decide) rfl
    have hK9 := hK.sub (tys' := [(cS, .int), (cB, .int), (cT, .boolean)]) [0, 1, 2] rfl
    exact W.iret (v := (-1)) hx hb hr (fun tQ htQ hWQ => ⟨⟨(-1), (fB, fT, se, dn), rfl, trivial, by rw [htQ]; exact hP9, va_K.moved hWQ.alike hK9, hD9⟩, hS.F htQ⟩) hS.2.2 dX12_sees_16

theorem kc_mWhere_0 : (.constantLong RX12 181 (-9223372036854775808) : Cond) ∈ wsX12_where := kc_of 1351 rfl rfl rfl
theorem kc_mWhere_1 : ∀ w ∈ wsX120, w ∈ wsX12_where := fun w h => List.mem_cons_of_mem _ (gin_wsX120 w h)
theorem kc_mWhere_2 : (.fieldLink RX12 9 "MistHeapsModel" "s" "[I" : Cond) ∈ wsX12_where := kc_of 1141 rfl rfl rfl
set_option maxHeartbeats 4000000 in
set_option maxRecDepth 100000 in
theorem c_mWhere (l : Launch) (dC : Nat → ClassId) (dI : Nat → Nat → Nat) (m0 aS aI aB aT aG aO aN aD aY : Nat) (th im ac sp en wg op se dn rn kd nu tv : Int32) (bv : Int64) (cS cB cT : ClassId) (fS : Nat → Int32) (fB : Nat → Int32) (fT : Nat → Int32) (n : Nat) (x : Int32) (sz : Nat) (zn : fS 0 = nI n) (hn : n ≤ 8) (zh : hold fS) : Met l yX12_where wsX12_where ({ frames := 4, cells := 0, slots := 0, locals := 100 } : Room) (va_Pc [.ref m0, .int x] (fun U => U.heap.size = sz ∧ va_P (dC, dI) vwCl [(zo14irriiiiiirriirrrrlriiii m0 th aS aI im ac sp en wg op aB aT se dn aG aO aN aD bv aY rn kd nu tv), (zaI aS cS 901 fS), (zaI aB cB 6 fB), (zaI aT cT 64 fT)] U.heap ∧ va_K (dC, dI) vwCl [(cS, .int), (cB, .int), (cT, .boolean)] U ∧ va_D (fun _ => True) [(zo14irriiiiiirriirrrrlriiii m0 th aS aI im ac sp en wg op aB aT se dn aG aO aN aD bv aY rn kd nu tv), (zaI aS cS 901 fS), (zaI aB cB 6 fB), (zaI aT cT 64 fT)])) (va_Ql (fun (r : Int64) (u : (Nat → Int32) × (Nat → Int32) × (Int32) × (Int32)) => match u with | (fB9, fT9, se9, dn9) => True) (fun (u : (Nat → Int32) × (Nat → Int32) × (Int32) × (Int32)) (t : State) => match u with | (fB9, fT9, se9, dn9) => va_P (dC, dI) vwCl [(zo14irriiiiiirriirrrrlriiii m0 th aS aI im ac sp en wg op aB aT se9 dn9 aG aO aN aD bv aY rn kd nu tv), (zaI aS cS 901 fS), (zaI aB cB 6 fB9), (zaI aT cT 64 fT9)] t.heap ∧ va_K (dC, dI) vwCl [(cS, .int), (cB, .int), (cT, .boolean)] t ∧ va_D (va_A [(zo14irriiiiiirriirrrrlriiii m0 th aS aI im ac sp en wg op aB aT se dn aG aO aN aD bv aY rn kd nu tv), (zaI aS cS 901 fS), (zaI aB cB 6 fB), (zaI aT cT 64 fT)] sz) [(zo14irriiiiiirriirrrrlriiii m0 th aS aI im ac sp en wg op aB aT se9 dn9 aG aO aN aD bv aY rn kd nu tv), (zaI aS cS 901 fS), (zaI aB cB 6 fB9), (zaI aT cT 64 fT9)]) (va_A [(zo14irriiiiiirriirrrrlriiii m0 th aS aI im ac sp en wg op aB aT se dn aG aO aN aD bv aY rn kd nu tv), (zaI aS cS 901 fS), (zaI aB cB 6 fB), (zaI aT cT 64 fT)] sz)) 0 0 (va_A [(zo14irriiiiiirriirrrrlriiii m0 th aS aI im ac sp en wg op aB aT se dn aG aO aN aD bv aY rn kd nu tv), (zaI aS cS 901 fS), (zaI aB cB 6 fB), (zaI aT cT 64 fT)] sz) := by
  refine met_ofQ (cc := cX12_where) (maxL := 5) (ret := (some .long)) (by decide) rfl ?_
  intro p e s m args below meth c s₁ Q B hml hv hQ
  obtain ⟨rfl, hsz, hP, hK, hD0⟩ := hv
  have hx := B.exec
  have hb := B.bytes
  have hr := B.returns
  have hts := atoms_spec (ws := wsX12_where) B.pre
  have hown : s.vm.findClass RX12 = some m.cls := findClass_of_methodNamed B.named
  have hlocks := B.notSynchronized
  subst hsz
  have hD := hD0.self (sz := s.heap.size)
  generalize hAe : va_A [(zo14irriiiiiirriirrrrlriiii m0 th aS aI im ac sp en wg op aB aT se dn aG aO aN aD bv aY rn kd nu tv), (zaI aS cS 901 fS), (zaI aB cB 6 fB), (zaI aT cT 64 fT)] s.heap.size = A at hD hQ ⊢
  have hA : ∀ q : Nat, s.heap.size ≤ q → A q := fun q h => by rw [← hAe]; exact Or.inr h
  have hS : va_S A s.heap s.heap [] := va_S.rf
  have hl := lv_entry [.ref m0, .int x] (n := 5) (Nat.le_of_ble_eq_true rfl)
  rw [lg_entry_eq]
  generalize (lg_sl [.ref m0, .int x] ++ List.replicate (5 - (lg_sl [.ref m0, .int x]).length) Slot.unset).toArray = ls at hl ⊢
  generalize hag : ([.ref m0, .int x] : List Value).toArray = args at hts hQ ⊢
  have hl : lv_has ls 5 [(0, .ref m0), (1, .int x)] := hl
  obtain ⟨H, hH⟩ : ∃ H : Heap, H = s.heap := ⟨_, rfl⟩
  rw [← hH] at hP
  rw [← hH]
  have hS : va_S A s.heap H [] := by rw [hH]; exact hS
  obtain ⟨locs, hlo⟩ : ∃ L : List Loc, L = [] := ⟨_, rfl⟩
  rw [← hlo] at hS
  rw [← hlo]
  clear hH hlo
  refine lv_iload_n hx hb dX12_where_0 rfl (lv_at hl 1 rfl) ?_
  refine lv_if_lt (tgt := 15) hx hb dX12_where_1 (by decide) (fun c_1 => ?_) (fun c_1 => ?_)
  · skip
    refine lv_ldc2 (v := (-9223372036854775808)) hx hb hown (hts (.constantLong RX12 181 (-9223372036854775808)) kc_mWhere_0) dX12_where_15 ?_
    rw [hQ]
    have hP9 := hP.sub (ws' := [(zo14irriiiiiirriirrrrlriiii m0 th aS aI im ac sp en wg op aB aT se dn aG aO aN aD bv aY rn kd nu tv), (zaI aS cS 901 fS), (zaI aB cB 6 fB), (zaI aT cT 64 fT)]) [0, 1, 2, 3] rfl
    have hD9 := hD.sub (ws' := [(zo14irriiiiiirriirrrrlriiii m0 th aS aI im ac sp en wg op aB aT se dn aG aO aN aD bv aY rn kd nu tv), (zaI aS cS 901 fS), (zaI aB cB 6 fB), (zaI aT cT 64 fT)]) [0, 1, 2, 3] (by decide) rfl
    have hK9 := hK.sub (tys' := [(cS, .int), (cB, .int), (cT, .boolean)]) [0, 1, 2] rfl
    exact W.lret (v := (-9223372036854775808)) hx hb hr (fun tQ htQ hWQ => ⟨⟨(-9223372036854775808), (fB, fT, se, dn), rfl, trivial, by rw [htQ]; exact hP9, va_K.moved hWQ.alike hK9, hD9⟩, hS.F htQ⟩) hS.2.2 dX12_where_18
  · skip
    refine lv_iload_n hx hb dX12_where_4 rfl (lv_at hl 1 rfl) ?_
    refine lv_aload_n hx hb dX12_where_5 rfl (lv_at hl 0 rfl) ?_
    refine va_get (D := (dC, dI)) (ci := 14) (v := .ref aS) (C := RX12) (T := TX12) (N := 23) hx hb hts kc_mWhere_1 hown hK hP 0 rfl rfl 1 (by decide) (hts (.fieldLink RX12 9 "MistHeapsModel" "s" "[I") kc_mWhere_2) (fun _ h9 => h9) rfl dX12_where_6 ?_
    refine lv_iconst (v := 0) hx hb dX12_where_9 (by decide) ?_
    refine va_iald hx hb hK hP 1 0 rfl rfl (vp_in_nI (n := 0) (N := 901) (by omega) (by omega)) dX12_where_10 ?_
    refine qi_as (y := nI n) ((show fS (0 : Int32).toNatClampNeg = fS 0 from rfl).trans (zn)) ?_
    refine lv_ishr hx hb dX12_where_11 ?_
    refine lv_if_eq (tgt := 19) hx hb dX12_where_12 (by decide) (fun c_2 => ?_) (fun c_2 => ?_)
    · skip
      refine lv_lconst (v := 0) hx hb dX12_where_19 (by decide) ?_
      refine lv_lstore_n (lv' := [(2, .long 0), (0, .ref m0), (1, .int x)]) hx hb dX12_where_20 rfl hl (by decide) rfl (fun ls hl => ?_)
      refine lv_iconst (v := 0) hx hb dX12_where_21 (by decide) ?_
      refine lv_istore (lv' := [(4, .int 0), (2, .long 0), (0, .ref m0), (1, .int x)]) hx hb dX12_where_22 hl (by decide) rfl (fun ls hl => ?_)
      have L24 : ∀ (nF : Nat) (i : Nat) (se2 : Int32) (dn2 : Int32) (fB2 : Nat → Int32) (fT2 : Nat → Int32) (q : Int64), 36 - i < nF → (i ≤ 36) → ∀ (H : Heap) (locs : List Loc), va_K (dC, dI) vwCl [(cS, .int), (cB, .int), (cT, .boolean)] s → va_P (dC, dI) vwCl [(zo14irriiiiiirriirrrrlriiii m0 th aS aI im ac sp en wg op aB aT se2 dn2 aG aO aN aD bv aY rn kd nu tv), (zaI aS cS 901 fS), (zaI aB cB 6 fB2), (zaI aT cT 64 fT2)] H → va_D A [(zo14irriiiiiirriirrrrlriiii m0 th aS aI im ac sp en wg op aB aT se2 dn2 aG aO aN aD bv aY rn kd nu tv), (zaI aS cS 901 fS), (zaI aB cB 6 fB2), (zaI aT cT 64 fT2)] → va_S A s.heap H locs → ∀ (ls : Array Slot), lv_has ls 5 [(0, .ref m0), (1, .int x), (2, .long q), (4, .int (nI i))] → W p l e ({ frames := 4, cells := 0, slots := 0, locals := 100 } : Room) s m args below meth c H locs 0 0 Q (F0 m 24 ls []) := by
        intro nF
        induction nF with
        | zero => intro i se2 dn2 fB2 fT2 q hm; exact absurd hm (Nat.not_lt_zero _)
        | succ nF ih24 =>
          intro i se2 dn2 fB2 fT2 q hm hii H locs hK hP hD hS ls hl
          refine lv_iload hx hb dX12_where_24 (lv_at hl 3 rfl) ?_
          refine lv_bipush (v := 36) hx hb dX12_where_26 (by decide) ?_
          refine lv_icmp_ge (tgt := 58) hx hb dX12_where_28 (by decide) (fun c_3 => ?_) (fun c_3 => ?_)
          · skip
            have c_3 : 36 ≤ i := (nI_leI (a := 36) (b := i) (by omega) (by omega)).mp c_3
            refine lv_lload_n hx hb dX12_where_58 rfl (lv_at hl 2 rfl) ?_
            rw [hQ]
            have hP9 := hP.sub (ws' := [(zo14irriiiiiirriirrrrlriiii m0 th aS aI im ac sp en wg op aB aT se2 dn2 aG aO aN aD bv aY rn kd nu tv), (zaI aS cS 901 fS), (zaI aB cB 6 fB2), (zaI aT cT 64 fT2)]) [0, 1, 2, 3] rfl
            have hD9 := hD.sub (ws' := [(zo14irriiiiiirriirrrrlriiii m0 th aS aI im ac sp en wg op aB aT se2 dn2 aG aO aN aD bv aY rn kd nu tv), (zaI aS cS 901 fS), (zaI aB cB 6 fB2), (zaI aT cT 64 fT2)]) [0, 1, 2, 3] (by decide) rfl
            have hK9 := hK.sub (tys' := [(cS, .int), (cB, .int), (cT, .boolean)]) [0, 1, 2] rfl
            exact W.lret (v := q) hx hb hr (fun tQ htQ hWQ => ⟨⟨q, (fB2, fT2, se2, dn2), rfl, trivial, by rw [htQ]; exact hP9, va_K.moved hWQ.alike hK9, hD9⟩, hS.F htQ⟩) hS.2.2 dX12_where_59
          · skip
            have c_3 : ¬ 36 ≤ i := fun q => c_3 ((nI_leI (a := 36) (b := i) (by omega) (by omega)).mpr q)
            refine lv_lload_n hx hb dX12_where_31 rfl (lv_at hl 2 rfl) ?_
            refine lv_aload_n hx hb dX12_where_32 rfl (lv_at hl 0 rfl) ?_
            refine lv_iload hx hb dX12_where_33 (lv_at hl 3 rfl) ?_
            have hPc := hP.sub (ws' := [(zo14irriiiiiirriirrrrlriiii m0 th aS aI im ac sp en wg op aB aT se2 dn2 aG aO aN aD bv aY rn kd nu tv), (zaI aS cS 901 fS), (zaI aB cB 6 fB2), (zaI aT cT 64 fT2)]) [0, 1, 2, 3] rfl
            have hDc := hD.sub (ws' := [(zo14irriiiiiirriirrrrlriiii m0 th aS aI im ac sp en wg op aB aT se2 dn2 aG aO aN aD bv aY rn kd nu tv), (zaI aS cS 901 fS), (zaI aB cB 6 fB2), (zaI aT cT 64 fT2)]) [0, 1, 2, 3] (by decide) rfl
            have hKc := hK.sub (tys' := [(cS, .int), (cB, .int), (cT, .boolean)]) [0, 1, 2] rfl
            have hFc := va_free (wc := [(zo14irriiiiiirriirrrrlriiii m0 th aS aI im ac sp en wg op aB aT se2 dn2 aG aO aN aD bv aY rn kd nu tv), (zaI aS cS 901 fS), (zaI aB cB 6 fB2), (zaI aT cT 64 fT2)]) hD hS hA [0, 1, 2, 3] rfl
            refine va_calli (va_runV (As := [.int (nI i)]) (rest := [.long q]) ⟨hx, hb, hml, hown, hts⟩ (c_seesOf l dC dI m0 aS aI aB aT aG aO aN aD aY th im ac sp en wg op se2 dn2 rn kd nu tv bv cS cB cT fS fB2 fT2 n (nI i) H.size (zn) (hn) (zh)) (cwV 1 hts gX12_where_X12_seesOf rfl rfl rfl hd_yX12_seesOf ⟨Nat.le_of_ble_eq_true rfl, Nat.le_of_ble_eq_true rfl⟩) ⟨fun a U g mk q => by obtain ⟨q0, q1, qP, qK, qD⟩ := q; exact ⟨q0, q1, qP, va_K.moved (u := U) (U := U.calling g mk a) (Vm.Alike.refl U.vm) qK, qD⟩, va_recv hK hP (ci := 14) (q := (RX12, TX12, 23)) (q0 := 0) rfl rfl, fun U hU hW => ⟨rfl, by rw [hU], by rw [hU]; exact hPc, va_K.moved hW.alike hKc, hDc.weaken (fun _ _ _ _ => trivial)⟩⟩ rfl rfl hl.1 rfl (lv_room (Nat.le_of_ble_eq_true rfl)) dX12_where_35 ⟨Nat.le_of_ble_eq_true rfl, Nat.le_of_ble_eq_true rfl⟩) hS (fun q _ h => hFc q h) hFc (fun r_4 u tC H1 locs htC hvm hw_5 hB hz1 hk1 hS => ?_)
            obtain ⟨fB9_6, fT9_7, se9_8, dn9_9⟩ := u
            try dsimp only at hw_5 hB
            obtain ⟨hP1, hK1, hD1⟩ := hB
            rw [htC] at hP1
            have hK1 := va_K.moved hvm.symm hK1
            obtain ⟨hP, hD⟩ := va_join (wr := []) (w1 := [(zo14irriiiiiirriirrrrlriiii m0 th aS aI im ac sp en wg op aB aT se9_8 dn9_9 aG aO aN aD bv aY rn kd nu tv), (zaI aS cS 901 fS), (zaI aB cB 6 fB9_6), (zaI aT cT 64 fT9_7)]) hP hD [0, 1, 2, 3] [] rfl rfl (by decide) (by decide) hk1 hFc hP1 hD1
            have hK := (hK.sub (tys' := []) [] rfl).app hK1
            generalize H1 = H at hP hS ⊢
            have hP : va_P (dC, dI) vwCl [(zo14irriiiiiirriirrrrlriiii m0 th aS aI im ac sp en wg op aB aT se9_8 dn9_9 aG aO aN aD bv aY rn kd nu tv), (zaI aS cS 901 fS), (zaI aB cB 6 fB9_6), (zaI aT cT 64 fT9_7)] H := hP
            have hD : va_D A [(zo14irriiiiiirriirrrrlriiii m0 th aS aI im ac sp en wg op aB aT se9_8 dn9_9 aG aO aN aD bv aY rn kd nu tv), (zaI aS cS 901 fS), (zaI aB cB 6 fB9_6), (zaI aT cT 64 fT9_7)] := hD
            have hK : va_K (dC, dI) vwCl [(cS, .int), (cB, .int), (cT, .boolean)] s := hK
            refine lv_iload_n hx hb dX12_where_38 rfl (lv_at hl 1 rfl) ?_
            refine lv_icmp_ne (tgt := 49) hx hb dX12_where_39 (by decide) (fun c_10 => ?_) (fun c_10 => ?_)
            · skip
              refine lv_lconst (v := 0) hx hb dX12_where_49 (by decide) ?_
              refine lv_lor hx hb dX12_where_50 ?_
              refine lv_lstore_n (lv' := [(2, .long (q ||| 0)), (0, .ref m0), (1, .int x), (4, .int (nI i))]) hx hb dX12_where_51 rfl hl (by decide) rfl (fun ls hl => ?_)
              refine lv_iinc (v := nI (i + 1)) (lv' := [(4, .int (nI (i + 1))), (2, .long (q ||| 0)), (0, .ref m0), (1, .int x)]) hx hb dX12_where_52 hl (k := 3) rfl (nI_add i 1) (by decide) rfl (fun ls hl => ?_)
              refine lv_goto (tgt := 24) hx hb dX12_where_55 (by decide) ?_
              exact ih24 (i + 1) _ _ _ _ _ (by omega) (by omega) _ _ (hK.sub [0, 1, 2] rfl) (hP.sub [0, 1, 2, 3] rfl) (hD.sub [0, 1, 2, 3] (by decide) rfl) hS ls (lv_sub hl [2, 3, 1, 0] rfl)
            · skip
              refine lv_lconst (v := 1) hx hb dX12_where_42 (by decide) ?_
              refine lv_iload hx hb dX12_where_43 (lv_at hl 3 rfl) ?_
              refine lv_lshl (v := (1 : Int64) <<< ((nI i).toInt64 &&& 63)) hx hb dX12_where_45 (rfl) ?_
              refine lv_goto (tgt := 50) hx hb dX12_where_46 (by decide) ?_
              refine lv_lor hx hb dX12_where_50 ?_
              refine lv_lstore_n (lv' := [(2, .long (q ||| ((1 : Int64) <<< ((nI i).toInt64 &&& 63)))), (0, .ref m0), (1, .int x), (4, .int (nI i))]) hx hb dX12_where_51 rfl hl (by decide) rfl (fun ls hl => ?_)
              refine lv_iinc (v := nI (i + 1)) (lv' := [(4, .int (nI (i + 1))), (2, .long (q ||| ((1 : Int64) <<< ((nI i).toInt64 &&& 63)))), (0, .ref m0), (1, .int x)]) hx hb dX12_where_52 hl (k := 3) rfl (nI_add i 1) (by decide) rfl (fun ls hl => ?_)
              refine lv_goto (tgt := 24) hx hb dX12_where_55 (by decide) ?_
              exact ih24 (i + 1) _ _ _ _ _ (by omega) (by omega) _ _ (hK.sub [0, 1, 2] rfl) (hP.sub [0, 1, 2, 3] rfl) (hD.sub [0, 1, 2, 3] (by decide) rfl) hS ls (lv_sub hl [2, 3, 1, 0] rfl)
      exact L24 _ (0) _ _ _ _ _ (Nat.lt_succ_self _) (by omega) _ _ (hK.sub [0, 1, 2] rfl) (hP.sub [0, 1, 2, 3] rfl) (hD.sub [0, 1, 2, 3] (by decide) rfl) hS ls (lv_sub hl [2, 3, 1, 0] rfl)
    · skip
      refine lv_ldc2 (v := (-9223372036854775808)) hx hb hown (hts (.constantLong RX12 181 (-9223372036854775808)) kc_mWhere_0) dX12_where_15 ?_
      rw [hQ]
      have hP9 := hP.sub (ws' := [(zo14irriiiiiirriirrrrlriiii m0 th aS aI im ac sp en wg op aB aT se dn aG aO aN aD bv aY rn kd nu tv), (zaI aS cS 901 fS), (zaI aB cB 6 fB), (zaI aT cT 64 fT)]) [0, 1, 2, 3] rfl
      have hD9 := hD.sub (ws' := [(zo14irriiiiiirriirrrrlriiii m0 th aS aI im ac sp en wg op aB aT se dn aG aO aN aD bv aY rn kd nu tv), (zaI aS cS 901 fS), (zaI aB cB 6 fB), (zaI aT cT 64 fT)]) [0, 1, 2, 3] (by decide) rfl
      have hK9 := hK.sub (tys' := [(cS, .int), (cB, .int), (cT, .boolean)]) [0, 1, 2] rfl
      exact W.lret (v := (-9223372036854775808)) hx hb hr (fun tQ htQ hWQ => ⟨⟨(-9223372036854775808), (fB, fT, se, dn), rfl, trivial, by rw [htQ]; exact hP9, va_K.moved hWQ.alike hK9, hD9⟩, hS.F htQ⟩) hS.2.2 dX12_where_18
end mg05
section mg05
theorem ggX12_doesGo_X12_isSeen : GoodIn wsX12_doesGo wsX12_isSeen := gga_of 1340 rfl rfl rfl
theorem gX12_doesGo_X12_isSeen : GoodIn wsX12_doesGo (wsV RX12 174 RX12 yX12_isSeen wsX12_isSeen) := goodIn_app (ggh_of [1337, 1339, 41, 72] rfl rfl rfl) ggX12_doesGo_X12_isSeen
theorem ggX12_doesGo_X12_rowsOf : GoodIn wsX12_doesGo wsX12_rowsOf := gga_of 1370 rfl rfl rfl
theorem gX12_doesGo_X12_rowsOf : GoodIn wsX12_doesGo (va_wsS RX12 53 yX12_rowsOf wsX12_rowsOf) := goodIn_app (ggh_of [1368, 1369, 72] rfl rfl rfl) ggX12_doesGo_X12_rowsOf
theorem ggX12_doesGo_X12_isThatSide : GoodIn wsX12_doesGo wsX12_isThatSide := gga_of 1373 rfl rfl rfl
theorem gX12_doesGo_X12_isThatSide : GoodIn wsX12_doesGo (va_wsS RX12 183 yX12_isThatSide wsX12_isThatSide) := goodIn_app (ggh_of [1371, 1372, 72] rfl rfl rfl) ggX12_doesGo_X12_isThatSide
theorem ggX12_doesGo_X12_columnsOf : GoodIn wsX12_doesGo wsX12_columnsOf := gga_of 1376 rfl rfl rfl
theorem gX12_doesGo_X12_columnsOf : GoodIn wsX12_doesGo (va_wsS RX12 56 yX12_columnsOf wsX12_columnsOf) := goodIn_app (ggh_of [1374, 1375, 72] rfl rfl rfl) ggX12_doesGo_X12_columnsOf
theorem ggX12_looksForGoings_X12_doesGo : GoodIn wsX12_looksForGoings wsX12_doesGo := gga_of 1367 rfl rfl rfl
theorem gX12_looksForGoings_X12_doesGo : GoodIn wsX12_looksForGoings (wsV RX12 186 RX12 yX12_doesGo wsX12_doesGo) := goodIn_app (ggh_of [1364, 1366, 44, 72] rfl rfl rfl) ggX12_looksForGoings_X12_doesGo
theorem ggX12_stepsBut_X12_spread : GoodIn wsX12_stepsBut wsX12_spread := gga_of 1384 rfl rfl rfl
theorem gX12_stepsBut_X12_spread : GoodIn wsX12_stepsBut (wsV RX12 189 RX12 yX12_spread wsX12_spread) := goodIn_app (ggh_of [1381, 1383, 46, 72] rfl rfl rfl) ggX12_stepsBut_X12_spread
theorem ggX12_stepsOf_X12_looksForGoings : GoodIn wsX12_stepsOf wsX12_looksForGoings := gga_of 1363 rfl rfl rfl
theorem gX12_stepsOf_X12_looksForGoings : GoodIn wsX12_stepsOf (wsV RX12 192 RX12 yX12_looksForGoings wsX12_looksForGoings) := goodIn_app (ggh_of [1360, 1362, 43, 72] rfl rfl rfl) ggX12_stepsOf_X12_looksForGoings
theorem ggX12_stepsOf_X12_stepsBut : GoodIn wsX12_stepsOf wsX12_stepsBut := gga_of 1380 rfl rfl rfl
theorem gX12_stepsOf_X12_stepsBut : GoodIn wsX12_stepsOf (wsV RX12 195 RX12 yX12_stepsBut wsX12_stepsBut) := goodIn_app (ggh_of [1377, 1379, 45, 72] rfl rfl rfl) ggX12_stepsOf_X12_stepsBut
theorem ggX12_steps_X12_isHeap : GoodIn wsX12_steps wsX12_isHeap := gga_of 1320 rfl rfl rfl
theorem gX12_steps_X12_isHeap : GoodIn wsX12_steps (wsV RX12 164 RX12 yX12_isHeap wsX12_isHeap) := goodIn_app (ggh_of [1317, 1319, 37, 72] rfl rfl rfl) ggX12_steps_X12_isHeap
theorem ggX12_steps_X12_stepsOf : GoodIn wsX12_steps wsX12_stepsOf := gga_of 1359 rfl rfl rfl
theorem gX12_steps_X12_stepsOf : GoodIn wsX12_steps (wsV RX12 198 RX12 yX12_stepsOf wsX12_stepsOf) := goodIn_app (ggh_of [1356, 1358, 42, 72] rfl rfl rfl) ggX12_steps_X12_stepsOf
theorem ggX12_via_X12_isHeap : GoodIn wsX12_via wsX12_isHeap := gga_of 1320 rfl rfl rfl
theorem gX12_via_X12_isHeap : GoodIn wsX12_via (wsV RX12 164 RX12 yX12_isHeap wsX12_isHeap) := goodIn_app (ggh_of [1317, 1319, 37, 72] rfl rfl rfl) ggX12_via_X12_isHeap
theorem ggX12_via_X12_stepsOf : GoodIn wsX12_via wsX12_stepsOf := gga_of 1359 rfl rfl rfl
theorem gX12_via_X12_stepsOf : GoodIn wsX12_via (wsV RX12 198 RX12 yX12_stepsOf wsX12_stepsOf) := goodIn_app (ggh_of [1356, 1358, 42, 72] rfl rfl rfl) ggX12_via_X12_stepsOf
theorem ggX12_via_X12_stepsBut : GoodIn wsX12_via wsX12_stepsBut := gga_of 1380 rfl rfl rfl
theorem gX12_via_X12_stepsBut : GoodIn wsX12_via (wsV RX12 195 RX12 yX12_stepsBut wsX12_stepsBut) := goodIn_app (ggh_of [1377, 1379, 45, 72] rfl rfl rfl) ggX12_via_X12_stepsBut
theorem ggX12_cuts_X12_isHeap : GoodIn wsX12_cuts wsX12_isHeap := gga_of 1320 rfl rfl rfl
theorem gX12_cuts_X12_isHeap : GoodIn wsX12_cuts (wsV RX12 164 RX12 yX12_isHeap wsX12_isHeap) := goodIn_app (ggh_of [1317, 1319, 37, 72] rfl rfl rfl) ggX12_cuts_X12_isHeap
theorem ggX12_cuts_X12_stepsOf : GoodIn wsX12_cuts wsX12_stepsOf := gga_of 1359 rfl rfl rfl
theorem gX12_cuts_X12_stepsOf : GoodIn wsX12_cuts (wsV RX12 198 RX12 yX12_stepsOf wsX12_stepsOf) := goodIn_app (ggh_of [1356, 1358, 42, 72] rfl rfl rfl) ggX12_cuts_X12_stepsOf
theorem ggX12_cuts_X12_stepsBut : GoodIn wsX12_cuts wsX12_stepsBut := gga_of 1380 rfl rfl rfl
theorem gX12_cuts_X12_stepsBut : GoodIn wsX12_cuts (wsV RX12 195 RX12 yX12_stepsBut wsX12_stepsBut) := goodIn_app (ggh_of [1377, 1379, 45, 72] rfl rfl rfl) ggX12_cuts_X12_stepsBut
noncomputable def dk07ref3_cX12_doesGo_0 : List (Nat × Instr × Nat) := [(0, .aload_n 0, 1), (1, .getfield 9, 3), (4, .bipush 10, 2), (6, .iload_n 1, 1), (7, .iadd, 1), (8, .iaload, 1), (9, .istore_n 3, 1), (10, .iload_n 1, 1), (11, .iload_n 2, 1), (12, .if_icmp .eq 31, 3), (43, .iconst 0, 1), (44, .ireturn, 1), (15, .iload_n 3, 1), (16, .iconst 3, 1), (17, .if_icmp .eq 26, 3), (20, .iload_n 3, 1), (21, .bipush 6, 2), (23, .if_icmp .eq 20, 3), (26, .aload_n 0, 1), (27, .iload_n 2, 1), (28, .aload_n 0, 1), (29, .getfield 9, 3), (32, .bipush 28, 2), (34, .iload_n 1, 1), (35, .iadd, 1), (36, .iaload, 1), (37, .invokevirtual 174, 3), (40, .ifCond .ne 5, 3), (45, .aload_n 0, 1), (46, .getfield 9, 3), (49, .bipush 19, 2), (51, .iload_n 1, 1), (52, .iadd, 1), (53, .iaload, 1), (54, .bipush 8, 2), (56, .irem, 1), (57, .istore 4, 2), (59, .aload_n 0, 1), (60, .getfield 9, 3), (63, .bipush 28, 2)]
set_option maxRecDepth 100000 in
theorem dk07ref3_cX12_doesGo_0_a : dkA cX12_doesGo dk07ref3_cX12_doesGo_0 = true := by decide +kernel
theorem dX12_doesGo_0 : decode cX12_doesGo 0 = .ok (.aload_n 0, 1) := dkAt dk07ref3_cX12_doesGo_0_a 0 rfl
theorem dX12_doesGo_1 : decode cX12_doesGo 1 = .ok (.getfield 9, 3) := dkAt dk07ref3_cX12_doesGo_0_a 1 rfl
theorem dX12_doesGo_4 : decode cX12_doesGo 4 = .ok (.bipush 10, 2) := dkAt dk07ref3_cX12_doesGo_0_a 2 rfl
theorem dX12_doesGo_6 : decode cX12_doesGo 6 = .ok (.iload_n 1, 1) := dkAt dk07ref3_cX12_doesGo_0_a 3 rfl
theorem dX12_doesGo_7 : decode cX12_doesGo 7 = .ok (.iadd, 1) := dkAt dk07ref3_cX12_doesGo_0_a 4 rfl
theorem dX12_doesGo_8 : decode cX12_doesGo 8 = .ok (.iaload, 1) := dkAt dk07ref3_cX12_doesGo_0_a 5 rfl
theorem dX12_doesGo_9 : decode cX12_doesGo 9 = .ok (.istore_n 3, 1) := dkAt dk07ref3_cX12_doesGo_0_a 6 rfl
theorem dX12_doesGo_10 : decode cX12_doesGo 10 = .ok (.iload_n 1, 1) := dkAt dk07ref3_cX12_doesGo_0_a 7 rfl
theorem dX12_doesGo_11 : decode cX12_doesGo 11 = .ok (.iload_n 2, 1) := dkAt dk07ref3_cX12_doesGo_0_a 8 rfl
theorem dX12_doesGo_12 : decode cX12_doesGo 12 = .ok (.if_icmp .eq 31, 3) := dkAt dk07ref3_cX12_doesGo_0_a 9 rfl
theorem dX12_doesGo_43 : decode cX12_doesGo 43 = .ok (.iconst 0, 1) := dkAt dk07ref3_cX12_doesGo_0_a 10 rfl
theorem dX12_doesGo_44 : decode cX12_doesGo 44 = .ok (.ireturn, 1) := dkAt dk07ref3_cX12_doesGo_0_a 11 rfl
theorem dX12_doesGo_15 : decode cX12_doesGo 15 = .ok (.iload_n 3, 1) := dkAt dk07ref3_cX12_doesGo_0_a 12 rfl
theorem dX12_doesGo_16 : decode cX12_doesGo 16 = .ok (.iconst 3, 1) := dkAt dk07ref3_cX12_doesGo_0_a 13 rfl
theorem dX12_doesGo_17 : decode cX12_doesGo 17 = .ok (.if_icmp .eq 26, 3) := dkAt dk07ref3_cX12_doesGo_0_a 14 rfl
theorem dX12_doesGo_20 : decode cX12_doesGo 20 = .ok (.iload_n 3, 1) := dkAt dk07ref3_cX12_doesGo_0_a 15 rfl
theorem dX12_doesGo_21 : decode cX12_doesGo 21 = .ok (.bipush 6, 2) := dkAt dk07ref3_cX12_doesGo_0_a 16 rfl
theorem dX12_doesGo_23 : decode cX12_doesGo 23 = .ok (.if_icmp .eq 20, 3) := dkAt dk07ref3_cX12_doesGo_0_a 17 rfl
theorem dX12_doesGo_26 : decode cX12_doesGo 26 = .ok (.aload_n 0, 1) := dkAt dk07ref3_cX12_doesGo_0_a 18 rfl
theorem dX12_doesGo_27 : decode cX12_doesGo 27 = .ok (.iload_n 2, 1) := dkAt dk07ref3_cX12_doesGo_0_a 19 rfl
theorem dX12_doesGo_28 : decode cX12_doesGo 28 = .ok (.aload_n 0, 1) := dkAt dk07ref3_cX12_doesGo_0_a 20 rfl
theorem dX12_doesGo_29 : decode cX12_doesGo 29 = .ok (.getfield 9, 3) := dkAt dk07ref3_cX12_doesGo_0_a 21 rfl
theorem dX12_doesGo_32 : decode cX12_doesGo 32 = .ok (.bipush 28, 2) := dkAt dk07ref3_cX12_doesGo_0_a 22 rfl
theorem dX12_doesGo_34 : decode cX12_doesGo 34 = .ok (.iload_n 1, 1) := dkAt dk07ref3_cX12_doesGo_0_a 23 rfl
theorem dX12_doesGo_35 : decode cX12_doesGo 35 = .ok (.iadd, 1) := dkAt dk07ref3_cX12_doesGo_0_a 24 rfl
theorem dX12_doesGo_36 : decode cX12_doesGo 36 = .ok (.iaload, 1) := dkAt dk07ref3_cX12_doesGo_0_a 25 rfl
theorem dX12_doesGo_37 : decode cX12_doesGo 37 = .ok (.invokevirtual 174, 3) := dkAt dk07ref3_cX12_doesGo_0_a 26 rfl
theorem dX12_doesGo_40 : decode cX12_doesGo 40 = .ok (.ifCond .ne 5, 3) := dkAt dk07ref3_cX12_doesGo_0_a 27 rfl
theorem dX12_doesGo_45 : decode cX12_doesGo 45 = .ok (.aload_n 0, 1) := dkAt dk07ref3_cX12_doesGo_0_a 28 rfl
theorem dX12_doesGo_46 : decode cX12_doesGo 46 = .ok (.getfield 9, 3) := dkAt dk07ref3_cX12_doesGo_0_a 29 rfl
theorem dX12_doesGo_49 : decode cX12_doesGo 49 = .ok (.bipush 19, 2) := dkAt dk07ref3_cX12_doesGo_0_a 30 rfl
theorem dX12_doesGo_51 : decode cX12_doesGo 51 = .ok (.iload_n 1, 1) := dkAt dk07ref3_cX12_doesGo_0_a 31 rfl
theorem dX12_doesGo_52 : decode cX12_doesGo 52 = .ok (.iadd, 1) := dkAt dk07ref3_cX12_doesGo_0_a 32 rfl
theorem dX12_doesGo_53 : decode cX12_doesGo 53 = .ok (.iaload, 1) := dkAt dk07ref3_cX12_doesGo_0_a 33 rfl
theorem dX12_doesGo_54 : decode cX12_doesGo 54 = .ok (.bipush 8, 2) := dkAt dk07ref3_cX12_doesGo_0_a 34 rfl
theorem dX12_doesGo_56 : decode cX12_doesGo 56 = .ok (.irem, 1) := dkAt dk07ref3_cX12_doesGo_0_a 35 rfl
theorem dX12_doesGo_57 : decode cX12_doesGo 57 = .ok (.istore 4, 2) := dkAt dk07ref3_cX12_doesGo_0_a 36 rfl
theorem dX12_doesGo_59 : decode cX12_doesGo 59 = .ok (.aload_n 0, 1) := dkAt dk07ref3_cX12_doesGo_0_a 37 rfl
theorem dX12_doesGo_60 : decode cX12_doesGo 60 = .ok (.getfield 9, 3) := dkAt dk07ref3_cX12_doesGo_0_a 38 rfl
theorem dX12_doesGo_63 : decode cX12_doesGo 63 = .ok (.bipush 28, 2) := dkAt dk07ref3_cX12_doesGo_0_a 39 rfl
noncomputable def dk07ref3_cX12_doesGo_40 : List (Nat × Instr × Nat) := [(65, .iload_n 1, 1), (66, .iadd, 1), (67, .iaload, 1), (68, .istore 5, 2), (70, .aload_n 0, 1), (71, .getfield 9, 3), (74, .bipush 28, 2), (76, .iload_n 2, 1), (77, .iadd, 1), (78, .iaload, 1), (79, .istore 6, 2), (81, .iload_n 3, 1), (82, .iconst 4, 1), (83, .if_icmp .ne 45, 3), (128, .iconst 1, 1), (129, .goto 4, 3), (133, .ireturn, 1), (86, .iload 4, 2), (88, .invokestatic 53, 3), (91, .iload 5, 2), (93, .bipush 6, 2), (95, .idiv, 1), (96, .iload 6, 2), (98, .bipush 6, 2), (100, .idiv, 1), (101, .invokestatic 183, 3), (104, .ifCond .eq 28, 3), (107, .iload 4, 2), (109, .invokestatic 56, 3), (112, .iload 5, 2), (114, .bipush 6, 2), (116, .irem, 1), (117, .iload 6, 2), (119, .bipush 6, 2), (121, .irem, 1), (122, .invokestatic 183, 3), (125, .ifCond .eq 7, 3), (132, .iconst 0, 1)]
set_option maxRecDepth 100000 in
theorem dk07ref3_cX12_doesGo_40_a : dkA cX12_doesGo dk07ref3_cX12_doesGo_40 = true := by decide +kernel
theorem dX12_doesGo_65 : decode cX12_doesGo 65 = .ok (.iload_n 1, 1) := dkAt dk07ref3_cX12_doesGo_40_a 0 rfl
theorem dX12_doesGo_66 : decode cX12_doesGo 66 = .ok (.iadd, 1) := dkAt dk07ref3_cX12_doesGo_40_a 1 rfl
theorem dX12_doesGo_67 : decode cX12_doesGo 67 = .ok (.iaload, 1) := dkAt dk07ref3_cX12_doesGo_40_a 2 rfl
theorem dX12_doesGo_68 : decode cX12_doesGo 68 = .ok (.istore 5, 2) := dkAt dk07ref3_cX12_doesGo_40_a 3 rfl
theorem dX12_doesGo_70 : decode cX12_doesGo 70 = .ok (.aload_n 0, 1) := dkAt dk07ref3_cX12_doesGo_40_a 4 rfl
theorem dX12_doesGo_71 : decode cX12_doesGo 71 = .ok (.getfield 9, 3) := dkAt dk07ref3_cX12_doesGo_40_a 5 rfl
theorem dX12_doesGo_74 : decode cX12_doesGo 74 = .ok (.bipush 28, 2) := dkAt dk07ref3_cX12_doesGo_40_a 6 rfl
theorem dX12_doesGo_76 : decode cX12_doesGo 76 = .ok (.iload_n 2, 1) := dkAt dk07ref3_cX12_doesGo_40_a 7 rfl
theorem dX12_doesGo_77 : decode cX12_doesGo 77 = .ok (.iadd, 1) := dkAt dk07ref3_cX12_doesGo_40_a 8 rfl
theorem dX12_doesGo_78 : decode cX12_doesGo 78 = .ok (.iaload, 1) := dkAt dk07ref3_cX12_doesGo_40_a 9 rfl
theorem dX12_doesGo_79 : decode cX12_doesGo 79 = .ok (.istore 6, 2) := dkAt dk07ref3_cX12_doesGo_40_a 10 rfl
theorem dX12_doesGo_81 : decode cX12_doesGo 81 = .ok (.iload_n 3, 1) := dkAt dk07ref3_cX12_doesGo_40_a 11 rfl
theorem dX12_doesGo_82 : decode cX12_doesGo 82 = .ok (.iconst 4, 1) := dkAt dk07ref3_cX12_doesGo_40_a 12 rfl
theorem dX12_doesGo_83 : decode cX12_doesGo 83 = .ok (.if_icmp .ne 45, 3) := dkAt dk07ref3_cX12_doesGo_40_a 13 rfl
theorem dX12_doesGo_128 : decode cX12_doesGo 128 = .ok (.iconst 1, 1) := dkAt dk07ref3_cX12_doesGo_40_a 14 rfl
theorem dX12_doesGo_129 : decode cX12_doesGo 129 = .ok (.goto 4, 3) := dkAt dk07ref3_cX12_doesGo_40_a 15 rfl
theorem dX12_doesGo_133 : decode cX12_doesGo 133 = .ok (.ireturn, 1) := dkAt dk07ref3_cX12_doesGo_40_a 16 rfl
theorem dX12_doesGo_86 : decode cX12_doesGo 86 = .ok (.iload 4, 2) := dkAt dk07ref3_cX12_doesGo_40_a 17 rfl
theorem dX12_doesGo_88 : decode cX12_doesGo 88 = .ok (.invokestatic 53, 3) := dkAt dk07ref3_cX12_doesGo_40_a 18 rfl
theorem dX12_doesGo_91 : decode cX12_doesGo 91 = .ok (.iload 5, 2) := dkAt dk07ref3_cX12_doesGo_40_a 19 rfl
theorem dX12_doesGo_93 : decode cX12_doesGo 93 = .ok (.bipush 6, 2) := dkAt dk07ref3_cX12_doesGo_40_a 20 rfl
theorem dX12_doesGo_95 : decode cX12_doesGo 95 = .ok (.idiv, 1) := dkAt dk07ref3_cX12_doesGo_40_a 21 rfl
theorem dX12_doesGo_96 : decode cX12_doesGo 96 = .ok (.iload 6, 2) := dkAt dk07ref3_cX12_doesGo_40_a 22 rfl
theorem dX12_doesGo_98 : decode cX12_doesGo 98 = .ok (.bipush 6, 2) := dkAt dk07ref3_cX12_doesGo_40_a 23 rfl
theorem dX12_doesGo_100 : decode cX12_doesGo 100 = .ok (.idiv, 1) := dkAt dk07ref3_cX12_doesGo_40_a 24 rfl
theorem dX12_doesGo_101 : decode cX12_doesGo 101 = .ok (.invokestatic 183, 3) := dkAt dk07ref3_cX12_doesGo_40_a 25 rfl
theorem dX12_doesGo_104 : decode cX12_doesGo 104 = .ok (.ifCond .eq 28, 3) := dkAt dk07ref3_cX12_doesGo_40_a 26 rfl
theorem dX12_doesGo_107 : decode cX12_doesGo 107 = .ok (.iload 4, 2) := dkAt dk07ref3_cX12_doesGo_40_a 27 rfl
theorem dX12_doesGo_109 : decode cX12_doesGo 109 = .ok (.invokestatic 56, 3) := dkAt dk07ref3_cX12_doesGo_40_a 28 rfl
theorem dX12_doesGo_112 : decode cX12_doesGo 112 = .ok (.iload 5, 2) := dkAt dk07ref3_cX12_doesGo_40_a 29 rfl
theorem dX12_doesGo_114 : decode cX12_doesGo 114 = .ok (.bipush 6, 2) := dkAt dk07ref3_cX12_doesGo_40_a 30 rfl
theorem dX12_doesGo_116 : decode cX12_doesGo 116 = .ok (.irem, 1) := dkAt dk07ref3_cX12_doesGo_40_a 31 rfl
theorem dX12_doesGo_117 : decode cX12_doesGo 117 = .ok (.iload 6, 2) := dkAt dk07ref3_cX12_doesGo_40_a 32 rfl
theorem dX12_doesGo_119 : decode cX12_doesGo 119 = .ok (.bipush 6, 2) := dkAt dk07ref3_cX12_doesGo_40_a 33 rfl
theorem dX12_doesGo_121 : decode cX12_doesGo 121 = .ok (.irem, 1) := dkAt dk07ref3_cX12_doesGo_40_a 34 rfl
theorem dX12_doesGo_122 : decode cX12_doesGo 122 = .ok (.invokestatic 183, 3) := dkAt dk07ref3_cX12_doesGo_40_a 35 rfl
theorem dX12_doesGo_125 : decode cX12_doesGo 125 = .ok (.ifCond .eq 7, 3) := dkAt dk07ref3_cX12_doesGo_40_a 36 rfl
theorem dX12_doesGo_132 : decode cX12_doesGo 132 = .ok (.iconst 0, 1) := dkAt dk07ref3_cX12_doesGo_40_a 37 rfl
noncomputable def dk07ref3_cX12_looksForGoings_0 : List (Nat × Instr × Nat) := [(0, .iconst 0, 1), (1, .istore_n 1, 1), (2, .iload_n 1, 1), (3, .aload_n 0, 1), (4, .getfield 9, 3), (7, .iconst 0, 1), (8, .iaload, 1), (9, .if_icmp .ge 59, 3), (68, .return_, 1), (12, .aload_n 0, 1), (13, .getfield 25, 3), (16, .iload_n 1, 1), (17, .iconst 0, 1), (18, .iastore, 1), (19, .iconst 0, 1), (20, .istore_n 2, 1), (21, .iload_n 2, 1), (22, .aload_n 0, 1), (23, .getfield 9, 3), (26, .iconst 0, 1), (27, .iaload, 1), (28, .if_icmp .ge 34, 3), (62, .iinc 1 1, 3), (65, .goto (-63), 3), (31, .aload_n 0, 1), (32, .getfield 25, 3), (35, .iload_n 1, 1), (36, .dup2, 1), (37, .iaload, 1), (38, .aload_n 0, 1), (39, .iload_n 1, 1), (40, .iload_n 2, 1), (41, .invokevirtual 186, 3), (44, .ifCond .eq 9, 3), (47, .iconst 1, 1), (48, .iload_n 2, 1), (49, .ishl, 1), (50, .goto 4, 3), (54, .ior, 1), (55, .iastore, 1)]
set_option maxRecDepth 100000 in
theorem dk07ref3_cX12_looksForGoings_0_a : dkA cX12_looksForGoings dk07ref3_cX12_looksForGoings_0 = true := by decide +kernel
theorem dX12_looksForGoings_0 : decode cX12_looksForGoings 0 = .ok (.iconst 0, 1) := dkAt dk07ref3_cX12_looksForGoings_0_a 0 rfl
theorem dX12_looksForGoings_1 : decode cX12_looksForGoings 1 = .ok (.istore_n 1, 1) := dkAt dk07ref3_cX12_looksForGoings_0_a 1 rfl
theorem dX12_looksForGoings_2 : decode cX12_looksForGoings 2 = .ok (.iload_n 1, 1) := dkAt dk07ref3_cX12_looksForGoings_0_a 2 rfl
theorem dX12_looksForGoings_3 : decode cX12_looksForGoings 3 = .ok (.aload_n 0, 1) := dkAt dk07ref3_cX12_looksForGoings_0_a 3 rfl
theorem dX12_looksForGoings_4 : decode cX12_looksForGoings 4 = .ok (.getfield 9, 3) := dkAt dk07ref3_cX12_looksForGoings_0_a 4 rfl
theorem dX12_looksForGoings_7 : decode cX12_looksForGoings 7 = .ok (.iconst 0, 1) := dkAt dk07ref3_cX12_looksForGoings_0_a 5 rfl
theorem dX12_looksForGoings_8 : decode cX12_looksForGoings 8 = .ok (.iaload, 1) := dkAt dk07ref3_cX12_looksForGoings_0_a 6 rfl
theorem dX12_looksForGoings_9 : decode cX12_looksForGoings 9 = .ok (.if_icmp .ge 59, 3) := dkAt dk07ref3_cX12_looksForGoings_0_a 7 rfl
theorem dX12_looksForGoings_68 : decode cX12_looksForGoings 68 = .ok (.return_, 1) := dkAt dk07ref3_cX12_looksForGoings_0_a 8 rfl
theorem dX12_looksForGoings_12 : decode cX12_looksForGoings 12 = .ok (.aload_n 0, 1) := dkAt dk07ref3_cX12_looksForGoings_0_a 9 rfl
theorem dX12_looksForGoings_13 : decode cX12_looksForGoings 13 = .ok (.getfield 25, 3) := dkAt dk07ref3_cX12_looksForGoings_0_a 10 rfl
theorem dX12_looksForGoings_16 : decode cX12_looksForGoings 16 = .ok (.iload_n 1, 1) := dkAt dk07ref3_cX12_looksForGoings_0_a 11 rfl
theorem dX12_looksForGoings_17 : decode cX12_looksForGoings 17 = .ok (.iconst 0, 1) := dkAt dk07ref3_cX12_looksForGoings_0_a 12 rfl
theorem dX12_looksForGoings_18 : decode cX12_looksForGoings 18 = .ok (.iastore, 1) := dkAt dk07ref3_cX12_looksForGoings_0_a 13 rfl
theorem dX12_looksForGoings_19 : decode cX12_looksForGoings 19 = .ok (.iconst 0, 1) := dkAt dk07ref3_cX12_looksForGoings_0_a 14 rfl
theorem dX12_looksForGoings_20 : decode cX12_looksForGoings 20 = .ok (.istore_n 2, 1) := dkAt dk07ref3_cX12_looksForGoings_0_a 15 rfl
theorem dX12_looksForGoings_21 : decode cX12_looksForGoings 21 = .ok (.iload_n 2, 1) := dkAt dk07ref3_cX12_looksForGoings_0_a 16 rfl
theorem dX12_looksForGoings_22 : decode cX12_looksForGoings 22 = .ok (.aload_n 0, 1) := dkAt dk07ref3_cX12_looksForGoings_0_a 17 rfl
theorem dX12_looksForGoings_23 : decode cX12_looksForGoings 23 = .ok (.getfield 9, 3) := dkAt dk07ref3_cX12_looksForGoings_0_a 18 rfl
theorem dX12_looksForGoings_26 : decode cX12_looksForGoings 26 = .ok (.iconst 0, 1) := dkAt dk07ref3_cX12_looksForGoings_0_a 19 rfl
theorem dX12_looksForGoings_27 : decode cX12_looksForGoings 27 = .ok (.iaload, 1) := dkAt dk07ref3_cX12_looksForGoings_0_a 20 rfl
theorem dX12_looksForGoings_28 : decode cX12_looksForGoings 28 = .ok (.if_icmp .ge 34, 3) := dkAt dk07ref3_cX12_looksForGoings_0_a 21 rfl
theorem dX12_looksForGoings_62 : decode cX12_looksForGoings 62 = .ok (.iinc 1 1, 3) := dkAt dk07ref3_cX12_looksForGoings_0_a 22 rfl
theorem dX12_looksForGoings_65 : decode cX12_looksForGoings 65 = .ok (.goto (-63), 3) := dkAt dk07ref3_cX12_looksForGoings_0_a 23 rfl
theorem dX12_looksForGoings_31 : decode cX12_looksForGoings 31 = .ok (.aload_n 0, 1) := dkAt dk07ref3_cX12_looksForGoings_0_a 24 rfl
theorem dX12_looksForGoings_32 : decode cX12_looksForGoings 32 = .ok (.getfield 25, 3) := dkAt dk07ref3_cX12_looksForGoings_0_a 25 rfl
theorem dX12_looksForGoings_35 : decode cX12_looksForGoings 35 = .ok (.iload_n 1, 1) := dkAt dk07ref3_cX12_looksForGoings_0_a 26 rfl
theorem dX12_looksForGoings_36 : decode cX12_looksForGoings 36 = .ok (.dup2, 1) := dkAt dk07ref3_cX12_looksForGoings_0_a 27 rfl
theorem dX12_looksForGoings_37 : decode cX12_looksForGoings 37 = .ok (.iaload, 1) := dkAt dk07ref3_cX12_looksForGoings_0_a 28 rfl
theorem dX12_looksForGoings_38 : decode cX12_looksForGoings 38 = .ok (.aload_n 0, 1) := dkAt dk07ref3_cX12_looksForGoings_0_a 29 rfl
theorem dX12_looksForGoings_39 : decode cX12_looksForGoings 39 = .ok (.iload_n 1, 1) := dkAt dk07ref3_cX12_looksForGoings_0_a 30 rfl
theorem dX12_looksForGoings_40 : decode cX12_looksForGoings 40 = .ok (.iload_n 2, 1) := dkAt dk07ref3_cX12_looksForGoings_0_a 31 rfl
theorem dX12_looksForGoings_41 : decode cX12_looksForGoings 41 = .ok (.invokevirtual 186, 3) := dkAt dk07ref3_cX12_looksForGoings_0_a 32 rfl
theorem dX12_looksForGoings_44 : decode cX12_looksForGoings 44 = .ok (.ifCond .eq 9, 3) := dkAt dk07ref3_cX12_looksForGoings_0_a 33 rfl
theorem dX12_looksForGoings_47 : decode cX12_looksForGoings 47 = .ok (.iconst 1, 1) := dkAt dk07ref3_cX12_looksForGoings_0_a 34 rfl
theorem dX12_looksForGoings_48 : decode cX12_looksForGoings 48 = .ok (.iload_n 2, 1) := dkAt dk07ref3_cX12_looksForGoings_0_a 35 rfl
theorem dX12_looksForGoings_49 : decode cX12_looksForGoings 49 = .ok (.ishl, 1) := dkAt dk07ref3_cX12_looksForGoings_0_a 36 rfl
theorem dX12_looksForGoings_50 : decode cX12_looksForGoings 50 = .ok (.goto 4, 3) := dkAt dk07ref3_cX12_looksForGoings_0_a 37 rfl
theorem dX12_looksForGoings_54 : decode cX12_looksForGoings 54 = .ok (.ior, 1) := dkAt dk07ref3_cX12_looksForGoings_0_a 38 rfl
theorem dX12_looksForGoings_55 : decode cX12_looksForGoings 55 = .ok (.iastore, 1) := dkAt dk07ref3_cX12_looksForGoings_0_a 39 rfl
noncomputable def dk07ref3_cX12_looksForGoings_40 : List (Nat × Instr × Nat) := [(56, .iinc 2 1, 3), (59, .goto (-38), 3), (53, .iconst 0, 1)]
set_option maxRecDepth 100000 in
theorem dk07ref3_cX12_looksForGoings_40_a : dkA cX12_looksForGoings dk07ref3_cX12_looksForGoings_40 = true := by decide +kernel
theorem dX12_looksForGoings_56 : decode cX12_looksForGoings 56 = .ok (.iinc 2 1, 3) := dkAt dk07ref3_cX12_looksForGoings_40_a 0 rfl
theorem dX12_looksForGoings_59 : decode cX12_looksForGoings 59 = .ok (.goto (-38), 3) := dkAt dk07ref3_cX12_looksForGoings_40_a 1 rfl
theorem dX12_looksForGoings_53 : decode cX12_looksForGoings 53 = .ok (.iconst 0, 1) := dkAt dk07ref3_cX12_looksForGoings_40_a 2 rfl
noncomputable def dk07ref3_cX12_spread_0 : List (Nat × Instr × Nat) := [(0, .iload_n 1, 1), (1, .istore_n 2, 1), (2, .iconst 0, 1), (3, .istore_n 3, 1), (4, .iload_n 3, 1), (5, .aload_n 0, 1), (6, .getfield 9, 3), (9, .iconst 0, 1), (10, .iaload, 1), (11, .if_icmp .ge 31, 3), (42, .iload_n 2, 1), (43, .ireturn, 1), (14, .iload_n 2, 1), (15, .iload_n 1, 1), (16, .iload_n 3, 1), (17, .ishr, 1), (18, .iconst 1, 1), (19, .iand, 1), (20, .iconst 1, 1), (21, .if_icmp .ne 12, 3), (33, .iconst 0, 1), (34, .ior, 1), (35, .istore_n 2, 1), (36, .iinc 3 1, 3), (39, .goto (-35), 3), (24, .aload_n 0, 1), (25, .getfield 25, 3), (28, .iload_n 3, 1), (29, .iaload, 1), (30, .goto 4, 3)]
set_option maxRecDepth 100000 in
theorem dk07ref3_cX12_spread_0_a : dkA cX12_spread dk07ref3_cX12_spread_0 = true := by decide +kernel
theorem dX12_spread_0 : decode cX12_spread 0 = .ok (.iload_n 1, 1) := dkAt dk07ref3_cX12_spread_0_a 0 rfl
theorem dX12_spread_1 : decode cX12_spread 1 = .ok (.istore_n 2, 1) := dkAt dk07ref3_cX12_spread_0_a 1 rfl
theorem dX12_spread_2 : decode cX12_spread 2 = .ok (.iconst 0, 1) := dkAt dk07ref3_cX12_spread_0_a 2 rfl
theorem dX12_spread_3 : decode cX12_spread 3 = .ok (.istore_n 3, 1) := dkAt dk07ref3_cX12_spread_0_a 3 rfl
theorem dX12_spread_4 : decode cX12_spread 4 = .ok (.iload_n 3, 1) := dkAt dk07ref3_cX12_spread_0_a 4 rfl
theorem dX12_spread_5 : decode cX12_spread 5 = .ok (.aload_n 0, 1) := dkAt dk07ref3_cX12_spread_0_a 5 rfl
theorem dX12_spread_6 : decode cX12_spread 6 = .ok (.getfield 9, 3) := dkAt dk07ref3_cX12_spread_0_a 6 rfl
theorem dX12_spread_9 : decode cX12_spread 9 = .ok (.iconst 0, 1) := dkAt dk07ref3_cX12_spread_0_a 7 rfl
theorem dX12_spread_10 : decode cX12_spread 10 = .ok (.iaload, 1) := dkAt dk07ref3_cX12_spread_0_a 8 rfl
theorem dX12_spread_11 : decode cX12_spread 11 = .ok (.if_icmp .ge 31, 3) := dkAt dk07ref3_cX12_spread_0_a 9 rfl
theorem dX12_spread_42 : decode cX12_spread 42 = .ok (.iload_n 2, 1) := dkAt dk07ref3_cX12_spread_0_a 10 rfl
theorem dX12_spread_43 : decode cX12_spread 43 = .ok (.ireturn, 1) := dkAt dk07ref3_cX12_spread_0_a 11 rfl
theorem dX12_spread_14 : decode cX12_spread 14 = .ok (.iload_n 2, 1) := dkAt dk07ref3_cX12_spread_0_a 12 rfl
theorem dX12_spread_15 : decode cX12_spread 15 = .ok (.iload_n 1, 1) := dkAt dk07ref3_cX12_spread_0_a 13 rfl
theorem dX12_spread_16 : decode cX12_spread 16 = .ok (.iload_n 3, 1) := dkAt dk07ref3_cX12_spread_0_a 14 rfl
theorem dX12_spread_17 : decode cX12_spread 17 = .ok (.ishr, 1) := dkAt dk07ref3_cX12_spread_0_a 15 rfl
theorem dX12_spread_18 : decode cX12_spread 18 = .ok (.iconst 1, 1) := dkAt dk07ref3_cX12_spread_0_a 16 rfl
theorem dX12_spread_19 : decode cX12_spread 19 = .ok (.iand, 1) := dkAt dk07ref3_cX12_spread_0_a 17 rfl
theorem dX12_spread_20 : decode cX12_spread 20 = .ok (.iconst 1, 1) := dkAt dk07ref3_cX12_spread_0_a 18 rfl
theorem dX12_spread_21 : decode cX12_spread 21 = .ok (.if_icmp .ne 12, 3) := dkAt dk07ref3_cX12_spread_0_a 19 rfl
theorem dX12_spread_33 : decode cX12_spread 33 = .ok (.iconst 0, 1) := dkAt dk07ref3_cX12_spread_0_a 20 rfl
theorem dX12_spread_34 : decode cX12_spread 34 = .ok (.ior, 1) := dkAt dk07ref3_cX12_spread_0_a 21 rfl
theorem dX12_spread_35 : decode cX12_spread 35 = .ok (.istore_n 2, 1) := dkAt dk07ref3_cX12_spread_0_a 22 rfl
theorem dX12_spread_36 : decode cX12_spread 36 = .ok (.iinc 3 1, 3) := dkAt dk07ref3_cX12_spread_0_a 23 rfl
theorem dX12_spread_39 : decode cX12_spread 39 = .ok (.goto (-35), 3) := dkAt dk07ref3_cX12_spread_0_a 24 rfl
theorem dX12_spread_24 : decode cX12_spread 24 = .ok (.aload_n 0, 1) := dkAt dk07ref3_cX12_spread_0_a 25 rfl
theorem dX12_spread_25 : decode cX12_spread 25 = .ok (.getfield 25, 3) := dkAt dk07ref3_cX12_spread_0_a 26 rfl
theorem dX12_spread_28 : decode cX12_spread 28 = .ok (.iload_n 3, 1) := dkAt dk07ref3_cX12_spread_0_a 27 rfl
theorem dX12_spread_29 : decode cX12_spread 29 = .ok (.iaload, 1) := dkAt dk07ref3_cX12_spread_0_a 28 rfl
theorem dX12_spread_30 : decode cX12_spread 30 = .ok (.goto 4, 3) := dkAt dk07ref3_cX12_spread_0_a 29 rfl
noncomputable def dk07ref3_cX12_stepsBut_0 : List (Nat × Instr × Nat) := [(0, .iconst 1, 1), (1, .iload_n 1, 1), (2, .ishl, 1), (3, .istore 4, 2), (5, .iconst 0, 1), (6, .istore 5, 2), (8, .iload 5, 2), (10, .bipush 10, 2), (12, .if_icmp .ge 34, 3), (46, .bipush (-5), 2), (48, .ireturn, 1), (15, .iload 4, 2), (17, .iload_n 2, 1), (18, .ishr, 1), (19, .iconst 1, 1), (20, .iand, 1), (21, .iconst 1, 1), (22, .if_icmp .ne 6, 3), (28, .aload_n 0, 1), (29, .iload 4, 2), (31, .invokevirtual 189, 3), (34, .iload_n 3, 1), (35, .iconst (-1), 1), (36, .ixor, 1), (37, .iand, 1), (38, .istore 4, 2), (40, .iinc 5 1, 3), (43, .goto (-35), 3), (25, .iload 5, 2), (27, .ireturn, 1)]
set_option maxRecDepth 100000 in
theorem dk07ref3_cX12_stepsBut_0_a : dkA cX12_stepsBut dk07ref3_cX12_stepsBut_0 = true := by decide +kernel
theorem dX12_stepsBut_0 : decode cX12_stepsBut 0 = .ok (.iconst 1, 1) := dkAt dk07ref3_cX12_stepsBut_0_a 0 rfl
theorem dX12_stepsBut_1 : decode cX12_stepsBut 1 = .ok (.iload_n 1, 1) := dkAt dk07ref3_cX12_stepsBut_0_a 1 rfl
theorem dX12_stepsBut_2 : decode cX12_stepsBut 2 = .ok (.ishl, 1) := dkAt dk07ref3_cX12_stepsBut_0_a 2 rfl
theorem dX12_stepsBut_3 : decode cX12_stepsBut 3 = .ok (.istore 4, 2) := dkAt dk07ref3_cX12_stepsBut_0_a 3 rfl
theorem dX12_stepsBut_5 : decode cX12_stepsBut 5 = .ok (.iconst 0, 1) := dkAt dk07ref3_cX12_stepsBut_0_a 4 rfl
theorem dX12_stepsBut_6 : decode cX12_stepsBut 6 = .ok (.istore 5, 2) := dkAt dk07ref3_cX12_stepsBut_0_a 5 rfl
theorem dX12_stepsBut_8 : decode cX12_stepsBut 8 = .ok (.iload 5, 2) := dkAt dk07ref3_cX12_stepsBut_0_a 6 rfl
theorem dX12_stepsBut_10 : decode cX12_stepsBut 10 = .ok (.bipush 10, 2) := dkAt dk07ref3_cX12_stepsBut_0_a 7 rfl
theorem dX12_stepsBut_12 : decode cX12_stepsBut 12 = .ok (.if_icmp .ge 34, 3) := dkAt dk07ref3_cX12_stepsBut_0_a 8 rfl
theorem dX12_stepsBut_46 : decode cX12_stepsBut 46 = .ok (.bipush (-5), 2) := dkAt dk07ref3_cX12_stepsBut_0_a 9 rfl
theorem dX12_stepsBut_48 : decode cX12_stepsBut 48 = .ok (.ireturn, 1) := dkAt dk07ref3_cX12_stepsBut_0_a 10 rfl
theorem dX12_stepsBut_15 : decode cX12_stepsBut 15 = .ok (.iload 4, 2) := dkAt dk07ref3_cX12_stepsBut_0_a 11 rfl
theorem dX12_stepsBut_17 : decode cX12_stepsBut 17 = .ok (.iload_n 2, 1) := dkAt dk07ref3_cX12_stepsBut_0_a 12 rfl
theorem dX12_stepsBut_18 : decode cX12_stepsBut 18 = .ok (.ishr, 1) := dkAt dk07ref3_cX12_stepsBut_0_a 13 rfl
theorem dX12_stepsBut_19 : decode cX12_stepsBut 19 = .ok (.iconst 1, 1) := dkAt dk07ref3_cX12_stepsBut_0_a 14 rfl
theorem dX12_stepsBut_20 : decode cX12_stepsBut 20 = .ok (.iand, 1) := dkAt dk07ref3_cX12_stepsBut_0_a 15 rfl
theorem dX12_stepsBut_21 : decode cX12_stepsBut 21 = .ok (.iconst 1, 1) := dkAt dk07ref3_cX12_stepsBut_0_a 16 rfl
theorem dX12_stepsBut_22 : decode cX12_stepsBut 22 = .ok (.if_icmp .ne 6, 3) := dkAt dk07ref3_cX12_stepsBut_0_a 17 rfl
theorem dX12_stepsBut_28 : decode cX12_stepsBut 28 = .ok (.aload_n 0, 1) := dkAt dk07ref3_cX12_stepsBut_0_a 18 rfl
theorem dX12_stepsBut_29 : decode cX12_stepsBut 29 = .ok (.iload 4, 2) := dkAt dk07ref3_cX12_stepsBut_0_a 19 rfl
theorem dX12_stepsBut_31 : decode cX12_stepsBut 31 = .ok (.invokevirtual 189, 3) := dkAt dk07ref3_cX12_stepsBut_0_a 20 rfl
theorem dX12_stepsBut_34 : decode cX12_stepsBut 34 = .ok (.iload_n 3, 1) := dkAt dk07ref3_cX12_stepsBut_0_a 21 rfl
theorem dX12_stepsBut_35 : decode cX12_stepsBut 35 = .ok (.iconst (-1), 1) := dkAt dk07ref3_cX12_stepsBut_0_a 22 rfl
theorem dX12_stepsBut_36 : decode cX12_stepsBut 36 = .ok (.ixor, 1) := dkAt dk07ref3_cX12_stepsBut_0_a 23 rfl
theorem dX12_stepsBut_37 : decode cX12_stepsBut 37 = .ok (.iand, 1) := dkAt dk07ref3_cX12_stepsBut_0_a 24 rfl
theorem dX12_stepsBut_38 : decode cX12_stepsBut 38 = .ok (.istore 4, 2) := dkAt dk07ref3_cX12_stepsBut_0_a 25 rfl
theorem dX12_stepsBut_40 : decode cX12_stepsBut 40 = .ok (.iinc 5 1, 3) := dkAt dk07ref3_cX12_stepsBut_0_a 26 rfl
theorem dX12_stepsBut_43 : decode cX12_stepsBut 43 = .ok (.goto (-35), 3) := dkAt dk07ref3_cX12_stepsBut_0_a 27 rfl
theorem dX12_stepsBut_25 : decode cX12_stepsBut 25 = .ok (.iload 5, 2) := dkAt dk07ref3_cX12_stepsBut_0_a 28 rfl
theorem dX12_stepsBut_27 : decode cX12_stepsBut 27 = .ok (.ireturn, 1) := dkAt dk07ref3_cX12_stepsBut_0_a 29 rfl
noncomputable def dk07ref3_cX12_stepsOf_0 : List (Nat × Instr × Nat) := [(0, .aload_n 0, 1), (1, .invokevirtual 192, 3), (4, .aload_n 0, 1), (5, .iload_n 1, 1), (6, .iload_n 2, 1), (7, .iconst 0, 1), (8, .invokevirtual 195, 3), (11, .ireturn, 1)]
set_option maxRecDepth 100000 in
theorem dk07ref3_cX12_stepsOf_0_a : dkA cX12_stepsOf dk07ref3_cX12_stepsOf_0 = true := by decide +kernel
theorem dX12_stepsOf_0 : decode cX12_stepsOf 0 = .ok (.aload_n 0, 1) := dkAt dk07ref3_cX12_stepsOf_0_a 0 rfl
theorem dX12_stepsOf_1 : decode cX12_stepsOf 1 = .ok (.invokevirtual 192, 3) := dkAt dk07ref3_cX12_stepsOf_0_a 1 rfl
theorem dX12_stepsOf_4 : decode cX12_stepsOf 4 = .ok (.aload_n 0, 1) := dkAt dk07ref3_cX12_stepsOf_0_a 2 rfl
theorem dX12_stepsOf_5 : decode cX12_stepsOf 5 = .ok (.iload_n 1, 1) := dkAt dk07ref3_cX12_stepsOf_0_a 3 rfl
theorem dX12_stepsOf_6 : decode cX12_stepsOf 6 = .ok (.iload_n 2, 1) := dkAt dk07ref3_cX12_stepsOf_0_a 4 rfl
theorem dX12_stepsOf_7 : decode cX12_stepsOf 7 = .ok (.iconst 0, 1) := dkAt dk07ref3_cX12_stepsOf_0_a 5 rfl
theorem dX12_stepsOf_8 : decode cX12_stepsOf 8 = .ok (.invokevirtual 195, 3) := dkAt dk07ref3_cX12_stepsOf_0_a 6 rfl
theorem dX12_stepsOf_11 : decode cX12_stepsOf 11 = .ok (.ireturn, 1) := dkAt dk07ref3_cX12_stepsOf_0_a 7 rfl
noncomputable def dk07ref3_cX12_steps_0 : List (Nat × Instr × Nat) := [(0, .aload_n 0, 1), (1, .iload_n 1, 1), (2, .invokevirtual 164, 3), (5, .ifCond .eq 20, 3), (8, .aload_n 0, 1), (9, .iload_n 2, 1), (10, .invokevirtual 164, 3), (13, .ifCond .eq 12, 3), (16, .aload_n 0, 1), (17, .iload_n 1, 1), (18, .iload_n 2, 1), (19, .invokevirtual 198, 3), (22, .goto 4, 3), (26, .ireturn, 1), (25, .iconst (-1), 1)]
set_option maxRecDepth 100000 in
theorem dk07ref3_cX12_steps_0_a : dkA cX12_steps dk07ref3_cX12_steps_0 = true := by decide +kernel
theorem dX12_steps_0 : decode cX12_steps 0 = .ok (.aload_n 0, 1) := dkAt dk07ref3_cX12_steps_0_a 0 rfl
theorem dX12_steps_1 : decode cX12_steps 1 = .ok (.iload_n 1, 1) := dkAt dk07ref3_cX12_steps_0_a 1 rfl
theorem dX12_steps_2 : decode cX12_steps 2 = .ok (.invokevirtual 164, 3) := dkAt dk07ref3_cX12_steps_0_a 2 rfl
theorem dX12_steps_5 : decode cX12_steps 5 = .ok (.ifCond .eq 20, 3) := dkAt dk07ref3_cX12_steps_0_a 3 rfl
theorem dX12_steps_8 : decode cX12_steps 8 = .ok (.aload_n 0, 1) := dkAt dk07ref3_cX12_steps_0_a 4 rfl
theorem dX12_steps_9 : decode cX12_steps 9 = .ok (.iload_n 2, 1) := dkAt dk07ref3_cX12_steps_0_a 5 rfl
theorem dX12_steps_10 : decode cX12_steps 10 = .ok (.invokevirtual 164, 3) := dkAt dk07ref3_cX12_steps_0_a 6 rfl
theorem dX12_steps_13 : decode cX12_steps 13 = .ok (.ifCond .eq 12, 3) := dkAt dk07ref3_cX12_steps_0_a 7 rfl
theorem dX12_steps_16 : decode cX12_steps 16 = .ok (.aload_n 0, 1) := dkAt dk07ref3_cX12_steps_0_a 8 rfl
theorem dX12_steps_17 : decode cX12_steps 17 = .ok (.iload_n 1, 1) := dkAt dk07ref3_cX12_steps_0_a 9 rfl
theorem dX12_steps_18 : decode cX12_steps 18 = .ok (.iload_n 2, 1) := dkAt dk07ref3_cX12_steps_0_a 10 rfl
theorem dX12_steps_19 : decode cX12_steps 19 = .ok (.invokevirtual 198, 3) := dkAt dk07ref3_cX12_steps_0_a 11 rfl
theorem dX12_steps_22 : decode cX12_steps 22 = .ok (.goto 4, 3) := dkAt dk07ref3_cX12_steps_0_a 12 rfl
theorem dX12_steps_26 : decode cX12_steps 26 = .ok (.ireturn, 1) := dkAt dk07ref3_cX12_steps_0_a 13 rfl
theorem dX12_steps_25 : decode cX12_steps 25 = .ok (.iconst (-1), 1) := dkAt dk07ref3_cX12_steps_0_a 14 rfl
noncomputable def dk07ref3_cX12_via_0 : List (Nat × Instr × Nat) := [(0, .aload_n 0, 1), (1, .iload_n 1, 1), (2, .invokevirtual 164, 3), (5, .ifCond .eq 11, 3), (8, .aload_n 0, 1), (9, .iload_n 2, 1), (10, .invokevirtual 164, 3), (13, .ifCond .ne 5, 3), (18, .aload_n 0, 1), (19, .iload_n 1, 1), (20, .iload_n 2, 1), (21, .invokevirtual 198, 3), (24, .istore_n 3, 1), (25, .iconst 0, 1), (26, .istore 4, 2), (28, .iload 4, 2), (30, .aload_n 0, 1), (31, .getfield 9, 3), (34, .iconst 0, 1), (35, .iaload, 1), (36, .if_icmp .ge 45, 3), (81, .bipush (-5), 2), (83, .ireturn, 1), (39, .iload_n 3, 1), (40, .ifCond .le 41, 3), (43, .aload_n 0, 1), (44, .getfield 25, 3), (47, .iload_n 1, 1), (48, .iaload, 1), (49, .iload 4, 2), (51, .ishr, 1), (52, .iconst 1, 1), (53, .iand, 1), (54, .iconst 1, 1), (55, .if_icmp .ne 20, 3), (75, .iinc 4 1, 3), (78, .goto (-50), 3), (58, .aload_n 0, 1), (59, .iload 4, 2), (61, .iload_n 2, 1)]
set_option maxRecDepth 100000 in
theorem dk07ref3_cX12_via_0_a : dkA cX12_via dk07ref3_cX12_via_0 = true := by decide +kernel
theorem dX12_via_0 : decode cX12_via 0 = .ok (.aload_n 0, 1) := dkAt dk07ref3_cX12_via_0_a 0 rfl
theorem dX12_via_1 : decode cX12_via 1 = .ok (.iload_n 1, 1) := dkAt dk07ref3_cX12_via_0_a 1 rfl
theorem dX12_via_2 : decode cX12_via 2 = .ok (.invokevirtual 164, 3) := dkAt dk07ref3_cX12_via_0_a 2 rfl
theorem dX12_via_5 : decode cX12_via 5 = .ok (.ifCond .eq 11, 3) := dkAt dk07ref3_cX12_via_0_a 3 rfl
theorem dX12_via_8 : decode cX12_via 8 = .ok (.aload_n 0, 1) := dkAt dk07ref3_cX12_via_0_a 4 rfl
theorem dX12_via_9 : decode cX12_via 9 = .ok (.iload_n 2, 1) := dkAt dk07ref3_cX12_via_0_a 5 rfl
theorem dX12_via_10 : decode cX12_via 10 = .ok (.invokevirtual 164, 3) := dkAt dk07ref3_cX12_via_0_a 6 rfl
theorem dX12_via_13 : decode cX12_via 13 = .ok (.ifCond .ne 5, 3) := dkAt dk07ref3_cX12_via_0_a 7 rfl
theorem dX12_via_18 : decode cX12_via 18 = .ok (.aload_n 0, 1) := dkAt dk07ref3_cX12_via_0_a 8 rfl
theorem dX12_via_19 : decode cX12_via 19 = .ok (.iload_n 1, 1) := dkAt dk07ref3_cX12_via_0_a 9 rfl
theorem dX12_via_20 : decode cX12_via 20 = .ok (.iload_n 2, 1) := dkAt dk07ref3_cX12_via_0_a 10 rfl
theorem dX12_via_21 : decode cX12_via 21 = .ok (.invokevirtual 198, 3) := dkAt dk07ref3_cX12_via_0_a 11 rfl
theorem dX12_via_24 : decode cX12_via 24 = .ok (.istore_n 3, 1) := dkAt dk07ref3_cX12_via_0_a 12 rfl
theorem dX12_via_25 : decode cX12_via 25 = .ok (.iconst 0, 1) := dkAt dk07ref3_cX12_via_0_a 13 rfl
theorem dX12_via_26 : decode cX12_via 26 = .ok (.istore 4, 2) := dkAt dk07ref3_cX12_via_0_a 14 rfl
theorem dX12_via_28 : decode cX12_via 28 = .ok (.iload 4, 2) := dkAt dk07ref3_cX12_via_0_a 15 rfl
theorem dX12_via_30 : decode cX12_via 30 = .ok (.aload_n 0, 1) := dkAt dk07ref3_cX12_via_0_a 16 rfl
theorem dX12_via_31 : decode cX12_via 31 = .ok (.getfield 9, 3) := dkAt dk07ref3_cX12_via_0_a 17 rfl
theorem dX12_via_34 : decode cX12_via 34 = .ok (.iconst 0, 1) := dkAt dk07ref3_cX12_via_0_a 18 rfl
theorem dX12_via_35 : decode cX12_via 35 = .ok (.iaload, 1) := dkAt dk07ref3_cX12_via_0_a 19 rfl
theorem dX12_via_36 : decode cX12_via 36 = .ok (.if_icmp .ge 45, 3) := dkAt dk07ref3_cX12_via_0_a 20 rfl
theorem dX12_via_81 : decode cX12_via 81 = .ok (.bipush (-5), 2) := dkAt dk07ref3_cX12_via_0_a 21 rfl
theorem dX12_via_83 : decode cX12_via 83 = .ok (.ireturn, 1) := dkAt dk07ref3_cX12_via_0_a 22 rfl
theorem dX12_via_39 : decode cX12_via 39 = .ok (.iload_n 3, 1) := dkAt dk07ref3_cX12_via_0_a 23 rfl
theorem dX12_via_40 : decode cX12_via 40 = .ok (.ifCond .le 41, 3) := dkAt dk07ref3_cX12_via_0_a 24 rfl
theorem dX12_via_43 : decode cX12_via 43 = .ok (.aload_n 0, 1) := dkAt dk07ref3_cX12_via_0_a 25 rfl
theorem dX12_via_44 : decode cX12_via 44 = .ok (.getfield 25, 3) := dkAt dk07ref3_cX12_via_0_a 26 rfl
theorem dX12_via_47 : decode cX12_via 47 = .ok (.iload_n 1, 1) := dkAt dk07ref3_cX12_via_0_a 27 rfl
theorem dX12_via_48 : decode cX12_via 48 = .ok (.iaload, 1) := dkAt dk07ref3_cX12_via_0_a 28 rfl
theorem dX12_via_49 : decode cX12_via 49 = .ok (.iload 4, 2) := dkAt dk07ref3_cX12_via_0_a 29 rfl
theorem dX12_via_51 : decode cX12_via 51 = .ok (.ishr, 1) := dkAt dk07ref3_cX12_via_0_a 30 rfl
theorem dX12_via_52 : decode cX12_via 52 = .ok (.iconst 1, 1) := dkAt dk07ref3_cX12_via_0_a 31 rfl
theorem dX12_via_53 : decode cX12_via 53 = .ok (.iand, 1) := dkAt dk07ref3_cX12_via_0_a 32 rfl
theorem dX12_via_54 : decode cX12_via 54 = .ok (.iconst 1, 1) := dkAt dk07ref3_cX12_via_0_a 33 rfl
theorem dX12_via_55 : decode cX12_via 55 = .ok (.if_icmp .ne 20, 3) := dkAt dk07ref3_cX12_via_0_a 34 rfl
theorem dX12_via_75 : decode cX12_via 75 = .ok (.iinc 4 1, 3) := dkAt dk07ref3_cX12_via_0_a 35 rfl
theorem dX12_via_78 : decode cX12_via 78 = .ok (.goto (-50), 3) := dkAt dk07ref3_cX12_via_0_a 36 rfl
theorem dX12_via_58 : decode cX12_via 58 = .ok (.aload_n 0, 1) := dkAt dk07ref3_cX12_via_0_a 37 rfl
theorem dX12_via_59 : decode cX12_via 59 = .ok (.iload 4, 2) := dkAt dk07ref3_cX12_via_0_a 38 rfl
theorem dX12_via_61 : decode cX12_via 61 = .ok (.iload_n 2, 1) := dkAt dk07ref3_cX12_via_0_a 39 rfl
noncomputable def dk07ref3_cX12_via_40 : List (Nat × Instr × Nat) := [(62, .iconst 0, 1), (63, .invokevirtual 195, 3), (66, .iload_n 3, 1), (67, .iconst 1, 1), (68, .isub, 1), (69, .if_icmp .ne 6, 3), (72, .iload 4, 2), (74, .ireturn, 1), (16, .iconst (-1), 1), (17, .ireturn, 1)]
set_option maxRecDepth 100000 in
theorem dk07ref3_cX12_via_40_a : dkA cX12_via dk07ref3_cX12_via_40 = true := by decide +kernel
theorem dX12_via_62 : decode cX12_via 62 = .ok (.iconst 0, 1) := dkAt dk07ref3_cX12_via_40_a 0 rfl
theorem dX12_via_63 : decode cX12_via 63 = .ok (.invokevirtual 195, 3) := dkAt dk07ref3_cX12_via_40_a 1 rfl
theorem dX12_via_66 : decode cX12_via 66 = .ok (.iload_n 3, 1) := dkAt dk07ref3_cX12_via_40_a 2 rfl
theorem dX12_via_67 : decode cX12_via 67 = .ok (.iconst 1, 1) := dkAt dk07ref3_cX12_via_40_a 3 rfl
theorem dX12_via_68 : decode cX12_via 68 = .ok (.isub, 1) := dkAt dk07ref3_cX12_via_40_a 4 rfl
theorem dX12_via_69 : decode cX12_via 69 = .ok (.if_icmp .ne 6, 3) := dkAt dk07ref3_cX12_via_40_a 5 rfl
theorem dX12_via_72 : decode cX12_via 72 = .ok (.iload 4, 2) := dkAt dk07ref3_cX12_via_40_a 6 rfl
theorem dX12_via_74 : decode cX12_via 74 = .ok (.ireturn, 1) := dkAt dk07ref3_cX12_via_40_a 7 rfl
theorem dX12_via_16 : decode cX12_via 16 = .ok (.iconst (-1), 1) := dkAt dk07ref3_cX12_via_40_a 8 rfl
theorem dX12_via_17 : decode cX12_via 17 = .ok (.ireturn, 1) := dkAt dk07ref3_cX12_via_40_a 9 rfl
noncomputable def dk07ref3_cX12_cuts_0 : List (Nat × Instr × Nat) := [(0, .aload_n 0, 1), (1, .iload_n 1, 1), (2, .invokevirtual 164, 3), (5, .ifCond .eq 11, 3), (8, .aload_n 0, 1), (9, .iload_n 2, 1), (10, .invokevirtual 164, 3), (13, .ifCond .ne 5, 3), (18, .iconst 0, 1), (19, .istore_n 3, 1), (20, .aload_n 0, 1), (21, .iload_n 1, 1), (22, .iload_n 2, 1), (23, .invokevirtual 198, 3), (26, .bipush (-5), 2), (28, .if_icmp .ne 5, 3), (33, .iconst 0, 1), (34, .istore 4, 2), (36, .iload 4, 2), (38, .aload_n 0, 1), (39, .getfield 9, 3), (42, .iconst 0, 1), (43, .iaload, 1), (44, .if_icmp .ge 47, 3), (91, .iload_n 3, 1), (92, .ireturn, 1), (47, .iload_n 3, 1), (48, .iload 4, 2), (50, .iload_n 1, 1), (51, .if_icmp .eq 31, 3), (82, .iconst 0, 1), (83, .ior, 1), (84, .istore_n 3, 1), (85, .iinc 4 1, 3), (88, .goto (-52), 3), (54, .iload 4, 2), (56, .iload_n 2, 1), (57, .if_icmp .eq 25, 3), (60, .aload_n 0, 1), (61, .iload_n 1, 1)]
set_option maxRecDepth 100000 in
theorem dk07ref3_cX12_cuts_0_a : dkA cX12_cuts dk07ref3_cX12_cuts_0 = true := by decide +kernel
theorem dX12_cuts_0 : decode cX12_cuts 0 = .ok (.aload_n 0, 1) := dkAt dk07ref3_cX12_cuts_0_a 0 rfl
theorem dX12_cuts_1 : decode cX12_cuts 1 = .ok (.iload_n 1, 1) := dkAt dk07ref3_cX12_cuts_0_a 1 rfl
theorem dX12_cuts_2 : decode cX12_cuts 2 = .ok (.invokevirtual 164, 3) := dkAt dk07ref3_cX12_cuts_0_a 2 rfl
theorem dX12_cuts_5 : decode cX12_cuts 5 = .ok (.ifCond .eq 11, 3) := dkAt dk07ref3_cX12_cuts_0_a 3 rfl
theorem dX12_cuts_8 : decode cX12_cuts 8 = .ok (.aload_n 0, 1) := dkAt dk07ref3_cX12_cuts_0_a 4 rfl
theorem dX12_cuts_9 : decode cX12_cuts 9 = .ok (.iload_n 2, 1) := dkAt dk07ref3_cX12_cuts_0_a 5 rfl
theorem dX12_cuts_10 : decode cX12_cuts 10 = .ok (.invokevirtual 164, 3) := dkAt dk07ref3_cX12_cuts_0_a 6 rfl
theorem dX12_cuts_13 : decode cX12_cuts 13 = .ok (.ifCond .ne 5, 3) := dkAt dk07ref3_cX12_cuts_0_a 7 rfl
theorem dX12_cuts_18 : decode cX12_cuts 18 = .ok (.iconst 0, 1) := dkAt dk07ref3_cX12_cuts_0_a 8 rfl
theorem dX12_cuts_19 : decode cX12_cuts 19 = .ok (.istore_n 3, 1) := dkAt dk07ref3_cX12_cuts_0_a 9 rfl
theorem dX12_cuts_20 : decode cX12_cuts 20 = .ok (.aload_n 0, 1) := dkAt dk07ref3_cX12_cuts_0_a 10 rfl
theorem dX12_cuts_21 : decode cX12_cuts 21 = .ok (.iload_n 1, 1) := dkAt dk07ref3_cX12_cuts_0_a 11 rfl
theorem dX12_cuts_22 : decode cX12_cuts 22 = .ok (.iload_n 2, 1) := dkAt dk07ref3_cX12_cuts_0_a 12 rfl
theorem dX12_cuts_23 : decode cX12_cuts 23 = .ok (.invokevirtual 198, 3) := dkAt dk07ref3_cX12_cuts_0_a 13 rfl
theorem dX12_cuts_26 : decode cX12_cuts 26 = .ok (.bipush (-5), 2) := dkAt dk07ref3_cX12_cuts_0_a 14 rfl
theorem dX12_cuts_28 : decode cX12_cuts 28 = .ok (.if_icmp .ne 5, 3) := dkAt dk07ref3_cX12_cuts_0_a 15 rfl
theorem dX12_cuts_33 : decode cX12_cuts 33 = .ok (.iconst 0, 1) := dkAt dk07ref3_cX12_cuts_0_a 16 rfl
theorem dX12_cuts_34 : decode cX12_cuts 34 = .ok (.istore 4, 2) := dkAt dk07ref3_cX12_cuts_0_a 17 rfl
theorem dX12_cuts_36 : decode cX12_cuts 36 = .ok (.iload 4, 2) := dkAt dk07ref3_cX12_cuts_0_a 18 rfl
theorem dX12_cuts_38 : decode cX12_cuts 38 = .ok (.aload_n 0, 1) := dkAt dk07ref3_cX12_cuts_0_a 19 rfl
theorem dX12_cuts_39 : decode cX12_cuts 39 = .ok (.getfield 9, 3) := dkAt dk07ref3_cX12_cuts_0_a 20 rfl
theorem dX12_cuts_42 : decode cX12_cuts 42 = .ok (.iconst 0, 1) := dkAt dk07ref3_cX12_cuts_0_a 21 rfl
theorem dX12_cuts_43 : decode cX12_cuts 43 = .ok (.iaload, 1) := dkAt dk07ref3_cX12_cuts_0_a 22 rfl
theorem dX12_cuts_44 : decode cX12_cuts 44 = .ok (.if_icmp .ge 47, 3) := dkAt dk07ref3_cX12_cuts_0_a 23 rfl
theorem dX12_cuts_91 : decode cX12_cuts 91 = .ok (.iload_n 3, 1) := dkAt dk07ref3_cX12_cuts_0_a 24 rfl
theorem dX12_cuts_92 : decode cX12_cuts 92 = .ok (.ireturn, 1) := dkAt dk07ref3_cX12_cuts_0_a 25 rfl
theorem dX12_cuts_47 : decode cX12_cuts 47 = .ok (.iload_n 3, 1) := dkAt dk07ref3_cX12_cuts_0_a 26 rfl
theorem dX12_cuts_48 : decode cX12_cuts 48 = .ok (.iload 4, 2) := dkAt dk07ref3_cX12_cuts_0_a 27 rfl
theorem dX12_cuts_50 : decode cX12_cuts 50 = .ok (.iload_n 1, 1) := dkAt dk07ref3_cX12_cuts_0_a 28 rfl
theorem dX12_cuts_51 : decode cX12_cuts 51 = .ok (.if_icmp .eq 31, 3) := dkAt dk07ref3_cX12_cuts_0_a 29 rfl
theorem dX12_cuts_82 : decode cX12_cuts 82 = .ok (.iconst 0, 1) := dkAt dk07ref3_cX12_cuts_0_a 30 rfl
theorem dX12_cuts_83 : decode cX12_cuts 83 = .ok (.ior, 1) := dkAt dk07ref3_cX12_cuts_0_a 31 rfl
theorem dX12_cuts_84 : decode cX12_cuts 84 = .ok (.istore_n 3, 1) := dkAt dk07ref3_cX12_cuts_0_a 32 rfl
theorem dX12_cuts_85 : decode cX12_cuts 85 = .ok (.iinc 4 1, 3) := dkAt dk07ref3_cX12_cuts_0_a 33 rfl
theorem dX12_cuts_88 : decode cX12_cuts 88 = .ok (.goto (-52), 3) := dkAt dk07ref3_cX12_cuts_0_a 34 rfl
theorem dX12_cuts_54 : decode cX12_cuts 54 = .ok (.iload 4, 2) := dkAt dk07ref3_cX12_cuts_0_a 35 rfl
theorem dX12_cuts_56 : decode cX12_cuts 56 = .ok (.iload_n 2, 1) := dkAt dk07ref3_cX12_cuts_0_a 36 rfl
theorem dX12_cuts_57 : decode cX12_cuts 57 = .ok (.if_icmp .eq 25, 3) := dkAt dk07ref3_cX12_cuts_0_a 37 rfl
theorem dX12_cuts_60 : decode cX12_cuts 60 = .ok (.aload_n 0, 1) := dkAt dk07ref3_cX12_cuts_0_a 38 rfl
theorem dX12_cuts_61 : decode cX12_cuts 61 = .ok (.iload_n 1, 1) := dkAt dk07ref3_cX12_cuts_0_a 39 rfl
noncomputable def dk07ref3_cX12_cuts_40 : List (Nat × Instr × Nat) := [(62, .iload_n 2, 1), (63, .iconst 1, 1), (64, .iload 4, 2), (66, .ishl, 1), (67, .invokevirtual 195, 3), (70, .bipush (-5), 2), (72, .if_icmp .ne 10, 3), (75, .iconst 1, 1), (76, .iload 4, 2), (78, .ishl, 1), (79, .goto 4, 3), (31, .iconst 0, 1), (32, .ireturn, 1), (16, .iconst (-1), 1), (17, .ireturn, 1)]
set_option maxRecDepth 100000 in
theorem dk07ref3_cX12_cuts_40_a : dkA cX12_cuts dk07ref3_cX12_cuts_40 = true := by decide +kernel
theorem dX12_cuts_62 : decode cX12_cuts 62 = .ok (.iload_n 2, 1) := dkAt dk07ref3_cX12_cuts_40_a 0 rfl
theorem dX12_cuts_63 : decode cX12_cuts 63 = .ok (.iconst 1, 1) := dkAt dk07ref3_cX12_cuts_40_a 1 rfl
theorem dX12_cuts_64 : decode cX12_cuts 64 = .ok (.iload 4, 2) := dkAt dk07ref3_cX12_cuts_40_a 2 rfl
theorem dX12_cuts_66 : decode cX12_cuts 66 = .ok (.ishl, 1) := dkAt dk07ref3_cX12_cuts_40_a 3 rfl
theorem dX12_cuts_67 : decode cX12_cuts 67 = .ok (.invokevirtual 195, 3) := dkAt dk07ref3_cX12_cuts_40_a 4 rfl
theorem dX12_cuts_70 : decode cX12_cuts 70 = .ok (.bipush (-5), 2) := dkAt dk07ref3_cX12_cuts_40_a 5 rfl
theorem dX12_cuts_72 : decode cX12_cuts 72 = .ok (.if_icmp .ne 10, 3) := dkAt dk07ref3_cX12_cuts_40_a 6 rfl
theorem dX12_cuts_75 : decode cX12_cuts 75 = .ok (.iconst 1, 1) := dkAt dk07ref3_cX12_cuts_40_a 7 rfl
theorem dX12_cuts_76 : decode cX12_cuts 76 = .ok (.iload 4, 2) := dkAt dk07ref3_cX12_cuts_40_a 8 rfl
theorem dX12_cuts_78 : decode cX12_cuts 78 = .ok (.ishl, 1) := dkAt dk07ref3_cX12_cuts_40_a 9 rfl
theorem dX12_cuts_79 : decode cX12_cuts 79 = .ok (.goto 4, 3) := dkAt dk07ref3_cX12_cuts_40_a 10 rfl
theorem dX12_cuts_31 : decode cX12_cuts 31 = .ok (.iconst 0, 1) := dkAt dk07ref3_cX12_cuts_40_a 11 rfl
theorem dX12_cuts_32 : decode cX12_cuts 32 = .ok (.ireturn, 1) := dkAt dk07ref3_cX12_cuts_40_a 12 rfl
theorem dX12_cuts_16 : decode cX12_cuts 16 = .ok (.iconst (-1), 1) := dkAt dk07ref3_cX12_cuts_40_a 13 rfl
theorem dX12_cuts_17 : decode cX12_cuts 17 = .ok (.ireturn, 1) := dkAt dk07ref3_cX12_cuts_40_a 14 rfl
theorem kc_doesGo_0 : ∀ w ∈ wsX120, w ∈ wsX12_doesGo := fun w h => List.mem_cons_of_mem _ (gin_wsX120 w h)
theorem kc_doesGo_1 : (.fieldLink RX12 9 "MistHeapsModel" "s" "[I" : Cond) ∈ wsX12_doesGo := kc_of 1141 rfl rfl rfl
set_option maxHeartbeats 4000000 in
set_option maxRecDepth 100000 in
theorem c_doesGo (l : Launch) (dC : Nat → ClassId) (dI : Nat → Nat → Nat) (m0 aS aI aB aT aG aO aN aD aY : Nat) (th im ac sp en wg op se dn rn kd nu tv : Int32) (bv : Int64) (cS cB cT : ClassId) (fS : Nat → Int32) (fB : Nat → Int32) (fT : Nat → Int32) (a b : Nat) (sz : Nat) (ga : a ≤ 8) (gb : b ≤ 8) (zh : hold fS) : Met l yX12_doesGo wsX12_doesGo ({ frames := 3, cells := 0, slots := 0, locals := 77 } : Room) (va_Pc [.ref m0, .int (nI a), .int (nI b)] (fun U => U.heap.size = sz ∧ va_P (dC, dI) vwCl [(zo14irriiiiiirriirrrrlriiii m0 th aS aI im ac sp en wg op aB aT se dn aG aO aN aD bv aY rn kd nu tv), (zaI aS cS 901 fS), (zaI aB cB 6 fB), (zaI aT cT 64 fT)] U.heap ∧ va_K (dC, dI) vwCl [(cS, .int), (cB, .int), (cT, .boolean)] U ∧ va_D (fun _ => True) [(zo14irriiiiiirriirrrrlriiii m0 th aS aI im ac sp en wg op aB aT se dn aG aO aN aD bv aY rn kd nu tv), (zaI aS cS 901 fS), (zaI aB cB 6 fB), (zaI aT cT 64 fT)])) (va_Qi (fun (r : Int32) (u : (Nat → Int32) × (Nat → Int32) × (Int32) × (Int32)) => match u with | (fB9, fT9, se9, dn9) => r = 1 ∨ r = 0) (fun (u : (Nat → Int32) × (Nat → Int32) × (Int32) × (Int32)) (t : State) => match u with | (fB9, fT9, se9, dn9) => va_P (dC, dI) vwCl [(zo14irriiiiiirriirrrrlriiii m0 th aS aI im ac sp en wg op aB aT se9 dn9 aG aO aN aD bv aY rn kd nu tv), (zaI aS cS 901 fS), (zaI aB cB 6 fB9), (zaI aT cT 64 fT9)] t.heap ∧ va_K (dC, dI) vwCl [(cS, .int), (cB, .int), (cT, .boolean)] t ∧ va_D (va_A [(zo14irriiiiiirriirrrrlriiii m0 th aS aI im ac sp en wg op aB aT se dn aG aO aN aD bv aY rn kd nu tv), (zaI aS cS 901 fS), (zaI aB cB 6 fB), (zaI aT cT 64 fT)] sz) [(zo14irriiiiiirriirrrrlriiii m0 th aS aI im ac sp en wg op aB aT se9 dn9 aG aO aN aD bv aY rn kd nu tv), (zaI aS cS 901 fS), (zaI aB cB 6 fB9), (zaI aT cT 64 fT9)]) (va_A [(zo14irriiiiiirriirrrrlriiii m0 th aS aI im ac sp en wg op aB aT se dn aG aO aN aD bv aY rn kd nu tv), (zaI aS cS 901 fS), (zaI aB cB 6 fB), (zaI aT cT 64 fT)] sz)) 0 0 (va_A [(zo14irriiiiiirriirrrrlriiii m0 th aS aI im ac sp en wg op aB aT se dn aG aO aN aD bv aY rn kd nu tv), (zaI aS cS 901 fS), (zaI aB cB 6 fB), (zaI aT cT 64 fT)] sz) := by
  refine met_ofQ (cc := cX12_doesGo) (maxL := 7) (ret := (some .boolean)) (by decide) rfl ?_
  intro p e s m args below meth c s₁ Q B hml hv hQ
  obtain ⟨rfl, hsz, hP, hK, hD0⟩ := hv
  have hx := B.exec
  have hb := B.bytes
  have hr := B.returns
  have hts := atoms_spec (ws := wsX12_doesGo) B.pre
  have hown : s.vm.findClass RX12 = some m.cls := findClass_of_methodNamed B.named
  have hlocks := B.notSynchronized
  subst hsz
  have hD := hD0.self (sz := s.heap.size)
  generalize hAe : va_A [(zo14irriiiiiirriirrrrlriiii m0 th aS aI im ac sp en wg op aB aT se dn aG aO aN aD bv aY rn kd nu tv), (zaI aS cS 901 fS), (zaI aB cB 6 fB), (zaI aT cT 64 fT)] s.heap.size = A at hD hQ ⊢
  have hA : ∀ q : Nat, s.heap.size ≤ q → A q := fun q h => by rw [← hAe]; exact Or.inr h
  have hS : va_S A s.heap s.heap [] := va_S.rf
  have hl := lv_entry [.ref m0, .int (nI a), .int (nI b)] (n := 7) (Nat.le_of_ble_eq_true rfl)
  rw [lg_entry_eq]
  generalize (lg_sl [.ref m0, .int (nI a), .int (nI b)] ++ List.replicate (7 - (lg_sl [.ref m0, .int (nI a), .int (nI b)]).length) Slot.unset).toArray = ls at hl ⊢
  generalize hag : ([.ref m0, .int (nI a), .int (nI b)] : List Value).toArray = args at hts hQ ⊢
  have hl : lv_has ls 7 [(0, .ref m0), (1, .int (nI a)), (2, .int (nI b))] := hl
  obtain ⟨H, hH⟩ : ∃ H : Heap, H = s.heap := ⟨_, rfl⟩
  rw [← hH] at hP
  rw [← hH]
  have hS : va_S A s.heap H [] := by rw [hH]; exact hS
  obtain ⟨locs, hlo⟩ : ∃ L : List Loc, L = [] := ⟨_, rfl⟩
  rw [← hlo] at hS
  rw [← hlo]
  clear hH hlo
  refine lv_aload_n hx hb dX12_doesGo_0 rfl (lv_at hl 0 rfl) ?_
  refine va_get (D := (dC, dI)) (ci := 14) (v := .ref aS) (C := RX12) (T := TX12) (N := 23) hx hb hts kc_doesGo_0 hown hK hP 0 rfl rfl 1 (by decide) (hts (.fieldLink RX12 9 "MistHeapsModel" "s" "[I") kc_doesGo_1) (fun _ h9 => h9) rfl dX12_doesGo_1 ?_
  refine lv_bipush (v := 10) hx hb dX12_doesGo_4 (by decide) ?_
  refine lv_iload_n hx hb dX12_doesGo_6 rfl (lv_at hl 1 rfl) ?_
  refine lv_iadd hx hb dX12_doesGo_7 ?_
  refine qi_as (y := nI (10 + a)) (nI_add 10 a) ?_
  refine va_iald hx hb hK hP 1 0 rfl rfl (vp_in_nI (n := 10 + a) (N := 901) (by omega) (by omega)) dX12_doesGo_8 ?_
  refine qi_as (y := fS (10 + a)) (by rw [nI_clamp (by omega)]) ?_
  refine lv_istore_n (lv' := [(3, .int (fS (10 + a))), (0, .ref m0), (1, .int (nI a)), (2, .int (nI b))]) hx hb dX12_doesGo_9 rfl hl (by decide) rfl (fun ls hl => ?_)
  refine lv_iload_n hx hb dX12_doesGo_10 rfl (lv_at hl 2 rfl) ?_
  refine lv_iload_n hx hb dX12_doesGo_11 rfl (lv_at hl 3 rfl) ?_
  refine lv_icmp_eq (tgt := 43) hx hb dX12_doesGo_12 (by decide) (fun c_1 => ?_) (fun c_1 => ?_)
  · skip
    have c_1 : a = b := (nI_eq (a := a) (b := b) (by omega) (by omega)).mp c_1
    refine lv_iconst (v := 0) hx hb dX12_doesGo_43 (by decide) ?_
    rw [hQ]
    have hP9 := hP.sub (ws' := [(zo14irriiiiiirriirrrrlriiii m0 th aS aI im ac sp en wg op aB aT se dn aG aO aN aD bv aY rn kd nu tv), (zaI aS cS 901 fS), (zaI aB cB 6 fB), (zaI aT cT 64 fT)]) [0, 1, 2, 3] rfl
    have hD9 := hD.sub (ws' := [(zo14irriiiiiirriirrrrlriiii m0 th aS aI im ac sp en wg op aB aT se dn aG aO aN aD bv aY rn kd nu tv), (zaI aS cS 901 fS), (zaI aB cB 6 fB), (zaI aT cT 64 fT)]) [0, 1, 2, 3] (by decide) rfl
    have hK9 := hK.sub (tys' := [(cS, .int), (cB, .int), (cT, .boolean)]) [0, 1, 2] rfl
    exact W.zret (v := 0) hx hb hr rfl (fun tQ htQ hWQ => ⟨⟨0, (fB, fT, se, dn), rfl, by first | exact Or.inl rfl | exact Or.inr rfl, by rw [htQ]; exact hP9, va_K.moved hWQ.alike hK9, hD9⟩, hS.F htQ⟩) hS.2.2 dX12_doesGo_44
  · skip
    have c_1 : ¬ a = b := fun q => c_1 ((nI_eq (a := a) (b := b) (by omega) (by omega)).mpr q)
    refine lv_iload_n hx hb dX12_doesGo_15 rfl (lv_at hl 0 rfl) ?_
    refine lv_iconst (v := 3) hx hb dX12_doesGo_16 (by decide) ?_
    refine lv_icmp_eq (tgt := 43) hx hb dX12_doesGo_17 (by decide) (fun c_2 => ?_) (fun c_2 => ?_)
    · skip
      refine lv_iconst (v := 0) hx hb dX12_doesGo_43 (by decide) ?_
      rw [hQ]
      have hP9 := hP.sub (ws' := [(zo14irriiiiiirriirrrrlriiii m0 th aS aI im ac sp en wg op aB aT se dn aG aO aN aD bv aY rn kd nu tv), (zaI aS cS 901 fS), (zaI aB cB 6 fB), (zaI aT cT 64 fT)]) [0, 1, 2, 3] rfl
      have hD9 := hD.sub (ws' := [(zo14irriiiiiirriirrrrlriiii m0 th aS aI im ac sp en wg op aB aT se dn aG aO aN aD bv aY rn kd nu tv), (zaI aS cS 901 fS), (zaI aB cB 6 fB), (zaI aT cT 64 fT)]) [0, 1, 2, 3] (by decide) rfl
      have hK9 := hK.sub (tys' := [(cS, .int), (cB, .int), (cT, .boolean)]) [0, 1, 2] rfl
      exact W.zret (v := 0) hx hb hr rfl (fun tQ htQ hWQ => ⟨⟨0, (fB, fT, se, dn), rfl, by first | exact Or.inl rfl | exact Or.inr rfl, by rw [htQ]; exact hP9, va_K.moved hWQ.alike hK9, hD9⟩, hS.F htQ⟩) hS.2.2 dX12_doesGo_44
    · skip
      refine lv_iload_n hx hb dX12_doesGo_20 rfl (lv_at hl 0 rfl) ?_
      refine lv_bipush (v := 6) hx hb dX12_doesGo_21 (by decide) ?_
      refine lv_icmp_eq (tgt := 43) hx hb dX12_doesGo_23 (by decide) (fun c_3 => ?_) (fun c_3 => ?_)
      · skip
        refine lv_iconst (v := 0) hx hb dX12_doesGo_43 (by decide) ?_
        rw [hQ]
        have hP9 := hP.sub (ws' := [(zo14irriiiiiirriirrrrlriiii m0 th aS aI im ac sp en wg op aB aT se dn aG aO aN aD bv aY rn kd nu tv), (zaI aS cS 901 fS), (zaI aB cB 6 fB), (zaI aT cT 64 fT)]) [0, 1, 2, 3] rfl
        have hD9 := hD.sub (ws' := [(zo14irriiiiiirriirrrrlriiii m0 th aS aI im ac sp en wg op aB aT se dn aG aO aN aD bv aY rn kd nu tv), (zaI aS cS 901 fS), (zaI aB cB 6 fB), (zaI aT cT 64 fT)]) [0, 1, 2, 3] (by decide) rfl
        have hK9 := hK.sub (tys' := [(cS, .int), (cB, .int), (cT, .boolean)]) [0, 1, 2] rfl
        exact W.zret (v := 0) hx hb hr rfl (fun tQ htQ hWQ => ⟨⟨0, (fB, fT, se, dn), rfl, by first | exact Or.inl rfl | exact Or.inr rfl, by rw [htQ]; exact hP9, va_K.moved hWQ.alike hK9, hD9⟩, hS.F htQ⟩) hS.2.2 dX12_doesGo_44
      · skip
        refine lv_aload_n hx hb dX12_doesGo_26 rfl (lv_at hl 1 rfl) ?_
        refine lv_iload_n hx hb dX12_doesGo_27 rfl (lv_at hl 3 rfl) ?_
        refine lv_aload_n hx hb dX12_doesGo_28 rfl (lv_at hl 1 rfl) ?_
        refine va_get (D := (dC, dI)) (ci := 14) (v := .ref aS) (C := RX12) (T := TX12) (N := 23) hx hb hts kc_doesGo_0 hown hK hP 0 rfl rfl 1 (by decide) (hts (.fieldLink RX12 9 "MistHeapsModel" "s" "[I") kc_doesGo_1) (fun _ h9 => h9) rfl dX12_doesGo_29 ?_
        refine lv_bipush (v := 28) hx hb dX12_doesGo_32 (by decide) ?_
        refine lv_iload_n hx hb dX12_doesGo_34 rfl (lv_at hl 2 rfl) ?_
        refine lv_iadd hx hb dX12_doesGo_35 ?_
        refine qi_as (y := nI (28 + a)) (nI_add 28 a) ?_
        refine va_iald hx hb hK hP 1 0 rfl rfl (vp_in_nI (n := 28 + a) (N := 901) (by omega) (by omega)) dX12_doesGo_36 ?_
        refine qi_as (y := fS (28 + a)) (by rw [nI_clamp (by omega)]) ?_
        have hPc := hP.sub (ws' := [(zo14irriiiiiirriirrrrlriiii m0 th aS aI im ac sp en wg op aB aT se dn aG aO aN aD bv aY rn kd nu tv), (zaI aS cS 901 fS), (zaI aB cB 6 fB), (zaI aT cT 64 fT)]) [0, 1, 2, 3] rfl
        have hDc := hD.sub (ws' := [(zo14irriiiiiirriirrrrlriiii m0 th aS aI im ac sp en wg op aB aT se dn aG aO aN aD bv aY rn kd nu tv), (zaI aS cS 901 fS), (zaI aB cB 6 fB), (zaI aT cT 64 fT)]) [0, 1, 2, 3] (by decide) rfl
        have hKc := hK.sub (tys' := [(cS, .int), (cB, .int), (cT, .boolean)]) [0, 1, 2] rfl
        have hFc := va_free (wc := [(zo14irriiiiiirriirrrrlriiii m0 th aS aI im ac sp en wg op aB aT se dn aG aO aN aD bv aY rn kd nu tv), (zaI aS cS 901 fS), (zaI aB cB 6 fB), (zaI aT cT 64 fT)]) hD hS hA [0, 1, 2, 3] rfl
        refine va_calli (va_runV (As := [.int (nI b), .int (fS (28 + a))]) (rest := []) ⟨hx, hb, hml, hown, hts⟩ (c_isSeen l dC dI m0 aS aI aB aT aG aO aN aD aY th im ac sp en wg op se dn rn kd nu tv bv cS cB cT fS fB fT b (fS (28 + a)) H.size (by omega) (zh)) (cwV 2 hts gX12_doesGo_X12_isSeen rfl rfl rfl hd_yX12_isSeen ⟨Nat.le_of_ble_eq_true rfl, Nat.le_of_ble_eq_true rfl⟩) ⟨fun a U g mk q => by obtain ⟨q0, q1, qP, qK, qD⟩ := q; exact ⟨q0, q1, qP, va_K.moved (u := U) (U := U.calling g mk a) (Vm.Alike.refl U.vm) qK, qD⟩, va_recv hK hP (ci := 14) (q := (RX12, TX12, 23)) (q0 := 0) rfl rfl, fun U hU hW => ⟨rfl, by rw [hU], by rw [hU]; exact hPc, va_K.moved hW.alike hKc, hDc.weaken (fun _ _ _ _ => trivial)⟩⟩ rfl rfl hl.1 rfl (lv_room (Nat.le_of_ble_eq_true rfl)) dX12_doesGo_37 ⟨Nat.le_of_ble_eq_true rfl, Nat.le_of_ble_eq_true rfl⟩) hS (fun q _ h => hFc q h) hFc (fun r_4 u tC H1 locs htC hvm hw_5 hB hz1 hk1 hS => ?_)
        obtain ⟨fB9_6, fT9_7, se9_8, dn9_9⟩ := u
        try dsimp only at hw_5 hB
        obtain ⟨hP1, hK1, hD1⟩ := hB
        rw [htC] at hP1
        have hK1 := va_K.moved hvm.symm hK1
        obtain ⟨hP, hD⟩ := va_join (wr := []) (w1 := [(zo14irriiiiiirriirrrrlriiii m0 th aS aI im ac sp en wg op aB aT se9_8 dn9_9 aG aO aN aD bv aY rn kd nu tv), (zaI aS cS 901 fS), (zaI aB cB 6 fB9_6), (zaI aT cT 64 fT9_7)]) hP hD [0, 1, 2, 3] [] rfl rfl (by decide) (by decide) hk1 hFc hP1 hD1
        have hK := (hK.sub (tys' := []) [] rfl).app hK1
        generalize H1 = H at hP hS ⊢
        have hP : va_P (dC, dI) vwCl [(zo14irriiiiiirriirrrrlriiii m0 th aS aI im ac sp en wg op aB aT se9_8 dn9_9 aG aO aN aD bv aY rn kd nu tv), (zaI aS cS 901 fS), (zaI aB cB 6 fB9_6), (zaI aT cT 64 fT9_7)] H := hP
        have hD : va_D A [(zo14irriiiiiirriirrrrlriiii m0 th aS aI im ac sp en wg op aB aT se9_8 dn9_9 aG aO aN aD bv aY rn kd nu tv), (zaI aS cS 901 fS), (zaI aB cB 6 fB9_6), (zaI aT cT 64 fT9_7)] := hD
        have hK : va_K (dC, dI) vwCl [(cS, .int), (cB, .int), (cT, .boolean)] s := hK
        rcases hw_5 with rfl | rfl
        · skip
          refine lv_if_ne (tgt := 45) hx hb dX12_doesGo_40 (by decide) (fun _ => ?_) (fun c_10 => absurd c_10 (by decide))
          refine lv_aload_n hx hb dX12_doesGo_45 rfl (lv_at hl 1 rfl) ?_
          refine va_get (D := (dC, dI)) (ci := 14) (v := .ref aS) (C := RX12) (T := TX12) (N := 23) hx hb hts kc_doesGo_0 hown hK hP 0 rfl rfl 1 (by decide) (hts (.fieldLink RX12 9 "MistHeapsModel" "s" "[I") kc_doesGo_1) (fun _ h9 => h9) rfl dX12_doesGo_46 ?_
          refine lv_bipush (v := 19) hx hb dX12_doesGo_49 (by decide) ?_
          refine lv_iload_n hx hb dX12_doesGo_51 rfl (lv_at hl 2 rfl) ?_
          refine lv_iadd hx hb dX12_doesGo_52 ?_
          refine qi_as (y := nI (19 + a)) (nI_add 19 a) ?_
          refine va_iald hx hb hK hP 1 0 rfl rfl (vp_in_nI (n := 19 + a) (N := 901) (by omega) (by omega)) dX12_doesGo_53 ?_
          refine qi_as (y := fS (19 + a)) (by rw [nI_clamp (by omega)]) ?_
          refine lv_bipush (v := 8) hx hb dX12_doesGo_54 (by decide) ?_
          refine lv_irem hx hb dX12_doesGo_56 (by decide) ?_
          refine lv_istore (lv' := [(4, .int ((fS (19 + a)) - (fS (19 + a)) / 8 * 8)), (3, .int (fS (10 + a))), (0, .ref m0), (1, .int (nI a)), (2, .int (nI b))]) hx hb dX12_doesGo_57 hl (by decide) rfl (fun ls hl => ?_)
          refine lv_aload_n hx hb dX12_doesGo_59 rfl (lv_at hl 2 rfl) ?_
          refine va_get (D := (dC, dI)) (ci := 14) (v := .ref aS) (C := RX12) (T := TX12) (N := 23) hx hb hts kc_doesGo_0 hown hK hP 0 rfl rfl 1 (by decide) (hts (.fieldLink RX12 9 "MistHeapsModel" "s" "[I") kc_doesGo_1) (fun _ h9 => h9) rfl dX12_doesGo_60 ?_
          refine lv_bipush (v := 28) hx hb dX12_doesGo_63 (by decide) ?_
          refine lv_iload_n hx hb dX12_doesGo_65 rfl (lv_at hl 3 rfl) ?_
          refine lv_iadd hx hb dX12_doesGo_66 ?_
          refine qi_as (y := nI (28 + a)) (nI_add 28 a) ?_
          refine va_iald hx hb hK hP 1 0 rfl rfl (vp_in_nI (n := 28 + a) (N := 901) (by omega) (by omega)) dX12_doesGo_67 ?_
          refine qi_as (y := fS (28 + a)) (by rw [nI_clamp (by omega)]) ?_
          refine lv_istore (lv' := [(5, .int (fS (28 + a))), (4, .int ((fS (19 + a)) - (fS (19 + a)) / 8 * 8)), (3, .int (fS (10 + a))), (0, .ref m0), (1, .int (nI a)), (2, .int (nI b))]) hx hb dX12_doesGo_68 hl (by decide) rfl (fun ls hl => ?_)
          refine lv_aload_n hx hb dX12_doesGo_70 rfl (lv_at hl 3 rfl) ?_
          refine va_get (D := (dC, dI)) (ci := 14) (v := .ref aS) (C := RX12) (T := TX12) (N := 23) hx hb hts kc_doesGo_0 hown hK hP 0 rfl rfl 1 (by decide) (hts (.fieldLink RX12 9 "MistHeapsModel" "s" "[I") kc_doesGo_1) (fun _ h9 => h9) rfl dX12_doesGo_71 ?_
          refine lv_bipush (v := 28) hx hb dX12_doesGo_74 (by decide) ?_
          refine lv_iload_n hx hb dX12_doesGo_76 rfl (lv_at hl 5 rfl) ?_
          refine lv_iadd hx hb dX12_doesGo_77 ?_
          refine qi_as (y := nI (28 + b)) (nI_add 28 b) ?_
          refine va_iald hx hb hK hP 1 0 rfl rfl (vp_in_nI (n := 28 + b) (N := 901) (by omega) (by omega)) dX12_doesGo_78 ?_
          refine qi_as (y := fS (28 + b)) (by rw [nI_clamp (by omega)]) ?_
          refine lv_istore (lv' := [(6, .int (fS (28 + b))), (5, .int (fS (28 + a))), (4, .int ((fS (19 + a)) - (fS (19 + a)) / 8 * 8)), (3, .int (fS (10 + a))), (0, .ref m0), (1, .int (nI a)), (2, .int (nI b))]) hx hb dX12_doesGo_79 hl (by decide) rfl (fun ls hl => ?_)
          refine lv_iload_n hx hb dX12_doesGo_81 rfl (lv_at hl 3 rfl) ?_
          refine lv_iconst (v := 4) hx hb dX12_doesGo_82 (by decide) ?_
          refine lv_icmp_ne (tgt := 128) hx hb dX12_doesGo_83 (by decide) (fun c_11 => ?_) (fun c_11 => ?_)
          · skip
            refine lv_iconst (v := 1) hx hb dX12_doesGo_128 (by decide) ?_
            refine lv_goto (tgt := 133) hx hb dX12_doesGo_129 (by decide) ?_
            rw [hQ]
            have hP9 := hP.sub (ws' := [(zo14irriiiiiirriirrrrlriiii m0 th aS aI im ac sp en wg op aB aT se9_8 dn9_9 aG aO aN aD bv aY rn kd nu tv), (zaI aS cS 901 fS), (zaI aB cB 6 fB9_6), (zaI aT cT 64 fT9_7)]) [0, 1, 2, 3] rfl
            have hD9 := hD.sub (ws' := [(zo14irriiiiiirriirrrrlriiii m0 th aS aI im ac sp en wg op aB aT se9_8 dn9_9 aG aO aN aD bv aY rn kd nu tv), (zaI aS cS 901 fS), (zaI aB cB 6 fB9_6), (zaI aT cT 64 fT9_7)]) [0, 1, 2, 3] (by decide) rfl
            have hK9 := hK.sub (tys' := [(cS, .int), (cB, .int), (cT, .boolean)]) [0, 1, 2] rfl
            exact W.zret (v := 1) hx hb hr rfl (fun tQ htQ hWQ => ⟨⟨1, (fB9_6, fT9_7, se9_8, dn9_9), rfl, by first | exact Or.inl rfl | exact Or.inr rfl, by rw [htQ]; exact hP9, va_K.moved hWQ.alike hK9, hD9⟩, hS.F htQ⟩) hS.2.2 dX12_doesGo_133
          · skip
            refine lv_iload hx hb dX12_doesGo_86 (lv_at hl 2 rfl) ?_
            refine vp_callSi (va_runS (As := [.int ((fS (19 + a)) - (fS (19 + a)) / 8 * 8)]) (rest := []) ⟨hx, hb, hml, hown, hts⟩ (c_rowsOf l dC dI ((fS (19 + a)) - (fS (19 + a)) / 8 * 8)) (va_cwS 1 hts gX12_doesGo_X12_rowsOf rfl rfl rfl hd_yX12_rowsOf.2 ⟨Nat.le_of_ble_eq_true rfl, Nat.le_of_ble_eq_true rfl⟩) ⟨fun a U g mk q => ⟨q.1, trivial⟩, fun U hU hW => ⟨rfl, trivial⟩⟩ rfl rfl hl.1 rfl (lv_room (Nat.le_of_ble_eq_true rfl)) dX12_doesGo_88 ⟨Nat.le_of_ble_eq_true rfl, Nat.le_of_ble_eq_true rfl⟩).run (fun r_12 hw_13 => ?_)
            refine lv_iload hx hb dX12_doesGo_91 (lv_at hl 1 rfl) ?_
            refine lv_bipush (v := 6) hx hb dX12_doesGo_93 (by decide) ?_
            refine lv_idiv hx hb dX12_doesGo_95 (by decide) ?_
            refine lv_iload hx hb dX12_doesGo_96 (lv_at hl 0 rfl) ?_
            refine lv_bipush (v := 6) hx hb dX12_doesGo_98 (by decide) ?_
            refine lv_idiv hx hb dX12_doesGo_100 (by decide) ?_
            refine vp_callSi (va_runS (As := [.int r_12, .int ((fS (28 + a)) / 6), .int ((fS (28 + b)) / 6)]) (rest := []) ⟨hx, hb, hml, hown, hts⟩ (c_side l dC dI r_12 ((fS (28 + a)) / 6) ((fS (28 + b)) / 6)) (va_cwS 3 hts gX12_doesGo_X12_isThatSide rfl rfl rfl hd_yX12_isThatSide.2 ⟨Nat.le_of_ble_eq_true rfl, Nat.le_of_ble_eq_true rfl⟩) ⟨fun a U g mk q => ⟨q.1, trivial⟩, fun U hU hW => ⟨rfl, trivial⟩⟩ rfl rfl hl.1 rfl (lv_room (Nat.le_of_ble_eq_true rfl)) dX12_doesGo_101 ⟨Nat.le_of_ble_eq_true rfl, Nat.le_of_ble_eq_true rfl⟩).run (fun r_14 hw_15 => ?_)
            rcases hw_15 with rfl | rfl
            · skip
              refine lv_if_eq (tgt := 132) hx hb dX12_doesGo_104 (by decide) (fun c_16 => absurd c_16 (by decide)) (fun _ => ?_)
              refine lv_iload hx hb dX12_doesGo_107 (lv_at hl 2 rfl) ?_
              refine vp_callSi (va_runS (As := [.int ((fS (19 + a)) - (fS (19 + a)) / 8 * 8)]) (rest := []) ⟨hx, hb, hml, hown, hts⟩ (c_columnsOf l dC dI ((fS (19 + a)) - (fS (19 + a)) / 8 * 8)) (va_cwS 1 hts gX12_doesGo_X12_columnsOf rfl rfl rfl hd_yX12_columnsOf.2 ⟨Nat.le_of_ble_eq_true rfl, Nat.le_of_ble_eq_true rfl⟩) ⟨fun a U g mk q => ⟨q.1, trivial⟩, fun U hU hW => ⟨rfl, trivial⟩⟩ rfl rfl hl.1 rfl (lv_room (Nat.le_of_ble_eq_true rfl)) dX12_doesGo_109 ⟨Nat.le_of_ble_eq_true rfl, Nat.le_of_ble_eq_true rfl⟩).run (fun r_17 hw_18 => ?_)
              refine lv_iload hx hb dX12_doesGo_112 (lv_at hl 1 rfl) ?_
              refine lv_bipush (v := 6) hx hb dX12_doesGo_114 (by decide) ?_
              refine lv_irem hx hb dX12_doesGo_116 (by decide) ?_
              refine lv_iload hx hb dX12_doesGo_117 (lv_at hl 0 rfl) ?_
              refine lv_bipush (v := 6) hx hb dX12_doesGo_119 (by decide) ?_
              refine lv_irem hx hb dX12_doesGo_121 (by decide) ?_
              refine vp_callSi (va_runS (As := [.int r_17, .int ((fS (28 + a)) - (fS (28 + a)) / 6 * 6), .int ((fS (28 + b)) - (fS (28 + b)) / 6 * 6)]) (rest := []) ⟨hx, hb, hml, hown, hts⟩ (c_side l dC dI r_17 ((fS (28 + a)) - (fS (28 + a)) / 6 * 6) ((fS (28 + b)) - (fS (28 + b)) / 6 * 6)) (va_cwS 3 hts gX12_doesGo_X12_isThatSide rfl rfl rfl hd_yX12_isThatSide.2 ⟨Nat.le_of_ble_eq_true rfl, Nat.le_of_ble_eq_true rfl⟩) ⟨fun a U g mk q => ⟨q.1, trivial⟩, fun U hU hW => ⟨rfl, trivial⟩⟩ rfl rfl hl.1 rfl (lv_room (Nat.le_of_ble_eq_true rfl)) dX12_doesGo_122 ⟨Nat.le_of_ble_eq_true rfl, Nat.le_of_ble_eq_true rfl⟩).run (fun r_19 hw_20 => ?_)
              rcases hw_20 with rfl | rfl
              · skip
                refine lv_if_eq (tgt := 132) hx hb dX12_doesGo_125 (by decide) (fun c_21 => absurd c_21 (by decide)) (fun _ => ?_)
                refine lv_iconst (v := 1) hx hb dX12_doesGo_128 (by decide) ?_
                refine lv_goto (tgt := 133) hx hb dX12_doesGo_129 (by decide) ?_
                rw [hQ]
                have hP9 := hP.sub (ws' := [(zo14irriiiiiirriirrrrlriiii m0 th aS aI im ac sp en wg op aB aT se9_8 dn9_9 aG aO aN aD bv aY rn kd nu tv), (zaI aS cS 901 fS), (zaI aB cB 6 fB9_6), (zaI aT cT 64 fT9_7)]) [0, 1, 2, 3] rfl
                have hD9 := hD.sub (ws' := [(zo14irriiiiiirriirrrrlriiii m0 th aS aI im ac sp en wg op aB aT se9_8 dn9_9 aG aO aN aD bv aY rn kd nu tv), (zaI aS cS 901 fS), (zaI aB cB 6 fB9_6), (zaI aT cT 64 fT9_7)]) [0, 1, 2, 3] (by decide) rfl
                have hK9 := hK.sub (tys' := [(cS, .int), (cB, .int), (cT, .boolean)]) [0, 1, 2] rfl
                exact W.zret (v := 1) hx hb hr rfl (fun tQ htQ hWQ => ⟨⟨1, (fB9_6, fT9_7, se9_8, dn9_9), rfl, by first | exact Or.inl rfl | exact Or.inr rfl, by rw [htQ]; exact hP9, va_K.moved hWQ.alike hK9, hD9⟩, hS.F htQ⟩) hS.2.2 dX12_doesGo_133
              · skip
                refine lv_if_eq (tgt := 132) hx hb dX12_doesGo_125 (by decide) (fun _ => ?_) (fun c_22 => absurd c_22 (by decide))
                refine lv_iconst (v := 0) hx hb dX12_doesGo_132 (by decide) ?_
                rw [hQ]
                have hP9 := hP.sub (ws' := [(zo14irriiiiiirriirrrrlriiii m0 th aS aI im ac sp en wg op aB aT se9_8 dn9_9 aG aO aN aD bv aY rn kd nu tv), (zaI aS cS 901 fS), (zaI aB cB 6 fB9_6), (zaI aT cT 64 fT9_7)]) [0, 1, 2, 3] rfl
                have hD9 := hD.sub (ws' := [(zo14irriiiiiirriirrrrlriiii m0 th aS aI im ac sp en wg op aB aT se9_8 dn9_9 aG aO aN aD bv aY rn kd nu tv), (zaI aS cS 901 fS), (zaI aB cB 6 fB9_6), (zaI aT cT 64 fT9_7)]) [0, 1, 2, 3] (by decide) rfl
                have hK9 := hK.sub (tys' := [(cS, .int), (cB, .int), (cT, .boolean)]) [0, 1, 2] rfl
                exact W.zret (v := 0) hx hb hr rfl (fun tQ htQ hWQ => ⟨⟨0, (fB9_6, fT9_7, se9_8, dn9_9), rfl, by first | exact Or.inl rfl | exact Or.inr rfl, by rw [htQ]; exact hP9, va_K.moved hWQ.alike hK9, hD9⟩, hS.F htQ⟩) hS.2.2 dX12_doesGo_133
            · skip
              refine lv_if_eq (tgt := 132) hx hb dX12_doesGo_104 (by decide) (fun _ => ?_) (fun c_23 => absurd c_23 (by decide))
              refine lv_iconst (v := 0) hx hb dX12_doesGo_132 (by decide) ?_
              rw [hQ]
              have hP9 := hP.sub (ws' := [(zo14irriiiiiirriirrrrlriiii m0 th aS aI im ac sp en wg op aB aT se9_8 dn9_9 aG aO aN aD bv aY rn kd nu tv), (zaI aS cS 901 fS), (zaI aB cB 6 fB9_6), (zaI aT cT 64 fT9_7)]) [0, 1, 2, 3] rfl
              have hD9 := hD.sub (ws' := [(zo14irriiiiiirriirrrrlriiii m0 th aS aI im ac sp en wg op aB aT se9_8 dn9_9 aG aO aN aD bv aY rn kd nu tv), (zaI aS cS 901 fS), (zaI aB cB 6 fB9_6), (zaI aT cT 64 fT9_7)]) [0, 1, 2, 3] (by decide) rfl
              have hK9 := hK.sub (tys' := [(cS, .int), (cB, .int), (cT, .boolean)]) [0, 1, 2] rfl
              exact W.zret (v := 0) hx hb hr rfl (fun tQ htQ hWQ => ⟨⟨0, (fB9_6, fT9_7, se9_8, dn9_9), rfl, by first | exact Or.inl rfl | exact Or.inr rfl, by rw [htQ]; exact hP9, va_K.moved hWQ.alike hK9, hD9⟩, hS.F htQ⟩) hS.2.2 dX12_doesGo_133
        · skip
          refine lv_if_ne (tgt := 45) hx hb dX12_doesGo_40 (by decide) (fun c_24 => absurd c_24 (by decide)) (fun _ => ?_)
          refine lv_iconst (v := 0) hx hb dX12_doesGo_43 (by decide) ?_
          rw [hQ]
          have hP9 := hP.sub (ws' := [(zo14irriiiiiirriirrrrlriiii m0 th aS aI im ac sp en wg op aB aT se9_8 dn9_9 aG aO aN aD bv aY rn kd nu tv), (zaI aS cS 901 fS), (zaI aB cB 6 fB9_6), (zaI aT cT 64 fT9_7)]) [0, 1, 2, 3] rfl
          have hD9 := hD.sub (ws' := [(zo14irriiiiiirriirrrrlriiii m0 th aS aI im ac sp en wg op aB aT se9_8 dn9_9 aG aO aN aD bv aY rn kd nu tv), (zaI aS cS 901 fS), (zaI aB cB 6 fB9_6), (zaI aT cT 64 fT9_7)]) [0, 1, 2, 3] (by decide) rfl
          have hK9 := hK.sub (tys' := [(cS, .int), (cB, .int), (cT, .boolean)]) [0, 1, 2] rfl
          exact W.zret (v := 0) hx hb hr rfl (fun tQ htQ hWQ => ⟨⟨0, (fB9_6, fT9_7, se9_8, dn9_9), rfl, by first | exact Or.inl rfl | exact Or.inr rfl, by rw [htQ]; exact hP9, va_K.moved hWQ.alike hK9, hD9⟩, hS.F htQ⟩) hS.2.2 dX12_doesGo_44

theorem kc_goings_0 : ∀ w ∈ wsX120, w ∈ wsX12_looksForGoings := fun w h => List.mem_cons_of_mem _ (gin_wsX120 w h)
theorem kc_goings_1 : (.fieldLink RX12 9 "MistHeapsModel" "s" "[I" : Cond) ∈ wsX12_looksForGoings := kc_of 1141 rfl rfl rfl
theorem kc_goings_2 : (.fieldLink RX12 25 "MistHeapsModel" "goes" "[I" : Cond) ∈ wsX12_looksForGoings := kc_of 1153 rfl rfl rfl
set_option maxHeartbeats 4000000 in
set_option maxRecDepth 100000 in
theorem c_goings (l : Launch) (dC : Nat → ClassId) (dI : Nat → Nat → Nat) (m0 aS aI aB aT aG aO aN aD aY : Nat) (th im ac sp en wg op se dn rn kd nu tv : Int32) (bv : Int64) (cS cB cT cG : ClassId) (fS : Nat → Int32) (fB : Nat → Int32) (fT : Nat → Int32) (fG : Nat → Int32) (n : Nat) (sz : Nat) (zn : fS 0 = nI n) (hn : n ≤ 8) (zh : hold fS) : Met l yX12_looksForGoings wsX12_looksForGoings ({ frames := 4, cells := 0, slots := 0, locals := 103 } : Room) (va_Pc [.ref m0] (fun U => U.heap.size = sz ∧ va_P (dC, dI) vwCl [(zo14irriiiiiirriirrrrlriiii m0 th aS aI im ac sp en wg op aB aT se dn aG aO aN aD bv aY rn kd nu tv), (zaI aS cS 901 fS), (zaI aB cB 6 fB), (zaI aT cT 64 fT), (zaI aG cG 9 fG)] U.heap ∧ va_K (dC, dI) vwCl [(cS, .int), (cB, .int), (cT, .boolean), (cG, .int)] U ∧ va_D (fun _ => True) [(zo14irriiiiiirriirrrrlriiii m0 th aS aI im ac sp en wg op aB aT se dn aG aO aN aD bv aY rn kd nu tv), (zaI aS cS 901 fS), (zaI aB cB 6 fB), (zaI aT cT 64 fT), (zaI aG cG 9 fG)])) (va_Qv (fun (u : (Nat → Int32) × (Nat → Int32) × (Int32) × (Int32) × (Nat → Int32)) => match u with | (fB9, fT9, se9, dn9, fG9) => True) (fun (u : (Nat → Int32) × (Nat → Int32) × (Int32) × (Int32) × (Nat → Int32)) (t : State) => match u with | (fB9, fT9, se9, dn9, fG9) => va_P (dC, dI) vwCl [(zo14irriiiiiirriirrrrlriiii m0 th aS aI im ac sp en wg op aB aT se9 dn9 aG aO aN aD bv aY rn kd nu tv), (zaI aS cS 901 fS), (zaI aB cB 6 fB9), (zaI aT cT 64 fT9), (zaI aG cG 9 fG9)] t.heap ∧ va_K (dC, dI) vwCl [(cS, .int), (cB, .int), (cT, .boolean), (cG, .int)] t ∧ va_D (va_A [(zo14irriiiiiirriirrrrlriiii m0 th aS aI im ac sp en wg op aB aT se dn aG aO aN aD bv aY rn kd nu tv), (zaI aS cS 901 fS), (zaI aB cB 6 fB), (zaI aT cT 64 fT), (zaI aG cG 9 fG)] sz) [(zo14irriiiiiirriirrrrlriiii m0 th aS aI im ac sp en wg op aB aT se9 dn9 aG aO aN aD bv aY rn kd nu tv), (zaI aS cS 901 fS), (zaI aB cB 6 fB9), (zaI aT cT 64 fT9), (zaI aG cG 9 fG9)]) (va_A [(zo14irriiiiiirriirrrrlriiii m0 th aS aI im ac sp en wg op aB aT se dn aG aO aN aD bv aY rn kd nu tv), (zaI aS cS 901 fS), (zaI aB cB 6 fB), (zaI aT cT 64 fT), (zaI aG cG 9 fG)] sz)) 0 0 (va_A [(zo14irriiiiiirriirrrrlriiii m0 th aS aI im ac sp en wg op aB aT se dn aG aO aN aD bv aY rn kd nu tv), (zaI aS cS 901 fS), (zaI aB cB 6 fB), (zaI aT cT 64 fT), (zaI aG cG 9 fG)] sz) := by
  refine met_ofQ (cc := cX12_looksForGoings) (maxL := 3) (ret := none) (by decide) rfl ?_
  intro p e s m args below meth c s₁ Q B hml hv hQ
  obtain ⟨rfl, hsz, hP, hK, hD0⟩ := hv
  have hx := B.exec
  have hb := B.bytes
  have hr := B.returns
  have hts := atoms_spec (ws := wsX12_looksForGoings) B.pre
  have hown : s.vm.findClass RX12 = some m.cls := findClass_of_methodNamed B.named
  have hlocks := B.notSynchronized
  subst hsz
  have hD := hD0.self (sz := s.heap.size)
  generalize hAe : va_A [(zo14irriiiiiirriirrrrlriiii m0 th aS aI im ac sp en wg op aB aT se dn aG aO aN aD bv aY rn kd nu tv), (zaI aS cS 901 fS), (zaI aB cB 6 fB), (zaI aT cT 64 fT), (zaI aG cG 9 fG)] s.heap.size = A at hD hQ ⊢
  have hA : ∀ q : Nat, s.heap.size ≤ q → A q := fun q h => by rw [← hAe]; exact Or.inr h
  have hS : va_S A s.heap s.heap [] := va_S.rf
  have hl := lv_entry [.ref m0] (n := 3) (Nat.le_of_ble_eq_true rfl)
  rw [lg_entry_eq]
  generalize (lg_sl [.ref m0] ++ List.replicate (3 - (lg_sl [.ref m0]).length) Slot.unset).toArray = ls at hl ⊢
  generalize hag : ([.ref m0] : List Value).toArray = args at hts hQ ⊢
  have hl : lv_has ls 3 [(0, .ref m0)] := hl
  obtain ⟨H, hH⟩ : ∃ H : Heap, H = s.heap := ⟨_, rfl⟩
  rw [← hH] at hP
  rw [← hH]
  have hS : va_S A s.heap H [] := by rw [hH]; exact hS
  obtain ⟨locs, hlo⟩ : ∃ L : List Loc, L = [] := ⟨_, rfl⟩
  rw [← hlo] at hS
  rw [← hlo]
  clear hH hlo
  refine lv_iconst (v := 0) hx hb dX12_looksForGoings_0 (by decide) ?_
  refine lv_istore_n (lv' := [(1, .int 0), (0, .ref m0)]) hx hb dX12_looksForGoings_1 rfl hl (by decide) rfl (fun ls hl => ?_)
  have L2 : ∀ (nF : Nat) (i : Nat) (se2 : Int32) (dn2 : Int32) (fB2 : Nat → Int32) (fT2 : Nat → Int32) (fG2 : Nat → Int32), n - i < nF → (i ≤ n) → ∀ (H : Heap) (locs : List Loc), va_K (dC, dI) vwCl [(cS, .int), (cB, .int), (cT, .boolean), (cG, .int)] s → va_P (dC, dI) vwCl [(zo14irriiiiiirriirrrrlriiii m0 th aS aI im ac sp en wg op aB aT se2 dn2 aG aO aN aD bv aY rn kd nu tv), (zaI aS cS 901 fS), (zaI aB cB 6 fB2), (zaI aT cT 64 fT2), (zaI aG cG 9 fG2)] H → va_D A [(zo14irriiiiiirriirrrrlriiii m0 th aS aI im ac sp en wg op aB aT se2 dn2 aG aO aN aD bv aY rn kd nu tv), (zaI aS cS 901 fS), (zaI aB cB 6 fB2), (zaI aT cT 64 fT2), (zaI aG cG 9 fG2)] → va_S A s.heap H locs → ∀ (ls : Array Slot), lv_has ls 3 [(0, .ref m0), (1, .int (nI i))] → W p l e ({ frames := 4, cells := 0, slots := 0, locals := 103 } : Room) s m args below meth c H locs 0 0 Q (F0 m 2 ls []) := by
    intro nF
    induction nF with
    | zero => intro i se2 dn2 fB2 fT2 fG2 hm; exact absurd hm (Nat.not_lt_zero _)
    | succ nF ih2 =>
      intro i se2 dn2 fB2 fT2 fG2 hm hii H locs hK hP hD hS ls hl
      refine lv_iload_n hx hb dX12_looksForGoings_2 rfl (lv_at hl 1 rfl) ?_
      refine lv_aload_n hx hb dX12_looksForGoings_3 rfl (lv_at hl 0 rfl) ?_
      refine va_get (D := (dC, dI)) (ci := 14) (v := .ref aS) (C := RX12) (T := TX12) (N := 23) hx hb hts kc_goings_0 hown hK hP 0 rfl rfl 1 (by decide) (hts (.fieldLink RX12 9 "MistHeapsModel" "s" "[I") kc_goings_1) (fun _ h9 => h9) rfl dX12_looksForGoings_4 ?_
      refine lv_iconst (v := 0) hx hb dX12_looksForGoings_7 (by decide) ?_
      refine va_iald hx hb hK hP 1 0 rfl rfl (vp_in_nI (n := 0) (N := 901) (by omega) (by omega)) dX12_looksForGoings_8 ?_
      refine qi_as (y := nI n) ((show fS (0 : Int32).toNatClampNeg = fS 0 from rfl).trans (zn)) ?_
      refine lv_icmp_ge (tgt := 68) hx hb dX12_looksForGoings_9 (by decide) (fun c_1 => ?_) (fun c_1 => ?_)
      · skip
        have c_1 : n ≤ i := (nI_leI (a := n) (b := i) (by omega) (by omega)).mp c_1
        rw [hQ]
        have hP9 := hP.sub (ws' := [(zo14irriiiiiirriirrrrlriiii m0 th aS aI im ac sp en wg op aB aT se2 dn2 aG aO aN aD bv aY rn kd nu tv), (zaI aS cS 901 fS), (zaI aB cB 6 fB2), (zaI aT cT 64 fT2), (zaI aG cG 9 fG2)]) [0, 1, 2, 3, 4] rfl
        have hD9 := hD.sub (ws' := [(zo14irriiiiiirriirrrrlriiii m0 th aS aI im ac sp en wg op aB aT se2 dn2 aG aO aN aD bv aY rn kd nu tv), (zaI aS cS 901 fS), (zaI aB cB 6 fB2), (zaI aT cT 64 fT2), (zaI aG cG 9 fG2)]) [0, 1, 2, 3, 4] (by decide) rfl
        have hK9 := hK.sub (tys' := [(cS, .int), (cB, .int), (cT, .boolean), (cG, .int)]) [0, 1, 2, 3] rfl
        exact W.vret hx hb hr (fun tQ htQ hWQ => ⟨⟨(fB2, fT2, se2, dn2, fG2), rfl, trivial, by rw [htQ]; exact hP9, va_K.moved hWQ.alike hK9, hD9⟩, hS.F htQ⟩) hS.2.2 dX12_looksForGoings_68
      · skip
        have c_1 : ¬ n ≤ i := fun q => c_1 ((nI_leI (a := n) (b := i) (by omega) (by omega)).mpr q)
        refine lv_aload_n hx hb dX12_looksForGoings_12 rfl (lv_at hl 0 rfl) ?_
        refine va_get (D := (dC, dI)) (ci := 14) (v := .ref aG) (C := RX12) (T := TX12) (N := 23) hx hb hts kc_goings_0 hown hK hP 0 rfl rfl 13 (by decide) (hts (.fieldLink RX12 25 "MistHeapsModel" "goes" "[I") kc_goings_2) (fun _ h9 => h9) rfl dX12_looksForGoings_13 ?_
        refine lv_iload_n hx hb dX12_looksForGoings_16 rfl (lv_at hl 1 rfl) ?_
        refine lv_iconst (v := 0) hx hb dX12_looksForGoings_17 (by decide) ?_
        refine va_iast hx hb hK hP hD hS 4 3 rfl rfl (vp_in_nI (n := i) (N := 9) (by omega) (by omega)) dX12_looksForGoings_18 (fun H locs hP hD hS => ?_)
        rw [nI_clamp (n := i) (by omega)] at hP hD
        have hP : va_P (dC, dI) vwCl [(zo14irriiiiiirriirrrrlriiii m0 th aS aI im ac sp en wg op aB aT se2 dn2 aG aO aN aD bv aY rn kd nu tv), (zaI aS cS 901 fS), (zaI aB cB 6 fB2), (zaI aT cT 64 fT2), (zaI aG cG 9 (upd fG2 i 0))] H := hP
        have hD : va_D A [(zo14irriiiiiirriirrrrlriiii m0 th aS aI im ac sp en wg op aB aT se2 dn2 aG aO aN aD bv aY rn kd nu tv), (zaI aS cS 901 fS), (zaI aB cB 6 fB2), (zaI aT cT 64 fT2), (zaI aG cG 9 (upd fG2 i 0))] := hD
        refine lv_iconst (v := 0) hx hb dX12_looksForGoings_19 (by decide) ?_
        refine lv_istore_n (lv' := [(2, .int 0), (0, .ref m0), (1, .int (nI i))]) hx hb dX12_looksForGoings_20 rfl hl (by decide) rfl (fun ls hl => ?_)
        have L21 : ∀ (nF : Nat) (j : Nat) (se2 : Int32) (dn2 : Int32) (fB2 : Nat → Int32) (fT2 : Nat → Int32) (fG2 : Nat → Int32), n - j < nF → (j ≤ n) → ∀ (H : Heap) (locs : List Loc), va_K (dC, dI) vwCl [(cS, .int), (cB, .int), (cT, .boolean), (cG, .int)] s → va_P (dC, dI) vwCl [(zo14irriiiiiirriirrrrlriiii m0 th aS aI im ac sp en wg op aB aT se2 dn2 aG aO aN aD bv aY rn kd nu tv), (zaI aS cS 901 fS), (zaI aB cB 6 fB2), (zaI aT cT 64 fT2), (zaI aG cG 9 fG2)] H → va_D A [(zo14irriiiiiirriirrrrlriiii m0 th aS aI im ac sp en wg op aB aT se2 dn2 aG aO aN aD bv aY rn kd nu tv), (zaI aS cS 901 fS), (zaI aB cB 6 fB2), (zaI aT cT 64 fT2), (zaI aG cG 9 fG2)] → va_S A s.heap H locs → ∀ (ls : Array Slot), lv_has ls 3 [(0, .ref m0), (1, .int (nI i)), (2, .int (nI j))] → W p l e ({ frames := 4, cells := 0, slots := 0, locals := 103 } : Room) s m args below meth c H locs 0 0 Q (F0 m 21 ls []) := by
          intro nF
          induction nF with
          | zero => intro j se2 dn2 fB2 fT2 fG2 hm; exact absurd hm (Nat.not_lt_zero _)
          | succ nF ih21 =>
            intro j se2 dn2 fB2 fT2 fG2 hm hij H locs hK hP hD hS ls hl
            refine lv_iload_n hx hb dX12_looksForGoings_21 rfl (lv_at hl 2 rfl) ?_
            refine lv_aload_n hx hb dX12_looksForGoings_22 rfl (lv_at hl 0 rfl) ?_
            refine va_get (D := (dC, dI)) (ci := 14) (v := .ref aS) (C := RX12) (T := TX12) (N := 23) hx hb hts kc_goings_0 hown hK hP 0 rfl rfl 1 (by decide) (hts (.fieldLink RX12 9 "MistHeapsModel" "s" "[I") kc_goings_1) (fun _ h9 => h9) rfl dX12_looksForGoings_23 ?_
            refine lv_iconst (v := 0) hx hb dX12_looksForGoings_26 (by decide) ?_
            refine va_iald hx hb hK hP 1 0 rfl rfl (vp_in_nI (n := 0) (N := 901) (by omega) (by omega)) dX12_looksForGoings_27 ?_
            refine qi_as (y := nI n) ((show fS (0 : Int32).toNatClampNeg = fS 0 from rfl).trans (zn)) ?_
            refine lv_icmp_ge (tgt := 62) hx hb dX12_looksForGoings_28 (by decide) (fun c_2 => ?_) (fun c_2 => ?_)
            · skip
              have c_2 : n ≤ j := (nI_leI (a := n) (b := j) (by omega) (by omega)).mp c_2
              refine lv_iinc (v := nI (i + 1)) (lv' := [(1, .int (nI (i + 1))), (0, .ref m0), (2, .int (nI j))]) hx hb dX12_looksForGoings_62 hl (k := 1) rfl (nI_add i 1) (by decide) rfl (fun ls hl => ?_)
              refine lv_goto (tgt := 2) hx hb dX12_looksForGoings_65 (by decide) ?_
              exact ih2 (i + 1) _ _ _ _ _ (by omega) (by omega) _ _ (hK.sub [0, 1, 2, 3] rfl) (hP.sub [0, 1, 2, 3, 4] rfl) (hD.sub [0, 1, 2, 3, 4] (by decide) rfl) hS ls (lv_sub hl [1, 0] rfl)
            · skip
              have c_2 : ¬ n ≤ j := fun q => c_2 ((nI_leI (a := n) (b := j) (by omega) (by omega)).mpr q)
              refine lv_aload_n hx hb dX12_looksForGoings_31 rfl (lv_at hl 0 rfl) ?_
              refine va_get (D := (dC, dI)) (ci := 14) (v := .ref aG) (C := RX12) (T := TX12) (N := 23) hx hb hts kc_goings_0 hown hK hP 0 rfl rfl 13 (by decide) (hts (.fieldLink RX12 25 "MistHeapsModel" "goes" "[I") kc_goings_2) (fun _ h9 => h9) rfl dX12_looksForGoings_32 ?_
              refine lv_iload_n hx hb dX12_looksForGoings_35 rfl (lv_at hl 1 rfl) ?_
              refine lv_dup2_11 hx hb dX12_looksForGoings_36 rfl rfl ?_
              refine va_iald hx hb hK hP 4 3 rfl rfl (vp_in_nI (n := i) (N := 9) (by omega) (by omega)) dX12_looksForGoings_37 ?_
              refine qi_as (y := fG2 i) (by rw [nI_clamp (by omega)]) ?_
              refine lv_aload_n hx hb dX12_looksForGoings_38 rfl (lv_at hl 0 rfl) ?_
              refine lv_iload_n hx hb dX12_looksForGoings_39 rfl (lv_at hl 1 rfl) ?_
              refine lv_iload_n hx hb dX12_looksForGoings_40 rfl (lv_at hl 2 rfl) ?_
              have hPc := hP.sub (ws' := [(zo14irriiiiiirriirrrrlriiii m0 th aS aI im ac sp en wg op aB aT se2 dn2 aG aO aN aD bv aY rn kd nu tv), (zaI aS cS 901 fS), (zaI aB cB 6 fB2), (zaI aT cT 64 fT2)]) [0, 1, 2, 3] rfl
              have hDc := hD.sub (ws' := [(zo14irriiiiiirriirrrrlriiii m0 th aS aI im ac sp en wg op aB aT se2 dn2 aG aO aN aD bv aY rn kd nu tv), (zaI aS cS 901 fS), (zaI aB cB 6 fB2), (zaI aT cT 64 fT2)]) [0, 1, 2, 3] (by decide) rfl
              have hKc := hK.sub (tys' := [(cS, .int), (cB, .int), (cT, .boolean)]) [0, 1, 2] rfl
              have hFc := va_free (wc := [(zo14irriiiiiirriirrrrlriiii m0 th aS aI im ac sp en wg op aB aT se2 dn2 aG aO aN aD bv aY rn kd nu tv), (zaI aS cS 901 fS), (zaI aB cB 6 fB2), (zaI aT cT 64 fT2)]) hD hS hA [0, 1, 2, 3] rfl
              refine va_calli (va_runV (As := [.int (nI i), .int (nI j)]) (rest := [.int (fG2 i), .int (nI i), .ref aG]) ⟨hx, hb, hml, hown, hts⟩ (c_doesGo l dC dI m0 aS aI aB aT aG aO aN aD aY th im ac sp en wg op se2 dn2 rn kd nu tv bv cS cB cT fS fB2 fT2 i j H.size (by omega) (by omega) (zh)) (cwV 2 hts gX12_looksForGoings_X12_doesGo rfl rfl rfl hd_yX12_doesGo ⟨Nat.le_of_ble_eq_true rfl, Nat.le_of_ble_eq_true rfl⟩) ⟨fun a U g mk q => by obtain ⟨q0, q1, qP, qK, qD⟩ := q; exact ⟨q0, q1, qP, va_K.moved (u := U) (U := U.calling g mk a) (Vm.Alike.refl U.vm) qK, qD⟩, va_recv hK hP (ci := 14) (q := (RX12, TX12, 23)) (q0 := 0) rfl rfl, fun U hU hW => ⟨rfl, by rw [hU], by rw [hU]; exact hPc, va_K.moved hW.alike hKc, hDc.weaken (fun _ _ _ _ => trivial)⟩⟩ rfl rfl hl.1 rfl (lv_room (Nat.le_of_ble_eq_true rfl)) dX12_looksForGoings_41 ⟨Nat.le_of_ble_eq_true rfl, Nat.le_of_ble_eq_true rfl⟩) hS (fun q _ h => hFc q h) hFc (fun r_3 u tC H1 locs htC hvm hw_4 hB hz1 hk1 hS => ?_)
              obtain ⟨fB9_5, fT9_6, se9_7, dn9_8⟩ := u
              try dsimp only at hw_4 hB
              obtain ⟨hP1, hK1, hD1⟩ := hB
              rw [htC] at hP1
              have hK1 := va_K.moved hvm.symm hK1
              obtain ⟨hP, hD⟩ := va_join (wr := [(zaI aG cG 9 fG2)]) (w1 := [(zo14irriiiiiirriirrrrlriiii m0 th aS aI im ac sp en wg op aB aT se9_7 dn9_8 aG aO aN aD bv aY rn kd nu tv), (zaI aS cS 901 fS), (zaI aB cB 6 fB9_5), (zaI aT cT 64 fT9_6)]) hP hD [0, 1, 2, 3] [4] rfl rfl (by decide) (by decide) hk1 hFc hP1 hD1
              have hK := (hK.sub (tys' := [(cG, .int)]) [3] rfl).app hK1
              generalize H1 = H at hP hS ⊢
              have hP : va_P (dC, dI) vwCl [(zaI aG cG 9 fG2), (zo14irriiiiiirriirrrrlriiii m0 th aS aI im ac sp en wg op aB aT se9_7 dn9_8 aG aO aN aD bv aY rn kd nu tv), (zaI aS cS 901 fS), (zaI aB cB 6 fB9_5), (zaI aT cT 64 fT9_6)] H := hP
              have hD : va_D A [(zaI aG cG 9 fG2), (zo14irriiiiiirriirrrrlriiii m0 th aS aI im ac sp en wg op aB aT se9_7 dn9_8 aG aO aN aD bv aY rn kd nu tv), (zaI aS cS 901 fS), (zaI aB cB 6 fB9_5), (zaI aT cT 64 fT9_6)] := hD
              have hK : va_K (dC, dI) vwCl [(cG, .int), (cS, .int), (cB, .int), (cT, .boolean)] s := hK
              rcases hw_4 with rfl | rfl
              · skip
                refine lv_if_eq (tgt := 53) hx hb dX12_looksForGoings_44 (by decide) (fun c_9 => absurd c_9 (by decide)) (fun _ => ?_)
                refine lv_iconst (v := 1) hx hb dX12_looksForGoings_47 (by decide) ?_
                refine lv_iload_n hx hb dX12_looksForGoings_48 rfl (lv_at hl 2 rfl) ?_
                refine lv_ishl hx hb dX12_looksForGoings_49 ?_
                refine lv_goto (tgt := 54) hx hb dX12_looksForGoings_50 (by decide) ?_
                refine lv_ior hx hb dX12_looksForGoings_54 ?_
                refine va_iast hx hb hK hP hD hS 0 0 rfl rfl (vp_in_nI (n := i) (N := 9) (by omega) (by omega)) dX12_looksForGoings_55 (fun H locs hP hD hS => ?_)
                rw [nI_clamp (n := i) (by omega)] at hP hD
                have hP : va_P (dC, dI) vwCl [(zaI aG cG 9 (upd fG2 i ((fG2 i) ||| (1 <<< ((nI j) &&& 31))))), (zo14irriiiiiirriirrrrlriiii m0 th aS aI im ac sp en wg op aB aT se9_7 dn9_8 aG aO aN aD bv aY rn kd nu tv), (zaI aS cS 901 fS), (zaI aB cB 6 fB9_5), (zaI aT cT 64 fT9_6)] H := hP
                have hD : va_D A [(zaI aG cG 9 (upd fG2 i ((fG2 i) ||| (1 <<< ((nI j) &&& 31))))), (zo14irriiiiiirriirrrrlriiii m0 th aS aI im ac sp en wg op aB aT se9_7 dn9_8 aG aO aN aD bv aY rn kd nu tv), (zaI aS cS 901 fS), (zaI aB cB 6 fB9_5), (zaI aT cT 64 fT9_6)] := hD
                refine lv_iinc (v := nI (j + 1)) (lv' := [(2, .int (nI (j + 1))), (0, .ref m0), (1, .int (nI i))]) hx hb dX12_looksForGoings_56 hl (k := 2) rfl (nI_add j 1) (by decide) rfl (fun ls hl => ?_)
                refine lv_goto (tgt := 21) hx hb dX12_looksForGoings_59 (by decide) ?_
                exact ih21 (j + 1) _ _ _ _ _ (by omega) (by omega) _ _ (hK.sub [1, 2, 3, 0] rfl) (hP.sub [1, 2, 3, 4, 0] rfl) (hD.sub [1, 2, 3, 4, 0] (by decide) rfl) hS ls (lv_sub hl [1, 2, 0] rfl)
              · skip
                refine lv_if_eq (tgt := 53) hx hb dX12_looksForGoings_44 (by decide) (fun _ => ?_) (fun c_10 => absurd c_10 (by decide))
                refine lv_iconst (v := 0) hx hb dX12_looksForGoings_53 (by decide) ?_
                refine lv_ior hx hb dX12_looksForGoings_54 ?_
                refine va_iast hx hb hK hP hD hS 0 0 rfl rfl (vp_in_nI (n := i) (N := 9) (by omega) (by omega)) dX12_looksForGoings_55 (fun H locs hP hD hS => ?_)
                rw [nI_clamp (n := i) (by omega)] at hP hD
                have hP : va_P (dC, dI) vwCl [(zaI aG cG 9 (upd fG2 i ((fG2 i) ||| 0))), (zo14irriiiiiirriirrrrlriiii m0 th aS aI im ac sp en wg op aB aT se9_7 dn9_8 aG aO aN aD bv aY rn kd nu tv), (zaI aS cS 901 fS), (zaI aB cB 6 fB9_5), (zaI aT cT 64 fT9_6)] H := hP
                have hD : va_D A [(zaI aG cG 9 (upd fG2 i ((fG2 i) ||| 0))), (zo14irriiiiiirriirrrrlriiii m0 th aS aI im ac sp en wg op aB aT se9_7 dn9_8 aG aO aN aD bv aY rn kd nu tv), (zaI aS cS 901 fS), (zaI aB cB 6 fB9_5), (zaI aT cT 64 fT9_6)] := hD
                refine lv_iinc (v := nI (j + 1)) (lv' := [(2, .int (nI (j + 1))), (0, .ref m0), (1, .int (nI i))]) hx hb dX12_looksForGoings_56 hl (k := 2) rfl (nI_add j 1) (by decide) rfl (fun ls hl => ?_)
                refine lv_goto (tgt := 21) hx hb dX12_looksForGoings_59 (by decide) ?_
                exact ih21 (j + 1) _ _ _ _ _ (by omega) (by omega) _ _ (hK.sub [1, 2, 3, 0] rfl) (hP.sub [1, 2, 3, 4, 0] rfl) (hD.sub [1, 2, 3, 4, 0] (by decide) rfl) hS ls (lv_sub hl [1, 2, 0] rfl)
        exact L21 _ (0) _ _ _ _ _ (Nat.lt_succ_self _) (by omega) _ _ (hK.sub [0, 1, 2, 3] rfl) (hP.sub [0, 1, 2, 3, 4] rfl) (hD.sub [0, 1, 2, 3, 4] (by decide) rfl) hS ls (lv_sub hl [1, 2, 0] rfl)
  exact L2 _ (0) _ _ _ _ _ (Nat.lt_succ_self _) (by omega) _ _ (hK.sub [0, 1, 2, 3] rfl) (hP.sub [0, 1, 2, 3, 4] rfl) (hD.sub [0, 1, 2, 3, 4] (by decide) rfl) hS ls (lv_sub hl [1, 0] rfl)

theorem kc_mSpread_0 : ∀ w ∈ wsX120, w ∈ wsX12_spread := fun w h => List.mem_cons_of_mem _ (gin_wsX120 w h)
theorem kc_mSpread_1 : (.fieldLink RX12 9 "MistHeapsModel" "s" "[I" : Cond) ∈ wsX12_spread := kc_of 1141 rfl rfl rfl
theorem kc_mSpread_2 : (.fieldLink RX12 25 "MistHeapsModel" "goes" "[I" : Cond) ∈ wsX12_spread := kc_of 1153 rfl rfl rfl
set_option maxHeartbeats 4000000 in
set_option maxRecDepth 100000 in
theorem c_mSpread (l : Launch) (dC : Nat → ClassId) (dI : Nat → Nat → Nat) (m0 aS aI aB aT aG aO aN aD aY : Nat) (th im ac sp en wg op se dn rn kd nu tv : Int32) (bv : Int64) (cS cG : ClassId) (fS : Nat → Int32) (fG : Nat → Int32) (n : Nat) (x : Int32) (zn : fS 0 = nI n) (hn : n ≤ 8) : Met l yX12_spread wsX12_spread ({ frames := 0, cells := 0, slots := 0, locals := 0 } : Room) (va_Pc [.ref m0, .int x] (fun U => va_P (dC, dI) vwCl [(zo14irriiiiiirriirrrrlriiii m0 th aS aI im ac sp en wg op aB aT se dn aG aO aN aD bv aY rn kd nu tv), (zaI aS cS 901 fS), (zaI aG cG 9 fG)] U.heap ∧ va_K (dC, dI) vwCl [(cS, .int), (cG, .int)] U)) (vp_Si (fun r => True)) 0 0 (fun _ => False) := by
  refine met_ofQ (cc := cX12_spread) (maxL := 4) (ret := (some .int)) (by decide) rfl ?_
  intro p e s m args below meth c s₁ Q B hml hv hQ
  obtain ⟨rfl, hP, hK⟩ := hv
  have hx := B.exec
  have hb := B.bytes
  have hr := B.returns
  have hts := atoms_spec (ws := wsX12_spread) B.pre
  have hown : s.vm.findClass RX12 = some m.cls := findClass_of_methodNamed B.named
  have hlocks := B.notSynchronized
  obtain ⟨A, hAe⟩ : ∃ A : Nat → Prop, A = fun _ => False := ⟨_, rfl⟩
  rw [← hAe] at hQ
  have hS : va_S A s.heap s.heap [] := va_S.rf
  have hl := lv_entry [.ref m0, .int x] (n := 4) (Nat.le_of_ble_eq_true rfl)
  rw [lg_entry_eq]
  generalize (lg_sl [.ref m0, .int x] ++ List.replicate (4 - (lg_sl [.ref m0, .int x]).length) Slot.unset).toArray = ls at hl ⊢
  generalize hag : ([.ref m0, .int x] : List Value).toArray = args at hts hQ ⊢
  have hl : lv_has ls 4 [(0, .ref m0), (1, .int x)] := hl
  refine lv_iload_n hx hb dX12_spread_0 rfl (lv_at hl 1 rfl) ?_
  refine lv_istore_n (lv' := [(2, .int x), (0, .ref m0), (1, .int x)]) hx hb dX12_spread_1 rfl hl (by decide) rfl (fun ls hl => ?_)
  refine lv_iconst (v := 0) hx hb dX12_spread_2 (by decide) ?_
  refine lv_istore_n (lv' := [(3, .int 0), (2, .int x), (0, .ref m0), (1, .int x)]) hx hb dX12_spread_3 rfl hl (by decide) rfl (fun ls hl => ?_)
  have L4 : ∀ (nF : Nat) (i : Nat) (q : Int32), n - i < nF → (i ≤ n) → ∀ (ls : Array Slot), lv_has ls 4 [(0, .ref m0), (1, .int x), (2, .int q), (3, .int (nI i))] → W p l e ({ frames := 0, cells := 0, slots := 0, locals := 0 } : Room) s m args below meth c s.heap [] 0 0 Q (F0 m 4 ls []) := by
    intro nF
    induction nF with
    | zero => intro i q hm; exact absurd hm (Nat.not_lt_zero _)
    | succ nF ih4 =>
      intro i q hm hii ls hl
      refine lv_iload_n hx hb dX12_spread_4 rfl (lv_at hl 3 rfl) ?_
      refine lv_aload_n hx hb dX12_spread_5 rfl (lv_at hl 0 rfl) ?_
      refine va_get (D := (dC, dI)) (ci := 14) (v := .ref aS) (C := RX12) (T := TX12) (N := 23) hx hb hts kc_mSpread_0 hown hK hP 0 rfl rfl 1 (by decide) (hts (.fieldLink RX12 9 "MistHeapsModel" "s" "[I") kc_mSpread_1) (fun _ h9 => h9) rfl dX12_spread_6 ?_
      refine lv_iconst (v := 0) hx hb dX12_spread_9 (by decide) ?_
      refine va_iald hx hb hK hP 1 0 rfl rfl (vp_in_nI (n := 0) (N := 901) (by omega) (by omega)) dX12_spread_10 ?_
      refine qi_as (y := nI n) ((show fS (0 : Int32).toNatClampNeg = fS 0 from rfl).trans (zn)) ?_
      refine lv_icmp_ge (tgt := 42) hx hb dX12_spread_11 (by decide) (fun c_1 => ?_) (fun c_1 => ?_)
      · skip
        have c_1 : n ≤ i := (nI_leI (a := n) (b := i) (by omega) (by omega)).mp c_1
        refine lv_iload_n hx hb dX12_spread_42 rfl (lv_at hl 2 rfl) ?_
        rw [hQ]
        exact W.iret (v := q) hx hb hr (fun tQ htQ hWQ => ⟨q, rfl, trivial, by rw [htQ]⟩) (fun q hq => absurd hq List.not_mem_nil) dX12_spread_43
      · skip
        have c_1 : ¬ n ≤ i := fun q => c_1 ((nI_leI (a := n) (b := i) (by omega) (by omega)).mpr q)
        refine lv_iload_n hx hb dX12_spread_14 rfl (lv_at hl 2 rfl) ?_
        refine lv_iload_n hx hb dX12_spread_15 rfl (lv_at hl 1 rfl) ?_
        refine lv_iload_n hx hb dX12_spread_16 rfl (lv_at hl 3 rfl) ?_
        refine lv_ishr hx hb dX12_spread_17 ?_
        refine lv_iconst (v := 1) hx hb dX12_spread_18 (by decide) ?_
        refine lv_iand hx hb dX12_spread_19 ?_
        refine lv_iconst (v := 1) hx hb dX12_spread_20 (by decide) ?_
        refine lv_icmp_ne (tgt := 33) hx hb dX12_spread_21 (by decide) (fun c_2 => ?_) (fun c_2 => ?_)
        · skip
          refine lv_iconst (v := 0) hx hb dX12_spread_33 (by decide) ?_
          refine lv_ior hx hb dX12_spread_34 ?_
          refine lv_istore_n (lv' := [(2, .int (q ||| 0)), (0, .ref m0), (1, .int x), (3, .int (nI i))]) hx hb dX12_spread_35 rfl hl (by decide) rfl (fun ls hl => ?_)
          refine lv_iinc (v := nI (i + 1)) (lv' := [(3, .int (nI (i + 1))), (2, .int (q ||| 0)), (0, .ref m0), (1, .int x)]) hx hb dX12_spread_36 hl (k := 3) rfl (nI_add i 1) (by decide) rfl (fun ls hl => ?_)
          refine lv_goto (tgt := 4) hx hb dX12_spread_39 (by decide) ?_
          exact ih4 (i + 1) _ (by omega) (by omega) ls (lv_sub hl [2, 3, 1, 0] rfl)
        · skip
          refine lv_aload_n hx hb dX12_spread_24 rfl (lv_at hl 0 rfl) ?_
          refine va_get (D := (dC, dI)) (ci := 14) (v := .ref aG) (C := RX12) (T := TX12) (N := 23) hx hb hts kc_mSpread_0 hown hK hP 0 rfl rfl 13 (by decide) (hts (.fieldLink RX12 25 "MistHeapsModel" "goes" "[I") kc_mSpread_2) (fun _ h9 => h9) rfl dX12_spread_25 ?_
          refine lv_iload_n hx hb dX12_spread_28 rfl (lv_at hl 3 rfl) ?_
          refine va_iald hx hb hK hP 2 1 rfl rfl (vp_in_nI (n := i) (N := 9) (by omega) (by omega)) dX12_spread_29 ?_
          refine qi_as (y := fG i) (by rw [nI_clamp (by omega)]) ?_
          refine lv_goto (tgt := 34) hx hb dX12_spread_30 (by decide) ?_
          refine lv_ior hx hb dX12_spread_34 ?_
          refine lv_istore_n (lv' := [(2, .int (q ||| (fG i))), (0, .ref m0), (1, .int x), (3, .int (nI i))]) hx hb dX12_spread_35 rfl hl (by decide) rfl (fun ls hl => ?_)
          refine lv_iinc (v := nI (i + 1)) (lv' := [(3, .int (nI (i + 1))), (2, .int (q ||| (fG i))), (0, .ref m0), (1, .int x)]) hx hb dX12_spread_36 hl (k := 3) rfl (nI_add i 1) (by decide) rfl (fun ls hl => ?_)
          refine lv_goto (tgt := 4) hx hb dX12_spread_39 (by decide) ?_
          exact ih4 (i + 1) _ (by omega) (by omega) ls (lv_sub hl [2, 3, 1, 0] rfl)
  exact L4 _ (0) _ (Nat.lt_succ_self _) (by omega) ls (lv_sub hl [2, 3, 1, 0] rfl)

set_option maxHeartbeats 4000000 in
set_option maxRecDepth 100000 in
theorem c_stepsBut (l : Launch) (dC : Nat → ClassId) (dI : Nat → Nat → Nat) (m0 aS aI aB aT aG aO aN aD aY : Nat) (th im ac sp en wg op se dn rn kd nu tv : Int32) (bv : Int64) (cS cG : ClassId) (fS : Nat → Int32) (fG : Nat → Int32) (n : Nat) (x y z : Int32) (zn : fS 0 = nI n) (hn : n ≤ 8) : Met l yX12_stepsBut wsX12_stepsBut ({ frames := 1, cells := 0, slots := 0, locals := 23 } : Room) (va_Pc [.ref m0, .int x, .int y, .int z] (fun U => va_P (dC, dI) vwCl [(zo14irriiiiiirriirrrrlriiii m0 th aS aI im ac sp en wg op aB aT se dn aG aO aN aD bv aY rn kd nu tv), (zaI aS cS 901 fS), (zaI aG cG 9 fG)] U.heap ∧ va_K (dC, dI) vwCl [(cS, .int), (cG, .int)] U)) (vp_Si (fun r => True)) 0 0 (fun _ => False) := by
  refine met_ofQ (cc := cX12_stepsBut) (maxL := 6) (ret := (some .int)) (by decide) rfl ?_
  intro p e s m args below meth c s₁ Q B hml hv hQ
  obtain ⟨rfl, hP, hK⟩ := hv
  have hx := B.exec
  have hb := B.bytes
  have hr := B.returns
  have hts := atoms_spec (ws := wsX12_stepsBut) B.pre
  have hown : s.vm.findClass RX12 = some m.cls := findClass_of_methodNamed B.named
  have hlocks := B.notSynchronized
  obtain ⟨A, hAe⟩ : ∃ A : Nat → Prop, A = fun _ => False := ⟨_, rfl⟩
  rw [← hAe] at hQ
  have hS : va_S A s.heap s.heap [] := va_S.rf
  have hl := lv_entry [.ref m0, .int x, .int y, .int z] (n := 6) (Nat.le_of_ble_eq_true rfl)
  rw [lg_entry_eq]
  generalize (lg_sl [.ref m0, .int x, .int y, .int z] ++ List.replicate (6 - (lg_sl [.ref m0, .int x, .int y, .int z]).length) Slot.unset).toArray = ls at hl ⊢
  generalize hag : ([.ref m0, .int x, .int y, .int z] : List Value).toArray = args at hts hQ ⊢
  have hl : lv_has ls 6 [(0, .ref m0), (1, .int x), (2, .int y), (3, .int z)] := hl
  refine lv_iconst (v := 1) hx hb dX12_stepsBut_0 (by decide) ?_
  refine lv_iload_n hx hb dX12_stepsBut_1 rfl (lv_at hl 1 rfl) ?_
  refine lv_ishl hx hb dX12_stepsBut_2 ?_
  refine lv_istore (lv' := [(4, .int (1 <<< (x &&& 31))), (0, .ref m0), (1, .int x), (2, .int y), (3, .int z)]) hx hb dX12_stepsBut_3 hl (by decide) rfl (fun ls hl => ?_)
  refine lv_iconst (v := 0) hx hb dX12_stepsBut_5 (by decide) ?_
  refine lv_istore (lv' := [(5, .int 0), (4, .int (1 <<< (x &&& 31))), (0, .ref m0), (1, .int x), (2, .int y), (3, .int z)]) hx hb dX12_stepsBut_6 hl (by decide) rfl (fun ls hl => ?_)
  have L8 : ∀ (nF : Nat) (i : Nat) (q : Int32), 10 - i < nF → (i ≤ 10) → ∀ (ls : Array Slot), lv_has ls 6 [(0, .ref m0), (1, .int x), (2, .int y), (3, .int z), (4, .int q), (5, .int (nI i))] → W p l e ({ frames := 1, cells := 0, slots := 0, locals := 23 } : Room) s m args below meth c s.heap [] 0 0 Q (F0 m 8 ls []) := by
    intro nF
    induction nF with
    | zero => intro i q hm; exact absurd hm (Nat.not_lt_zero _)
    | succ nF ih8 =>
      intro i q hm hii ls hl
      refine lv_iload hx hb dX12_stepsBut_8 (lv_at hl 5 rfl) ?_
      refine lv_bipush (v := 10) hx hb dX12_stepsBut_10 (by decide) ?_
      refine lv_icmp_ge (tgt := 46) hx hb dX12_stepsBut_12 (by decide) (fun c_1 => ?_) (fun c_1 => ?_)
      · skip
        have c_1 : 10 ≤ i := (nI_leI (a := 10) (b := i) (by omega) (by omega)).mp c_1
        refine lv_bipush (v := (-5)) hx hb dX12_stepsBut_46 (by decide) ?_
        rw [hQ]
        exact W.iret (v := (-5)) hx hb hr (fun tQ htQ hWQ => ⟨(-5), rfl, trivial, by rw [htQ]⟩) (fun q hq => absurd hq List.not_mem_nil) dX12_stepsBut_48
      · skip
        have c_1 : ¬ 10 ≤ i := fun q => c_1 ((nI_leI (a := 10) (b := i) (by omega) (by omega)).mpr q)
        refine lv_iload hx hb dX12_stepsBut_15 (lv_at hl 4 rfl) ?_
        refine lv_iload_n hx hb dX12_stepsBut_17 rfl (lv_at hl 2 rfl) ?_
        refine lv_ishr hx hb dX12_stepsBut_18 ?_
        refine lv_iconst (v := 1) hx hb dX12_stepsBut_19 (by decide) ?_
        refine lv_iand hx hb dX12_stepsBut_20 ?_
        refine lv_iconst (v := 1) hx hb dX12_stepsBut_21 (by decide) ?_
        refine lv_icmp_ne (tgt := 28) hx hb dX12_stepsBut_22 (by decide) (fun c_2 => ?_) (fun c_2 => ?_)
        · skip
          refine lv_aload_n hx hb dX12_stepsBut_28 rfl (lv_at hl 0 rfl) ?_
          refine lv_iload hx hb dX12_stepsBut_29 (lv_at hl 4 rfl) ?_
          have hPc := hP.sub (ws' := [(zo14irriiiiiirriirrrrlriiii m0 th aS aI im ac sp en wg op aB aT se dn aG aO aN aD bv aY rn kd nu tv), (zaI aS cS 901 fS), (zaI aG cG 9 fG)]) [0, 1, 2] rfl
          have hKc := hK.sub (tys' := [(cS, .int), (cG, .int)]) [0, 1] rfl
          refine vp_callSi (va_runV (As := [.int q]) (rest := []) ⟨hx, hb, hml, hown, hts⟩ (c_mSpread l dC dI m0 aS aI aB aT aG aO aN aD aY th im ac sp en wg op se dn rn kd nu tv bv cS cG fS fG n q (zn) (hn)) (cwV 1 hts gX12_stepsBut_X12_spread rfl rfl rfl hd_yX12_spread ⟨Nat.le_of_ble_eq_true rfl, Nat.le_of_ble_eq_true rfl⟩) ⟨fun a U g mk q => by obtain ⟨q0, qP, qK⟩ := q; exact ⟨q0, qP, va_K.moved (u := U) (U := U.calling g mk a) (Vm.Alike.refl U.vm) qK⟩, va_recv hK hP (ci := 14) (q := (RX12, TX12, 23)) (q0 := 0) rfl rfl, fun U hU hW => ⟨rfl, by rw [hU]; exact hPc, va_K.moved hW.alike hKc⟩⟩ rfl rfl hl.1 rfl (lv_room (Nat.le_of_ble_eq_true rfl)) dX12_stepsBut_31 ⟨Nat.le_of_ble_eq_true rfl, Nat.le_of_ble_eq_true rfl⟩).run (fun r_3 hw_4 => ?_)
          refine lv_iload_n hx hb dX12_stepsBut_34 rfl (lv_at hl 3 rfl) ?_
          refine lv_iconst (v := (-1)) hx hb dX12_stepsBut_35 (by decide) ?_
          refine lv_ixor hx hb dX12_stepsBut_36 ?_
          refine lv_iand hx hb dX12_stepsBut_37 ?_
          refine lv_istore (lv' := [(4, .int (r_3 &&& (z ^^^ (-1)))), (0, .ref m0), (1, .int x), (2, .int y), (3, .int z), (5, .int (nI i))]) hx hb dX12_stepsBut_38 hl (by decide) rfl (fun ls hl => ?_)
          refine lv_iinc (v := nI (i + 1)) (lv' := [(5, .int (nI (i + 1))), (4, .int (r_3 &&& (z ^^^ (-1)))), (0, .ref m0), (1, .int x), (2, .int y), (3, .int z)]) hx hb dX12_stepsBut_40 hl (k := 5) rfl (nI_add i 1) (by decide) rfl (fun ls hl => ?_)
          refine lv_goto (tgt := 8) hx hb dX12_stepsBut_43 (by decide) ?_
          exact ih8 (i + 1) _ (by omega) (by omega) ls (lv_sub hl [2, 3, 4, 5, 1, 0] rfl)
        · skip
          refine lv_iload hx hb dX12_stepsBut_25 (lv_at hl 5 rfl) ?_
          rw [hQ]
          exact W.iret (v := nI i) hx hb hr (fun tQ htQ hWQ => ⟨nI i, rfl, trivial, by rw [htQ]⟩) (fun q hq => absurd hq List.not_mem_nil) dX12_stepsBut_27
  exact L8 _ (0) _ (Nat.lt_succ_self _) (by omega) ls (lv_sub hl [2, 3, 4, 5, 1, 0] rfl)

set_option maxHeartbeats 4000000 in
set_option maxRecDepth 100000 in
theorem c_stepsOf (l : Launch) (dC : Nat → ClassId) (dI : Nat → Nat → Nat) (m0 aS aI aB aT aG aO aN aD aY : Nat) (th im ac sp en wg op se dn rn kd nu tv : Int32) (bv : Int64) (cS cB cT cG : ClassId) (fS : Nat → Int32) (fB : Nat → Int32) (fT : Nat → Int32) (fG : Nat → Int32) (n : Nat) (x y : Int32) (sz : Nat) (zn : fS 0 = nI n) (hn : n ≤ 8) (zh : hold fS) : Met l yX12_stepsOf wsX12_stepsOf ({ frames := 5, cells := 0, slots := 0, locals := 125 } : Room) (va_Pc [.ref m0, .int x, .int y] (fun U => U.heap.size = sz ∧ va_P (dC, dI) vwCl [(zo14irriiiiiirriirrrrlriiii m0 th aS aI im ac sp en wg op aB aT se dn aG aO aN aD bv aY rn kd nu tv), (zaI aS cS 901 fS), (zaI aB cB 6 fB), (zaI aT cT 64 fT), (zaI aG cG 9 fG)] U.heap ∧ va_K (dC, dI) vwCl [(cS, .int), (cB, .int), (cT, .boolean), (cG, .int)] U ∧ va_D (fun _ => True) [(zo14irriiiiiirriirrrrlriiii m0 th aS aI im ac sp en wg op aB aT se dn aG aO aN aD bv aY rn kd nu tv), (zaI aS cS 901 fS), (zaI aB cB 6 fB), (zaI aT cT 64 fT), (zaI aG cG 9 fG)])) (va_Qi (fun (r : Int32) (u : (Nat → Int32) × (Nat → Int32) × (Int32) × (Int32) × (Nat → Int32)) => match u with | (fB9, fT9, se9, dn9, fG9) => True) (fun (u : (Nat → Int32) × (Nat → Int32) × (Int32) × (Int32) × (Nat → Int32)) (t : State) => match u with | (fB9, fT9, se9, dn9, fG9) => va_P (dC, dI) vwCl [(zo14irriiiiiirriirrrrlriiii m0 th aS aI im ac sp en wg op aB aT se9 dn9 aG aO aN aD bv aY rn kd nu tv), (zaI aS cS 901 fS), (zaI aB cB 6 fB9), (zaI aT cT 64 fT9), (zaI aG cG 9 fG9)] t.heap ∧ va_K (dC, dI) vwCl [(cS, .int), (cB, .int), (cT, .boolean), (cG, .int)] t ∧ va_D (va_A [(zo14irriiiiiirriirrrrlriiii m0 th aS aI im ac sp en wg op aB aT se dn aG aO aN aD bv aY rn kd nu tv), (zaI aS cS 901 fS), (zaI aB cB 6 fB), (zaI aT cT 64 fT), (zaI aG cG 9 fG)] sz) [(zo14irriiiiiirriirrrrlriiii m0 th aS aI im ac sp en wg op aB aT se9 dn9 aG aO aN aD bv aY rn kd nu tv), (zaI aS cS 901 fS), (zaI aB cB 6 fB9), (zaI aT cT 64 fT9), (zaI aG cG 9 fG9)]) (va_A [(zo14irriiiiiirriirrrrlriiii m0 th aS aI im ac sp en wg op aB aT se dn aG aO aN aD bv aY rn kd nu tv), (zaI aS cS 901 fS), (zaI aB cB 6 fB), (zaI aT cT 64 fT), (zaI aG cG 9 fG)] sz)) 0 0 (va_A [(zo14irriiiiiirriirrrrlriiii m0 th aS aI im ac sp en wg op aB aT se dn aG aO aN aD bv aY rn kd nu tv), (zaI aS cS 901 fS), (zaI aB cB 6 fB), (zaI aT cT 64 fT), (zaI aG cG 9 fG)] sz) := by
  refine met_ofQ (cc := cX12_stepsOf) (maxL := 3) (ret := (some .int)) (by decide) rfl ?_
  intro p e s m args below meth c s₁ Q B hml hv hQ
  obtain ⟨rfl, hsz, hP, hK, hD0⟩ := hv
  have hx := B.exec
  have hb := B.bytes
  have hr := B.returns
  have hts := atoms_spec (ws := wsX12_stepsOf) B.pre
  have hown : s.vm.findClass RX12 = some m.cls := findClass_of_methodNamed B.named
  have hlocks := B.notSynchronized
  subst hsz
  have hD := hD0.self (sz := s.heap.size)
  generalize hAe : va_A [(zo14irriiiiiirriirrrrlriiii m0 th aS aI im ac sp en wg op aB aT se dn aG aO aN aD bv aY rn kd nu tv), (zaI aS cS 901 fS), (zaI aB cB 6 fB), (zaI aT cT 64 fT), (zaI aG cG 9 fG)] s.heap.size = A at hD hQ ⊢
  have hA : ∀ q : Nat, s.heap.size ≤ q → A q := fun q h => by rw [← hAe]; exact Or.inr h
  have hS : va_S A s.heap s.heap [] := va_S.rf
  have hl := lv_entry [.ref m0, .int x, .int y] (n := 3) (Nat.le_of_ble_eq_true rfl)
  rw [lg_entry_eq]
  generalize (lg_sl [.ref m0, .int x, .int y] ++ List.replicate (3 - (lg_sl [.ref m0, .int x, .int y]).length) Slot.unset).toArray = ls at hl ⊢
  generalize hag : ([.ref m0, .int x, .int y] : List Value).toArray = args at hts hQ ⊢
  have hl : lv_has ls 3 [(0, .ref m0), (1, .int x), (2, .int y)] := hl
  obtain ⟨H, hH⟩ : ∃ H : Heap, H = s.heap := ⟨_, rfl⟩
  rw [← hH] at hP
  rw [← hH]
  have hS : va_S A s.heap H [] := by rw [hH]; exact hS
  obtain ⟨locs, hlo⟩ : ∃ L : List Loc, L = [] := ⟨_, rfl⟩
  rw [← hlo] at hS
  rw [← hlo]
  clear hH hlo
  refine lv_aload_n hx hb dX12_stepsOf_0 rfl (lv_at hl 0 rfl) ?_
  have hPc := hP.sub (ws' := [(zo14irriiiiiirriirrrrlriiii m0 th aS aI im ac sp en wg op aB aT se dn aG aO aN aD bv aY rn kd nu tv), (zaI aS cS 901 fS), (zaI aB cB 6 fB), (zaI aT cT 64 fT), (zaI aG cG 9 fG)]) [0, 1, 2, 3, 4] rfl
  have hDc := hD.sub (ws' := [(zo14irriiiiiirriirrrrlriiii m0 th aS aI im ac sp en wg op aB aT se dn aG aO aN aD bv aY rn kd nu tv), (zaI aS cS 901 fS), (zaI aB cB 6 fB), (zaI aT cT 64 fT), (zaI aG cG 9 fG)]) [0, 1, 2, 3, 4] (by decide) rfl
  have hKc := hK.sub (tys' := [(cS, .int), (cB, .int), (cT, .boolean), (cG, .int)]) [0, 1, 2, 3] rfl
  have hFc := va_free (wc := [(zo14irriiiiiirriirrrrlriiii m0 th aS aI im ac sp en wg op aB aT se dn aG aO aN aD bv aY rn kd nu tv), (zaI aS cS 901 fS), (zaI aB cB 6 fB), (zaI aT cT 64 fT), (zaI aG cG 9 fG)]) hD hS hA [0, 1, 2, 3, 4] rfl
  refine va_callv (va_runV (As := []) (rest := []) ⟨hx, hb, hml, hown, hts⟩ (c_goings l dC dI m0 aS aI aB aT aG aO aN aD aY th im ac sp en wg op se dn rn kd nu tv bv cS cB cT cG fS fB fT fG n H.size (zn) (hn) (zh)) (cwV 0 hts gX12_stepsOf_X12_looksForGoings rfl rfl rfl hd_yX12_looksForGoings ⟨Nat.le_of_ble_eq_true rfl, Nat.le_of_ble_eq_true rfl⟩) ⟨fun a U g mk q => by obtain ⟨q0, q1, qP, qK, qD⟩ := q; exact ⟨q0, q1, qP, va_K.moved (u := U) (U := U.calling g mk a) (Vm.Alike.refl U.vm) qK, qD⟩, va_recv hK hP (ci := 14) (q := (RX12, TX12, 23)) (q0 := 0) rfl rfl, fun U hU hW => ⟨rfl, by rw [hU], by rw [hU]; exact hPc, va_K.moved hW.alike hKc, hDc.weaken (fun _ _ _ _ => trivial)⟩⟩ rfl rfl hl.1 rfl (lv_room (Nat.le_of_ble_eq_true rfl)) dX12_stepsOf_1 ⟨Nat.le_of_ble_eq_true rfl, Nat.le_of_ble_eq_true rfl⟩) hS (fun q _ h => hFc q h) hFc (fun u tC H1 locs htC hvm hw_2 hB hz1 hk1 hS => ?_)
  obtain ⟨fB9_3, fT9_4, se9_5, dn9_6, fG9_7⟩ := u
  try dsimp only at hw_2 hB
  obtain ⟨hP1, hK1, hD1⟩ := hB
  rw [htC] at hP1
  have hK1 := va_K.moved hvm.symm hK1
  obtain ⟨hP, hD⟩ := va_join (wr := []) (w1 := [(zo14irriiiiiirriirrrrlriiii m0 th aS aI im ac sp en wg op aB aT se9_5 dn9_6 aG aO aN aD bv aY rn kd nu tv), (zaI aS cS 901 fS), (zaI aB cB 6 fB9_3), (zaI aT cT 64 fT9_4), (zaI aG cG 9 fG9_7)]) hP hD [0, 1, 2, 3, 4] [] rfl rfl (by decide) (by decide) hk1 hFc hP1 hD1
  have hK := (hK.sub (tys' := []) [] rfl).app hK1
  generalize H1 = H at hP hS ⊢
  have hP : va_P (dC, dI) vwCl [(zo14irriiiiiirriirrrrlriiii m0 th aS aI im ac sp en wg op aB aT se9_5 dn9_6 aG aO aN aD bv aY rn kd nu tv), (zaI aS cS 901 fS), (zaI aB cB 6 fB9_3), (zaI aT cT 64 fT9_4), (zaI aG cG 9 fG9_7)] H := hP
  have hD : va_D A [(zo14irriiiiiirriirrrrlriiii m0 th aS aI im ac sp en wg op aB aT se9_5 dn9_6 aG aO aN aD bv aY rn kd nu tv), (zaI aS cS 901 fS), (zaI aB cB 6 fB9_3), (zaI aT cT 64 fT9_4), (zaI aG cG 9 fG9_7)] := hD
  have hK : va_K (dC, dI) vwCl [(cS, .int), (cB, .int), (cT, .boolean), (cG, .int)] s := hK
  refine lv_aload_n hx hb dX12_stepsOf_4 rfl (lv_at hl 0 rfl) ?_
  refine lv_iload_n hx hb dX12_stepsOf_5 rfl (lv_at hl 1 rfl) ?_
  refine lv_iload_n hx hb dX12_stepsOf_6 rfl (lv_at hl 2 rfl) ?_
  refine lv_iconst (v := 0) hx hb dX12_stepsOf_7 (by decide) ?_
  have hPc := hP.sub (ws' := [(zo14irriiiiiirriirrrrlriiii m0 th aS aI im ac sp en wg op aB aT se9_5 dn9_6 aG aO aN aD bv aY rn kd nu tv), (zaI aS cS 901 fS), (zaI aG cG 9 fG9_7)]) [0, 1, 4] rfl
  have hKc := hK.sub (tys' := [(cS, .int), (cG, .int)]) [0, 3] rfl
  refine vp_callSi (va_runV (As := [.int x, .int y, .int 0]) (rest := []) ⟨hx, hb, hml, hown, hts⟩ (c_stepsBut l dC dI m0 aS aI aB aT aG aO aN aD aY th im ac sp en wg op se9_5 dn9_6 rn kd nu tv bv cS cG fS fG9_7 n x y 0 (zn) (hn)) (cwV 3 hts gX12_stepsOf_X12_stepsBut rfl rfl rfl hd_yX12_stepsBut ⟨Nat.le_of_ble_eq_true rfl, Nat.le_of_ble_eq_true rfl⟩) ⟨fun a U g mk q => by obtain ⟨q0, qP, qK⟩ := q; exact ⟨q0, qP, va_K.moved (u := U) (U := U.calling g mk a) (Vm.Alike.refl U.vm) qK⟩, va_recv hK hP (ci := 14) (q := (RX12, TX12, 23)) (q0 := 0) rfl rfl, fun U hU hW => ⟨rfl, by rw [hU]; exact hPc, va_K.moved hW.alike hKc⟩⟩ rfl rfl hl.1 rfl (lv_room (Nat.le_of_ble_eq_true rfl)) dX12_stepsOf_8 ⟨Nat.le_of_ble_eq_true rfl, Nat.le_of_ble_eq_true rfl⟩).run (fun r_8 hw_9 => ?_)
  rw [hQ]
  have hP9 := hP.sub (ws' := [(zo14irriiiiiirriirrrrlriiii m0 th aS aI im ac sp en wg op aB aT se9_5 dn9_6 aG aO aN aD bv aY rn kd nu tv), (zaI aS cS 901 fS), (zaI aB cB 6 fB9_3), (zaI aT cT 64 fT9_4), (zaI aG cG 9 fG9_7)]) [0, 1, 2, 3, 4] rfl
  have hD9 := hD.sub (ws' := [(zo14irriiiiiirriirrrrlriiii m0 th aS aI im ac sp en wg op aB aT se9_5 dn9_6 aG aO aN aD bv aY rn kd nu tv), (zaI aS cS 901 fS), (zaI aB cB 6 fB9_3), (zaI aT cT 64 fT9_4), (zaI aG cG 9 fG9_7)]) [0, 1, 2, 3, 4] (by decide) rfl
  have hK9 := hK.sub (tys' := [(cS, .int), (cB, .int), (cT, .boolean), (cG, .int)]) [0, 1, 2, 3] rfl
  exact W.iret (v := r_8) hx hb hr (fun tQ htQ hWQ => ⟨⟨r_8, (fB9_3, fT9_4, se9_5, dn9_6, fG9_7), rfl, trivial, by rw [htQ]; exact hP9, va_K.moved hWQ.alike hK9, hD9⟩, hS.F htQ⟩) hS.2.2 dX12_stepsOf_11

set_option maxHeartbeats 4000000 in
set_option maxRecDepth 100000 in
theorem c_mSteps (l : Launch) (dC : Nat → ClassId) (dI : Nat → Nat → Nat) (m0 aS aI aB aT aG aO aN aD aY : Nat) (th im ac sp en wg op se dn rn kd nu tv : Int32) (bv : Int64) (cS cB cT cG : ClassId) (fS : Nat → Int32) (fB : Nat → Int32) (fT : Nat → Int32) (fG : Nat → Int32) (n : Nat) (x y : Int32) (sz : Nat) (zn : fS 0 = nI n) (hn : n ≤ 8) (zh : hold fS) : Met l yX12_steps wsX12_steps ({ frames := 6, cells := 0, slots := 0, locals := 147 } : Room) (va_Pc [.ref m0, .int x, .int y] (fun U => U.heap.size = sz ∧ va_P (dC, dI) vwCl [(zo14irriiiiiirriirrrrlriiii m0 th aS aI im ac sp en wg op aB aT se dn aG aO aN aD bv aY rn kd nu tv), (zaI aS cS 901 fS), (zaI aB cB 6 fB), (zaI aT cT 64 fT), (zaI aG cG 9 fG)] U.heap ∧ va_K (dC, dI) vwCl [(cS, .int), (cB, .int), (cT, .boolean), (cG, .int)] U ∧ va_D (fun _ => True) [(zo14irriiiiiirriirrrrlriiii m0 th aS aI im ac sp en wg op aB aT se dn aG aO aN aD bv aY rn kd nu tv), (zaI aS cS 901 fS), (zaI aB cB 6 fB), (zaI aT cT 64 fT), (zaI aG cG 9 fG)])) (va_Qi (fun (r : Int32) (u : (Nat → Int32) × (Nat → Int32) × (Int32) × (Int32) × (Nat → Int32)) => match u with | (fB9, fT9, se9, dn9, fG9) => True) (fun (u : (Nat → Int32) × (Nat → Int32) × (Int32) × (Int32) × (Nat → Int32)) (t : State) => match u with | (fB9, fT9, se9, dn9, fG9) => va_P (dC, dI) vwCl [(zo14irriiiiiirriirrrrlriiii m0 th aS aI im ac sp en wg op aB aT se9 dn9 aG aO aN aD bv aY rn kd nu tv), (zaI aS cS 901 fS), (zaI aB cB 6 fB9), (zaI aT cT 64 fT9), (zaI aG cG 9 fG9)] t.heap ∧ va_K (dC, dI) vwCl [(cS, .int), (cB, .int), (cT, .boolean), (cG, .int)] t ∧ va_D (va_A [(zo14irriiiiiirriirrrrlriiii m0 th aS aI im ac sp en wg op aB aT se dn aG aO aN aD bv aY rn kd nu tv), (zaI aS cS 901 fS), (zaI aB cB 6 fB), (zaI aT cT 64 fT), (zaI aG cG 9 fG)] sz) [(zo14irriiiiiirriirrrrlriiii m0 th aS aI im ac sp en wg op aB aT se9 dn9 aG aO aN aD bv aY rn kd nu tv), (zaI aS cS 901 fS), (zaI aB cB 6 fB9), (zaI aT cT 64 fT9), (zaI aG cG 9 fG9)]) (va_A [(zo14irriiiiiirriirrrrlriiii m0 th aS aI im ac sp en wg op aB aT se dn aG aO aN aD bv aY rn kd nu tv), (zaI aS cS 901 fS), (zaI aB cB 6 fB), (zaI aT cT 64 fT), (zaI aG cG 9 fG)] sz)) 0 0 (va_A [(zo14irriiiiiirriirrrrlriiii m0 th aS aI im ac sp en wg op aB aT se dn aG aO aN aD bv aY rn kd nu tv), (zaI aS cS 901 fS), (zaI aB cB 6 fB), (zaI aT cT 64 fT), (zaI aG cG 9 fG)] sz) := by
  refine met_ofQ (cc := cX12_steps) (maxL := 3) (ret := (some .int)) (by decide) rfl ?_
  intro p e s m args below meth c s₁ Q B hml hv hQ
  obtain ⟨rfl, hsz, hP, hK, hD0⟩ := hv
  have hx := B.exec
  have hb := B.bytes
  have hr := B.returns
  have hts := atoms_spec (ws := wsX12_steps) B.pre
  have hown : s.vm.findClass RX12 = some m.cls := findClass_of_methodNamed B.named
  have hlocks := B.notSynchronized
  subst hsz
  have hD := hD0.self (sz := s.heap.size)
  generalize hAe : va_A [(zo14irriiiiiirriirrrrlriiii m0 th aS aI im ac sp en wg op aB aT se dn aG aO aN aD bv aY rn kd nu tv), (zaI aS cS 901 fS), (zaI aB cB 6 fB), (zaI aT cT 64 fT), (zaI aG cG 9 fG)] s.heap.size = A at hD hQ ⊢
  have hA : ∀ q : Nat, s.heap.size ≤ q → A q := fun q h => by rw [← hAe]; exact Or.inr h
  have hS : va_S A s.heap s.heap [] := va_S.rf
  have hl := lv_entry [.ref m0, .int x, .int y] (n := 3) (Nat.le_of_ble_eq_true rfl)
  rw [lg_entry_eq]
  generalize (lg_sl [.ref m0, .int x, .int y] ++ List.replicate (3 - (lg_sl [.ref m0, .int x, .int y]).length) Slot.unset).toArray = ls at hl ⊢
  generalize hag : ([.ref m0, .int x, .int y] : List Value).toArray = args at hts hQ ⊢
  have hl : lv_has ls 3 [(0, .ref m0), (1, .int x), (2, .int y)] := hl
  obtain ⟨H, hH⟩ : ∃ H : Heap, H = s.heap := ⟨_, rfl⟩
  rw [← hH] at hP
  rw [← hH]
  have hS : va_S A s.heap H [] := by rw [hH]; exact hS
  obtain ⟨locs, hlo⟩ : ∃ L : List Loc, L = [] := ⟨_, rfl⟩
  rw [← hlo] at hS
  rw [← hlo]
  clear hH hlo
  refine lv_aload_n hx hb dX12_steps_0 rfl (lv_at hl 0 rfl) ?_
  refine lv_iload_n hx hb dX12_steps_1 rfl (lv_at hl 1 rfl) ?_
  have hPc := hP.sub (ws' := [(zo14irriiiiiirriirrrrlriiii m0 th aS aI im ac sp en wg op aB aT se dn aG aO aN aD bv aY rn kd nu tv), (zaI aS cS 901 fS)]) [0, 1] rfl
  have hKc := hK.sub (tys' := [(cS, .int)]) [0] rfl
  refine vp_callSi (va_runV (As := [.int x]) (rest := []) ⟨hx, hb, hml, hown, hts⟩ (c_isHeap l dC dI m0 aS aI aB aT aG aO aN aD aY th im ac sp en wg op se dn rn kd nu tv bv cS fS n x (zn) (hn)) (cwV 1 hts gX12_steps_X12_isHeap rfl rfl rfl hd_yX12_isHeap ⟨Nat.le_of_ble_eq_true rfl, Nat.le_of_ble_eq_true rfl⟩) ⟨fun a U g mk q => by obtain ⟨q0, qP, qK⟩ := q; exact ⟨q0, qP, va_K.moved (u := U) (U := U.calling g mk a) (Vm.Alike.refl U.vm) qK⟩, va_recv hK hP (ci := 14) (q := (RX12, TX12, 23)) (q0 := 0) rfl rfl, fun U hU hW => ⟨rfl, by rw [hU]; exact hPc, va_K.moved hW.alike hKc⟩⟩ rfl rfl hl.1 rfl (lv_room (Nat.le_of_ble_eq_true rfl)) dX12_steps_2 ⟨Nat.le_of_ble_eq_true rfl, Nat.le_of_ble_eq_true rfl⟩).run (fun r_1 hw_2 => ?_)
  rcases hw_2 with ⟨rfl, j_3, hj_4, rfl⟩ | ⟨rfl, h_5⟩
  · skip
    refine lv_if_eq (tgt := 25) hx hb dX12_steps_5 (by decide) (fun c_6 => absurd c_6 (by decide)) (fun _ => ?_)
    refine lv_aload_n hx hb dX12_steps_8 rfl (lv_at hl 0 rfl) ?_
    refine lv_iload_n hx hb dX12_steps_9 rfl (lv_at hl 2 rfl) ?_
    have hPc := hP.sub (ws' := [(zo14irriiiiiirriirrrrlriiii m0 th aS aI im ac sp en wg op aB aT se dn aG aO aN aD bv aY rn kd nu tv), (zaI aS cS 901 fS)]) [0, 1] rfl
    have hKc := hK.sub (tys' := [(cS, .int)]) [0] rfl
    refine vp_callSi (va_runV (As := [.int y]) (rest := []) ⟨hx, hb, hml, hown, hts⟩ (c_isHeap l dC dI m0 aS aI aB aT aG aO aN aD aY th im ac sp en wg op se dn rn kd nu tv bv cS fS n y (zn) (hn)) (cwV 1 hts gX12_steps_X12_isHeap rfl rfl rfl hd_yX12_isHeap ⟨Nat.le_of_ble_eq_true rfl, Nat.le_of_ble_eq_true rfl⟩) ⟨fun a U g mk q => by obtain ⟨q0, qP, qK⟩ := q; exact ⟨q0, qP, va_K.moved (u := U) (U := U.calling g mk a) (Vm.Alike.refl U.vm) qK⟩, va_recv hK hP (ci := 14) (q := (RX12, TX12, 23)) (q0 := 0) rfl rfl, fun U hU hW => ⟨rfl, by rw [hU]; exact hPc, va_K.moved hW.alike hKc⟩⟩ rfl rfl hl.1 rfl (lv_room (Nat.le_of_ble_eq_true rfl)) dX12_steps_10 ⟨Nat.le_of_ble_eq_true rfl, Nat.le_of_ble_eq_true rfl⟩).run (fun r_7 hw_8 => ?_)
    rcases hw_8 with ⟨rfl, j_9, hj_10, rfl⟩ | ⟨rfl, h_11⟩
    · skip
      refine lv_if_eq (tgt := 25) hx hb dX12_steps_13 (by decide) (fun c_12 => absurd c_12 (by decide)) (fun _ => ?_)
      refine lv_aload_n hx hb dX12_steps_16 rfl (lv_at hl 0 rfl) ?_
      refine lv_iload_n hx hb dX12_steps_17 rfl (lv_at hl 1 rfl) ?_
      refine lv_iload_n hx hb dX12_steps_18 rfl (lv_at hl 2 rfl) ?_
      have hPc := hP.sub (ws' := [(zo14irriiiiiirriirrrrlriiii m0 th aS aI im ac sp en wg op aB aT se dn aG aO aN aD bv aY rn kd nu tv), (zaI aS cS 901 fS), (zaI aB cB 6 fB), (zaI aT cT 64 fT), (zaI aG cG 9 fG)]) [0, 1, 2, 3, 4] rfl
      have hDc := hD.sub (ws' := [(zo14irriiiiiirriirrrrlriiii m0 th aS aI im ac sp en wg op aB aT se dn aG aO aN aD bv aY rn kd nu tv), (zaI aS cS 901 fS), (zaI aB cB 6 fB), (zaI aT cT 64 fT), (zaI aG cG 9 fG)]) [0, 1, 2, 3, 4] (by decide) rfl
      have hKc := hK.sub (tys' := [(cS, .int), (cB, .int), (cT, .boolean), (cG, .int)]) [0, 1, 2, 3] rfl
      have hFc := va_free (wc := [(zo14irriiiiiirriirrrrlriiii m0 th aS aI im ac sp en wg op aB aT se dn aG aO aN aD bv aY rn kd nu tv), (zaI aS cS 901 fS), (zaI aB cB 6 fB), (zaI aT cT 64 fT), (zaI aG cG 9 fG)]) hD hS hA [0, 1, 2, 3, 4] rfl
      refine va_calli (va_runV (As := [.int (nI j_3), .int (nI j_9)]) (rest := []) ⟨hx, hb, hml, hown, hts⟩ (c_stepsOf l dC dI m0 aS aI aB aT aG aO aN aD aY th im ac sp en wg op se dn rn kd nu tv bv cS cB cT cG fS fB fT fG n (nI j_3) (nI j_9) H.size (zn) (hn) (zh)) (cwV 2 hts gX12_steps_X12_stepsOf rfl rfl rfl hd_yX12_stepsOf ⟨Nat.le_of_ble_eq_true rfl, Nat.le_of_ble_eq_true rfl⟩) ⟨fun a U g mk q => by obtain ⟨q0, q1, qP, qK, qD⟩ := q; exact ⟨q0, q1, qP, va_K.moved (u := U) (U := U.calling g mk a) (Vm.Alike.refl U.vm) qK, qD⟩, va_recv hK hP (ci := 14) (q := (RX12, TX12, 23)) (q0 := 0) rfl rfl, fun U hU hW => ⟨rfl, by rw [hU], by rw [hU]; exact hPc, va_K.moved hW.alike hKc, hDc.weaken (fun _ _ _ _ => trivial)⟩⟩ rfl rfl hl.1 rfl (lv_room (Nat.le_of_ble_eq_true rfl)) dX12_steps_19 ⟨Nat.le_of_ble_eq_true rfl, Nat.le_of_ble_eq_true rfl⟩) hS (fun q _ h => hFc q h) hFc (fun r_13 u tC H1 locs htC hvm hw_14 hB hz1 hk1 hS => ?_)
      obtain ⟨fB9_15, fT9_16, se9_17, dn9_18, fG9_19⟩ := u
      try dsimp only at hw_14 hB
      obtain ⟨hP1, hK1, hD1⟩ := hB
      rw [htC] at hP1
      have hK1 := va_K.moved hvm.symm hK1
      obtain ⟨hP, hD⟩ := va_join (wr := []) (w1 := [(zo14irriiiiiirriirrrrlriiii m0 th aS aI im ac sp en wg op aB aT se9_17 dn9_18 aG aO aN aD bv aY rn kd nu tv), (zaI aS cS 901 fS), (zaI aB cB 6 fB9_15), (zaI aT cT 64 fT9_16), (zaI aG cG 9 fG9_19)]) hP hD [0, 1, 2, 3, 4] [] rfl rfl (by decide) (by decide) hk1 hFc hP1 hD1
      have hK := (hK.sub (tys' := []) [] rfl).app hK1
      generalize H1 = H at hP hS ⊢
      have hP : va_P (dC, dI) vwCl [(zo14irriiiiiirriirrrrlriiii m0 th aS aI im ac sp en wg op aB aT se9_17 dn9_18 aG aO aN aD bv aY rn kd nu tv), (zaI aS cS 901 fS), (zaI aB cB 6 fB9_15), (zaI aT cT 64 fT9_16), (zaI aG cG 9 fG9_19)] H := hP
      have hD : va_D A [(zo14irriiiiiirriirrrrlriiii m0 th aS aI im ac sp en wg op aB aT se9_17 dn9_18 aG aO aN aD bv aY rn kd nu tv), (zaI aS cS 901 fS), (zaI aB cB 6 fB9_15), (zaI aT cT 64 fT9_16), (zaI aG cG 9 fG9_19)] := hD
      have hK : va_K (dC, dI) vwCl [(cS, .int), (cB, .int), (cT, .boolean), (cG, .int)] s := hK
      refine lv_goto (tgt := 26) hx hb dX12_steps_22 (by decide) ?_
      rw [hQ]
      have hP9 := hP.sub (ws' := [(zo14irriiiiiirriirrrrlriiii m0 th aS aI im ac sp en wg op aB aT se9_17 dn9_18 aG aO aN aD bv aY rn kd nu tv), (zaI aS cS 901 fS), (zaI aB cB 6 fB9_15), (zaI aT cT 64 fT9_16), (zaI aG cG 9 fG9_19)]) [0, 1, 2, 3, 4] rfl
      have hD9 := hD.sub (ws' := [(zo14irriiiiiirriirrrrlriiii m0 th aS aI im ac sp en wg op aB aT se9_17 dn9_18 aG aO aN aD bv aY rn kd nu tv), (zaI aS cS 901 fS), (zaI aB cB 6 fB9_15), (zaI aT cT 64 fT9_16), (zaI aG cG 9 fG9_19)]) [0, 1, 2, 3, 4] (by decide) rfl
      have hK9 := hK.sub (tys' := [(cS, .int), (cB, .int), (cT, .boolean), (cG, .int)]) [0, 1, 2, 3] rfl
      exact W.iret (v := r_13) hx hb hr (fun tQ htQ hWQ => ⟨⟨r_13, (fB9_15, fT9_16, se9_17, dn9_18, fG9_19), rfl, trivial, by rw [htQ]; exact hP9, va_K.moved hWQ.alike hK9, hD9⟩, hS.F htQ⟩) hS.2.2 dX12_steps_26
    · skip
      refine lv_if_eq (tgt := 25) hx hb dX12_steps_13 (by decide) (fun _ => ?_) (fun c_20 => absurd c_20 (by decide))
      refine lv_iconst (v := (-1)) hx hb dX12_steps_25 (by decide) ?_
      rw [hQ]
      have hP9 := hP.sub (ws' := [(zo14irriiiiiirriirrrrlriiii m0 th aS aI im ac sp en wg op aB aT se dn aG aO aN aD bv aY rn kd nu tv), (zaI aS cS 901 fS), (zaI aB cB 6 fB), (zaI aT cT 64 fT), (zaI aG cG 9 fG)]) [0, 1, 2, 3, 4] rfl
      have hD9 := hD.sub (ws' := [(zo14irriiiiiirriirrrrlriiii m0 th aS aI im ac sp en wg op aB aT se dn aG aO aN aD bv aY rn kd nu tv), (zaI aS cS 901 fS), (zaI aB cB 6 fB), (zaI aT cT 64 fT), (zaI aG cG 9 fG)]) [0, 1, 2, 3, 4] (by decide) rfl
      have hK9 := hK.sub (tys' := [(cS, .int), (cB, .int), (cT, .boolean), (cG, .int)]) [0, 1, 2, 3] rfl
      exact W.iret (v := (-1)) hx hb hr (fun tQ htQ hWQ => ⟨⟨(-1), (fB, fT, se, dn, fG), rfl, trivial, by rw [htQ]; exact hP9, va_K.moved hWQ.alike hK9, hD9⟩, hS.F htQ⟩) hS.2.2 dX12_steps_26
  · skip
    refine lv_if_eq (tgt := 25) hx hb dX12_steps_5 (by decide) (fun _ => ?_) (fun c_21 => absurd c_21 (by decide))
    refine lv_iconst (v := (-1)) hx hb dX12_steps_25 (by decide) ?_
    rw [hQ]
    have hP9 := hP.sub (ws' := [(zo14irriiiiiirriirrrrlriiii m0 th aS aI im ac sp en wg op aB aT se dn aG aO aN aD bv aY rn kd nu tv), (zaI aS cS 901 fS), (zaI aB cB 6 fB), (zaI aT cT 64 fT), (zaI aG cG 9 fG)]) [0, 1, 2, 3, 4] rfl
    have hD9 := hD.sub (ws' := [(zo14irriiiiiirriirrrrlriiii m0 th aS aI im ac sp en wg op aB aT se dn aG aO aN aD bv aY rn kd nu tv), (zaI aS cS 901 fS), (zaI aB cB 6 fB), (zaI aT cT 64 fT), (zaI aG cG 9 fG)]) [0, 1, 2, 3, 4] (by decide) rfl
    have hK9 := hK.sub (tys' := [(cS, .int), (cB, .int), (cT, .boolean), (cG, .int)]) [0, 1, 2, 3] rfl
    exact W.iret (v := (-1)) hx hb hr (fun tQ htQ hWQ => ⟨⟨(-1), (fB, fT, se, dn, fG), rfl, trivial, by rw [htQ]; exact hP9, va_K.moved hWQ.alike hK9, hD9⟩, hS.F htQ⟩) hS.2.2 dX12_steps_26

theorem kc_mVia_0 : ∀ w ∈ wsX120, w ∈ wsX12_via := fun w h => List.mem_cons_of_mem _ (gin_wsX120 w h)
theorem kc_mVia_1 : (.fieldLink RX12 9 "MistHeapsModel" "s" "[I" : Cond) ∈ wsX12_via := kc_of 1141 rfl rfl rfl
theorem kc_mVia_2 : (.fieldLink RX12 25 "MistHeapsModel" "goes" "[I" : Cond) ∈ wsX12_via := kc_of 1153 rfl rfl rfl
set_option maxHeartbeats 4000000 in
set_option maxRecDepth 100000 in
theorem c_mVia (l : Launch) (dC : Nat → ClassId) (dI : Nat → Nat → Nat) (m0 aS aI aB aT aG aO aN aD aY : Nat) (th im ac sp en wg op se dn rn kd nu tv : Int32) (bv : Int64) (cS cB cT cG : ClassId) (fS : Nat → Int32) (fB : Nat → Int32) (fT : Nat → Int32) (fG : Nat → Int32) (n : Nat) (x y : Int32) (sz : Nat) (zn : fS 0 = nI n) (hn : n ≤ 8) (zh : hold fS) : Met l yX12_via wsX12_via ({ frames := 6, cells := 0, slots := 0, locals := 147 } : Room) (va_Pc [.ref m0, .int x, .int y] (fun U => U.heap.size = sz ∧ va_P (dC, dI) vwCl [(zo14irriiiiiirriirrrrlriiii m0 th aS aI im ac sp en wg op aB aT se dn aG aO aN aD bv aY rn kd nu tv), (zaI aS cS 901 fS), (zaI aB cB 6 fB), (zaI aT cT 64 fT), (zaI aG cG 9 fG)] U.heap ∧ va_K (dC, dI) vwCl [(cS, .int), (cB, .int), (cT, .boolean), (cG, .int)] U ∧ va_D (fun _ => True) [(zo14irriiiiiirriirrrrlriiii m0 th aS aI im ac sp en wg op aB aT se dn aG aO aN aD bv aY rn kd nu tv), (zaI aS cS 901 fS), (zaI aB cB 6 fB), (zaI aT cT 64 fT), (zaI aG cG 9 fG)])) (va_Qi (fun (r : Int32) (u : (Nat → Int32) × (Nat → Int32) × (Int32) × (Int32) × (Nat → Int32)) => match u with | (fB9, fT9, se9, dn9, fG9) => True) (fun (u : (Nat → Int32) × (Nat → Int32) × (Int32) × (Int32) × (Nat → Int32)) (t : State) => match u with | (fB9, fT9, se9, dn9, fG9) => va_P (dC, dI) vwCl [(zo14irriiiiiirriirrrrlriiii m0 th aS aI im ac sp en wg op aB aT se9 dn9 aG aO aN aD bv aY rn kd nu tv), (zaI aS cS 901 fS), (zaI aB cB 6 fB9), (zaI aT cT 64 fT9), (zaI aG cG 9 fG9)] t.heap ∧ va_K (dC, dI) vwCl [(cS, .int), (cB, .int), (cT, .boolean), (cG, .int)] t ∧ va_D (va_A [(zo14irriiiiiirriirrrrlriiii m0 th aS aI im ac sp en wg op aB aT se dn aG aO aN aD bv aY rn kd nu tv), (zaI aS cS 901 fS), (zaI aB cB 6 fB), (zaI aT cT 64 fT), (zaI aG cG 9 fG)] sz) [(zo14irriiiiiirriirrrrlriiii m0 th aS aI im ac sp en wg op aB aT se9 dn9 aG aO aN aD bv aY rn kd nu tv), (zaI aS cS 901 fS), (zaI aB cB 6 fB9), (zaI aT cT 64 fT9), (zaI aG cG 9 fG9)]) (va_A [(zo14irriiiiiirriirrrrlriiii m0 th aS aI im ac sp en wg op aB aT se dn aG aO aN aD bv aY rn kd nu tv), (zaI aS cS 901 fS), (zaI aB cB 6 fB), (zaI aT cT 64 fT), (zaI aG cG 9 fG)] sz)) 0 0 (va_A [(zo14irriiiiiirriirrrrlriiii m0 th aS aI im ac sp en wg op aB aT se dn aG aO aN aD bv aY rn kd nu tv), (zaI aS cS 901 fS), (zaI aB cB 6 fB), (zaI aT cT 64 fT), (zaI aG cG 9 fG)] sz) := by
  refine met_ofQ (cc := cX12_via) (maxL := 5) (ret := (some .int)) (by decide) rfl ?_
  intro p e s m args below meth c s₁ Q B hml hv hQ
  obtain ⟨rfl, hsz, hP, hK, hD0⟩ := hv
  have hx := B.exec
  have hb := B.bytes
  have hr := B.returns
  have hts := atoms_spec (ws := wsX12_via) B.pre
  have hown : s.vm.findClass RX12 = some m.cls := findClass_of_methodNamed B.named
  have hlocks := B.notSynchronized
  subst hsz
  have hD := hD0.self (sz := s.heap.size)
  generalize hAe : va_A [(zo14irriiiiiirriirrrrlriiii m0 th aS aI im ac sp en wg op aB aT se dn aG aO aN aD bv aY rn kd nu tv), (zaI aS cS 901 fS), (zaI aB cB 6 fB), (zaI aT cT 64 fT), (zaI aG cG 9 fG)] s.heap.size = A at hD hQ ⊢
  have hA : ∀ q : Nat, s.heap.size ≤ q → A q := fun q h => by rw [← hAe]; exact Or.inr h
  have hS : va_S A s.heap s.heap [] := va_S.rf
  have hl := lv_entry [.ref m0, .int x, .int y] (n := 5) (Nat.le_of_ble_eq_true rfl)
  rw [lg_entry_eq]
  generalize (lg_sl [.ref m0, .int x, .int y] ++ List.replicate (5 - (lg_sl [.ref m0, .int x, .int y]).length) Slot.unset).toArray = ls at hl ⊢
  generalize hag : ([.ref m0, .int x, .int y] : List Value).toArray = args at hts hQ ⊢
  have hl : lv_has ls 5 [(0, .ref m0), (1, .int x), (2, .int y)] := hl
  obtain ⟨H, hH⟩ : ∃ H : Heap, H = s.heap := ⟨_, rfl⟩
  rw [← hH] at hP
  rw [← hH]
  have hS : va_S A s.heap H [] := by rw [hH]; exact hS
  obtain ⟨locs, hlo⟩ : ∃ L : List Loc, L = [] := ⟨_, rfl⟩
  rw [← hlo] at hS
  rw [← hlo]
  clear hH hlo
  refine lv_aload_n hx hb dX12_via_0 rfl (lv_at hl 0 rfl) ?_
  refine lv_iload_n hx hb dX12_via_1 rfl (lv_at hl 1 rfl) ?_
  have hPc := hP.sub (ws' := [(zo14irriiiiiirriirrrrlriiii m0 th aS aI im ac sp en wg op aB aT se dn aG aO aN aD bv aY rn kd nu tv), (zaI aS cS 901 fS)]) [0, 1] rfl
  have hKc := hK.sub (tys' := [(cS, .int)]) [0] rfl
  refine vp_callSi (va_runV (As := [.int x]) (rest := []) ⟨hx, hb, hml, hown, hts⟩ (c_isHeap l dC dI m0 aS aI aB aT aG aO aN aD aY th im ac sp en wg op se dn rn kd nu tv bv cS fS n x (zn) (hn)) (cwV 1 hts gX12_via_X12_isHeap rfl rfl rfl hd_yX12_isHeap ⟨Nat.le_of_ble_eq_true rfl, Nat.le_of_ble_eq_true rfl⟩) ⟨fun a U g mk q => by obtain ⟨q0, qP, qK⟩ := q; exact ⟨q0, qP, va_K.moved (u := U) (U := U.calling g mk a) (Vm.Alike.refl U.vm) qK⟩, va_recv hK hP (ci := 14) (q := (RX12, TX12, 23)) (q0 := 0) rfl rfl, fun U hU hW => ⟨rfl, by rw [hU]; exact hPc, va_K.moved hW.alike hKc⟩⟩ rfl rfl hl.1 rfl (lv_room (Nat.le_of_ble_eq_true rfl)) dX12_via_2 ⟨Nat.le_of_ble_eq_true rfl, Nat.le_of_ble_eq_true rfl⟩).run (fun r_1 hw_2 => ?_)
  rcases hw_2 with ⟨rfl, j_3, hj_4, rfl⟩ | ⟨rfl, h_5⟩
  · skip
    refine lv_if_eq (tgt := 16) hx hb dX12_via_5 (by decide) (fun c_6 => absurd c_6 (by decide)) (fun _ => ?_)
    refine lv_aload_n hx hb dX12_via_8 rfl (lv_at hl 0 rfl) ?_
    refine lv_iload_n hx hb dX12_via_9 rfl (lv_at hl 2 rfl) ?_
    have hPc := hP.sub (ws' := [(zo14irriiiiiirriirrrrlriiii m0 th aS aI im ac sp en wg op aB aT se dn aG aO aN aD bv aY rn kd nu tv), (zaI aS cS 901 fS)]) [0, 1] rfl
    have hKc := hK.sub (tys' := [(cS, .int)]) [0] rfl
    refine vp_callSi (va_runV (As := [.int y]) (rest := []) ⟨hx, hb, hml, hown, hts⟩ (c_isHeap l dC dI m0 aS aI aB aT aG aO aN aD aY th im ac sp en wg op se dn rn kd nu tv bv cS fS n y (zn) (hn)) (cwV 1 hts gX12_via_X12_isHeap rfl rfl rfl hd_yX12_isHeap ⟨Nat.le_of_ble_eq_true rfl, Nat.le_of_ble_eq_true rfl⟩) ⟨fun a U g mk q => by obtain ⟨q0, qP, qK⟩ := q; exact ⟨q0, qP, va_K.moved (u := U) (U := U.calling g mk a) (Vm.Alike.refl U.vm) qK⟩, va_recv hK hP (ci := 14) (q := (RX12, TX12, 23)) (q0 := 0) rfl rfl, fun U hU hW => ⟨rfl, by rw [hU]; exact hPc, va_K.moved hW.alike hKc⟩⟩ rfl rfl hl.1 rfl (lv_room (Nat.le_of_ble_eq_true rfl)) dX12_via_10 ⟨Nat.le_of_ble_eq_true rfl, Nat.le_of_ble_eq_true rfl⟩).run (fun r_7 hw_8 => ?_)
    rcases hw_8 with ⟨rfl, j_9, hj_10, rfl⟩ | ⟨rfl, h_11⟩
    · skip
      refine lv_if_ne (tgt := 18) hx hb dX12_via_13 (by decide) (fun _ => ?_) (fun c_12 => absurd c_12 (by decide))
      refine lv_aload_n hx hb dX12_via_18 rfl (lv_at hl 0 rfl) ?_
      refine lv_iload_n hx hb dX12_via_19 rfl (lv_at hl 1 rfl) ?_
      refine lv_iload_n hx hb dX12_via_20 rfl (lv_at hl 2 rfl) ?_
      have hPc := hP.sub (ws' := [(zo14irriiiiiirriirrrrlriiii m0 th aS aI im ac sp en wg op aB aT se dn aG aO aN aD bv aY rn kd nu tv), (zaI aS cS 901 fS), (zaI aB cB 6 fB), (zaI aT cT 64 fT), (zaI aG cG 9 fG)]) [0, 1, 2, 3, 4] rfl
      have hDc := hD.sub (ws' := [(zo14irriiiiiirriirrrrlriiii m0 th aS aI im ac sp en wg op aB aT se dn aG aO aN aD bv aY rn kd nu tv), (zaI aS cS 901 fS), (zaI aB cB 6 fB), (zaI aT cT 64 fT), (zaI aG cG 9 fG)]) [0, 1, 2, 3, 4] (by decide) rfl
      have hKc := hK.sub (tys' := [(cS, .int), (cB, .int), (cT, .boolean), (cG, .int)]) [0, 1, 2, 3] rfl
      have hFc := va_free (wc := [(zo14irriiiiiirriirrrrlriiii m0 th aS aI im ac sp en wg op aB aT se dn aG aO aN aD bv aY rn kd nu tv), (zaI aS cS 901 fS), (zaI aB cB 6 fB), (zaI aT cT 64 fT), (zaI aG cG 9 fG)]) hD hS hA [0, 1, 2, 3, 4] rfl
      refine va_calli (va_runV (As := [.int (nI j_3), .int (nI j_9)]) (rest := []) ⟨hx, hb, hml, hown, hts⟩ (c_stepsOf l dC dI m0 aS aI aB aT aG aO aN aD aY th im ac sp en wg op se dn rn kd nu tv bv cS cB cT cG fS fB fT fG n (nI j_3) (nI j_9) H.size (zn) (hn) (zh)) (cwV 2 hts gX12_via_X12_stepsOf rfl rfl rfl hd_yX12_stepsOf ⟨Nat.le_of_ble_eq_true rfl, Nat.le_of_ble_eq_true rfl⟩) ⟨fun a U g mk q => by obtain ⟨q0, q1, qP, qK, qD⟩ := q; exact ⟨q0, q1, qP, va_K.moved (u := U) (U := U.calling g mk a) (Vm.Alike.refl U.vm) qK, qD⟩, va_recv hK hP (ci := 14) (q := (RX12, TX12, 23)) (q0 := 0) rfl rfl, fun U hU hW => ⟨rfl, by rw [hU], by rw [hU]; exact hPc, va_K.moved hW.alike hKc, hDc.weaken (fun _ _ _ _ => trivial)⟩⟩ rfl rfl hl.1 rfl (lv_room (Nat.le_of_ble_eq_true rfl)) dX12_via_21 ⟨Nat.le_of_ble_eq_true rfl, Nat.le_of_ble_eq_true rfl⟩) hS (fun q _ h => hFc q h) hFc (fun r_13 u tC H1 locs htC hvm hw_14 hB hz1 hk1 hS => ?_)
      obtain ⟨fB9_15, fT9_16, se9_17, dn9_18, fG9_19⟩ := u
      try dsimp only at hw_14 hB
      obtain ⟨hP1, hK1, hD1⟩ := hB
      rw [htC] at hP1
      have hK1 := va_K.moved hvm.symm hK1
      obtain ⟨hP, hD⟩ := va_join (wr := []) (w1 := [(zo14irriiiiiirriirrrrlriiii m0 th aS aI im ac sp en wg op aB aT se9_17 dn9_18 aG aO aN aD bv aY rn kd nu tv), (zaI aS cS 901 fS), (zaI aB cB 6 fB9_15), (zaI aT cT 64 fT9_16), (zaI aG cG 9 fG9_19)]) hP hD [0, 1, 2, 3, 4] [] rfl rfl (by decide) (by decide) hk1 hFc hP1 hD1
      have hK := (hK.sub (tys' := []) [] rfl).app hK1
      generalize H1 = H at hP hS ⊢
      have hP : va_P (dC, dI) vwCl [(zo14irriiiiiirriirrrrlriiii m0 th aS aI im ac sp en wg op aB aT se9_17 dn9_18 aG aO aN aD bv aY rn kd nu tv), (zaI aS cS 901 fS), (zaI aB cB 6 fB9_15), (zaI aT cT 64 fT9_16), (zaI aG cG 9 fG9_19)] H := hP
      have hD : va_D A [(zo14irriiiiiirriirrrrlriiii m0 th aS aI im ac sp en wg op aB aT se9_17 dn9_18 aG aO aN aD bv aY rn kd nu tv), (zaI aS cS 901 fS), (zaI aB cB 6 fB9_15), (zaI aT cT 64 fT9_16), (zaI aG cG 9 fG9_19)] := hD
      have hK : va_K (dC, dI) vwCl [(cS, .int), (cB, .int), (cT, .boolean), (cG, .int)] s := hK
      refine lv_istore_n (lv' := [(3, .int r_13), (0, .ref m0), (1, .int (nI j_3)), (2, .int (nI j_9))]) hx hb dX12_via_24 rfl hl (by decide) rfl (fun ls hl => ?_)
      refine lv_iconst (v := 0) hx hb dX12_via_25 (by decide) ?_
      refine lv_istore (lv' := [(4, .int 0), (3, .int r_13), (0, .ref m0), (1, .int (nI j_3)), (2, .int (nI j_9))]) hx hb dX12_via_26 hl (by decide) rfl (fun ls hl => ?_)
      have L28 : ∀ (nF : Nat) (i : Nat) (se2 : Int32) (dn2 : Int32) (fB2 : Nat → Int32) (fT2 : Nat → Int32) (fG2 : Nat → Int32), n - i < nF → (i ≤ n) → ∀ (H : Heap) (locs : List Loc), va_K (dC, dI) vwCl [(cS, .int), (cB, .int), (cT, .boolean), (cG, .int)] s → va_P (dC, dI) vwCl [(zo14irriiiiiirriirrrrlriiii m0 th aS aI im ac sp en wg op aB aT se2 dn2 aG aO aN aD bv aY rn kd nu tv), (zaI aS cS 901 fS), (zaI aB cB 6 fB2), (zaI aT cT 64 fT2), (zaI aG cG 9 fG2)] H → va_D A [(zo14irriiiiiirriirrrrlriiii m0 th aS aI im ac sp en wg op aB aT se2 dn2 aG aO aN aD bv aY rn kd nu tv), (zaI aS cS 901 fS), (zaI aB cB 6 fB2), (zaI aT cT 64 fT2), (zaI aG cG 9 fG2)] → va_S A s.heap H locs → ∀ (ls : Array Slot), lv_has ls 5 [(0, .ref m0), (1, .int (nI j_3)), (2, .int (nI j_9)), (3, .int r_13), (4, .int (nI i))] → W p l e ({ frames := 6, cells := 0, slots := 0, locals := 147 } : Room) s m args below meth c H locs 0 0 Q (F0 m 28 ls []) := by
        intro nF
        induction nF with
        | zero => intro i se2 dn2 fB2 fT2 fG2 hm; exact absurd hm (Nat.not_lt_zero _)
        | succ nF ih28 =>
          intro i se2 dn2 fB2 fT2 fG2 hm hii H locs hK hP hD hS ls hl
          refine lv_iload hx hb dX12_via_28 (lv_at hl 4 rfl) ?_
          refine lv_aload_n hx hb dX12_via_30 rfl (lv_at hl 0 rfl) ?_
          refine va_get (D := (dC, dI)) (ci := 14) (v := .ref aS) (C := RX12) (T := TX12) (N := 23) hx hb hts kc_mVia_0 hown hK hP 0 rfl rfl 1 (by decide) (hts (.fieldLink RX12 9 "MistHeapsModel" "s" "[I") kc_mVia_1) (fun _ h9 => h9) rfl dX12_via_31 ?_
          refine lv_iconst (v := 0) hx hb dX12_via_34 (by decide) ?_
          refine va_iald hx hb hK hP 1 0 rfl rfl (vp_in_nI (n := 0) (N := 901) (by omega) (by omega)) dX12_via_35 ?_
          refine qi_as (y := nI n) ((show fS (0 : Int32).toNatClampNeg = fS 0 from rfl).trans (zn)) ?_
          refine lv_icmp_ge (tgt := 81) hx hb dX12_via_36 (by decide) (fun c_20 => ?_) (fun c_20 => ?_)
          · skip
            have c_20 : n ≤ i := (nI_leI (a := n) (b := i) (by omega) (by omega)).mp c_20
            refine lv_bipush (v := (-5)) hx hb dX12_via_81 (by decide) ?_
            rw [hQ]
            have hP9 := hP.sub (ws' := [(zo14irriiiiiirriirrrrlriiii m0 th aS aI im ac sp en wg op aB aT se2 dn2 aG aO aN aD bv aY rn kd nu tv), (zaI aS cS 901 fS), (zaI aB cB 6 fB2), (zaI aT cT 64 fT2), (zaI aG cG 9 fG2)]) [0, 1, 2, 3, 4] rfl
            have hD9 := hD.sub (ws' := [(zo14irriiiiiirriirrrrlriiii m0 th aS aI im ac sp en wg op aB aT se2 dn2 aG aO aN aD bv aY rn kd nu tv), (zaI aS cS 901 fS), (zaI aB cB 6 fB2), (zaI aT cT 64 fT2), (zaI aG cG 9 fG2)]) [0, 1, 2, 3, 4] (by decide) rfl
            have hK9 := hK.sub (tys' := [(cS, .int), (cB, .int), (cT, .boolean), (cG, .int)]) [0, 1, 2, 3] rfl
            exact W.iret (v := (-5)) hx hb hr (fun tQ htQ hWQ => ⟨⟨(-5), (fB2, fT2, se2, dn2, fG2), rfl, trivial, by rw [htQ]; exact hP9, va_K.moved hWQ.alike hK9, hD9⟩, hS.F htQ⟩) hS.2.2 dX12_via_83
          · skip
            have c_20 : ¬ n ≤ i := fun q => c_20 ((nI_leI (a := n) (b := i) (by omega) (by omega)).mpr q)
            refine lv_iload_n hx hb dX12_via_39 rfl (lv_at hl 3 rfl) ?_
            refine lv_if_le (tgt := 81) hx hb dX12_via_40 (by decide) (fun c_21 => ?_) (fun c_21 => ?_)
            · skip
              refine lv_bipush (v := (-5)) hx hb dX12_via_81 (by decide) ?_
              rw [hQ]
              have hP9 := hP.sub (ws' := [(zo14irriiiiiirriirrrrlriiii m0 th aS aI im ac sp en wg op aB aT se2 dn2 aG aO aN aD bv aY rn kd nu tv), (zaI aS cS 901 fS), (zaI aB cB 6 fB2), (zaI aT cT 64 fT2), (zaI aG cG 9 fG2)]) [0, 1, 2, 3, 4] rfl
              have hD9 := hD.sub (ws' := [(zo14irriiiiiirriirrrrlriiii m0 th aS aI im ac sp en wg op aB aT se2 dn2 aG aO aN aD bv aY rn kd nu tv), (zaI aS cS 901 fS), (zaI aB cB 6 fB2), (zaI aT cT 64 fT2), (zaI aG cG 9 fG2)]) [0, 1, 2, 3, 4] (by decide) rfl
              have hK9 := hK.sub (tys' := [(cS, .int), (cB, .int), (cT, .boolean), (cG, .int)]) [0, 1, 2, 3] rfl
              exact W.iret (v := (-5)) hx hb hr (fun tQ htQ hWQ => ⟨⟨(-5), (fB2, fT2, se2, dn2, fG2), rfl, trivial, by rw [htQ]; exact hP9, va_K.moved hWQ.alike hK9, hD9⟩, hS.F htQ⟩) hS.2.2 dX12_via_83
            · skip
              refine lv_aload_n hx hb dX12_via_43 rfl (lv_at hl 0 rfl) ?_
              refine va_get (D := (dC, dI)) (ci := 14) (v := .ref aG) (C := RX12) (T := TX12) (N := 23) hx hb hts kc_mVia_0 hown hK hP 0 rfl rfl 13 (by decide) (hts (.fieldLink RX12 25 "MistHeapsModel" "goes" "[I") kc_mVia_2) (fun _ h9 => h9) rfl dX12_via_44 ?_
              refine lv_iload_n hx hb dX12_via_47 rfl (lv_at hl 1 rfl) ?_
              refine va_iald hx hb hK hP 4 3 rfl rfl (vp_in_nI (n := j_3) (N := 9) (by omega) (by omega)) dX12_via_48 ?_
              refine qi_as (y := fG2 j_3) (by rw [nI_clamp (by omega)]) ?_
              refine lv_iload hx hb dX12_via_49 (lv_at hl 4 rfl) ?_
              refine lv_ishr hx hb dX12_via_51 ?_
              refine lv_iconst (v := 1) hx hb dX12_via_52 (by decide) ?_
              refine lv_iand hx hb dX12_via_53 ?_
              refine lv_iconst (v := 1) hx hb dX12_via_54 (by decide) ?_
              refine lv_icmp_ne (tgt := 75) hx hb dX12_via_55 (by decide) (fun c_22 => ?_) (fun c_22 => ?_)
              · skip
                refine lv_iinc (v := nI (i + 1)) (lv' := [(4, .int (nI (i + 1))), (0, .ref m0), (1, .int (nI j_3)), (2, .int (nI j_9)), (3, .int r_13)]) hx hb dX12_via_75 hl (k := 4) rfl (nI_add i 1) (by decide) rfl (fun ls hl => ?_)
                refine lv_goto (tgt := 28) hx hb dX12_via_78 (by decide) ?_
                exact ih28 (i + 1) _ _ _ _ _ (by omega) (by omega) _ _ (hK.sub [0, 1, 2, 3] rfl) (hP.sub [0, 1, 2, 3, 4] rfl) (hD.sub [0, 1, 2, 3, 4] (by decide) rfl) hS ls (lv_sub hl [1, 2, 3, 4, 0] rfl)
              · skip
                refine lv_aload_n hx hb dX12_via_58 rfl (lv_at hl 0 rfl) ?_
                refine lv_iload hx hb dX12_via_59 (lv_at hl 4 rfl) ?_
                refine lv_iload_n hx hb dX12_via_61 rfl (lv_at hl 2 rfl) ?_
                refine lv_iconst (v := 0) hx hb dX12_via_62 (by decide) ?_
                have hPc := hP.sub (ws' := [(zo14irriiiiiirriirrrrlriiii m0 th aS aI im ac sp en wg op aB aT se2 dn2 aG aO aN aD bv aY rn kd nu tv), (zaI aS cS 901 fS), (zaI aG cG 9 fG2)]) [0, 1, 4] rfl
                have hKc := hK.sub (tys' := [(cS, .int), (cG, .int)]) [0, 3] rfl
                refine vp_callSi (va_runV (As := [.int (nI i), .int (nI j_9), .int 0]) (rest := []) ⟨hx, hb, hml, hown, hts⟩ (c_stepsBut l dC dI m0 aS aI aB aT aG aO aN aD aY th im ac sp en wg op se2 dn2 rn kd nu tv bv cS cG fS fG2 n (nI i) (nI j_9) 0 (zn) (hn)) (cwV 3 hts gX12_via_X12_stepsBut rfl rfl rfl hd_yX12_stepsBut ⟨Nat.le_of_ble_eq_true rfl, Nat.le_of_ble_eq_true rfl⟩) ⟨fun a U g mk q => by obtain ⟨q0, qP, qK⟩ := q; exact ⟨q0, qP, va_K.moved (u := U) (U := U.calling g mk a) (Vm.Alike.refl U.vm) qK⟩, va_recv hK hP (ci := 14) (q := (RX12, TX12, 23)) (q0 := 0) rfl rfl, fun U hU hW => ⟨rfl, by rw [hU]; exact hPc, va_K.moved hW.alike hKc⟩⟩ rfl rfl hl.1 rfl (lv_room (Nat.le_of_ble_eq_true rfl)) dX12_via_63 ⟨Nat.le_of_ble_eq_true rfl, Nat.le_of_ble_eq_true rfl⟩).run (fun r_23 hw_24 => ?_)
                refine lv_iload_n hx hb dX12_via_66 rfl (lv_at hl 3 rfl) ?_
                refine lv_iconst (v := 1) hx hb dX12_via_67 (by decide) ?_
                refine lv_isub hx hb dX12_via_68 ?_
                refine lv_icmp_ne (tgt := 75) hx hb dX12_via_69 (by decide) (fun c_25 => ?_) (fun c_25 => ?_)
                · skip
                  refine lv_iinc (v := nI (i + 1)) (lv' := [(4, .int (nI (i + 1))), (0, .ref m0), (1, .int (nI j_3)), (2, .int (nI j_9)), (3, .int r_13)]) hx hb dX12_via_75 hl (k := 4) rfl (nI_add i 1) (by decide) rfl (fun ls hl => ?_)
                  refine lv_goto (tgt := 28) hx hb dX12_via_78 (by decide) ?_
                  exact ih28 (i + 1) _ _ _ _ _ (by omega) (by omega) _ _ (hK.sub [0, 1, 2, 3] rfl) (hP.sub [0, 1, 2, 3, 4] rfl) (hD.sub [0, 1, 2, 3, 4] (by decide) rfl) hS ls (lv_sub hl [1, 2, 3, 4, 0] rfl)
                · skip
                  refine lv_iload hx hb dX12_via_72 (lv_at hl 4 rfl) ?_
                  rw [hQ]
                  have hP9 := hP.sub (ws' := [(zo14irriiiiiirriirrrrlriiii m0 th aS aI im ac sp en wg op aB aT se2 dn2 aG aO aN aD bv aY rn kd nu tv), (zaI aS cS 901 fS), (zaI aB cB 6 fB2), (zaI aT cT 64 fT2), (zaI aG cG 9 fG2)]) [0, 1, 2, 3, 4] rfl
                  have hD9 := hD.sub (ws' := [(zo14irriiiiiirriirrrrlriiii m0 th aS aI im ac sp en wg op aB aT se2 dn2 aG aO aN aD bv aY rn kd nu tv), (zaI aS cS 901 fS), (zaI aB cB 6 fB2), (zaI aT cT 64 fT2), (zaI aG cG 9 fG2)]) [0, 1, 2, 3, 4] (by decide) rfl
                  have hK9 := hK.sub (tys' := [(cS, .int), (cB, .int), (cT, .boolean), (cG, .int)]) [0, 1, 2, 3] rfl
                  exact W.iret (v := nI i) hx hb hr (fun tQ htQ hWQ => ⟨⟨(nI i), (fB2, fT2, se2, dn2, fG2), rfl, trivial, by rw [htQ]; exact hP9, va_K.moved hWQ.alike hK9, hD9⟩, hS.F htQ⟩) hS.2.2 dX12_via_74
      exact L28 _ (0) _ _ _ _ _ (Nat.lt_succ_self _) (by omega) _ _ (hK.sub [0, 1, 2, 3] rfl) (hP.sub [0, 1, 2, 3, 4] rfl) (hD.sub [0, 1, 2, 3, 4] (by decide) rfl) hS ls (lv_sub hl [2, 3, 4, 1, 0] rfl)
    · skip
      refine lv_if_ne (tgt := 18) hx hb dX12_via_13 (by decide) (fun c_26 => absurd c_26 (by decide)) (fun _ => ?_)
      refine lv_iconst (v := (-1)) hx hb dX12_via_16 (by decide) ?_
      rw [hQ]
      have hP9 := hP.sub (ws' := [(zo14irriiiiiirriirrrrlriiii m0 th aS aI im ac sp en wg op aB aT se dn aG aO aN aD bv aY rn kd nu tv), (zaI aS cS 901 fS), (zaI aB cB 6 fB), (zaI aT cT 64 fT), (zaI aG cG 9 fG)]) [0, 1, 2, 3, 4] rfl
      have hD9 := hD.sub (ws' := [(zo14irriiiiiirriirrrrlriiii m0 th aS aI im ac sp en wg op aB aT se dn aG aO aN aD bv aY rn kd nu tv), (zaI aS cS 901 fS), (zaI aB cB 6 fB), (zaI aT cT 64 fT), (zaI aG cG 9 fG)]) [0, 1, 2, 3, 4] (by decide) rfl
      have hK9 := hK.sub (tys' := [(cS, .int), (cB, .int), (cT, .boolean), (cG, .int)]) [0, 1, 2, 3] rfl
      exact W.iret (v := (-1)) hx hb hr (fun tQ htQ hWQ => ⟨⟨(-1), (fB, fT, se, dn, fG), rfl, trivial, by rw [htQ]; exact hP9, va_K.moved hWQ.alike hK9, hD9⟩, hS.F htQ⟩) hS.2.2 dX12_via_17
  · skip
    refine lv_if_eq (tgt := 16) hx hb dX12_via_5 (by decide) (fun _ => ?_) (fun c_27 => absurd c_27 (by decide))
    refine lv_iconst (v := (-1)) hx hb dX12_via_16 (by decide) ?_
    rw [hQ]
    have hP9 := hP.sub (ws' := [(zo14irriiiiiirriirrrrlriiii m0 th aS aI im ac sp en wg op aB aT se dn aG aO aN aD bv aY rn kd nu tv), (zaI aS cS 901 fS), (zaI aB cB 6 fB), (zaI aT cT 64 fT), (zaI aG cG 9 fG)]) [0, 1, 2, 3, 4] rfl
    have hD9 := hD.sub (ws' := [(zo14irriiiiiirriirrrrlriiii m0 th aS aI im ac sp en wg op aB aT se dn aG aO aN aD bv aY rn kd nu tv), (zaI aS cS 901 fS), (zaI aB cB 6 fB), (zaI aT cT 64 fT), (zaI aG cG 9 fG)]) [0, 1, 2, 3, 4] (by decide) rfl
    have hK9 := hK.sub (tys' := [(cS, .int), (cB, .int), (cT, .boolean), (cG, .int)]) [0, 1, 2, 3] rfl
    exact W.iret (v := (-1)) hx hb hr (fun tQ htQ hWQ => ⟨⟨(-1), (fB, fT, se, dn, fG), rfl, trivial, by rw [htQ]; exact hP9, va_K.moved hWQ.alike hK9, hD9⟩, hS.F htQ⟩) hS.2.2 dX12_via_17

theorem kc_mCuts_0 : ∀ w ∈ wsX120, w ∈ wsX12_cuts := fun w h => List.mem_cons_of_mem _ (gin_wsX120 w h)
theorem kc_mCuts_1 : (.fieldLink RX12 9 "MistHeapsModel" "s" "[I" : Cond) ∈ wsX12_cuts := kc_of 1141 rfl rfl rfl
set_option maxHeartbeats 4000000 in
set_option maxRecDepth 100000 in
theorem c_mCuts (l : Launch) (dC : Nat → ClassId) (dI : Nat → Nat → Nat) (m0 aS aI aB aT aG aO aN aD aY : Nat) (th im ac sp en wg op se dn rn kd nu tv : Int32) (bv : Int64) (cS cB cT cG : ClassId) (fS : Nat → Int32) (fB : Nat → Int32) (fT : Nat → Int32) (fG : Nat → Int32) (n : Nat) (x y : Int32) (sz : Nat) (zn : fS 0 = nI n) (hn : n ≤ 8) (zh : hold fS) : Met l yX12_cuts wsX12_cuts ({ frames := 6, cells := 0, slots := 0, locals := 147 } : Room) (va_Pc [.ref m0, .int x, .int y] (fun U => U.heap.size = sz ∧ va_P (dC, dI) vwCl [(zo14irriiiiiirriirrrrlriiii m0 th aS aI im ac sp en wg op aB aT se dn aG aO aN aD bv aY rn kd nu tv), (zaI aS cS 901 fS), (zaI aB cB 6 fB), (zaI aT cT 64 fT), (zaI aG cG 9 fG)] U.heap ∧ va_K (dC, dI) vwCl [(cS, .int), (cB, .int), (cT, .boolean), (cG, .int)] U ∧ va_D (fun _ => True) [(zo14irriiiiiirriirrrrlriiii m0 th aS aI im ac sp en wg op aB aT se dn aG aO aN aD bv aY rn kd nu tv), (zaI aS cS 901 fS), (zaI aB cB 6 fB), (zaI aT cT 64 fT), (zaI aG cG 9 fG)])) (va_Qi (fun (r : Int32) (u : (Nat → Int32) × (Nat → Int32) × (Int32) × (Int32) × (Nat → Int32)) => match u with | (fB9, fT9, se9, dn9, fG9) => True) (fun (u : (Nat → Int32) × (Nat → Int32) × (Int32) × (Int32) × (Nat → Int32)) (t : State) => match u with | (fB9, fT9, se9, dn9, fG9) => va_P (dC, dI) vwCl [(zo14irriiiiiirriirrrrlriiii m0 th aS aI im ac sp en wg op aB aT se9 dn9 aG aO aN aD bv aY rn kd nu tv), (zaI aS cS 901 fS), (zaI aB cB 6 fB9), (zaI aT cT 64 fT9), (zaI aG cG 9 fG9)] t.heap ∧ va_K (dC, dI) vwCl [(cS, .int), (cB, .int), (cT, .boolean), (cG, .int)] t ∧ va_D (va_A [(zo14irriiiiiirriirrrrlriiii m0 th aS aI im ac sp en wg op aB aT se dn aG aO aN aD bv aY rn kd nu tv), (zaI aS cS 901 fS), (zaI aB cB 6 fB), (zaI aT cT 64 fT), (zaI aG cG 9 fG)] sz) [(zo14irriiiiiirriirrrrlriiii m0 th aS aI im ac sp en wg op aB aT se9 dn9 aG aO aN aD bv aY rn kd nu tv), (zaI aS cS 901 fS), (zaI aB cB 6 fB9), (zaI aT cT 64 fT9), (zaI aG cG 9 fG9)]) (va_A [(zo14irriiiiiirriirrrrlriiii m0 th aS aI im ac sp en wg op aB aT se dn aG aO aN aD bv aY rn kd nu tv), (zaI aS cS 901 fS), (zaI aB cB 6 fB), (zaI aT cT 64 fT), (zaI aG cG 9 fG)] sz)) 0 0 (va_A [(zo14irriiiiiirriirrrrlriiii m0 th aS aI im ac sp en wg op aB aT se dn aG aO aN aD bv aY rn kd nu tv), (zaI aS cS 901 fS), (zaI aB cB 6 fB), (zaI aT cT 64 fT), (zaI aG cG 9 fG)] sz) := by
  refine met_ofQ (cc := cX12_cuts) (maxL := 5) (ret := (some .int)) (by decide) rfl ?_
  intro p e s m args below meth c s₁ Q B hml hv hQ
  obtain ⟨rfl, hsz, hP, hK, hD0⟩ := hv
  have hx := B.exec
  have hb := B.bytes
  have hr := B.returns
  have hts := atoms_spec (ws := wsX12_cuts) B.pre
  have hown : s.vm.findClass RX12 = some m.cls := findClass_of_methodNamed B.named
  have hlocks := B.notSynchronized
  subst hsz
  have hD := hD0.self (sz := s.heap.size)
  generalize hAe : va_A [(zo14irriiiiiirriirrrrlriiii m0 th aS aI im ac sp en wg op aB aT se dn aG aO aN aD bv aY rn kd nu tv), (zaI aS cS 901 fS), (zaI aB cB 6 fB), (zaI aT cT 64 fT), (zaI aG cG 9 fG)] s.heap.size = A at hD hQ ⊢
  have hA : ∀ q : Nat, s.heap.size ≤ q → A q := fun q h => by rw [← hAe]; exact Or.inr h
  have hS : va_S A s.heap s.heap [] := va_S.rf
  have hl := lv_entry [.ref m0, .int x, .int y] (n := 5) (Nat.le_of_ble_eq_true rfl)
  rw [lg_entry_eq]
  generalize (lg_sl [.ref m0, .int x, .int y] ++ List.replicate (5 - (lg_sl [.ref m0, .int x, .int y]).length) Slot.unset).toArray = ls at hl ⊢
  generalize hag : ([.ref m0, .int x, .int y] : List Value).toArray = args at hts hQ ⊢
  have hl : lv_has ls 5 [(0, .ref m0), (1, .int x), (2, .int y)] := hl
  obtain ⟨H, hH⟩ : ∃ H : Heap, H = s.heap := ⟨_, rfl⟩
  rw [← hH] at hP
  rw [← hH]
  have hS : va_S A s.heap H [] := by rw [hH]; exact hS
  obtain ⟨locs, hlo⟩ : ∃ L : List Loc, L = [] := ⟨_, rfl⟩
  rw [← hlo] at hS
  rw [← hlo]
  clear hH hlo
  refine lv_aload_n hx hb dX12_cuts_0 rfl (lv_at hl 0 rfl) ?_
  refine lv_iload_n hx hb dX12_cuts_1 rfl (lv_at hl 1 rfl) ?_
  have hPc := hP.sub (ws' := [(zo14irriiiiiirriirrrrlriiii m0 th aS aI im ac sp en wg op aB aT se dn aG aO aN aD bv aY rn kd nu tv), (zaI aS cS 901 fS)]) [0, 1] rfl
  have hKc := hK.sub (tys' := [(cS, .int)]) [0] rfl
  refine vp_callSi (va_runV (As := [.int x]) (rest := []) ⟨hx, hb, hml, hown, hts⟩ (c_isHeap l dC dI m0 aS aI aB aT aG aO aN aD aY th im ac sp en wg op se dn rn kd nu tv bv cS fS n x (zn) (hn)) (cwV 1 hts gX12_cuts_X12_isHeap rfl rfl rfl hd_yX12_isHeap ⟨Nat.le_of_ble_eq_true rfl, Nat.le_of_ble_eq_true rfl⟩) ⟨fun a U g mk q => by obtain ⟨q0, qP, qK⟩ := q; exact ⟨q0, qP, va_K.moved (u := U) (U := U.calling g mk a) (Vm.Alike.refl U.vm) qK⟩, va_recv hK hP (ci := 14) (q := (RX12, TX12, 23)) (q0 := 0) rfl rfl, fun U hU hW => ⟨rfl, by rw [hU]; exact hPc, va_K.moved hW.alike hKc⟩⟩ rfl rfl hl.1 rfl (lv_room (Nat.le_of_ble_eq_true rfl)) dX12_cuts_2 ⟨Nat.le_of_ble_eq_true rfl, Nat.le_of_ble_eq_true rfl⟩).run (fun r_1 hw_2 => ?_)
  rcases hw_2 with ⟨rfl, j_3, hj_4, rfl⟩ | ⟨rfl, h_5⟩
  · skip
    refine lv_if_eq (tgt := 16) hx hb dX12_cuts_5 (by decide) (fun c_6 => absurd c_6 (by decide)) (fun _ => ?_)
    refine lv_aload_n hx hb dX12_cuts_8 rfl (lv_at hl 0 rfl) ?_
    refine lv_iload_n hx hb dX12_cuts_9 rfl (lv_at hl 2 rfl) ?_
    have hPc := hP.sub (ws' := [(zo14irriiiiiirriirrrrlriiii m0 th aS aI im ac sp en wg op aB aT se dn aG aO aN aD bv aY rn kd nu tv), (zaI aS cS 901 fS)]) [0, 1] rfl
    have hKc := hK.sub (tys' := [(cS, .int)]) [0] rfl
    refine vp_callSi (va_runV (As := [.int y]) (rest := []) ⟨hx, hb, hml, hown, hts⟩ (c_isHeap l dC dI m0 aS aI aB aT aG aO aN aD aY th im ac sp en wg op se dn rn kd nu tv bv cS fS n y (zn) (hn)) (cwV 1 hts gX12_cuts_X12_isHeap rfl rfl rfl hd_yX12_isHeap ⟨Nat.le_of_ble_eq_true rfl, Nat.le_of_ble_eq_true rfl⟩) ⟨fun a U g mk q => by obtain ⟨q0, qP, qK⟩ := q; exact ⟨q0, qP, va_K.moved (u := U) (U := U.calling g mk a) (Vm.Alike.refl U.vm) qK⟩, va_recv hK hP (ci := 14) (q := (RX12, TX12, 23)) (q0 := 0) rfl rfl, fun U hU hW => ⟨rfl, by rw [hU]; exact hPc, va_K.moved hW.alike hKc⟩⟩ rfl rfl hl.1 rfl (lv_room (Nat.le_of_ble_eq_true rfl)) dX12_cuts_10 ⟨Nat.le_of_ble_eq_true rfl, Nat.le_of_ble_eq_true rfl⟩).run (fun r_7 hw_8 => ?_)
    rcases hw_8 with ⟨rfl, j_9, hj_10, rfl⟩ | ⟨rfl, h_11⟩
    · skip
      refine lv_if_ne (tgt := 18) hx hb dX12_cuts_13 (by decide) (fun _ => ?_) (fun c_12 => absurd c_12 (by decide))
      refine lv_iconst (v := 0) hx hb dX12_cuts_18 (by decide) ?_
      refine lv_istore_n (lv' := [(3, .int 0), (0, .ref m0), (1, .int (nI j_3)), (2, .int (nI j_9))]) hx hb dX12_cuts_19 rfl hl (by decide) rfl (fun ls hl => ?_)
      refine lv_aload_n hx hb dX12_cuts_20 rfl (lv_at hl 1 rfl) ?_
      refine lv_iload_n hx hb dX12_cuts_21 rfl (lv_at hl 2 rfl) ?_
      refine lv_iload_n hx hb dX12_cuts_22 rfl (lv_at hl 3 rfl) ?_
      have hPc := hP.sub (ws' := [(zo14irriiiiiirriirrrrlriiii m0 th aS aI im ac sp en wg op aB aT se dn aG aO aN aD bv aY rn kd nu tv), (zaI aS cS 901 fS), (zaI aB cB 6 fB), (zaI aT cT 64 fT), (zaI aG cG 9 fG)]) [0, 1, 2, 3, 4] rfl
      have hDc := hD.sub (ws' := [(zo14irriiiiiirriirrrrlriiii m0 th aS aI im ac sp en wg op aB aT se dn aG aO aN aD bv aY rn kd nu tv), (zaI aS cS 901 fS), (zaI aB cB 6 fB), (zaI aT cT 64 fT), (zaI aG cG 9 fG)]) [0, 1, 2, 3, 4] (by decide) rfl
      have hKc := hK.sub (tys' := [(cS, .int), (cB, .int), (cT, .boolean), (cG, .int)]) [0, 1, 2, 3] rfl
      have hFc := va_free (wc := [(zo14irriiiiiirriirrrrlriiii m0 th aS aI im ac sp en wg op aB aT se dn aG aO aN aD bv aY rn kd nu tv), (zaI aS cS 901 fS), (zaI aB cB 6 fB), (zaI aT cT 64 fT), (zaI aG cG 9 fG)]) hD hS hA [0, 1, 2, 3, 4] rfl
      refine va_calli (va_runV (As := [.int (nI j_3), .int (nI j_9)]) (rest := []) ⟨hx, hb, hml, hown, hts⟩ (c_stepsOf l dC dI m0 aS aI aB aT aG aO aN aD aY th im ac sp en wg op se dn rn kd nu tv bv cS cB cT cG fS fB fT fG n (nI j_3) (nI j_9) H.size (zn) (hn) (zh)) (cwV 2 hts gX12_cuts_X12_stepsOf rfl rfl rfl hd_yX12_stepsOf ⟨Nat.le_of_ble_eq_true rfl, Nat.le_of_ble_eq_true rfl⟩) ⟨fun a U g mk q => by obtain ⟨q0, q1, qP, qK, qD⟩ := q; exact ⟨q0, q1, qP, va_K.moved (u := U) (U := U.calling g mk a) (Vm.Alike.refl U.vm) qK, qD⟩, va_recv hK hP (ci := 14) (q := (RX12, TX12, 23)) (q0 := 0) rfl rfl, fun U hU hW => ⟨rfl, by rw [hU], by rw [hU]; exact hPc, va_K.moved hW.alike hKc, hDc.weaken (fun _ _ _ _ => trivial)⟩⟩ rfl rfl hl.1 rfl (lv_room (Nat.le_of_ble_eq_true rfl)) dX12_cuts_23 ⟨Nat.le_of_ble_eq_true rfl, Nat.le_of_ble_eq_true rfl⟩) hS (fun q _ h => hFc q h) hFc (fun r_13 u tC H1 locs htC hvm hw_14 hB hz1 hk1 hS => ?_)
      obtain ⟨fB9_15, fT9_16, se9_17, dn9_18, fG9_19⟩ := u
      try dsimp only at hw_14 hB
      obtain ⟨hP1, hK1, hD1⟩ := hB
      rw [htC] at hP1
      have hK1 := va_K.moved hvm.symm hK1
      obtain ⟨hP, hD⟩ := va_join (wr := []) (w1 := [(zo14irriiiiiirriirrrrlriiii m0 th aS aI im ac sp en wg op aB aT se9_17 dn9_18 aG aO aN aD bv aY rn kd nu tv), (zaI aS cS 901 fS), (zaI aB cB 6 fB9_15), (zaI aT cT 64 fT9_16), (zaI aG cG 9 fG9_19)]) hP hD [0, 1, 2, 3, 4] [] rfl rfl (by decide) (by decide) hk1 hFc hP1 hD1
      have hK := (hK.sub (tys' := []) [] rfl).app hK1
      generalize H1 = H at hP hS ⊢
      have hP : va_P (dC, dI) vwCl [(zo14irriiiiiirriirrrrlriiii m0 th aS aI im ac sp en wg op aB aT se9_17 dn9_18 aG aO aN aD bv aY rn kd nu tv), (zaI aS cS 901 fS), (zaI aB cB 6 fB9_15), (zaI aT cT 64 fT9_16), (zaI aG cG 9 fG9_19)] H := hP
      have hD : va_D A [(zo14irriiiiiirriirrrrlriiii m0 th aS aI im ac sp en wg op aB aT se9_17 dn9_18 aG aO aN aD bv aY rn kd nu tv), (zaI aS cS 901 fS), (zaI aB cB 6 fB9_15), (zaI aT cT 64 fT9_16), (zaI aG cG 9 fG9_19)] := hD
      have hK : va_K (dC, dI) vwCl [(cS, .int), (cB, .int), (cT, .boolean), (cG, .int)] s := hK
      refine lv_bipush (v := (-5)) hx hb dX12_cuts_26 (by decide) ?_
      refine lv_icmp_ne (tgt := 33) hx hb dX12_cuts_28 (by decide) (fun c_20 => ?_) (fun c_20 => ?_)
      · skip
        refine lv_iconst (v := 0) hx hb dX12_cuts_33 (by decide) ?_
        refine lv_istore (lv' := [(4, .int 0), (3, .int 0), (0, .ref m0), (1, .int (nI j_3)), (2, .int (nI j_9))]) hx hb dX12_cuts_34 hl (by decide) rfl (fun ls hl => ?_)
        have L36 : ∀ (nF : Nat) (i : Nat) (se2 : Int32) (dn2 : Int32) (fB2 : Nat → Int32) (fT2 : Nat → Int32) (fG2 : Nat → Int32) (q : Int32), n - i < nF → (i ≤ n) → ∀ (H : Heap) (locs : List Loc), va_K (dC, dI) vwCl [(cS, .int), (cB, .int), (cT, .boolean), (cG, .int)] s → va_P (dC, dI) vwCl [(zo14irriiiiiirriirrrrlriiii m0 th aS aI im ac sp en wg op aB aT se2 dn2 aG aO aN aD bv aY rn kd nu tv), (zaI aS cS 901 fS), (zaI aB cB 6 fB2), (zaI aT cT 64 fT2), (zaI aG cG 9 fG2)] H → va_D A [(zo14irriiiiiirriirrrrlriiii m0 th aS aI im ac sp en wg op aB aT se2 dn2 aG aO aN aD bv aY rn kd nu tv), (zaI aS cS 901 fS), (zaI aB cB 6 fB2), (zaI aT cT 64 fT2), (zaI aG cG 9 fG2)] → va_S A s.heap H locs → ∀ (ls : Array Slot), lv_has ls 5 [(0, .ref m0), (1, .int (nI j_3)), (2, .int (nI j_9)), (3, .int q), (4, .int (nI i))] → W p l e ({ frames := 6, cells := 0, slots := 0, locals := 147 } : Room) s m args below meth c H locs 0 0 Q (F0 m 36 ls []) := by
          intro nF
          induction nF with
          | zero => intro i se2 dn2 fB2 fT2 fG2 q hm; exact absurd hm (Nat.not_lt_zero _)
          | succ nF ih36 =>
            intro i se2 dn2 fB2 fT2 fG2 q hm hii H locs hK hP hD hS ls hl
            refine lv_iload hx hb dX12_cuts_36 (lv_at hl 4 rfl) ?_
            refine lv_aload_n hx hb dX12_cuts_38 rfl (lv_at hl 0 rfl) ?_
            refine va_get (D := (dC, dI)) (ci := 14) (v := .ref aS) (C := RX12) (T := TX12) (N := 23) hx hb hts kc_mCuts_0 hown hK hP 0 rfl rfl 1 (by decide) (hts (.fieldLink RX12 9 "MistHeapsModel" "s" "[I") kc_mCuts_1) (fun _ h9 => h9) rfl dX12_cuts_39 ?_
            refine lv_iconst (v := 0) hx hb dX12_cuts_42 (by decide) ?_
            refine va_iald hx hb hK hP 1 0 rfl rfl (vp_in_nI (n := 0) (N := 901) (by omega) (by omega)) dX12_cuts_43 ?_
            refine qi_as (y := nI n) ((show fS (0 : Int32).toNatClampNeg = fS 0 from rfl).trans (zn)) ?_
            refine lv_icmp_ge (tgt := 91) hx hb dX12_cuts_44 (by decide) (fun c_21 => ?_) (fun c_21 => ?_)
            · skip
              have c_21 : n ≤ i := (nI_leI (a := n) (b := i) (by omega) (by omega)).mp c_21
              refine lv_iload_n hx hb dX12_cuts_91 rfl (lv_at hl 3 rfl) ?_
              rw [hQ]
              have hP9 := hP.sub (ws' := [(zo14irriiiiiirriirrrrlriiii m0 th aS aI im ac sp en wg op aB aT se2 dn2 aG aO aN aD bv aY rn kd nu tv), (zaI aS cS 901 fS), (zaI aB cB 6 fB2), (zaI aT cT 64 fT2), (zaI aG cG 9 fG2)]) [0, 1, 2, 3, 4] rfl
              have hD9 := hD.sub (ws' := [(zo14irriiiiiirriirrrrlriiii m0 th aS aI im ac sp en wg op aB aT se2 dn2 aG aO aN aD bv aY rn kd nu tv), (zaI aS cS 901 fS), (zaI aB cB 6 fB2), (zaI aT cT 64 fT2), (zaI aG cG 9 fG2)]) [0, 1, 2, 3, 4] (by decide) rfl
              have hK9 := hK.sub (tys' := [(cS, .int), (cB, .int), (cT, .boolean), (cG, .int)]) [0, 1, 2, 3] rfl
              exact W.iret (v := q) hx hb hr (fun tQ htQ hWQ => ⟨⟨q, (fB2, fT2, se2, dn2, fG2), rfl, trivial, by rw [htQ]; exact hP9, va_K.moved hWQ.alike hK9, hD9⟩, hS.F htQ⟩) hS.2.2 dX12_cuts_92
            · skip
              have c_21 : ¬ n ≤ i := fun q => c_21 ((nI_leI (a := n) (b := i) (by omega) (by omega)).mpr q)
              refine lv_iload_n hx hb dX12_cuts_47 rfl (lv_at hl 3 rfl) ?_
              refine lv_iload hx hb dX12_cuts_48 (lv_at hl 4 rfl) ?_
              refine lv_iload_n hx hb dX12_cuts_50 rfl (lv_at hl 1 rfl) ?_
              refine lv_icmp_eq (tgt := 82) hx hb dX12_cuts_51 (by decide) (fun c_22 => ?_) (fun c_22 => ?_)
              · skip
                have c_22 : i = j_3 := (nI_eq (a := i) (b := j_3) (by omega) (by omega)).mp c_22
                refine lv_iconst (v := 0) hx hb dX12_cuts_82 (by decide) ?_
                refine lv_ior hx hb dX12_cuts_83 ?_
                refine lv_istore_n (lv' := [(3, .int (q ||| 0)), (0, .ref m0), (1, .int (nI j_3)), (2, .int (nI j_9)), (4, .int (nI i))]) hx hb dX12_cuts_84 rfl hl (by decide) rfl (fun ls hl => ?_)
                refine lv_iinc (v := nI (i + 1)) (lv' := [(4, .int (nI (i + 1))), (3, .int (q ||| 0)), (0, .ref m0), (1, .int (nI j_3)), (2, .int (nI j_9))]) hx hb dX12_cuts_85 hl (k := 4) rfl (nI_add i 1) (by decide) rfl (fun ls hl => ?_)
                refine lv_goto (tgt := 36) hx hb dX12_cuts_88 (by decide) ?_
                exact ih36 (i + 1) _ _ _ _ _ _ (by omega) (by omega) _ _ (hK.sub [0, 1, 2, 3] rfl) (hP.sub [0, 1, 2, 3, 4] rfl) (hD.sub [0, 1, 2, 3, 4] (by decide) rfl) hS ls (lv_sub hl [2, 3, 4, 1, 0] rfl)
              · skip
                have c_22 : ¬ i = j_3 := fun q => c_22 ((nI_eq (a := i) (b := j_3) (by omega) (by omega)).mpr q)
                refine lv_iload hx hb dX12_cuts_54 (lv_at hl 4 rfl) ?_
                refine lv_iload_n hx hb dX12_cuts_56 rfl (lv_at hl 2 rfl) ?_
                refine lv_icmp_eq (tgt := 82) hx hb dX12_cuts_57 (by decide) (fun c_23 => ?_) (fun c_23 => ?_)
                · skip
                  have c_23 : i = j_9 := (nI_eq (a := i) (b := j_9) (by omega) (by omega)).mp c_23
                  refine lv_iconst (v := 0) hx hb dX12_cuts_82 (by decide) ?_
                  refine lv_ior hx hb dX12_cuts_83 ?_
                  refine lv_istore_n (lv' := [(3, .int (q ||| 0)), (0, .ref m0), (1, .int (nI j_3)), (2, .int (nI j_9)), (4, .int (nI i))]) hx hb dX12_cuts_84 rfl hl (by decide) rfl (fun ls hl => ?_)
                  refine lv_iinc (v := nI (i + 1)) (lv' := [(4, .int (nI (i + 1))), (3, .int (q ||| 0)), (0, .ref m0), (1, .int (nI j_3)), (2, .int (nI j_9))]) hx hb dX12_cuts_85 hl (k := 4) rfl (nI_add i 1) (by decide) rfl (fun ls hl => ?_)
                  refine lv_goto (tgt := 36) hx hb dX12_cuts_88 (by decide) ?_
                  exact ih36 (i + 1) _ _ _ _ _ _ (by omega) (by omega) _ _ (hK.sub [0, 1, 2, 3] rfl) (hP.sub [0, 1, 2, 3, 4] rfl) (hD.sub [0, 1, 2, 3, 4] (by decide) rfl) hS ls (lv_sub hl [2, 3, 4, 1, 0] rfl)
                · skip
                  have c_23 : ¬ i = j_9 := fun q => c_23 ((nI_eq (a := i) (b := j_9) (by omega) (by omega)).mpr q)
                  refine lv_aload_n hx hb dX12_cuts_60 rfl (lv_at hl 0 rfl) ?_
                  refine lv_iload_n hx hb dX12_cuts_61 rfl (lv_at hl 1 rfl) ?_
                  refine lv_iload_n hx hb dX12_cuts_62 rfl (lv_at hl 2 rfl) ?_
                  refine lv_iconst (v := 1) hx hb dX12_cuts_63 (by decide) ?_
                  refine lv_iload hx hb dX12_cuts_64 (lv_at hl 4 rfl) ?_
                  refine lv_ishl hx hb dX12_cuts_66 ?_
                  have hPc := hP.sub (ws' := [(zo14irriiiiiirriirrrrlriiii m0 th aS aI im ac sp en wg op aB aT se2 dn2 aG aO aN aD bv aY rn kd nu tv), (zaI aS cS 901 fS), (zaI aG cG 9 fG2)]) [0, 1, 4] rfl
                  have hKc := hK.sub (tys' := [(cS, .int), (cG, .int)]) [0, 3] rfl
                  refine vp_callSi (va_runV (As := [.int (nI j_3), .int (nI j_9), .int (1 <<< ((nI i) &&& 31))]) (rest := [.int q]) ⟨hx, hb, hml, hown, hts⟩ (c_stepsBut l dC dI m0 aS aI aB aT aG aO aN aD aY th im ac sp en wg op se2 dn2 rn kd nu tv bv cS cG fS fG2 n (nI j_3) (nI j_9) (1 <<< ((nI i) &&& 31)) (zn) (hn)) (cwV 3 hts gX12_cuts_X12_stepsBut rfl rfl rfl hd_yX12_stepsBut ⟨Nat.le_of_ble_eq_true rfl, Nat.le_of_ble_eq_true rfl⟩) ⟨fun a U g mk q => by obtain ⟨q0, qP, qK⟩ := q; exact ⟨q0, qP, va_K.moved (u := U) (U := U.calling g mk a) (Vm.Alike.refl U.vm) qK⟩, va_recv hK hP (ci := 14) (q := (RX12, TX12, 23)) (q0 := 0) rfl rfl, fun U hU hW => ⟨rfl, by rw [hU]; exact hPc, va_K.moved hW.alike hKc⟩⟩ rfl rfl hl.1 rfl (lv_room (Nat.le_of_ble_eq_true rfl)) dX12_cuts_67 ⟨Nat.le_of_ble_eq_true rfl, Nat.le_of_ble_eq_true rfl⟩).run (fun r_24 hw_25 => ?_)
                  refine lv_bipush (v := (-5)) hx hb dX12_cuts_70 (by decide) ?_
                  refine lv_icmp_ne (tgt := 82) hx hb dX12_cuts_72 (by decide) (fun c_26 => ?_) (fun c_26 => ?_)
                  · skip
                    refine lv_iconst (v := 0) hx hb dX12_cuts_82 (by decide) ?_
                    refine lv_ior hx hb dX12_cuts_83 ?_
                    refine lv_istore_n (lv' := [(3, .int (q ||| 0)), (0, .ref m0), (1, .int (nI j_3)), (2, .int (nI j_9)), (4, .int (nI i))]) hx hb dX12_cuts_84 rfl hl (by decide) rfl (fun ls hl => ?_)
                    refine lv_iinc (v := nI (i + 1)) (lv' := [(4, .int (nI (i + 1))), (3, .int (q ||| 0)), (0, .ref m0), (1, .int (nI j_3)), (2, .int (nI j_9))]) hx hb dX12_cuts_85 hl (k := 4) rfl (nI_add i 1) (by decide) rfl (fun ls hl => ?_)
                    refine lv_goto (tgt := 36) hx hb dX12_cuts_88 (by decide) ?_
                    exact ih36 (i + 1) _ _ _ _ _ _ (by omega) (by omega) _ _ (hK.sub [0, 1, 2, 3] rfl) (hP.sub [0, 1, 2, 3, 4] rfl) (hD.sub [0, 1, 2, 3, 4] (by decide) rfl) hS ls (lv_sub hl [2, 3, 4, 1, 0] rfl)
                  · skip
                    refine lv_iconst (v := 1) hx hb dX12_cuts_75 (by decide) ?_
                    refine lv_iload hx hb dX12_cuts_76 (lv_at hl 4 rfl) ?_
                    refine lv_ishl hx hb dX12_cuts_78 ?_
                    refine lv_goto (tgt := 83) hx hb dX12_cuts_79 (by decide) ?_
                    refine lv_ior hx hb dX12_cuts_83 ?_
                    refine lv_istore_n (lv' := [(3, .int (q ||| (1 <<< ((nI i) &&& 31)))), (0, .ref m0), (1, .int (nI j_3)), (2, .int (nI j_9)), (4, .int (nI i))]) hx hb dX12_cuts_84 rfl hl (by decide) rfl (fun ls hl => ?_)
                    refine lv_iinc (v := nI (i + 1)) (lv' := [(4, .int (nI (i + 1))), (3, .int (q ||| (1 <<< ((nI i) &&& 31)))), (0, .ref m0), (1, .int (nI j_3)), (2, .int (nI j_9))]) hx hb dX12_cuts_85 hl (k := 4) rfl (nI_add i 1) (by decide) rfl (fun ls hl => ?_)
                    refine lv_goto (tgt := 36) hx hb dX12_cuts_88 (by decide) ?_
                    exact ih36 (i + 1) _ _ _ _ _ _ (by omega) (by omega) _ _ (hK.sub [0, 1, 2, 3] rfl) (hP.sub [0, 1, 2, 3, 4] rfl) (hD.sub [0, 1, 2, 3, 4] (by decide) rfl) hS ls (lv_sub hl [2, 3, 4, 1, 0] rfl)
        exact L36 _ (0) _ _ _ _ _ _ (Nat.lt_succ_self _) (by omega) _ _ (hK.sub [0, 1, 2, 3] rfl) (hP.sub [0, 1, 2, 3, 4] rfl) (hD.sub [0, 1, 2, 3, 4] (by decide) rfl) hS ls (lv_sub hl [2, 3, 4, 1, 0] rfl)
      · skip
        refine lv_iconst (v := 0) hx hb dX12_cuts_31 (by decide) ?_
        rw [hQ]
        have hP9 := hP.sub (ws' := [(zo14irriiiiiirriirrrrlriiii m0 th aS aI im ac sp en wg op aB aT se9_17 dn9_18 aG aO aN aD bv aY rn kd nu tv), (zaI aS cS 901 fS), (zaI aB cB 6 fB9_15), (zaI aT cT 64 fT9_16), (zaI aG cG 9 fG9_19)]) [0, 1, 2, 3, 4] rfl
        have hD9 := hD.sub (ws' := [(zo14irriiiiiirriirrrrlriiii m0 th aS aI im ac sp en wg op aB aT se9_17 dn9_18 aG aO aN aD bv aY rn kd nu tv), (zaI aS cS 901 fS), (zaI aB cB 6 fB9_15), (zaI aT cT 64 fT9_16), (zaI aG cG 9 fG9_19)]) [0, 1, 2, 3, 4] (by decide) rfl
        have hK9 := hK.sub (tys' := [(cS, .int), (cB, .int), (cT, .boolean), (cG, .int)]) [0, 1, 2, 3] rfl
        exact W.iret (v := 0) hx hb hr (fun tQ htQ hWQ => ⟨⟨0, (fB9_15, fT9_16, se9_17, dn9_18, fG9_19), rfl, trivial, by rw [htQ]; exact hP9, va_K.moved hWQ.alike hK9, hD9⟩, hS.F htQ⟩) hS.2.2 dX12_cuts_32
    · skip
      refine lv_if_ne (tgt := 18) hx hb dX12_cuts_13 (by decide) (fun c_27 => absurd c_27 (by decide)) (fun _ => ?_)
      refine lv_iconst (v := (-1)) hx hb dX12_cuts_16 (by decide) ?_
      rw [hQ]
      have hP9 := hP.sub (ws' := [(zo14irriiiiiirriirrrrlriiii m0 th aS aI im ac sp en wg op aB aT se dn aG aO aN aD bv aY rn kd nu tv), (zaI aS cS 901 fS), (zaI aB cB 6 fB), (zaI aT cT 64 fT), (zaI aG cG 9 fG)]) [0, 1, 2, 3, 4] rfl
      have hD9 := hD.sub (ws' := [(zo14irriiiiiirriirrrrlriiii m0 th aS aI im ac sp en wg op aB aT se dn aG aO aN aD bv aY rn kd nu tv), (zaI aS cS 901 fS), (zaI aB cB 6 fB), (zaI aT cT 64 fT), (zaI aG cG 9 fG)]) [0, 1, 2, 3, 4] (by decide) rfl
      have hK9 := hK.sub (tys' := [(cS, .int), (cB, .int), (cT, .boolean), (cG, .int)]) [0, 1, 2, 3] rfl
      exact W.iret (v := (-1)) hx hb hr (fun tQ htQ hWQ => ⟨⟨(-1), (fB, fT, se, dn, fG), rfl, trivial, by rw [htQ]; exact hP9, va_K.moved hWQ.alike hK9, hD9⟩, hS.F htQ⟩) hS.2.2 dX12_cuts_17
  · skip
    refine lv_if_eq (tgt := 16) hx hb dX12_cuts_5 (by decide) (fun _ => ?_) (fun c_28 => absurd c_28 (by decide))
    refine lv_iconst (v := (-1)) hx hb dX12_cuts_16 (by decide) ?_
    rw [hQ]
    have hP9 := hP.sub (ws' := [(zo14irriiiiiirriirrrrlriiii m0 th aS aI im ac sp en wg op aB aT se dn aG aO aN aD bv aY rn kd nu tv), (zaI aS cS 901 fS), (zaI aB cB 6 fB), (zaI aT cT 64 fT), (zaI aG cG 9 fG)]) [0, 1, 2, 3, 4] rfl
    have hD9 := hD.sub (ws' := [(zo14irriiiiiirriirrrrlriiii m0 th aS aI im ac sp en wg op aB aT se dn aG aO aN aD bv aY rn kd nu tv), (zaI aS cS 901 fS), (zaI aB cB 6 fB), (zaI aT cT 64 fT), (zaI aG cG 9 fG)]) [0, 1, 2, 3, 4] (by decide) rfl
    have hK9 := hK.sub (tys' := [(cS, .int), (cB, .int), (cT, .boolean), (cG, .int)]) [0, 1, 2, 3] rfl
    exact W.iret (v := (-1)) hx hb hr (fun tQ htQ hWQ => ⟨⟨(-1), (fB, fT, se, dn, fG), rfl, trivial, by rw [htQ]; exact hP9, va_K.moved hWQ.alike hK9, hD9⟩, hS.F htQ⟩) hS.2.2 dX12_cuts_17
end mg05
