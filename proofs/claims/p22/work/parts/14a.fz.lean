theorem ggX11_besideOrSame_X11_rowOf : GoodIn wsX11_besideOrSame wsX11_rowOf := gga_of 643 rfl rfl rfl
theorem gX11_besideOrSame_X11_rowOf : GoodIn wsX11_besideOrSame (va_wsS RX11 212 yX11_rowOf wsX11_rowOf) := goodIn_app (ggh_of [701, 642, 63] rfl rfl rfl) ggX11_besideOrSame_X11_rowOf
theorem ggX11_besideOrSame_X11_columnOf : GoodIn wsX11_besideOrSame wsX11_columnOf := gga_of 646 rfl rfl rfl
theorem gX11_besideOrSame_X11_columnOf : GoodIn wsX11_besideOrSame (va_wsS RX11 215 yX11_columnOf wsX11_columnOf) := goodIn_app (ggh_of [705, 645, 63] rfl rfl rfl) ggX11_besideOrSame_X11_columnOf
theorem ggX11_besideOrSame_X11_isOnHill : GoodIn wsX11_besideOrSame wsX11_isOnHill := gga_of 850 rfl rfl rfl
theorem gX11_besideOrSame_X11_isOnHill : GoodIn wsX11_besideOrSame (va_wsS RX11 218 yX11_isOnHill wsX11_isOnHill) := goodIn_app (ggh_of [848, 849, 63] rfl rfl rfl) ggX11_besideOrSame_X11_isOnHill
theorem ggX11_apart_X11_rowOf : GoodIn wsX11_apart wsX11_rowOf := gga_of 643 rfl rfl rfl
theorem gX11_apart_X11_rowOf : GoodIn wsX11_apart (va_wsS RX11 212 yX11_rowOf wsX11_rowOf) := goodIn_app (ggh_of [701, 642, 63] rfl rfl rfl) ggX11_apart_X11_rowOf
theorem ggX11_apart_X11_columnOf : GoodIn wsX11_apart wsX11_columnOf := gga_of 646 rfl rfl rfl
theorem gX11_apart_X11_columnOf : GoodIn wsX11_apart (va_wsS RX11 215 yX11_columnOf wsX11_columnOf) := goodIn_app (ggh_of [705, 645, 63] rfl rfl rfl) ggX11_apart_X11_columnOf
theorem ggX11_partOf_X11_commonDivisor : GoodIn wsX11_partOf wsX11_commonDivisor := gga_of 859 rfl rfl rfl
theorem gX11_partOf_X11_commonDivisor : GoodIn wsX11_partOf (va_wsS RX11 272 yX11_commonDivisor wsX11_commonDivisor) := goodIn_app (ggh_of [857, 858, 63] rfl rfl rfl) ggX11_partOf_X11_commonDivisor
noncomputable def dk14afz_cX11_isCell_0 : List (Nat × Instr × Nat) := [(0, .iload_n 0, 1), (1, .ifCond .lt 13, 3), (14, .iconst 0, 1), (15, .ireturn, 1), (4, .iload_n 0, 1), (5, .bipush 36, 2), (7, .if_icmp .ge 7, 3), (10, .iconst 1, 1), (11, .goto 4, 3)]
set_option maxRecDepth 100000 in
theorem dk14afz_cX11_isCell_0_a : dkA cX11_isCell dk14afz_cX11_isCell_0 = true := by decide +kernel
theorem dX11_isCell_0 : decode cX11_isCell 0 = .ok (.iload_n 0, 1) := dkAt dk14afz_cX11_isCell_0_a 0 rfl
theorem dX11_isCell_1 : decode cX11_isCell 1 = .ok (.ifCond .lt 13, 3) := dkAt dk14afz_cX11_isCell_0_a 1 rfl
theorem dX11_isCell_14 : decode cX11_isCell 14 = .ok (.iconst 0, 1) := dkAt dk14afz_cX11_isCell_0_a 2 rfl
theorem dX11_isCell_15 : decode cX11_isCell 15 = .ok (.ireturn, 1) := dkAt dk14afz_cX11_isCell_0_a 3 rfl
theorem dX11_isCell_4 : decode cX11_isCell 4 = .ok (.iload_n 0, 1) := dkAt dk14afz_cX11_isCell_0_a 4 rfl
theorem dX11_isCell_5 : decode cX11_isCell 5 = .ok (.bipush 36, 2) := dkAt dk14afz_cX11_isCell_0_a 5 rfl
theorem dX11_isCell_7 : decode cX11_isCell 7 = .ok (.if_icmp .ge 7, 3) := dkAt dk14afz_cX11_isCell_0_a 6 rfl
theorem dX11_isCell_10 : decode cX11_isCell 10 = .ok (.iconst 1, 1) := dkAt dk14afz_cX11_isCell_0_a 7 rfl
theorem dX11_isCell_11 : decode cX11_isCell 11 = .ok (.goto 4, 3) := dkAt dk14afz_cX11_isCell_0_a 8 rfl
noncomputable def dk14afz_cX11_rowOf_0 : List (Nat × Instr × Nat) := [(0, .iload_n 0, 1), (1, .bipush 6, 2), (3, .idiv, 1), (4, .ireturn, 1)]
set_option maxRecDepth 100000 in
theorem dk14afz_cX11_rowOf_0_a : dkA cX11_rowOf dk14afz_cX11_rowOf_0 = true := by decide +kernel
theorem dX11_rowOf_0 : decode cX11_rowOf 0 = .ok (.iload_n 0, 1) := dkAt dk14afz_cX11_rowOf_0_a 0 rfl
theorem dX11_rowOf_1 : decode cX11_rowOf 1 = .ok (.bipush 6, 2) := dkAt dk14afz_cX11_rowOf_0_a 1 rfl
theorem dX11_rowOf_3 : decode cX11_rowOf 3 = .ok (.idiv, 1) := dkAt dk14afz_cX11_rowOf_0_a 2 rfl
theorem dX11_rowOf_4 : decode cX11_rowOf 4 = .ok (.ireturn, 1) := dkAt dk14afz_cX11_rowOf_0_a 3 rfl
noncomputable def dk14afz_cX11_columnOf_0 : List (Nat × Instr × Nat) := [(0, .iload_n 0, 1), (1, .bipush 6, 2), (3, .irem, 1), (4, .ireturn, 1)]
set_option maxRecDepth 100000 in
theorem dk14afz_cX11_columnOf_0_a : dkA cX11_columnOf dk14afz_cX11_columnOf_0 = true := by decide +kernel
theorem dX11_columnOf_0 : decode cX11_columnOf 0 = .ok (.iload_n 0, 1) := dkAt dk14afz_cX11_columnOf_0_a 0 rfl
theorem dX11_columnOf_1 : decode cX11_columnOf 1 = .ok (.bipush 6, 2) := dkAt dk14afz_cX11_columnOf_0_a 1 rfl
theorem dX11_columnOf_3 : decode cX11_columnOf 3 = .ok (.irem, 1) := dkAt dk14afz_cX11_columnOf_0_a 2 rfl
theorem dX11_columnOf_4 : decode cX11_columnOf 4 = .ok (.ireturn, 1) := dkAt dk14afz_cX11_columnOf_0_a 3 rfl
noncomputable def dk14afz_cX11_isOnHill_0 : List (Nat × Instr × Nat) := [(0, .iload_n 0, 1), (1, .ifCond .lt 23, 3), (24, .iconst 0, 1), (25, .ireturn, 1), (4, .iload_n 0, 1), (5, .bipush 6, 2), (7, .if_icmp .ge 17, 3), (10, .iload_n 1, 1), (11, .ifCond .lt 13, 3), (14, .iload_n 1, 1), (15, .bipush 6, 2), (17, .if_icmp .ge 7, 3), (20, .iconst 1, 1), (21, .goto 4, 3)]
set_option maxRecDepth 100000 in
theorem dk14afz_cX11_isOnHill_0_a : dkA cX11_isOnHill dk14afz_cX11_isOnHill_0 = true := by decide +kernel
theorem dX11_isOnHill_0 : decode cX11_isOnHill 0 = .ok (.iload_n 0, 1) := dkAt dk14afz_cX11_isOnHill_0_a 0 rfl
theorem dX11_isOnHill_1 : decode cX11_isOnHill 1 = .ok (.ifCond .lt 23, 3) := dkAt dk14afz_cX11_isOnHill_0_a 1 rfl
theorem dX11_isOnHill_24 : decode cX11_isOnHill 24 = .ok (.iconst 0, 1) := dkAt dk14afz_cX11_isOnHill_0_a 2 rfl
theorem dX11_isOnHill_25 : decode cX11_isOnHill 25 = .ok (.ireturn, 1) := dkAt dk14afz_cX11_isOnHill_0_a 3 rfl
theorem dX11_isOnHill_4 : decode cX11_isOnHill 4 = .ok (.iload_n 0, 1) := dkAt dk14afz_cX11_isOnHill_0_a 4 rfl
theorem dX11_isOnHill_5 : decode cX11_isOnHill 5 = .ok (.bipush 6, 2) := dkAt dk14afz_cX11_isOnHill_0_a 5 rfl
theorem dX11_isOnHill_7 : decode cX11_isOnHill 7 = .ok (.if_icmp .ge 17, 3) := dkAt dk14afz_cX11_isOnHill_0_a 6 rfl
theorem dX11_isOnHill_10 : decode cX11_isOnHill 10 = .ok (.iload_n 1, 1) := dkAt dk14afz_cX11_isOnHill_0_a 7 rfl
theorem dX11_isOnHill_11 : decode cX11_isOnHill 11 = .ok (.ifCond .lt 13, 3) := dkAt dk14afz_cX11_isOnHill_0_a 8 rfl
theorem dX11_isOnHill_14 : decode cX11_isOnHill 14 = .ok (.iload_n 1, 1) := dkAt dk14afz_cX11_isOnHill_0_a 9 rfl
theorem dX11_isOnHill_15 : decode cX11_isOnHill 15 = .ok (.bipush 6, 2) := dkAt dk14afz_cX11_isOnHill_0_a 10 rfl
theorem dX11_isOnHill_17 : decode cX11_isOnHill 17 = .ok (.if_icmp .ge 7, 3) := dkAt dk14afz_cX11_isOnHill_0_a 11 rfl
theorem dX11_isOnHill_20 : decode cX11_isOnHill 20 = .ok (.iconst 1, 1) := dkAt dk14afz_cX11_isOnHill_0_a 12 rfl
theorem dX11_isOnHill_21 : decode cX11_isOnHill 21 = .ok (.goto 4, 3) := dkAt dk14afz_cX11_isOnHill_0_a 13 rfl
noncomputable def dk14afz_cX11_besideOrSame_0 : List (Nat × Instr × Nat) := [(0, .iload_n 0, 1), (1, .invokestatic 212, 3), (4, .getstatic 266, 3), (7, .iload_n 1, 1), (8, .iaload, 1), (9, .iadd, 1), (10, .istore_n 2, 1), (11, .iload_n 0, 1), (12, .invokestatic 215, 3), (15, .getstatic 269, 3), (18, .iload_n 1, 1), (19, .iaload, 1), (20, .iadd, 1), (21, .istore_n 3, 1), (22, .iload_n 2, 1), (23, .iload_n 3, 1), (24, .invokestatic 218, 3), (27, .ifCond .eq 12, 3), (30, .iload_n 2, 1), (31, .bipush 6, 2), (33, .imul, 1), (34, .iload_n 3, 1), (35, .iadd, 1), (36, .goto 4, 3), (40, .ireturn, 1), (39, .iload_n 0, 1)]
set_option maxRecDepth 100000 in
theorem dk14afz_cX11_besideOrSame_0_a : dkA cX11_besideOrSame dk14afz_cX11_besideOrSame_0 = true := by decide +kernel
theorem dX11_besideOrSame_0 : decode cX11_besideOrSame 0 = .ok (.iload_n 0, 1) := dkAt dk14afz_cX11_besideOrSame_0_a 0 rfl
theorem dX11_besideOrSame_1 : decode cX11_besideOrSame 1 = .ok (.invokestatic 212, 3) := dkAt dk14afz_cX11_besideOrSame_0_a 1 rfl
theorem dX11_besideOrSame_4 : decode cX11_besideOrSame 4 = .ok (.getstatic 266, 3) := dkAt dk14afz_cX11_besideOrSame_0_a 2 rfl
theorem dX11_besideOrSame_7 : decode cX11_besideOrSame 7 = .ok (.iload_n 1, 1) := dkAt dk14afz_cX11_besideOrSame_0_a 3 rfl
theorem dX11_besideOrSame_8 : decode cX11_besideOrSame 8 = .ok (.iaload, 1) := dkAt dk14afz_cX11_besideOrSame_0_a 4 rfl
theorem dX11_besideOrSame_9 : decode cX11_besideOrSame 9 = .ok (.iadd, 1) := dkAt dk14afz_cX11_besideOrSame_0_a 5 rfl
theorem dX11_besideOrSame_10 : decode cX11_besideOrSame 10 = .ok (.istore_n 2, 1) := dkAt dk14afz_cX11_besideOrSame_0_a 6 rfl
theorem dX11_besideOrSame_11 : decode cX11_besideOrSame 11 = .ok (.iload_n 0, 1) := dkAt dk14afz_cX11_besideOrSame_0_a 7 rfl
theorem dX11_besideOrSame_12 : decode cX11_besideOrSame 12 = .ok (.invokestatic 215, 3) := dkAt dk14afz_cX11_besideOrSame_0_a 8 rfl
theorem dX11_besideOrSame_15 : decode cX11_besideOrSame 15 = .ok (.getstatic 269, 3) := dkAt dk14afz_cX11_besideOrSame_0_a 9 rfl
theorem dX11_besideOrSame_18 : decode cX11_besideOrSame 18 = .ok (.iload_n 1, 1) := dkAt dk14afz_cX11_besideOrSame_0_a 10 rfl
theorem dX11_besideOrSame_19 : decode cX11_besideOrSame 19 = .ok (.iaload, 1) := dkAt dk14afz_cX11_besideOrSame_0_a 11 rfl
theorem dX11_besideOrSame_20 : decode cX11_besideOrSame 20 = .ok (.iadd, 1) := dkAt dk14afz_cX11_besideOrSame_0_a 12 rfl
theorem dX11_besideOrSame_21 : decode cX11_besideOrSame 21 = .ok (.istore_n 3, 1) := dkAt dk14afz_cX11_besideOrSame_0_a 13 rfl
theorem dX11_besideOrSame_22 : decode cX11_besideOrSame 22 = .ok (.iload_n 2, 1) := dkAt dk14afz_cX11_besideOrSame_0_a 14 rfl
theorem dX11_besideOrSame_23 : decode cX11_besideOrSame 23 = .ok (.iload_n 3, 1) := dkAt dk14afz_cX11_besideOrSame_0_a 15 rfl
theorem dX11_besideOrSame_24 : decode cX11_besideOrSame 24 = .ok (.invokestatic 218, 3) := dkAt dk14afz_cX11_besideOrSame_0_a 16 rfl
theorem dX11_besideOrSame_27 : decode cX11_besideOrSame 27 = .ok (.ifCond .eq 12, 3) := dkAt dk14afz_cX11_besideOrSame_0_a 17 rfl
theorem dX11_besideOrSame_30 : decode cX11_besideOrSame 30 = .ok (.iload_n 2, 1) := dkAt dk14afz_cX11_besideOrSame_0_a 18 rfl
theorem dX11_besideOrSame_31 : decode cX11_besideOrSame 31 = .ok (.bipush 6, 2) := dkAt dk14afz_cX11_besideOrSame_0_a 19 rfl
theorem dX11_besideOrSame_33 : decode cX11_besideOrSame 33 = .ok (.imul, 1) := dkAt dk14afz_cX11_besideOrSame_0_a 20 rfl
theorem dX11_besideOrSame_34 : decode cX11_besideOrSame 34 = .ok (.iload_n 3, 1) := dkAt dk14afz_cX11_besideOrSame_0_a 21 rfl
theorem dX11_besideOrSame_35 : decode cX11_besideOrSame 35 = .ok (.iadd, 1) := dkAt dk14afz_cX11_besideOrSame_0_a 22 rfl
theorem dX11_besideOrSame_36 : decode cX11_besideOrSame 36 = .ok (.goto 4, 3) := dkAt dk14afz_cX11_besideOrSame_0_a 23 rfl
theorem dX11_besideOrSame_40 : decode cX11_besideOrSame 40 = .ok (.ireturn, 1) := dkAt dk14afz_cX11_besideOrSame_0_a 24 rfl
theorem dX11_besideOrSame_39 : decode cX11_besideOrSame 39 = .ok (.iload_n 0, 1) := dkAt dk14afz_cX11_besideOrSame_0_a 25 rfl
noncomputable def dk14afz_cX11_apart_0 : List (Nat × Instr × Nat) := [(0, .iload_n 0, 1), (1, .invokestatic 212, 3), (4, .iload_n 1, 1), (5, .invokestatic 212, 3), (8, .isub, 1), (9, .invokestatic 263, 3), (12, .iload_n 0, 1), (13, .invokestatic 215, 3), (16, .iload_n 1, 1), (17, .invokestatic 215, 3), (20, .isub, 1), (21, .invokestatic 263, 3), (24, .invokestatic 204, 3), (27, .ireturn, 1)]
set_option maxRecDepth 100000 in
theorem dk14afz_cX11_apart_0_a : dkA cX11_apart dk14afz_cX11_apart_0 = true := by decide +kernel
theorem dX11_apart_0 : decode cX11_apart 0 = .ok (.iload_n 0, 1) := dkAt dk14afz_cX11_apart_0_a 0 rfl
theorem dX11_apart_1 : decode cX11_apart 1 = .ok (.invokestatic 212, 3) := dkAt dk14afz_cX11_apart_0_a 1 rfl
theorem dX11_apart_4 : decode cX11_apart 4 = .ok (.iload_n 1, 1) := dkAt dk14afz_cX11_apart_0_a 2 rfl
theorem dX11_apart_5 : decode cX11_apart 5 = .ok (.invokestatic 212, 3) := dkAt dk14afz_cX11_apart_0_a 3 rfl
theorem dX11_apart_8 : decode cX11_apart 8 = .ok (.isub, 1) := dkAt dk14afz_cX11_apart_0_a 4 rfl
theorem dX11_apart_9 : decode cX11_apart 9 = .ok (.invokestatic 263, 3) := dkAt dk14afz_cX11_apart_0_a 5 rfl
theorem dX11_apart_12 : decode cX11_apart 12 = .ok (.iload_n 0, 1) := dkAt dk14afz_cX11_apart_0_a 6 rfl
theorem dX11_apart_13 : decode cX11_apart 13 = .ok (.invokestatic 215, 3) := dkAt dk14afz_cX11_apart_0_a 7 rfl
theorem dX11_apart_16 : decode cX11_apart 16 = .ok (.iload_n 1, 1) := dkAt dk14afz_cX11_apart_0_a 8 rfl
theorem dX11_apart_17 : decode cX11_apart 17 = .ok (.invokestatic 215, 3) := dkAt dk14afz_cX11_apart_0_a 9 rfl
theorem dX11_apart_20 : decode cX11_apart 20 = .ok (.isub, 1) := dkAt dk14afz_cX11_apart_0_a 10 rfl
theorem dX11_apart_21 : decode cX11_apart 21 = .ok (.invokestatic 263, 3) := dkAt dk14afz_cX11_apart_0_a 11 rfl
theorem dX11_apart_24 : decode cX11_apart 24 = .ok (.invokestatic 204, 3) := dkAt dk14afz_cX11_apart_0_a 12 rfl
theorem dX11_apart_27 : decode cX11_apart 27 = .ok (.ireturn, 1) := dkAt dk14afz_cX11_apart_0_a 13 rfl
noncomputable def dk14afz_cX11_isIn_0 : List (Nat × Instr × Nat) := [(0, .lload_n 0, 1), (1, .iload_n 2, 1), (2, .lshr, 1), (3, .lconst 1, 1), (4, .land, 1), (5, .lconst 1, 1), (6, .lcmp, 1), (7, .ifCond .ne 7, 3), (14, .iconst 0, 1), (15, .ireturn, 1), (10, .iconst 1, 1), (11, .goto 4, 3)]
set_option maxRecDepth 100000 in
theorem dk14afz_cX11_isIn_0_a : dkA cX11_isIn dk14afz_cX11_isIn_0 = true := by decide +kernel
theorem dX11_isIn_0 : decode cX11_isIn 0 = .ok (.lload_n 0, 1) := dkAt dk14afz_cX11_isIn_0_a 0 rfl
theorem dX11_isIn_1 : decode cX11_isIn 1 = .ok (.iload_n 2, 1) := dkAt dk14afz_cX11_isIn_0_a 1 rfl
theorem dX11_isIn_2 : decode cX11_isIn 2 = .ok (.lshr, 1) := dkAt dk14afz_cX11_isIn_0_a 2 rfl
theorem dX11_isIn_3 : decode cX11_isIn 3 = .ok (.lconst 1, 1) := dkAt dk14afz_cX11_isIn_0_a 3 rfl
theorem dX11_isIn_4 : decode cX11_isIn 4 = .ok (.land, 1) := dkAt dk14afz_cX11_isIn_0_a 4 rfl
theorem dX11_isIn_5 : decode cX11_isIn 5 = .ok (.lconst 1, 1) := dkAt dk14afz_cX11_isIn_0_a 5 rfl
theorem dX11_isIn_6 : decode cX11_isIn 6 = .ok (.lcmp, 1) := dkAt dk14afz_cX11_isIn_0_a 6 rfl
theorem dX11_isIn_7 : decode cX11_isIn 7 = .ok (.ifCond .ne 7, 3) := dkAt dk14afz_cX11_isIn_0_a 7 rfl
theorem dX11_isIn_14 : decode cX11_isIn 14 = .ok (.iconst 0, 1) := dkAt dk14afz_cX11_isIn_0_a 8 rfl
theorem dX11_isIn_15 : decode cX11_isIn 15 = .ok (.ireturn, 1) := dkAt dk14afz_cX11_isIn_0_a 9 rfl
theorem dX11_isIn_10 : decode cX11_isIn 10 = .ok (.iconst 1, 1) := dkAt dk14afz_cX11_isIn_0_a 10 rfl
theorem dX11_isIn_11 : decode cX11_isIn 11 = .ok (.goto 4, 3) := dkAt dk14afz_cX11_isIn_0_a 11 rfl
noncomputable def dk14afz_cX11_commonDivisor_0 : List (Nat × Instr × Nat) := [(0, .iconst 0, 1), (1, .istore 4, 2), (3, .iload 4, 2), (5, .bipush 64, 2), (7, .if_icmp .ge 25, 3), (32, .lload_n 0, 1), (33, .lreturn, 1), (10, .lload_n 2, 1), (11, .lconst 0, 1), (12, .lcmp, 1), (13, .ifCond .eq 19, 3), (16, .lload_n 0, 1), (17, .lload_n 2, 1), (18, .lrem, 1), (19, .lstore 5, 2), (21, .lload_n 2, 1), (22, .lstore_n 0, 1), (23, .lload 5, 2), (25, .lstore_n 2, 1), (26, .iinc 4 1, 3), (29, .goto (-26), 3)]
set_option maxRecDepth 100000 in
theorem dk14afz_cX11_commonDivisor_0_a : dkA cX11_commonDivisor dk14afz_cX11_commonDivisor_0 = true := by decide +kernel
theorem dX11_commonDivisor_0 : decode cX11_commonDivisor 0 = .ok (.iconst 0, 1) := dkAt dk14afz_cX11_commonDivisor_0_a 0 rfl
theorem dX11_commonDivisor_1 : decode cX11_commonDivisor 1 = .ok (.istore 4, 2) := dkAt dk14afz_cX11_commonDivisor_0_a 1 rfl
theorem dX11_commonDivisor_3 : decode cX11_commonDivisor 3 = .ok (.iload 4, 2) := dkAt dk14afz_cX11_commonDivisor_0_a 2 rfl
theorem dX11_commonDivisor_5 : decode cX11_commonDivisor 5 = .ok (.bipush 64, 2) := dkAt dk14afz_cX11_commonDivisor_0_a 3 rfl
theorem dX11_commonDivisor_7 : decode cX11_commonDivisor 7 = .ok (.if_icmp .ge 25, 3) := dkAt dk14afz_cX11_commonDivisor_0_a 4 rfl
theorem dX11_commonDivisor_32 : decode cX11_commonDivisor 32 = .ok (.lload_n 0, 1) := dkAt dk14afz_cX11_commonDivisor_0_a 5 rfl
theorem dX11_commonDivisor_33 : decode cX11_commonDivisor 33 = .ok (.lreturn, 1) := dkAt dk14afz_cX11_commonDivisor_0_a 6 rfl
theorem dX11_commonDivisor_10 : decode cX11_commonDivisor 10 = .ok (.lload_n 2, 1) := dkAt dk14afz_cX11_commonDivisor_0_a 7 rfl
theorem dX11_commonDivisor_11 : decode cX11_commonDivisor 11 = .ok (.lconst 0, 1) := dkAt dk14afz_cX11_commonDivisor_0_a 8 rfl
theorem dX11_commonDivisor_12 : decode cX11_commonDivisor 12 = .ok (.lcmp, 1) := dkAt dk14afz_cX11_commonDivisor_0_a 9 rfl
theorem dX11_commonDivisor_13 : decode cX11_commonDivisor 13 = .ok (.ifCond .eq 19, 3) := dkAt dk14afz_cX11_commonDivisor_0_a 10 rfl
theorem dX11_commonDivisor_16 : decode cX11_commonDivisor 16 = .ok (.lload_n 0, 1) := dkAt dk14afz_cX11_commonDivisor_0_a 11 rfl
theorem dX11_commonDivisor_17 : decode cX11_commonDivisor 17 = .ok (.lload_n 2, 1) := dkAt dk14afz_cX11_commonDivisor_0_a 12 rfl
theorem dX11_commonDivisor_18 : decode cX11_commonDivisor 18 = .ok (.lrem, 1) := dkAt dk14afz_cX11_commonDivisor_0_a 13 rfl
theorem dX11_commonDivisor_19 : decode cX11_commonDivisor 19 = .ok (.lstore 5, 2) := dkAt dk14afz_cX11_commonDivisor_0_a 14 rfl
theorem dX11_commonDivisor_21 : decode cX11_commonDivisor 21 = .ok (.lload_n 2, 1) := dkAt dk14afz_cX11_commonDivisor_0_a 15 rfl
theorem dX11_commonDivisor_22 : decode cX11_commonDivisor 22 = .ok (.lstore_n 0, 1) := dkAt dk14afz_cX11_commonDivisor_0_a 16 rfl
theorem dX11_commonDivisor_23 : decode cX11_commonDivisor 23 = .ok (.lload 5, 2) := dkAt dk14afz_cX11_commonDivisor_0_a 17 rfl
theorem dX11_commonDivisor_25 : decode cX11_commonDivisor 25 = .ok (.lstore_n 2, 1) := dkAt dk14afz_cX11_commonDivisor_0_a 18 rfl
theorem dX11_commonDivisor_26 : decode cX11_commonDivisor 26 = .ok (.iinc 4 1, 3) := dkAt dk14afz_cX11_commonDivisor_0_a 19 rfl
theorem dX11_commonDivisor_29 : decode cX11_commonDivisor 29 = .ok (.goto (-26), 3) := dkAt dk14afz_cX11_commonDivisor_0_a 20 rfl
noncomputable def dk14afz_cX11_partOf_0 : List (Nat × Instr × Nat) := [(0, .lload_n 0, 1), (1, .lload_n 2, 1), (2, .invokestatic 272, 3), (5, .lstore 5, 2), (7, .lload 5, 2), (9, .lconst 0, 1), (10, .lcmp, 1), (11, .ifCond .gt 7, 3), (18, .iload 4, 2), (28, .lload 5, 2), (30, .ldiv, 1), (31, .lreturn, 1), (20, .ifCond .ne 7, 3), (27, .lload_n 2, 1), (23, .lload_n 0, 1), (24, .goto 4, 3), (14, .ldc2_w 139, 3), (17, .lreturn, 1)]
set_option maxRecDepth 100000 in
theorem dk14afz_cX11_partOf_0_a : dkA cX11_partOf dk14afz_cX11_partOf_0 = true := by decide +kernel
theorem dX11_partOf_0 : decode cX11_partOf 0 = .ok (.lload_n 0, 1) := dkAt dk14afz_cX11_partOf_0_a 0 rfl
theorem dX11_partOf_1 : decode cX11_partOf 1 = .ok (.lload_n 2, 1) := dkAt dk14afz_cX11_partOf_0_a 1 rfl
theorem dX11_partOf_2 : decode cX11_partOf 2 = .ok (.invokestatic 272, 3) := dkAt dk14afz_cX11_partOf_0_a 2 rfl
theorem dX11_partOf_5 : decode cX11_partOf 5 = .ok (.lstore 5, 2) := dkAt dk14afz_cX11_partOf_0_a 3 rfl
theorem dX11_partOf_7 : decode cX11_partOf 7 = .ok (.lload 5, 2) := dkAt dk14afz_cX11_partOf_0_a 4 rfl
theorem dX11_partOf_9 : decode cX11_partOf 9 = .ok (.lconst 0, 1) := dkAt dk14afz_cX11_partOf_0_a 5 rfl
theorem dX11_partOf_10 : decode cX11_partOf 10 = .ok (.lcmp, 1) := dkAt dk14afz_cX11_partOf_0_a 6 rfl
theorem dX11_partOf_11 : decode cX11_partOf 11 = .ok (.ifCond .gt 7, 3) := dkAt dk14afz_cX11_partOf_0_a 7 rfl
theorem dX11_partOf_18 : decode cX11_partOf 18 = .ok (.iload 4, 2) := dkAt dk14afz_cX11_partOf_0_a 8 rfl
theorem dX11_partOf_28 : decode cX11_partOf 28 = .ok (.lload 5, 2) := dkAt dk14afz_cX11_partOf_0_a 9 rfl
theorem dX11_partOf_30 : decode cX11_partOf 30 = .ok (.ldiv, 1) := dkAt dk14afz_cX11_partOf_0_a 10 rfl
theorem dX11_partOf_31 : decode cX11_partOf 31 = .ok (.lreturn, 1) := dkAt dk14afz_cX11_partOf_0_a 11 rfl
theorem dX11_partOf_20 : decode cX11_partOf 20 = .ok (.ifCond .ne 7, 3) := dkAt dk14afz_cX11_partOf_0_a 12 rfl
theorem dX11_partOf_27 : decode cX11_partOf 27 = .ok (.lload_n 2, 1) := dkAt dk14afz_cX11_partOf_0_a 13 rfl
theorem dX11_partOf_23 : decode cX11_partOf 23 = .ok (.lload_n 0, 1) := dkAt dk14afz_cX11_partOf_0_a 14 rfl
theorem dX11_partOf_24 : decode cX11_partOf 24 = .ok (.goto 4, 3) := dkAt dk14afz_cX11_partOf_0_a 15 rfl
theorem dX11_partOf_14 : decode cX11_partOf 14 = .ok (.ldc2_w 139, 3) := dkAt dk14afz_cX11_partOf_0_a 16 rfl
theorem dX11_partOf_17 : decode cX11_partOf 17 = .ok (.lreturn, 1) := dkAt dk14afz_cX11_partOf_0_a 17 rfl
noncomputable def dk14afz_cX0_timesOf_0 : List (Nat × Instr × Nat) := [(0, .lconst 1, 1), (1, .lstore_n 1, 1), (2, .iconst 0, 1), (3, .istore_n 3, 1), (4, .iload_n 3, 1), (5, .iload_n 0, 1), (6, .if_icmp .ge 15, 3), (21, .lload_n 1, 1), (22, .lreturn, 1), (9, .lload_n 1, 1), (10, .ldc2_w 25, 3), (13, .lmul, 1), (14, .lstore_n 1, 1), (15, .iinc 3 1, 3), (18, .goto (-14), 3)]
set_option maxRecDepth 100000 in
theorem dk14afz_cX0_timesOf_0_a : dkA cX0_timesOf dk14afz_cX0_timesOf_0 = true := by decide +kernel
theorem dX0_timesOf_0 : decode cX0_timesOf 0 = .ok (.lconst 1, 1) := dkAt dk14afz_cX0_timesOf_0_a 0 rfl
theorem dX0_timesOf_1 : decode cX0_timesOf 1 = .ok (.lstore_n 1, 1) := dkAt dk14afz_cX0_timesOf_0_a 1 rfl
theorem dX0_timesOf_2 : decode cX0_timesOf 2 = .ok (.iconst 0, 1) := dkAt dk14afz_cX0_timesOf_0_a 2 rfl
theorem dX0_timesOf_3 : decode cX0_timesOf 3 = .ok (.istore_n 3, 1) := dkAt dk14afz_cX0_timesOf_0_a 3 rfl
theorem dX0_timesOf_4 : decode cX0_timesOf 4 = .ok (.iload_n 3, 1) := dkAt dk14afz_cX0_timesOf_0_a 4 rfl
theorem dX0_timesOf_5 : decode cX0_timesOf 5 = .ok (.iload_n 0, 1) := dkAt dk14afz_cX0_timesOf_0_a 5 rfl
theorem dX0_timesOf_6 : decode cX0_timesOf 6 = .ok (.if_icmp .ge 15, 3) := dkAt dk14afz_cX0_timesOf_0_a 6 rfl
theorem dX0_timesOf_21 : decode cX0_timesOf 21 = .ok (.lload_n 1, 1) := dkAt dk14afz_cX0_timesOf_0_a 7 rfl
theorem dX0_timesOf_22 : decode cX0_timesOf 22 = .ok (.lreturn, 1) := dkAt dk14afz_cX0_timesOf_0_a 8 rfl
theorem dX0_timesOf_9 : decode cX0_timesOf 9 = .ok (.lload_n 1, 1) := dkAt dk14afz_cX0_timesOf_0_a 9 rfl
theorem dX0_timesOf_10 : decode cX0_timesOf 10 = .ok (.ldc2_w 25, 3) := dkAt dk14afz_cX0_timesOf_0_a 10 rfl
theorem dX0_timesOf_13 : decode cX0_timesOf 13 = .ok (.lmul, 1) := dkAt dk14afz_cX0_timesOf_0_a 11 rfl
theorem dX0_timesOf_14 : decode cX0_timesOf 14 = .ok (.lstore_n 1, 1) := dkAt dk14afz_cX0_timesOf_0_a 12 rfl
theorem dX0_timesOf_15 : decode cX0_timesOf 15 = .ok (.iinc 3 1, 3) := dkAt dk14afz_cX0_timesOf_0_a 13 rfl
theorem dX0_timesOf_18 : decode cX0_timesOf 18 = .ok (.goto (-14), 3) := dkAt dk14afz_cX0_timesOf_0_a 14 rfl
/-- cells that a method reads and nobody in it changes -/
noncomputable def Fz (dC : Nat → ClassId) (dI : Nat → Nat → Nat) (ws : va_W) (tys : List (ClassId × FieldType)) (A : Nat → Prop) (U : State) : Prop := va_P (dC, dI) vwCl ws U.heap ∧ va_K (dC, dI) vwCl tys U ∧ ∀ (k : Nat) (q : Nat × va_E), ws[k]? = some q → ¬ A q.1 ∧ q.1 < U.heap.size
theorem Fz.P {dC : Nat → ClassId} {dI : Nat → Nat → Nat} {ws : va_W} {tys : List (ClassId × FieldType)} {A : Nat → Prop} {s : State} {H : Heap} {locs : List Loc} (h : Fz dC dI ws tys A s) (hS : va_S A s.heap H locs) : va_P (dC, dI) vwCl ws H := h.1.kept (fun k q hq => hS.2.1 q.1 (h.2.2 k q hq).2 (h.2.2 k q hq).1)
theorem Fz.same {dC : Nat → ClassId} {dI : Nat → Nat → Nat} {ws : va_W} {tys : List (ClassId × FieldType)} {A : Nat → Prop} {u U : State} (h : Fz dC dI ws tys A u) (hvm : u.vm = U.vm) (hh : U.heap = u.heap) : Fz dC dI ws tys A U := by
  have hv : u.vm.Alike U.vm := by rw [hvm]; exact Vm.Alike.refl _
  refine ⟨?_, h.2.1.moved hv, ?_⟩
  · rw [hh]; exact h.1
  · rw [hh]; exact h.2.2
theorem Fz.call {dC : Nat → ClassId} {dI : Nat → Nat → Nat} {ws : va_W} {tys : List (ClassId × FieldType)} {A B : Nat → Prop} {s U : State} {H : Heap} {locs : List Loc} (h : Fz dC dI ws tys A s) (hS : va_S A s.heap H locs) (hU : U.heap = H) (hW : s.WarmedH U.vm) (hB : ∀ q, B q → A q) : Fz dC dI ws tys B U := by
  refine ⟨by rw [hU]; exact h.P hS, h.2.1.moved hW.alike, fun k q hq => ⟨fun b => (h.2.2 k q hq).1 (hB _ b), ?_⟩⟩
  rw [hU]; exact Nat.lt_of_lt_of_le (h.2.2 k q hq).2 hS.1
theorem Fz.callF {dC : Nat → ClassId} {dI : Nat → Nat → Nat} {ws : va_W} {tys : List (ClassId × FieldType)} {A : Nat → Prop} {s U : State} {H : Heap} {locs : List Loc} (h : Fz dC dI ws tys A s) (hS : va_S A s.heap H locs) (hU : U.heap = H) (hW : s.WarmedH U.vm) : Fz dC dI ws tys (fun _ => False) U := h.call hS hU hW (fun _ q => q.elim)
theorem Fz.sub {dC : Nat → ClassId} {dI : Nat → Nat → Nat} {ws ws' : va_W} {tys tys' : List (ClassId × FieldType)} {A : Nat → Prop} {s : State} (h : Fz dC dI ws tys A s) (is js : List Nat) (hw : is.filterMap (fun i => ws[i]?) = ws') (ht : js.filterMap (fun i => tys[i]?) = tys') : Fz dC dI ws' tys' A s := by
  refine ⟨h.1.sub is hw, h.2.1.sub js ht, fun k q hq => ?_⟩
  subst hw
  obtain ⟨i, -, hi⟩ := List.mem_filterMap.mp (List.mem_of_getElem? hq)
  exact h.2.2 i q hi
/-- the heaps of a scene: of which class each is, and its numbers -/
noncomputable def hpK (ci : Nat) : Prop := ci = 3 ∨ ci = 5 ∨ ci = 6 ∨ ci = 8 ∨ ci = 9 ∨ ci = 11 ∨ ci = 12
noncomputable def hpE (hx : Nat → Nat) (hk hv hc : Nat → Int32) (ha : Nat → Nat) (i : Nat) : Nat × va_E := (ha i, .inr (hx i, [.int (hk i), .int (nI i), .int (hv i), .int (hc i)]))
noncomputable def Hs (dC : Nat → ClassId) (dI : Nat → Nat → Nat) (n : Nat) (hx ha : Nat → Nat) (hk hv hc : Nat → Int32) (A : Nat → Prop) (U : State) : Prop := ∀ i, i < n → hpK (hx i) ∧ Fz dC dI [hpE hx hk hv hc ha i] [] A U
theorem Hs.same {dC : Nat → ClassId} {dI : Nat → Nat → Nat} {n : Nat} {hx ha : Nat → Nat} {hk hv hc : Nat → Int32} {A : Nat → Prop} {u U : State} (h : Hs dC dI n hx ha hk hv hc A u) (hvm : u.vm = U.vm) (hh : U.heap = u.heap) : Hs dC dI n hx ha hk hv hc A U := fun i hi => ⟨(h i hi).1, (h i hi).2.same hvm hh⟩
theorem Hs.call {dC : Nat → ClassId} {dI : Nat → Nat → Nat} {n : Nat} {hx ha : Nat → Nat} {hk hv hc : Nat → Int32} {A B : Nat → Prop} {s U : State} {H : Heap} {locs : List Loc} (h : Hs dC dI n hx ha hk hv hc A s) (hS : va_S A s.heap H locs) (hU : U.heap = H) (hW : s.WarmedH U.vm) (hB : ∀ q, B q → A q) : Hs dC dI n hx ha hk hv hc B U := fun i hi => ⟨(h i hi).1, (h i hi).2.call hS hU hW hB⟩
theorem Hs.callF {dC : Nat → ClassId} {dI : Nat → Nat → Nat} {n : Nat} {hx ha : Nat → Nat} {hk hv hc : Nat → Int32} {A : Nat → Prop} {s U : State} {H : Heap} {locs : List Loc} (h : Hs dC dI n hx ha hk hv hc A s) (hS : va_S A s.heap H locs) (hU : U.heap = H) (hW : s.WarmedH U.vm) : Hs dC dI n hx ha hk hv hc (fun _ => False) U := fun i hi => ⟨(h i hi).1, (h i hi).2.callF hS hU hW⟩

noncomputable def hpC : List vw_C := [(RX1, TX1, 4), (RX3, TX3, 4), (RX4, TX4, 4), (RX6, TX6, 4), (RX7, TX7, 4), (RX9, TX9, 4), (RX10, TX10, 4)]
section
variable {p : Program} {l : Launch} {e : Env} {R : Room} {s : State} {m : MethodId} {args : Array Value} {below : List Frame} {meth : Method} {c : Code} {H : Heap} {locs : List Loc} {cells slots : Nat} {Q : State → Prop} {pc : Nat} {ls : Array Slot} {rest : List Value} {A : Nat → Prop} {dC : Nat → ClassId} {dI : Nat → Nat → Nat}
theorem va_hget0 {cc : ByteArray} {Ts : List Cond} {own : String} {index ci a : Nat} {fs : List Value} {tys : List (ClassId × FieldType)} {v : Value} (hx : p.tables.exec = Jvm.exec) (hb : c.code = cc) (hts : ∀ w ∈ Ts, w.before args s = true) (hin : ∀ C ∈ hpC, ∀ w ∈ u_ws C.1 C.2.1 C.2.2, w ∈ Ts) (hown : s.vm.findClass own = some m.cls) (hci : hpK ci) (hF : Fz dC dI [(a, .inr (ci, fs))] tys A s) (hS : va_S A s.heap H locs) (hlink : (Cond.fieldLink own index "MistHeaps$Heap" "kind" "I").before args s = true) (hdg : decode cc pc = .ok (.getfield index, 3)) (hv : fs[0]? = some v := by rfl) (kk : W p l e R s m args below meth c H locs cells slots Q (F0 m (pc + 3) ls (v :: rest))) : W p l e R s m args below meth c H locs cells slots Q (F0 m pc ls (.ref a :: rest)) := by
  rcases hci with rfl | rfl | rfl | rfl | rfl | rfl | rfl
  · exact va_get (D := (dC, dI)) (ci := 3) (C := RX1) (T := TX1) (N := 4) hx hb hts (hin (RX1, TX1, 4) (by simp [hpC])) hown hF.2.1 (hF.P hS) 0 rfl rfl 0 (by decide) hlink (fun _ h9 => h9) hv hdg kk
  · exact va_get (D := (dC, dI)) (ci := 5) (C := RX3) (T := TX3) (N := 4) hx hb hts (hin (RX3, TX3, 4) (by simp [hpC])) hown hF.2.1 (hF.P hS) 0 rfl rfl 0 (by decide) hlink (fun _ h9 => h9) hv hdg kk
  · exact va_get (D := (dC, dI)) (ci := 6) (C := RX4) (T := TX4) (N := 4) hx hb hts (hin (RX4, TX4, 4) (by simp [hpC])) hown hF.2.1 (hF.P hS) 0 rfl rfl 0 (by decide) hlink (fun _ h9 => h9) hv hdg kk
  · exact va_get (D := (dC, dI)) (ci := 8) (C := RX6) (T := TX6) (N := 4) hx hb hts (hin (RX6, TX6, 4) (by simp [hpC])) hown hF.2.1 (hF.P hS) 0 rfl rfl 0 (by decide) hlink (fun _ h9 => h9) hv hdg kk
  · exact va_get (D := (dC, dI)) (ci := 9) (C := RX7) (T := TX7) (N := 4) hx hb hts (hin (RX7, TX7, 4) (by simp [hpC])) hown hF.2.1 (hF.P hS) 0 rfl rfl 0 (by decide) hlink (fun _ h9 => h9) hv hdg kk
  · exact va_get (D := (dC, dI)) (ci := 11) (C := RX9) (T := TX9) (N := 4) hx hb hts (hin (RX9, TX9, 4) (by simp [hpC])) hown hF.2.1 (hF.P hS) 0 rfl rfl 0 (by decide) hlink (fun _ h9 => h9) hv hdg kk
  · exact va_get (D := (dC, dI)) (ci := 12) (C := RX10) (T := TX10) (N := 4) hx hb hts (hin (RX10, TX10, 4) (by simp [hpC])) hown hF.2.1 (hF.P hS) 0 rfl rfl 0 (by decide) hlink (fun _ h9 => h9) hv hdg kk
theorem va_hget1 {cc : ByteArray} {Ts : List Cond} {own : String} {index ci a : Nat} {fs : List Value} {tys : List (ClassId × FieldType)} {v : Value} (hx : p.tables.exec = Jvm.exec) (hb : c.code = cc) (hts : ∀ w ∈ Ts, w.before args s = true) (hin : ∀ C ∈ hpC, ∀ w ∈ u_ws C.1 C.2.1 C.2.2, w ∈ Ts) (hown : s.vm.findClass own = some m.cls) (hci : hpK ci) (hF : Fz dC dI [(a, .inr (ci, fs))] tys A s) (hS : va_S A s.heap H locs) (hlink : (Cond.fieldLink own index "MistHeaps$Heap" "number" "I").before args s = true) (hdg : decode cc pc = .ok (.getfield index, 3)) (hv : fs[1]? = some v := by rfl) (kk : W p l e R s m args below meth c H locs cells slots Q (F0 m (pc + 3) ls (v :: rest))) : W p l e R s m args below meth c H locs cells slots Q (F0 m pc ls (.ref a :: rest)) := by
  rcases hci with rfl | rfl | rfl | rfl | rfl | rfl | rfl
  · exact va_get (D := (dC, dI)) (ci := 3) (C := RX1) (T := TX1) (N := 4) hx hb hts (hin (RX1, TX1, 4) (by simp [hpC])) hown hF.2.1 (hF.P hS) 0 rfl rfl 1 (by decide) hlink (fun _ h9 => h9) hv hdg kk
  · exact va_get (D := (dC, dI)) (ci := 5) (C := RX3) (T := TX3) (N := 4) hx hb hts (hin (RX3, TX3, 4) (by simp [hpC])) hown hF.2.1 (hF.P hS) 0 rfl rfl 1 (by decide) hlink (fun _ h9 => h9) hv hdg kk
  · exact va_get (D := (dC, dI)) (ci := 6) (C := RX4) (T := TX4) (N := 4) hx hb hts (hin (RX4, TX4, 4) (by simp [hpC])) hown hF.2.1 (hF.P hS) 0 rfl rfl 1 (by decide) hlink (fun _ h9 => h9) hv hdg kk
  · exact va_get (D := (dC, dI)) (ci := 8) (C := RX6) (T := TX6) (N := 4) hx hb hts (hin (RX6, TX6, 4) (by simp [hpC])) hown hF.2.1 (hF.P hS) 0 rfl rfl 1 (by decide) hlink (fun _ h9 => h9) hv hdg kk
  · exact va_get (D := (dC, dI)) (ci := 9) (C := RX7) (T := TX7) (N := 4) hx hb hts (hin (RX7, TX7, 4) (by simp [hpC])) hown hF.2.1 (hF.P hS) 0 rfl rfl 1 (by decide) hlink (fun _ h9 => h9) hv hdg kk
  · exact va_get (D := (dC, dI)) (ci := 11) (C := RX9) (T := TX9) (N := 4) hx hb hts (hin (RX9, TX9, 4) (by simp [hpC])) hown hF.2.1 (hF.P hS) 0 rfl rfl 1 (by decide) hlink (fun _ h9 => h9) hv hdg kk
  · exact va_get (D := (dC, dI)) (ci := 12) (C := RX10) (T := TX10) (N := 4) hx hb hts (hin (RX10, TX10, 4) (by simp [hpC])) hown hF.2.1 (hF.P hS) 0 rfl rfl 1 (by decide) hlink (fun _ h9 => h9) hv hdg kk
theorem va_hget2 {cc : ByteArray} {Ts : List Cond} {own : String} {index ci a : Nat} {fs : List Value} {tys : List (ClassId × FieldType)} {v : Value} (hx : p.tables.exec = Jvm.exec) (hb : c.code = cc) (hts : ∀ w ∈ Ts, w.before args s = true) (hin : ∀ C ∈ hpC, ∀ w ∈ u_ws C.1 C.2.1 C.2.2, w ∈ Ts) (hown : s.vm.findClass own = some m.cls) (hci : hpK ci) (hF : Fz dC dI [(a, .inr (ci, fs))] tys A s) (hS : va_S A s.heap H locs) (hlink : (Cond.fieldLink own index "MistHeaps$Heap" "v" "I").before args s = true) (hdg : decode cc pc = .ok (.getfield index, 3)) (hv : fs[2]? = some v := by rfl) (kk : W p l e R s m args below meth c H locs cells slots Q (F0 m (pc + 3) ls (v :: rest))) : W p l e R s m args below meth c H locs cells slots Q (F0 m pc ls (.ref a :: rest)) := by
  rcases hci with rfl | rfl | rfl | rfl | rfl | rfl | rfl
  · exact va_get (D := (dC, dI)) (ci := 3) (C := RX1) (T := TX1) (N := 4) hx hb hts (hin (RX1, TX1, 4) (by simp [hpC])) hown hF.2.1 (hF.P hS) 0 rfl rfl 2 (by decide) hlink (fun _ h9 => h9) hv hdg kk
  · exact va_get (D := (dC, dI)) (ci := 5) (C := RX3) (T := TX3) (N := 4) hx hb hts (hin (RX3, TX3, 4) (by simp [hpC])) hown hF.2.1 (hF.P hS) 0 rfl rfl 2 (by decide) hlink (fun _ h9 => h9) hv hdg kk
  · exact va_get (D := (dC, dI)) (ci := 6) (C := RX4) (T := TX4) (N := 4) hx hb hts (hin (RX4, TX4, 4) (by simp [hpC])) hown hF.2.1 (hF.P hS) 0 rfl rfl 2 (by decide) hlink (fun _ h9 => h9) hv hdg kk
  · exact va_get (D := (dC, dI)) (ci := 8) (C := RX6) (T := TX6) (N := 4) hx hb hts (hin (RX6, TX6, 4) (by simp [hpC])) hown hF.2.1 (hF.P hS) 0 rfl rfl 2 (by decide) hlink (fun _ h9 => h9) hv hdg kk
  · exact va_get (D := (dC, dI)) (ci := 9) (C := RX7) (T := TX7) (N := 4) hx hb hts (hin (RX7, TX7, 4) (by simp [hpC])) hown hF.2.1 (hF.P hS) 0 rfl rfl 2 (by decide) hlink (fun _ h9 => h9) hv hdg kk
  · exact va_get (D := (dC, dI)) (ci := 11) (C := RX9) (T := TX9) (N := 4) hx hb hts (hin (RX9, TX9, 4) (by simp [hpC])) hown hF.2.1 (hF.P hS) 0 rfl rfl 2 (by decide) hlink (fun _ h9 => h9) hv hdg kk
  · exact va_get (D := (dC, dI)) (ci := 12) (C := RX10) (T := TX10) (N := 4) hx hb hts (hin (RX10, TX10, 4) (by simp [hpC])) hown hF.2.1 (hF.P hS) 0 rfl rfl 2 (by decide) hlink (fun _ h9 => h9) hv hdg kk
theorem va_hget3 {cc : ByteArray} {Ts : List Cond} {own : String} {index ci a : Nat} {fs : List Value} {tys : List (ClassId × FieldType)} {v : Value} (hx : p.tables.exec = Jvm.exec) (hb : c.code = cc) (hts : ∀ w ∈ Ts, w.before args s = true) (hin : ∀ C ∈ hpC, ∀ w ∈ u_ws C.1 C.2.1 C.2.2, w ∈ Ts) (hown : s.vm.findClass own = some m.cls) (hci : hpK ci) (hF : Fz dC dI [(a, .inr (ci, fs))] tys A s) (hS : va_S A s.heap H locs) (hlink : (Cond.fieldLink own index "MistHeaps$Heap" "cell" "I").before args s = true) (hdg : decode cc pc = .ok (.getfield index, 3)) (hv : fs[3]? = some v := by rfl) (kk : W p l e R s m args below meth c H locs cells slots Q (F0 m (pc + 3) ls (v :: rest))) : W p l e R s m args below meth c H locs cells slots Q (F0 m pc ls (.ref a :: rest)) := by
  rcases hci with rfl | rfl | rfl | rfl | rfl | rfl | rfl
  · exact va_get (D := (dC, dI)) (ci := 3) (C := RX1) (T := TX1) (N := 4) hx hb hts (hin (RX1, TX1, 4) (by simp [hpC])) hown hF.2.1 (hF.P hS) 0 rfl rfl 3 (by decide) hlink (fun _ h9 => h9) hv hdg kk
  · exact va_get (D := (dC, dI)) (ci := 5) (C := RX3) (T := TX3) (N := 4) hx hb hts (hin (RX3, TX3, 4) (by simp [hpC])) hown hF.2.1 (hF.P hS) 0 rfl rfl 3 (by decide) hlink (fun _ h9 => h9) hv hdg kk
  · exact va_get (D := (dC, dI)) (ci := 6) (C := RX4) (T := TX4) (N := 4) hx hb hts (hin (RX4, TX4, 4) (by simp [hpC])) hown hF.2.1 (hF.P hS) 0 rfl rfl 3 (by decide) hlink (fun _ h9 => h9) hv hdg kk
  · exact va_get (D := (dC, dI)) (ci := 8) (C := RX6) (T := TX6) (N := 4) hx hb hts (hin (RX6, TX6, 4) (by simp [hpC])) hown hF.2.1 (hF.P hS) 0 rfl rfl 3 (by decide) hlink (fun _ h9 => h9) hv hdg kk
  · exact va_get (D := (dC, dI)) (ci := 9) (C := RX7) (T := TX7) (N := 4) hx hb hts (hin (RX7, TX7, 4) (by simp [hpC])) hown hF.2.1 (hF.P hS) 0 rfl rfl 3 (by decide) hlink (fun _ h9 => h9) hv hdg kk
  · exact va_get (D := (dC, dI)) (ci := 11) (C := RX9) (T := TX9) (N := 4) hx hb hts (hin (RX9, TX9, 4) (by simp [hpC])) hown hF.2.1 (hF.P hS) 0 rfl rfl 3 (by decide) hlink (fun _ h9 => h9) hv hdg kk
  · exact va_get (D := (dC, dI)) (ci := 12) (C := RX10) (T := TX10) (N := 4) hx hb hts (hin (RX10, TX10, 4) (by simp [hpC])) hown hF.2.1 (hF.P hS) 0 rfl rfl 3 (by decide) hlink (fun _ h9 => h9) hv hdg kk
end

noncomputable def hpT (ci : Nat) (k : Int32) : Prop := (ci = 5 ∧ k = 0) ∨ (ci = 6 ∧ k = 1) ∨ (ci = 8 ∧ k = 2) ∨ (ci = 3 ∧ k = 3) ∨ (ci = 12 ∧ k = 4) ∨ (ci = 11 ∧ k = 5) ∨ (ci = 9 ∧ k = 6)
theorem hpT_0 : hpT 5 (0 : Int32) := Or.inl ⟨rfl, rfl⟩
theorem hpT_k0 {ci : Nat} {k : Int32} (h : hpT ci k) (e : ci = 5) : k = 0 := by
  rcases h with ⟨h1, h2⟩ | ⟨h1, h2⟩ | ⟨h1, h2⟩ | ⟨h1, h2⟩ | ⟨h1, h2⟩ | ⟨h1, h2⟩ | ⟨h1, h2⟩
  · exact h2
  · exact absurd (h1.symm.trans e) (by decide)
  · exact absurd (h1.symm.trans e) (by decide)
  · exact absurd (h1.symm.trans e) (by decide)
  · exact absurd (h1.symm.trans e) (by decide)
  · exact absurd (h1.symm.trans e) (by decide)
  · exact absurd (h1.symm.trans e) (by decide)
theorem hpT_1 : hpT 6 (1 : Int32) := Or.inr (Or.inl ⟨rfl, rfl⟩)
theorem hpT_k1 {ci : Nat} {k : Int32} (h : hpT ci k) (e : ci = 6) : k = 1 := by
  rcases h with ⟨h1, h2⟩ | ⟨h1, h2⟩ | ⟨h1, h2⟩ | ⟨h1, h2⟩ | ⟨h1, h2⟩ | ⟨h1, h2⟩ | ⟨h1, h2⟩
  · exact absurd (h1.symm.trans e) (by decide)
  · exact h2
  · exact absurd (h1.symm.trans e) (by decide)
  · exact absurd (h1.symm.trans e) (by decide)
  · exact absurd (h1.symm.trans e) (by decide)
  · exact absurd (h1.symm.trans e) (by decide)
  · exact absurd (h1.symm.trans e) (by decide)
theorem hpT_2 : hpT 8 (2 : Int32) := Or.inr (Or.inr (Or.inl ⟨rfl, rfl⟩))
theorem hpT_k2 {ci : Nat} {k : Int32} (h : hpT ci k) (e : ci = 8) : k = 2 := by
  rcases h with ⟨h1, h2⟩ | ⟨h1, h2⟩ | ⟨h1, h2⟩ | ⟨h1, h2⟩ | ⟨h1, h2⟩ | ⟨h1, h2⟩ | ⟨h1, h2⟩
  · exact absurd (h1.symm.trans e) (by decide)
  · exact absurd (h1.symm.trans e) (by decide)
  · exact h2
  · exact absurd (h1.symm.trans e) (by decide)
  · exact absurd (h1.symm.trans e) (by decide)
  · exact absurd (h1.symm.trans e) (by decide)
  · exact absurd (h1.symm.trans e) (by decide)
theorem hpT_3 : hpT 3 (3 : Int32) := Or.inr (Or.inr (Or.inr (Or.inl ⟨rfl, rfl⟩)))
theorem hpT_k3 {ci : Nat} {k : Int32} (h : hpT ci k) (e : ci = 3) : k = 3 := by
  rcases h with ⟨h1, h2⟩ | ⟨h1, h2⟩ | ⟨h1, h2⟩ | ⟨h1, h2⟩ | ⟨h1, h2⟩ | ⟨h1, h2⟩ | ⟨h1, h2⟩
  · exact absurd (h1.symm.trans e) (by decide)
  · exact absurd (h1.symm.trans e) (by decide)
  · exact absurd (h1.symm.trans e) (by decide)
  · exact h2
  · exact absurd (h1.symm.trans e) (by decide)
  · exact absurd (h1.symm.trans e) (by decide)
  · exact absurd (h1.symm.trans e) (by decide)
theorem hpT_4 : hpT 12 (4 : Int32) := Or.inr (Or.inr (Or.inr (Or.inr (Or.inl ⟨rfl, rfl⟩))))
theorem hpT_k4 {ci : Nat} {k : Int32} (h : hpT ci k) (e : ci = 12) : k = 4 := by
  rcases h with ⟨h1, h2⟩ | ⟨h1, h2⟩ | ⟨h1, h2⟩ | ⟨h1, h2⟩ | ⟨h1, h2⟩ | ⟨h1, h2⟩ | ⟨h1, h2⟩
  · exact absurd (h1.symm.trans e) (by decide)
  · exact absurd (h1.symm.trans e) (by decide)
  · exact absurd (h1.symm.trans e) (by decide)
  · exact absurd (h1.symm.trans e) (by decide)
  · exact h2
  · exact absurd (h1.symm.trans e) (by decide)
  · exact absurd (h1.symm.trans e) (by decide)
theorem hpT_5 : hpT 11 (5 : Int32) := Or.inr (Or.inr (Or.inr (Or.inr (Or.inr (Or.inl ⟨rfl, rfl⟩)))))
theorem hpT_k5 {ci : Nat} {k : Int32} (h : hpT ci k) (e : ci = 11) : k = 5 := by
  rcases h with ⟨h1, h2⟩ | ⟨h1, h2⟩ | ⟨h1, h2⟩ | ⟨h1, h2⟩ | ⟨h1, h2⟩ | ⟨h1, h2⟩ | ⟨h1, h2⟩
  · exact absurd (h1.symm.trans e) (by decide)
  · exact absurd (h1.symm.trans e) (by decide)
  · exact absurd (h1.symm.trans e) (by decide)
  · exact absurd (h1.symm.trans e) (by decide)
  · exact absurd (h1.symm.trans e) (by decide)
  · exact h2
  · exact absurd (h1.symm.trans e) (by decide)
theorem hpT_6 : hpT 9 (6 : Int32) := Or.inr (Or.inr (Or.inr (Or.inr (Or.inr (Or.inr (⟨rfl, rfl⟩))))))
theorem hpT_k6 {ci : Nat} {k : Int32} (h : hpT ci k) (e : ci = 9) : k = 6 := by
  rcases h with ⟨h1, h2⟩ | ⟨h1, h2⟩ | ⟨h1, h2⟩ | ⟨h1, h2⟩ | ⟨h1, h2⟩ | ⟨h1, h2⟩ | ⟨h1, h2⟩
  · exact absurd (h1.symm.trans e) (by decide)
  · exact absurd (h1.symm.trans e) (by decide)
  · exact absurd (h1.symm.trans e) (by decide)
  · exact absurd (h1.symm.trans e) (by decide)
  · exact absurd (h1.symm.trans e) (by decide)
  · exact absurd (h1.symm.trans e) (by decide)
  · exact h2

theorem ocell_of {x : Int32} (h1 : ¬ x < 0) (h2 : ¬ 36 ≤ x) : ∃ j : Nat, j < 36 ∧ x = nI j := by
  obtain ⟨j, hj, e⟩ := nI_of2 (n := 36) (M := 36) rfl h1 (Int32.le_of_lt (Int32.not_le.mp h2))
  refine ⟨j, ?_, e⟩
  rcases Nat.lt_or_ge j 36 with q | q
  · exact q
  · exact absurd (by rw [e]; exact nI_le (a := 36) q (by omega)) h2
theorem six_of {x : Int32} (h1 : ¬ x < 0) (h2 : ¬ 6 ≤ x) : ∃ j : Nat, j < 6 ∧ x = nI j := by
  obtain ⟨j, hj, e⟩ := nI_of2 (n := 6) (M := 6) rfl h1 (Int32.le_of_lt (Int32.not_le.mp h2))
  refine ⟨j, ?_, e⟩
  rcases Nat.lt_or_ge j 6 with q | q
  · exact q
  · exact absurd (by rw [e]; exact nI_le (a := 6) q (by omega)) h2
theorem rc_of {a b : Nat} {x y : Int32} (ha : a < 6) (hb : b < 6) (ex : x = nI a) (ey : y = nI b) : ∃ k : Nat, k < 36 ∧ x * 6 + y = nI k := by
  subst ex ey
  refine ⟨a * 6 + b, by omega, ?_⟩
  have e := pk_mul a 6
  have e2 := nI_add (a * 6) b
  rw [← e2, ← e]
  rfl

set_option maxHeartbeats 4000000 in
set_option maxRecDepth 100000 in
theorem c_xCell (l : Launch) (dC : Nat → ClassId) (dI : Nat → Nat → Nat) (x : Int32) : Met l yX11_isCell wsX11_isCell ({ frames := 0, cells := 0, slots := 0, locals := 0 } : Room) (va_Pc [.int x] (fun U => True)) (vp_Si (fun r => (r = 1 ∧ ∃ j : Nat, j < 36 ∧ x = nI j) ∨ (r = 0 ∧ (x < 0 ∨ 36 ≤ x)))) 0 0 (fun _ => False) := by
  refine met_ofQ (cc := cX11_isCell) (maxL := 1) (ret := (some .boolean)) (by decide) rfl ?_
  intro p e s m args below meth c s₁ Q B hml hv hQ
  obtain ⟨rfl, -⟩ := hv
  have hx := B.exec
  have hb := B.bytes
  have hr := B.returns
  have hts := atoms_spec (ws := wsX11_isCell) B.pre
  have hown : s.vm.findClass RX11 = some m.cls := findClass_of_methodNamed B.named
  have hlocks := B.notSynchronized
  obtain ⟨A, hAe⟩ : ∃ A : Nat → Prop, A = fun _ => False := ⟨_, rfl⟩
  rw [← hAe] at hQ
  have hS : va_S A s.heap s.heap [] := va_S.rf
  have hl := lv_entry [.int x] (n := 1) (Nat.le_of_ble_eq_true rfl)
  rw [lg_entry_eq]
  generalize (lg_sl [.int x] ++ List.replicate (1 - (lg_sl [.int x]).length) Slot.unset).toArray = ls at hl ⊢
  generalize hag : ([.int x] : List Value).toArray = args at hts hQ ⊢
  have hl : lv_has ls 1 [(0, .int x)] := hl
  refine lv_iload_n hx hb dX11_isCell_0 rfl (lv_at hl 0 rfl) ?_
  refine lv_if_lt (tgt := 14) hx hb dX11_isCell_1 (by decide) (fun c_1 => ?_) (fun c_1 => ?_)
  · skip
    refine lv_iconst (v := 0) hx hb dX11_isCell_14 (by decide) ?_
    rw [hQ]
    exact W.zret (v := 0) hx hb hr rfl (fun tQ htQ hWQ => ⟨0, rfl, by first | exact Or.inl ⟨rfl, ocell_of (by assumption) (by assumption)⟩ | exact Or.inr ⟨rfl, Or.inl (by assumption)⟩ | exact Or.inr ⟨rfl, Or.inr (by assumption)⟩, by rw [htQ]⟩) (fun q hq => absurd hq List.not_mem_nil) dX11_isCell_15
  · skip
    refine lv_iload_n hx hb dX11_isCell_4 rfl (lv_at hl 0 rfl) ?_
    refine lv_bipush (v := 36) hx hb dX11_isCell_5 (by decide) ?_
    refine lv_icmp_ge (tgt := 14) hx hb dX11_isCell_7 (by decide) (fun c_2 => ?_) (fun c_2 => ?_)
    · skip
      refine lv_iconst (v := 0) hx hb dX11_isCell_14 (by decide) ?_
      rw [hQ]
      exact W.zret (v := 0) hx hb hr rfl (fun tQ htQ hWQ => ⟨0, rfl, by first | exact Or.inl ⟨rfl, ocell_of (by assumption) (by assumption)⟩ | exact Or.inr ⟨rfl, Or.inl (by assumption)⟩ | exact Or.inr ⟨rfl, Or.inr (by assumption)⟩, by rw [htQ]⟩) (fun q hq => absurd hq List.not_mem_nil) dX11_isCell_15
    · skip
      refine lv_iconst (v := 1) hx hb dX11_isCell_10 (by decide) ?_
      refine lv_goto (tgt := 15) hx hb dX11_isCell_11 (by decide) ?_
      rw [hQ]
      exact W.zret (v := 1) hx hb hr rfl (fun tQ htQ hWQ => ⟨1, rfl, by first | exact Or.inl ⟨rfl, ocell_of (by assumption) (by assumption)⟩ | exact Or.inr ⟨rfl, Or.inl (by assumption)⟩ | exact Or.inr ⟨rfl, Or.inr (by assumption)⟩, by rw [htQ]⟩) (fun q hq => absurd hq List.not_mem_nil) dX11_isCell_15

set_option maxHeartbeats 4000000 in
set_option maxRecDepth 100000 in
theorem c_rowOf (l : Launch) (dC : Nat → ClassId) (dI : Nat → Nat → Nat) (x : Int32) : Met l yX11_rowOf wsX11_rowOf ({ frames := 0, cells := 0, slots := 0, locals := 0 } : Room) (va_Pc [.int x] (fun U => True)) (vp_Si (fun r => r = x / 6)) 0 0 (fun _ => False) := by
  refine met_ofQ (cc := cX11_rowOf) (maxL := 1) (ret := (some .int)) (by decide) rfl ?_
  intro p e s m args below meth c s₁ Q B hml hv hQ
  obtain ⟨rfl, -⟩ := hv
  have hx := B.exec
  have hb := B.bytes
  have hr := B.returns
  have hts := atoms_spec (ws := wsX11_rowOf) B.pre
  have hown : s.vm.findClass RX11 = some m.cls := findClass_of_methodNamed B.named
  have hlocks := B.notSynchronized
  obtain ⟨A, hAe⟩ : ∃ A : Nat → Prop, A = fun _ => False := ⟨_, rfl⟩
  rw [← hAe] at hQ
  have hS : va_S A s.heap s.heap [] := va_S.rf
  have hl := lv_entry [.int x] (n := 1) (Nat.le_of_ble_eq_true rfl)
  rw [lg_entry_eq]
  generalize (lg_sl [.int x] ++ List.replicate (1 - (lg_sl [.int x]).length) Slot.unset).toArray = ls at hl ⊢
  generalize hag : ([.int x] : List Value).toArray = args at hts hQ ⊢
  have hl : lv_has ls 1 [(0, .int x)] := hl
  refine lv_iload_n hx hb dX11_rowOf_0 rfl (lv_at hl 0 rfl) ?_
  refine lv_bipush (v := 6) hx hb dX11_rowOf_1 (by decide) ?_
  refine lv_idiv hx hb dX11_rowOf_3 (by decide) ?_
  rw [hQ]
  exact W.iret (v := x / 6) hx hb hr (fun tQ htQ hWQ => ⟨x / 6, rfl, rfl, by rw [htQ]⟩) (fun q hq => absurd hq List.not_mem_nil) dX11_rowOf_4

set_option maxHeartbeats 4000000 in
set_option maxRecDepth 100000 in
theorem c_columnOf (l : Launch) (dC : Nat → ClassId) (dI : Nat → Nat → Nat) (x : Int32) : Met l yX11_columnOf wsX11_columnOf ({ frames := 0, cells := 0, slots := 0, locals := 0 } : Room) (va_Pc [.int x] (fun U => True)) (vp_Si (fun r => r = x - x / 6 * 6)) 0 0 (fun _ => False) := by
  refine met_ofQ (cc := cX11_columnOf) (maxL := 1) (ret := (some .int)) (by decide) rfl ?_
  intro p e s m args below meth c s₁ Q B hml hv hQ
  obtain ⟨rfl, -⟩ := hv
  have hx := B.exec
  have hb := B.bytes
  have hr := B.returns
  have hts := atoms_spec (ws := wsX11_columnOf) B.pre
  have hown : s.vm.findClass RX11 = some m.cls := findClass_of_methodNamed B.named
  have hlocks := B.notSynchronized
  obtain ⟨A, hAe⟩ : ∃ A : Nat → Prop, A = fun _ => False := ⟨_, rfl⟩
  rw [← hAe] at hQ
  have hS : va_S A s.heap s.heap [] := va_S.rf
  have hl := lv_entry [.int x] (n := 1) (Nat.le_of_ble_eq_true rfl)
  rw [lg_entry_eq]
  generalize (lg_sl [.int x] ++ List.replicate (1 - (lg_sl [.int x]).length) Slot.unset).toArray = ls at hl ⊢
  generalize hag : ([.int x] : List Value).toArray = args at hts hQ ⊢
  have hl : lv_has ls 1 [(0, .int x)] := hl
  refine lv_iload_n hx hb dX11_columnOf_0 rfl (lv_at hl 0 rfl) ?_
  refine lv_bipush (v := 6) hx hb dX11_columnOf_1 (by decide) ?_
  refine lv_irem hx hb dX11_columnOf_3 (by decide) ?_
  rw [hQ]
  exact W.iret (v := x - x / 6 * 6) hx hb hr (fun tQ htQ hWQ => ⟨x - x / 6 * 6, rfl, rfl, by rw [htQ]⟩) (fun q hq => absurd hq List.not_mem_nil) dX11_columnOf_4

set_option maxHeartbeats 4000000 in
set_option maxRecDepth 100000 in
theorem c_onHill (l : Launch) (dC : Nat → ClassId) (dI : Nat → Nat → Nat) (x y : Int32) : Met l yX11_isOnHill wsX11_isOnHill ({ frames := 0, cells := 0, slots := 0, locals := 0 } : Room) (va_Pc [.int x, .int y] (fun U => True)) (vp_Si (fun r => (r = 1 ∧ ∃ a b : Nat, a < 6 ∧ b < 6 ∧ x = nI a ∧ y = nI b) ∨ (r = 0 ∧ ((x < 0 ∨ 6 ≤ x) ∨ (y < 0 ∨ 6 ≤ y))))) 0 0 (fun _ => False) := by
  refine met_ofQ (cc := cX11_isOnHill) (maxL := 2) (ret := (some .boolean)) (by decide) rfl ?_
  intro p e s m args below meth c s₁ Q B hml hv hQ
  obtain ⟨rfl, -⟩ := hv
  have hx := B.exec
  have hb := B.bytes
  have hr := B.returns
  have hts := atoms_spec (ws := wsX11_isOnHill) B.pre
  have hown : s.vm.findClass RX11 = some m.cls := findClass_of_methodNamed B.named
  have hlocks := B.notSynchronized
  obtain ⟨A, hAe⟩ : ∃ A : Nat → Prop, A = fun _ => False := ⟨_, rfl⟩
  rw [← hAe] at hQ
  have hS : va_S A s.heap s.heap [] := va_S.rf
  have hl := lv_entry [.int x, .int y] (n := 2) (Nat.le_of_ble_eq_true rfl)
  rw [lg_entry_eq]
  generalize (lg_sl [.int x, .int y] ++ List.replicate (2 - (lg_sl [.int x, .int y]).length) Slot.unset).toArray = ls at hl ⊢
  generalize hag : ([.int x, .int y] : List Value).toArray = args at hts hQ ⊢
  have hl : lv_has ls 2 [(0, .int x), (1, .int y)] := hl
  refine lv_iload_n hx hb dX11_isOnHill_0 rfl (lv_at hl 0 rfl) ?_
  refine lv_if_lt (tgt := 24) hx hb dX11_isOnHill_1 (by decide) (fun c_1 => ?_) (fun c_1 => ?_)
  · skip
    refine lv_iconst (v := 0) hx hb dX11_isOnHill_24 (by decide) ?_
    rw [hQ]
    exact W.zret (v := 0) hx hb hr rfl (fun tQ htQ hWQ => ⟨0, rfl, by first | exact Or.inr ⟨rfl, Or.inl (Or.inl (by assumption))⟩ | exact Or.inr ⟨rfl, Or.inl (Or.inr (by assumption))⟩ | exact Or.inr ⟨rfl, Or.inr (Or.inl (by assumption))⟩ | exact Or.inr ⟨rfl, Or.inr (Or.inr (by assumption))⟩ | (obtain ⟨a, ha, ea⟩ := six_of (x := x) (by assumption) (by assumption); obtain ⟨b, hb0, eb⟩ := six_of (x := y) (by assumption) (by assumption); exact Or.inl ⟨rfl, a, b, ha, hb0, ea, eb⟩), by rw [htQ]⟩) (fun q hq => absurd hq List.not_mem_nil) dX11_isOnHill_25
  · skip
    refine lv_iload_n hx hb dX11_isOnHill_4 rfl (lv_at hl 0 rfl) ?_
    refine lv_bipush (v := 6) hx hb dX11_isOnHill_5 (by decide) ?_
    refine lv_icmp_ge (tgt := 24) hx hb dX11_isOnHill_7 (by decide) (fun c_2 => ?_) (fun c_2 => ?_)
    · skip
      refine lv_iconst (v := 0) hx hb dX11_isOnHill_24 (by decide) ?_
      rw [hQ]
      exact W.zret (v := 0) hx hb hr rfl (fun tQ htQ hWQ => ⟨0, rfl, by first | exact Or.inr ⟨rfl, Or.inl (Or.inl (by assumption))⟩ | exact Or.inr ⟨rfl, Or.inl (Or.inr (by assumption))⟩ | exact Or.inr ⟨rfl, Or.inr (Or.inl (by assumption))⟩ | exact Or.inr ⟨rfl, Or.inr (Or.inr (by assumption))⟩ | (obtain ⟨a, ha, ea⟩ := six_of (x := x) (by assumption) (by assumption); obtain ⟨b, hb0, eb⟩ := six_of (x := y) (by assumption) (by assumption); exact Or.inl ⟨rfl, a, b, ha, hb0, ea, eb⟩), by rw [htQ]⟩) (fun q hq => absurd hq List.not_mem_nil) dX11_isOnHill_25
    · skip
      refine lv_iload_n hx hb dX11_isOnHill_10 rfl (lv_at hl 1 rfl) ?_
      refine lv_if_lt (tgt := 24) hx hb dX11_isOnHill_11 (by decide) (fun c_3 => ?_) (fun c_3 => ?_)
      · skip
        refine lv_iconst (v := 0) hx hb dX11_isOnHill_24 (by decide) ?_
        rw [hQ]
        exact W.zret (v := 0) hx hb hr rfl (fun tQ htQ hWQ => ⟨0, rfl, by first | exact Or.inr ⟨rfl, Or.inl (Or.inl (by assumption))⟩ | exact Or.inr ⟨rfl, Or.inl (Or.inr (by assumption))⟩ | exact Or.inr ⟨rfl, Or.inr (Or.inl (by assumption))⟩ | exact Or.inr ⟨rfl, Or.inr (Or.inr (by assumption))⟩ | (obtain ⟨a, ha, ea⟩ := six_of (x := x) (by assumption) (by assumption); obtain ⟨b, hb0, eb⟩ := six_of (x := y) (by assumption) (by assumption); exact Or.inl ⟨rfl, a, b, ha, hb0, ea, eb⟩), by rw [htQ]⟩) (fun q hq => absurd hq List.not_mem_nil) dX11_isOnHill_25
      · skip
        refine lv_iload_n hx hb dX11_isOnHill_14 rfl (lv_at hl 1 rfl) ?_
        refine lv_bipush (v := 6) hx hb dX11_isOnHill_15 (by decide) ?_
        refine lv_icmp_ge (tgt := 24) hx hb dX11_isOnHill_17 (by decide) (fun c_4 => ?_) (fun c_4 => ?_)
        · skip
          refine lv_iconst (v := 0) hx hb dX11_isOnHill_24 (by decide) ?_
          rw [hQ]
          exact W.zret (v := 0) hx hb hr rfl (fun tQ htQ hWQ => ⟨0, rfl, by first | exact Or.inr ⟨rfl, Or.inl (Or.inl (by assumption))⟩ | exact Or.inr ⟨rfl, Or.inl (Or.inr (by assumption))⟩ | exact Or.inr ⟨rfl, Or.inr (Or.inl (by assumption))⟩ | exact Or.inr ⟨rfl, Or.inr (Or.inr (by assumption))⟩ | (obtain ⟨a, ha, ea⟩ := six_of (x := x) (by assumption) (by assumption); obtain ⟨b, hb0, eb⟩ := six_of (x := y) (by assumption) (by assumption); exact Or.inl ⟨rfl, a, b, ha, hb0, ea, eb⟩), by rw [htQ]⟩) (fun q hq => absurd hq List.not_mem_nil) dX11_isOnHill_25
        · skip
          refine lv_iconst (v := 1) hx hb dX11_isOnHill_20 (by decide) ?_
          refine lv_goto (tgt := 25) hx hb dX11_isOnHill_21 (by decide) ?_
          rw [hQ]
          exact W.zret (v := 1) hx hb hr rfl (fun tQ htQ hWQ => ⟨1, rfl, by first | exact Or.inr ⟨rfl, Or.inl (Or.inl (by assumption))⟩ | exact Or.inr ⟨rfl, Or.inl (Or.inr (by assumption))⟩ | exact Or.inr ⟨rfl, Or.inr (Or.inl (by assumption))⟩ | exact Or.inr ⟨rfl, Or.inr (Or.inr (by assumption))⟩ | (obtain ⟨a, ha, ea⟩ := six_of (x := x) (by assumption) (by assumption); obtain ⟨b, hb0, eb⟩ := six_of (x := y) (by assumption) (by assumption); exact Or.inl ⟨rfl, a, b, ha, hb0, ea, eb⟩), by rw [htQ]⟩) (fun q hq => absurd hq List.not_mem_nil) dX11_isOnHill_25

theorem kc_beside_0 : (.fieldLink RX11 266 "MistHeaps" "DOWN" "[I" : Cond) ∈ wsX11_besideOrSame := kc_of 846 rfl rfl rfl
theorem kc_beside_1 : (.fieldLink RX11 269 "MistHeaps" "RIGHT" "[I" : Cond) ∈ wsX11_besideOrSame := kc_of 847 rfl rfl rfl
set_option maxHeartbeats 4000000 in
set_option maxRecDepth 100000 in
theorem c_beside (l : Launch) (dC : Nat → ClassId) (dI : Nat → Nat → Nat) (gd : Nat → Nat) (j w0 : Nat) (zj : j < 36) (zw : w0 < 8) : Met l yX11_besideOrSame wsX11_besideOrSame ({ frames := 1, cells := 0, slots := 0, locals := 21 } : Room) (va_Pc [.int (nI j), .int (nI w0)] (fun U => Gl gd (fun _ => False) U)) (vp_Si (fun r => ∃ k : Nat, k < 36 ∧ r = nI k)) 0 0 (fun _ => False) := by
  refine met_ofQ (cc := cX11_besideOrSame) (maxL := 4) (ret := (some .int)) (by decide) rfl ?_
  intro p e s m args below meth c s₁ Q B hml hv hQ
  obtain ⟨rfl, hG⟩ := hv
  have hx := B.exec
  have hb := B.bytes
  have hr := B.returns
  have hts := atoms_spec (ws := wsX11_besideOrSame) B.pre
  have hown : s.vm.findClass RX11 = some m.cls := findClass_of_methodNamed B.named
  have hlocks := B.notSynchronized
  obtain ⟨A, hAe⟩ : ∃ A : Nat → Prop, A = fun _ => False := ⟨_, rfl⟩
  rw [← hAe] at hQ hG
  have hS : va_S A s.heap s.heap [] := va_S.rf
  have hl := lv_entry [.int (nI j), .int (nI w0)] (n := 4) (Nat.le_of_ble_eq_true rfl)
  rw [lg_entry_eq]
  generalize (lg_sl [.int (nI j), .int (nI w0)] ++ List.replicate (4 - (lg_sl [.int (nI j), .int (nI w0)]).length) Slot.unset).toArray = ls at hl ⊢
  generalize hag : ([.int (nI j), .int (nI w0)] : List Value).toArray = args at hts hQ ⊢
  have hl : lv_has ls 4 [(0, .int (nI j)), (1, .int (nI w0))] := hl
  refine lv_iload_n hx hb dX11_besideOrSame_0 rfl (lv_at hl 0 rfl) ?_
  refine vp_callSi (va_runS (As := [.int (nI j)]) (rest := []) ⟨hx, hb, hml, hown, hts⟩ (c_rowOf l dC dI (nI j)) (va_cwS 1 hts gX11_besideOrSame_X11_rowOf rfl rfl rfl hd_yX11_rowOf.2 ⟨Nat.le_of_ble_eq_true rfl, Nat.le_of_ble_eq_true rfl⟩) ⟨fun a U g mk q => ⟨q.1, trivial⟩, fun U hU hW => ⟨rfl, trivial⟩⟩ rfl rfl hl.1 rfl (lv_room (Nat.le_of_ble_eq_true rfl)) dX11_besideOrSame_1 ⟨Nat.le_of_ble_eq_true rfl, Nat.le_of_ble_eq_true rfl⟩).run (fun r_1 hw_2 => ?_)
  obtain rfl := hw_2
  refine va_gets (C := "MistHeaps") (n := "DOWN") (d := "[I") (v := .ref (gd 0)) hx hb hG.2.1 hS hown (hts (.fieldLink RX11 266 "MistHeaps" "DOWN" "[I") kc_beside_0) (fun _ h9 => h9) dX11_besideOrSame_4 ?_
  refine lv_iload_n hx hb dX11_besideOrSame_7 rfl (lv_at hl 1 rfl) ?_
  refine va_ti (v := .int (fDown w0)) hx hb hG.2.2.1 hS (vp_in_nI (n := w0) (N := 8) (by omega) (by omega)) (by rw [nI_clamp (by omega)]) dX11_besideOrSame_8 ?_
  refine lv_iadd hx hb dX11_besideOrSame_9 ?_
  refine lv_istore_n (lv' := [(2, .int ((nI j / 6) + (fDown w0))), (0, .int (nI j)), (1, .int (nI w0))]) hx hb dX11_besideOrSame_10 rfl hl (by decide) rfl (fun ls hl => ?_)
  refine lv_iload_n hx hb dX11_besideOrSame_11 rfl (lv_at hl 1 rfl) ?_
  refine vp_callSi (va_runS (As := [.int (nI j)]) (rest := []) ⟨hx, hb, hml, hown, hts⟩ (c_columnOf l dC dI (nI j)) (va_cwS 1 hts gX11_besideOrSame_X11_columnOf rfl rfl rfl hd_yX11_columnOf.2 ⟨Nat.le_of_ble_eq_true rfl, Nat.le_of_ble_eq_true rfl⟩) ⟨fun a U g mk q => ⟨q.1, trivial⟩, fun U hU hW => ⟨rfl, trivial⟩⟩ rfl rfl hl.1 rfl (lv_room (Nat.le_of_ble_eq_true rfl)) dX11_besideOrSame_12 ⟨Nat.le_of_ble_eq_true rfl, Nat.le_of_ble_eq_true rfl⟩).run (fun r_3 hw_4 => ?_)
  obtain rfl := hw_4
  refine va_gets (C := "MistHeaps") (n := "RIGHT") (d := "[I") (v := .ref (gd 1)) hx hb hG.2.2.2.1 hS hown (hts (.fieldLink RX11 269 "MistHeaps" "RIGHT" "[I") kc_beside_1) (fun _ h9 => h9) dX11_besideOrSame_15 ?_
  refine lv_iload_n hx hb dX11_besideOrSame_18 rfl (lv_at hl 2 rfl) ?_
  refine va_ti (v := .int (fRight w0)) hx hb hG.2.2.2.2 hS (vp_in_nI (n := w0) (N := 8) (by omega) (by omega)) (by rw [nI_clamp (by omega)]) dX11_besideOrSame_19 ?_
  refine lv_iadd hx hb dX11_besideOrSame_20 ?_
  refine lv_istore_n (lv' := [(3, .int ((nI j - nI j / 6 * 6) + (fRight w0))), (2, .int ((nI j / 6) + (fDown w0))), (0, .int (nI j)), (1, .int (nI w0))]) hx hb dX11_besideOrSame_21 rfl hl (by decide) rfl (fun ls hl => ?_)
  refine lv_iload_n hx hb dX11_besideOrSame_22 rfl (lv_at hl 1 rfl) ?_
  refine lv_iload_n hx hb dX11_besideOrSame_23 rfl (lv_at hl 0 rfl) ?_
  refine vp_callSi (va_runS (As := [.int ((nI j / 6) + (fDown w0)), .int ((nI j - nI j / 6 * 6) + (fRight w0))]) (rest := []) ⟨hx, hb, hml, hown, hts⟩ (c_onHill l dC dI ((nI j / 6) + (fDown w0)) ((nI j - nI j / 6 * 6) + (fRight w0))) (va_cwS 2 hts gX11_besideOrSame_X11_isOnHill rfl rfl rfl hd_yX11_isOnHill.2 ⟨Nat.le_of_ble_eq_true rfl, Nat.le_of_ble_eq_true rfl⟩) ⟨fun a U g mk q => ⟨q.1, trivial⟩, fun U hU hW => ⟨rfl, trivial⟩⟩ rfl rfl hl.1 rfl (lv_room (Nat.le_of_ble_eq_true rfl)) dX11_besideOrSame_24 ⟨Nat.le_of_ble_eq_true rfl, Nat.le_of_ble_eq_true rfl⟩).run (fun r_5 hw_6 => ?_)
  rcases hw_6 with ⟨rfl, a, b, ga, gb, ea, eb⟩ | ⟨rfl, hoff⟩
  · skip
    refine lv_if_eq (tgt := 39) hx hb dX11_besideOrSame_27 (by decide) (fun c_7 => absurd c_7 (by decide)) (fun _ => ?_)
    refine lv_iload_n hx hb dX11_besideOrSame_30 rfl (lv_at hl 1 rfl) ?_
    refine lv_bipush (v := 6) hx hb dX11_besideOrSame_31 (by decide) ?_
    refine lv_imul hx hb dX11_besideOrSame_33 ?_
    refine lv_iload_n hx hb dX11_besideOrSame_34 rfl (lv_at hl 0 rfl) ?_
    refine lv_iadd hx hb dX11_besideOrSame_35 ?_
    refine lv_goto (tgt := 40) hx hb dX11_besideOrSame_36 (by decide) ?_
    rw [hQ]
    exact W.iret (v := (((nI j / 6) + (fDown w0)) * 6) + ((nI j - nI j / 6 * 6) + (fRight w0))) hx hb hr (fun tQ htQ hWQ => ⟨(((nI j / 6) + (fDown w0)) * 6) + ((nI j - nI j / 6 * 6) + (fRight w0)), rfl, by first | exact ⟨j, zj, rfl⟩ | exact rc_of ga gb ea eb, by rw [htQ]⟩) (fun q hq => absurd hq List.not_mem_nil) dX11_besideOrSame_40
  · skip
    refine lv_if_eq (tgt := 39) hx hb dX11_besideOrSame_27 (by decide) (fun _ => ?_) (fun c_8 => absurd c_8 (by decide))
    refine lv_iload_n hx hb dX11_besideOrSame_39 rfl (lv_at hl 2 rfl) ?_
    rw [hQ]
    exact W.iret (v := nI j) hx hb hr (fun tQ htQ hWQ => ⟨nI j, rfl, by first | exact ⟨j, zj, rfl⟩ | exact rc_of ga gb ea eb, by rw [htQ]⟩) (fun q hq => absurd hq List.not_mem_nil) dX11_besideOrSame_40

theorem kc_xApart_0 : (.methodLink RX11 263 Lib.Math.abs.name : Cond) ∈ wsX11_apart := kc_of 702 rfl rfl rfl
theorem kc_xApart_1 : (.static Lib.Math.abs.name : Cond) ∈ wsX11_apart := kc_of 703 rfl rfl rfl
theorem kc_xApart_2 : (.initialized "java/lang/Math" : Cond) ∈ wsX11_apart := kc_of 77 rfl rfl rfl
theorem kc_xApart_3 : (.code Lib.Math.abs.name Lib.Math.abs.code 1 (some .int) : Cond) ∈ wsX11_apart := kc_of 704 rfl rfl rfl
theorem kc_xApart_4 : (.methodLink RX11 204 Lib.Math.max.name : Cond) ∈ wsX11_apart := kc_of 706 rfl rfl rfl
theorem kc_xApart_5 : (.static Lib.Math.max.name : Cond) ∈ wsX11_apart := kc_of 426 rfl rfl rfl
theorem kc_xApart_6 : (.code Lib.Math.max.name Lib.Math.max.code 2 (some .int) : Cond) ∈ wsX11_apart := kc_of 427 rfl rfl rfl
set_option maxHeartbeats 4000000 in
set_option maxRecDepth 100000 in
theorem c_xApart (l : Launch) (dC : Nat → ClassId) (dI : Nat → Nat → Nat) (x y : Int32) : Met l yX11_apart wsX11_apart ({ frames := 1, cells := 0, slots := 0, locals := 20 } : Room) (va_Pc [.int x, .int y] (fun U => True)) (vp_Si (fun r => r = apR x y)) 0 0 (fun _ => False) := by
  refine met_ofQ (cc := cX11_apart) (maxL := 2) (ret := (some .int)) (by decide) rfl ?_
  intro p e s m args below meth c s₁ Q B hml hv hQ
  obtain ⟨rfl, -⟩ := hv
  have hx := B.exec
  have hb := B.bytes
  have hr := B.returns
  have hts := atoms_spec (ws := wsX11_apart) B.pre
  have hown : s.vm.findClass RX11 = some m.cls := findClass_of_methodNamed B.named
  have hlocks := B.notSynchronized
  obtain ⟨A, hAe⟩ : ∃ A : Nat → Prop, A = fun _ => False := ⟨_, rfl⟩
  rw [← hAe] at hQ
  have hS : va_S A s.heap s.heap [] := va_S.rf
  have hl := lv_entry [.int x, .int y] (n := 2) (Nat.le_of_ble_eq_true rfl)
  rw [lg_entry_eq]
  generalize (lg_sl [.int x, .int y] ++ List.replicate (2 - (lg_sl [.int x, .int y]).length) Slot.unset).toArray = ls at hl ⊢
  generalize hag : ([.int x, .int y] : List Value).toArray = args at hts hQ ⊢
  have hl : lv_has ls 2 [(0, .int x), (1, .int y)] := hl
  refine lv_iload_n hx hb dX11_apart_0 rfl (lv_at hl 0 rfl) ?_
  refine vp_callSi (va_runS (As := [.int x]) (rest := []) ⟨hx, hb, hml, hown, hts⟩ (c_rowOf l dC dI x) (va_cwS 1 hts gX11_apart_X11_rowOf rfl rfl rfl hd_yX11_rowOf.2 ⟨Nat.le_of_ble_eq_true rfl, Nat.le_of_ble_eq_true rfl⟩) ⟨fun a U g mk q => ⟨q.1, trivial⟩, fun U hU hW => ⟨rfl, trivial⟩⟩ rfl rfl hl.1 rfl (lv_room (Nat.le_of_ble_eq_true rfl)) dX11_apart_1 ⟨Nat.le_of_ble_eq_true rfl, Nat.le_of_ble_eq_true rfl⟩).run (fun r_1 hw_2 => ?_)
  obtain rfl := hw_2
  refine lv_iload_n hx hb dX11_apart_4 rfl (lv_at hl 1 rfl) ?_
  refine vp_callSi (va_runS (As := [.int y]) (rest := [.int (x / 6)]) ⟨hx, hb, hml, hown, hts⟩ (c_rowOf l dC dI y) (va_cwS 1 hts gX11_apart_X11_rowOf rfl rfl rfl hd_yX11_rowOf.2 ⟨Nat.le_of_ble_eq_true rfl, Nat.le_of_ble_eq_true rfl⟩) ⟨fun a U g mk q => ⟨q.1, trivial⟩, fun U hU hW => ⟨rfl, trivial⟩⟩ rfl rfl hl.1 rfl (lv_room (Nat.le_of_ble_eq_true rfl)) dX11_apart_5 ⟨Nat.le_of_ble_eq_true rfl, Nat.le_of_ble_eq_true rfl⟩).run (fun r_3 hw_4 => ?_)
  obtain rfl := hw_4
  refine lv_isub hx hb dX11_apart_8 ?_
  refine va_mabs hx hb (by rw [hml]; exact hl.1.symm) hown (hts (.methodLink RX11 263 Lib.Math.abs.name) kc_xApart_0) (hts (.static Lib.Math.abs.name) kc_xApart_1) (hts (.initialized "java/lang/Math") kc_xApart_2) (hts (.code Lib.Math.abs.name Lib.Math.abs.code 1 (some .int)) kc_xApart_3) (Nat.le_of_ble_eq_true rfl) (Nat.le_of_ble_eq_true rfl) (Nat.le_of_ble_eq_true rfl) (Nat.le_of_ble_eq_true rfl) dX11_apart_9 ?_
  refine qi_as (y := szR ((x / 6) - (y / 6))) (ab_sz _) ?_
  refine lv_iload_n hx hb dX11_apart_12 rfl (lv_at hl 0 rfl) ?_
  refine vp_callSi (va_runS (As := [.int x]) (rest := [.int (szR ((x / 6) - (y / 6)))]) ⟨hx, hb, hml, hown, hts⟩ (c_columnOf l dC dI x) (va_cwS 1 hts gX11_apart_X11_columnOf rfl rfl rfl hd_yX11_columnOf.2 ⟨Nat.le_of_ble_eq_true rfl, Nat.le_of_ble_eq_true rfl⟩) ⟨fun a U g mk q => ⟨q.1, trivial⟩, fun U hU hW => ⟨rfl, trivial⟩⟩ rfl rfl hl.1 rfl (lv_room (Nat.le_of_ble_eq_true rfl)) dX11_apart_13 ⟨Nat.le_of_ble_eq_true rfl, Nat.le_of_ble_eq_true rfl⟩).run (fun r_5 hw_6 => ?_)
  obtain rfl := hw_6
  refine lv_iload_n hx hb dX11_apart_16 rfl (lv_at hl 1 rfl) ?_
  refine vp_callSi (va_runS (As := [.int y]) (rest := [.int (x - x / 6 * 6), .int (szR ((x / 6) - (y / 6)))]) ⟨hx, hb, hml, hown, hts⟩ (c_columnOf l dC dI y) (va_cwS 1 hts gX11_apart_X11_columnOf rfl rfl rfl hd_yX11_columnOf.2 ⟨Nat.le_of_ble_eq_true rfl, Nat.le_of_ble_eq_true rfl⟩) ⟨fun a U g mk q => ⟨q.1, trivial⟩, fun U hU hW => ⟨rfl, trivial⟩⟩ rfl rfl hl.1 rfl (lv_room (Nat.le_of_ble_eq_true rfl)) dX11_apart_17 ⟨Nat.le_of_ble_eq_true rfl, Nat.le_of_ble_eq_true rfl⟩).run (fun r_7 hw_8 => ?_)
  obtain rfl := hw_8
  refine lv_isub hx hb dX11_apart_20 ?_
  refine va_mabs hx hb (by rw [hml]; exact hl.1.symm) hown (hts (.methodLink RX11 263 Lib.Math.abs.name) kc_xApart_0) (hts (.static Lib.Math.abs.name) kc_xApart_1) (hts (.initialized "java/lang/Math") kc_xApart_2) (hts (.code Lib.Math.abs.name Lib.Math.abs.code 1 (some .int)) kc_xApart_3) (Nat.le_of_ble_eq_true rfl) (Nat.le_of_ble_eq_true rfl) (Nat.le_of_ble_eq_true rfl) (Nat.le_of_ble_eq_true rfl) dX11_apart_21 ?_
  refine qi_as (y := szR ((x - x / 6 * 6) - (y - y / 6 * 6))) (ab_sz _) ?_
  refine va_mmax hx hb (by rw [hml]; exact hl.1.symm) hown (hts (.methodLink RX11 204 Lib.Math.max.name) kc_xApart_4) (hts (.static Lib.Math.max.name) kc_xApart_5) (hts (.initialized "java/lang/Math") kc_xApart_2) (hts (.code Lib.Math.max.name Lib.Math.max.code 2 (some .int)) kc_xApart_6) (Nat.le_of_ble_eq_true rfl) (Nat.le_of_ble_eq_true rfl) (Nat.le_of_ble_eq_true rfl) (Nat.le_of_ble_eq_true rfl) dX11_apart_24 ?_
  refine qi_as (y := apR x y) (mx_ap _ _) ?_
  rw [hQ]
  exact W.iret (v := apR x y) hx hb hr (fun tQ htQ hWQ => ⟨apR x y, rfl, rfl, by rw [htQ]⟩) (fun q hq => absurd hq List.not_mem_nil) dX11_apart_27

set_option maxHeartbeats 4000000 in
set_option maxRecDepth 100000 in
theorem c_isIn (l : Launch) (dC : Nat → ClassId) (dI : Nat → Nat → Nat) (mk : Int64) (x : Int32) : Met l yX11_isIn wsX11_isIn ({ frames := 0, cells := 0, slots := 0, locals := 0 } : Room) (va_Pc [.long mk, .int x] (fun U => True)) (vp_Si (fun r => r = 1 ∨ r = 0)) 0 0 (fun _ => False) := by
  refine met_ofQ (cc := cX11_isIn) (maxL := 3) (ret := (some .boolean)) (by decide) rfl ?_
  intro p e s m args below meth c s₁ Q B hml hv hQ
  obtain ⟨rfl, -⟩ := hv
  have hx := B.exec
  have hb := B.bytes
  have hr := B.returns
  have hts := atoms_spec (ws := wsX11_isIn) B.pre
  have hown : s.vm.findClass RX11 = some m.cls := findClass_of_methodNamed B.named
  have hlocks := B.notSynchronized
  obtain ⟨A, hAe⟩ : ∃ A : Nat → Prop, A = fun _ => False := ⟨_, rfl⟩
  rw [← hAe] at hQ
  have hS : va_S A s.heap s.heap [] := va_S.rf
  have hl := lv_entry [.long mk, .int x] (n := 3) (Nat.le_of_ble_eq_true rfl)
  rw [lg_entry_eq]
  generalize (lg_sl [.long mk, .int x] ++ List.replicate (3 - (lg_sl [.long mk, .int x]).length) Slot.unset).toArray = ls at hl ⊢
  generalize hag : ([.long mk, .int x] : List Value).toArray = args at hts hQ ⊢
  have hl : lv_has ls 3 [(0, .long mk), (2, .int x)] := hl
  refine lv_lload_n hx hb dX11_isIn_0 rfl (lv_at hl 0 rfl) ?_
  refine lv_iload_n hx hb dX11_isIn_1 rfl (lv_at hl 1 rfl) ?_
  refine lv_lshr (v := mk >>> (x.toInt64 &&& 63)) hx hb dX11_isIn_2 (rfl) ?_
  refine lv_lconst (v := 1) hx hb dX11_isIn_3 (by decide) ?_
  refine lv_land hx hb dX11_isIn_4 ?_
  refine lv_lconst (v := 1) hx hb dX11_isIn_5 (by decide) ?_
  refine W.lcmp hx hb dX11_isIn_6 ?_
  refine lv_if_ne (tgt := 14) hx hb dX11_isIn_7 (by decide) (fun c_1 => ?_) (fun c_1 => ?_)
  · skip
    refine lv_iconst (v := 0) hx hb dX11_isIn_14 (by decide) ?_
    rw [hQ]
    exact W.zret (v := 0) hx hb hr rfl (fun tQ htQ hWQ => ⟨0, rfl, by first | exact Or.inl rfl | exact Or.inr rfl, by rw [htQ]⟩) (fun q hq => absurd hq List.not_mem_nil) dX11_isIn_15
  · skip
    refine lv_iconst (v := 1) hx hb dX11_isIn_10 (by decide) ?_
    refine lv_goto (tgt := 15) hx hb dX11_isIn_11 (by decide) ?_
    rw [hQ]
    exact W.zret (v := 1) hx hb hr rfl (fun tQ htQ hWQ => ⟨1, rfl, by first | exact Or.inl rfl | exact Or.inr rfl, by rw [htQ]⟩) (fun q hq => absurd hq List.not_mem_nil) dX11_isIn_15

set_option maxHeartbeats 4000000 in
set_option maxRecDepth 100000 in
theorem c_common (l : Launch) (dC : Nat → ClassId) (dI : Nat → Nat → Nat) (a b : Int64) : Met l yX11_commonDivisor wsX11_commonDivisor ({ frames := 0, cells := 0, slots := 0, locals := 0 } : Room) (va_Pc [.long a, .long b] (fun U => True)) (vp_Sl (fun r => True)) 0 0 (fun _ => False) := by
  refine met_ofQ (cc := cX11_commonDivisor) (maxL := 7) (ret := (some .long)) (by decide) rfl ?_
  intro p e s m args below meth c s₁ Q B hml hv hQ
  obtain ⟨rfl, -⟩ := hv
  have hx := B.exec
  have hb := B.bytes
  have hr := B.returns
  have hts := atoms_spec (ws := wsX11_commonDivisor) B.pre
  have hown : s.vm.findClass RX11 = some m.cls := findClass_of_methodNamed B.named
  have hlocks := B.notSynchronized
  obtain ⟨A, hAe⟩ : ∃ A : Nat → Prop, A = fun _ => False := ⟨_, rfl⟩
  rw [← hAe] at hQ
  have hS : va_S A s.heap s.heap [] := va_S.rf
  have hl := lv_entry [.long a, .long b] (n := 7) (Nat.le_of_ble_eq_true rfl)
  rw [lg_entry_eq]
  generalize (lg_sl [.long a, .long b] ++ List.replicate (7 - (lg_sl [.long a, .long b]).length) Slot.unset).toArray = ls at hl ⊢
  generalize hag : ([.long a, .long b] : List Value).toArray = args at hts hQ ⊢
  have hl : lv_has ls 7 [(0, .long a), (2, .long b)] := hl
  refine lv_iconst (v := 0) hx hb dX11_commonDivisor_0 (by decide) ?_
  refine lv_istore (lv' := [(4, .int 0), (0, .long a), (2, .long b)]) hx hb dX11_commonDivisor_1 hl (by decide) rfl (fun ls hl => ?_)
  have L3 : ∀ (nF : Nat) (i : Nat) (a : Int64) (b : Int64), 64 - i < nF → (i ≤ 64) → ∀ (ls : Array Slot), lv_has ls 7 [(0, .long a), (2, .long b), (4, .int (nI i))] → W p l e ({ frames := 0, cells := 0, slots := 0, locals := 0 } : Room) s m args below meth c s.heap [] 0 0 Q (F0 m 3 ls []) := by
    intro nF
    induction nF with
    | zero => intro i a b hm; exact absurd hm (Nat.not_lt_zero _)
    | succ nF ih3 =>
      intro i a b hm hi ls hl
      refine lv_iload hx hb dX11_commonDivisor_3 (lv_at hl 2 rfl) ?_
      refine lv_bipush (v := 64) hx hb dX11_commonDivisor_5 (by decide) ?_
      refine lv_icmp_ge (tgt := 32) hx hb dX11_commonDivisor_7 (by decide) (fun c_1 => ?_) (fun c_1 => ?_)
      · skip
        have c_1 : 64 ≤ i := (nI_leI (a := 64) (b := i) (by omega) (by omega)).mp c_1
        refine lv_lload_n hx hb dX11_commonDivisor_32 rfl (lv_at hl 0 rfl) ?_
        rw [hQ]
        exact W.lret (v := a) hx hb hr (fun tQ htQ hWQ => ⟨a, rfl, trivial, by rw [htQ]⟩) (fun q hq => absurd hq List.not_mem_nil) dX11_commonDivisor_33
      · skip
        have c_1 : ¬ 64 ≤ i := fun q => c_1 ((nI_leI (a := 64) (b := i) (by omega) (by omega)).mpr q)
        refine lv_lload_n hx hb dX11_commonDivisor_10 rfl (lv_at hl 1 rfl) ?_
        refine lv_lconst (v := 0) hx hb dX11_commonDivisor_11 (by decide) ?_
        refine W.lcmp hx hb dX11_commonDivisor_12 ?_
        refine lv_if_eq (tgt := 32) hx hb dX11_commonDivisor_13 (by decide) (fun c_2 => ?_) (fun c_2 => ?_)
        · skip
          rw [lg_cmp_eq] at c_2
          refine lv_lload_n hx hb dX11_commonDivisor_32 rfl (lv_at hl 0 rfl) ?_
          rw [hQ]
          exact W.lret (v := a) hx hb hr (fun tQ htQ hWQ => ⟨a, rfl, trivial, by rw [htQ]⟩) (fun q hq => absurd hq List.not_mem_nil) dX11_commonDivisor_33
        · skip
          rw [lg_cmp_eq] at c_2
          refine lv_lload_n hx hb dX11_commonDivisor_16 rfl (lv_at hl 0 rfl) ?_
          refine lv_lload_n hx hb dX11_commonDivisor_17 rfl (lv_at hl 1 rfl) ?_
          refine lv_lrem hx hb dX11_commonDivisor_18 (by assumption) ?_
          refine lv_lstore (lv' := [(5, .long (a - a / b * b)), (0, .long a), (2, .long b), (4, .int (nI i))]) hx hb dX11_commonDivisor_19 hl (by decide) rfl (fun ls hl => ?_)
          refine lv_lload_n hx hb dX11_commonDivisor_21 rfl (lv_at hl 2 rfl) ?_
          refine lv_lstore_n (lv' := [(0, .long b), (5, .long (a - a / b * b)), (2, .long b), (4, .int (nI i))]) hx hb dX11_commonDivisor_22 rfl hl (by decide) rfl (fun ls hl => ?_)
          refine lv_lload hx hb dX11_commonDivisor_23 (lv_at hl 1 rfl) ?_
          refine lv_lstore_n (lv' := [(2, .long (a - a / b * b)), (0, .long b), (5, .long (a - a / b * b)), (4, .int (nI i))]) hx hb dX11_commonDivisor_25 rfl hl (by decide) rfl (fun ls hl => ?_)
          refine lv_iinc (v := nI (i + 1)) (lv' := [(4, .int (nI (i + 1))), (2, .long (a - a / b * b)), (0, .long b), (5, .long (a - a / b * b))]) hx hb dX11_commonDivisor_26 hl (k := 3) rfl (nI_add i 1) (by decide) rfl (fun ls hl => ?_)
          refine lv_goto (tgt := 3) hx hb dX11_commonDivisor_29 (by decide) ?_
          exact ih3 (i + 1) _ _ (by omega) (by omega) ls (lv_sub hl [2, 1, 0] rfl)
  exact L3 _ (0) _ _ (Nat.lt_succ_self _) (by omega) ls (lv_sub hl [1, 2, 0] rfl)

theorem kc_partOf_0 : (.constantLong RX11 139 (-9223372036854775808) : Cond) ∈ wsX11_partOf := kc_of 711 rfl rfl rfl
set_option maxHeartbeats 4000000 in
set_option maxRecDepth 100000 in
theorem c_partOf (l : Launch) (dC : Nat → ClassId) (dI : Nat → Nat → Nat) (a b : Int64) (x : Int32) : Met l yX11_partOf wsX11_partOf ({ frames := 1, cells := 0, slots := 0, locals := 26 } : Room) (va_Pc [.long a, .long b, .int x] (fun U => True)) (vp_Sl (fun r => True)) 0 0 (fun _ => False) := by
  refine met_ofQ (cc := cX11_partOf) (maxL := 7) (ret := (some .long)) (by decide) rfl ?_
  intro p e s m args below meth c s₁ Q B hml hv hQ
  obtain ⟨rfl, -⟩ := hv
  have hx := B.exec
  have hb := B.bytes
  have hr := B.returns
  have hts := atoms_spec (ws := wsX11_partOf) B.pre
  have hown : s.vm.findClass RX11 = some m.cls := findClass_of_methodNamed B.named
  have hlocks := B.notSynchronized
  obtain ⟨A, hAe⟩ : ∃ A : Nat → Prop, A = fun _ => False := ⟨_, rfl⟩
  rw [← hAe] at hQ
  have hS : va_S A s.heap s.heap [] := va_S.rf
  have hl := lv_entry [.long a, .long b, .int x] (n := 7) (Nat.le_of_ble_eq_true rfl)
  rw [lg_entry_eq]
  generalize (lg_sl [.long a, .long b, .int x] ++ List.replicate (7 - (lg_sl [.long a, .long b, .int x]).length) Slot.unset).toArray = ls at hl ⊢
  generalize hag : ([.long a, .long b, .int x] : List Value).toArray = args at hts hQ ⊢
  have hl : lv_has ls 7 [(0, .long a), (2, .long b), (4, .int x)] := hl
  refine lv_lload_n hx hb dX11_partOf_0 rfl (lv_at hl 0 rfl) ?_
  refine lv_lload_n hx hb dX11_partOf_1 rfl (lv_at hl 1 rfl) ?_
  refine vp_callSl (va_runS (As := [.long a, .long b]) (rest := []) ⟨hx, hb, hml, hown, hts⟩ (c_common l dC dI a b) (va_cwS 2 hts gX11_partOf_X11_commonDivisor rfl rfl rfl hd_yX11_commonDivisor.2 ⟨Nat.le_of_ble_eq_true rfl, Nat.le_of_ble_eq_true rfl⟩) ⟨fun a U g mk q => ⟨q.1, trivial⟩, fun U hU hW => ⟨rfl, trivial⟩⟩ rfl rfl hl.1 rfl (lv_room (Nat.le_of_ble_eq_true rfl)) dX11_partOf_2 ⟨Nat.le_of_ble_eq_true rfl, Nat.le_of_ble_eq_true rfl⟩).run (fun r_1 hw_2 => ?_)
  refine lv_lstore (lv' := [(5, .long r_1), (0, .long a), (2, .long b), (4, .int x)]) hx hb dX11_partOf_5 hl (by decide) rfl (fun ls hl => ?_)
  refine lv_lload hx hb dX11_partOf_7 (lv_at hl 0 rfl) ?_
  refine lv_lconst (v := 0) hx hb dX11_partOf_9 (by decide) ?_
  refine W.lcmp hx hb dX11_partOf_10 ?_
  refine lv_if_gt (tgt := 18) hx hb dX11_partOf_11 (by decide) (fun c_3 => ?_) (fun c_3 => ?_)
  · skip
    have cne : ¬ r_1 = 0 := fun e0 => by rw [e0] at c_3; exact absurd c_3 (by decide)
    refine lv_iload hx hb dX11_partOf_18 (lv_at hl 3 rfl) ?_
    have J20 : ∀ v_4 : Int64, W p l e ({ frames := 1, cells := 0, slots := 0, locals := 26 } : Room) s m args below meth c s.heap [] 0 0 Q (F0 m 28 ls [.long v_4]) := by
      intro v_4
      refine lv_lload hx hb dX11_partOf_28 (lv_at hl 0 rfl) ?_
      refine lv_ldiv hx hb dX11_partOf_30 (by assumption) ?_
      rw [hQ]
      exact W.lret (v := v_4 / r_1) hx hb hr (fun tQ htQ hWQ => ⟨v_4 / r_1, rfl, trivial, by rw [htQ]⟩) (fun q hq => absurd hq List.not_mem_nil) dX11_partOf_31
    refine lv_if_ne (tgt := 27) hx hb dX11_partOf_20 (by decide) (fun c_6 => ?_) (fun c_6 => ?_)
    · skip
      refine lv_lload_n hx hb dX11_partOf_27 rfl (lv_at hl 2 rfl) ?_
      exact J20 b
    · skip
      refine lv_lload_n hx hb dX11_partOf_23 rfl (lv_at hl 1 rfl) ?_
      refine lv_goto (tgt := 28) hx hb dX11_partOf_24 (by decide) ?_
      exact J20 a
  · skip
    refine lv_ldc2 (v := (-9223372036854775808)) hx hb hown (hts (.constantLong RX11 139 (-9223372036854775808)) kc_partOf_0) dX11_partOf_14 ?_
    rw [hQ]
    exact W.lret (v := (-9223372036854775808)) hx hb hr (fun tQ htQ hWQ => ⟨(-9223372036854775808), rfl, trivial, by rw [htQ]⟩) (fun q hq => absurd hq List.not_mem_nil) dX11_partOf_17

theorem kc_timesOf_0 : (.constantLong RX0 25 (20) : Cond) ∈ wsX0_timesOf := kc_of 842 rfl rfl rfl
set_option maxHeartbeats 4000000 in
set_option maxRecDepth 100000 in
theorem c_timesOf (l : Launch) (dC : Nat → ClassId) (dI : Nat → Nat → Nat) (k : Nat) (zk : k ≤ 6) : Met l yX0_timesOf wsX0_timesOf ({ frames := 0, cells := 0, slots := 0, locals := 0 } : Room) (va_Pc [.int (nI k)] (fun U => True)) (vp_Sl (fun r => True)) 0 0 (fun _ => False) := by
  refine met_ofQ (cc := cX0_timesOf) (maxL := 4) (ret := (some .long)) (by decide) rfl ?_
  intro p e s m args below meth c s₁ Q B hml hv hQ
  obtain ⟨rfl, -⟩ := hv
  have hx := B.exec
  have hb := B.bytes
  have hr := B.returns
  have hts := atoms_spec (ws := wsX0_timesOf) B.pre
  have hown : s.vm.findClass RX0 = some m.cls := findClass_of_methodNamed B.named
  have hlocks := B.notSynchronized
  obtain ⟨A, hAe⟩ : ∃ A : Nat → Prop, A = fun _ => False := ⟨_, rfl⟩
  rw [← hAe] at hQ
  have hS : va_S A s.heap s.heap [] := va_S.rf
  have hl := lv_entry [.int (nI k)] (n := 4) (Nat.le_of_ble_eq_true rfl)
  rw [lg_entry_eq]
  generalize (lg_sl [.int (nI k)] ++ List.replicate (4 - (lg_sl [.int (nI k)]).length) Slot.unset).toArray = ls at hl ⊢
  generalize hag : ([.int (nI k)] : List Value).toArray = args at hts hQ ⊢
  have hl : lv_has ls 4 [(0, .int (nI k))] := hl
  refine lv_lconst (v := 1) hx hb dX0_timesOf_0 (by decide) ?_
  refine lv_lstore_n (lv' := [(1, .long 1), (0, .int (nI k))]) hx hb dX0_timesOf_1 rfl hl (by decide) rfl (fun ls hl => ?_)
  refine lv_iconst (v := 0) hx hb dX0_timesOf_2 (by decide) ?_
  refine lv_istore_n (lv' := [(3, .int 0), (1, .long 1), (0, .int (nI k))]) hx hb dX0_timesOf_3 rfl hl (by decide) rfl (fun ls hl => ?_)
  have L4 : ∀ (nF : Nat) (i : Nat) (q : Int64), k - i < nF → (i ≤ k) → ∀ (ls : Array Slot), lv_has ls 4 [(0, .int (nI k)), (1, .long q), (3, .int (nI i))] → W p l e ({ frames := 0, cells := 0, slots := 0, locals := 0 } : Room) s m args below meth c s.heap [] 0 0 Q (F0 m 4 ls []) := by
    intro nF
    induction nF with
    | zero => intro i q hm; exact absurd hm (Nat.not_lt_zero _)
    | succ nF ih4 =>
      intro i q hm hi ls hl
      refine lv_iload_n hx hb dX0_timesOf_4 rfl (lv_at hl 2 rfl) ?_
      refine lv_iload_n hx hb dX0_timesOf_5 rfl (lv_at hl 0 rfl) ?_
      refine lv_icmp_ge (tgt := 21) hx hb dX0_timesOf_6 (by decide) (fun c_1 => ?_) (fun c_1 => ?_)
      · skip
        have c_1 : k ≤ i := (nI_leI (a := k) (b := i) (by omega) (by omega)).mp c_1
        refine lv_lload_n hx hb dX0_timesOf_21 rfl (lv_at hl 1 rfl) ?_
        rw [hQ]
        exact W.lret (v := q) hx hb hr (fun tQ htQ hWQ => ⟨q, rfl, trivial, by rw [htQ]⟩) (fun q hq => absurd hq List.not_mem_nil) dX0_timesOf_22
      · skip
        have c_1 : ¬ k ≤ i := fun q => c_1 ((nI_leI (a := k) (b := i) (by omega) (by omega)).mpr q)
        refine lv_lload_n hx hb dX0_timesOf_9 rfl (lv_at hl 1 rfl) ?_
        refine lv_ldc2 (v := 20) hx hb hown (hts (.constantLong RX0 25 (20)) kc_timesOf_0) dX0_timesOf_10 ?_
        refine lv_lmul hx hb dX0_timesOf_13 ?_
        refine lv_lstore_n (lv' := [(1, .long (q * 20)), (0, .int (nI k)), (3, .int (nI i))]) hx hb dX0_timesOf_14 rfl hl (by decide) rfl (fun ls hl => ?_)
        refine lv_iinc (v := nI (i + 1)) (lv' := [(3, .int (nI (i + 1))), (1, .long (q * 20)), (0, .int (nI k))]) hx hb dX0_timesOf_15 hl (k := 2) rfl (nI_add i 1) (by decide) rfl (fun ls hl => ?_)
        refine lv_goto (tgt := 4) hx hb dX0_timesOf_18 (by decide) ?_
        exact ih4 (i + 1) _ (by omega) (by omega) ls (lv_sub hl [2, 1, 0] rfl)
  exact L4 _ (0) _ (Nat.lt_succ_self _) (by omega) ls (lv_sub hl [2, 1, 0] rfl)
