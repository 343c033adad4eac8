theorem ggX8_areHeaps_X8_heapAt : GoodIn wsX8_areHeaps wsX8_heapAt := gga_of 632 rfl rfl rfl
theorem gX8_areHeaps_X8_heapAt : GoodIn wsX8_areHeaps (wsV RX8 69 RX8 yX8_heapAt wsX8_heapAt) := goodIn_app (ggh_of [720, 630, 631, 64] rfl rfl rfl) ggX8_areHeaps_X8_heapAt
theorem ggX8_tellFacts_X11_rowOf : GoodIn wsX8_tellFacts wsX11_rowOf := gga_of 643 rfl rfl rfl
theorem ggX8_tellFacts_X11_columnOf : GoodIn wsX8_tellFacts wsX11_columnOf := gga_of 646 rfl rfl rfl
theorem ggX8_reachOf_X8_tellFacts : GoodIn wsX8_reachOf wsX8_tellFacts := gga_of 640 rfl rfl rfl
theorem gX8_reachOf_X8_tellFacts : GoodIn wsX8_reachOf (wsV RX8 82 RX8 yX8_tellFacts wsX8_tellFacts) := goodIn_app (ggh_of [637, 639, 10, 64] rfl rfl rfl) ggX8_reachOf_X8_tellFacts
theorem ggX8_reachOf_X5_total : GoodIn wsX8_reachOf wsX5_total := gga_of 650 rfl rfl rfl
theorem gX8_reachOf_X5_total : GoodIn wsX8_reachOf (wsV RX8 89 RX5 yX5_total wsX5_total) := goodIn_app (ggh_of [647, 648, 649, 65] rfl rfl rfl) ggX8_reachOf_X5_total
theorem ggX8_reachOf_X3_reachBy : GoodIn wsX8_reachOf wsX3_reachBy := gga_of 683 rfl rfl rfl
theorem gX8_reachOf_X3_reachBy_u93X1 : GoodIn wsX8_reachOf (va_wsU RX8 93 RX1 "MistHeaps$Heap" ⟨"MistHeaps$Heap", "reachBy", "(II)I"⟩ yX3_reachBy wsX3_reachBy) := goodIn_app (ggh_of [658, 661, 662, 659, 67] rfl rfl rfl) ggX8_reachOf_X3_reachBy
theorem gX8_reachOf_X3_reachBy : GoodIn wsX8_reachOf (wsV RX8 93 RX3 yX3_reachBy wsX3_reachBy) := goodIn_app (ggh_of [658, 659, 660, 67] rfl rfl rfl) ggX8_reachOf_X3_reachBy
theorem ggX8_reachOf_X4_reachBy : GoodIn wsX8_reachOf wsX4_reachBy := gga_of 665 rfl rfl rfl
theorem gX8_reachOf_X4_reachBy_u93X4 : GoodIn wsX8_reachOf (va_wsO RX8 93 RX4 "MistHeaps$Heap" ⟨"MistHeaps$Heap", "reachBy", "(II)I"⟩ yX4_reachBy wsX4_reachBy) := goodIn_app (ggh_of [658, 661, 659, 663, 664, 81] rfl rfl rfl) ggX8_reachOf_X4_reachBy
theorem ggX8_reachOf_X6_reachBy : GoodIn wsX8_reachOf wsX6_reachBy := gga_of 669 rfl rfl rfl
theorem gX8_reachOf_X6_reachBy_u93X6 : GoodIn wsX8_reachOf (va_wsO RX8 93 RX6 "MistHeaps$Heap" ⟨"MistHeaps$Heap", "reachBy", "(II)I"⟩ yX6_reachBy wsX6_reachBy) := goodIn_app (ggh_of [658, 661, 659, 667, 668, 82] rfl rfl rfl) ggX8_reachOf_X6_reachBy
theorem ggX8_reachOf_X7_reachBy : GoodIn wsX8_reachOf wsX7_reachBy := gga_of 673 rfl rfl rfl
theorem gX8_reachOf_X7_reachBy_u93X7 : GoodIn wsX8_reachOf (va_wsO RX8 93 RX7 "MistHeaps$Heap" ⟨"MistHeaps$Heap", "reachBy", "(II)I"⟩ yX7_reachBy wsX7_reachBy) := goodIn_app (ggh_of [658, 661, 659, 671, 672, 86] rfl rfl rfl) ggX8_reachOf_X7_reachBy
theorem ggX8_reachOf_X9_reachBy : GoodIn wsX8_reachOf wsX9_reachBy := gga_of 680 rfl rfl rfl
theorem gX8_reachOf_X9_reachBy_u93X9 : GoodIn wsX8_reachOf (va_wsO RX8 93 RX9 "MistHeaps$Heap" ⟨"MistHeaps$Heap", "reachBy", "(II)I"⟩ yX9_reachBy wsX9_reachBy) := goodIn_app (ggh_of [658, 661, 659, 678, 679, 85] rfl rfl rfl) ggX8_reachOf_X9_reachBy
theorem gX8_reachOf_X4_reachBy_u93X10 : GoodIn wsX8_reachOf (va_wsO RX8 93 RX10 "MistHeaps$Heap" ⟨"MistHeaps$Heap", "reachBy", "(II)I"⟩ yX4_reachBy wsX4_reachBy) := goodIn_app (ggh_of [658, 661, 659, 682, 664, 81] rfl rfl rfl) ggX8_reachOf_X4_reachBy
theorem ggX8_driftOn_X8_tellFacts : GoodIn wsX8_driftOn wsX8_tellFacts := gga_of 640 rfl rfl rfl
theorem gX8_driftOn_X8_tellFacts : GoodIn wsX8_driftOn (wsV RX8 82 RX8 yX8_tellFacts wsX8_tellFacts) := goodIn_app (ggh_of [637, 639, 10, 64] rfl rfl rfl) ggX8_driftOn_X8_tellFacts
theorem ggX8_driftOn_X5_total : GoodIn wsX8_driftOn wsX5_total := gga_of 650 rfl rfl rfl
theorem gX8_driftOn_X5_total : GoodIn wsX8_driftOn (wsV RX8 89 RX5 yX5_total wsX5_total) := goodIn_app (ggh_of [647, 648, 649, 65] rfl rfl rfl) ggX8_driftOn_X5_total
theorem ggX8_cellsSeeing_X8_heapAt : GoodIn wsX8_cellsSeeing wsX8_heapAt := gga_of 632 rfl rfl rfl
theorem gX8_cellsSeeing_X8_heapAt : GoodIn wsX8_cellsSeeing (wsV RX8 69 RX8 yX8_heapAt wsX8_heapAt) := goodIn_app (ggh_of [720, 630, 631, 64] rfl rfl rfl) ggX8_cellsSeeing_X8_heapAt
theorem ggX8_cellsSeeing_X8_reachOf : GoodIn wsX8_cellsSeeing wsX8_reachOf := gga_of 636 rfl rfl rfl
theorem gX8_cellsSeeing_X8_reachOf : GoodIn wsX8_cellsSeeing (wsV RX8 109 RX8 yX8_reachOf wsX8_reachOf) := goodIn_app (ggh_of [823, 634, 635, 64] rfl rfl rfl) ggX8_cellsSeeing_X8_reachOf
theorem ggX8_cellsSeeing_X11_apart : GoodIn wsX8_cellsSeeing wsX11_apart := gga_of 700 rfl rfl rfl
noncomputable def dk15ascene_cX8_heapAt_0 : List (Nat × Instr × Nat) := [(0, .iload_n 1, 1), (1, .ifCond .lt 20, 3), (21, .aconst_null, 1), (22, .areturn, 1), (4, .iload_n 1, 1), (5, .aload_n 0, 1), (6, .getfield 60, 3), (9, .if_icmp .ge 12, 3), (12, .aload_n 0, 1), (13, .getfield 24, 3), (16, .iload_n 1, 1), (17, .aaload, 1), (18, .goto 4, 3)]
set_option maxRecDepth 100000 in
theorem dk15ascene_cX8_heapAt_0_a : dkA cX8_heapAt dk15ascene_cX8_heapAt_0 = true := by decide +kernel
theorem dX8_heapAt_0 : decode cX8_heapAt 0 = .ok (.iload_n 1, 1) := dkAt dk15ascene_cX8_heapAt_0_a 0 rfl
theorem dX8_heapAt_1 : decode cX8_heapAt 1 = .ok (.ifCond .lt 20, 3) := dkAt dk15ascene_cX8_heapAt_0_a 1 rfl
theorem dX8_heapAt_21 : decode cX8_heapAt 21 = .ok (.aconst_null, 1) := dkAt dk15ascene_cX8_heapAt_0_a 2 rfl
theorem dX8_heapAt_22 : decode cX8_heapAt 22 = .ok (.areturn, 1) := dkAt dk15ascene_cX8_heapAt_0_a 3 rfl
theorem dX8_heapAt_4 : decode cX8_heapAt 4 = .ok (.iload_n 1, 1) := dkAt dk15ascene_cX8_heapAt_0_a 4 rfl
theorem dX8_heapAt_5 : decode cX8_heapAt 5 = .ok (.aload_n 0, 1) := dkAt dk15ascene_cX8_heapAt_0_a 5 rfl
theorem dX8_heapAt_6 : decode cX8_heapAt 6 = .ok (.getfield 60, 3) := dkAt dk15ascene_cX8_heapAt_0_a 6 rfl
theorem dX8_heapAt_9 : decode cX8_heapAt 9 = .ok (.if_icmp .ge 12, 3) := dkAt dk15ascene_cX8_heapAt_0_a 7 rfl
theorem dX8_heapAt_12 : decode cX8_heapAt 12 = .ok (.aload_n 0, 1) := dkAt dk15ascene_cX8_heapAt_0_a 8 rfl
theorem dX8_heapAt_13 : decode cX8_heapAt 13 = .ok (.getfield 24, 3) := dkAt dk15ascene_cX8_heapAt_0_a 9 rfl
theorem dX8_heapAt_16 : decode cX8_heapAt 16 = .ok (.iload_n 1, 1) := dkAt dk15ascene_cX8_heapAt_0_a 10 rfl
theorem dX8_heapAt_17 : decode cX8_heapAt 17 = .ok (.aaload, 1) := dkAt dk15ascene_cX8_heapAt_0_a 11 rfl
theorem dX8_heapAt_18 : decode cX8_heapAt 18 = .ok (.goto 4, 3) := dkAt dk15ascene_cX8_heapAt_0_a 12 rfl
noncomputable def dk15ascene_cX8_areHeaps_0 : List (Nat × Instr × Nat) := [(0, .aload_n 0, 1), (1, .iload_n 1, 1), (2, .invokevirtual 69, 3), (5, .ifnull 15, 3), (8, .aload_n 0, 1), (9, .iload_n 2, 1), (10, .invokevirtual 69, 3), (13, .ifnull 7, 3), (16, .iconst 1, 1), (17, .goto 4, 3), (21, .ireturn, 1), (20, .iconst 0, 1)]
set_option maxRecDepth 100000 in
theorem dk15ascene_cX8_areHeaps_0_a : dkA cX8_areHeaps dk15ascene_cX8_areHeaps_0 = true := by decide +kernel
theorem dX8_areHeaps_0 : decode cX8_areHeaps 0 = .ok (.aload_n 0, 1) := dkAt dk15ascene_cX8_areHeaps_0_a 0 rfl
theorem dX8_areHeaps_1 : decode cX8_areHeaps 1 = .ok (.iload_n 1, 1) := dkAt dk15ascene_cX8_areHeaps_0_a 1 rfl
theorem dX8_areHeaps_2 : decode cX8_areHeaps 2 = .ok (.invokevirtual 69, 3) := dkAt dk15ascene_cX8_areHeaps_0_a 2 rfl
theorem dX8_areHeaps_5 : decode cX8_areHeaps 5 = .ok (.ifnull 15, 3) := dkAt dk15ascene_cX8_areHeaps_0_a 3 rfl
theorem dX8_areHeaps_8 : decode cX8_areHeaps 8 = .ok (.aload_n 0, 1) := dkAt dk15ascene_cX8_areHeaps_0_a 4 rfl
theorem dX8_areHeaps_9 : decode cX8_areHeaps 9 = .ok (.iload_n 2, 1) := dkAt dk15ascene_cX8_areHeaps_0_a 5 rfl
theorem dX8_areHeaps_10 : decode cX8_areHeaps 10 = .ok (.invokevirtual 69, 3) := dkAt dk15ascene_cX8_areHeaps_0_a 6 rfl
theorem dX8_areHeaps_13 : decode cX8_areHeaps 13 = .ok (.ifnull 7, 3) := dkAt dk15ascene_cX8_areHeaps_0_a 7 rfl
theorem dX8_areHeaps_16 : decode cX8_areHeaps 16 = .ok (.iconst 1, 1) := dkAt dk15ascene_cX8_areHeaps_0_a 8 rfl
theorem dX8_areHeaps_17 : decode cX8_areHeaps 17 = .ok (.goto 4, 3) := dkAt dk15ascene_cX8_areHeaps_0_a 9 rfl
theorem dX8_areHeaps_21 : decode cX8_areHeaps 21 = .ok (.ireturn, 1) := dkAt dk15ascene_cX8_areHeaps_0_a 10 rfl
theorem dX8_areHeaps_20 : decode cX8_areHeaps 20 = .ok (.iconst 0, 1) := dkAt dk15ascene_cX8_areHeaps_0_a 11 rfl
noncomputable def dk15ascene_cX8_isTaken_0 : List (Nat × Instr × Nat) := [(0, .iconst 0, 1), (1, .istore_n 2, 1), (2, .iload_n 2, 1), (3, .aload_n 0, 1), (4, .getfield 60, 3), (7, .if_icmp .ge 24, 3), (31, .iconst 0, 1), (32, .ireturn, 1), (10, .aload_n 0, 1), (11, .getfield 24, 3), (14, .iload_n 2, 1), (15, .aaload, 1), (16, .getfield 73, 3), (19, .iload_n 1, 1), (20, .if_icmp .ne 5, 3), (25, .iinc 2 1, 3), (28, .goto (-26), 3), (23, .iconst 1, 1), (24, .ireturn, 1)]
set_option maxRecDepth 100000 in
theorem dk15ascene_cX8_isTaken_0_a : dkA cX8_isTaken dk15ascene_cX8_isTaken_0 = true := by decide +kernel
theorem dX8_isTaken_0 : decode cX8_isTaken 0 = .ok (.iconst 0, 1) := dkAt dk15ascene_cX8_isTaken_0_a 0 rfl
theorem dX8_isTaken_1 : decode cX8_isTaken 1 = .ok (.istore_n 2, 1) := dkAt dk15ascene_cX8_isTaken_0_a 1 rfl
theorem dX8_isTaken_2 : decode cX8_isTaken 2 = .ok (.iload_n 2, 1) := dkAt dk15ascene_cX8_isTaken_0_a 2 rfl
theorem dX8_isTaken_3 : decode cX8_isTaken 3 = .ok (.aload_n 0, 1) := dkAt dk15ascene_cX8_isTaken_0_a 3 rfl
theorem dX8_isTaken_4 : decode cX8_isTaken 4 = .ok (.getfield 60, 3) := dkAt dk15ascene_cX8_isTaken_0_a 4 rfl
theorem dX8_isTaken_7 : decode cX8_isTaken 7 = .ok (.if_icmp .ge 24, 3) := dkAt dk15ascene_cX8_isTaken_0_a 5 rfl
theorem dX8_isTaken_31 : decode cX8_isTaken 31 = .ok (.iconst 0, 1) := dkAt dk15ascene_cX8_isTaken_0_a 6 rfl
theorem dX8_isTaken_32 : decode cX8_isTaken 32 = .ok (.ireturn, 1) := dkAt dk15ascene_cX8_isTaken_0_a 7 rfl
theorem dX8_isTaken_10 : decode cX8_isTaken 10 = .ok (.aload_n 0, 1) := dkAt dk15ascene_cX8_isTaken_0_a 8 rfl
theorem dX8_isTaken_11 : decode cX8_isTaken 11 = .ok (.getfield 24, 3) := dkAt dk15ascene_cX8_isTaken_0_a 9 rfl
theorem dX8_isTaken_14 : decode cX8_isTaken 14 = .ok (.iload_n 2, 1) := dkAt dk15ascene_cX8_isTaken_0_a 10 rfl
theorem dX8_isTaken_15 : decode cX8_isTaken 15 = .ok (.aaload, 1) := dkAt dk15ascene_cX8_isTaken_0_a 11 rfl
theorem dX8_isTaken_16 : decode cX8_isTaken 16 = .ok (.getfield 73, 3) := dkAt dk15ascene_cX8_isTaken_0_a 12 rfl
theorem dX8_isTaken_19 : decode cX8_isTaken 19 = .ok (.iload_n 1, 1) := dkAt dk15ascene_cX8_isTaken_0_a 13 rfl
theorem dX8_isTaken_20 : decode cX8_isTaken 20 = .ok (.if_icmp .ne 5, 3) := dkAt dk15ascene_cX8_isTaken_0_a 14 rfl
theorem dX8_isTaken_25 : decode cX8_isTaken 25 = .ok (.iinc 2 1, 3) := dkAt dk15ascene_cX8_isTaken_0_a 15 rfl
theorem dX8_isTaken_28 : decode cX8_isTaken 28 = .ok (.goto (-26), 3) := dkAt dk15ascene_cX8_isTaken_0_a 16 rfl
theorem dX8_isTaken_23 : decode cX8_isTaken 23 = .ok (.iconst 1, 1) := dkAt dk15ascene_cX8_isTaken_0_a 17 rfl
theorem dX8_isTaken_24 : decode cX8_isTaken 24 = .ok (.ireturn, 1) := dkAt dk15ascene_cX8_isTaken_0_a 18 rfl
noncomputable def dk15ascene_cX8_tellFacts_0 : List (Nat × Instr × Nat) := [(0, .aload_n 0, 1), (1, .getfield 34, 3), (4, .iconst 0, 1), (5, .iload_n 1, 1), (6, .iastore, 1), (7, .aload_n 0, 1), (8, .getfield 34, 3), (11, .iconst 1, 1), (12, .iload_n 2, 1), (13, .iastore, 1), (14, .aload_n 0, 1), (15, .getfield 34, 3), (18, .iconst 2, 1), (19, .iload_n 3, 1), (20, .invokestatic 102, 3), (23, .iastore, 1), (24, .aload_n 0, 1), (25, .getfield 34, 3), (28, .iconst 3, 1), (29, .iload_n 3, 1), (30, .invokestatic 106, 3), (33, .iastore, 1), (34, .aload_n 0, 1), (35, .getfield 34, 3), (38, .iconst 4, 1), (39, .aload_n 0, 1), (40, .getfield 54, 3), (43, .iastore, 1), (44, .aload_n 0, 1), (45, .getfield 34, 3), (48, .iconst 5, 1), (49, .iload 4, 2), (51, .iastore, 1), (52, .return_, 1)]
set_option maxRecDepth 100000 in
theorem dk15ascene_cX8_tellFacts_0_a : dkA cX8_tellFacts dk15ascene_cX8_tellFacts_0 = true := by decide +kernel
theorem dX8_tellFacts_0 : decode cX8_tellFacts 0 = .ok (.aload_n 0, 1) := dkAt dk15ascene_cX8_tellFacts_0_a 0 rfl
theorem dX8_tellFacts_1 : decode cX8_tellFacts 1 = .ok (.getfield 34, 3) := dkAt dk15ascene_cX8_tellFacts_0_a 1 rfl
theorem dX8_tellFacts_4 : decode cX8_tellFacts 4 = .ok (.iconst 0, 1) := dkAt dk15ascene_cX8_tellFacts_0_a 2 rfl
theorem dX8_tellFacts_5 : decode cX8_tellFacts 5 = .ok (.iload_n 1, 1) := dkAt dk15ascene_cX8_tellFacts_0_a 3 rfl
theorem dX8_tellFacts_6 : decode cX8_tellFacts 6 = .ok (.iastore, 1) := dkAt dk15ascene_cX8_tellFacts_0_a 4 rfl
theorem dX8_tellFacts_7 : decode cX8_tellFacts 7 = .ok (.aload_n 0, 1) := dkAt dk15ascene_cX8_tellFacts_0_a 5 rfl
theorem dX8_tellFacts_8 : decode cX8_tellFacts 8 = .ok (.getfield 34, 3) := dkAt dk15ascene_cX8_tellFacts_0_a 6 rfl
theorem dX8_tellFacts_11 : decode cX8_tellFacts 11 = .ok (.iconst 1, 1) := dkAt dk15ascene_cX8_tellFacts_0_a 7 rfl
theorem dX8_tellFacts_12 : decode cX8_tellFacts 12 = .ok (.iload_n 2, 1) := dkAt dk15ascene_cX8_tellFacts_0_a 8 rfl
theorem dX8_tellFacts_13 : decode cX8_tellFacts 13 = .ok (.iastore, 1) := dkAt dk15ascene_cX8_tellFacts_0_a 9 rfl
theorem dX8_tellFacts_14 : decode cX8_tellFacts 14 = .ok (.aload_n 0, 1) := dkAt dk15ascene_cX8_tellFacts_0_a 10 rfl
theorem dX8_tellFacts_15 : decode cX8_tellFacts 15 = .ok (.getfield 34, 3) := dkAt dk15ascene_cX8_tellFacts_0_a 11 rfl
theorem dX8_tellFacts_18 : decode cX8_tellFacts 18 = .ok (.iconst 2, 1) := dkAt dk15ascene_cX8_tellFacts_0_a 12 rfl
theorem dX8_tellFacts_19 : decode cX8_tellFacts 19 = .ok (.iload_n 3, 1) := dkAt dk15ascene_cX8_tellFacts_0_a 13 rfl
theorem dX8_tellFacts_20 : decode cX8_tellFacts 20 = .ok (.invokestatic 102, 3) := dkAt dk15ascene_cX8_tellFacts_0_a 14 rfl
theorem dX8_tellFacts_23 : decode cX8_tellFacts 23 = .ok (.iastore, 1) := dkAt dk15ascene_cX8_tellFacts_0_a 15 rfl
theorem dX8_tellFacts_24 : decode cX8_tellFacts 24 = .ok (.aload_n 0, 1) := dkAt dk15ascene_cX8_tellFacts_0_a 16 rfl
theorem dX8_tellFacts_25 : decode cX8_tellFacts 25 = .ok (.getfield 34, 3) := dkAt dk15ascene_cX8_tellFacts_0_a 17 rfl
theorem dX8_tellFacts_28 : decode cX8_tellFacts 28 = .ok (.iconst 3, 1) := dkAt dk15ascene_cX8_tellFacts_0_a 18 rfl
theorem dX8_tellFacts_29 : decode cX8_tellFacts 29 = .ok (.iload_n 3, 1) := dkAt dk15ascene_cX8_tellFacts_0_a 19 rfl
theorem dX8_tellFacts_30 : decode cX8_tellFacts 30 = .ok (.invokestatic 106, 3) := dkAt dk15ascene_cX8_tellFacts_0_a 20 rfl
theorem dX8_tellFacts_33 : decode cX8_tellFacts 33 = .ok (.iastore, 1) := dkAt dk15ascene_cX8_tellFacts_0_a 21 rfl
theorem dX8_tellFacts_34 : decode cX8_tellFacts 34 = .ok (.aload_n 0, 1) := dkAt dk15ascene_cX8_tellFacts_0_a 22 rfl
theorem dX8_tellFacts_35 : decode cX8_tellFacts 35 = .ok (.getfield 34, 3) := dkAt dk15ascene_cX8_tellFacts_0_a 23 rfl
theorem dX8_tellFacts_38 : decode cX8_tellFacts 38 = .ok (.iconst 4, 1) := dkAt dk15ascene_cX8_tellFacts_0_a 24 rfl
theorem dX8_tellFacts_39 : decode cX8_tellFacts 39 = .ok (.aload_n 0, 1) := dkAt dk15ascene_cX8_tellFacts_0_a 25 rfl
theorem dX8_tellFacts_40 : decode cX8_tellFacts 40 = .ok (.getfield 54, 3) := dkAt dk15ascene_cX8_tellFacts_0_a 26 rfl
theorem dX8_tellFacts_43 : decode cX8_tellFacts 43 = .ok (.iastore, 1) := dkAt dk15ascene_cX8_tellFacts_0_a 27 rfl
theorem dX8_tellFacts_44 : decode cX8_tellFacts 44 = .ok (.aload_n 0, 1) := dkAt dk15ascene_cX8_tellFacts_0_a 28 rfl
theorem dX8_tellFacts_45 : decode cX8_tellFacts 45 = .ok (.getfield 34, 3) := dkAt dk15ascene_cX8_tellFacts_0_a 29 rfl
theorem dX8_tellFacts_48 : decode cX8_tellFacts 48 = .ok (.iconst 5, 1) := dkAt dk15ascene_cX8_tellFacts_0_a 30 rfl
theorem dX8_tellFacts_49 : decode cX8_tellFacts 49 = .ok (.iload 4, 2) := dkAt dk15ascene_cX8_tellFacts_0_a 31 rfl
theorem dX8_tellFacts_51 : decode cX8_tellFacts 51 = .ok (.iastore, 1) := dkAt dk15ascene_cX8_tellFacts_0_a 32 rfl
theorem dX8_tellFacts_52 : decode cX8_tellFacts 52 = .ok (.return_, 1) := dkAt dk15ascene_cX8_tellFacts_0_a 33 rfl
noncomputable def dk15ascene_cX8_reachOf_0 : List (Nat × Instr × Nat) := [(0, .aload_n 0, 1), (1, .aload_n 1, 1), (2, .getfield 76, 3), (5, .aload_n 1, 1), (6, .getfield 79, 3), (9, .aload_n 1, 1), (10, .getfield 73, 3), (13, .iload_n 2, 1), (14, .invokevirtual 82, 3), (17, .aload_n 0, 1), (18, .getfield 18, 3), (21, .getfield 86, 3), (24, .aload_n 0, 1), (25, .getfield 18, 3), (28, .iconst 0, 1), (29, .aload_n 0, 1), (30, .getfield 34, 3), (33, .invokevirtual 89, 3), (36, .iadd, 1), (37, .aload_n 0, 1), (38, .getfield 18, 3), (41, .iconst 1, 1), (42, .aload_n 0, 1), (43, .getfield 34, 3), (46, .invokevirtual 89, 3), (49, .isub, 1), (50, .aload_n 0, 1), (51, .getfield 54, 3), (54, .isub, 1), (55, .istore_n 3, 1), (56, .aload_n 1, 1), (57, .iload_n 3, 1), (58, .iload_n 2, 1), (59, .invokevirtual 93, 3), (62, .ireturn, 1)]
set_option maxRecDepth 100000 in
theorem dk15ascene_cX8_reachOf_0_a : dkA cX8_reachOf dk15ascene_cX8_reachOf_0 = true := by decide +kernel
theorem dX8_reachOf_0 : decode cX8_reachOf 0 = .ok (.aload_n 0, 1) := dkAt dk15ascene_cX8_reachOf_0_a 0 rfl
theorem dX8_reachOf_1 : decode cX8_reachOf 1 = .ok (.aload_n 1, 1) := dkAt dk15ascene_cX8_reachOf_0_a 1 rfl
theorem dX8_reachOf_2 : decode cX8_reachOf 2 = .ok (.getfield 76, 3) := dkAt dk15ascene_cX8_reachOf_0_a 2 rfl
theorem dX8_reachOf_5 : decode cX8_reachOf 5 = .ok (.aload_n 1, 1) := dkAt dk15ascene_cX8_reachOf_0_a 3 rfl
theorem dX8_reachOf_6 : decode cX8_reachOf 6 = .ok (.getfield 79, 3) := dkAt dk15ascene_cX8_reachOf_0_a 4 rfl
theorem dX8_reachOf_9 : decode cX8_reachOf 9 = .ok (.aload_n 1, 1) := dkAt dk15ascene_cX8_reachOf_0_a 5 rfl
theorem dX8_reachOf_10 : decode cX8_reachOf 10 = .ok (.getfield 73, 3) := dkAt dk15ascene_cX8_reachOf_0_a 6 rfl
theorem dX8_reachOf_13 : decode cX8_reachOf 13 = .ok (.iload_n 2, 1) := dkAt dk15ascene_cX8_reachOf_0_a 7 rfl
theorem dX8_reachOf_14 : decode cX8_reachOf 14 = .ok (.invokevirtual 82, 3) := dkAt dk15ascene_cX8_reachOf_0_a 8 rfl
theorem dX8_reachOf_17 : decode cX8_reachOf 17 = .ok (.aload_n 0, 1) := dkAt dk15ascene_cX8_reachOf_0_a 9 rfl
theorem dX8_reachOf_18 : decode cX8_reachOf 18 = .ok (.getfield 18, 3) := dkAt dk15ascene_cX8_reachOf_0_a 10 rfl
theorem dX8_reachOf_21 : decode cX8_reachOf 21 = .ok (.getfield 86, 3) := dkAt dk15ascene_cX8_reachOf_0_a 11 rfl
theorem dX8_reachOf_24 : decode cX8_reachOf 24 = .ok (.aload_n 0, 1) := dkAt dk15ascene_cX8_reachOf_0_a 12 rfl
theorem dX8_reachOf_25 : decode cX8_reachOf 25 = .ok (.getfield 18, 3) := dkAt dk15ascene_cX8_reachOf_0_a 13 rfl
theorem dX8_reachOf_28 : decode cX8_reachOf 28 = .ok (.iconst 0, 1) := dkAt dk15ascene_cX8_reachOf_0_a 14 rfl
theorem dX8_reachOf_29 : decode cX8_reachOf 29 = .ok (.aload_n 0, 1) := dkAt dk15ascene_cX8_reachOf_0_a 15 rfl
theorem dX8_reachOf_30 : decode cX8_reachOf 30 = .ok (.getfield 34, 3) := dkAt dk15ascene_cX8_reachOf_0_a 16 rfl
theorem dX8_reachOf_33 : decode cX8_reachOf 33 = .ok (.invokevirtual 89, 3) := dkAt dk15ascene_cX8_reachOf_0_a 17 rfl
theorem dX8_reachOf_36 : decode cX8_reachOf 36 = .ok (.iadd, 1) := dkAt dk15ascene_cX8_reachOf_0_a 18 rfl
theorem dX8_reachOf_37 : decode cX8_reachOf 37 = .ok (.aload_n 0, 1) := dkAt dk15ascene_cX8_reachOf_0_a 19 rfl
theorem dX8_reachOf_38 : decode cX8_reachOf 38 = .ok (.getfield 18, 3) := dkAt dk15ascene_cX8_reachOf_0_a 20 rfl
theorem dX8_reachOf_41 : decode cX8_reachOf 41 = .ok (.iconst 1, 1) := dkAt dk15ascene_cX8_reachOf_0_a 21 rfl
theorem dX8_reachOf_42 : decode cX8_reachOf 42 = .ok (.aload_n 0, 1) := dkAt dk15ascene_cX8_reachOf_0_a 22 rfl
theorem dX8_reachOf_43 : decode cX8_reachOf 43 = .ok (.getfield 34, 3) := dkAt dk15ascene_cX8_reachOf_0_a 23 rfl
theorem dX8_reachOf_46 : decode cX8_reachOf 46 = .ok (.invokevirtual 89, 3) := dkAt dk15ascene_cX8_reachOf_0_a 24 rfl
theorem dX8_reachOf_49 : decode cX8_reachOf 49 = .ok (.isub, 1) := dkAt dk15ascene_cX8_reachOf_0_a 25 rfl
theorem dX8_reachOf_50 : decode cX8_reachOf 50 = .ok (.aload_n 0, 1) := dkAt dk15ascene_cX8_reachOf_0_a 26 rfl
theorem dX8_reachOf_51 : decode cX8_reachOf 51 = .ok (.getfield 54, 3) := dkAt dk15ascene_cX8_reachOf_0_a 27 rfl
theorem dX8_reachOf_54 : decode cX8_reachOf 54 = .ok (.isub, 1) := dkAt dk15ascene_cX8_reachOf_0_a 28 rfl
theorem dX8_reachOf_55 : decode cX8_reachOf 55 = .ok (.istore_n 3, 1) := dkAt dk15ascene_cX8_reachOf_0_a 29 rfl
theorem dX8_reachOf_56 : decode cX8_reachOf 56 = .ok (.aload_n 1, 1) := dkAt dk15ascene_cX8_reachOf_0_a 30 rfl
theorem dX8_reachOf_57 : decode cX8_reachOf 57 = .ok (.iload_n 3, 1) := dkAt dk15ascene_cX8_reachOf_0_a 31 rfl
theorem dX8_reachOf_58 : decode cX8_reachOf 58 = .ok (.iload_n 2, 1) := dkAt dk15ascene_cX8_reachOf_0_a 32 rfl
theorem dX8_reachOf_59 : decode cX8_reachOf 59 = .ok (.invokevirtual 93, 3) := dkAt dk15ascene_cX8_reachOf_0_a 33 rfl
theorem dX8_reachOf_62 : decode cX8_reachOf 62 = .ok (.ireturn, 1) := dkAt dk15ascene_cX8_reachOf_0_a 34 rfl
noncomputable def dk15ascene_cX8_driftOn_0 : List (Nat × Instr × Nat) := [(0, .aload_n 0, 1), (1, .bipush 99, 2), (3, .bipush 99, 2), (5, .iload_n 1, 1), (6, .aload_n 0, 1), (7, .getfield 57, 3), (10, .invokevirtual 82, 3), (13, .iconst 5, 1), (14, .aload_n 0, 1), (15, .getfield 18, 3), (18, .iconst 3, 1), (19, .aload_n 0, 1), (20, .getfield 34, 3), (23, .invokevirtual 89, 3), (26, .invokestatic 97, 3), (29, .ireturn, 1)]
set_option maxRecDepth 100000 in
theorem dk15ascene_cX8_driftOn_0_a : dkA cX8_driftOn dk15ascene_cX8_driftOn_0 = true := by decide +kernel
theorem dX8_driftOn_0 : decode cX8_driftOn 0 = .ok (.aload_n 0, 1) := dkAt dk15ascene_cX8_driftOn_0_a 0 rfl
theorem dX8_driftOn_1 : decode cX8_driftOn 1 = .ok (.bipush 99, 2) := dkAt dk15ascene_cX8_driftOn_0_a 1 rfl
theorem dX8_driftOn_3 : decode cX8_driftOn 3 = .ok (.bipush 99, 2) := dkAt dk15ascene_cX8_driftOn_0_a 2 rfl
theorem dX8_driftOn_5 : decode cX8_driftOn 5 = .ok (.iload_n 1, 1) := dkAt dk15ascene_cX8_driftOn_0_a 3 rfl
theorem dX8_driftOn_6 : decode cX8_driftOn 6 = .ok (.aload_n 0, 1) := dkAt dk15ascene_cX8_driftOn_0_a 4 rfl
theorem dX8_driftOn_7 : decode cX8_driftOn 7 = .ok (.getfield 57, 3) := dkAt dk15ascene_cX8_driftOn_0_a 5 rfl
theorem dX8_driftOn_10 : decode cX8_driftOn 10 = .ok (.invokevirtual 82, 3) := dkAt dk15ascene_cX8_driftOn_0_a 6 rfl
theorem dX8_driftOn_13 : decode cX8_driftOn 13 = .ok (.iconst 5, 1) := dkAt dk15ascene_cX8_driftOn_0_a 7 rfl
theorem dX8_driftOn_14 : decode cX8_driftOn 14 = .ok (.aload_n 0, 1) := dkAt dk15ascene_cX8_driftOn_0_a 8 rfl
theorem dX8_driftOn_15 : decode cX8_driftOn 15 = .ok (.getfield 18, 3) := dkAt dk15ascene_cX8_driftOn_0_a 9 rfl
theorem dX8_driftOn_18 : decode cX8_driftOn 18 = .ok (.iconst 3, 1) := dkAt dk15ascene_cX8_driftOn_0_a 10 rfl
theorem dX8_driftOn_19 : decode cX8_driftOn 19 = .ok (.aload_n 0, 1) := dkAt dk15ascene_cX8_driftOn_0_a 11 rfl
theorem dX8_driftOn_20 : decode cX8_driftOn 20 = .ok (.getfield 34, 3) := dkAt dk15ascene_cX8_driftOn_0_a 12 rfl
theorem dX8_driftOn_23 : decode cX8_driftOn 23 = .ok (.invokevirtual 89, 3) := dkAt dk15ascene_cX8_driftOn_0_a 13 rfl
theorem dX8_driftOn_26 : decode cX8_driftOn 26 = .ok (.invokestatic 97, 3) := dkAt dk15ascene_cX8_driftOn_0_a 14 rfl
theorem dX8_driftOn_29 : decode cX8_driftOn 29 = .ok (.ireturn, 1) := dkAt dk15ascene_cX8_driftOn_0_a 15 rfl
noncomputable def dk15ascene_cX8_cellsSeeing_0 : List (Nat × Instr × Nat) := [(0, .aload_n 0, 1), (1, .iload_n 1, 1), (2, .invokevirtual 69, 3), (5, .astore_n 2, 1), (6, .aload_n 2, 1), (7, .ifnonnull 5, 3), (12, .aload_n 0, 1), (13, .aload_n 2, 1), (14, .aload_n 0, 1), (15, .getfield 57, 3), (18, .invokevirtual 109, 3), (21, .istore_n 3, 1), (22, .lconst 0, 1), (23, .lstore 4, 2), (25, .iconst 0, 1), (26, .istore 6, 2), (28, .iload 6, 2), (30, .bipush 36, 2), (32, .if_icmp .ge 31, 3), (63, .lload 4, 2), (65, .lreturn, 1), (35, .iload 6, 2), (37, .aload_n 2, 1), (38, .getfield 73, 3), (41, .invokestatic 113, 3), (44, .iload_n 3, 1), (45, .if_icmp .gt 12, 3), (57, .iinc 6 1, 3), (60, .goto (-32), 3), (48, .lload 4, 2), (50, .lconst 1, 1), (51, .iload 6, 2), (53, .lshl, 1), (54, .lor, 1), (55, .lstore 4, 2)]
set_option maxRecDepth 100000 in
theorem dk15ascene_cX8_cellsSeeing_0_a : dkA cX8_cellsSeeing dk15ascene_cX8_cellsSeeing_0 = true := by decide +kernel
theorem dX8_cellsSeeing_0 : decode cX8_cellsSeeing 0 = .ok (.aload_n 0, 1) := dkAt dk15ascene_cX8_cellsSeeing_0_a 0 rfl
theorem dX8_cellsSeeing_1 : decode cX8_cellsSeeing 1 = .ok (.iload_n 1, 1) := dkAt dk15ascene_cX8_cellsSeeing_0_a 1 rfl
theorem dX8_cellsSeeing_2 : decode cX8_cellsSeeing 2 = .ok (.invokevirtual 69, 3) := dkAt dk15ascene_cX8_cellsSeeing_0_a 2 rfl
theorem dX8_cellsSeeing_5 : decode cX8_cellsSeeing 5 = .ok (.astore_n 2, 1) := dkAt dk15ascene_cX8_cellsSeeing_0_a 3 rfl
theorem dX8_cellsSeeing_6 : decode cX8_cellsSeeing 6 = .ok (.aload_n 2, 1) := dkAt dk15ascene_cX8_cellsSeeing_0_a 4 rfl
theorem dX8_cellsSeeing_7 : decode cX8_cellsSeeing 7 = .ok (.ifnonnull 5, 3) := dkAt dk15ascene_cX8_cellsSeeing_0_a 5 rfl
theorem dX8_cellsSeeing_12 : decode cX8_cellsSeeing 12 = .ok (.aload_n 0, 1) := dkAt dk15ascene_cX8_cellsSeeing_0_a 6 rfl
theorem dX8_cellsSeeing_13 : decode cX8_cellsSeeing 13 = .ok (.aload_n 2, 1) := dkAt dk15ascene_cX8_cellsSeeing_0_a 7 rfl
theorem dX8_cellsSeeing_14 : decode cX8_cellsSeeing 14 = .ok (.aload_n 0, 1) := dkAt dk15ascene_cX8_cellsSeeing_0_a 8 rfl
theorem dX8_cellsSeeing_15 : decode cX8_cellsSeeing 15 = .ok (.getfield 57, 3) := dkAt dk15ascene_cX8_cellsSeeing_0_a 9 rfl
theorem dX8_cellsSeeing_18 : decode cX8_cellsSeeing 18 = .ok (.invokevirtual 109, 3) := dkAt dk15ascene_cX8_cellsSeeing_0_a 10 rfl
theorem dX8_cellsSeeing_21 : decode cX8_cellsSeeing 21 = .ok (.istore_n 3, 1) := dkAt dk15ascene_cX8_cellsSeeing_0_a 11 rfl
theorem dX8_cellsSeeing_22 : decode cX8_cellsSeeing 22 = .ok (.lconst 0, 1) := dkAt dk15ascene_cX8_cellsSeeing_0_a 12 rfl
theorem dX8_cellsSeeing_23 : decode cX8_cellsSeeing 23 = .ok (.lstore 4, 2) := dkAt dk15ascene_cX8_cellsSeeing_0_a 13 rfl
theorem dX8_cellsSeeing_25 : decode cX8_cellsSeeing 25 = .ok (.iconst 0, 1) := dkAt dk15ascene_cX8_cellsSeeing_0_a 14 rfl
theorem dX8_cellsSeeing_26 : decode cX8_cellsSeeing 26 = .ok (.istore 6, 2) := dkAt dk15ascene_cX8_cellsSeeing_0_a 15 rfl
theorem dX8_cellsSeeing_28 : decode cX8_cellsSeeing 28 = .ok (.iload 6, 2) := dkAt dk15ascene_cX8_cellsSeeing_0_a 16 rfl
theorem dX8_cellsSeeing_30 : decode cX8_cellsSeeing 30 = .ok (.bipush 36, 2) := dkAt dk15ascene_cX8_cellsSeeing_0_a 17 rfl
theorem dX8_cellsSeeing_32 : decode cX8_cellsSeeing 32 = .ok (.if_icmp .ge 31, 3) := dkAt dk15ascene_cX8_cellsSeeing_0_a 18 rfl
theorem dX8_cellsSeeing_63 : decode cX8_cellsSeeing 63 = .ok (.lload 4, 2) := dkAt dk15ascene_cX8_cellsSeeing_0_a 19 rfl
theorem dX8_cellsSeeing_65 : decode cX8_cellsSeeing 65 = .ok (.lreturn, 1) := dkAt dk15ascene_cX8_cellsSeeing_0_a 20 rfl
theorem dX8_cellsSeeing_35 : decode cX8_cellsSeeing 35 = .ok (.iload 6, 2) := dkAt dk15ascene_cX8_cellsSeeing_0_a 21 rfl
theorem dX8_cellsSeeing_37 : decode cX8_cellsSeeing 37 = .ok (.aload_n 2, 1) := dkAt dk15ascene_cX8_cellsSeeing_0_a 22 rfl
theorem dX8_cellsSeeing_38 : decode cX8_cellsSeeing 38 = .ok (.getfield 73, 3) := dkAt dk15ascene_cX8_cellsSeeing_0_a 23 rfl
theorem dX8_cellsSeeing_41 : decode cX8_cellsSeeing 41 = .ok (.invokestatic 113, 3) := dkAt dk15ascene_cX8_cellsSeeing_0_a 24 rfl
theorem dX8_cellsSeeing_44 : decode cX8_cellsSeeing 44 = .ok (.iload_n 3, 1) := dkAt dk15ascene_cX8_cellsSeeing_0_a 25 rfl
theorem dX8_cellsSeeing_45 : decode cX8_cellsSeeing 45 = .ok (.if_icmp .gt 12, 3) := dkAt dk15ascene_cX8_cellsSeeing_0_a 26 rfl
theorem dX8_cellsSeeing_57 : decode cX8_cellsSeeing 57 = .ok (.iinc 6 1, 3) := dkAt dk15ascene_cX8_cellsSeeing_0_a 27 rfl
theorem dX8_cellsSeeing_60 : decode cX8_cellsSeeing 60 = .ok (.goto (-32), 3) := dkAt dk15ascene_cX8_cellsSeeing_0_a 28 rfl
theorem dX8_cellsSeeing_48 : decode cX8_cellsSeeing 48 = .ok (.lload 4, 2) := dkAt dk15ascene_cX8_cellsSeeing_0_a 29 rfl
theorem dX8_cellsSeeing_50 : decode cX8_cellsSeeing 50 = .ok (.lconst 1, 1) := dkAt dk15ascene_cX8_cellsSeeing_0_a 30 rfl
theorem dX8_cellsSeeing_51 : decode cX8_cellsSeeing 51 = .ok (.iload 6, 2) := dkAt dk15ascene_cX8_cellsSeeing_0_a 31 rfl
theorem dX8_cellsSeeing_53 : decode cX8_cellsSeeing 53 = .ok (.lshl, 1) := dkAt dk15ascene_cX8_cellsSeeing_0_a 32 rfl
theorem dX8_cellsSeeing_54 : decode cX8_cellsSeeing 54 = .ok (.lor, 1) := dkAt dk15ascene_cX8_cellsSeeing_0_a 33 rfl
theorem dX8_cellsSeeing_55 : decode cX8_cellsSeeing 55 = .ok (.lstore 4, 2) := dkAt dk15ascene_cX8_cellsSeeing_0_a 34 rfl
theorem lt_of {x : Int32} {n : Nat} (hn : n ≤ 1000) (h1 : ¬ x < 0) (h2 : ¬ nI n ≤ x) : ∃ j : Nat, j < n ∧ x = nI j := by
  obtain ⟨j, hj, e⟩ := nI_of h1
  subst e
  exact ⟨j, Nat.lt_of_not_le (fun q => h2 (nI_le q (by omega))), rfl⟩
theorem ge_no {x : Int32} {n : Nat} (hn : n ≤ 1000) (h : x < 0 ∨ nI n ≤ x) : ∀ j : Nat, j < n → x ≠ nI j := by
  intro j hj e
  subst e
  rcases h with h | h
  · exact absurd h (nI_pos (by omega))
  · exact absurd ((nI_leI (a := n) (b := j) (by omega) (by omega)).mp h) (by omega)

theorem kc_heapAt_0 : ∀ w ∈ wsX80, w ∈ wsX8_heapAt := fun w h => List.mem_cons_of_mem _ (gin_wsX80 w h)
theorem kc_heapAt_1 : (.fieldLink RX8 60 "MistHeaps$Scene" "heapCount" "I" : Cond) ∈ wsX8_heapAt := kc_of 172 rfl rfl rfl
theorem kc_heapAt_2 : (.fieldLink RX8 24 "MistHeaps$Scene" "heaps" "[LMistHeaps$Heap;" : Cond) ∈ wsX8_heapAt := kc_of 168 rfl rfl rfl
set_option maxHeartbeats 4000000 in
set_option maxRecDepth 100000 in
theorem c_heapAt (l : Launch) (dC : Nat → ClassId) (dI : Nat → Nat → Nat) (sc : Nat) (aTp : Nat) (aHl : Nat) (aHs : Nat) (aWk : Nat) (aBk : Nat) (aFc : Nat) (ts : Nat) (nh : Nat) (n : Nat) (wz : Nat) (bz : Nat) (mi : Int32) (sn : Int32) (x : Int32) (ed : Int64) (cHs : ClassId) (fHs : Nat → Option Nat) (ya : Nat → Nat) (zhs : ∀ k0, k0 < n → fHs k0 = some (ya k0)) (hn8 : n ≤ 8) : Met l yX8_heapAt wsX8_heapAt ({ frames := 0, cells := 0, slots := 0, locals := 0 } : Room) (va_Pc [.ref sc, .int x] (fun U => va_P (dC, dI) vwCl [(zo10ririliiriririr sc aTp (nI ts) aHl (nI nh) ed mi sn aHs (nI n) aWk (nI wz) aBk (nI bz) aFc), (zaR aHs cHs 8 fHs)] U.heap ∧ va_K (dC, dI) vwCl [(cHs, .object "MistHeaps$Heap")] U)) (va_Sq (fun r => (∃ jq : Nat, jq < n ∧ x = nI jq ∧ r = some (ya jq)) ∨ (r = none ∧ ∀ jq : Nat, jq < n → x ≠ nI jq))) 0 0 (fun _ => False) := by
  refine met_ofQ (cc := cX8_heapAt) (maxL := 2) (ret := (some (.object "MistHeaps$Heap"))) (by decide) rfl ?_
  intro p e s m args below meth c s₁ Q B hml hv hQ
  obtain ⟨rfl, hP, hK⟩ := hv
  have hx := B.exec
  have hb := B.bytes
  have hr := B.returns
  have hts := atoms_spec (ws := wsX8_heapAt) B.pre
  have hown : s.vm.findClass RX8 = some m.cls := findClass_of_methodNamed B.named
  have hlocks := B.notSynchronized
  obtain ⟨A, hAe⟩ : ∃ A : Nat → Prop, A = fun _ => False := ⟨_, rfl⟩
  rw [← hAe] at hQ
  have hS : va_S A s.heap s.heap [] := va_S.rf
  have hl := lv_entry [.ref sc, .int x] (n := 2) (Nat.le_of_ble_eq_true rfl)
  rw [lg_entry_eq]
  generalize (lg_sl [.ref sc, .int x] ++ List.replicate (2 - (lg_sl [.ref sc, .int x]).length) Slot.unset).toArray = ls at hl ⊢
  generalize hag : ([.ref sc, .int x] : List Value).toArray = args at hts hQ ⊢
  have hl : lv_has ls 2 [(0, .ref sc), (1, .int x)] := hl
  refine lv_iload_n hx hb dX8_heapAt_0 rfl (lv_at hl 1 rfl) ?_
  refine lv_if_lt (tgt := 21) hx hb dX8_heapAt_1 (by decide) (fun c_1 => ?_) (fun c_1 => ?_)
  · skip
    refine lv_null hx hb dX8_heapAt_21 ?_
    rw [hQ]
    exact W.aret (v := .null) hx hb hr (Or.inl ⟨_, rfl⟩) (Or.inl rfl) (fun tQ htQ hWQ => ⟨none, rfl, by first | exact Or.inl ⟨j0, hj0, rfl, rfl⟩ | exact Or.inr ⟨rfl, ge_no (by omega) (Or.inl (by assumption))⟩ | exact Or.inr ⟨rfl, ge_no (by omega) (Or.inr (by assumption))⟩, by rw [htQ]⟩) (fun q hq => absurd hq List.not_mem_nil) dX8_heapAt_22
  · skip
    refine lv_iload_n hx hb dX8_heapAt_4 rfl (lv_at hl 1 rfl) ?_
    refine lv_aload_n hx hb dX8_heapAt_5 rfl (lv_at hl 0 rfl) ?_
    refine va_get (D := (dC, dI)) (ci := 10) (v := .int (nI n)) (C := RX8) (T := TX8) (N := 14) hx hb hts kc_heapAt_0 hown hK hP 0 rfl rfl 8 (by decide) (hts (.fieldLink RX8 60 "MistHeaps$Scene" "heapCount" "I") kc_heapAt_1) (fun _ h9 => h9) rfl dX8_heapAt_6 ?_
    refine lv_icmp_ge (tgt := 21) hx hb dX8_heapAt_9 (by decide) (fun c_2 => ?_) (fun c_2 => ?_)
    · skip
      refine lv_null hx hb dX8_heapAt_21 ?_
      rw [hQ]
      exact W.aret (v := .null) hx hb hr (Or.inl ⟨_, rfl⟩) (Or.inl rfl) (fun tQ htQ hWQ => ⟨none, rfl, by first | exact Or.inl ⟨j0, hj0, rfl, rfl⟩ | exact Or.inr ⟨rfl, ge_no (by omega) (Or.inl (by assumption))⟩ | exact Or.inr ⟨rfl, ge_no (by omega) (Or.inr (by assumption))⟩, by rw [htQ]⟩) (fun q hq => absurd hq List.not_mem_nil) dX8_heapAt_22
    · skip
      obtain ⟨j0, hj0, rfl⟩ := lt_of (n := n) (by omega) (by assumption) c_2
      refine lv_aload_n hx hb dX8_heapAt_12 rfl (lv_at hl 0 rfl) ?_
      refine va_get (D := (dC, dI)) (ci := 10) (v := .ref aHs) (C := RX8) (T := TX8) (N := 14) hx hb hts kc_heapAt_0 hown hK hP 0 rfl rfl 7 (by decide) (hts (.fieldLink RX8 24 "MistHeaps$Scene" "heaps" "[LMistHeaps$Heap;") kc_heapAt_2) (fun _ h9 => h9) rfl dX8_heapAt_13 ?_
      refine lv_iload_n hx hb dX8_heapAt_16 rfl (lv_at hl 1 rfl) ?_
      refine va_aldq hx hb hK hP 1 0 rfl rfl (vp_in_nI (n := j0) (N := 8) (by omega) (by omega)) dX8_heapAt_17 ?_
      refine qq_as (v := .ref (ya j0)) (by rw [nI_clamp (by omega), zhs j0 (by omega)]; rfl) ?_
      refine lv_goto (tgt := 22) hx hb dX8_heapAt_18 (by decide) ?_
      rw [hQ]
      exact W.aret (v := .ref (ya j0)) hx hb hr (Or.inl ⟨_, rfl⟩) (Or.inr ⟨_, rfl⟩) (fun tQ htQ hWQ => ⟨some (ya j0), rfl, by first | exact Or.inl ⟨j0, hj0, rfl, rfl⟩ | exact Or.inr ⟨rfl, ge_no (by omega) (Or.inl (by assumption))⟩ | exact Or.inr ⟨rfl, ge_no (by omega) (Or.inr (by assumption))⟩, by rw [htQ]⟩) (fun q hq => absurd hq List.not_mem_nil) dX8_heapAt_22

set_option maxHeartbeats 4000000 in
set_option maxRecDepth 100000 in
theorem c_areHeaps (l : Launch) (dC : Nat → ClassId) (dI : Nat → Nat → Nat) (sc : Nat) (aTp : Nat) (aHl : Nat) (aHs : Nat) (aWk : Nat) (aBk : Nat) (aFc : Nat) (ts : Nat) (nh : Nat) (n : Nat) (wz : Nat) (bz : Nat) (mi : Int32) (sn : Int32) (x : Int32) (y : Int32) (ed : Int64) (cHs : ClassId) (fHs : Nat → Option Nat) (ya : Nat → Nat) (zhs : ∀ k0, k0 < n → fHs k0 = some (ya k0)) (hn8 : n ≤ 8) : Met l yX8_areHeaps wsX8_areHeaps ({ frames := 1, cells := 0, slots := 0, locals := 21 } : Room) (va_Pc [.ref sc, .int x, .int y] (fun U => va_P (dC, dI) vwCl [(zo10ririliiriririr sc aTp (nI ts) aHl (nI nh) ed mi sn aHs (nI n) aWk (nI wz) aBk (nI bz) aFc), (zaR aHs cHs 8 fHs)] U.heap ∧ va_K (dC, dI) vwCl [(cHs, .object "MistHeaps$Heap")] U)) (vp_Si (fun r => (r = 1 ∧ ∃ j1 j2 : Nat, j1 < n ∧ j2 < n ∧ x = nI j1 ∧ y = nI j2) ∨ (r = 0 ∧ ((∀ jq : Nat, jq < n → x ≠ nI jq) ∨ (∀ jq : Nat, jq < n → y ≠ nI jq))))) 0 0 (fun _ => False) := by
  refine met_ofQ (cc := cX8_areHeaps) (maxL := 3) (ret := (some .boolean)) (by decide) rfl ?_
  intro p e s m args below meth c s₁ Q B hml hv hQ
  obtain ⟨rfl, hP, hK⟩ := hv
  have hx := B.exec
  have hb := B.bytes
  have hr := B.returns
  have hts := atoms_spec (ws := wsX8_areHeaps) B.pre
  have hown : s.vm.findClass RX8 = some m.cls := findClass_of_methodNamed B.named
  have hlocks := B.notSynchronized
  obtain ⟨A, hAe⟩ : ∃ A : Nat → Prop, A = fun _ => False := ⟨_, rfl⟩
  rw [← hAe] at hQ
  have hS : va_S A s.heap s.heap [] := va_S.rf
  have hl := lv_entry [.ref sc, .int x, .int y] (n := 3) (Nat.le_of_ble_eq_true rfl)
  rw [lg_entry_eq]
  generalize (lg_sl [.ref sc, .int x, .int y] ++ List.replicate (3 - (lg_sl [.ref sc, .int x, .int y]).length) Slot.unset).toArray = ls at hl ⊢
  generalize hag : ([.ref sc, .int x, .int y] : List Value).toArray = args at hts hQ ⊢
  have hl : lv_has ls 3 [(0, .ref sc), (1, .int x), (2, .int y)] := hl
  refine lv_aload_n hx hb dX8_areHeaps_0 rfl (lv_at hl 0 rfl) ?_
  refine lv_iload_n hx hb dX8_areHeaps_1 rfl (lv_at hl 1 rfl) ?_
  have hPc := hP.sub (ws' := [(zo10ririliiriririr sc aTp (nI ts) aHl (nI nh) ed mi sn aHs (nI n) aWk (nI wz) aBk (nI bz) aFc), (zaR aHs cHs 8 fHs)]) [0, 1] rfl
  have hKc := hK.sub (tys' := [(cHs, .object "MistHeaps$Heap")]) [0] rfl
  refine va_csq (va_runV (As := [.int x]) (rest := []) ⟨hx, hb, hml, hown, hts⟩ (c_heapAt l dC dI sc aTp aHl aHs aWk aBk aFc ts nh n wz bz mi sn x ed cHs fHs ya (zhs) (hn8)) (cwV 1 hts gX8_areHeaps_X8_heapAt rfl rfl rfl hd_yX8_heapAt ⟨Nat.le_of_ble_eq_true rfl, Nat.le_of_ble_eq_true rfl⟩) ⟨fun a U g mk q => by obtain ⟨q0, qP, qK⟩ := q; exact ⟨q0, qP, va_K.moved (u := U) (U := U.calling g mk a) (Vm.Alike.refl U.vm) qK⟩, va_recv hK hP (ci := 10) (q := (RX8, TX8, 14)) (q0 := 0) rfl rfl, fun U hU hW => ⟨rfl, by rw [hU]; exact hPc, va_K.moved hW.alike hKc⟩⟩ rfl rfl hl.1 rfl (lv_room (Nat.le_of_ble_eq_true rfl)) dX8_areHeaps_2 ⟨Nat.le_of_ble_eq_true rfl, Nat.le_of_ble_eq_true rfl⟩).run (fun r_1 hw_2 => ?_)
  rcases hw_2 with ⟨j_3, hj_4, rfl, rfl⟩ | ⟨rfl, h_6⟩
  · skip
    refine qq_as (v := .ref (ya j_3)) rfl ?_
    refine lv_ifnull hx hb dX8_areHeaps_5 ?_
    refine lv_aload_n hx hb dX8_areHeaps_8 rfl (lv_at hl 0 rfl) ?_
    refine lv_iload_n hx hb dX8_areHeaps_9 rfl (lv_at hl 2 rfl) ?_
    have hPc := hP.sub (ws' := [(zo10ririliiriririr sc aTp (nI ts) aHl (nI nh) ed mi sn aHs (nI n) aWk (nI wz) aBk (nI bz) aFc), (zaR aHs cHs 8 fHs)]) [0, 1] rfl
    have hKc := hK.sub (tys' := [(cHs, .object "MistHeaps$Heap")]) [0] rfl
    refine va_csq (va_runV (As := [.int y]) (rest := []) ⟨hx, hb, hml, hown, hts⟩ (c_heapAt l dC dI sc aTp aHl aHs aWk aBk aFc ts nh n wz bz mi sn y ed cHs fHs ya (zhs) (hn8)) (cwV 1 hts gX8_areHeaps_X8_heapAt rfl rfl rfl hd_yX8_heapAt ⟨Nat.le_of_ble_eq_true rfl, Nat.le_of_ble_eq_true rfl⟩) ⟨fun a U g mk q => by obtain ⟨q0, qP, qK⟩ := q; exact ⟨q0, qP, va_K.moved (u := U) (U := U.calling g mk a) (Vm.Alike.refl U.vm) qK⟩, va_recv hK hP (ci := 10) (q := (RX8, TX8, 14)) (q0 := 0) rfl rfl, fun U hU hW => ⟨rfl, by rw [hU]; exact hPc, va_K.moved hW.alike hKc⟩⟩ rfl rfl hl.1 rfl (lv_room (Nat.le_of_ble_eq_true rfl)) dX8_areHeaps_10 ⟨Nat.le_of_ble_eq_true rfl, Nat.le_of_ble_eq_true rfl⟩).run (fun r_7 hw_8 => ?_)
    rcases hw_8 with ⟨j_9, hj_10, rfl, rfl⟩ | ⟨rfl, h_12⟩
    · skip
      refine qq_as (v := .ref (ya j_9)) rfl ?_
      refine lv_ifnull hx hb dX8_areHeaps_13 ?_
      refine lv_iconst (v := 1) hx hb dX8_areHeaps_16 (by decide) ?_
      refine lv_goto (tgt := 21) hx hb dX8_areHeaps_17 (by decide) ?_
      rw [hQ]
      exact W.zret (v := 1) hx hb hr rfl (fun tQ htQ hWQ => ⟨1, rfl, by first | exact Or.inr ⟨rfl, Or.inl (by assumption)⟩ | exact Or.inr ⟨rfl, Or.inr (by assumption)⟩ | exact Or.inl ⟨rfl, _, _, by assumption, by assumption, rfl, rfl⟩, by rw [htQ]⟩) (fun q hq => absurd hq List.not_mem_nil) dX8_areHeaps_21
    · skip
      refine qq_as (v := .null) rfl ?_
      refine lv_ifnullN (tgt := 20) hx hb dX8_areHeaps_13 (by decide) ?_
      refine lv_iconst (v := 0) hx hb dX8_areHeaps_20 (by decide) ?_
      rw [hQ]
      exact W.zret (v := 0) hx hb hr rfl (fun tQ htQ hWQ => ⟨0, rfl, by first | exact Or.inr ⟨rfl, Or.inl (by assumption)⟩ | exact Or.inr ⟨rfl, Or.inr (by assumption)⟩ | exact Or.inl ⟨rfl, _, _, by assumption, by assumption, rfl, rfl⟩, by rw [htQ]⟩) (fun q hq => absurd hq List.not_mem_nil) dX8_areHeaps_21
  · skip
    refine qq_as (v := .null) rfl ?_
    refine lv_ifnullN (tgt := 20) hx hb dX8_areHeaps_5 (by decide) ?_
    refine lv_iconst (v := 0) hx hb dX8_areHeaps_20 (by decide) ?_
    rw [hQ]
    exact W.zret (v := 0) hx hb hr rfl (fun tQ htQ hWQ => ⟨0, rfl, by first | exact Or.inr ⟨rfl, Or.inl (by assumption)⟩ | exact Or.inr ⟨rfl, Or.inr (by assumption)⟩ | exact Or.inl ⟨rfl, _, _, by assumption, by assumption, rfl, rfl⟩, by rw [htQ]⟩) (fun q hq => absurd hq List.not_mem_nil) dX8_areHeaps_21

theorem tk_step {n i : Nat} {f : Nat → Int32} {x : Int32} (h : ∀ j, j < i → ¬ f j = x) (q : ¬ f i = x) : ∀ j, j < i + 1 → ¬ f j = x := by
  intro j hj
  rcases Nat.lt_or_ge j i with z | z
  · exact h j z
  · rw [show j = i by omega]; exact q

theorem kc_isTaken_0 : ∀ w ∈ wsX80, w ∈ wsX8_isTaken := fun w h => List.mem_cons_of_mem _ (gin_wsX80 w h)
theorem kc_isTaken_1 : (.fieldLink RX8 60 "MistHeaps$Scene" "heapCount" "I" : Cond) ∈ wsX8_isTaken := kc_of 172 rfl rfl rfl
theorem kc_isTaken_2 : (.fieldLink RX8 24 "MistHeaps$Scene" "heaps" "[LMistHeaps$Heap;" : Cond) ∈ wsX8_isTaken := kc_of 168 rfl rfl rfl
theorem kc_isTaken_3 : (.fieldLink RX8 73 "MistHeaps$Heap" "cell" "I" : Cond) ∈ wsX8_isTaken := kc_of 250 rfl rfl rfl
theorem kc_isTaken_4 : ∀ C ∈ hpC, ∀ w ∈ u_ws C.1 C.2.1 C.2.2, w ∈ wsX8_isTaken := by decide +kernel
set_option maxHeartbeats 4000000 in
set_option maxRecDepth 100000 in
theorem c_isTaken (l : Launch) (dC : Nat → ClassId) (dI : Nat → Nat → Nat)  (sc : Nat) (aTp : Nat) (aHl : Nat) (aHs : Nat) (aWk : Nat) (aBk : Nat) (aFc : Nat) (ts : Nat) (nh : Nat) (n : Nat) (wz : Nat) (bz : Nat) (mi : Int32) (sn : Int32) (x : Int32) (ed : Int64) (cHs : ClassId) (yk : Nat → Int32) (yv : Nat → Int32) (yc : Nat → Int32) (fHs : Nat → Option Nat) (yi : Nat → Nat) (ya : Nat → Nat) (zhs : ∀ k0, k0 < n → fHs k0 = some (ya k0)) (hn8 : n ≤ 8) : Met l yX8_isTaken wsX8_isTaken ({ frames := 0, cells := 0, slots := 0, locals := 0 } : Room) (va_Pc [.ref sc, .int x] (fun U => va_P (dC, dI) vwCl [(zo10ririliiriririr sc aTp (nI ts) aHl (nI nh) ed mi sn aHs (nI n) aWk (nI wz) aBk (nI bz) aFc), (zaR aHs cHs 8 fHs)] U.heap ∧ va_K (dC, dI) vwCl [(cHs, .object "MistHeaps$Heap")] U ∧ Hs dC dI n yi ya yk yv yc (fun _ => False) U)) (vp_Si (fun r => (r = 1 ∧ ∃ jq : Nat, jq < n ∧ yc jq = x) ∨ (r = 0 ∧ ∀ jq : Nat, jq < n → ¬ yc jq = x))) 0 0 (fun _ => False) := by
  refine met_ofQ (cc := cX8_isTaken) (maxL := 3) (ret := (some .boolean)) (by decide) rfl ?_
  intro p e s m args below meth c s₁ Q B hml hv hQ
  obtain ⟨rfl, hP, hK, hH_⟩ := hv
  have hx := B.exec
  have hb := B.bytes
  have hr := B.returns
  have hts := atoms_spec (ws := wsX8_isTaken) B.pre
  have hown : s.vm.findClass RX8 = some m.cls := findClass_of_methodNamed B.named
  have hlocks := B.notSynchronized
  obtain ⟨A, hAe⟩ : ∃ A : Nat → Prop, A = fun _ => False := ⟨_, rfl⟩
  rw [← hAe] at hQ hH_
  have hS : va_S A s.heap s.heap [] := va_S.rf
  have hl := lv_entry [.ref sc, .int x] (n := 3) (Nat.le_of_ble_eq_true rfl)
  rw [lg_entry_eq]
  generalize (lg_sl [.ref sc, .int x] ++ List.replicate (3 - (lg_sl [.ref sc, .int x]).length) Slot.unset).toArray = ls at hl ⊢
  generalize hag : ([.ref sc, .int x] : List Value).toArray = args at hts hQ ⊢
  have hl : lv_has ls 3 [(0, .ref sc), (1, .int x)] := hl
  refine lv_iconst (v := 0) hx hb dX8_isTaken_0 (by decide) ?_
  refine lv_istore_n (lv' := [(2, .int 0), (0, .ref sc), (1, .int x)]) hx hb dX8_isTaken_1 rfl hl (by decide) rfl (fun ls hl => ?_)
  have L2 : ∀ (nF : Nat) (i : Nat), n - i < nF → (i ≤ n) → (∀ j, j < i → ¬ yc j = x) → ∀ (ls : Array Slot), lv_has ls 3 [(0, .ref sc), (1, .int x), (2, .int (nI i))] → W p l e ({ frames := 0, cells := 0, slots := 0, locals := 0 } : Room) s m args below meth c s.heap [] 0 0 Q (F0 m 2 ls []) := by
    intro nF
    induction nF with
    | zero => intro i hm; exact absurd hm (Nat.not_lt_zero _)
    | succ nF ih2 =>
      intro i hm hi hq9 ls hl
      refine lv_iload_n hx hb dX8_isTaken_2 rfl (lv_at hl 2 rfl) ?_
      refine lv_aload_n hx hb dX8_isTaken_3 rfl (lv_at hl 0 rfl) ?_
      refine va_get (D := (dC, dI)) (ci := 10) (v := .int (nI n)) (C := RX8) (T := TX8) (N := 14) hx hb hts kc_isTaken_0 hown hK hP 0 rfl rfl 8 (by decide) (hts (.fieldLink RX8 60 "MistHeaps$Scene" "heapCount" "I") kc_isTaken_1) (fun _ h9 => h9) rfl dX8_isTaken_4 ?_
      refine lv_icmp_ge (tgt := 31) hx hb dX8_isTaken_7 (by decide) (fun c_1 => ?_) (fun c_1 => ?_)
      · skip
        have c_1 : n ≤ i := (nI_leI (a := n) (b := i) (by omega) (by omega)).mp c_1
        refine lv_iconst (v := 0) hx hb dX8_isTaken_31 (by decide) ?_
        rw [hQ]
        exact W.zret (v := 0) hx hb hr rfl (fun tQ htQ hWQ => ⟨0, rfl, by first | exact Or.inl ⟨rfl, i, by omega, by assumption⟩ | exact Or.inr ⟨rfl, fun j hj => hq9 j (by omega)⟩, by rw [htQ]⟩) (fun q hq => absurd hq List.not_mem_nil) dX8_isTaken_32
      · skip
        have c_1 : ¬ n ≤ i := fun q => c_1 ((nI_leI (a := n) (b := i) (by omega) (by omega)).mpr q)
        refine lv_aload_n hx hb dX8_isTaken_10 rfl (lv_at hl 0 rfl) ?_
        refine va_get (D := (dC, dI)) (ci := 10) (v := .ref aHs) (C := RX8) (T := TX8) (N := 14) hx hb hts kc_isTaken_0 hown hK hP 0 rfl rfl 7 (by decide) (hts (.fieldLink RX8 24 "MistHeaps$Scene" "heaps" "[LMistHeaps$Heap;") kc_isTaken_2) (fun _ h9 => h9) rfl dX8_isTaken_11 ?_
        refine lv_iload_n hx hb dX8_isTaken_14 rfl (lv_at hl 2 rfl) ?_
        refine va_aldq hx hb hK hP 1 0 rfl rfl (vp_in_nI (n := i) (N := 8) (by omega) (by omega)) dX8_isTaken_15 ?_
        refine qq_as (v := .ref (ya i)) (by rw [nI_clamp (by omega), zhs i (by omega)]; rfl) ?_
        refine va_hget3 (v := .int (yc i)) hx hb hts kc_isTaken_4 hown (hH_ i (by omega)).1 (hH_ i (by omega)).2 hS (hts (.fieldLink RX8 73 "MistHeaps$Heap" "cell" "I") kc_isTaken_3) dX8_isTaken_16 rfl ?_
        refine lv_iload_n hx hb dX8_isTaken_19 rfl (lv_at hl 1 rfl) ?_
        refine lv_icmp_ne (tgt := 25) hx hb dX8_isTaken_20 (by decide) (fun c_2 => ?_) (fun c_2 => ?_)
        · skip
          refine lv_iinc (v := nI (i + 1)) (lv' := [(2, .int (nI (i + 1))), (0, .ref sc), (1, .int x)]) hx hb dX8_isTaken_25 hl (k := 2) rfl (nI_add i 1) (by decide) rfl (fun ls hl => ?_)
          refine lv_goto (tgt := 2) hx hb dX8_isTaken_28 (by decide) ?_
          exact ih2 (i + 1) (by omega) (by omega) (tk_step (n := n) hq9 c_2) ls (lv_sub hl [1, 2, 0] rfl)
        · skip
          refine lv_iconst (v := 1) hx hb dX8_isTaken_23 (by decide) ?_
          rw [hQ]
          exact W.zret (v := 1) hx hb hr rfl (fun tQ htQ hWQ => ⟨1, rfl, by first | exact Or.inl ⟨rfl, i, by omega, by assumption⟩ | exact Or.inr ⟨rfl, fun j hj => hq9 j (by omega)⟩, by rw [htQ]⟩) (fun q hq => absurd hq List.not_mem_nil) dX8_isTaken_24
  exact L2 _ (0) (Nat.lt_succ_self _) (by omega) (fun j hj => absurd hj (Nat.not_lt_zero j)) ls (lv_sub hl [1, 2, 0] rfl)

theorem kc_tellFacts_0 : ∀ w ∈ wsX80, w ∈ wsX8_tellFacts := fun w h => List.mem_cons_of_mem _ (gin_wsX80 w h)
theorem kc_tellFacts_1 : (.fieldLink RX8 34 "MistHeaps$Scene" "facts" "[I" : Cond) ∈ wsX8_tellFacts := kc_of 184 rfl rfl rfl
theorem kc_tellFacts_2 : (.initialized RX11 : Cond) ∈ wsX8_tellFacts := kc_of 63 rfl rfl rfl
theorem kc_tellFacts_3 : (.static yX11_rowOf : Cond) ∈ wsX8_tellFacts := kc_of 642 rfl rfl rfl
theorem kc_tellFacts_4 : (.static yX11_columnOf : Cond) ∈ wsX8_tellFacts := kc_of 645 rfl rfl rfl
theorem kc_tellFacts_5 : (.fieldLink RX8 54 "MistHeaps$Scene" "mist" "I" : Cond) ∈ wsX8_tellFacts := kc_of 163 rfl rfl rfl
set_option maxHeartbeats 4000000 in
set_option maxRecDepth 100000 in
theorem c_tellFacts (l : Launch) (dC : Nat → ClassId) (dI : Nat → Nat → Nat) (gd : Nat → Nat) (sc : Nat) (aTp : Nat) (aHl : Nat) (aHs : Nat) (aWk : Nat) (aBk : Nat) (aFc : Nat) (ts : Nat) (nh : Nat) (n : Nat) (wz : Nat) (bz : Nat) (mi : Int32) (sn : Int32) (sn0 : Int32) (x : Int32) (y : Int32) (z : Int32) (ed : Int64) (cFc : ClassId) (fFc : Nat → Int32) (sz : Nat) : Met l yX8_tellFacts wsX8_tellFacts ({ frames := 1, cells := 0, slots := 0, locals := 20 } : Room) (va_Pc [.ref sc, .int x, .int y, .int z, .int sn0] (fun U => U.heap.size = sz ∧ va_P (dC, dI) vwCl [(zo10ririliiriririr sc aTp (nI ts) aHl (nI nh) ed mi sn aHs (nI n) aWk (nI wz) aBk (nI bz) aFc), (zaI aFc cFc 6 fFc)] U.heap ∧ va_K (dC, dI) vwCl [(cFc, .int)] U ∧ va_D (fun _ => True) [(zo10ririliiriririr sc aTp (nI ts) aHl (nI nh) ed mi sn aHs (nI n) aWk (nI wz) aBk (nI bz) aFc), (zaI aFc cFc 6 fFc)] ∧ Gl gd (va_A [(zo10ririliiriririr sc aTp (nI ts) aHl (nI nh) ed mi sn aHs (nI n) aWk (nI wz) aBk (nI bz) aFc), (zaI aFc cFc 6 fFc)] sz) U)) (va_Qv (fun (u : Nat → Int32) => match u with | fFc9 => ∀ k0, k0 < 6 → fFc9 k0 = fct x y z mi sn0 k0) (fun (u : Nat → Int32) (t : State) => match u with | fFc9 => va_P (dC, dI) vwCl [(zo10ririliiriririr sc aTp (nI ts) aHl (nI nh) ed mi sn aHs (nI n) aWk (nI wz) aBk (nI bz) aFc), (zaI aFc cFc 6 fFc9)] t.heap ∧ va_K (dC, dI) vwCl [(cFc, .int)] t ∧ va_D (va_A [(zo10ririliiriririr sc aTp (nI ts) aHl (nI nh) ed mi sn aHs (nI n) aWk (nI wz) aBk (nI bz) aFc), (zaI aFc cFc 6 fFc)] sz) [(zo10ririliiriririr sc aTp (nI ts) aHl (nI nh) ed mi sn aHs (nI n) aWk (nI wz) aBk (nI bz) aFc), (zaI aFc cFc 6 fFc9)]) (va_A [(zo10ririliiriririr sc aTp (nI ts) aHl (nI nh) ed mi sn aHs (nI n) aWk (nI wz) aBk (nI bz) aFc), (zaI aFc cFc 6 fFc)] sz)) 0 0 (va_A [(zo10ririliiriririr sc aTp (nI ts) aHl (nI nh) ed mi sn aHs (nI n) aWk (nI wz) aBk (nI bz) aFc), (zaI aFc cFc 6 fFc)] sz) := by
  refine met_ofQ (cc := cX8_tellFacts) (maxL := 5) (ret := none) (by decide) rfl ?_
  intro p e s m args below meth c s₁ Q B hml hv hQ
  obtain ⟨rfl, hsz, hP, hK, hD0, hG⟩ := hv
  have hx := B.exec
  have hb := B.bytes
  have hr := B.returns
  have hts := atoms_spec (ws := wsX8_tellFacts) B.pre
  have hown : s.vm.findClass RX8 = some m.cls := findClass_of_methodNamed B.named
  have hlocks := B.notSynchronized
  subst hsz
  have hD := hD0.self (sz := s.heap.size)
  generalize hAe : va_A [(zo10ririliiriririr sc aTp (nI ts) aHl (nI nh) ed mi sn aHs (nI n) aWk (nI wz) aBk (nI bz) aFc), (zaI aFc cFc 6 fFc)] s.heap.size = A at hD hQ hG ⊢
  have hA : ∀ q : Nat, s.heap.size ≤ q → A q := fun q h => by rw [← hAe]; exact Or.inr h
  have hS : va_S A s.heap s.heap [] := va_S.rf
  have hl := lv_entry [.ref sc, .int x, .int y, .int z, .int sn0] (n := 5) (Nat.le_of_ble_eq_true rfl)
  rw [lg_entry_eq]
  generalize (lg_sl [.ref sc, .int x, .int y, .int z, .int sn0] ++ List.replicate (5 - (lg_sl [.ref sc, .int x, .int y, .int z, .int sn0]).length) Slot.unset).toArray = ls at hl ⊢
  generalize hag : ([.ref sc, .int x, .int y, .int z, .int sn0] : List Value).toArray = args at hts hQ ⊢
  have hl : lv_has ls 5 [(0, .ref sc), (1, .int x), (2, .int y), (3, .int z), (4, .int sn0)] := hl
  obtain ⟨H, hH⟩ : ∃ H : Heap, H = s.heap := ⟨_, rfl⟩
  rw [← hH] at hP
  rw [← hH]
  have hS : va_S A s.heap H [] := by rw [hH]; exact hS
  obtain ⟨locs, hlo⟩ : ∃ L : List Loc, L = [] := ⟨_, rfl⟩
  rw [← hlo] at hS
  rw [← hlo]
  clear hH hlo
  refine lv_aload_n hx hb dX8_tellFacts_0 rfl (lv_at hl 0 rfl) ?_
  refine va_get (D := (dC, dI)) (ci := 10) (v := .ref aFc) (C := RX8) (T := TX8) (N := 14) hx hb hts kc_tellFacts_0 hown hK hP 0 rfl rfl 13 (by decide) (hts (.fieldLink RX8 34 "MistHeaps$Scene" "facts" "[I") kc_tellFacts_1) (fun _ h9 => h9) rfl dX8_tellFacts_1 ?_
  refine lv_iconst (v := 0) hx hb dX8_tellFacts_4 (by decide) ?_
  refine lv_iload_n hx hb dX8_tellFacts_5 rfl (lv_at hl 1 rfl) ?_
  refine va_iast hx hb hK hP hD hS 1 0 rfl rfl (vp_in_nI (n := 0) (N := 6) (by omega) (by omega)) dX8_tellFacts_6 (fun H locs hP hD hS => ?_)
  have hP : va_P (dC, dI) vwCl [(zo10ririliiriririr sc aTp (nI ts) aHl (nI nh) ed mi sn aHs (nI n) aWk (nI wz) aBk (nI bz) aFc), (zaI aFc cFc 6 (upd fFc 0 x))] H := hP
  have hD : va_D A [(zo10ririliiriririr sc aTp (nI ts) aHl (nI nh) ed mi sn aHs (nI n) aWk (nI wz) aBk (nI bz) aFc), (zaI aFc cFc 6 (upd fFc 0 x))] := hD
  refine lv_aload_n hx hb dX8_tellFacts_7 rfl (lv_at hl 0 rfl) ?_
  refine va_get (D := (dC, dI)) (ci := 10) (v := .ref aFc) (C := RX8) (T := TX8) (N := 14) hx hb hts kc_tellFacts_0 hown hK hP 0 rfl rfl 13 (by decide) (hts (.fieldLink RX8 34 "MistHeaps$Scene" "facts" "[I") kc_tellFacts_1) (fun _ h9 => h9) rfl dX8_tellFacts_8 ?_
  refine lv_iconst (v := 1) hx hb dX8_tellFacts_11 (by decide) ?_
  refine lv_iload_n hx hb dX8_tellFacts_12 rfl (lv_at hl 2 rfl) ?_
  refine va_iast hx hb hK hP hD hS 1 0 rfl rfl (vp_in_nI (n := 1) (N := 6) (by omega) (by omega)) dX8_tellFacts_13 (fun H locs hP hD hS => ?_)
  have hP : va_P (dC, dI) vwCl [(zo10ririliiriririr sc aTp (nI ts) aHl (nI nh) ed mi sn aHs (nI n) aWk (nI wz) aBk (nI bz) aFc), (zaI aFc cFc 6 (upd (upd fFc 0 x) 1 y))] H := hP
  have hD : va_D A [(zo10ririliiriririr sc aTp (nI ts) aHl (nI nh) ed mi sn aHs (nI n) aWk (nI wz) aBk (nI bz) aFc), (zaI aFc cFc 6 (upd (upd fFc 0 x) 1 y))] := hD
  refine lv_aload_n hx hb dX8_tellFacts_14 rfl (lv_at hl 0 rfl) ?_
  refine va_get (D := (dC, dI)) (ci := 10) (v := .ref aFc) (C := RX8) (T := TX8) (N := 14) hx hb hts kc_tellFacts_0 hown hK hP 0 rfl rfl 13 (by decide) (hts (.fieldLink RX8 34 "MistHeaps$Scene" "facts" "[I") kc_tellFacts_1) (fun _ h9 => h9) rfl dX8_tellFacts_15 ?_
  refine lv_iconst (v := 2) hx hb dX8_tellFacts_18 (by decide) ?_
  refine lv_iload_n hx hb dX8_tellFacts_19 rfl (lv_at hl 3 rfl) ?_
  refine vp_callSi (va_runSN (As := [.int z]) (rest := [.int 2, .ref aFc]) ⟨hx, hb, hml, hown, hts⟩ (c_rowOf l dC dI z) ⟨va_cnB 1 hts ggX8_tellFacts_X11_rowOf rfl rfl rfl (hG.1 (.methodLinkNest RX8 102 yX11_rowOf "MistHeaps") (by decide +kernel)) (hts (.initialized RX11) kc_tellFacts_2) (by decide +kernel) ⟨Nat.le_of_ble_eq_true rfl, Nat.le_of_ble_eq_true rfl⟩, (hts (.static yX11_rowOf) kc_tellFacts_3), trivial⟩ ⟨fun a U g mk q => ⟨q.1, trivial⟩, fun U hU hW => ⟨rfl, trivial⟩⟩ rfl rfl hl.1 rfl (lv_room (Nat.le_of_ble_eq_true rfl)) dX8_tellFacts_20 ⟨Nat.le_of_ble_eq_true rfl, Nat.le_of_ble_eq_true rfl⟩).run (fun r_1 hw_2 => ?_)
  obtain rfl := hw_2
  refine va_iast hx hb hK hP hD hS 1 0 rfl rfl (vp_in_nI (n := 2) (N := 6) (by omega) (by omega)) dX8_tellFacts_23 (fun H locs hP hD hS => ?_)
  have hP : va_P (dC, dI) vwCl [(zo10ririliiriririr sc aTp (nI ts) aHl (nI nh) ed mi sn aHs (nI n) aWk (nI wz) aBk (nI bz) aFc), (zaI aFc cFc 6 (upd (upd (upd fFc 0 x) 1 y) 2 (z / 6)))] H := hP
  have hD : va_D A [(zo10ririliiriririr sc aTp (nI ts) aHl (nI nh) ed mi sn aHs (nI n) aWk (nI wz) aBk (nI bz) aFc), (zaI aFc cFc 6 (upd (upd (upd fFc 0 x) 1 y) 2 (z / 6)))] := hD
  refine lv_aload_n hx hb dX8_tellFacts_24 rfl (lv_at hl 0 rfl) ?_
  refine va_get (D := (dC, dI)) (ci := 10) (v := .ref aFc) (C := RX8) (T := TX8) (N := 14) hx hb hts kc_tellFacts_0 hown hK hP 0 rfl rfl 13 (by decide) (hts (.fieldLink RX8 34 "MistHeaps$Scene" "facts" "[I") kc_tellFacts_1) (fun _ h9 => h9) rfl dX8_tellFacts_25 ?_
  refine lv_iconst (v := 3) hx hb dX8_tellFacts_28 (by decide) ?_
  refine lv_iload_n hx hb dX8_tellFacts_29 rfl (lv_at hl 3 rfl) ?_
  refine vp_callSi (va_runSN (As := [.int z]) (rest := [.int 3, .ref aFc]) ⟨hx, hb, hml, hown, hts⟩ (c_columnOf l dC dI z) ⟨va_cnB 1 hts ggX8_tellFacts_X11_columnOf rfl rfl rfl (hG.1 (.methodLinkNest RX8 106 yX11_columnOf "MistHeaps") (by decide +kernel)) (hts (.initialized RX11) kc_tellFacts_2) (by decide +kernel) ⟨Nat.le_of_ble_eq_true rfl, Nat.le_of_ble_eq_true rfl⟩, (hts (.static yX11_columnOf) kc_tellFacts_4), trivial⟩ ⟨fun a U g mk q => ⟨q.1, trivial⟩, fun U hU hW => ⟨rfl, trivial⟩⟩ rfl rfl hl.1 rfl (lv_room (Nat.le_of_ble_eq_true rfl)) dX8_tellFacts_30 ⟨Nat.le_of_ble_eq_true rfl, Nat.le_of_ble_eq_true rfl⟩).run (fun r_3 hw_4 => ?_)
  obtain rfl := hw_4
  refine va_iast hx hb hK hP hD hS 1 0 rfl rfl (vp_in_nI (n := 3) (N := 6) (by omega) (by omega)) dX8_tellFacts_33 (fun H locs hP hD hS => ?_)
  have hP : va_P (dC, dI) vwCl [(zo10ririliiriririr sc aTp (nI ts) aHl (nI nh) ed mi sn aHs (nI n) aWk (nI wz) aBk (nI bz) aFc), (zaI aFc cFc 6 (upd (upd (upd (upd fFc 0 x) 1 y) 2 (z / 6)) 3 (z - z / 6 * 6)))] H := hP
  have hD : va_D A [(zo10ririliiriririr sc aTp (nI ts) aHl (nI nh) ed mi sn aHs (nI n) aWk (nI wz) aBk (nI bz) aFc), (zaI aFc cFc 6 (upd (upd (upd (upd fFc 0 x) 1 y) 2 (z / 6)) 3 (z - z / 6 * 6)))] := hD
  refine lv_aload_n hx hb dX8_tellFacts_34 rfl (lv_at hl 0 rfl) ?_
  refine va_get (D := (dC, dI)) (ci := 10) (v := .ref aFc) (C := RX8) (T := TX8) (N := 14) hx hb hts kc_tellFacts_0 hown hK hP 0 rfl rfl 13 (by decide) (hts (.fieldLink RX8 34 "MistHeaps$Scene" "facts" "[I") kc_tellFacts_1) (fun _ h9 => h9) rfl dX8_tellFacts_35 ?_
  refine lv_iconst (v := 4) hx hb dX8_tellFacts_38 (by decide) ?_
  refine lv_aload_n hx hb dX8_tellFacts_39 rfl (lv_at hl 0 rfl) ?_
  refine va_get (D := (dC, dI)) (ci := 10) (v := .int mi) (C := RX8) (T := TX8) (N := 14) hx hb hts kc_tellFacts_0 hown hK hP 0 rfl rfl 5 (by decide) (hts (.fieldLink RX8 54 "MistHeaps$Scene" "mist" "I") kc_tellFacts_5) (fun _ h9 => h9) rfl dX8_tellFacts_40 ?_
  refine va_iast hx hb hK hP hD hS 1 0 rfl rfl (vp_in_nI (n := 4) (N := 6) (by omega) (by omega)) dX8_tellFacts_43 (fun H locs hP hD hS => ?_)
  have hP : va_P (dC, dI) vwCl [(zo10ririliiriririr sc aTp (nI ts) aHl (nI nh) ed mi sn aHs (nI n) aWk (nI wz) aBk (nI bz) aFc), (zaI aFc cFc 6 (upd (upd (upd (upd (upd fFc 0 x) 1 y) 2 (z / 6)) 3 (z - z / 6 * 6)) 4 mi))] H := hP
  have hD : va_D A [(zo10ririliiriririr sc aTp (nI ts) aHl (nI nh) ed mi sn aHs (nI n) aWk (nI wz) aBk (nI bz) aFc), (zaI aFc cFc 6 (upd (upd (upd (upd (upd fFc 0 x) 1 y) 2 (z / 6)) 3 (z - z / 6 * 6)) 4 mi))] := hD
  refine lv_aload_n hx hb dX8_tellFacts_44 rfl (lv_at hl 0 rfl) ?_
  refine va_get (D := (dC, dI)) (ci := 10) (v := .ref aFc) (C := RX8) (T := TX8) (N := 14) hx hb hts kc_tellFacts_0 hown hK hP 0 rfl rfl 13 (by decide) (hts (.fieldLink RX8 34 "MistHeaps$Scene" "facts" "[I") kc_tellFacts_1) (fun _ h9 => h9) rfl dX8_tellFacts_45 ?_
  refine lv_iconst (v := 5) hx hb dX8_tellFacts_48 (by decide) ?_
  refine lv_iload hx hb dX8_tellFacts_49 (lv_at hl 4 rfl) ?_
  refine va_iast hx hb hK hP hD hS 1 0 rfl rfl (vp_in_nI (n := 5) (N := 6) (by omega) (by omega)) dX8_tellFacts_51 (fun H locs hP hD hS => ?_)
  have hP : va_P (dC, dI) vwCl [(zo10ririliiriririr sc aTp (nI ts) aHl (nI nh) ed mi sn aHs (nI n) aWk (nI wz) aBk (nI bz) aFc), (zaI aFc cFc 6 (upd (upd (upd (upd (upd (upd fFc 0 x) 1 y) 2 (z / 6)) 3 (z - z / 6 * 6)) 4 mi) 5 sn0))] H := hP
  have hD : va_D A [(zo10ririliiriririr sc aTp (nI ts) aHl (nI nh) ed mi sn aHs (nI n) aWk (nI wz) aBk (nI bz) aFc), (zaI aFc cFc 6 (upd (upd (upd (upd (upd (upd fFc 0 x) 1 y) 2 (z / 6)) 3 (z - z / 6 * 6)) 4 mi) 5 sn0))] := hD
  rw [hQ]
  have hP9 := hP.sub (ws' := [(zo10ririliiriririr sc aTp (nI ts) aHl (nI nh) ed mi sn aHs (nI n) aWk (nI wz) aBk (nI bz) aFc), (zaI aFc cFc 6 (upd (upd (upd (upd (upd (upd fFc 0 x) 1 y) 2 (z / 6)) 3 (z - z / 6 * 6)) 4 mi) 5 sn0))]) [0, 1] rfl
  have hD9 := hD.sub (ws' := [(zo10ririliiriririr sc aTp (nI ts) aHl (nI nh) ed mi sn aHs (nI n) aWk (nI wz) aBk (nI bz) aFc), (zaI aFc cFc 6 (upd (upd (upd (upd (upd (upd fFc 0 x) 1 y) 2 (z / 6)) 3 (z - z / 6 * 6)) 4 mi) 5 sn0))]) [0, 1] (by decide) rfl
  have hK9 := hK.sub (tys' := [(cFc, .int)]) [0] rfl
  exact W.vret hx hb hr (fun tQ htQ hWQ => ⟨⟨(upd (upd (upd (upd (upd (upd fFc 0 x) 1 y) 2 (z / 6)) 3 (z - z / 6 * 6)) 4 mi) 5 sn0), rfl, fct_of, by rw [htQ]; exact hP9, va_K.moved hWQ.alike hK9, hD9⟩, hS.F htQ⟩) hS.2.2 dX8_tellFacts_52

theorem kc_xReach_0 : (.fieldLink RX8 76 "MistHeaps$Heap" "number" "I" : Cond) ∈ wsX8_reachOf := kc_of 235 rfl rfl rfl
theorem kc_xReach_2 : (.fieldLink RX8 79 "MistHeaps$Heap" "kind" "I" : Cond) ∈ wsX8_reachOf := kc_of 229 rfl rfl rfl
theorem kc_xReach_3 : (.fieldLink RX8 73 "MistHeaps$Heap" "cell" "I" : Cond) ∈ wsX8_reachOf := kc_of 250 rfl rfl rfl
theorem kc_xReach_4 : ∀ w ∈ wsX80, w ∈ wsX8_reachOf := fun w h => List.mem_cons_of_mem _ (gin_wsX80 w h)
theorem kc_xReach_5 : (.fieldLink RX8 18 "MistHeaps$Scene" "hill" "LMistHeaps$Hill;" : Cond) ∈ wsX8_reachOf := kc_of 156 rfl rfl rfl
theorem kc_xReach_6 : (.fieldLink RX8 86 "MistHeaps$Hill" "sight" "I" : Cond) ∈ wsX8_reachOf := kc_of 114 rfl rfl rfl
theorem kc_xReach_7 : ∀ w ∈ wsX50, w ∈ wsX8_reachOf := fun w h => List.mem_cons_of_mem _ (gin_wsX50 w h)
theorem kc_xReach_8 : (.fieldLink RX8 34 "MistHeaps$Scene" "facts" "[I" : Cond) ∈ wsX8_reachOf := kc_of 184 rfl rfl rfl
theorem kc_xReach_9 : (.fieldLink RX8 54 "MistHeaps$Scene" "mist" "I" : Cond) ∈ wsX8_reachOf := kc_of 163 rfl rfl rfl
theorem kc_xReach_10 : (.code yX3_reachBy cX3_reachBy 3 (some .int) : Cond) ∈ wsX8_reachOf := kc_of 683 rfl rfl rfl
theorem kc_xReach_1 : ∀ C ∈ hpC, ∀ w ∈ u_ws C.1 C.2.1 C.2.2, w ∈ wsX8_reachOf := by decide +kernel
set_option maxHeartbeats 4000000 in
set_option maxRecDepth 100000 in
theorem c_xReach (l : Launch) (dC : Nat → ClassId) (dI : Nat → Nat → Nat) (gd : Nat → Nat)    (sc : Nat) (aTp : Nat) (aHl : Nat) (aHs : Nat) (aWk : Nat) (aBk : Nat) (aFc : Nat) (bW : Nat) (bA : Nat) (bE : Nat) (bC : Nat) (ts : Nat) (nh : Nat) (n : Nat) (wz : Nat) (bz : Nat) (cl : Nat) (i : Nat) (mi : Int32) (sn : Int32) (sg : Int32) (cdd : Int32) (szz : Int32) (att : Int32) (nmb : Int32) (y : Int32) (ed : Int64) (cFc : ClassId) (cbW : ClassId) (cbA : ClassId) (cbE : ClassId) (cbC : ClassId) (fFc : Nat → Int32) (fbW : Nat → Int32) (fbA : Nat → Int32) (fbE : Nat → Int32) (fbC : Nat → Int32) (yk : Nat → Int32) (yv : Nat → Int32) (yc : Nat → Int32) (yi : Nat → Nat) (ya : Nat → Nat) (tpv : Value) (cz : List pCla) (sz : Nat) (hin : i < n) (zcl : cl ≤ 10) (zE : ∀ k0, k0 < 10 → ∃ e0 : Nat, e0 ≤ 100 ∧ fbE k0 = nI e0) (zC : ∀ k0, k0 < 100 → okC (fbC k0)) (zHC : HC cl sg fbW fbA fbE fbC cz ∧ WfC cz) (zyt : ∀ k0, k0 < n → hpT (yi k0) (yk k0)) : Met l yX8_reachOf wsX8_reachOf ({ frames := 4, cells := 0, slots := 0, locals := 79 } : Room) (va_Pc [.ref sc, .ref (ya i), .int y] (fun U => U.heap.size = sz ∧ va_P (dC, dI) vwCl [(zo10ririliiriririr sc aTp (nI ts) aHl (nI nh) ed mi sn aHs (nI n) aWk (nI wz) aBk (nI bz) aFc), (zaI aFc cFc 6 fFc)] U.heap ∧ va_K (dC, dI) vwCl [(cFc, .int)] U ∧ va_D (fun _ => True) [(zo10ririliiriririr sc aTp (nI ts) aHl (nI nh) ed mi sn aHs (nI n) aWk (nI wz) aBk (nI bz) aFc), (zaI aFc cFc 6 fFc)] ∧ Gl gd (va_A [(zo10ririliiriririr sc aTp (nI ts) aHl (nI nh) ed mi sn aHs (nI n) aWk (nI wz) aBk (nI bz) aFc), (zaI aFc cFc 6 fFc)] sz) U ∧ Gw (va_A [(zo10ririliiriririr sc aTp (nI ts) aHl (nI nh) ed mi sn aHs (nI n) aWk (nI wz) aBk (nI bz) aFc), (zaI aFc cFc 6 fFc)] sz) U ∧ Fz dC dI [(zo7iirrrriviii aHl sg (nI cl) bW bA bE bC cdd tpv szz att nmb), (zaI bW cbW 10 fbW), (zaI bA cbA 10 fbA), (zaI bE cbE 10 fbE), (zaI bC cbC 100 fbC)] [(cbW, .int), (cbA, .int), (cbE, .int), (cbC, .int)] (va_A [(zo10ririliiriririr sc aTp (nI ts) aHl (nI nh) ed mi sn aHs (nI n) aWk (nI wz) aBk (nI bz) aFc), (zaI aFc cFc 6 fFc)] sz) U ∧ Hs dC dI n yi ya yk yv yc (va_A [(zo10ririliiriririr sc aTp (nI ts) aHl (nI nh) ed mi sn aHs (nI n) aWk (nI wz) aBk (nI bz) aFc), (zaI aFc cFc 6 fFc)] sz) U)) (va_Qi (fun (r : Int32) (u : Nat → Int32) => match u with | fFc9 => r = RV cz mi y i (yk i) (yv i) (yc i)) (fun (u : Nat → Int32) (t : State) => match u with | fFc9 => va_P (dC, dI) vwCl [(zo10ririliiriririr sc aTp (nI ts) aHl (nI nh) ed mi sn aHs (nI n) aWk (nI wz) aBk (nI bz) aFc), (zaI aFc cFc 6 fFc9)] t.heap ∧ va_K (dC, dI) vwCl [(cFc, .int)] t ∧ va_D (va_A [(zo10ririliiriririr sc aTp (nI ts) aHl (nI nh) ed mi sn aHs (nI n) aWk (nI wz) aBk (nI bz) aFc), (zaI aFc cFc 6 fFc)] sz) [(zo10ririliiriririr sc aTp (nI ts) aHl (nI nh) ed mi sn aHs (nI n) aWk (nI wz) aBk (nI bz) aFc), (zaI aFc cFc 6 fFc9)]) (va_A [(zo10ririliiriririr sc aTp (nI ts) aHl (nI nh) ed mi sn aHs (nI n) aWk (nI wz) aBk (nI bz) aFc), (zaI aFc cFc 6 fFc)] sz)) 0 0 (va_A [(zo10ririliiriririr sc aTp (nI ts) aHl (nI nh) ed mi sn aHs (nI n) aWk (nI wz) aBk (nI bz) aFc), (zaI aFc cFc 6 fFc)] sz) := by
  refine met_ofQ (cc := cX8_reachOf) (maxL := 4) (ret := (some .int)) (by decide) rfl ?_
  intro p e s m args below meth c s₁ Q B hml hv hQ
  obtain ⟨rfl, hsz, hP, hK, hD0, hG, hW_, hZ, hH_⟩ := hv
  have hx := B.exec
  have hb := B.bytes
  have hr := B.returns
  have hts := atoms_spec (ws := wsX8_reachOf) B.pre
  have hown : s.vm.findClass RX8 = some m.cls := findClass_of_methodNamed B.named
  have hlocks := B.notSynchronized
  subst hsz
  have hD := hD0.self (sz := s.heap.size)
  generalize hAe : va_A [(zo10ririliiriririr sc aTp (nI ts) aHl (nI nh) ed mi sn aHs (nI n) aWk (nI wz) aBk (nI bz) aFc), (zaI aFc cFc 6 fFc)] s.heap.size = A at hD hQ hG hW_ hZ hH_ ⊢
  have hA : ∀ q : Nat, s.heap.size ≤ q → A q := fun q h => by rw [← hAe]; exact Or.inr h
  have hS : va_S A s.heap s.heap [] := va_S.rf
  have hl := lv_entry [.ref sc, .ref (ya i), .int y] (n := 4) (Nat.le_of_ble_eq_true rfl)
  rw [lg_entry_eq]
  generalize (lg_sl [.ref sc, .ref (ya i), .int y] ++ List.replicate (4 - (lg_sl [.ref sc, .ref (ya i), .int y]).length) Slot.unset).toArray = ls at hl ⊢
  generalize hag : ([.ref sc, .ref (ya i), .int y] : List Value).toArray = args at hts hQ ⊢
  have hl : lv_has ls 4 [(0, .ref sc), (1, .ref (ya i)), (2, .int y)] := hl
  obtain ⟨H, hH⟩ : ∃ H : Heap, H = s.heap := ⟨_, rfl⟩
  rw [← hH] at hP
  rw [← hH]
  have hS : va_S A s.heap H [] := by rw [hH]; exact hS
  obtain ⟨locs, hlo⟩ : ∃ L : List Loc, L = [] := ⟨_, rfl⟩
  rw [← hlo] at hS
  rw [← hlo]
  clear hH hlo
  refine lv_aload_n hx hb dX8_reachOf_0 rfl (lv_at hl 0 rfl) ?_
  refine lv_aload_n hx hb dX8_reachOf_1 rfl (lv_at hl 1 rfl) ?_
  refine va_hget1 (v := .int (nI i)) hx hb hts kc_xReach_1 hown (hH_ i (by omega)).1 (hH_ i (by omega)).2 hS (hts (.fieldLink RX8 76 "MistHeaps$Heap" "number" "I") kc_xReach_0) dX8_reachOf_2 rfl ?_
  refine lv_aload_n hx hb dX8_reachOf_5 rfl (lv_at hl 1 rfl) ?_
  refine va_hget0 (v := .int (yk i)) hx hb hts kc_xReach_1 hown (hH_ i (by omega)).1 (hH_ i (by omega)).2 hS (hts (.fieldLink RX8 79 "MistHeaps$Heap" "kind" "I") kc_xReach_2) dX8_reachOf_6 rfl ?_
  refine lv_aload_n hx hb dX8_reachOf_9 rfl (lv_at hl 1 rfl) ?_
  refine va_hget3 (v := .int (yc i)) hx hb hts kc_xReach_1 hown (hH_ i (by omega)).1 (hH_ i (by omega)).2 hS (hts (.fieldLink RX8 73 "MistHeaps$Heap" "cell" "I") kc_xReach_3) dX8_reachOf_10 rfl ?_
  refine lv_iload_n hx hb dX8_reachOf_13 rfl (lv_at hl 2 rfl) ?_
  have hPc := hP.sub (ws' := [(zo10ririliiriririr sc aTp (nI ts) aHl (nI nh) ed mi sn aHs (nI n) aWk (nI wz) aBk (nI bz) aFc), (zaI aFc cFc 6 fFc)]) [0, 1] rfl
  have hDc := hD.sub (ws' := [(zo10ririliiriririr sc aTp (nI ts) aHl (nI nh) ed mi sn aHs (nI n) aWk (nI wz) aBk (nI bz) aFc), (zaI aFc cFc 6 fFc)]) [0, 1] (by decide) rfl
  have hKc := hK.sub (tys' := [(cFc, .int)]) [0] rfl
  have hFc := va_free (wc := [(zo10ririliiriririr sc aTp (nI ts) aHl (nI nh) ed mi sn aHs (nI n) aWk (nI wz) aBk (nI bz) aFc), (zaI aFc cFc 6 fFc)]) hD hS hA [0, 1] rfl
  refine va_callv (va_runV (As := [.int (nI i), .int (yk i), .int (yc i), .int y]) (rest := []) ⟨hx, hb, hml, hown, hts⟩ (c_tellFacts l dC dI gd sc aTp aHl aHs aWk aBk aFc ts nh n wz bz mi sn y (nI i) (yk i) (yc i) ed cFc fFc H.size) (cwV 4 hts gX8_reachOf_X8_tellFacts rfl rfl rfl hd_yX8_tellFacts ⟨Nat.le_of_ble_eq_true rfl, Nat.le_of_ble_eq_true rfl⟩) ⟨fun a U g mk q => by obtain ⟨q0, q1, qP, qK, qD, qhG⟩ := q; exact ⟨q0, q1, qP, va_K.moved (u := U) (U := U.calling g mk a) (Vm.Alike.refl U.vm) qK, qD, qhG.same rfl rfl⟩, va_recv hK hP (ci := 10) (q := (RX8, TX8, 14)) (q0 := 0) rfl rfl, fun U hU hW => ⟨rfl, by rw [hU], by rw [hU]; exact hPc, va_K.moved hW.alike hKc, hDc.weaken (fun _ _ _ _ => trivial), hG.call hS hU hW (fun q h => hFc q h)⟩⟩ rfl rfl hl.1 rfl (lv_room (Nat.le_of_ble_eq_true rfl)) dX8_reachOf_14 ⟨Nat.le_of_ble_eq_true rfl, Nat.le_of_ble_eq_true rfl⟩) hS (fun q _ h => hFc q h) hFc (fun u tC H1 locs htC hvm hw_2 hB hz1 hk1 hS => ?_)
  obtain ⟨fFc9_3, rfl⟩ : ∃ z, z = u := ⟨_, rfl⟩
  try dsimp only at hw_2 hB
  obtain ⟨hP1, hK1, hD1⟩ := hB
  rw [htC] at hP1
  have hK1 := va_K.moved hvm.symm hK1
  obtain ⟨hP, hD⟩ := va_join (wr := []) (w1 := [(zo10ririliiriririr sc aTp (nI ts) aHl (nI nh) ed mi sn aHs (nI n) aWk (nI wz) aBk (nI bz) aFc), (zaI aFc cFc 6 fFc9_3)]) hP hD [0, 1] [] rfl rfl (by decide) (by decide) hk1 hFc hP1 hD1
  have hK := (hK.sub (tys' := []) [] rfl).app hK1
  generalize H1 = H at hP hS ⊢
  have hP : va_P (dC, dI) vwCl [(zo10ririliiriririr sc aTp (nI ts) aHl (nI nh) ed mi sn aHs (nI n) aWk (nI wz) aBk (nI bz) aFc), (zaI aFc cFc 6 fFc9_3)] H := hP
  have hD : va_D A [(zo10ririliiriririr sc aTp (nI ts) aHl (nI nh) ed mi sn aHs (nI n) aWk (nI wz) aBk (nI bz) aFc), (zaI aFc cFc 6 fFc9_3)] := hD
  have hK : va_K (dC, dI) vwCl [(cFc, .int)] s := hK
  refine lv_aload_n hx hb dX8_reachOf_17 rfl (lv_at hl 0 rfl) ?_
  refine va_get (D := (dC, dI)) (ci := 10) (v := .ref aHl) (C := RX8) (T := TX8) (N := 14) hx hb hts kc_xReach_4 hown hK hP 0 rfl rfl 2 (by decide) (hts (.fieldLink RX8 18 "MistHeaps$Scene" "hill" "LMistHeaps$Hill;") kc_xReach_5) (fun _ h9 => h9) rfl dX8_reachOf_18 ?_
  refine va_get (D := (dC, dI)) (ci := 7) (v := .int sg) (C := RX5) (T := TX5) (N := 11) hx hb hts kc_xReach_7 hown hZ.2.1 (hZ.P hS) 0 rfl rfl 0 (by decide) (hts (.fieldLink RX8 86 "MistHeaps$Hill" "sight" "I") kc_xReach_6) (fun _ h9 => h9) rfl dX8_reachOf_21 ?_
  refine lv_aload_n hx hb dX8_reachOf_24 rfl (lv_at hl 0 rfl) ?_
  refine va_get (D := (dC, dI)) (ci := 10) (v := .ref aHl) (C := RX8) (T := TX8) (N := 14) hx hb hts kc_xReach_4 hown hK hP 0 rfl rfl 2 (by decide) (hts (.fieldLink RX8 18 "MistHeaps$Scene" "hill" "LMistHeaps$Hill;") kc_xReach_5) (fun _ h9 => h9) rfl dX8_reachOf_25 ?_
  refine lv_iconst (v := 0) hx hb dX8_reachOf_28 (by decide) ?_
  refine lv_aload_n hx hb dX8_reachOf_29 rfl (lv_at hl 0 rfl) ?_
  refine va_get (D := (dC, dI)) (ci := 10) (v := .ref aFc) (C := RX8) (T := TX8) (N := 14) hx hb hts kc_xReach_4 hown hK hP 0 rfl rfl 13 (by decide) (hts (.fieldLink RX8 34 "MistHeaps$Scene" "facts" "[I") kc_xReach_8) (fun _ h9 => h9) rfl dX8_reachOf_30 ?_
  have hPc := hP.sub (ws' := [(zaI aFc cFc 6 fFc9_3)]) [1] rfl
  have hKc := hK.sub (tys' := [(cFc, .int)]) [0] rfl
  refine vp_callSi (va_runV (As := [.int 0, .ref aFc]) (rest := [.int sg]) ⟨hx, hb, hml, hown, hts⟩ (c_total l dC dI  aHl aFc bW bA bE bC cl sg cdd szz att nmb cFc cbW cbA cbE cbC fFc9_3 fbW fbA fbE fbC tpv cz 0 (by omega) (zcl) (zE) (zC) (zHC)) (cwV 2 hts gX8_reachOf_X5_total rfl rfl rfl hd_yX5_total ⟨Nat.le_of_ble_eq_true rfl, Nat.le_of_ble_eq_true rfl⟩) ⟨fun a U g mk q => by obtain ⟨q0, qP, qK, qhZ⟩ := q; exact ⟨q0, qP, va_K.moved (u := U) (U := U.calling g mk a) (Vm.Alike.refl U.vm) qK, qhZ.same rfl rfl⟩, va_recv hZ.2.1 (hZ.P hS) (ci := 7) (q := (RX5, TX5, 11)) (q0 := 0) rfl rfl, fun U hU hW => ⟨rfl, by rw [hU]; exact hPc, va_K.moved hW.alike hKc, (hZ.sub [0, 1, 2, 3, 4] [0, 1, 2, 3] rfl rfl).callF hS hU hW⟩⟩ rfl rfl hl.1 rfl (lv_room (Nat.le_of_ble_eq_true rfl)) dX8_reachOf_33 ⟨Nat.le_of_ble_eq_true rfl, Nat.le_of_ble_eq_true rfl⟩).run (fun r_4 hw_5 => ?_)
  refine lv_iadd hx hb dX8_reachOf_36 ?_
  refine lv_aload_n hx hb dX8_reachOf_37 rfl (lv_at hl 0 rfl) ?_
  refine va_get (D := (dC, dI)) (ci := 10) (v := .ref aHl) (C := RX8) (T := TX8) (N := 14) hx hb hts kc_xReach_4 hown hK hP 0 rfl rfl 2 (by decide) (hts (.fieldLink RX8 18 "MistHeaps$Scene" "hill" "LMistHeaps$Hill;") kc_xReach_5) (fun _ h9 => h9) rfl dX8_reachOf_38 ?_
  refine lv_iconst (v := 1) hx hb dX8_reachOf_41 (by decide) ?_
  refine lv_aload_n hx hb dX8_reachOf_42 rfl (lv_at hl 0 rfl) ?_
  refine va_get (D := (dC, dI)) (ci := 10) (v := .ref aFc) (C := RX8) (T := TX8) (N := 14) hx hb hts kc_xReach_4 hown hK hP 0 rfl rfl 13 (by decide) (hts (.fieldLink RX8 34 "MistHeaps$Scene" "facts" "[I") kc_xReach_8) (fun _ h9 => h9) rfl dX8_reachOf_43 ?_
  have hPc := hP.sub (ws' := [(zaI aFc cFc 6 fFc9_3)]) [1] rfl
  have hKc := hK.sub (tys' := [(cFc, .int)]) [0] rfl
  refine vp_callSi (va_runV (As := [.int 1, .ref aFc]) (rest := [.int (sg + r_4)]) ⟨hx, hb, hml, hown, hts⟩ (c_total l dC dI  aHl aFc bW bA bE bC cl sg cdd szz att nmb cFc cbW cbA cbE cbC fFc9_3 fbW fbA fbE fbC tpv cz 1 (by omega) (zcl) (zE) (zC) (zHC)) (cwV 2 hts gX8_reachOf_X5_total rfl rfl rfl hd_yX5_total ⟨Nat.le_of_ble_eq_true rfl, Nat.le_of_ble_eq_true rfl⟩) ⟨fun a U g mk q => by obtain ⟨q0, qP, qK, qhZ⟩ := q; exact ⟨q0, qP, va_K.moved (u := U) (U := U.calling g mk a) (Vm.Alike.refl U.vm) qK, qhZ.same rfl rfl⟩, va_recv hZ.2.1 (hZ.P hS) (ci := 7) (q := (RX5, TX5, 11)) (q0 := 0) rfl rfl, fun U hU hW => ⟨rfl, by rw [hU]; exact hPc, va_K.moved hW.alike hKc, (hZ.sub [0, 1, 2, 3, 4] [0, 1, 2, 3] rfl rfl).callF hS hU hW⟩⟩ rfl rfl hl.1 rfl (lv_room (Nat.le_of_ble_eq_true rfl)) dX8_reachOf_46 ⟨Nat.le_of_ble_eq_true rfl, Nat.le_of_ble_eq_true rfl⟩).run (fun r_6 hw_7 => ?_)
  refine lv_isub hx hb dX8_reachOf_49 ?_
  refine lv_aload_n hx hb dX8_reachOf_50 rfl (lv_at hl 0 rfl) ?_
  refine va_get (D := (dC, dI)) (ci := 10) (v := .int mi) (C := RX8) (T := TX8) (N := 14) hx hb hts kc_xReach_4 hown hK hP 0 rfl rfl 5 (by decide) (hts (.fieldLink RX8 54 "MistHeaps$Scene" "mist" "I") kc_xReach_9) (fun _ h9 => h9) rfl dX8_reachOf_51 ?_
  refine lv_isub hx hb dX8_reachOf_54 ?_
  refine lv_istore_n (lv' := [(3, .int (((sg + r_4) - r_6) - mi)), (0, .ref sc), (1, .ref (ya i)), (2, .int y)]) hx hb dX8_reachOf_55 rfl hl (by decide) rfl (fun ls hl => ?_)
  refine lv_aload_n hx hb dX8_reachOf_56 rfl (lv_at hl 2 rfl) ?_
  refine lv_iload_n hx hb dX8_reachOf_57 rfl (lv_at hl 0 rfl) ?_
  refine lv_iload_n hx hb dX8_reachOf_58 rfl (lv_at hl 3 rfl) ?_
  rcases (show yi i = 3 ∨ yi i = 5 ∨ yi i = 6 ∨ yi i = 8 ∨ yi i = 9 ∨ yi i = 11 ∨ yi i = 12 from (hH_ i (by omega)).1) with e_8 | e_8 | e_8 | e_8 | e_8 | e_8 | e_8
  · skip
    have hY : Fz dC dI [(zo3iiii (ya i) (yk i) (nI i) (yv i) (yc i))] [] A s := by have h9 := (hH_ i (by omega)).2; rw [hpE, e_8] at h9; exact h9
    refine vp_callSi (va_runU (As := [.int (((sg + r_4) - r_6) - mi), .int y]) (rest := []) ⟨hx, hb, hml, hown, hts⟩ (c_reach3_X1 l dC dI  i (yk i) (yv i) (yc i) (((sg + r_4) - r_6) - mi) y (ya i)) (va_cwU 2 hts gX8_reachOf_X3_reachBy_u93X1 rfl rfl rfl rfl (by decide +kernel) ⟨Nat.le_of_ble_eq_true rfl, Nat.le_of_ble_eq_true rfl⟩) ⟨fun a U g mk q => by obtain ⟨q0, qhZ⟩ := q; exact ⟨q0, qhZ.same rfl rfl⟩, va_recv hY.2.1 (hY.P hS) (ci := 3) (q := (RX1, TX1, 4)) (q0 := 0) rfl rfl, fun U hU hW => ⟨rfl, hY.callF hS hU hW⟩⟩ rfl rfl hl.1 rfl (lv_room (Nat.le_of_ble_eq_true rfl)) dX8_reachOf_59 ⟨Nat.le_of_ble_eq_true rfl, Nat.le_of_ble_eq_true rfl⟩).run (fun r_9 hw_10 => ?_)
    have hk := hpT_k3 (zyt i (by omega)) e_8
    rw [hQ]
    have hP9 := hP.sub (ws' := [(zo10ririliiriririr sc aTp (nI ts) aHl (nI nh) ed mi sn aHs (nI n) aWk (nI wz) aBk (nI bz) aFc), (zaI aFc cFc 6 fFc9_3)]) [0, 1] rfl
    have hD9 := hD.sub (ws' := [(zo10ririliiriririr sc aTp (nI ts) aHl (nI nh) ed mi sn aHs (nI n) aWk (nI wz) aBk (nI bz) aFc), (zaI aFc cFc 6 fFc9_3)]) [0, 1] (by decide) rfl
    have hK9 := hK.sub (tys' := [(cFc, .int)]) [0] rfl
    exact W.iret (v := r_9) hx hb hr (fun tQ htQ hWQ => ⟨⟨r_9, fFc9_3, rfl, rv_3 ⟨_, rv_p hw_2 hw_5 hw_7 zHC.1.2.1, hw_10⟩ hk, by rw [htQ]; exact hP9, va_K.moved hWQ.alike hK9, hD9⟩, hS.F htQ⟩) hS.2.2 dX8_reachOf_62
  · skip
    have hY : Fz dC dI [(zo5iiii (ya i) (yk i) (nI i) (yv i) (yc i))] [] A s := by have h9 := (hH_ i (by omega)).2; rw [hpE, e_8] at h9; exact h9
    refine vp_callSi (va_runV (As := [.int (((sg + r_4) - r_6) - mi), .int y]) (rest := []) ⟨hx, hb, hml, hown, hts⟩ (c_reach3_X3 l dC dI  i (yk i) (yv i) (yc i) (((sg + r_4) - r_6) - mi) y (ya i)) (cwV 2 hts gX8_reachOf_X3_reachBy rfl rfl rfl hd_yX3_reachBy ⟨Nat.le_of_ble_eq_true rfl, Nat.le_of_ble_eq_true rfl⟩) ⟨fun a U g mk q => by obtain ⟨q0, qhZ⟩ := q; exact ⟨q0, qhZ.same rfl rfl⟩, va_recv hY.2.1 (hY.P hS) (ci := 5) (q := (RX3, TX3, 4)) (q0 := 0) rfl rfl, fun U hU hW => ⟨rfl, hY.callF hS hU hW⟩⟩ rfl rfl hl.1 rfl (lv_room (Nat.le_of_ble_eq_true rfl)) dX8_reachOf_59 ⟨Nat.le_of_ble_eq_true rfl, Nat.le_of_ble_eq_true rfl⟩).run (fun r_11 hw_12 => ?_)
    have hk := hpT_k0 (zyt i (by omega)) e_8
    rw [hQ]
    have hP9 := hP.sub (ws' := [(zo10ririliiriririr sc aTp (nI ts) aHl (nI nh) ed mi sn aHs (nI n) aWk (nI wz) aBk (nI bz) aFc), (zaI aFc cFc 6 fFc9_3)]) [0, 1] rfl
    have hD9 := hD.sub (ws' := [(zo10ririliiriririr sc aTp (nI ts) aHl (nI nh) ed mi sn aHs (nI n) aWk (nI wz) aBk (nI bz) aFc), (zaI aFc cFc 6 fFc9_3)]) [0, 1] (by decide) rfl
    have hK9 := hK.sub (tys' := [(cFc, .int)]) [0] rfl
    exact W.iret (v := r_11) hx hb hr (fun tQ htQ hWQ => ⟨⟨r_11, fFc9_3, rfl, rv_0 ⟨_, rv_p hw_2 hw_5 hw_7 zHC.1.2.1, hw_12⟩ hk, by rw [htQ]; exact hP9, va_K.moved hWQ.alike hK9, hD9⟩, hS.F htQ⟩) hS.2.2 dX8_reachOf_62
  · skip
    have hY : Fz dC dI [(zo6iiii (ya i) (yk i) (nI i) (yv i) (yc i))] [] A s := by have h9 := (hH_ i (by omega)).2; rw [hpE, e_8] at h9; exact h9
    refine vp_callSi (va_runU (As := [.int (((sg + r_4) - r_6) - mi), .int y]) (rest := []) ⟨hx, hb, hml, hown, hts⟩ (c_reach4_X4 l dC dI  i (yk i) (yv i) (yc i) (((sg + r_4) - r_6) - mi) y (ya i)) (va_cwO 2 hts gX8_reachOf_X4_reachBy_u93X4 rfl rfl rfl kc_xReach_10 (by decide +kernel) ⟨Nat.le_of_ble_eq_true rfl, Nat.le_of_ble_eq_true rfl⟩) ⟨fun a U g mk q => by obtain ⟨q0, qhZ⟩ := q; exact ⟨q0, qhZ.same rfl rfl⟩, va_recv hY.2.1 (hY.P hS) (ci := 6) (q := (RX4, TX4, 4)) (q0 := 0) rfl rfl, fun U hU hW => ⟨rfl, hY.callF hS hU hW⟩⟩ rfl rfl hl.1 rfl (lv_room (Nat.le_of_ble_eq_true rfl)) dX8_reachOf_59 ⟨Nat.le_of_ble_eq_true rfl, Nat.le_of_ble_eq_true rfl⟩).run (fun r_13 hw_14 => ?_)
    have hk := hpT_k1 (zyt i (by omega)) e_8
    rw [hQ]
    have hP9 := hP.sub (ws' := [(zo10ririliiriririr sc aTp (nI ts) aHl (nI nh) ed mi sn aHs (nI n) aWk (nI wz) aBk (nI bz) aFc), (zaI aFc cFc 6 fFc9_3)]) [0, 1] rfl
    have hD9 := hD.sub (ws' := [(zo10ririliiriririr sc aTp (nI ts) aHl (nI nh) ed mi sn aHs (nI n) aWk (nI wz) aBk (nI bz) aFc), (zaI aFc cFc 6 fFc9_3)]) [0, 1] (by decide) rfl
    have hK9 := hK.sub (tys' := [(cFc, .int)]) [0] rfl
    exact W.iret (v := r_13) hx hb hr (fun tQ htQ hWQ => ⟨⟨r_13, fFc9_3, rfl, rv_1 ⟨_, rv_p hw_2 hw_5 hw_7 zHC.1.2.1, hw_14⟩ hk, by rw [htQ]; exact hP9, va_K.moved hWQ.alike hK9, hD9⟩, hS.F htQ⟩) hS.2.2 dX8_reachOf_62
  · skip
    have hY : Fz dC dI [(zo8iiii (ya i) (yk i) (nI i) (yv i) (yc i))] [] A s := by have h9 := (hH_ i (by omega)).2; rw [hpE, e_8] at h9; exact h9
    refine vp_callSi (va_runU (As := [.int (((sg + r_4) - r_6) - mi), .int y]) (rest := []) ⟨hx, hb, hml, hown, hts⟩ (c_reach6_X6 l dC dI  i (yk i) (yv i) (yc i) (((sg + r_4) - r_6) - mi) y (ya i)) (va_cwO 2 hts gX8_reachOf_X6_reachBy_u93X6 rfl rfl rfl kc_xReach_10 (by decide +kernel) ⟨Nat.le_of_ble_eq_true rfl, Nat.le_of_ble_eq_true rfl⟩) ⟨fun a U g mk q => by obtain ⟨q0, qhZ⟩ := q; exact ⟨q0, qhZ.same rfl rfl⟩, va_recv hY.2.1 (hY.P hS) (ci := 8) (q := (RX6, TX6, 4)) (q0 := 0) rfl rfl, fun U hU hW => ⟨rfl, hY.callF hS hU hW⟩⟩ rfl rfl hl.1 rfl (lv_room (Nat.le_of_ble_eq_true rfl)) dX8_reachOf_59 ⟨Nat.le_of_ble_eq_true rfl, Nat.le_of_ble_eq_true rfl⟩).run (fun r_15 hw_16 => ?_)
    have hk := hpT_k2 (zyt i (by omega)) e_8
    rw [hQ]
    have hP9 := hP.sub (ws' := [(zo10ririliiriririr sc aTp (nI ts) aHl (nI nh) ed mi sn aHs (nI n) aWk (nI wz) aBk (nI bz) aFc), (zaI aFc cFc 6 fFc9_3)]) [0, 1] rfl
    have hD9 := hD.sub (ws' := [(zo10ririliiriririr sc aTp (nI ts) aHl (nI nh) ed mi sn aHs (nI n) aWk (nI wz) aBk (nI bz) aFc), (zaI aFc cFc 6 fFc9_3)]) [0, 1] (by decide) rfl
    have hK9 := hK.sub (tys' := [(cFc, .int)]) [0] rfl
    exact W.iret (v := r_15) hx hb hr (fun tQ htQ hWQ => ⟨⟨r_15, fFc9_3, rfl, rv_2 ⟨_, rv_p hw_2 hw_5 hw_7 zHC.1.2.1, hw_16⟩ hk, by rw [htQ]; exact hP9, va_K.moved hWQ.alike hK9, hD9⟩, hS.F htQ⟩) hS.2.2 dX8_reachOf_62
  · skip
    have hY : Fz dC dI [(zo9iiii (ya i) (yk i) (nI i) (yv i) (yc i))] [] A s := by have h9 := (hH_ i (by omega)).2; rw [hpE, e_8] at h9; exact h9
    refine vp_callSi (va_runU (As := [.int (((sg + r_4) - r_6) - mi), .int y]) (rest := []) ⟨hx, hb, hml, hown, hts⟩ (c_reach7 l dC dI   i (yk i) (yv i) (yc i) (((sg + r_4) - r_6) - mi) y (ya i)) (va_cwO 2 hts gX8_reachOf_X7_reachBy_u93X7 rfl rfl rfl kc_xReach_10 (by decide +kernel) ⟨Nat.le_of_ble_eq_true rfl, Nat.le_of_ble_eq_true rfl⟩) ⟨fun a U g mk q => by obtain ⟨q0, qhW_, qhZ⟩ := q; exact ⟨q0, qhW_.same rfl rfl, qhZ.same rfl rfl⟩, va_recv hY.2.1 (hY.P hS) (ci := 9) (q := (RX7, TX7, 4)) (q0 := 0) rfl rfl, fun U hU hW => ⟨rfl, hW_.callF hS hU hW, hY.callF hS hU hW⟩⟩ rfl rfl hl.1 rfl (lv_room (Nat.le_of_ble_eq_true rfl)) dX8_reachOf_59 ⟨Nat.le_of_ble_eq_true rfl, Nat.le_of_ble_eq_true rfl⟩).run (fun r_17 hw_18 => ?_)
    have hk := hpT_k6 (zyt i (by omega)) e_8
    rw [hQ]
    have hP9 := hP.sub (ws' := [(zo10ririliiriririr sc aTp (nI ts) aHl (nI nh) ed mi sn aHs (nI n) aWk (nI wz) aBk (nI bz) aFc), (zaI aFc cFc 6 fFc9_3)]) [0, 1] rfl
    have hD9 := hD.sub (ws' := [(zo10ririliiriririr sc aTp (nI ts) aHl (nI nh) ed mi sn aHs (nI n) aWk (nI wz) aBk (nI bz) aFc), (zaI aFc cFc 6 fFc9_3)]) [0, 1] (by decide) rfl
    have hK9 := hK.sub (tys' := [(cFc, .int)]) [0] rfl
    exact W.iret (v := r_17) hx hb hr (fun tQ htQ hWQ => ⟨⟨r_17, fFc9_3, rfl, rv_6 ⟨_, rv_p hw_2 hw_5 hw_7 zHC.1.2.1, hw_18⟩ hk, by rw [htQ]; exact hP9, va_K.moved hWQ.alike hK9, hD9⟩, hS.F htQ⟩) hS.2.2 dX8_reachOf_62
  · skip
    have hY : Fz dC dI [(zo11iiii (ya i) (yk i) (nI i) (yv i) (yc i))] [] A s := by have h9 := (hH_ i (by omega)).2; rw [hpE, e_8] at h9; exact h9
    refine vp_callSi (va_runU (As := [.int (((sg + r_4) - r_6) - mi), .int y]) (rest := []) ⟨hx, hb, hml, hown, hts⟩ (c_reach9 l dC dI  i (yk i) (yv i) (yc i) (((sg + r_4) - r_6) - mi) y (ya i)) (va_cwO 2 hts gX8_reachOf_X9_reachBy_u93X9 rfl rfl rfl kc_xReach_10 (by decide +kernel) ⟨Nat.le_of_ble_eq_true rfl, Nat.le_of_ble_eq_true rfl⟩) ⟨fun a U g mk q => by obtain ⟨q0, qhZ⟩ := q; exact ⟨q0, qhZ.same rfl rfl⟩, va_recv hY.2.1 (hY.P hS) (ci := 11) (q := (RX9, TX9, 4)) (q0 := 0) rfl rfl, fun U hU hW => ⟨rfl, hY.callF hS hU hW⟩⟩ rfl rfl hl.1 rfl (lv_room (Nat.le_of_ble_eq_true rfl)) dX8_reachOf_59 ⟨Nat.le_of_ble_eq_true rfl, Nat.le_of_ble_eq_true rfl⟩).run (fun r_19 hw_20 => ?_)
    have hk := hpT_k5 (zyt i (by omega)) e_8
    rw [hQ]
    have hP9 := hP.sub (ws' := [(zo10ririliiriririr sc aTp (nI ts) aHl (nI nh) ed mi sn aHs (nI n) aWk (nI wz) aBk (nI bz) aFc), (zaI aFc cFc 6 fFc9_3)]) [0, 1] rfl
    have hD9 := hD.sub (ws' := [(zo10ririliiriririr sc aTp (nI ts) aHl (nI nh) ed mi sn aHs (nI n) aWk (nI wz) aBk (nI bz) aFc), (zaI aFc cFc 6 fFc9_3)]) [0, 1] (by decide) rfl
    have hK9 := hK.sub (tys' := [(cFc, .int)]) [0] rfl
    exact W.iret (v := r_19) hx hb hr (fun tQ htQ hWQ => ⟨⟨r_19, fFc9_3, rfl, rv_5 ⟨_, rv_p hw_2 hw_5 hw_7 zHC.1.2.1, hw_20⟩ hk, by rw [htQ]; exact hP9, va_K.moved hWQ.alike hK9, hD9⟩, hS.F htQ⟩) hS.2.2 dX8_reachOf_62
  · skip
    have hY : Fz dC dI [(zo12iiii (ya i) (yk i) (nI i) (yv i) (yc i))] [] A s := by have h9 := (hH_ i (by omega)).2; rw [hpE, e_8] at h9; exact h9
    refine vp_callSi (va_runU (As := [.int (((sg + r_4) - r_6) - mi), .int y]) (rest := []) ⟨hx, hb, hml, hown, hts⟩ (c_reach4_X10 l dC dI  i (yk i) (yv i) (yc i) (((sg + r_4) - r_6) - mi) y (ya i)) (va_cwO 2 hts gX8_reachOf_X4_reachBy_u93X10 rfl rfl rfl kc_xReach_10 (by decide +kernel) ⟨Nat.le_of_ble_eq_true rfl, Nat.le_of_ble_eq_true rfl⟩) ⟨fun a U g mk q => by obtain ⟨q0, qhZ⟩ := q; exact ⟨q0, qhZ.same rfl rfl⟩, va_recv hY.2.1 (hY.P hS) (ci := 12) (q := (RX10, TX10, 4)) (q0 := 0) rfl rfl, fun U hU hW => ⟨rfl, hY.callF hS hU hW⟩⟩ rfl rfl hl.1 rfl (lv_room (Nat.le_of_ble_eq_true rfl)) dX8_reachOf_59 ⟨Nat.le_of_ble_eq_true rfl, Nat.le_of_ble_eq_true rfl⟩).run (fun r_21 hw_22 => ?_)
    have hk := hpT_k4 (zyt i (by omega)) e_8
    rw [hQ]
    have hP9 := hP.sub (ws' := [(zo10ririliiriririr sc aTp (nI ts) aHl (nI nh) ed mi sn aHs (nI n) aWk (nI wz) aBk (nI bz) aFc), (zaI aFc cFc 6 fFc9_3)]) [0, 1] rfl
    have hD9 := hD.sub (ws' := [(zo10ririliiriririr sc aTp (nI ts) aHl (nI nh) ed mi sn aHs (nI n) aWk (nI wz) aBk (nI bz) aFc), (zaI aFc cFc 6 fFc9_3)]) [0, 1] (by decide) rfl
    have hK9 := hK.sub (tys' := [(cFc, .int)]) [0] rfl
    exact W.iret (v := r_21) hx hb hr (fun tQ htQ hWQ => ⟨⟨r_21, fFc9_3, rfl, rv_4 ⟨_, rv_p hw_2 hw_5 hw_7 zHC.1.2.1, hw_22⟩ hk, by rw [htQ]; exact hP9, va_K.moved hWQ.alike hK9, hD9⟩, hS.F htQ⟩) hS.2.2 dX8_reachOf_62

theorem kc_reach3_S_0 : (.methodLink RX3 28 Lib.Math.max.name : Cond) ∈ wsX3_reachBy := kc_of 684 rfl rfl rfl
theorem kc_reach3_S_1 : (.static Lib.Math.max.name : Cond) ∈ wsX3_reachBy := kc_of 426 rfl rfl rfl
theorem kc_reach3_S_2 : (.initialized "java/lang/Math" : Cond) ∈ wsX3_reachBy := kc_of 77 rfl rfl rfl
theorem kc_reach3_S_3 : (.code Lib.Math.max.name Lib.Math.max.code 2 (some .int) : Cond) ∈ wsX3_reachBy := kc_of 427 rfl rfl rfl
set_option maxHeartbeats 4000000 in
set_option maxRecDepth 100000 in
theorem c_reach3_S (l : Launch) (dC : Nat → ClassId) (dI : Nat → Nat → Nat) (gS : Nat) (i0 : Nat) (scl : Int32) (x : Int32) (y : Int32) : Met l yX3_reachBy wsX3_reachBy ({ frames := 1, cells := 0, slots := 0, locals := 13 } : Room) (va_Pc [.ref gS, .int x, .int y] (fun U => va_P (dC, dI) vwCl [(zo5iiii gS 0 (nI i0) 0 scl)] U.heap ∧ va_K (dC, dI) vwCl [] U)) (vp_Si (fun r => r = mx0 x)) 0 0 (fun _ => False) := by
  refine met_ofQ (cc := cX3_reachBy) (maxL := 3) (ret := (some .int)) (by decide) rfl ?_
  intro p e s m args below meth c s₁ Q B hml hv hQ
  obtain ⟨rfl, hP, hK⟩ := hv
  have hx := B.exec
  have hb := B.bytes
  have hr := B.returns
  have hts := atoms_spec (ws := wsX3_reachBy) B.pre
  have hown : s.vm.findClass RX3 = some m.cls := findClass_of_methodNamed B.named
  have hlocks := B.notSynchronized
  obtain ⟨A, hAe⟩ : ∃ A : Nat → Prop, A = fun _ => False := ⟨_, rfl⟩
  rw [← hAe] at hQ
  have hS : va_S A s.heap s.heap [] := va_S.rf
  have hl := lv_entry [.ref gS, .int x, .int y] (n := 3) (Nat.le_of_ble_eq_true rfl)
  rw [lg_entry_eq]
  generalize (lg_sl [.ref gS, .int x, .int y] ++ List.replicate (3 - (lg_sl [.ref gS, .int x, .int y]).length) Slot.unset).toArray = ls at hl ⊢
  generalize hag : ([.ref gS, .int x, .int y] : List Value).toArray = args at hts hQ ⊢
  have hl : lv_has ls 3 [(0, .ref gS), (1, .int x), (2, .int y)] := hl
  refine lv_iconst (v := 0) hx hb dX3_reachBy_0 (by decide) ?_
  refine lv_iload_n hx hb dX3_reachBy_1 rfl (lv_at hl 1 rfl) ?_
  refine va_mmax hx hb (by rw [hml]; exact hl.1.symm) hown (hts (.methodLink RX3 28 Lib.Math.max.name) kc_reach3_S_0) (hts (.static Lib.Math.max.name) kc_reach3_S_1) (hts (.initialized "java/lang/Math") kc_reach3_S_2) (hts (.code Lib.Math.max.name Lib.Math.max.code 2 (some .int)) kc_reach3_S_3) (Nat.le_of_ble_eq_true rfl) (Nat.le_of_ble_eq_true rfl) (Nat.le_of_ble_eq_true rfl) (Nat.le_of_ble_eq_true rfl) dX3_reachBy_2 ?_
  rw [hQ]
  exact W.iret (v := (if 0 < x then x else 0)) hx hb hr (fun tQ htQ hWQ => ⟨(if 0 < x then x else 0), rfl, rfl, by rw [htQ]⟩) (fun q hq => absurd hq List.not_mem_nil) dX3_reachBy_5

set_option maxHeartbeats 4000000 in
set_option maxRecDepth 100000 in
theorem c_lead3_S (l : Launch) (dC : Nat → ClassId) (dI : Nat → Nat → Nat) (gS : Nat) (i0 : Nat) (scl : Int32) (x : Int32) : Met l yX3_leadsTo wsX3_leadsTo ({ frames := 0, cells := 0, slots := 0, locals := 0 } : Room) (va_Pc [.ref gS, .int x] (fun U => va_P (dC, dI) vwCl [(zo5iiii gS 0 (nI i0) 0 scl)] U.heap ∧ va_K (dC, dI) vwCl [] U)) (vp_Si (fun r => r = 1)) 0 0 (fun _ => False) := by
  refine met_ofQ (cc := cX3_leadsTo) (maxL := 2) (ret := (some .boolean)) (by decide) rfl ?_
  intro p e s m args below meth c s₁ Q B hml hv hQ
  obtain ⟨rfl, hP, hK⟩ := hv
  have hx := B.exec
  have hb := B.bytes
  have hr := B.returns
  have hts := atoms_spec (ws := wsX3_leadsTo) B.pre
  have hown : s.vm.findClass RX3 = some m.cls := findClass_of_methodNamed B.named
  have hlocks := B.notSynchronized
  obtain ⟨A, hAe⟩ : ∃ A : Nat → Prop, A = fun _ => False := ⟨_, rfl⟩
  rw [← hAe] at hQ
  have hS : va_S A s.heap s.heap [] := va_S.rf
  have hl := lv_entry [.ref gS, .int x] (n := 2) (Nat.le_of_ble_eq_true rfl)
  rw [lg_entry_eq]
  generalize (lg_sl [.ref gS, .int x] ++ List.replicate (2 - (lg_sl [.ref gS, .int x]).length) Slot.unset).toArray = ls at hl ⊢
  generalize hag : ([.ref gS, .int x] : List Value).toArray = args at hts hQ ⊢
  have hl : lv_has ls 2 [(0, .ref gS), (1, .int x)] := hl
  refine lv_iconst (v := 1) hx hb dX3_leadsTo_0 (by decide) ?_
  rw [hQ]
  exact W.zret (v := 1) hx hb hr rfl (fun tQ htQ hWQ => ⟨1, rfl, rfl, by rw [htQ]⟩) (fun q hq => absurd hq List.not_mem_nil) dX3_leadsTo_1

theorem kc_xReachS_0 : ∀ w ∈ wsX30, w ∈ wsX8_reachOf := fun w h => List.mem_cons_of_mem _ (gin_wsX30 w h)
theorem kc_xReachS_1 : (.fieldLink RX8 76 "MistHeaps$Heap" "number" "I" : Cond) ∈ wsX8_reachOf := kc_of 235 rfl rfl rfl
theorem kc_xReachS_2 : (.fieldLink RX8 79 "MistHeaps$Heap" "kind" "I" : Cond) ∈ wsX8_reachOf := kc_of 229 rfl rfl rfl
theorem kc_xReachS_3 : (.fieldLink RX8 73 "MistHeaps$Heap" "cell" "I" : Cond) ∈ wsX8_reachOf := kc_of 250 rfl rfl rfl
theorem kc_xReachS_4 : ∀ w ∈ wsX80, w ∈ wsX8_reachOf := fun w h => List.mem_cons_of_mem _ (gin_wsX80 w h)
theorem kc_xReachS_5 : (.fieldLink RX8 18 "MistHeaps$Scene" "hill" "LMistHeaps$Hill;" : Cond) ∈ wsX8_reachOf := kc_of 156 rfl rfl rfl
theorem kc_xReachS_6 : (.fieldLink RX8 86 "MistHeaps$Hill" "sight" "I" : Cond) ∈ wsX8_reachOf := kc_of 114 rfl rfl rfl
theorem kc_xReachS_7 : ∀ w ∈ wsX50, w ∈ wsX8_reachOf := fun w h => List.mem_cons_of_mem _ (gin_wsX50 w h)
theorem kc_xReachS_8 : (.fieldLink RX8 34 "MistHeaps$Scene" "facts" "[I" : Cond) ∈ wsX8_reachOf := kc_of 184 rfl rfl rfl
theorem kc_xReachS_9 : (.fieldLink RX8 54 "MistHeaps$Scene" "mist" "I" : Cond) ∈ wsX8_reachOf := kc_of 163 rfl rfl rfl
set_option maxHeartbeats 4000000 in
set_option maxRecDepth 100000 in
theorem c_xReachS (l : Launch) (dC : Nat → ClassId) (dI : Nat → Nat → Nat) (gd : Nat → Nat)  (sc : Nat) (aTp : Nat) (aHl : Nat) (aHs : Nat) (aWk : Nat) (aBk : Nat) (aFc : Nat) (bW : Nat) (bA : Nat) (bE : Nat) (bC : Nat) (gS : Nat) (ts : Nat) (nh : Nat) (n : Nat) (wz : Nat) (bz : Nat) (cl : Nat) (i0 : Nat) (mi : Int32) (sn : Int32) (sg : Int32) (cdd : Int32) (szz : Int32) (att : Int32) (nmb : Int32) (scl : Int32) (y : Int32) (ed : Int64) (cFc : ClassId) (cbW : ClassId) (cbA : ClassId) (cbE : ClassId) (cbC : ClassId) (fFc : Nat → Int32) (fbW : Nat → Int32) (fbA : Nat → Int32) (fbE : Nat → Int32) (fbC : Nat → Int32) (tpv : Value) (cz : List pCla) (sz : Nat) (zcl : cl ≤ 10) (zE : ∀ k0, k0 < 10 → ∃ e0 : Nat, e0 ≤ 100 ∧ fbE k0 = nI e0) (zC : ∀ k0, k0 < 100 → okC (fbC k0)) (zHC : HC cl sg fbW fbA fbE fbC cz ∧ WfC cz) : Met l yX8_reachOf wsX8_reachOf ({ frames := 3, cells := 0, slots := 0, locals := 73 } : Room) (va_Pc [.ref sc, .ref gS, .int y] (fun U => U.heap.size = sz ∧ va_P (dC, dI) vwCl [(zo10ririliiriririr sc aTp (nI ts) aHl (nI nh) ed mi sn aHs (nI n) aWk (nI wz) aBk (nI bz) aFc), (zaI aFc cFc 6 fFc), (zo5iiii gS 0 (nI i0) 0 scl)] U.heap ∧ va_K (dC, dI) vwCl [(cFc, .int)] U ∧ va_D (fun _ => True) [(zo10ririliiriririr sc aTp (nI ts) aHl (nI nh) ed mi sn aHs (nI n) aWk (nI wz) aBk (nI bz) aFc), (zaI aFc cFc 6 fFc), (zo5iiii gS 0 (nI i0) 0 scl)] ∧ Gl gd (va_A [(zo10ririliiriririr sc aTp (nI ts) aHl (nI nh) ed mi sn aHs (nI n) aWk (nI wz) aBk (nI bz) aFc), (zaI aFc cFc 6 fFc), (zo5iiii gS 0 (nI i0) 0 scl)] sz) U ∧ Fz dC dI [(zo7iirrrriviii aHl sg (nI cl) bW bA bE bC cdd tpv szz att nmb), (zaI bW cbW 10 fbW), (zaI bA cbA 10 fbA), (zaI bE cbE 10 fbE), (zaI bC cbC 100 fbC)] [(cbW, .int), (cbA, .int), (cbE, .int), (cbC, .int)] (va_A [(zo10ririliiriririr sc aTp (nI ts) aHl (nI nh) ed mi sn aHs (nI n) aWk (nI wz) aBk (nI bz) aFc), (zaI aFc cFc 6 fFc), (zo5iiii gS 0 (nI i0) 0 scl)] sz) U)) (va_Qi (fun (r : Int32) (u : Nat → Int32) => match u with | fFc9 => r = RV cz mi y i0 0 0 scl) (fun (u : Nat → Int32) (t : State) => match u with | fFc9 => va_P (dC, dI) vwCl [(zo10ririliiriririr sc aTp (nI ts) aHl (nI nh) ed mi sn aHs (nI n) aWk (nI wz) aBk (nI bz) aFc), (zaI aFc cFc 6 fFc9), (zo5iiii gS 0 (nI i0) 0 scl)] t.heap ∧ va_K (dC, dI) vwCl [(cFc, .int)] t ∧ va_D (va_A [(zo10ririliiriririr sc aTp (nI ts) aHl (nI nh) ed mi sn aHs (nI n) aWk (nI wz) aBk (nI bz) aFc), (zaI aFc cFc 6 fFc), (zo5iiii gS 0 (nI i0) 0 scl)] sz) [(zo10ririliiriririr sc aTp (nI ts) aHl (nI nh) ed mi sn aHs (nI n) aWk (nI wz) aBk (nI bz) aFc), (zaI aFc cFc 6 fFc9), (zo5iiii gS 0 (nI i0) 0 scl)]) (va_A [(zo10ririliiriririr sc aTp (nI ts) aHl (nI nh) ed mi sn aHs (nI n) aWk (nI wz) aBk (nI bz) aFc), (zaI aFc cFc 6 fFc), (zo5iiii gS 0 (nI i0) 0 scl)] sz)) 0 0 (va_A [(zo10ririliiriririr sc aTp (nI ts) aHl (nI nh) ed mi sn aHs (nI n) aWk (nI wz) aBk (nI bz) aFc), (zaI aFc cFc 6 fFc), (zo5iiii gS 0 (nI i0) 0 scl)] sz) := by
  refine met_ofQ (cc := cX8_reachOf) (maxL := 4) (ret := (some .int)) (by decide) rfl ?_
  intro p e s m args below meth c s₁ Q B hml hv hQ
  obtain ⟨rfl, hsz, hP, hK, hD0, hG, hZ⟩ := hv
  have hx := B.exec
  have hb := B.bytes
  have hr := B.returns
  have hts := atoms_spec (ws := wsX8_reachOf) B.pre
  have hown : s.vm.findClass RX8 = some m.cls := findClass_of_methodNamed B.named
  have hlocks := B.notSynchronized
  subst hsz
  have hD := hD0.self (sz := s.heap.size)
  generalize hAe : va_A [(zo10ririliiriririr sc aTp (nI ts) aHl (nI nh) ed mi sn aHs (nI n) aWk (nI wz) aBk (nI bz) aFc), (zaI aFc cFc 6 fFc), (zo5iiii gS 0 (nI i0) 0 scl)] s.heap.size = A at hD hQ hG hZ ⊢
  have hA : ∀ q : Nat, s.heap.size ≤ q → A q := fun q h => by rw [← hAe]; exact Or.inr h
  have hS : va_S A s.heap s.heap [] := va_S.rf
  have hl := lv_entry [.ref sc, .ref gS, .int y] (n := 4) (Nat.le_of_ble_eq_true rfl)
  rw [lg_entry_eq]
  generalize (lg_sl [.ref sc, .ref gS, .int y] ++ List.replicate (4 - (lg_sl [.ref sc, .ref gS, .int y]).length) Slot.unset).toArray = ls at hl ⊢
  generalize hag : ([.ref sc, .ref gS, .int y] : List Value).toArray = args at hts hQ ⊢
  have hl : lv_has ls 4 [(0, .ref sc), (1, .ref gS), (2, .int y)] := hl
  obtain ⟨H, hH⟩ : ∃ H : Heap, H = s.heap := ⟨_, rfl⟩
  rw [← hH] at hP
  rw [← hH]
  have hS : va_S A s.heap H [] := by rw [hH]; exact hS
  obtain ⟨locs, hlo⟩ : ∃ L : List Loc, L = [] := ⟨_, rfl⟩
  rw [← hlo] at hS
  rw [← hlo]
  clear hH hlo
  refine lv_aload_n hx hb dX8_reachOf_0 rfl (lv_at hl 0 rfl) ?_
  refine lv_aload_n hx hb dX8_reachOf_1 rfl (lv_at hl 1 rfl) ?_
  refine va_get (D := (dC, dI)) (ci := 5) (v := .int (nI i0)) (C := RX3) (T := TX3) (N := 4) hx hb hts kc_xReachS_0 hown hK hP 2 rfl rfl 1 (by decide) (hts (.fieldLink RX8 76 "MistHeaps$Heap" "number" "I") kc_xReachS_1) (fun _ h9 => h9) rfl dX8_reachOf_2 ?_
  refine lv_aload_n hx hb dX8_reachOf_5 rfl (lv_at hl 1 rfl) ?_
  refine va_get (D := (dC, dI)) (ci := 5) (v := .int 0) (C := RX3) (T := TX3) (N := 4) hx hb hts kc_xReachS_0 hown hK hP 2 rfl rfl 0 (by decide) (hts (.fieldLink RX8 79 "MistHeaps$Heap" "kind" "I") kc_xReachS_2) (fun _ h9 => h9) rfl dX8_reachOf_6 ?_
  refine lv_aload_n hx hb dX8_reachOf_9 rfl (lv_at hl 1 rfl) ?_
  refine va_get (D := (dC, dI)) (ci := 5) (v := .int scl) (C := RX3) (T := TX3) (N := 4) hx hb hts kc_xReachS_0 hown hK hP 2 rfl rfl 3 (by decide) (hts (.fieldLink RX8 73 "MistHeaps$Heap" "cell" "I") kc_xReachS_3) (fun _ h9 => h9) rfl dX8_reachOf_10 ?_
  refine lv_iload_n hx hb dX8_reachOf_13 rfl (lv_at hl 2 rfl) ?_
  have hPc := hP.sub (ws' := [(zo10ririliiriririr sc aTp (nI ts) aHl (nI nh) ed mi sn aHs (nI n) aWk (nI wz) aBk (nI bz) aFc), (zaI aFc cFc 6 fFc)]) [0, 1] rfl
  have hDc := hD.sub (ws' := [(zo10ririliiriririr sc aTp (nI ts) aHl (nI nh) ed mi sn aHs (nI n) aWk (nI wz) aBk (nI bz) aFc), (zaI aFc cFc 6 fFc)]) [0, 1] (by decide) rfl
  have hKc := hK.sub (tys' := [(cFc, .int)]) [0] rfl
  have hFc := va_free (wc := [(zo10ririliiriririr sc aTp (nI ts) aHl (nI nh) ed mi sn aHs (nI n) aWk (nI wz) aBk (nI bz) aFc), (zaI aFc cFc 6 fFc)]) hD hS hA [0, 1] rfl
  refine va_callv (va_runV (As := [.int (nI i0), .int 0, .int scl, .int y]) (rest := []) ⟨hx, hb, hml, hown, hts⟩ (c_tellFacts l dC dI gd sc aTp aHl aHs aWk aBk aFc ts nh n wz bz mi sn y (nI i0) 0 scl ed cFc fFc H.size) (cwV 4 hts gX8_reachOf_X8_tellFacts rfl rfl rfl hd_yX8_tellFacts ⟨Nat.le_of_ble_eq_true rfl, Nat.le_of_ble_eq_true rfl⟩) ⟨fun a U g mk q => by obtain ⟨q0, q1, qP, qK, qD, qhG⟩ := q; exact ⟨q0, q1, qP, va_K.moved (u := U) (U := U.calling g mk a) (Vm.Alike.refl U.vm) qK, qD, qhG.same rfl rfl⟩, va_recv hK hP (ci := 10) (q := (RX8, TX8, 14)) (q0 := 0) rfl rfl, fun U hU hW => ⟨rfl, by rw [hU], by rw [hU]; exact hPc, va_K.moved hW.alike hKc, hDc.weaken (fun _ _ _ _ => trivial), hG.call hS hU hW (fun q h => hFc q h)⟩⟩ rfl rfl hl.1 rfl (lv_room (Nat.le_of_ble_eq_true rfl)) dX8_reachOf_14 ⟨Nat.le_of_ble_eq_true rfl, Nat.le_of_ble_eq_true rfl⟩) hS (fun q _ h => hFc q h) hFc (fun u tC H1 locs htC hvm hw_2 hB hz1 hk1 hS => ?_)
  obtain ⟨fFc9_3, rfl⟩ : ∃ z, z = u := ⟨_, rfl⟩
  try dsimp only at hw_2 hB
  obtain ⟨hP1, hK1, hD1⟩ := hB
  rw [htC] at hP1
  have hK1 := va_K.moved hvm.symm hK1
  obtain ⟨hP, hD⟩ := va_join (wr := [(zo5iiii gS 0 (nI i0) 0 scl)]) (w1 := [(zo10ririliiriririr sc aTp (nI ts) aHl (nI nh) ed mi sn aHs (nI n) aWk (nI wz) aBk (nI bz) aFc), (zaI aFc cFc 6 fFc9_3)]) hP hD [0, 1] [2] rfl rfl (by decide) (by decide) hk1 hFc hP1 hD1
  have hK := (hK.sub (tys' := []) [] rfl).app hK1
  generalize H1 = H at hP hS ⊢
  have hP : va_P (dC, dI) vwCl [(zo5iiii gS 0 (nI i0) 0 scl), (zo10ririliiriririr sc aTp (nI ts) aHl (nI nh) ed mi sn aHs (nI n) aWk (nI wz) aBk (nI bz) aFc), (zaI aFc cFc 6 fFc9_3)] H := hP
  have hD : va_D A [(zo5iiii gS 0 (nI i0) 0 scl), (zo10ririliiriririr sc aTp (nI ts) aHl (nI nh) ed mi sn aHs (nI n) aWk (nI wz) aBk (nI bz) aFc), (zaI aFc cFc 6 fFc9_3)] := hD
  have hK : va_K (dC, dI) vwCl [(cFc, .int)] s := hK
  refine lv_aload_n hx hb dX8_reachOf_17 rfl (lv_at hl 0 rfl) ?_
  refine va_get (D := (dC, dI)) (ci := 10) (v := .ref aHl) (C := RX8) (T := TX8) (N := 14) hx hb hts kc_xReachS_4 hown hK hP 1 rfl rfl 2 (by decide) (hts (.fieldLink RX8 18 "MistHeaps$Scene" "hill" "LMistHeaps$Hill;") kc_xReachS_5) (fun _ h9 => h9) rfl dX8_reachOf_18 ?_
  refine va_get (D := (dC, dI)) (ci := 7) (v := .int sg) (C := RX5) (T := TX5) (N := 11) hx hb hts kc_xReachS_7 hown hZ.2.1 (hZ.P hS) 0 rfl rfl 0 (by decide) (hts (.fieldLink RX8 86 "MistHeaps$Hill" "sight" "I") kc_xReachS_6) (fun _ h9 => h9) rfl dX8_reachOf_21 ?_
  refine lv_aload_n hx hb dX8_reachOf_24 rfl (lv_at hl 0 rfl) ?_
  refine va_get (D := (dC, dI)) (ci := 10) (v := .ref aHl) (C := RX8) (T := TX8) (N := 14) hx hb hts kc_xReachS_4 hown hK hP 1 rfl rfl 2 (by decide) (hts (.fieldLink RX8 18 "MistHeaps$Scene" "hill" "LMistHeaps$Hill;") kc_xReachS_5) (fun _ h9 => h9) rfl dX8_reachOf_25 ?_
  refine lv_iconst (v := 0) hx hb dX8_reachOf_28 (by decide) ?_
  refine lv_aload_n hx hb dX8_reachOf_29 rfl (lv_at hl 0 rfl) ?_
  refine va_get (D := (dC, dI)) (ci := 10) (v := .ref aFc) (C := RX8) (T := TX8) (N := 14) hx hb hts kc_xReachS_4 hown hK hP 1 rfl rfl 13 (by decide) (hts (.fieldLink RX8 34 "MistHeaps$Scene" "facts" "[I") kc_xReachS_8) (fun _ h9 => h9) rfl dX8_reachOf_30 ?_
  have hPc := hP.sub (ws' := [(zaI aFc cFc 6 fFc9_3)]) [2] rfl
  have hKc := hK.sub (tys' := [(cFc, .int)]) [0] rfl
  refine vp_callSi (va_runV (As := [.int 0, .ref aFc]) (rest := [.int sg]) ⟨hx, hb, hml, hown, hts⟩ (c_total l dC dI  aHl aFc bW bA bE bC cl sg cdd szz att nmb cFc cbW cbA cbE cbC fFc9_3 fbW fbA fbE fbC tpv cz 0 (by omega) (zcl) (zE) (zC) (zHC)) (cwV 2 hts gX8_reachOf_X5_total rfl rfl rfl hd_yX5_total ⟨Nat.le_of_ble_eq_true rfl, Nat.le_of_ble_eq_true rfl⟩) ⟨fun a U g mk q => by obtain ⟨q0, qP, qK, qhZ⟩ := q; exact ⟨q0, qP, va_K.moved (u := U) (U := U.calling g mk a) (Vm.Alike.refl U.vm) qK, qhZ.same rfl rfl⟩, va_recv hZ.2.1 (hZ.P hS) (ci := 7) (q := (RX5, TX5, 11)) (q0 := 0) rfl rfl, fun U hU hW => ⟨rfl, by rw [hU]; exact hPc, va_K.moved hW.alike hKc, (hZ.sub [0, 1, 2, 3, 4] [0, 1, 2, 3] rfl rfl).callF hS hU hW⟩⟩ rfl rfl hl.1 rfl (lv_room (Nat.le_of_ble_eq_true rfl)) dX8_reachOf_33 ⟨Nat.le_of_ble_eq_true rfl, Nat.le_of_ble_eq_true rfl⟩).run (fun r_4 hw_5 => ?_)
  refine lv_iadd hx hb dX8_reachOf_36 ?_
  refine lv_aload_n hx hb dX8_reachOf_37 rfl (lv_at hl 0 rfl) ?_
  refine va_get (D := (dC, dI)) (ci := 10) (v := .ref aHl) (C := RX8) (T := TX8) (N := 14) hx hb hts kc_xReachS_4 hown hK hP 1 rfl rfl 2 (by decide) (hts (.fieldLink RX8 18 "MistHeaps$Scene" "hill" "LMistHeaps$Hill;") kc_xReachS_5) (fun _ h9 => h9) rfl dX8_reachOf_38 ?_
  refine lv_iconst (v := 1) hx hb dX8_reachOf_41 (by decide) ?_
  refine lv_aload_n hx hb dX8_reachOf_42 rfl (lv_at hl 0 rfl) ?_
  refine va_get (D := (dC, dI)) (ci := 10) (v := .ref aFc) (C := RX8) (T := TX8) (N := 14) hx hb hts kc_xReachS_4 hown hK hP 1 rfl rfl 13 (by decide) (hts (.fieldLink RX8 34 "MistHeaps$Scene" "facts" "[I") kc_xReachS_8) (fun _ h9 => h9) rfl dX8_reachOf_43 ?_
  have hPc := hP.sub (ws' := [(zaI aFc cFc 6 fFc9_3)]) [2] rfl
  have hKc := hK.sub (tys' := [(cFc, .int)]) [0] rfl
  refine vp_callSi (va_runV (As := [.int 1, .ref aFc]) (rest := [.int (sg + r_4)]) ⟨hx, hb, hml, hown, hts⟩ (c_total l dC dI  aHl aFc bW bA bE bC cl sg cdd szz att nmb cFc cbW cbA cbE cbC fFc9_3 fbW fbA fbE fbC tpv cz 1 (by omega) (zcl) (zE) (zC) (zHC)) (cwV 2 hts gX8_reachOf_X5_total rfl rfl rfl hd_yX5_total ⟨Nat.le_of_ble_eq_true rfl, Nat.le_of_ble_eq_true rfl⟩) ⟨fun a U g mk q => by obtain ⟨q0, qP, qK, qhZ⟩ := q; exact ⟨q0, qP, va_K.moved (u := U) (U := U.calling g mk a) (Vm.Alike.refl U.vm) qK, qhZ.same rfl rfl⟩, va_recv hZ.2.1 (hZ.P hS) (ci := 7) (q := (RX5, TX5, 11)) (q0 := 0) rfl rfl, fun U hU hW => ⟨rfl, by rw [hU]; exact hPc, va_K.moved hW.alike hKc, (hZ.sub [0, 1, 2, 3, 4] [0, 1, 2, 3] rfl rfl).callF hS hU hW⟩⟩ rfl rfl hl.1 rfl (lv_room (Nat.le_of_ble_eq_true rfl)) dX8_reachOf_46 ⟨Nat.le_of_ble_eq_true rfl, Nat.le_of_ble_eq_true rfl⟩).run (fun r_6 hw_7 => ?_)
  refine lv_isub hx hb dX8_reachOf_49 ?_
  refine lv_aload_n hx hb dX8_reachOf_50 rfl (lv_at hl 0 rfl) ?_
  refine va_get (D := (dC, dI)) (ci := 10) (v := .int mi) (C := RX8) (T := TX8) (N := 14) hx hb hts kc_xReachS_4 hown hK hP 1 rfl rfl 5 (by decide) (hts (.fieldLink RX8 54 "MistHeaps$Scene" "mist" "I") kc_xReachS_9) (fun _ h9 => h9) rfl dX8_reachOf_51 ?_
  refine lv_isub hx hb dX8_reachOf_54 ?_
  refine lv_istore_n (lv' := [(3, .int (((sg + r_4) - r_6) - mi)), (0, .ref sc), (1, .ref gS), (2, .int y)]) hx hb dX8_reachOf_55 rfl hl (by decide) rfl (fun ls hl => ?_)
  refine lv_aload_n hx hb dX8_reachOf_56 rfl (lv_at hl 2 rfl) ?_
  refine lv_iload_n hx hb dX8_reachOf_57 rfl (lv_at hl 0 rfl) ?_
  refine lv_iload_n hx hb dX8_reachOf_58 rfl (lv_at hl 3 rfl) ?_
  have hPc := hP.sub (ws' := [(zo5iiii gS 0 (nI i0) 0 scl)]) [0] rfl
  have hKc := hK.sub (tys' := []) [] rfl
  refine vp_callSi (va_runV (As := [.int (((sg + r_4) - r_6) - mi), .int y]) (rest := []) ⟨hx, hb, hml, hown, hts⟩ (c_reach3_S l dC dI gS i0 scl (((sg + r_4) - r_6) - mi) y) (cwV 2 hts gX8_reachOf_X3_reachBy rfl rfl rfl hd_yX3_reachBy ⟨Nat.le_of_ble_eq_true rfl, Nat.le_of_ble_eq_true rfl⟩) ⟨fun a U g mk q => by obtain ⟨q0, qP, qK⟩ := q; exact ⟨q0, qP, va_K.moved (u := U) (U := U.calling g mk a) (Vm.Alike.refl U.vm) qK⟩, va_recv hK hP (ci := 5) (q := (RX3, TX3, 4)) (q0 := 0) rfl rfl, fun U hU hW => ⟨rfl, by rw [hU]; exact hPc, va_K.moved hW.alike hKc⟩⟩ rfl rfl hl.1 rfl (lv_room (Nat.le_of_ble_eq_true rfl)) dX8_reachOf_59 ⟨Nat.le_of_ble_eq_true rfl, Nat.le_of_ble_eq_true rfl⟩).run (fun r_8 hw_9 => ?_)
  rw [hQ]
  have hP9 := hP.sub (ws' := [(zo10ririliiriririr sc aTp (nI ts) aHl (nI nh) ed mi sn aHs (nI n) aWk (nI wz) aBk (nI bz) aFc), (zaI aFc cFc 6 fFc9_3), (zo5iiii gS 0 (nI i0) 0 scl)]) [1, 2, 0] rfl
  have hD9 := hD.sub (ws' := [(zo10ririliiriririr sc aTp (nI ts) aHl (nI nh) ed mi sn aHs (nI n) aWk (nI wz) aBk (nI bz) aFc), (zaI aFc cFc 6 fFc9_3), (zo5iiii gS 0 (nI i0) 0 scl)]) [1, 2, 0] (by decide) rfl
  have hK9 := hK.sub (tys' := [(cFc, .int)]) [0] rfl
  exact W.iret (v := r_8) hx hb hr (fun tQ htQ hWQ => ⟨⟨r_8, fFc9_3, rfl, rv_0 ⟨_, rv_p hw_2 hw_5 hw_7 zHC.1.2.1, hw_9⟩ rfl, by rw [htQ]; exact hP9, va_K.moved hWQ.alike hK9, hD9⟩, hS.F htQ⟩) hS.2.2 dX8_reachOf_62

theorem kc_xDriftOn_0 : ∀ w ∈ wsX80, w ∈ wsX8_driftOn := fun w h => List.mem_cons_of_mem _ (gin_wsX80 w h)
theorem kc_xDriftOn_1 : (.fieldLink RX8 57 "MistHeaps$Scene" "snow" "I" : Cond) ∈ wsX8_driftOn := kc_of 165 rfl rfl rfl
theorem kc_xDriftOn_2 : (.fieldLink RX8 18 "MistHeaps$Scene" "hill" "LMistHeaps$Hill;" : Cond) ∈ wsX8_driftOn := kc_of 156 rfl rfl rfl
theorem kc_xDriftOn_3 : (.fieldLink RX8 34 "MistHeaps$Scene" "facts" "[I" : Cond) ∈ wsX8_driftOn := kc_of 184 rfl rfl rfl
theorem kc_xDriftOn_4 : (.methodLink RX8 97 Lib.Math.min.name : Cond) ∈ wsX8_driftOn := kc_of 810 rfl rfl rfl
theorem kc_xDriftOn_5 : (.static Lib.Math.min.name : Cond) ∈ wsX8_driftOn := kc_of 477 rfl rfl rfl
theorem kc_xDriftOn_6 : (.initialized "java/lang/Math" : Cond) ∈ wsX8_driftOn := kc_of 77 rfl rfl rfl
theorem kc_xDriftOn_7 : (.code Lib.Math.min.name Lib.Math.min.code 2 (some .int) : Cond) ∈ wsX8_driftOn := kc_of 478 rfl rfl rfl
set_option maxHeartbeats 4000000 in
set_option maxRecDepth 100000 in
theorem c_xDriftOn (l : Launch) (dC : Nat → ClassId) (dI : Nat → Nat → Nat) (gd : Nat → Nat)  (sc : Nat) (aTp : Nat) (aHl : Nat) (aHs : Nat) (aWk : Nat) (aBk : Nat) (aFc : Nat) (bW : Nat) (bA : Nat) (bE : Nat) (bC : Nat) (ts : Nat) (nh : Nat) (n : Nat) (wz : Nat) (bz : Nat) (cl : Nat) (mi : Int32) (sn : Int32) (sg : Int32) (cdd : Int32) (szz : Int32) (att : Int32) (nmb : Int32) (x : Int32) (ed : Int64) (cFc : ClassId) (cbW : ClassId) (cbA : ClassId) (cbE : ClassId) (cbC : ClassId) (fFc : Nat → Int32) (fbW : Nat → Int32) (fbA : Nat → Int32) (fbE : Nat → Int32) (fbC : Nat → Int32) (tpv : Value) (cz : List pCla) (sz : Nat) (zcl : cl ≤ 10) (zE : ∀ k0, k0 < 10 → ∃ e0 : Nat, e0 ≤ 100 ∧ fbE k0 = nI e0) (zC : ∀ k0, k0 < 100 → okC (fbC k0)) (zHC : HC cl sg fbW fbA fbE fbC cz ∧ WfC cz) : Met l yX8_driftOn wsX8_driftOn ({ frames := 3, cells := 0, slots := 0, locals := 73 } : Room) (va_Pc [.ref sc, .int x] (fun U => U.heap.size = sz ∧ va_P (dC, dI) vwCl [(zo10ririliiriririr sc aTp (nI ts) aHl (nI nh) ed mi sn aHs (nI n) aWk (nI wz) aBk (nI bz) aFc), (zaI aFc cFc 6 fFc)] U.heap ∧ va_K (dC, dI) vwCl [(cFc, .int)] U ∧ va_D (fun _ => True) [(zo10ririliiriririr sc aTp (nI ts) aHl (nI nh) ed mi sn aHs (nI n) aWk (nI wz) aBk (nI bz) aFc), (zaI aFc cFc 6 fFc)] ∧ Gl gd (va_A [(zo10ririliiriririr sc aTp (nI ts) aHl (nI nh) ed mi sn aHs (nI n) aWk (nI wz) aBk (nI bz) aFc), (zaI aFc cFc 6 fFc)] sz) U ∧ Fz dC dI [(zo7iirrrriviii aHl sg (nI cl) bW bA bE bC cdd tpv szz att nmb), (zaI bW cbW 10 fbW), (zaI bA cbA 10 fbA), (zaI bE cbE 10 fbE), (zaI bC cbC 100 fbC)] [(cbW, .int), (cbA, .int), (cbE, .int), (cbC, .int)] (va_A [(zo10ririliiriririr sc aTp (nI ts) aHl (nI nh) ed mi sn aHs (nI n) aWk (nI wz) aBk (nI bz) aFc), (zaI aFc cFc 6 fFc)] sz) U)) (va_Qi (fun (r : Int32) (u : Nat → Int32) => match u with | fFc9 => r = DRV cz mi sn x) (fun (u : Nat → Int32) (t : State) => match u with | fFc9 => va_P (dC, dI) vwCl [(zo10ririliiriririr sc aTp (nI ts) aHl (nI nh) ed mi sn aHs (nI n) aWk (nI wz) aBk (nI bz) aFc), (zaI aFc cFc 6 fFc9)] t.heap ∧ va_K (dC, dI) vwCl [(cFc, .int)] t ∧ va_D (va_A [(zo10ririliiriririr sc aTp (nI ts) aHl (nI nh) ed mi sn aHs (nI n) aWk (nI wz) aBk (nI bz) aFc), (zaI aFc cFc 6 fFc)] sz) [(zo10ririliiriririr sc aTp (nI ts) aHl (nI nh) ed mi sn aHs (nI n) aWk (nI wz) aBk (nI bz) aFc), (zaI aFc cFc 6 fFc9)]) (va_A [(zo10ririliiriririr sc aTp (nI ts) aHl (nI nh) ed mi sn aHs (nI n) aWk (nI wz) aBk (nI bz) aFc), (zaI aFc cFc 6 fFc)] sz)) 0 0 (va_A [(zo10ririliiriririr sc aTp (nI ts) aHl (nI nh) ed mi sn aHs (nI n) aWk (nI wz) aBk (nI bz) aFc), (zaI aFc cFc 6 fFc)] sz) := by
  refine met_ofQ (cc := cX8_driftOn) (maxL := 2) (ret := (some .int)) (by decide) rfl ?_
  intro p e s m args below meth c s₁ Q B hml hv hQ
  obtain ⟨rfl, hsz, hP, hK, hD0, hG, hZ⟩ := hv
  have hx := B.exec
  have hb := B.bytes
  have hr := B.returns
  have hts := atoms_spec (ws := wsX8_driftOn) B.pre
  have hown : s.vm.findClass RX8 = some m.cls := findClass_of_methodNamed B.named
  have hlocks := B.notSynchronized
  subst hsz
  have hD := hD0.self (sz := s.heap.size)
  generalize hAe : va_A [(zo10ririliiriririr sc aTp (nI ts) aHl (nI nh) ed mi sn aHs (nI n) aWk (nI wz) aBk (nI bz) aFc), (zaI aFc cFc 6 fFc)] s.heap.size = A at hD hQ hG hZ ⊢
  have hA : ∀ q : Nat, s.heap.size ≤ q → A q := fun q h => by rw [← hAe]; exact Or.inr h
  have hS : va_S A s.heap s.heap [] := va_S.rf
  have hl := lv_entry [.ref sc, .int x] (n := 2) (Nat.le_of_ble_eq_true rfl)
  rw [lg_entry_eq]
  generalize (lg_sl [.ref sc, .int x] ++ List.replicate (2 - (lg_sl [.ref sc, .int x]).length) Slot.unset).toArray = ls at hl ⊢
  generalize hag : ([.ref sc, .int x] : List Value).toArray = args at hts hQ ⊢
  have hl : lv_has ls 2 [(0, .ref sc), (1, .int x)] := hl
  obtain ⟨H, hH⟩ : ∃ H : Heap, H = s.heap := ⟨_, rfl⟩
  rw [← hH] at hP
  rw [← hH]
  have hS : va_S A s.heap H [] := by rw [hH]; exact hS
  obtain ⟨locs, hlo⟩ : ∃ L : List Loc, L = [] := ⟨_, rfl⟩
  rw [← hlo] at hS
  rw [← hlo]
  clear hH hlo
  refine lv_aload_n hx hb dX8_driftOn_0 rfl (lv_at hl 0 rfl) ?_
  refine lv_bipush (v := 99) hx hb dX8_driftOn_1 (by decide) ?_
  refine lv_bipush (v := 99) hx hb dX8_driftOn_3 (by decide) ?_
  refine lv_iload_n hx hb dX8_driftOn_5 rfl (lv_at hl 1 rfl) ?_
  refine lv_aload_n hx hb dX8_driftOn_6 rfl (lv_at hl 0 rfl) ?_
  refine va_get (D := (dC, dI)) (ci := 10) (v := .int sn) (C := RX8) (T := TX8) (N := 14) hx hb hts kc_xDriftOn_0 hown hK hP 0 rfl rfl 6 (by decide) (hts (.fieldLink RX8 57 "MistHeaps$Scene" "snow" "I") kc_xDriftOn_1) (fun _ h9 => h9) rfl dX8_driftOn_7 ?_
  have hPc := hP.sub (ws' := [(zo10ririliiriririr sc aTp (nI ts) aHl (nI nh) ed mi sn aHs (nI n) aWk (nI wz) aBk (nI bz) aFc), (zaI aFc cFc 6 fFc)]) [0, 1] rfl
  have hDc := hD.sub (ws' := [(zo10ririliiriririr sc aTp (nI ts) aHl (nI nh) ed mi sn aHs (nI n) aWk (nI wz) aBk (nI bz) aFc), (zaI aFc cFc 6 fFc)]) [0, 1] (by decide) rfl
  have hKc := hK.sub (tys' := [(cFc, .int)]) [0] rfl
  have hFc := va_free (wc := [(zo10ririliiriririr sc aTp (nI ts) aHl (nI nh) ed mi sn aHs (nI n) aWk (nI wz) aBk (nI bz) aFc), (zaI aFc cFc 6 fFc)]) hD hS hA [0, 1] rfl
  refine va_callv (va_runV (As := [.int 99, .int 99, .int x, .int sn]) (rest := []) ⟨hx, hb, hml, hown, hts⟩ (c_tellFacts l dC dI gd sc aTp aHl aHs aWk aBk aFc ts nh n wz bz mi sn sn 99 99 x ed cFc fFc H.size) (cwV 4 hts gX8_driftOn_X8_tellFacts rfl rfl rfl hd_yX8_tellFacts ⟨Nat.le_of_ble_eq_true rfl, Nat.le_of_ble_eq_true rfl⟩) ⟨fun a U g mk q => by obtain ⟨q0, q1, qP, qK, qD, qhG⟩ := q; exact ⟨q0, q1, qP, va_K.moved (u := U) (U := U.calling g mk a) (Vm.Alike.refl U.vm) qK, qD, qhG.same rfl rfl⟩, va_recv hK hP (ci := 10) (q := (RX8, TX8, 14)) (q0 := 0) rfl rfl, fun U hU hW => ⟨rfl, by rw [hU], by rw [hU]; exact hPc, va_K.moved hW.alike hKc, hDc.weaken (fun _ _ _ _ => trivial), hG.call hS hU hW (fun q h => hFc q h)⟩⟩ rfl rfl hl.1 rfl (lv_room (Nat.le_of_ble_eq_true rfl)) dX8_driftOn_10 ⟨Nat.le_of_ble_eq_true rfl, Nat.le_of_ble_eq_true rfl⟩) hS (fun q _ h => hFc q h) hFc (fun u tC H1 locs htC hvm hw_2 hB hz1 hk1 hS => ?_)
  obtain ⟨fFc9_3, rfl⟩ : ∃ z, z = u := ⟨_, rfl⟩
  try dsimp only at hw_2 hB
  obtain ⟨hP1, hK1, hD1⟩ := hB
  rw [htC] at hP1
  have hK1 := va_K.moved hvm.symm hK1
  obtain ⟨hP, hD⟩ := va_join (wr := []) (w1 := [(zo10ririliiriririr sc aTp (nI ts) aHl (nI nh) ed mi sn aHs (nI n) aWk (nI wz) aBk (nI bz) aFc), (zaI aFc cFc 6 fFc9_3)]) hP hD [0, 1] [] rfl rfl (by decide) (by decide) hk1 hFc hP1 hD1
  have hK := (hK.sub (tys' := []) [] rfl).app hK1
  generalize H1 = H at hP hS ⊢
  have hP : va_P (dC, dI) vwCl [(zo10ririliiriririr sc aTp (nI ts) aHl (nI nh) ed mi sn aHs (nI n) aWk (nI wz) aBk (nI bz) aFc), (zaI aFc cFc 6 fFc9_3)] H := hP
  have hD : va_D A [(zo10ririliiriririr sc aTp (nI ts) aHl (nI nh) ed mi sn aHs (nI n) aWk (nI wz) aBk (nI bz) aFc), (zaI aFc cFc 6 fFc9_3)] := hD
  have hK : va_K (dC, dI) vwCl [(cFc, .int)] s := hK
  refine lv_iconst (v := 5) hx hb dX8_driftOn_13 (by decide) ?_
  refine lv_aload_n hx hb dX8_driftOn_14 rfl (lv_at hl 0 rfl) ?_
  refine va_get (D := (dC, dI)) (ci := 10) (v := .ref aHl) (C := RX8) (T := TX8) (N := 14) hx hb hts kc_xDriftOn_0 hown hK hP 0 rfl rfl 2 (by decide) (hts (.fieldLink RX8 18 "MistHeaps$Scene" "hill" "LMistHeaps$Hill;") kc_xDriftOn_2) (fun _ h9 => h9) rfl dX8_driftOn_15 ?_
  refine lv_iconst (v := 3) hx hb dX8_driftOn_18 (by decide) ?_
  refine lv_aload_n hx hb dX8_driftOn_19 rfl (lv_at hl 0 rfl) ?_
  refine va_get (D := (dC, dI)) (ci := 10) (v := .ref aFc) (C := RX8) (T := TX8) (N := 14) hx hb hts kc_xDriftOn_0 hown hK hP 0 rfl rfl 13 (by decide) (hts (.fieldLink RX8 34 "MistHeaps$Scene" "facts" "[I") kc_xDriftOn_3) (fun _ h9 => h9) rfl dX8_driftOn_20 ?_
  have hPc := hP.sub (ws' := [(zaI aFc cFc 6 fFc9_3)]) [1] rfl
  have hKc := hK.sub (tys' := [(cFc, .int)]) [0] rfl
  refine vp_callSi (va_runV (As := [.int 3, .ref aFc]) (rest := [.int 5]) ⟨hx, hb, hml, hown, hts⟩ (c_total l dC dI  aHl aFc bW bA bE bC cl sg cdd szz att nmb cFc cbW cbA cbE cbC fFc9_3 fbW fbA fbE fbC tpv cz 3 (by omega) (zcl) (zE) (zC) (zHC)) (cwV 2 hts gX8_driftOn_X5_total rfl rfl rfl hd_yX5_total ⟨Nat.le_of_ble_eq_true rfl, Nat.le_of_ble_eq_true rfl⟩) ⟨fun a U g mk q => by obtain ⟨q0, qP, qK, qhZ⟩ := q; exact ⟨q0, qP, va_K.moved (u := U) (U := U.calling g mk a) (Vm.Alike.refl U.vm) qK, qhZ.same rfl rfl⟩, va_recv hZ.2.1 (hZ.P hS) (ci := 7) (q := (RX5, TX5, 11)) (q0 := 0) rfl rfl, fun U hU hW => ⟨rfl, by rw [hU]; exact hPc, va_K.moved hW.alike hKc, (hZ.sub [0, 1, 2, 3, 4] [0, 1, 2, 3] rfl rfl).callF hS hU hW⟩⟩ rfl rfl hl.1 rfl (lv_room (Nat.le_of_ble_eq_true rfl)) dX8_driftOn_23 ⟨Nat.le_of_ble_eq_true rfl, Nat.le_of_ble_eq_true rfl⟩).run (fun r_4 hw_5 => ?_)
  refine va_mmin hx hb (by rw [hml]; exact hl.1.symm) hown (hts (.methodLink RX8 97 Lib.Math.min.name) kc_xDriftOn_4) (hts (.static Lib.Math.min.name) kc_xDriftOn_5) (hts (.initialized "java/lang/Math") kc_xDriftOn_6) (hts (.code Lib.Math.min.name Lib.Math.min.code 2 (some .int)) kc_xDriftOn_7) (Nat.le_of_ble_eq_true rfl) (Nat.le_of_ble_eq_true rfl) (Nat.le_of_ble_eq_true rfl) (Nat.le_of_ble_eq_true rfl) dX8_driftOn_26 ?_
  rw [hQ]
  have hP9 := hP.sub (ws' := [(zo10ririliiriririr sc aTp (nI ts) aHl (nI nh) ed mi sn aHs (nI n) aWk (nI wz) aBk (nI bz) aFc), (zaI aFc cFc 6 fFc9_3)]) [0, 1] rfl
  have hD9 := hD.sub (ws' := [(zo10ririliiriririr sc aTp (nI ts) aHl (nI nh) ed mi sn aHs (nI n) aWk (nI wz) aBk (nI bz) aFc), (zaI aFc cFc 6 fFc9_3)]) [0, 1] (by decide) rfl
  have hK9 := hK.sub (tys' := [(cFc, .int)]) [0] rfl
  exact W.iret (v := (if r_4 < 5 then r_4 else 5)) hx hb hr (fun tQ htQ hWQ => ⟨⟨(if r_4 < 5 then r_4 else 5), fFc9_3, rfl, drv_c hw_2 hw_5, by rw [htQ]; exact hP9, va_K.moved hWQ.alike hK9, hD9⟩, hS.F htQ⟩) hS.2.2 dX8_driftOn_29

theorem kc_cellsSeeing_0 : ∀ w ∈ wsX80, w ∈ wsX8_cellsSeeing := fun w h => List.mem_cons_of_mem _ (gin_wsX80 w h)
theorem kc_cellsSeeing_1 : (.fieldLink RX8 57 "MistHeaps$Scene" "snow" "I" : Cond) ∈ wsX8_cellsSeeing := kc_of 165 rfl rfl rfl
theorem kc_cellsSeeing_2 : (.fieldLink RX8 73 "MistHeaps$Heap" "cell" "I" : Cond) ∈ wsX8_cellsSeeing := kc_of 250 rfl rfl rfl
theorem kc_cellsSeeing_4 : (.initialized RX11 : Cond) ∈ wsX8_cellsSeeing := kc_of 63 rfl rfl rfl
theorem kc_cellsSeeing_5 : (.static yX11_apart : Cond) ∈ wsX8_cellsSeeing := kc_of 699 rfl rfl rfl
theorem kc_cellsSeeing_3 : ∀ C ∈ hpC, ∀ w ∈ u_ws C.1 C.2.1 C.2.2, w ∈ wsX8_cellsSeeing := by decide +kernel
set_option maxHeartbeats 4000000 in
set_option maxRecDepth 100000 in
theorem c_cellsSeeing (l : Launch) (dC : Nat → ClassId) (dI : Nat → Nat → Nat) (gd : Nat → Nat)    (sc : Nat) (aTp : Nat) (aHl : Nat) (aHs : Nat) (aWk : Nat) (aBk : Nat) (aFc : Nat) (bW : Nat) (bA : Nat) (bE : Nat) (bC : Nat) (ts : Nat) (nh : Nat) (n : Nat) (wz : Nat) (bz : Nat) (cl : Nat) (j : Nat) (mi : Int32) (sn : Int32) (sg : Int32) (cdd : Int32) (szz : Int32) (att : Int32) (nmb : Int32) (ed : Int64) (cHs : ClassId) (cFc : ClassId) (cbW : ClassId) (cbA : ClassId) (cbE : ClassId) (cbC : ClassId) (fFc : Nat → Int32) (fbW : Nat → Int32) (fbA : Nat → Int32) (fbE : Nat → Int32) (fbC : Nat → Int32) (yk : Nat → Int32) (yv : Nat → Int32) (yc : Nat → Int32) (fHs : Nat → Option Nat) (yi : Nat → Nat) (ya : Nat → Nat) (tpv : Value) (cz : List pCla) (sz : Nat) (hjn : j < n) (zhs : ∀ k0, k0 < n → fHs k0 = some (ya k0)) (hn8 : n ≤ 8) (zcl : cl ≤ 10) (zE : ∀ k0, k0 < 10 → ∃ e0 : Nat, e0 ≤ 100 ∧ fbE k0 = nI e0) (zC : ∀ k0, k0 < 100 → okC (fbC k0)) (zHC : HC cl sg fbW fbA fbE fbC cz ∧ WfC cz) (zyt : ∀ k0, k0 < n → hpT (yi k0) (yk k0)) : Met l yX8_cellsSeeing wsX8_cellsSeeing ({ frames := 5, cells := 0, slots := 0, locals := 102 } : Room) (va_Pc [.ref sc, .int (nI j)] (fun U => U.heap.size = sz ∧ va_P (dC, dI) vwCl [(zo10ririliiriririr sc aTp (nI ts) aHl (nI nh) ed mi sn aHs (nI n) aWk (nI wz) aBk (nI bz) aFc), (zaR aHs cHs 8 fHs), (zaI aFc cFc 6 fFc)] U.heap ∧ va_K (dC, dI) vwCl [(cHs, .object "MistHeaps$Heap"), (cFc, .int)] U ∧ va_D (fun _ => True) [(zo10ririliiriririr sc aTp (nI ts) aHl (nI nh) ed mi sn aHs (nI n) aWk (nI wz) aBk (nI bz) aFc), (zaR aHs cHs 8 fHs), (zaI aFc cFc 6 fFc)] ∧ Gl gd (va_A [(zo10ririliiriririr sc aTp (nI ts) aHl (nI nh) ed mi sn aHs (nI n) aWk (nI wz) aBk (nI bz) aFc), (zaR aHs cHs 8 fHs), (zaI aFc cFc 6 fFc)] sz) U ∧ Gw (va_A [(zo10ririliiriririr sc aTp (nI ts) aHl (nI nh) ed mi sn aHs (nI n) aWk (nI wz) aBk (nI bz) aFc), (zaR aHs cHs 8 fHs), (zaI aFc cFc 6 fFc)] sz) U ∧ Fz dC dI [(zo7iirrrriviii aHl sg (nI cl) bW bA bE bC cdd tpv szz att nmb), (zaI bW cbW 10 fbW), (zaI bA cbA 10 fbA), (zaI bE cbE 10 fbE), (zaI bC cbC 100 fbC)] [(cbW, .int), (cbA, .int), (cbE, .int), (cbC, .int)] (va_A [(zo10ririliiriririr sc aTp (nI ts) aHl (nI nh) ed mi sn aHs (nI n) aWk (nI wz) aBk (nI bz) aFc), (zaR aHs cHs 8 fHs), (zaI aFc cFc 6 fFc)] sz) U ∧ Hs dC dI n yi ya yk yv yc (va_A [(zo10ririliiriririr sc aTp (nI ts) aHl (nI nh) ed mi sn aHs (nI n) aWk (nI wz) aBk (nI bz) aFc), (zaR aHs cHs 8 fHs), (zaI aFc cFc 6 fFc)] sz) U)) (va_Ql (fun (r : Int64) (u : Nat → Int32) => match u with | fFc9 => True) (fun (u : Nat → Int32) (t : State) => match u with | fFc9 => va_P (dC, dI) vwCl [(zo10ririliiriririr sc aTp (nI ts) aHl (nI nh) ed mi sn aHs (nI n) aWk (nI wz) aBk (nI bz) aFc), (zaR aHs cHs 8 fHs), (zaI aFc cFc 6 fFc9)] t.heap ∧ va_K (dC, dI) vwCl [(cHs, .object "MistHeaps$Heap"), (cFc, .int)] t ∧ va_D (va_A [(zo10ririliiriririr sc aTp (nI ts) aHl (nI nh) ed mi sn aHs (nI n) aWk (nI wz) aBk (nI bz) aFc), (zaR aHs cHs 8 fHs), (zaI aFc cFc 6 fFc)] sz) [(zo10ririliiriririr sc aTp (nI ts) aHl (nI nh) ed mi sn aHs (nI n) aWk (nI wz) aBk (nI bz) aFc), (zaR aHs cHs 8 fHs), (zaI aFc cFc 6 fFc9)]) (va_A [(zo10ririliiriririr sc aTp (nI ts) aHl (nI nh) ed mi sn aHs (nI n) aWk (nI wz) aBk (nI bz) aFc), (zaR aHs cHs 8 fHs), (zaI aFc cFc 6 fFc)] sz)) 0 0 (va_A [(zo10ririliiriririr sc aTp (nI ts) aHl (nI nh) ed mi sn aHs (nI n) aWk (nI wz) aBk (nI bz) aFc), (zaR aHs cHs 8 fHs), (zaI aFc cFc 6 fFc)] sz) := by
  refine met_ofQ (cc := cX8_cellsSeeing) (maxL := 7) (ret := (some .long)) (by decide) rfl ?_
  intro p e s m args below meth c s₁ Q B hml hv hQ
  obtain ⟨rfl, hsz, hP, hK, hD0, hG, hW_, hZ, hH_⟩ := hv
  have hx := B.exec
  have hb := B.bytes
  have hr := B.returns
  have hts := atoms_spec (ws := wsX8_cellsSeeing) B.pre
  have hown : s.vm.findClass RX8 = some m.cls := findClass_of_methodNamed B.named
  have hlocks := B.notSynchronized
  subst hsz
  have hD := hD0.self (sz := s.heap.size)
  generalize hAe : va_A [(zo10ririliiriririr sc aTp (nI ts) aHl (nI nh) ed mi sn aHs (nI n) aWk (nI wz) aBk (nI bz) aFc), (zaR aHs cHs 8 fHs), (zaI aFc cFc 6 fFc)] s.heap.size = A at hD hQ hG hW_ hZ hH_ ⊢
  have hA : ∀ q : Nat, s.heap.size ≤ q → A q := fun q h => by rw [← hAe]; exact Or.inr h
  have hS : va_S A s.heap s.heap [] := va_S.rf
  have hl := lv_entry [.ref sc, .int (nI j)] (n := 7) (Nat.le_of_ble_eq_true rfl)
  rw [lg_entry_eq]
  generalize (lg_sl [.ref sc, .int (nI j)] ++ List.replicate (7 - (lg_sl [.ref sc, .int (nI j)]).length) Slot.unset).toArray = ls at hl ⊢
  generalize hag : ([.ref sc, .int (nI j)] : List Value).toArray = args at hts hQ ⊢
  have hl : lv_has ls 7 [(0, .ref sc), (1, .int (nI j))] := hl
  obtain ⟨H, hH⟩ : ∃ H : Heap, H = s.heap := ⟨_, rfl⟩
  rw [← hH] at hP
  rw [← hH]
  have hS : va_S A s.heap H [] := by rw [hH]; exact hS
  obtain ⟨locs, hlo⟩ : ∃ L : List Loc, L = [] := ⟨_, rfl⟩
  rw [← hlo] at hS
  rw [← hlo]
  clear hH hlo
  refine lv_aload_n hx hb dX8_cellsSeeing_0 rfl (lv_at hl 0 rfl) ?_
  refine lv_iload_n hx hb dX8_cellsSeeing_1 rfl (lv_at hl 1 rfl) ?_
  have hPc := hP.sub (ws' := [(zo10ririliiriririr sc aTp (nI ts) aHl (nI nh) ed mi sn aHs (nI n) aWk (nI wz) aBk (nI bz) aFc), (zaR aHs cHs 8 fHs)]) [0, 1] rfl
  have hKc := hK.sub (tys' := [(cHs, .object "MistHeaps$Heap")]) [0] rfl
  refine va_csq (va_runV (As := [.int (nI j)]) (rest := []) ⟨hx, hb, hml, hown, hts⟩ (c_heapAt l dC dI sc aTp aHl aHs aWk aBk aFc ts nh n wz bz mi sn (nI j) ed cHs fHs ya (zhs) (hn8)) (cwV 1 hts gX8_cellsSeeing_X8_heapAt rfl rfl rfl hd_yX8_heapAt ⟨Nat.le_of_ble_eq_true rfl, Nat.le_of_ble_eq_true rfl⟩) ⟨fun a U g mk q => by obtain ⟨q0, qP, qK⟩ := q; exact ⟨q0, qP, va_K.moved (u := U) (U := U.calling g mk a) (Vm.Alike.refl U.vm) qK⟩, va_recv hK hP (ci := 10) (q := (RX8, TX8, 14)) (q0 := 0) rfl rfl, fun U hU hW => ⟨rfl, by rw [hU]; exact hPc, va_K.moved hW.alike hKc⟩⟩ rfl rfl hl.1 rfl (lv_room (Nat.le_of_ble_eq_true rfl)) dX8_cellsSeeing_2 ⟨Nat.le_of_ble_eq_true rfl, Nat.le_of_ble_eq_true rfl⟩).run (fun r_1 hw_2 => ?_)
  obtain rfl : r_1 = some (ya j) := by rcases hw_2 with ⟨j9, hj9, e9, rfl⟩ | ⟨-, e9⟩; rw [show j = j9 from (nI_eq (by omega) (by omega)).mp e9]; exact absurd rfl (e9 j hjn)
  refine qq_as (v := .ref (ya j)) rfl ?_
  refine lv_astore_n (lv' := [(2, .ref (ya j)), (0, .ref sc), (1, .int (nI j))]) hx hb dX8_cellsSeeing_5 rfl hl (by decide) rfl (fun ls hl => ?_)
  refine lv_aload_n hx hb dX8_cellsSeeing_6 rfl (lv_at hl 0 rfl) ?_
  refine lv_ifnonnull (tgt := 12) hx hb dX8_cellsSeeing_7 (by decide) ?_
  refine lv_aload_n hx hb dX8_cellsSeeing_12 rfl (lv_at hl 1 rfl) ?_
  refine lv_aload_n hx hb dX8_cellsSeeing_13 rfl (lv_at hl 0 rfl) ?_
  refine lv_aload_n hx hb dX8_cellsSeeing_14 rfl (lv_at hl 1 rfl) ?_
  refine va_get (D := (dC, dI)) (ci := 10) (v := .int sn) (C := RX8) (T := TX8) (N := 14) hx hb hts kc_cellsSeeing_0 hown hK hP 0 rfl rfl 6 (by decide) (hts (.fieldLink RX8 57 "MistHeaps$Scene" "snow" "I") kc_cellsSeeing_1) (fun _ h9 => h9) rfl dX8_cellsSeeing_15 ?_
  have hPc := hP.sub (ws' := [(zo10ririliiriririr sc aTp (nI ts) aHl (nI nh) ed mi sn aHs (nI n) aWk (nI wz) aBk (nI bz) aFc), (zaI aFc cFc 6 fFc)]) [0, 2] rfl
  have hDc := hD.sub (ws' := [(zo10ririliiriririr sc aTp (nI ts) aHl (nI nh) ed mi sn aHs (nI n) aWk (nI wz) aBk (nI bz) aFc), (zaI aFc cFc 6 fFc)]) [0, 2] (by decide) rfl
  have hKc := hK.sub (tys' := [(cFc, .int)]) [1] rfl
  have hFc := va_free (wc := [(zo10ririliiriririr sc aTp (nI ts) aHl (nI nh) ed mi sn aHs (nI n) aWk (nI wz) aBk (nI bz) aFc), (zaI aFc cFc 6 fFc)]) hD hS hA [0, 2] rfl
  refine va_calli (va_runV (As := [.ref (ya j), .int sn]) (rest := []) ⟨hx, hb, hml, hown, hts⟩ (c_xReach l dC dI gd    sc aTp aHl aHs aWk aBk aFc bW bA bE bC ts nh n wz bz cl j mi sn sg cdd szz att nmb sn ed cFc cbW cbA cbE cbC fFc fbW fbA fbE fbC yk yv yc yi ya tpv cz H.size (by omega) (zcl) (zE) (zC) (zHC) (zyt)) (cwV 2 hts gX8_cellsSeeing_X8_reachOf rfl rfl rfl hd_yX8_reachOf ⟨Nat.le_of_ble_eq_true rfl, Nat.le_of_ble_eq_true rfl⟩) ⟨fun a U g mk q => by obtain ⟨q0, q1, qP, qK, qD, qhG, qhW_, qhZ, qhH_⟩ := q; exact ⟨q0, q1, qP, va_K.moved (u := U) (U := U.calling g mk a) (Vm.Alike.refl U.vm) qK, qD, qhG.same rfl rfl, qhW_.same rfl rfl, qhZ.same rfl rfl, qhH_.same rfl rfl⟩, va_recv hK hP (ci := 10) (q := (RX8, TX8, 14)) (q0 := 0) rfl rfl, fun U hU hW => ⟨rfl, by rw [hU], by rw [hU]; exact hPc, va_K.moved hW.alike hKc, hDc.weaken (fun _ _ _ _ => trivial), hG.call hS hU hW (fun q h => hFc q h), hW_.call hS hU hW (fun q h => hFc q h), (hZ.sub [0, 1, 2, 3, 4] [0, 1, 2, 3] rfl rfl).call hS hU hW (fun q h => hFc q h), hH_.call hS hU hW (fun q h => hFc q h)⟩⟩ rfl rfl hl.1 rfl (lv_room (Nat.le_of_ble_eq_true rfl)) dX8_cellsSeeing_18 ⟨Nat.le_of_ble_eq_true rfl, Nat.le_of_ble_eq_true rfl⟩) hS (fun q _ h => hFc q h) hFc (fun r_3 u tC H1 locs htC hvm hw_4 hB hz1 hk1 hS => ?_)
  obtain ⟨fFc9_5, rfl⟩ : ∃ z, z = u := ⟨_, rfl⟩
  try dsimp only at hw_4 hB
  obtain ⟨hP1, hK1, hD1⟩ := hB
  rw [htC] at hP1
  have hK1 := va_K.moved hvm.symm hK1
  obtain ⟨hP, hD⟩ := va_join (wr := [(zaR aHs cHs 8 fHs)]) (w1 := [(zo10ririliiriririr sc aTp (nI ts) aHl (nI nh) ed mi sn aHs (nI n) aWk (nI wz) aBk (nI bz) aFc), (zaI aFc cFc 6 fFc9_5)]) hP hD [0, 2] [1] rfl rfl (by decide) (by decide) hk1 hFc hP1 hD1
  have hK := (hK.sub (tys' := [(cHs, .object "MistHeaps$Heap")]) [0] rfl).app hK1
  generalize H1 = H at hP hS ⊢
  have hP : va_P (dC, dI) vwCl [(zaR aHs cHs 8 fHs), (zo10ririliiriririr sc aTp (nI ts) aHl (nI nh) ed mi sn aHs (nI n) aWk (nI wz) aBk (nI bz) aFc), (zaI aFc cFc 6 fFc9_5)] H := hP
  have hD : va_D A [(zaR aHs cHs 8 fHs), (zo10ririliiriririr sc aTp (nI ts) aHl (nI nh) ed mi sn aHs (nI n) aWk (nI wz) aBk (nI bz) aFc), (zaI aFc cFc 6 fFc9_5)] := hD
  have hK : va_K (dC, dI) vwCl [(cHs, .object "MistHeaps$Heap"), (cFc, .int)] s := hK
  obtain rfl := hw_4
  refine lv_istore_n (lv' := [(3, .int (RV cz mi sn j (yk j) (yv j) (yc j))), (2, .ref (ya j)), (0, .ref sc), (1, .int (nI j))]) hx hb dX8_cellsSeeing_21 rfl hl (by decide) rfl (fun ls hl => ?_)
  refine lv_lconst (v := 0) hx hb dX8_cellsSeeing_22 (by decide) ?_
  refine lv_lstore (lv' := [(4, .long 0), (3, .int (RV cz mi sn j (yk j) (yv j) (yc j))), (2, .ref (ya j)), (0, .ref sc), (1, .int (nI j))]) hx hb dX8_cellsSeeing_23 hl (by decide) rfl (fun ls hl => ?_)
  refine lv_iconst (v := 0) hx hb dX8_cellsSeeing_25 (by decide) ?_
  refine lv_istore (lv' := [(6, .int 0), (4, .long 0), (3, .int (RV cz mi sn j (yk j) (yv j) (yc j))), (2, .ref (ya j)), (0, .ref sc), (1, .int (nI j))]) hx hb dX8_cellsSeeing_26 hl (by decide) rfl (fun ls hl => ?_)
  have L28 : ∀ (nF : Nat) (i : Nat) (q : Int64) (v : Int32) (f2 : Nat → Int32), 36 - i < nF → (i ≤ 36) → ∀ (H : Heap) (locs : List Loc), va_K (dC, dI) vwCl [(cHs, .object "MistHeaps$Heap"), (cFc, .int)] s → va_P (dC, dI) vwCl [(zo10ririliiriririr sc aTp (nI ts) aHl (nI nh) ed mi sn aHs (nI n) aWk (nI wz) aBk (nI bz) aFc), (zaR aHs cHs 8 fHs), (zaI aFc cFc 6 f2)] H → va_D A [(zo10ririliiriririr sc aTp (nI ts) aHl (nI nh) ed mi sn aHs (nI n) aWk (nI wz) aBk (nI bz) aFc), (zaR aHs cHs 8 fHs), (zaI aFc cFc 6 f2)] → va_S A s.heap H locs → ∀ (ls : Array Slot), lv_has ls 7 [(0, .ref sc), (2, .ref (ya j)), (3, .int v), (4, .long q), (6, .int (nI i))] → W p l e ({ frames := 5, cells := 0, slots := 0, locals := 102 } : Room) s m args below meth c H locs 0 0 Q (F0 m 28 ls []) := by
    intro nF
    induction nF with
    | zero => intro i q v f2 hm; exact absurd hm (Nat.not_lt_zero _)
    | succ nF ih28 =>
      intro i q v f2 hm hi H locs hK hP hD hS ls hl
      refine lv_iload hx hb dX8_cellsSeeing_28 (lv_at hl 4 rfl) ?_
      refine lv_bipush (v := 36) hx hb dX8_cellsSeeing_30 (by decide) ?_
      refine lv_icmp_ge (tgt := 63) hx hb dX8_cellsSeeing_32 (by decide) (fun c_6 => ?_) (fun c_6 => ?_)
      · skip
        have c_6 : 36 ≤ i := (nI_leI (a := 36) (b := i) (by omega) (by omega)).mp c_6
        refine lv_lload hx hb dX8_cellsSeeing_63 (lv_at hl 3 rfl) ?_
        rw [hQ]
        have hP9 := hP.sub (ws' := [(zo10ririliiriririr sc aTp (nI ts) aHl (nI nh) ed mi sn aHs (nI n) aWk (nI wz) aBk (nI bz) aFc), (zaR aHs cHs 8 fHs), (zaI aFc cFc 6 f2)]) [0, 1, 2] rfl
        have hD9 := hD.sub (ws' := [(zo10ririliiriririr sc aTp (nI ts) aHl (nI nh) ed mi sn aHs (nI n) aWk (nI wz) aBk (nI bz) aFc), (zaR aHs cHs 8 fHs), (zaI aFc cFc 6 f2)]) [0, 1, 2] (by decide) rfl
        have hK9 := hK.sub (tys' := [(cHs, .object "MistHeaps$Heap"), (cFc, .int)]) [0, 1] rfl
        exact W.lret (v := q) hx hb hr (fun tQ htQ hWQ => ⟨⟨q, f2, rfl, trivial, by rw [htQ]; exact hP9, va_K.moved hWQ.alike hK9, hD9⟩, hS.F htQ⟩) hS.2.2 dX8_cellsSeeing_65
      · skip
        have c_6 : ¬ 36 ≤ i := fun q => c_6 ((nI_leI (a := 36) (b := i) (by omega) (by omega)).mpr q)
        refine lv_iload hx hb dX8_cellsSeeing_35 (lv_at hl 4 rfl) ?_
        refine lv_aload_n hx hb dX8_cellsSeeing_37 rfl (lv_at hl 1 rfl) ?_
        refine va_hget3 (v := .int (yc j)) hx hb hts kc_cellsSeeing_3 hown (hH_ j (by omega)).1 (hH_ j (by omega)).2 hS (hts (.fieldLink RX8 73 "MistHeaps$Heap" "cell" "I") kc_cellsSeeing_2) dX8_cellsSeeing_38 rfl ?_
        refine vp_callSi (va_runSN (As := [.int (nI i), .int (yc j)]) (rest := []) ⟨hx, hb, hml, hown, hts⟩ (c_xApart l dC dI (nI i) (yc j)) ⟨va_cnB 2 hts ggX8_cellsSeeing_X11_apart rfl rfl rfl (hG.1 (.methodLinkNest RX8 113 yX11_apart "MistHeaps") (by decide +kernel)) (hts (.initialized RX11) kc_cellsSeeing_4) (by decide +kernel) ⟨Nat.le_of_ble_eq_true rfl, Nat.le_of_ble_eq_true rfl⟩, (hts (.static yX11_apart) kc_cellsSeeing_5), trivial⟩ ⟨fun a U g mk q => ⟨q.1, trivial⟩, fun U hU hW => ⟨rfl, trivial⟩⟩ rfl rfl hl.1 rfl (lv_room (Nat.le_of_ble_eq_true rfl)) dX8_cellsSeeing_41 ⟨Nat.le_of_ble_eq_true rfl, Nat.le_of_ble_eq_true rfl⟩).run (fun r_7 hw_8 => ?_)
        obtain rfl := hw_8
        refine lv_iload_n hx hb dX8_cellsSeeing_44 rfl (lv_at hl 2 rfl) ?_
        refine lv_icmp_gt (tgt := 57) hx hb dX8_cellsSeeing_45 (by decide) (fun c_9 => ?_) (fun c_9 => ?_)
        · skip
          refine lv_iinc (v := nI (i + 1)) (lv' := [(6, .int (nI (i + 1))), (0, .ref sc), (2, .ref (ya j)), (3, .int v), (4, .long q)]) hx hb dX8_cellsSeeing_57 hl (k := 4) rfl (nI_add i 1) (by decide) rfl (fun ls hl => ?_)
          refine lv_goto (tgt := 28) hx hb dX8_cellsSeeing_60 (by decide) ?_
          exact ih28 (i + 1) _ _ _ (by omega) (by omega) _ _ (hK.sub [0, 1] rfl) (hP.sub [0, 1, 2] rfl) (hD.sub [0, 1, 2] (by decide) rfl) hS ls (lv_sub hl [1, 2, 3, 4, 0] rfl)
        · skip
          refine lv_lload hx hb dX8_cellsSeeing_48 (lv_at hl 3 rfl) ?_
          refine lv_lconst (v := 1) hx hb dX8_cellsSeeing_50 (by decide) ?_
          refine lv_iload hx hb dX8_cellsSeeing_51 (lv_at hl 4 rfl) ?_
          refine lv_lshl (v := (1 : Int64) <<< ((nI i).toInt64 &&& 63)) hx hb dX8_cellsSeeing_53 (rfl) ?_
          refine lv_lor hx hb dX8_cellsSeeing_54 ?_
          refine lv_lstore (lv' := [(4, .long (q ||| ((1 : Int64) <<< ((nI i).toInt64 &&& 63)))), (0, .ref sc), (2, .ref (ya j)), (3, .int v), (6, .int (nI i))]) hx hb dX8_cellsSeeing_55 hl (by decide) rfl (fun ls hl => ?_)
          refine lv_iinc (v := nI (i + 1)) (lv' := [(6, .int (nI (i + 1))), (4, .long (q ||| ((1 : Int64) <<< ((nI i).toInt64 &&& 63)))), (0, .ref sc), (2, .ref (ya j)), (3, .int v)]) hx hb dX8_cellsSeeing_57 hl (k := 4) rfl (nI_add i 1) (by decide) rfl (fun ls hl => ?_)
          refine lv_goto (tgt := 28) hx hb dX8_cellsSeeing_60 (by decide) ?_
          exact ih28 (i + 1) _ _ _ (by omega) (by omega) _ _ (hK.sub [0, 1] rfl) (hP.sub [0, 1, 2] rfl) (hD.sub [0, 1, 2] (by decide) rfl) hS ls (lv_sub hl [2, 3, 4, 1, 0] rfl)
  exact L28 _ (0) _ _ _ (Nat.lt_succ_self _) (by omega) _ _ (hK.sub [0, 1] rfl) (hP.sub [1, 0, 2] rfl) (hD.sub [1, 0, 2] (by decide) rfl) hS ls (lv_sub hl [4, 3, 2, 1, 0] rfl)
