section mg15a
theorem ggX8_areHeaps_X8_heapAt : GoodIn wsX8_areHeaps wsX8_heapAt := gga_of 632 rfl rfl rfl
theorem gX8_areHeaps_X8_heapAt : GoodIn wsX8_areHeaps (wsV RX8 69 RX8 yX8_heapAt wsX8_heapAt) := goodIn_app (ggh_of [720, 630, 631, 64] rfl rfl rfl) ggX8_areHeaps_X8_heapAt
theorem ggX8_tellFacts_X11_rowOf : GoodIn wsX8_tellFacts wsX11_rowOf := gga_of 643 rfl rfl rfl
theorem ggX8_tellFacts_X11_columnOf : GoodIn wsX8_tellFacts wsX11_columnOf := gga_of 646 rfl rfl rfl
theorem ggX8_reachOf_X8_tellFacts : GoodIn wsX8_reachOf wsX8_tellFacts := gga_of 640 rfl rfl rfl
theorem gX8_reachOf_X8_tellFacts : GoodIn wsX8_reachOf (wsV RX8 82 RX8 yX8_tellFacts wsX8_tellFacts) := goodIn_app (ggh_of [637, 639, 10, 64] rfl rfl rfl) ggX8_reachOf_X8_tellFacts
theorem ggX8_reachOf_X5_total : GoodIn wsX8_reachOf wsX5_total := gga_of 650 rfl rfl rfl
theorem gX8_reachOf_X5_total : GoodIn wsX8_reachOf (wsV RX8 89 RX5 yX5_total wsX5_total) := goodIn_app (ggh_of [647, 648, 649, 65] rfl rfl rfl) ggX8_reachOf_X5_total
theorem ggX8_reachOf_X3_reachBy : GoodIn wsX8_reachOf wsX3_reachBy := gga_of 683 rfl rfl rfl
theorem gX8_reachOf_X3_reachBy_u93X1 : GoodIn wsX8_reachOf (va_wsU RX8 93 RX1 "MistHeaps$Heap" ⟨"MistHeaps$Heap", "reachBy", "(II)I"⟩ yX3_reachBy wsX3_reachBy) := goodIn_app (ggh_of [658, 661, 662, 659, 67] rfl rfl rfl) ggX8_reachOf_X3_reachBy
theorem gX8_reachOf_X3_reachBy : GoodIn wsX8_reachOf (wsV RX8 93 RX3 yX3_reachBy wsX3_reachBy) := goodIn_app (ggh_of [658, 659, 660, 67] rfl rfl rfl) ggX8_reachOf_X3_reachBy
theorem ggX8_reachOf_X4_reachBy : GoodIn wsX8_reachOf wsX4_reachBy := gga_of 665 rfl rfl rfl
theorem gX8_reachOf_X4_reachBy_u93X4 : GoodIn wsX8_reachOf (va_wsO RX8 93 RX4 "MistHeaps$Heap" ⟨"MistHeaps$Heap", "reachBy", "(II)I"⟩ yX4_reachBy wsX4_reachBy) := goodIn_app (ggh_of [658, 661, 659, 663, 664, 81] rfl rfl rfl) ggX8_reachOf_X4_reachBy
theorem ggX8_reachOf_X6_reachBy : GoodIn wsX8_reachOf wsX6_reachBy := gga_of 669 rfl rfl rfl
theorem gX8_reachOf_X6_reachBy_u93X6 : GoodIn wsX8_reachOf (va_wsO RX8 93 RX6 "MistHeaps$Heap" ⟨"MistHeaps$Heap", "reachBy", "(II)I"⟩ yX6_reachBy wsX6_reachBy) := goodIn_app (ggh_of [658, 661, 659, 667, 668, 82] rfl rfl rfl) ggX8_reachOf_X6_reachBy
theorem ggX8_reachOf_X7_reachBy : GoodIn wsX8_reachOf wsX7_reachBy := gga_of 673 rfl rfl rfl
theorem gX8_reachOf_X7_reachBy_u93X7 : GoodIn wsX8_reachOf (va_wsO RX8 93 RX7 "MistHeaps$Heap" ⟨"MistHeaps$Heap", "reachBy", "(II)I"⟩ yX7_reachBy wsX7_reachBy) := goodIn_app (ggh_of [658, 661, 659, 671, 672, 86] rfl rfl rfl) ggX8_reachOf_X7_reachBy
theorem ggX8_reachOf_X9_reachBy : GoodIn wsX8_reachOf wsX9_reachBy := gga_of 680 rfl rfl rfl
theorem gX8_reachOf_X9_reachBy_u93X9 : GoodIn wsX8_reachOf (va_wsO RX8 93 RX9 "MistHeaps$Heap" ⟨"MistHeaps$Heap", "reachBy", "(II)I"⟩ yX9_reachBy wsX9_reachBy) := goodIn_app (ggh_of [658, 661, 659, 678, 679, 85] rfl rfl rfl) ggX8_reachOf_X9_reachBy
theorem gX8_reachOf_X4_reachBy_u93X10 : GoodIn wsX8_reachOf (va_wsO RX8 93 RX10 "MistHeaps$Heap" ⟨"MistHeaps$Heap", "reachBy", "(II)I"⟩ yX4_reachBy wsX4_reachBy) := goodIn_app (ggh_of [658, 661, 659, 682, 664, 81] rfl rfl rfl) ggX8_reachOf_X4_reachBy
theorem ggX8_driftOn_X8_tellFacts : GoodIn wsX8_driftOn wsX8_tellFacts := gga_of 640 rfl rfl rfl
theorem gX8_driftOn_X8_tellFacts : GoodIn wsX8_driftOn (wsV RX8 82 RX8 yX8_tellFacts wsX8_tellFacts) := goodIn_app (ggh_of [637, 639, 10, 64] rfl rfl rfl) ggX8_driftOn_X8_tellFacts
theorem ggX8_driftOn_X5_total : GoodIn wsX8_driftOn wsX5_total := gga_of 650 rfl rfl rfl
theorem gX8_driftOn_X5_total : GoodIn wsX8_driftOn (wsV RX8 89 RX5 yX5_total wsX5_total) := goodIn_app (ggh_of [647, 648, 649, 65] rfl rfl rfl) ggX8_driftOn_X5_total
theorem ggX8_cellsSeeing_X8_heapAt : GoodIn wsX8_cellsSeeing wsX8_heapAt := gga_of 632 rfl rfl rfl
theorem gX8_cellsSeeing_X8_heapAt : GoodIn wsX8_cellsSeeing (wsV RX8 69 RX8 yX8_heapAt wsX8_heapAt) := goodIn_app (ggh_of [720, 630, 631, 64] rfl rfl rfl) ggX8_cellsSeeing_X8_heapAt
theorem ggX8_cellsSeeing_X8_reachOf : GoodIn wsX8_cellsSeeing wsX8_reachOf := gga_of 636 rfl rfl rfl
theorem gX8_cellsSeeing_X8_reachOf : GoodIn wsX8_cellsSeeing (wsV RX8 109 RX8 yX8_reachOf wsX8_reachOf) := goodIn_app (ggh_of [823, 634, 635, 64] rfl rfl rfl) ggX8_cellsSeeing_X8_reachOf
theorem ggX8_cellsSeeing_X11_apart : GoodIn wsX8_cellsSeeing wsX11_apart := gga_of 700 rfl rfl rfl
noncomputable def dk15ascene_cX8_heapAt_0 : List (Nat × List Nat) := [(0, [27]), (1, [155, 0, 20]), (4, [27]), (5, [42]), (6, [180, 0, 60]), (9, [162, 0, 12]), (12, [42]), (13, [180, 0, 24]), (16, [27]), (17, [50]), (18, [167, 0, 4]), (21, [1]), (22, [176])]
set_option maxRecDepth 100000 in
theorem dk15ascene_cX8_heapAt_0_a : btA cX8_heapAt dk15ascene_cX8_heapAt_0 = true := by decide +kernel
theorem dX8_heapAt_0 : decode cX8_heapAt 0 = .ok (.iload_n 1, 1) := bd27 (btAt dk15ascene_cX8_heapAt_0_a 0 rfl)
theorem dX8_heapAt_1 : decode cX8_heapAt 1 = .ok (.ifCond .lt 20, 3) := bd155 (a := 0) (b := 20) (btAt dk15ascene_cX8_heapAt_0_a 1 rfl)
theorem dX8_heapAt_4 : decode cX8_heapAt 4 = .ok (.iload_n 1, 1) := bd27 (btAt dk15ascene_cX8_heapAt_0_a 2 rfl)
theorem dX8_heapAt_5 : decode cX8_heapAt 5 = .ok (.aload_n 0, 1) := bd42 (btAt dk15ascene_cX8_heapAt_0_a 3 rfl)
theorem dX8_heapAt_6 : decode cX8_heapAt 6 = .ok (.getfield 60, 3) := bd180 (a := 0) (b := 60) (btAt dk15ascene_cX8_heapAt_0_a 4 rfl)
theorem dX8_heapAt_9 : decode cX8_heapAt 9 = .ok (.if_icmp .ge 12, 3) := bd162 (a := 0) (b := 12) (btAt dk15ascene_cX8_heapAt_0_a 5 rfl)
theorem dX8_heapAt_12 : decode cX8_heapAt 12 = .ok (.aload_n 0, 1) := bd42 (btAt dk15ascene_cX8_heapAt_0_a 6 rfl)
theorem dX8_heapAt_13 : decode cX8_heapAt 13 = .ok (.getfield 24, 3) := bd180 (a := 0) (b := 24) (btAt dk15ascene_cX8_heapAt_0_a 7 rfl)
theorem dX8_heapAt_16 : decode cX8_heapAt 16 = .ok (.iload_n 1, 1) := bd27 (btAt dk15ascene_cX8_heapAt_0_a 8 rfl)
theorem dX8_heapAt_17 : decode cX8_heapAt 17 = .ok (.aaload, 1) := bd50 (btAt dk15ascene_cX8_heapAt_0_a 9 rfl)
theorem dX8_heapAt_18 : decode cX8_heapAt 18 = .ok (.goto 4, 3) := bd167 (a := 0) (b := 4) (btAt dk15ascene_cX8_heapAt_0_a 10 rfl)
theorem dX8_heapAt_21 : decode cX8_heapAt 21 = .ok (.aconst_null, 1) := bd1 (btAt dk15ascene_cX8_heapAt_0_a 11 rfl)
theorem dX8_heapAt_22 : decode cX8_heapAt 22 = .ok (.areturn, 1) := bd176 (btAt dk15ascene_cX8_heapAt_0_a 12 rfl)
noncomputable def dk15ascene_cX8_areHeaps_0 : List (Nat × List Nat) := [(0, [42]), (1, [27]), (2, [182, 0, 69]), (5, [198, 0, 15]), (8, [42]), (9, [28]), (10, [182, 0, 69]), (13, [198, 0, 7]), (16, [4]), (17, [167, 0, 4]), (20, [3]), (21, [172])]
set_option maxRecDepth 100000 in
theorem dk15ascene_cX8_areHeaps_0_a : btA cX8_areHeaps dk15ascene_cX8_areHeaps_0 = true := by decide +kernel
theorem dX8_areHeaps_0 : decode cX8_areHeaps 0 = .ok (.aload_n 0, 1) := bd42 (btAt dk15ascene_cX8_areHeaps_0_a 0 rfl)
theorem dX8_areHeaps_1 : decode cX8_areHeaps 1 = .ok (.iload_n 1, 1) := bd27 (btAt dk15ascene_cX8_areHeaps_0_a 1 rfl)
theorem dX8_areHeaps_2 : decode cX8_areHeaps 2 = .ok (.invokevirtual 69, 3) := bd182 (a := 0) (b := 69) (btAt dk15ascene_cX8_areHeaps_0_a 2 rfl)
theorem dX8_areHeaps_5 : decode cX8_areHeaps 5 = .ok (.ifnull 15, 3) := bd198 (a := 0) (b := 15) (btAt dk15ascene_cX8_areHeaps_0_a 3 rfl)
theorem dX8_areHeaps_8 : decode cX8_areHeaps 8 = .ok (.aload_n 0, 1) := bd42 (btAt dk15ascene_cX8_areHeaps_0_a 4 rfl)
theorem dX8_areHeaps_9 : decode cX8_areHeaps 9 = .ok (.iload_n 2, 1) := bd28 (btAt dk15ascene_cX8_areHeaps_0_a 5 rfl)
theorem dX8_areHeaps_10 : decode cX8_areHeaps 10 = .ok (.invokevirtual 69, 3) := bd182 (a := 0) (b := 69) (btAt dk15ascene_cX8_areHeaps_0_a 6 rfl)
theorem dX8_areHeaps_13 : decode cX8_areHeaps 13 = .ok (.ifnull 7, 3) := bd198 (a := 0) (b := 7) (btAt dk15ascene_cX8_areHeaps_0_a 7 rfl)
theorem dX8_areHeaps_16 : decode cX8_areHeaps 16 = .ok (.iconst 1, 1) := bd4 (btAt dk15ascene_cX8_areHeaps_0_a 8 rfl)
theorem dX8_areHeaps_17 : decode cX8_areHeaps 17 = .ok (.goto 4, 3) := bd167 (a := 0) (b := 4) (btAt dk15ascene_cX8_areHeaps_0_a 9 rfl)
theorem dX8_areHeaps_20 : decode cX8_areHeaps 20 = .ok (.iconst 0, 1) := bd3 (btAt dk15ascene_cX8_areHeaps_0_a 10 rfl)
theorem dX8_areHeaps_21 : decode cX8_areHeaps 21 = .ok (.ireturn, 1) := bd172 (btAt dk15ascene_cX8_areHeaps_0_a 11 rfl)
noncomputable def dk15ascene_cX8_isTaken_0 : List (Nat × List Nat) := [(0, [3]), (1, [61]), (2, [28]), (3, [42]), (4, [180, 0, 60]), (7, [162, 0, 24]), (10, [42]), (11, [180, 0, 24]), (14, [28]), (15, [50]), (16, [180, 0, 73]), (19, [27]), (20, [160, 0, 5]), (23, [4]), (24, [172]), (25, [132, 2, 1]), (28, [167, 255, 230]), (31, [3]), (32, [172])]
set_option maxRecDepth 100000 in
theorem dk15ascene_cX8_isTaken_0_a : btA cX8_isTaken dk15ascene_cX8_isTaken_0 = true := by decide +kernel
theorem dX8_isTaken_0 : decode cX8_isTaken 0 = .ok (.iconst 0, 1) := bd3 (btAt dk15ascene_cX8_isTaken_0_a 0 rfl)
theorem dX8_isTaken_1 : decode cX8_isTaken 1 = .ok (.istore_n 2, 1) := bd61 (btAt dk15ascene_cX8_isTaken_0_a 1 rfl)
theorem dX8_isTaken_2 : decode cX8_isTaken 2 = .ok (.iload_n 2, 1) := bd28 (btAt dk15ascene_cX8_isTaken_0_a 2 rfl)
theorem dX8_isTaken_3 : decode cX8_isTaken 3 = .ok (.aload_n 0, 1) := bd42 (btAt dk15ascene_cX8_isTaken_0_a 3 rfl)
theorem dX8_isTaken_4 : decode cX8_isTaken 4 = .ok (.getfield 60, 3) := bd180 (a := 0) (b := 60) (btAt dk15ascene_cX8_isTaken_0_a 4 rfl)
theorem dX8_isTaken_7 : decode cX8_isTaken 7 = .ok (.if_icmp .ge 24, 3) := bd162 (a := 0) (b := 24) (btAt dk15ascene_cX8_isTaken_0_a 5 rfl)
theorem dX8_isTaken_10 : decode cX8_isTaken 10 = .ok (.aload_n 0, 1) := bd42 (btAt dk15ascene_cX8_isTaken_0_a 6 rfl)
theorem dX8_isTaken_11 : decode cX8_isTaken 11 = .ok (.getfield 24, 3) := bd180 (a := 0) (b := 24) (btAt dk15ascene_cX8_isTaken_0_a 7 rfl)
theorem dX8_isTaken_14 : decode cX8_isTaken 14 = .ok (.iload_n 2, 1) := bd28 (btAt dk15ascene_cX8_isTaken_0_a 8 rfl)
theorem dX8_isTaken_15 : decode cX8_isTaken 15 = .ok (.aaload, 1) := bd50 (btAt dk15ascene_cX8_isTaken_0_a 9 rfl)
theorem dX8_isTaken_16 : decode cX8_isTaken 16 = .ok (.getfield 73, 3) := bd180 (a := 0) (b := 73) (btAt dk15ascene_cX8_isTaken_0_a 10 rfl)
theorem dX8_isTaken_19 : decode cX8_isTaken 19 = .ok (.iload_n 1, 1) := bd27 (btAt dk15ascene_cX8_isTaken_0_a 11 rfl)
theorem dX8_isTaken_20 : decode cX8_isTaken 20 = .ok (.if_icmp .ne 5, 3) := bd160 (a := 0) (b := 5) (btAt dk15ascene_cX8_isTaken_0_a 12 rfl)
theorem dX8_isTaken_23 : decode cX8_isTaken 23 = .ok (.iconst 1, 1) := bd4 (btAt dk15ascene_cX8_isTaken_0_a 13 rfl)
theorem dX8_isTaken_24 : decode cX8_isTaken 24 = .ok (.ireturn, 1) := bd172 (btAt dk15ascene_cX8_isTaken_0_a 14 rfl)
theorem dX8_isTaken_25 : decode cX8_isTaken 25 = .ok (.iinc 2 1, 3) := bd132 (a := 2) (b := 1) (btAt dk15ascene_cX8_isTaken_0_a 15 rfl)
theorem dX8_isTaken_28 : decode cX8_isTaken 28 = .ok (.goto (-26), 3) := bd167 (a := 255) (b := 230) (btAt dk15ascene_cX8_isTaken_0_a 16 rfl)
theorem dX8_isTaken_31 : decode cX8_isTaken 31 = .ok (.iconst 0, 1) := bd3 (btAt dk15ascene_cX8_isTaken_0_a 17 rfl)
theorem dX8_isTaken_32 : decode cX8_isTaken 32 = .ok (.ireturn, 1) := bd172 (btAt dk15ascene_cX8_isTaken_0_a 18 rfl)
noncomputable def dk15ascene_cX8_tellFacts_0 : List (Nat × List Nat) := [(0, [42]), (1, [180, 0, 34]), (4, [3]), (5, [27]), (6, [79]), (7, [42]), (8, [180, 0, 34]), (11, [4]), (12, [28]), (13, [79]), (14, [42]), (15, [180, 0, 34]), (18, [5]), (19, [29]), (20, [184, 0, 102]), (23, [79]), (24, [42]), (25, [180, 0, 34]), (28, [6]), (29, [29]), (30, [184, 0, 106]), (33, [79]), (34, [42]), (35, [180, 0, 34]), (38, [7]), (39, [42]), (40, [180, 0, 54]), (43, [79]), (44, [42]), (45, [180, 0, 34]), (48, [8]), (49, [21, 4]), (51, [79]), (52, [177])]
set_option maxRecDepth 100000 in
theorem dk15ascene_cX8_tellFacts_0_a : btA cX8_tellFacts dk15ascene_cX8_tellFacts_0 = true := by decide +kernel
theorem dX8_tellFacts_0 : decode cX8_tellFacts 0 = .ok (.aload_n 0, 1) := bd42 (btAt dk15ascene_cX8_tellFacts_0_a 0 rfl)
theorem dX8_tellFacts_1 : decode cX8_tellFacts 1 = .ok (.getfield 34, 3) := bd180 (a := 0) (b := 34) (btAt dk15ascene_cX8_tellFacts_0_a 1 rfl)
theorem dX8_tellFacts_4 : decode cX8_tellFacts 4 = .ok (.iconst 0, 1) := bd3 (btAt dk15ascene_cX8_tellFacts_0_a 2 rfl)
theorem dX8_tellFacts_5 : decode cX8_tellFacts 5 = .ok (.iload_n 1, 1) := bd27 (btAt dk15ascene_cX8_tellFacts_0_a 3 rfl)
theorem dX8_tellFacts_6 : decode cX8_tellFacts 6 = .ok (.iastore, 1) := bd79 (btAt dk15ascene_cX8_tellFacts_0_a 4 rfl)
theorem dX8_tellFacts_7 : decode cX8_tellFacts 7 = .ok (.aload_n 0, 1) := bd42 (btAt dk15ascene_cX8_tellFacts_0_a 5 rfl)
theorem dX8_tellFacts_8 : decode cX8_tellFacts 8 = .ok (.getfield 34, 3) := bd180 (a := 0) (b := 34) (btAt dk15ascene_cX8_tellFacts_0_a 6 rfl)
theorem dX8_tellFacts_11 : decode cX8_tellFacts 11 = .ok (.iconst 1, 1) := bd4 (btAt dk15ascene_cX8_tellFacts_0_a 7 rfl)
theorem dX8_tellFacts_12 : decode cX8_tellFacts 12 = .ok (.iload_n 2, 1) := bd28 (btAt dk15ascene_cX8_tellFacts_0_a 8 rfl)
theorem dX8_tellFacts_13 : decode cX8_tellFacts 13 = .ok (.iastore, 1) := bd79 (btAt dk15ascene_cX8_tellFacts_0_a 9 rfl)
theorem dX8_tellFacts_14 : decode cX8_tellFacts 14 = .ok (.aload_n 0, 1) := bd42 (btAt dk15ascene_cX8_tellFacts_0_a 10 rfl)
theorem dX8_tellFacts_15 : decode cX8_tellFacts 15 = .ok (.getfield 34, 3) := bd180 (a := 0) (b := 34) (btAt dk15ascene_cX8_tellFacts_0_a 11 rfl)
theorem dX8_tellFacts_18 : decode cX8_tellFacts 18 = .ok (.iconst 2, 1) := bd5 (btAt dk15ascene_cX8_tellFacts_0_a 12 rfl)
theorem dX8_tellFacts_19 : decode cX8_tellFacts 19 = .ok (.iload_n 3, 1) := bd29 (btAt dk15ascene_cX8_tellFacts_0_a 13 rfl)
theorem dX8_tellFacts_20 : decode cX8_tellFacts 20 = .ok (.invokestatic 102, 3) := bd184 (a := 0) (b := 102) (btAt dk15ascene_cX8_tellFacts_0_a 14 rfl)
theorem dX8_tellFacts_23 : decode cX8_tellFacts 23 = .ok (.iastore, 1) := bd79 (btAt dk15ascene_cX8_tellFacts_0_a 15 rfl)
theorem dX8_tellFacts_24 : decode cX8_tellFacts 24 = .ok (.aload_n 0, 1) := bd42 (btAt dk15ascene_cX8_tellFacts_0_a 16 rfl)
theorem dX8_tellFacts_25 : decode cX8_tellFacts 25 = .ok (.getfield 34, 3) := bd180 (a := 0) (b := 34) (btAt dk15ascene_cX8_tellFacts_0_a 17 rfl)
theorem dX8_tellFacts_28 : decode cX8_tellFacts 28 = .ok (.iconst 3, 1) := bd6 (btAt dk15ascene_cX8_tellFacts_0_a 18 rfl)
theorem dX8_tellFacts_29 : decode cX8_tellFacts 29 = .ok (.iload_n 3, 1) := bd29 (btAt dk15ascene_cX8_tellFacts_0_a 19 rfl)
theorem dX8_tellFacts_30 : decode cX8_tellFacts 30 = .ok (.invokestatic 106, 3) := bd184 (a := 0) (b := 106) (btAt dk15ascene_cX8_tellFacts_0_a 20 rfl)
theorem dX8_tellFacts_33 : decode cX8_tellFacts 33 = .ok (.iastore, 1) := bd79 (btAt dk15ascene_cX8_tellFacts_0_a 21 rfl)
theorem dX8_tellFacts_34 : decode cX8_tellFacts 34 = .ok (.aload_n 0, 1) := bd42 (btAt dk15ascene_cX8_tellFacts_0_a 22 rfl)
theorem dX8_tellFacts_35 : decode cX8_tellFacts 35 = .ok (.getfield 34, 3) := bd180 (a := 0) (b := 34) (btAt dk15ascene_cX8_tellFacts_0_a 23 rfl)
theorem dX8_tellFacts_38 : decode cX8_tellFacts 38 = .ok (.iconst 4, 1) := bd7 (btAt dk15ascene_cX8_tellFacts_0_a 24 rfl)
theorem dX8_tellFacts_39 : decode cX8_tellFacts 39 = .ok (.aload_n 0, 1) := bd42 (btAt dk15ascene_cX8_tellFacts_0_a 25 rfl)
theorem dX8_tellFacts_40 : decode cX8_tellFacts 40 = .ok (.getfield 54, 3) := bd180 (a := 0) (b := 54) (btAt dk15ascene_cX8_tellFacts_0_a 26 rfl)
theorem dX8_tellFacts_43 : decode cX8_tellFacts 43 = .ok (.iastore, 1) := bd79 (btAt dk15ascene_cX8_tellFacts_0_a 27 rfl)
theorem dX8_tellFacts_44 : decode cX8_tellFacts 44 = .ok (.aload_n 0, 1) := bd42 (btAt dk15ascene_cX8_tellFacts_0_a 28 rfl)
theorem dX8_tellFacts_45 : decode cX8_tellFacts 45 = .ok (.getfield 34, 3) := bd180 (a := 0) (b := 34) (btAt dk15ascene_cX8_tellFacts_0_a 29 rfl)
theorem dX8_tellFacts_48 : decode cX8_tellFacts 48 = .ok (.iconst 5, 1) := bd8 (btAt dk15ascene_cX8_tellFacts_0_a 30 rfl)
theorem dX8_tellFacts_49 : decode cX8_tellFacts 49 = .ok (.iload 4, 2) := bd21 (a := 4) (btAt dk15ascene_cX8_tellFacts_0_a 31 rfl)
theorem dX8_tellFacts_51 : decode cX8_tellFacts 51 = .ok (.iastore, 1) := bd79 (btAt dk15ascene_cX8_tellFacts_0_a 32 rfl)
theorem dX8_tellFacts_52 : decode cX8_tellFacts 52 = .ok (.return_, 1) := bd177 (btAt dk15ascene_cX8_tellFacts_0_a 33 rfl)
noncomputable def dk15ascene_cX8_reachOf_0 : List (Nat × List Nat) := [(0, [42]), (1, [43]), (2, [180, 0, 76]), (5, [43]), (6, [180, 0, 79]), (9, [43]), (10, [180, 0, 73]), (13, [28]), (14, [182, 0, 82]), (17, [42]), (18, [180, 0, 18]), (21, [180, 0, 86]), (24, [42]), (25, [180, 0, 18]), (28, [3]), (29, [42]), (30, [180, 0, 34]), (33, [182, 0, 89]), (36, [96]), (37, [42]), (38, [180, 0, 18]), (41, [4]), (42, [42]), (43, [180, 0, 34]), (46, [182, 0, 89]), (49, [100]), (50, [42]), (51, [180, 0, 54]), (54, [100]), (55, [62]), (56, [43]), (57, [29]), (58, [28]), (59, [182, 0, 93]), (62, [172])]
set_option maxRecDepth 100000 in
theorem dk15ascene_cX8_reachOf_0_a : btA cX8_reachOf dk15ascene_cX8_reachOf_0 = true := by decide +kernel
theorem dX8_reachOf_0 : decode cX8_reachOf 0 = .ok (.aload_n 0, 1) := bd42 (btAt dk15ascene_cX8_reachOf_0_a 0 rfl)
theorem dX8_reachOf_1 : decode cX8_reachOf 1 = .ok (.aload_n 1, 1) := bd43 (btAt dk15ascene_cX8_reachOf_0_a 1 rfl)
theorem dX8_reachOf_2 : decode cX8_reachOf 2 = .ok (.getfield 76, 3) := bd180 (a := 0) (b := 76) (btAt dk15ascene_cX8_reachOf_0_a 2 rfl)
theorem dX8_reachOf_5 : decode cX8_reachOf 5 = .ok (.aload_n 1, 1) := bd43 (btAt dk15ascene_cX8_reachOf_0_a 3 rfl)
theorem dX8_reachOf_6 : decode cX8_reachOf 6 = .ok (.getfield 79, 3) := bd180 (a := 0) (b := 79) (btAt dk15ascene_cX8_reachOf_0_a 4 rfl)
theorem dX8_reachOf_9 : decode cX8_reachOf 9 = .ok (.aload_n 1, 1) := bd43 (btAt dk15ascene_cX8_reachOf_0_a 5 rfl)
theorem dX8_reachOf_10 : decode cX8_reachOf 10 = .ok (.getfield 73, 3) := bd180 (a := 0) (b := 73) (btAt dk15ascene_cX8_reachOf_0_a 6 rfl)
theorem dX8_reachOf_13 : decode cX8_reachOf 13 = .ok (.iload_n 2, 1) := bd28 (btAt dk15ascene_cX8_reachOf_0_a 7 rfl)
theorem dX8_reachOf_14 : decode cX8_reachOf 14 = .ok (.invokevirtual 82, 3) := bd182 (a := 0) (b := 82) (btAt dk15ascene_cX8_reachOf_0_a 8 rfl)
theorem dX8_reachOf_17 : decode cX8_reachOf 17 = .ok (.aload_n 0, 1) := bd42 (btAt dk15ascene_cX8_reachOf_0_a 9 rfl)
theorem dX8_reachOf_18 : decode cX8_reachOf 18 = .ok (.getfield 18, 3) := bd180 (a := 0) (b := 18) (btAt dk15ascene_cX8_reachOf_0_a 10 rfl)
theorem dX8_reachOf_21 : decode cX8_reachOf 21 = .ok (.getfield 86, 3) := bd180 (a := 0) (b := 86) (btAt dk15ascene_cX8_reachOf_0_a 11 rfl)
theorem dX8_reachOf_24 : decode cX8_reachOf 24 = .ok (.aload_n 0, 1) := bd42 (btAt dk15ascene_cX8_reachOf_0_a 12 rfl)
theorem dX8_reachOf_25 : decode cX8_reachOf 25 = .ok (.getfield 18, 3) := bd180 (a := 0) (b := 18) (btAt dk15ascene_cX8_reachOf_0_a 13 rfl)
theorem dX8_reachOf_28 : decode cX8_reachOf 28 = .ok (.iconst 0, 1) := bd3 (btAt dk15ascene_cX8_reachOf_0_a 14 rfl)
theorem dX8_reachOf_29 : decode cX8_reachOf 29 = .ok (.aload_n 0, 1) := bd42 (btAt dk15ascene_cX8_reachOf_0_a 15 rfl)
theorem dX8_reachOf_30 : decode cX8_reachOf 30 = .ok (.getfield 34, 3) := bd180 (a := 0) (b := 34) (btAt dk15ascene_cX8_reachOf_0_a 16 rfl)
theorem dX8_reachOf_33 : decode cX8_reachOf 33 = .ok (.invokevirtual 89, 3) := bd182 (a := 0) (b := 89) (btAt dk15ascene_cX8_reachOf_0_a 17 rfl)
theorem dX8_reachOf_36 : decode cX8_reachOf 36 = .ok (.iadd, 1) := bd96 (btAt dk15ascene_cX8_reachOf_0_a 18 rfl)
theorem dX8_reachOf_37 : decode cX8_reachOf 37 = .ok (.aload_n 0, 1) := bd42 (btAt dk15ascene_cX8_reachOf_0_a 19 rfl)
theorem dX8_reachOf_38 : decode cX8_reachOf 38 = .ok (.getfield 18, 3) := bd180 (a := 0) (b := 18) (btAt dk15ascene_cX8_reachOf_0_a 20 rfl)
theorem dX8_reachOf_41 : decode cX8_reachOf 41 = .ok (.iconst 1, 1) := bd4 (btAt dk15ascene_cX8_reachOf_0_a 21 rfl)
theorem dX8_reachOf_42 : decode cX8_reachOf 42 = .ok (.aload_n 0, 1) := bd42 (btAt dk15ascene_cX8_reachOf_0_a 22 rfl)
theorem dX8_reachOf_43 : decode cX8_reachOf 43 = .ok (.getfield 34, 3) := bd180 (a := 0) (b := 34) (btAt dk15ascene_cX8_reachOf_0_a 23 rfl)
theorem dX8_reachOf_46 : decode cX8_reachOf 46 = .ok (.invokevirtual 89, 3) := bd182 (a := 0) (b := 89) (btAt dk15ascene_cX8_reachOf_0_a 24 rfl)
theorem dX8_reachOf_49 : decode cX8_reachOf 49 = .ok (.isub, 1) := bd100 (btAt dk15ascene_cX8_reachOf_0_a 25 rfl)
theorem dX8_reachOf_50 : decode cX8_reachOf 50 = .ok (.aload_n 0, 1) := bd42 (btAt dk15ascene_cX8_reachOf_0_a 26 rfl)
theorem dX8_reachOf_51 : decode cX8_reachOf 51 = .ok (.getfield 54, 3) := bd180 (a := 0) (b := 54) (btAt dk15ascene_cX8_reachOf_0_a 27 rfl)
theorem dX8_reachOf_54 : decode cX8_reachOf 54 = .ok (.isub, 1) := bd100 (btAt dk15ascene_cX8_reachOf_0_a 28 rfl)
theorem dX8_reachOf_55 : decode cX8_reachOf 55 = .ok (.istore_n 3, 1) := bd62 (btAt dk15ascene_cX8_reachOf_0_a 29 rfl)
theorem dX8_reachOf_56 : decode cX8_reachOf 56 = .ok (.aload_n 1, 1) := bd43 (btAt dk15ascene_cX8_reachOf_0_a 30 rfl)
theorem dX8_reachOf_57 : decode cX8_reachOf 57 = .ok (.iload_n 3, 1) := bd29 (btAt dk15ascene_cX8_reachOf_0_a 31 rfl)
theorem dX8_reachOf_58 : decode cX8_reachOf 58 = .ok (.iload_n 2, 1) := bd28 (btAt dk15ascene_cX8_reachOf_0_a 32 rfl)
theorem dX8_reachOf_59 : decode cX8_reachOf 59 = .ok (.invokevirtual 93, 3) := bd182 (a := 0) (b := 93) (btAt dk15ascene_cX8_reachOf_0_a 33 rfl)
theorem dX8_reachOf_62 : decode cX8_reachOf 62 = .ok (.ireturn, 1) := bd172 (btAt dk15ascene_cX8_reachOf_0_a 34 rfl)
noncomputable def dk15ascene_cX8_driftOn_0 : List (Nat × List Nat) := [(0, [42]), (1, [16, 99]), (3, [16, 99]), (5, [27]), (6, [42]), (7, [180, 0, 57]), (10, [182, 0, 82]), (13, [8]), (14, [42]), (15, [180, 0, 18]), (18, [6]), (19, [42]), (20, [180, 0, 34]), (23, [182, 0, 89]), (26, [184, 0, 97]), (29, [172])]
set_option maxRecDepth 100000 in
theorem dk15ascene_cX8_driftOn_0_a : btA cX8_driftOn dk15ascene_cX8_driftOn_0 = true := by decide +kernel
theorem dX8_driftOn_0 : decode cX8_driftOn 0 = .ok (.aload_n 0, 1) := bd42 (btAt dk15ascene_cX8_driftOn_0_a 0 rfl)
theorem dX8_driftOn_1 : decode cX8_driftOn 1 = .ok (.bipush 99, 2) := bd16 (a := 99) (btAt dk15ascene_cX8_driftOn_0_a 1 rfl)
theorem dX8_driftOn_3 : decode cX8_driftOn 3 = .ok (.bipush 99, 2) := bd16 (a := 99) (btAt dk15ascene_cX8_driftOn_0_a 2 rfl)
theorem dX8_driftOn_5 : decode cX8_driftOn 5 = .ok (.iload_n 1, 1) := bd27 (btAt dk15ascene_cX8_driftOn_0_a 3 rfl)
theorem dX8_driftOn_6 : decode cX8_driftOn 6 = .ok (.aload_n 0, 1) := bd42 (btAt dk15ascene_cX8_driftOn_0_a 4 rfl)
theorem dX8_driftOn_7 : decode cX8_driftOn 7 = .ok (.getfield 57, 3) := bd180 (a := 0) (b := 57) (btAt dk15ascene_cX8_driftOn_0_a 5 rfl)
theorem dX8_driftOn_10 : decode cX8_driftOn 10 = .ok (.invokevirtual 82, 3) := bd182 (a := 0) (b := 82) (btAt dk15ascene_cX8_driftOn_0_a 6 rfl)
theorem dX8_driftOn_13 : decode cX8_driftOn 13 = .ok (.iconst 5, 1) := bd8 (btAt dk15ascene_cX8_driftOn_0_a 7 rfl)
theorem dX8_driftOn_14 : decode cX8_driftOn 14 = .ok (.aload_n 0, 1) := bd42 (btAt dk15ascene_cX8_driftOn_0_a 8 rfl)
theorem dX8_driftOn_15 : decode cX8_driftOn 15 = .ok (.getfield 18, 3) := bd180 (a := 0) (b := 18) (btAt dk15ascene_cX8_driftOn_0_a 9 rfl)
theorem dX8_driftOn_18 : decode cX8_driftOn 18 = .ok (.iconst 3, 1) := bd6 (btAt dk15ascene_cX8_driftOn_0_a 10 rfl)
theorem dX8_driftOn_19 : decode cX8_driftOn 19 = .ok (.aload_n 0, 1) := bd42 (btAt dk15ascene_cX8_driftOn_0_a 11 rfl)
theorem dX8_driftOn_20 : decode cX8_driftOn 20 = .ok (.getfield 34, 3) := bd180 (a := 0) (b := 34) (btAt dk15ascene_cX8_driftOn_0_a 12 rfl)
theorem dX8_driftOn_23 : decode cX8_driftOn 23 = .ok (.invokevirtual 89, 3) := bd182 (a := 0) (b := 89) (btAt dk15ascene_cX8_driftOn_0_a 13 rfl)
theorem dX8_driftOn_26 : decode cX8_driftOn 26 = .ok (.invokestatic 97, 3) := bd184 (a := 0) (b := 97) (btAt dk15ascene_cX8_driftOn_0_a 14 rfl)
theorem dX8_driftOn_29 : decode cX8_driftOn 29 = .ok (.ireturn, 1) := bd172 (btAt dk15ascene_cX8_driftOn_0_a 15 rfl)
noncomputable def dk15ascene_cX8_cellsSeeing_0 : List (Nat × List Nat) := [(0, [42]), (1, [27]), (2, [182, 0, 69]), (5, [77]), (6, [44]), (7, [199, 0, 5]), (12, [42]), (13, [44]), (14, [42]), (15, [180, 0, 57]), (18, [182, 0, 109]), (21, [62]), (22, [9]), (23, [55, 4]), (25, [3]), (26, [54, 6]), (28, [21, 6]), (30, [16, 36]), (32, [162, 0, 31]), (35, [21, 6]), (37, [44]), (38, [180, 0, 73]), (41, [184, 0, 113]), (44, [29]), (45, [163, 0, 12]), (48, [22, 4]), (50, [10]), (51, [21, 6]), (53, [121]), (54, [129]), (55, [55, 4]), (57, [132, 6, 1]), (60, [167, 255, 224]), (63, [22, 4]), (65, [173])]
set_option maxRecDepth 100000 in
theorem dk15ascene_cX8_cellsSeeing_0_a : btA cX8_cellsSeeing dk15ascene_cX8_cellsSeeing_0 = true := by decide +kernel
theorem dX8_cellsSeeing_0 : decode cX8_cellsSeeing 0 = .ok (.aload_n 0, 1) := bd42 (btAt dk15ascene_cX8_cellsSeeing_0_a 0 rfl)
theorem dX8_cellsSeeing_1 : decode cX8_cellsSeeing 1 = .ok (.iload_n 1, 1) := bd27 (btAt dk15ascene_cX8_cellsSeeing_0_a 1 rfl)
theorem dX8_cellsSeeing_2 : decode cX8_cellsSeeing 2 = .ok (.invokevirtual 69, 3) := bd182 (a := 0) (b := 69) (btAt dk15ascene_cX8_cellsSeeing_0_a 2 rfl)
theorem dX8_cellsSeeing_5 : decode cX8_cellsSeeing 5 = .ok (.astore_n 2, 1) := bd77 (btAt dk15ascene_cX8_cellsSeeing_0_a 3 rfl)
theorem dX8_cellsSeeing_6 : decode cX8_cellsSeeing 6 = .ok (.aload_n 2, 1) := bd44 (btAt dk15ascene_cX8_cellsSeeing_0_a 4 rfl)
theorem dX8_cellsSeeing_7 : decode cX8_cellsSeeing 7 = .ok (.ifnonnull 5, 3) := bd199 (a := 0) (b := 5) (btAt dk15ascene_cX8_cellsSeeing_0_a 5 rfl)
theorem dX8_cellsSeeing_12 : decode cX8_cellsSeeing 12 = .ok (.aload_n 0, 1) := bd42 (btAt dk15ascene_cX8_cellsSeeing_0_a 6 rfl)
theorem dX8_cellsSeeing_13 : decode cX8_cellsSeeing 13 = .ok (.aload_n 2, 1) := bd44 (btAt dk15ascene_cX8_cellsSeeing_0_a 7 rfl)
theorem dX8_cellsSeeing_14 : decode cX8_cellsSeeing 14 = .ok (.aload_n 0, 1) := bd42 (btAt dk15ascene_cX8_cellsSeeing_0_a 8 rfl)
theorem dX8_cellsSeeing_15 : decode cX8_cellsSeeing 15 = .ok (.getfield 57, 3) := bd180 (a := 0) (b := 57) (btAt dk15ascene_cX8_cellsSeeing_0_a 9 rfl)
theorem dX8_cellsSeeing_18 : decode cX8_cellsSeeing 18 = .ok (.invokevirtual 109, 3) := bd182 (a := 0) (b := 109) (btAt dk15ascene_cX8_cellsSeeing_0_a 10 rfl)
theorem dX8_cellsSeeing_21 : decode cX8_cellsSeeing 21 = .ok (.istore_n 3, 1) := bd62 (btAt dk15ascene_cX8_cellsSeeing_0_a 11 rfl)
theorem dX8_cellsSeeing_22 : decode cX8_cellsSeeing 22 = .ok (.lconst 0, 1) := bd9 (btAt dk15ascene_cX8_cellsSeeing_0_a 12 rfl)
theorem dX8_cellsSeeing_23 : decode cX8_cellsSeeing 23 = .ok (.lstore 4, 2) := bd55 (a := 4) (btAt dk15ascene_cX8_cellsSeeing_0_a 13 rfl)
theorem dX8_cellsSeeing_25 : decode cX8_cellsSeeing 25 = .ok (.iconst 0, 1) := bd3 (btAt dk15ascene_cX8_cellsSeeing_0_a 14 rfl)
theorem dX8_cellsSeeing_26 : decode cX8_cellsSeeing 26 = .ok (.istore 6, 2) := bd54 (a := 6) (btAt dk15ascene_cX8_cellsSeeing_0_a 15 rfl)
theorem dX8_cellsSeeing_28 : decode cX8_cellsSeeing 28 = .ok (.iload 6, 2) := bd21 (a := 6) (btAt dk15ascene_cX8_cellsSeeing_0_a 16 rfl)
theorem dX8_cellsSeeing_30 : decode cX8_cellsSeeing 30 = .ok (.bipush 36, 2) := bd16 (a := 36) (btAt dk15ascene_cX8_cellsSeeing_0_a 17 rfl)
theorem dX8_cellsSeeing_32 : decode cX8_cellsSeeing 32 = .ok (.if_icmp .ge 31, 3) := bd162 (a := 0) (b := 31) (btAt dk15ascene_cX8_cellsSeeing_0_a 18 rfl)
theorem dX8_cellsSeeing_35 : decode cX8_cellsSeeing 35 = .ok (.iload 6, 2) := bd21 (a := 6) (btAt dk15ascene_cX8_cellsSeeing_0_a 19 rfl)
theorem dX8_cellsSeeing_37 : decode cX8_cellsSeeing 37 = .ok (.aload_n 2, 1) := bd44 (btAt dk15ascene_cX8_cellsSeeing_0_a 20 rfl)
theorem dX8_cellsSeeing_38 : decode cX8_cellsSeeing 38 = .ok (.getfield 73, 3) := bd180 (a := 0) (b := 73) (btAt dk15ascene_cX8_cellsSeeing_0_a 21 rfl)
theorem dX8_cellsSeeing_41 : decode cX8_cellsSeeing 41 = .ok (.invokestatic 113, 3) := bd184 (a := 0) (b := 113) (btAt dk15ascene_cX8_cellsSeeing_0_a 22 rfl)
theorem dX8_cellsSeeing_44 : decode cX8_cellsSeeing 44 = .ok (.iload_n 3, 1) := bd29 (btAt dk15ascene_cX8_cellsSeeing_0_a 23 rfl)
theorem dX8_cellsSeeing_45 : decode cX8_cellsSeeing 45 = .ok (.if_icmp .gt 12, 3) := bd163 (a := 0) (b := 12) (btAt dk15ascene_cX8_cellsSeeing_0_a 24 rfl)
theorem dX8_cellsSeeing_48 : decode cX8_cellsSeeing 48 = .ok (.lload 4, 2) := bd22 (a := 4) (btAt dk15ascene_cX8_cellsSeeing_0_a 25 rfl)
theorem dX8_cellsSeeing_50 : decode cX8_cellsSeeing 50 = .ok (.lconst 1, 1) := bd10 (btAt dk15ascene_cX8_cellsSeeing_0_a 26 rfl)
theorem dX8_cellsSeeing_51 : decode cX8_cellsSeeing 51 = .ok (.iload 6, 2) := bd21 (a := 6) (btAt dk15ascene_cX8_cellsSeeing_0_a 27 rfl)
theorem dX8_cellsSeeing_53 : decode cX8_cellsSeeing 53 = .ok (.lshl, 1) := bd121 (btAt dk15ascene_cX8_cellsSeeing_0_a 28 rfl)
theorem dX8_cellsSeeing_54 : decode cX8_cellsSeeing 54 = .ok (.lor, 1) := bd129 (btAt dk15ascene_cX8_cellsSeeing_0_a 29 rfl)
theorem dX8_cellsSeeing_55 : decode cX8_cellsSeeing 55 = .ok (.lstore 4, 2) := bd55 (a := 4) (btAt dk15ascene_cX8_cellsSeeing_0_a 30 rfl)
theorem dX8_cellsSeeing_57 : decode cX8_cellsSeeing 57 = .ok (.iinc 6 1, 3) := bd132 (a := 6) (b := 1) (btAt dk15ascene_cX8_cellsSeeing_0_a 31 rfl)
theorem dX8_cellsSeeing_60 : decode cX8_cellsSeeing 60 = .ok (.goto (-32), 3) := bd167 (a := 255) (b := 224) (btAt dk15ascene_cX8_cellsSeeing_0_a 32 rfl)
theorem dX8_cellsSeeing_63 : decode cX8_cellsSeeing 63 = .ok (.lload 4, 2) := bd22 (a := 4) (btAt dk15ascene_cX8_cellsSeeing_0_a 33 rfl)
theorem dX8_cellsSeeing_65 : decode cX8_cellsSeeing 65 = .ok (.lreturn, 1) := bd173 (btAt dk15ascene_cX8_cellsSeeing_0_a 34 rfl)
theorem lt_of {x : Int32} {n : Nat} (hn : n ≤ 1000) (h1 : ¬ x < 0) (h2 : ¬ nI n ≤ x) : ∃ j : Nat, j < n ∧ x = nI j := by
  obtain ⟨j, hj, e⟩ := nI_of h1
  subst e
  exact ⟨j, Nat.lt_of_not_le (fun q => h2 (nI_le q (by omega))), rfl⟩
theorem ge_no {x : Int32} {n : Nat} (hn : n ≤ 1000) (h : x < 0 ∨ nI n ≤ x) : ∀ j : Nat, j < n → x ≠ nI j := by
  intro j hj e
  subst e
  rcases h with h | h
  · exact absurd h (nI_pos (by omega))
  · exact absurd ((nI_leI (a := n) (b := j) (by omega) (by omega)).mp h) (by omega)

theorem kc_heapAt_0 : ∀ w ∈ wsX80, w ∈ wsX8_heapAt := fun w h => List.mem_cons_of_mem _ (gin_wsX80 w h)
theorem kc_heapAt_1 : (.fieldLink RX8 60 "MistHeaps$Scene" "heapCount" "I" : Cond) ∈ wsX8_heapAt := kc_of 172 rfl rfl rfl
theorem kc_heapAt_2 : (.fieldLink RX8 24 "MistHeaps$Scene" "heaps" "[LMistHeaps$Heap;" : Cond) ∈ wsX8_heapAt := kc_of 168 rfl rfl rfl
set_option maxHeartbeats 4000000 in
set_option maxRecDepth 100000 in
theorem c_heapAt (l : Launch) (dC : Nat → ClassId) (dI : Nat → Nat → Nat) (sc : Nat) (aTp : Nat) (aHl : Nat) (aHs : Nat) (aWk : Nat) (aBk : Nat) (aFc : Nat) (ts : Nat) (nh : Nat) (n : Nat) (wz : Nat) (bz : Nat) (mi : Int32) (sn : Int32) (x : Int32) (ed : Int64) (cHs : ClassId) (fHs : Nat → Option Nat) (ya : Nat → Nat) (zhs : ∀ k0, k0 < n → fHs k0 = some (ya k0)) (hn8 : n ≤ 8) : Met l yX8_heapAt wsX8_heapAt ({ frames := 0, cells := 0, slots := 0, locals := 0 } : Room) (va_Pc [.ref sc, .int x] (fun U => va_P (dC, dI) vwCl [(zo10ririliiriririr sc aTp (nI ts) aHl (nI nh) ed mi sn aHs (nI n) aWk (nI wz) aBk (nI bz) aFc), (zaR aHs cHs 8 fHs)] U.heap ∧ va_K (dC, dI) vwCl [(cHs, .object "MistHeaps$Heap")] U)) (va_Sq (fun r => (∃ jq : Nat, jq < n ∧ x = nI jq ∧ r = some (ya jq)) ∨ (r = none ∧ ∀ jq : Nat, jq < n → x ≠ nI jq))) 0 0 (fun _ => False) := by
  refine met_ofQ (cc := cX8_heapAt) (maxL := 2) (ret := (some (.object "MistHeaps$Heap"))) (by decide) rfl ?_
  intro p e s m args below meth c s₁ Q B hml hv hQ
  obtain ⟨rfl, hP, hK⟩ := hv
  have hx := B.exec
  have hb := B.bytes
  have hr := B.returns
  have hts := atoms_spec (ws := wsX8_heapAt) B.pre
  have hown : s.vm.findClass RX8 = some m.cls := findClass_of_methodNamed B.named
  have hlocks := B.notSynchronized
  obtain ⟨A, hAe⟩ : ∃ A : Nat → Prop, A = fun _ => False := ⟨_, rfl⟩
  rw [← hAe] at hQ
  have hS : va_S A s.heap s.heap [] := va_S.rf
  have hl := lv_entry [.ref sc, .int x] (n := 2) (Nat.le_of_ble_eq_true rfl)
  rw [lg_entry_eq]
  generalize (lg_sl [.ref sc, .int x] ++ List.replicate (2 - (lg_sl [.ref sc, .int x]).length) Slot.unset).toArray = ls at hl ⊢
  generalize hag : ([.ref sc, .int x] : List Value).toArray = args at hts hQ ⊢
  have hl : lv_has ls 2 [(0, .ref sc), (1, .int x)] := hl
  refine lv_iload_n hx hb dX8_heapAt_0 rfl (lv_at hl 1 rfl) ?_
  refine lv_if_lt (tgt := 21) hx hb dX8_heapAt_1 (by decide) (fun c_1 => ?_) (fun c_1 => ?_)
  · skip
    refine lv_null hx hb dX8_heapAt_21 ?_
    rw [hQ]
    exact W.aret (v := .null) hx hb hr (Or.inl ⟨_, rfl⟩) (Or.inl rfl) (fun tQ htQ hWQ => ⟨none, rfl, by first | exact Or.inl ⟨j0, hj0, rfl, rfl⟩ | exact Or.inr ⟨rfl, ge_no (by omega) (Or.inl (by assumption))⟩ | exact Or.inr ⟨rfl, ge_no (by omega) (Or.inr (by assumption))⟩, by rw [htQ]⟩) (fun q hq => absurd hq List.not_mem_nil) dX8_heapAt_22
  · skip
    refine lv_iload_n hx hb dX8_heapAt_4 rfl (lv_at hl 1 rfl) ?_
    refine lv_aload_n hx hb dX8_heapAt_5 rfl (lv_at hl 0 rfl) ?_
    refine va_get (D := (dC, dI)) (ci := 10) (v := .int (nI n)) (C := RX8) (T := TX8) (N := 14) hx hb hts kc_heapAt_0 hown hK hP 0 rfl rfl 8 (by decide) (hts (.fieldLink RX8 60 "MistHeaps$Scene" "heapCount" "I") kc_heapAt_1) (fun _ h9 => h9) rfl dX8_heapAt_6 ?_
    refine lv_icmp_ge (tgt := 21) hx hb dX8_heapAt_9 (by decide) (fun c_2 => ?_) (fun c_2 => ?_)
    · skip
      refine lv_null hx hb dX8_heapAt_21 ?_
      rw [hQ]
      exact W.aret (v := .null) hx hb hr (Or.inl ⟨_, rfl⟩) (Or.inl rfl) (fun tQ htQ hWQ => ⟨none, rfl, by first | exact Or.inl ⟨j0, hj0, rfl, rfl⟩ | exact Or.inr ⟨rfl, ge_no (by omega) (Or.inl (by assumption))⟩ | exact Or.inr ⟨rfl, ge_no (by omega) (Or.inr (by assumption))⟩, by rw [htQ]⟩) (fun q hq => absurd hq List.not_mem_nil) dX8_heapAt_22
    · skip
      obtain ⟨j0, hj0, rfl⟩ := lt_of (n := n) (by omega) (by assumption) c_2
      refine lv_aload_n hx hb dX8_heapAt_12 rfl (lv_at hl 0 rfl) ?_
      refine va_get (D := (dC, dI)) (ci := 10) (v := .ref aHs) (C := RX8) (T := TX8) (N := 14) hx hb hts kc_heapAt_0 hown hK hP 0 rfl rfl 7 (by decide) (hts (.fieldLink RX8 24 "MistHeaps$Scene" "heaps" "[LMistHeaps$Heap;") kc_heapAt_2) (fun _ h9 => h9) rfl dX8_heapAt_13 ?_
      refine lv_iload_n hx hb dX8_heapAt_16 rfl (lv_at hl 1 rfl) ?_
      refine va_aldq hx hb hK hP 1 0 rfl rfl (vp_in_nI (n := j0) (N := 8) (by omega) (by omega)) dX8_heapAt_17 ?_
      refine qq_as (v := .ref (ya j0)) (by rw [nI_clamp (by omega), zhs j0 (by omega)]; rfl) ?_
      refine lv_goto (tgt := 22) hx hb dX8_heapAt_18 (by decide) ?_
      rw [hQ]
      exact W.aret (v := .ref (ya j0)) hx hb hr (Or.inl ⟨_, rfl⟩) (Or.inr ⟨_, rfl⟩) (fun tQ htQ hWQ => ⟨some (ya j0), rfl, by first | exact Or.inl ⟨j0, hj0, rfl, rfl⟩ | exact Or.inr ⟨rfl, ge_no (by omega) (Or.inl (by assumption))⟩ | exact Or.inr ⟨rfl, ge_no (by omega) (Or.inr (by assumption))⟩, by rw [htQ]⟩) (fun q hq => absurd hq List.not_mem_nil) dX8_heapAt_22

set_option maxHeartbeats 4000000 in
set_option maxRecDepth 100000 in
theorem c_areHeaps (l : Launch) (dC : Nat → ClassId) (dI : Nat → Nat → Nat) (sc : Nat) (aTp : Nat) (aHl : Nat) (aHs : Nat) (aWk : Nat) (aBk : Nat) (aFc : Nat) (ts : Nat) (nh : Nat) (n : Nat) (wz : Nat) (bz : Nat) (mi : Int32) (sn : Int32) (x : Int32) (y : Int32) (ed : Int64) (cHs : ClassId) (fHs : Nat → Option Nat) (ya : Nat → Nat) (zhs : ∀ k0, k0 < n → fHs k0 = some (ya k0)) (hn8 : n ≤ 8) : Met l yX8_areHeaps wsX8_areHeaps ({ frames := 1, cells := 0, slots := 0, locals := 21 } : Room) (va_Pc [.ref sc, .int x, .int y] (fun U => va_P (dC, dI) vwCl [(zo10ririliiriririr sc aTp (nI ts) aHl (nI nh) ed mi sn aHs (nI n) aWk (nI wz) aBk (nI bz) aFc), (zaR aHs cHs 8 fHs)] U.heap ∧ va_K (dC, dI) vwCl [(cHs, .object "MistHeaps$Heap")] U)) (vp_Si (fun r => (r = 1 ∧ ∃ j1 j2 : Nat, j1 < n ∧ j2 < n ∧ x = nI j1 ∧ y = nI j2) ∨ (r = 0 ∧ ((∀ jq : Nat, jq < n → x ≠ nI jq) ∨ (∀ jq : Nat, jq < n → y ≠ nI jq))))) 0 0 (fun _ => False) := by
  refine met_ofQ (cc := cX8_areHeaps) (maxL := 3) (ret := (some .boolean)) (by decide) rfl ?_
  intro p e s m args below meth c s₁ Q B hml hv hQ
  obtain ⟨rfl, hP, hK⟩ := hv
  have hx := B.exec
  have hb := B.bytes
  have hr := B.returns
  have hts := atoms_spec (ws := wsX8_areHeaps) B.pre
  have hown : s.vm.findClass RX8 = some m.cls := findClass_of_methodNamed B.named
  have hlocks := B.notSynchronized
  obtain ⟨A, hAe⟩ : ∃ A : Nat → Prop, A = fun _ => False := ⟨_, rfl⟩
  rw [← hAe] at hQ
  have hS : va_S A s.heap s.heap [] := va_S.rf
  have hl := lv_entry [.ref sc, .int x, .int y] (n := 3) (Nat.le_of_ble_eq_true rfl)
  rw [lg_entry_eq]
  generalize (lg_sl [.ref sc, .int x, .int y] ++ List.replicate (3 - (lg_sl [.ref sc, .int x, .int y]).length) Slot.unset).toArray = ls at hl ⊢
  generalize hag : ([.ref sc, .int x, .int y] : List Value).toArray = args at hts hQ ⊢
  have hl : lv_has ls 3 [(0, .ref sc), (1, .int x), (2, .int y)] := hl
  refine lv_aload_n hx hb dX8_areHeaps_0 rfl (lv_at hl 0 rfl) ?_
  refine lv_iload_n hx hb dX8_areHeaps_1 rfl (lv_at hl 1 rfl) ?_
  have hPc := hP.sub (ws' := [(zo10ririliiriririr sc aTp (nI ts) aHl (nI nh) ed mi sn aHs (nI n) aWk (nI wz) aBk (nI bz) aFc), (zaR aHs cHs 8 fHs)]) [0, 1] rfl
  have hKc := hK.sub (tys' := [(cHs, .object "MistHeaps$Heap")]) [0] rfl
  refine va_csq (va_runV (As := [.int x]) (rest := []) ⟨hx, hb, hml, hown, hts⟩ (c_heapAt l dC dI sc aTp aHl aHs aWk aBk aFc ts nh n wz bz mi sn x ed cHs fHs ya (zhs) (hn8)) (cwV 1 hts gX8_areHeaps_X8_heapAt rfl rfl rfl hd_yX8_heapAt ⟨Nat.le_of_ble_eq_true rfl, Nat.le_of_ble_eq_true rfl⟩) ⟨fun a U g mk q => by obtain ⟨q0, qP, qK⟩ := q; exact ⟨q0, mvP g mk a qP, mvK g mk a qK⟩, va_recv hK hP (ci := 10) (q := (RX8, TX8, 14)) (q0 := 0) rfl rfl, fun U hU hW => ⟨rfl, by rw [hU]; exact hPc, va_K.moved hW.alike hKc⟩⟩ rfl rfl hl.1 rfl (lv_room (Nat.le_of_ble_eq_true rfl)) dX8_areHeaps_2 ⟨Nat.le_of_ble_eq_true rfl, Nat.le_of_ble_eq_true rfl⟩).run (fun r_1 hw_2 => ?_)
  rcases hw_2 with ⟨j_3, hj_4, rfl, rfl⟩ | ⟨rfl, h_6⟩
  · skip
    refine qq_as (v := .ref (ya j_3)) rfl ?_
    refine lv_ifnull hx hb dX8_areHeaps_5 ?_
    refine lv_aload_n hx hb dX8_areHeaps_8 rfl (lv_at hl 0 rfl) ?_
    refine lv_iload_n hx hb dX8_areHeaps_9 rfl (lv_at hl 2 rfl) ?_
    have hPc := hP.sub (ws' := [(zo10ririliiriririr sc aTp (nI ts) aHl (nI nh) ed mi sn aHs (nI n) aWk (nI wz) aBk (nI bz) aFc), (zaR aHs cHs 8 fHs)]) [0, 1] rfl
    have hKc := hK.sub (tys' := [(cHs, .object "MistHeaps$Heap")]) [0] rfl
    refine va_csq (va_runV (As := [.int y]) (rest := []) ⟨hx, hb, hml, hown, hts⟩ (c_heapAt l dC dI sc aTp aHl aHs aWk aBk aFc ts nh n wz bz mi sn y ed cHs fHs ya (zhs) (hn8)) (cwV 1 hts gX8_areHeaps_X8_heapAt rfl rfl rfl hd_yX8_heapAt ⟨Nat.le_of_ble_eq_true rfl, Nat.le_of_ble_eq_true rfl⟩) ⟨fun a U g mk q => by obtain ⟨q0, qP, qK⟩ := q; exact ⟨q0, mvP g mk a qP, mvK g mk a qK⟩, va_recv hK hP (ci := 10) (q := (RX8, TX8, 14)) (q0 := 0) rfl rfl, fun U hU hW => ⟨rfl, by rw [hU]; exact hPc, va_K.moved hW.alike hKc⟩⟩ rfl rfl hl.1 rfl (lv_room (Nat.le_of_ble_eq_true rfl)) dX8_areHeaps_10 ⟨Nat.le_of_ble_eq_true rfl, Nat.le_of_ble_eq_true rfl⟩).run (fun r_7 hw_8 => ?_)
    rcases hw_8 with ⟨j_9, hj_10, rfl, rfl⟩ | ⟨rfl, h_12⟩
    · skip
      refine qq_as (v := .ref (ya j_9)) rfl ?_
      refine lv_ifnull hx hb dX8_areHeaps_13 ?_
      refine lv_iconst (v := 1) hx hb dX8_areHeaps_16 (by decide) ?_
      refine lv_goto (tgt := 21) hx hb dX8_areHeaps_17 (by decide) ?_
      rw [hQ]
      exact W.zret (v := 1) hx hb hr rfl (fun tQ htQ hWQ => ⟨1, rfl, by first | exact Or.inr ⟨rfl, Or.inl (by assumption)⟩ | exact Or.inr ⟨rfl, Or.inr (by assumption)⟩ | exact Or.inl ⟨rfl, _, _, by assumption, by assumption, rfl, rfl⟩, by rw [htQ]⟩) (fun q hq => absurd hq List.not_mem_nil) dX8_areHeaps_21
    · skip
      refine qq_as (v := .null) rfl ?_
      refine lv_ifnullN (tgt := 20) hx hb dX8_areHeaps_13 (by decide) ?_
      refine lv_iconst (v := 0) hx hb dX8_areHeaps_20 (by decide) ?_
      rw [hQ]
      exact W.zret (v := 0) hx hb hr rfl (fun tQ htQ hWQ => ⟨0, rfl, by first | exact Or.inr ⟨rfl, Or.inl (by assumption)⟩ | exact Or.inr ⟨rfl, Or.inr (by assumption)⟩ | exact Or.inl ⟨rfl, _, _, by assumption, by assumption, rfl, rfl⟩, by rw [htQ]⟩) (fun q hq => absurd hq List.not_mem_nil) dX8_areHeaps_21
  · skip
    refine qq_as (v := .null) rfl ?_
    refine lv_ifnullN (tgt := 20) hx hb dX8_areHeaps_5 (by decide) ?_
    refine lv_iconst (v := 0) hx hb dX8_areHeaps_20 (by decide) ?_
    rw [hQ]
    exact W.zret (v := 0) hx hb hr rfl (fun tQ htQ hWQ => ⟨0, rfl, by first | exact Or.inr ⟨rfl, Or.inl (by assumption)⟩ | exact Or.inr ⟨rfl, Or.inr (by assumption)⟩ | exact Or.inl ⟨rfl, _, _, by assumption, by assumption, rfl, rfl⟩, by rw [htQ]⟩) (fun q hq => absurd hq List.not_mem_nil) dX8_areHeaps_21

theorem tk_step {n i : Nat} {f : Nat → Int32} {x : Int32} (h : ∀ j, j < i → ¬ f j = x) (q : ¬ f i = x) : ∀ j, j < i + 1 → ¬ f j = x := by
  intro j hj
  rcases Nat.lt_or_ge j i with z | z
  · exact h j z
  · rw [show j = i by omega]; exact q

theorem kc_isTaken_0 : ∀ w ∈ wsX80, w ∈ wsX8_isTaken := fun w h => List.mem_cons_of_mem _ (gin_wsX80 w h)
theorem kc_isTaken_1 : (.fieldLink RX8 60 "MistHeaps$Scene" "heapCount" "I" : Cond) ∈ wsX8_isTaken := kc_of 172 rfl rfl rfl
theorem kc_isTaken_2 : (.fieldLink RX8 24 "MistHeaps$Scene" "heaps" "[LMistHeaps$Heap;" : Cond) ∈ wsX8_isTaken := kc_of 168 rfl rfl rfl
theorem kc_isTaken_3 : (.fieldLink RX8 73 "MistHeaps$Heap" "cell" "I" : Cond) ∈ wsX8_isTaken := kc_of 250 rfl rfl rfl
theorem kc_isTaken_4 : ∀ C ∈ hpC, ∀ w ∈ u_ws C.1 C.2.1 C.2.2, w ∈ wsX8_isTaken := by decide +kernel
set_option maxHeartbeats 4000000 in
set_option maxRecDepth 100000 in
theorem c_isTaken (l : Launch) (dC : Nat → ClassId) (dI : Nat → Nat → Nat)  (sc : Nat) (aTp : Nat) (aHl : Nat) (aHs : Nat) (aWk : Nat) (aBk : Nat) (aFc : Nat) (ts : Nat) (nh : Nat) (n : Nat) (wz : Nat) (bz : Nat) (mi : Int32) (sn : Int32) (x : Int32) (ed : Int64) (cHs : ClassId) (yk : Nat → Int32) (yv : Nat → Int32) (yc : Nat → Int32) (fHs : Nat → Option Nat) (yi : Nat → Nat) (ya : Nat → Nat) (zhs : ∀ k0, k0 < n → fHs k0 = some (ya k0)) (hn8 : n ≤ 8) : Met l yX8_isTaken wsX8_isTaken ({ frames := 0, cells := 0, slots := 0, locals := 0 } : Room) (va_Pc [.ref sc, .int x] (fun U => va_P (dC, dI) vwCl [(zo10ririliiriririr sc aTp (nI ts) aHl (nI nh) ed mi sn aHs (nI n) aWk (nI wz) aBk (nI bz) aFc), (zaR aHs cHs 8 fHs)] U.heap ∧ va_K (dC, dI) vwCl [(cHs, .object "MistHeaps$Heap")] U ∧ Hs dC dI n yi ya yk yv yc (fun _ => False) U)) (vp_Si (fun r => (r = 1 ∧ ∃ jq : Nat, jq < n ∧ yc jq = x) ∨ (r = 0 ∧ ∀ jq : Nat, jq < n → ¬ yc jq = x))) 0 0 (fun _ => False) := by
  refine met_ofQ (cc := cX8_isTaken) (maxL := 3) (ret := (some .boolean)) (by decide) rfl ?_
  intro p e s m args below meth c s₁ Q B hml hv hQ
  obtain ⟨rfl, hP, hK, hH_⟩ := hv
  have hx := B.exec
  have hb := B.bytes
  have hr := B.returns
  have hts := atoms_spec (ws := wsX8_isTaken) B.pre
  have hown : s.vm.findClass RX8 = some m.cls := findClass_of_methodNamed B.named
  have hlocks := B.notSynchronized
  obtain ⟨A, hAe⟩ : ∃ A : Nat → Prop, A = fun _ => False := ⟨_, rfl⟩
  rw [← hAe] at hQ hH_
  have hS : va_S A s.heap s.heap [] := va_S.rf
  have hl := lv_entry [.ref sc, .int x] (n := 3) (Nat.le_of_ble_eq_true rfl)
  rw [lg_entry_eq]
  generalize (lg_sl [.ref sc, .int x] ++ List.replicate (3 - (lg_sl [.ref sc, .int x]).length) Slot.unset).toArray = ls at hl ⊢
  generalize hag : ([.ref sc, .int x] : List Value).toArray = args at hts hQ ⊢
  have hl : lv_has ls 3 [(0, .ref sc), (1, .int x)] := hl
  refine lv_iconst (v := 0) hx hb dX8_isTaken_0 (by decide) ?_
  refine lv_istore_n (lv' := [(2, .int 0), (0, .ref sc), (1, .int x)]) hx hb dX8_isTaken_1 rfl hl (by decide) rfl (fun ls hl => ?_)
  have L2 : ∀ (nF : Nat) (i : Nat), n - i < nF → (i ≤ n) → (∀ j, j < i → ¬ yc j = x) → ∀ (ls : Array Slot), lv_has ls 3 [(0, .ref sc), (1, .int x), (2, .int (nI i))] → W p l e ({ frames := 0, cells := 0, slots := 0, locals := 0 } : Room) s m args below meth c s.heap [] 0 0 Q (F0 m 2 ls []) := by
    intro nF
    induction nF with
    | zero => intro i hm; exact absurd hm (Nat.not_lt_zero _)
    | succ nF ih2 =>
      intro i hm hi hq9 ls hl
      refine lv_iload_n hx hb dX8_isTaken_2 rfl (lv_at hl 2 rfl) ?_
      refine lv_aload_n hx hb dX8_isTaken_3 rfl (lv_at hl 0 rfl) ?_
      refine va_get (D := (dC, dI)) (ci := 10) (v := .int (nI n)) (C := RX8) (T := TX8) (N := 14) hx hb hts kc_isTaken_0 hown hK hP 0 rfl rfl 8 (by decide) (hts (.fieldLink RX8 60 "MistHeaps$Scene" "heapCount" "I") kc_isTaken_1) (fun _ h9 => h9) rfl dX8_isTaken_4 ?_
      refine lv_icmp_ge (tgt := 31) hx hb dX8_isTaken_7 (by decide) (fun c_1 => ?_) (fun c_1 => ?_)
      · skip
        have c_1 : n ≤ i := (nI_leI (a := n) (b := i) (by omega) (by omega)).mp c_1
        refine lv_iconst (v := 0) hx hb dX8_isTaken_31 (by decide) ?_
        rw [hQ]
        exact W.zret (v := 0) hx hb hr rfl (fun tQ htQ hWQ => ⟨0, rfl, by first | exact Or.inl ⟨rfl, i, by omega, by assumption⟩ | exact Or.inr ⟨rfl, fun j hj => hq9 j (by omega)⟩, by rw [htQ]⟩) (fun q hq => absurd hq List.not_mem_nil) dX8_isTaken_32
      · skip
        have c_1 : ¬ n ≤ i := fun q => c_1 ((nI_leI (a := n) (b := i) (by omega) (by omega)).mpr q)
        refine lv_aload_n hx hb dX8_isTaken_10 rfl (lv_at hl 0 rfl) ?_
        refine va_get (D := (dC, dI)) (ci := 10) (v := .ref aHs) (C := RX8) (T := TX8) (N := 14) hx hb hts kc_isTaken_0 hown hK hP 0 rfl rfl 7 (by decide) (hts (.fieldLink RX8 24 "MistHeaps$Scene" "heaps" "[LMistHeaps$Heap;") kc_isTaken_2) (fun _ h9 => h9) rfl dX8_isTaken_11 ?_
        refine lv_iload_n hx hb dX8_isTaken_14 rfl (lv_at hl 2 rfl) ?_
        refine va_aldq hx hb hK hP 1 0 rfl rfl (vp_in_nI (n := i) (N := 8) (by omega) (by omega)) dX8_isTaken_15 ?_
        refine qq_as (v := .ref (ya i)) (by rw [nI_clamp (by omega), zhs i (by omega)]; rfl) ?_
        refine va_hget3 (v := .int (yc i)) hx hb hts kc_isTaken_4 hown (hH_ i (by omega)).1 (hH_ i (by omega)).2 hS (hts (.fieldLink RX8 73 "MistHeaps$Heap" "cell" "I") kc_isTaken_3) dX8_isTaken_16 rfl ?_
        refine lv_iload_n hx hb dX8_isTaken_19 rfl (lv_at hl 1 rfl) ?_
        refine lv_icmp_ne (tgt := 25) hx hb dX8_isTaken_20 (by decide) (fun c_2 => ?_) (fun c_2 => ?_)
        · skip
          refine lv_iinc (v := nI (i + 1)) (lv' := [(2, .int (nI (i + 1))), (0, .ref sc), (1, .int x)]) hx hb dX8_isTaken_25 hl (k := 2) rfl (nI_add i 1) (by decide) rfl (fun ls hl => ?_)
          refine lv_goto (tgt := 2) hx hb dX8_isTaken_28 (by decide) ?_
          exact ih2 (i + 1) (by omega) (by omega) (tk_step (n := n) hq9 c_2) ls (lv_sub hl [1, 2, 0] rfl)
        · skip
          refine lv_iconst (v := 1) hx hb dX8_isTaken_23 (by decide) ?_
          rw [hQ]
          exact W.zret (v := 1) hx hb hr rfl (fun tQ htQ hWQ => ⟨1, rfl, by first | exact Or.inl ⟨rfl, i, by omega, by assumption⟩ | exact Or.inr ⟨rfl, fun j hj => hq9 j (by omega)⟩, by rw [htQ]⟩) (fun q hq => absurd hq List.not_mem_nil) dX8_isTaken_24
  exact L2 _ (0) (Nat.lt_succ_self _) (by omega) (fun j hj => absurd hj (Nat.not_lt_zero j)) ls (lv_sub hl [1, 2, 0] rfl)

theorem kc_tellFacts_0 : ∀ w ∈ wsX80, w ∈ wsX8_tellFacts := fun w h => List.mem_cons_of_mem _ (gin_wsX80 w h)
theorem kc_tellFacts_1 : (.fieldLink RX8 34 "MistHeaps$Scene" "facts" "[I" : Cond) ∈ wsX8_tellFacts := kc_of 184 rfl rfl rfl
theorem kc_tellFacts_2 : (.initialized RX11 : Cond) ∈ wsX8_tellFacts := kc_of 63 rfl rfl rfl
theorem kc_tellFacts_3 : (.static yX11_rowOf : Cond) ∈ wsX8_tellFacts := kc_of 642 rfl rfl rfl
theorem kc_tellFacts_4 : (.static yX11_columnOf : Cond) ∈ wsX8_tellFacts := kc_of 645 rfl rfl rfl
theorem kc_tellFacts_5 : (.fieldLink RX8 54 "MistHeaps$Scene" "mist" "I" : Cond) ∈ wsX8_tellFacts := kc_of 163 rfl rfl rfl
set_option maxHeartbeats 4000000 in
set_option maxRecDepth 100000 in
theorem c_tellFacts (l : Launch) (dC : Nat → ClassId) (dI : Nat → Nat → Nat) (gd : Nat → Nat) (sc : Nat) (aTp : Nat) (aHl : Nat) (aHs : Nat) (aWk : Nat) (aBk : Nat) (aFc : Nat) (ts : Nat) (nh : Nat) (n : Nat) (wz : Nat) (bz : Nat) (mi : Int32) (sn : Int32) (sn0 : Int32) (x : Int32) (y : Int32) (z : Int32) (ed : Int64) (cFc : ClassId) (fFc : Nat → Int32) (sz : Nat) : Met l yX8_tellFacts wsX8_tellFacts ({ frames := 1, cells := 0, slots := 0, locals := 20 } : Room) (va_Pc [.ref sc, .int x, .int y, .int z, .int sn0] (fun U => U.heap.size = sz ∧ va_P (dC, dI) vwCl [(zo10ririliiriririr sc aTp (nI ts) aHl (nI nh) ed mi sn aHs (nI n) aWk (nI wz) aBk (nI bz) aFc), (zaI aFc cFc 6 fFc)] U.heap ∧ va_K (dC, dI) vwCl [(cFc, .int)] U ∧ va_D (fun _ => True) [(zo10ririliiriririr sc aTp (nI ts) aHl (nI nh) ed mi sn aHs (nI n) aWk (nI wz) aBk (nI bz) aFc), (zaI aFc cFc 6 fFc)] ∧ Gl gd (va_A [(zo10ririliiriririr sc aTp (nI ts) aHl (nI nh) ed mi sn aHs (nI n) aWk (nI wz) aBk (nI bz) aFc), (zaI aFc cFc 6 fFc)] sz) U)) (va_Qv (fun (u : Nat → Int32) => match u with | fFc9 => ∀ k0, k0 < 6 → fFc9 k0 = fct x y z mi sn0 k0) (fun (u : Nat → Int32) (t : State) => match u with | fFc9 => va_P (dC, dI) vwCl [(zo10ririliiriririr sc aTp (nI ts) aHl (nI nh) ed mi sn aHs (nI n) aWk (nI wz) aBk (nI bz) aFc), (zaI aFc cFc 6 fFc9)] t.heap ∧ va_K (dC, dI) vwCl [(cFc, .int)] t ∧ va_D (va_A [(zo10ririliiriririr sc aTp (nI ts) aHl (nI nh) ed mi sn aHs (nI n) aWk (nI wz) aBk (nI bz) aFc), (zaI aFc cFc 6 fFc)] sz) [(zo10ririliiriririr sc aTp (nI ts) aHl (nI nh) ed mi sn aHs (nI n) aWk (nI wz) aBk (nI bz) aFc), (zaI aFc cFc 6 fFc9)]) (va_A [(zo10ririliiriririr sc aTp (nI ts) aHl (nI nh) ed mi sn aHs (nI n) aWk (nI wz) aBk (nI bz) aFc), (zaI aFc cFc 6 fFc)] sz)) 0 0 (va_A [(zo10ririliiriririr sc aTp (nI ts) aHl (nI nh) ed mi sn aHs (nI n) aWk (nI wz) aBk (nI bz) aFc), (zaI aFc cFc 6 fFc)] sz) := by
  refine met_ofQ (cc := cX8_tellFacts) (maxL := 5) (ret := none) (by decide) rfl ?_
  intro p e s m args below meth c s₁ Q B hml hv hQ
  obtain ⟨rfl, hsz, hP, hK, hD0, hG⟩ := hv
  have hx := B.exec
  have hb := B.bytes
  have hr := B.returns
  have hts := atoms_spec (ws := wsX8_tellFacts) B.pre
  have hown : s.vm.findClass RX8 = some m.cls := findClass_of_methodNamed B.named
  have hlocks := B.notSynchronized
  subst hsz
  have hD := hD0.self (sz := s.heap.size)
  generalize hAe : va_A [(zo10ririliiriririr sc aTp (nI ts) aHl (nI nh) ed mi sn aHs (nI n) aWk (nI wz) aBk (nI bz) aFc), (zaI aFc cFc 6 fFc)] s.heap.size = A at hD hQ hG ⊢
  have hA : ∀ q : Nat, s.heap.size ≤ q → A q := fun q h => by rw [← hAe]; exact Or.inr h
  have hS : va_S A s.heap s.heap [] := va_S.rf
  have hl := lv_entry [.ref sc, .int x, .int y, .int z, .int sn0] (n := 5) (Nat.le_of_ble_eq_true rfl)
  rw [lg_entry_eq]
  generalize (lg_sl [.ref sc, .int x, .int y, .int z, .int sn0] ++ List.replicate (5 - (lg_sl [.ref sc, .int x, .int y, .int z, .int sn0]).length) Slot.unset).toArray = ls at hl ⊢
  generalize hag : ([.ref sc, .int x, .int y, .int z, .int sn0] : List Value).toArray = args at hts hQ ⊢
  have hl : lv_has ls 5 [(0, .ref sc), (1, .int x), (2, .int y), (3, .int z), (4, .int sn0)] := hl
  obtain ⟨H, hH⟩ : ∃ H : Heap, H = s.heap := ⟨_, rfl⟩
  rw [← hH] at hP
  rw [← hH]
  have hS : va_S A s.heap H [] := by rw [hH]; exact hS
  obtain ⟨locs, hlo⟩ : ∃ L : List Loc, L = [] := ⟨_, rfl⟩
  rw [← hlo] at hS
  rw [← hlo]
  clear hH hlo
  refine lv_aload_n hx hb dX8_tellFacts_0 rfl (lv_at hl 0 rfl) ?_
  refine va_get (D := (dC, dI)) (ci := 10) (v := .ref aFc) (C := RX8) (T := TX8) (N := 14) hx hb hts kc_tellFacts_0 hown hK hP 0 rfl rfl 13 (by decide) (hts (.fieldLink RX8 34 "MistHeaps$Scene" "facts" "[I") kc_tellFacts_1) (fun _ h9 => h9) rfl dX8_tellFacts_1 ?_
  refine lv_iconst (v := 0) hx hb dX8_tellFacts_4 (by decide) ?_
  refine lv_iload_n hx hb dX8_tellFacts_5 rfl (lv_at hl 1 rfl) ?_
  refine va_iast hx hb hK hP hD hS 1 0 rfl rfl (vp_in_nI (n := 0) (N := 6) (by omega) (by omega)) dX8_tellFacts_6 (fun H locs hP hD hS => ?_)
  have hP : va_P (dC, dI) vwCl [(zo10ririliiriririr sc aTp (nI ts) aHl (nI nh) ed mi sn aHs (nI n) aWk (nI wz) aBk (nI bz) aFc), (zaI aFc cFc 6 (upd fFc 0 x))] H := hP
  have hD : va_D A [(zo10ririliiriririr sc aTp (nI ts) aHl (nI nh) ed mi sn aHs (nI n) aWk (nI wz) aBk (nI bz) aFc), (zaI aFc cFc 6 (upd fFc 0 x))] := hD
  refine lv_aload_n hx hb dX8_tellFacts_7 rfl (lv_at hl 0 rfl) ?_
  refine va_get (D := (dC, dI)) (ci := 10) (v := .ref aFc) (C := RX8) (T := TX8) (N := 14) hx hb hts kc_tellFacts_0 hown hK hP 0 rfl rfl 13 (by decide) (hts (.fieldLink RX8 34 "MistHeaps$Scene" "facts" "[I") kc_tellFacts_1) (fun _ h9 => h9) rfl dX8_tellFacts_8 ?_
  refine lv_iconst (v := 1) hx hb dX8_tellFacts_11 (by decide) ?_
  refine lv_iload_n hx hb dX8_tellFacts_12 rfl (lv_at hl 2 rfl) ?_
  refine va_iast hx hb hK hP hD hS 1 0 rfl rfl (vp_in_nI (n := 1) (N := 6) (by omega) (by omega)) dX8_tellFacts_13 (fun H locs hP hD hS => ?_)
  have hP : va_P (dC, dI) vwCl [(zo10ririliiriririr sc aTp (nI ts) aHl (nI nh) ed mi sn aHs (nI n) aWk (nI wz) aBk (nI bz) aFc), (zaI aFc cFc 6 (upd (upd fFc 0 x) 1 y))] H := hP
  have hD : va_D A [(zo10ririliiriririr sc aTp (nI ts) aHl (nI nh) ed mi sn aHs (nI n) aWk (nI wz) aBk (nI bz) aFc), (zaI aFc cFc 6 (upd (upd fFc 0 x) 1 y))] := hD
  refine lv_aload_n hx hb dX8_tellFacts_14 rfl (lv_at hl 0 rfl) ?_
  refine va_get (D := (dC, dI)) (ci := 10) (v := .ref aFc) (C := RX8) (T := TX8) (N := 14) hx hb hts kc_tellFacts_0 hown hK hP 0 rfl rfl 13 (by decide) (hts (.fieldLink RX8 34 "MistHeaps$Scene" "facts" "[I") kc_tellFacts_1) (fun _ h9 => h9) rfl dX8_tellFacts_15 ?_
  refine lv_iconst (v := 2) hx hb dX8_tellFacts_18 (by decide) ?_
  refine lv_iload_n hx hb dX8_tellFacts_19 rfl (lv_at hl 3 rfl) ?_
  refine vp_callSi (va_runSN (As := [.int z]) (rest := [.int 2, .ref aFc]) ⟨hx, hb, hml, hown, hts⟩ (c_rowOf l dC dI z) ⟨va_cnB 1 hts ggX8_tellFacts_X11_rowOf rfl rfl rfl (hG.1 (.methodLinkNest RX8 102 yX11_rowOf "MistHeaps") (by decide +kernel)) (hts (.initialized RX11) kc_tellFacts_2) (by decide +kernel) ⟨Nat.le_of_ble_eq_true rfl, Nat.le_of_ble_eq_true rfl⟩, (hts (.static yX11_rowOf) kc_tellFacts_3), trivial⟩ ⟨fun a U g mk q => ⟨q.1, trivial⟩, fun U hU hW => ⟨rfl, trivial⟩⟩ rfl rfl hl.1 rfl (lv_room (Nat.le_of_ble_eq_true rfl)) dX8_tellFacts_20 ⟨Nat.le_of_ble_eq_true rfl, Nat.le_of_ble_eq_true rfl⟩).run (fun r_1 hw_2 => ?_)
  obtain rfl := hw_2
  refine va_iast hx hb hK hP hD hS 1 0 rfl rfl (vp_in_nI (n := 2) (N := 6) (by omega) (by omega)) dX8_tellFacts_23 (fun H locs hP hD hS => ?_)
  have hP : va_P (dC, dI) vwCl [(zo10ririliiriririr sc aTp (nI ts) aHl (nI nh) ed mi sn aHs (nI n) aWk (nI wz) aBk (nI bz) aFc), (zaI aFc cFc 6 (upd (upd (upd fFc 0 x) 1 y) 2 (z / 6)))] H := hP
  have hD : va_D A [(zo10ririliiriririr sc aTp (nI ts) aHl (nI nh) ed mi sn aHs (nI n) aWk (nI wz) aBk (nI bz) aFc), (zaI aFc cFc 6 (upd (upd (upd fFc 0 x) 1 y) 2 (z / 6)))] := hD
  refine lv_aload_n hx hb dX8_tellFacts_24 rfl (lv_at hl 0 rfl) ?_
  refine va_get (D := (dC, dI)) (ci := 10) (v := .ref aFc) (C := RX8) (T := TX8) (N := 14) hx hb hts kc_tellFacts_0 hown hK hP 0 rfl rfl 13 (by decide) (hts (.fieldLink RX8 34 "MistHeaps$Scene" "facts" "[I") kc_tellFacts_1) (fun _ h9 => h9) rfl dX8_tellFacts_25 ?_
  refine lv_iconst (v := 3) hx hb dX8_tellFacts_28 (by decide) ?_
  refine lv_iload_n hx hb dX8_tellFacts_29 rfl (lv_at hl 3 rfl) ?_
  refine vp_callSi (va_runSN (As := [.int z]) (rest := [.int 3, .ref aFc]) ⟨hx, hb, hml, hown, hts⟩ (c_columnOf l dC dI z) ⟨va_cnB 1 hts ggX8_tellFacts_X11_columnOf rfl rfl rfl (hG.1 (.methodLinkNest RX8 106 yX11_columnOf "MistHeaps") (by decide +kernel)) (hts (.initialized RX11) kc_tellFacts_2) (by decide +kernel) ⟨Nat.le_of_ble_eq_true rfl, Nat.le_of_ble_eq_true rfl⟩, (hts (.static yX11_columnOf) kc_tellFacts_4), trivial⟩ ⟨fun a U g mk q => ⟨q.1, trivial⟩, fun U hU hW => ⟨rfl, trivial⟩⟩ rfl rfl hl.1 rfl (lv_room (Nat.le_of_ble_eq_true rfl)) dX8_tellFacts_30 ⟨Nat.le_of_ble_eq_true rfl, Nat.le_of_ble_eq_true rfl⟩).run (fun r_3 hw_4 => ?_)
  obtain rfl := hw_4
  refine va_iast hx hb hK hP hD hS 1 0 rfl rfl (vp_in_nI (n := 3) (N := 6) (by omega) (by omega)) dX8_tellFacts_33 (fun H locs hP hD hS => ?_)
  have hP : va_P (dC, dI) vwCl [(zo10ririliiriririr sc aTp (nI ts) aHl (nI nh) ed mi sn aHs (nI n) aWk (nI wz) aBk (nI bz) aFc), (zaI aFc cFc 6 (upd (upd (upd (upd fFc 0 x) 1 y) 2 (z / 6)) 3 (z - z / 6 * 6)))] H := hP
  have hD : va_D A [(zo10ririliiriririr sc aTp (nI ts) aHl (nI nh) ed mi sn aHs (nI n) aWk (nI wz) aBk (nI bz) aFc), (zaI aFc cFc 6 (upd (upd (upd (upd fFc 0 x) 1 y) 2 (z / 6)) 3 (z - z / 6 * 6)))] := hD
  refine lv_aload_n hx hb dX8_tellFacts_34 rfl (lv_at hl 0 rfl) ?_
  refine va_get (D := (dC, dI)) (ci := 10) (v := .ref aFc) (C := RX8) (T := TX8) (N := 14) hx hb hts kc_tellFacts_0 hown hK hP 0 rfl rfl 13 (by decide) (hts (.fieldLink RX8 34 "MistHeaps$Scene" "facts" "[I") kc_tellFacts_1) (fun _ h9 => h9) rfl dX8_tellFacts_35 ?_
  refine lv_iconst (v := 4) hx hb dX8_tellFacts_38 (by decide) ?_
  refine lv_aload_n hx hb dX8_tellFacts_39 rfl (lv_at hl 0 rfl) ?_
  refine va_get (D := (dC, dI)) (ci := 10) (v := .int mi) (C := RX8) (T := TX8) (N := 14) hx hb hts kc_tellFacts_0 hown hK hP 0 rfl rfl 5 (by decide) (hts (.fieldLink RX8 54 "MistHeaps$Scene" "mist" "I") kc_tellFacts_5) (fun _ h9 => h9) rfl dX8_tellFacts_40 ?_
  refine va_iast hx hb hK hP hD hS 1 0 rfl rfl (vp_in_nI (n := 4) (N := 6) (by omega) (by omega)) dX8_tellFacts_43 (fun H locs hP hD hS => ?_)
  have hP : va_P (dC, dI) vwCl [(zo10ririliiriririr sc aTp (nI ts) aHl (nI nh) ed mi sn aHs (nI n) aWk (nI wz) aBk (nI bz) aFc), (zaI aFc cFc 6 (upd (upd (upd (upd (upd fFc 0 x) 1 y) 2 (z / 6)) 3 (z - z / 6 * 6)) 4 mi))] H := hP
  have hD : va_D A [(zo10ririliiriririr sc aTp (nI ts) aHl (nI nh) ed mi sn aHs (nI n) aWk (nI wz) aBk (nI bz) aFc), (zaI aFc cFc 6 (upd (upd (upd (upd (upd fFc 0 x) 1 y) 2 (z / 6)) 3 (z - z / 6 * 6)) 4 mi))] := hD
  refine lv_aload_n hx hb dX8_tellFacts_44 rfl (lv_at hl 0 rfl) ?_
  refine va_get (D := (dC, dI)) (ci := 10) (v := .ref aFc) (C := RX8) (T := TX8) (N := 14) hx hb hts kc_tellFacts_0 hown hK hP 0 rfl rfl 13 (by decide) (hts (.fieldLink RX8 34 "MistHeaps$Scene" "facts" "[I") kc_tellFacts_1) (fun _ h9 => h9) rfl dX8_tellFacts_45 ?_
  refine lv_iconst (v := 5) hx hb dX8_tellFacts_48 (by decide) ?_
  refine lv_iload hx hb dX8_tellFacts_49 (lv_at hl 4 rfl) ?_
  refine va_iast hx hb hK hP hD hS 1 0 rfl rfl (vp_in_nI (n := 5) (N := 6) (by omega) (by omega)) dX8_tellFacts_51 (fun H locs hP hD hS => ?_)
  have hP : va_P (dC, dI) vwCl [(zo10ririliiriririr sc aTp (nI ts) aHl (nI nh) ed mi sn aHs (nI n) aWk (nI wz) aBk (nI bz) aFc), (zaI aFc cFc 6 (upd (upd (upd (upd (upd (upd fFc 0 x) 1 y) 2 (z / 6)) 3 (z - z / 6 * 6)) 4 mi) 5 sn0))] H := hP
  have hD : va_D A [(zo10ririliiriririr sc aTp (nI ts) aHl (nI nh) ed mi sn aHs (nI n) aWk (nI wz) aBk (nI bz) aFc), (zaI aFc cFc 6 (upd (upd (upd (upd (upd (upd fFc 0 x) 1 y) 2 (z / 6)) 3 (z - z / 6 * 6)) 4 mi) 5 sn0))] := hD
  rw [hQ]
  have hP9 := hP.sub (ws' := [(zo10ririliiriririr sc aTp (nI ts) aHl (nI nh) ed mi sn aHs (nI n) aWk (nI wz) aBk (nI bz) aFc), (zaI aFc cFc 6 (upd (upd (upd (upd (upd (upd fFc 0 x) 1 y) 2 (z / 6)) 3 (z - z / 6 * 6)) 4 mi) 5 sn0))]) [0, 1] rfl
  have hD9 := hD.sub (ws' := [(zo10ririliiriririr sc aTp (nI ts) aHl (nI nh) ed mi sn aHs (nI n) aWk (nI wz) aBk (nI bz) aFc), (zaI aFc cFc 6 (upd (upd (upd (upd (upd (upd fFc 0 x) 1 y) 2 (z / 6)) 3 (z - z / 6 * 6)) 4 mi) 5 sn0))]) [0, 1] (by decide) rfl
  have hK9 := hK.sub (tys' := [(cFc, .int)]) [0] rfl
  exact W.vret hx hb hr (fun tQ htQ hWQ => ⟨⟨(upd (upd (upd (upd (upd (upd fFc 0 x) 1 y) 2 (z / 6)) 3 (z - z / 6 * 6)) 4 mi) 5 sn0), rfl, fct_of, by rw [htQ]; exact hP9, va_K.moved hWQ.alike hK9, hD9⟩, hS.F htQ⟩) hS.2.2 dX8_tellFacts_52

theorem kc_xReach_0 : (.fieldLink RX8 76 "MistHeaps$Heap" "number" "I" : Cond) ∈ wsX8_reachOf := kc_of 235 rfl rfl rfl
theorem kc_xReach_2 : (.fieldLink RX8 79 "MistHeaps$Heap" "kind" "I" : Cond) ∈ wsX8_reachOf := kc_of 229 rfl rfl rfl
theorem kc_xReach_3 : (.fieldLink RX8 73 "MistHeaps$Heap" "cell" "I" : Cond) ∈ wsX8_reachOf := kc_of 250 rfl rfl rfl
theorem kc_xReach_4 : ∀ w ∈ wsX80, w ∈ wsX8_reachOf := fun w h => List.mem_cons_of_mem _ (gin_wsX80 w h)
theorem kc_xReach_5 : (.fieldLink RX8 18 "MistHeaps$Scene" "hill" "LMistHeaps$Hill;" : Cond) ∈ wsX8_reachOf := kc_of 156 rfl rfl rfl
theorem kc_xReach_6 : (.fieldLink RX8 86 "MistHeaps$Hill" "sight" "I" : Cond) ∈ wsX8_reachOf := kc_of 114 rfl rfl rfl
theorem kc_xReach_7 : ∀ w ∈ wsX50, w ∈ wsX8_reachOf := fun w h => List.mem_cons_of_mem _ (gin_wsX50 w h)
theorem kc_xReach_8 : (.fieldLink RX8 34 "MistHeaps$Scene" "facts" "[I" : Cond) ∈ wsX8_reachOf := kc_of 184 rfl rfl rfl
theorem kc_xReach_9 : (.fieldLink RX8 54 "MistHeaps$Scene" "mist" "I" : Cond) ∈ wsX8_reachOf := kc_of 163 rfl rfl rfl
theorem kc_xReach_10 : (.code yX3_reachBy cX3_reachBy 3 (some .int) : Cond) ∈ wsX8_reachOf := kc_of 683 rfl rfl rfl
theorem kc_xReach_1 : ∀ C ∈ hpC, ∀ w ∈ u_ws C.1 C.2.1 C.2.2, w ∈ wsX8_reachOf := by decide +kernel
set_option maxHeartbeats 4000000 in
set_option maxRecDepth 100000 in
theorem c_xReach (l : Launch) (dC : Nat → ClassId) (dI : Nat → Nat → Nat) (gd : Nat → Nat)    (sc : Nat) (aTp : Nat) (aHl : Nat) (aHs : Nat) (aWk : Nat) (aBk : Nat) (aFc : Nat) (bW : Nat) (bA : Nat) (bE : Nat) (bC : Nat) (ts : Nat) (nh : Nat) (n : Nat) (wz : Nat) (bz : Nat) (cl : Nat) (i : Nat) (mi : Int32) (sn : Int32) (sg : Int32) (cdd : Int32) (szz : Int32) (att : Int32) (nmb : Int32) (y : Int32) (ed : Int64) (cFc : ClassId) (cbW : ClassId) (cbA : ClassId) (cbE : ClassId) (cbC : ClassId) (fFc : Nat → Int32) (fbW : Nat → Int32) (fbA : Nat → Int32) (fbE : Nat → Int32) (fbC : Nat → Int32) (yk : Nat → Int32) (yv : Nat → Int32) (yc : Nat → Int32) (yi : Nat → Nat) (ya : Nat → Nat) (tpv : Value) (cz : List pCla) (sz : Nat) (hin : i < n) (zcl : cl ≤ 10) (zE : ∀ k0, k0 < 10 → ∃ e0 : Nat, e0 ≤ 100 ∧ fbE k0 = nI e0) (zC : ∀ k0, k0 < 100 → okC (fbC k0)) (zHC : HC cl sg fbW fbA fbE fbC cz ∧ WfC cz) (zyt : ∀ k0, k0 < n → hpT (yi k0) (yk k0)) : Met l yX8_reachOf wsX8_reachOf ({ frames := 4, cells := 0, slots := 0, locals := 79 } : Room) (va_Pc [.ref sc, .ref (ya i), .int y] (fun U => U.heap.size = sz ∧ va_P (dC, dI) vwCl [(zo10ririliiriririr sc aTp (nI ts) aHl (nI nh) ed mi sn aHs (nI n) aWk (nI wz) aBk (nI bz) aFc), (zaI aFc cFc 6 fFc)] U.heap ∧ va_K (dC, dI) vwCl [(cFc, .int)] U ∧ va_D (fun _ => True) [(zo10ririliiriririr sc aTp (nI ts) aHl (nI nh) ed mi sn aHs (nI n) aWk (nI wz) aBk (nI bz) aFc), (zaI aFc cFc 6 fFc)] ∧ Gl gd (va_A [(zo10ririliiriririr sc aTp (nI ts) aHl (nI nh) ed mi sn aHs (nI n) aWk (nI wz) aBk (nI bz) aFc), (zaI aFc cFc 6 fFc)] sz) U ∧ Gw (va_A [(zo10ririliiriririr sc aTp (nI ts) aHl (nI nh) ed mi sn aHs (nI n) aWk (nI wz) aBk (nI bz) aFc), (zaI aFc cFc 6 fFc)] sz) U ∧ Fz dC dI [(zo7iirrrriviii aHl sg (nI cl) bW bA bE bC cdd tpv szz att nmb), (zaI bW cbW 10 fbW), (zaI bA cbA 10 fbA), (zaI bE cbE 10 fbE), (zaI bC cbC 100 fbC)] [(cbW, .int), (cbA, .int), (cbE, .int), (cbC, .int)] (va_A [(zo10ririliiriririr sc aTp (nI ts) aHl (nI nh) ed mi sn aHs (nI n) aWk (nI wz) aBk (nI bz) aFc), (zaI aFc cFc 6 fFc)] sz) U ∧ Hs dC dI n yi ya yk yv yc (va_A [(zo10ririliiriririr sc aTp (nI ts) aHl (nI nh) ed mi sn aHs (nI n) aWk (nI wz) aBk (nI bz) aFc), (zaI aFc cFc 6 fFc)] sz) U)) (va_Qi (fun (r : Int32) (u : Nat → Int32) => match u with | fFc9 => r = RV cz mi y i (yk i) (yv i) (yc i)) (fun (u : Nat → Int32) (t : State) => match u with | fFc9 => va_P (dC, dI) vwCl [(zo10ririliiriririr sc aTp (nI ts) aHl (nI nh) ed mi sn aHs (nI n) aWk (nI wz) aBk (nI bz) aFc), (zaI aFc cFc 6 fFc9)] t.heap ∧ va_K (dC, dI) vwCl [(cFc, .int)] t ∧ va_D (va_A [(zo10ririliiriririr sc aTp (nI ts) aHl (nI nh) ed mi sn aHs (nI n) aWk (nI wz) aBk (nI bz) aFc), (zaI aFc cFc 6 fFc)] sz) [(zo10ririliiriririr sc aTp (nI ts) aHl (nI nh) ed mi sn aHs (nI n) aWk (nI wz) aBk (nI bz) aFc), (zaI aFc cFc 6 fFc9)]) (va_A [(zo10ririliiriririr sc aTp (nI ts) aHl (nI nh) ed mi sn aHs (nI n) aWk (nI wz) aBk (nI bz) aFc), (zaI aFc cFc 6 fFc)] sz)) 0 0 (va_A [(zo10ririliiriririr sc aTp (nI ts) aHl (nI nh) ed mi sn aHs (nI n) aWk (nI wz) aBk (nI bz) aFc), (zaI aFc cFc 6 fFc)] sz) := by
  refine met_ofQ (cc := cX8_reachOf) (maxL := 4) (ret := (some .int)) (by decide) rfl ?_
  intro p e s m args below meth c s₁ Q B hml hv hQ
  obtain ⟨rfl, hsz, hP, hK, hD0, hG, hW_, hZ, hH_⟩ := hv
  have hx := B.exec
  have hb := B.bytes
  have hr := B.returns
  have hts := atoms_spec (ws := wsX8_reachOf) B.pre
  have hown : s.vm.findClass RX8 = some m.cls := findClass_of_methodNamed B.named
  have hlocks := B.notSynchronized
  subst hsz
  have hD := hD0.self (sz := s.heap.size)
  generalize hAe : va_A [(zo10ririliiriririr sc aTp (nI ts) aHl (nI nh) ed mi sn aHs (nI n) aWk (nI wz) aBk (nI bz) aFc), (zaI aFc cFc 6 fFc)] s.heap.size = A at hD hQ hG hW_ hZ hH_ ⊢
  have hA : ∀ q : Nat, s.heap.size ≤ q → A q := fun q h => by rw [← hAe]; exact Or.inr h
  have hS : va_S A s.heap s.heap [] := va_S.rf
  have hl := lv_entry [.ref sc, .ref (ya i), .int y] (n := 4) (Nat.le_of_ble_eq_true rfl)
  rw [lg_entry_eq]
  generalize (lg_sl [.ref sc, .ref (ya i), .int y] ++ List.replicate (4 - (lg_sl [.ref sc, .ref (ya i), .int y]).length) Slot.unset).toArray = ls at hl ⊢
  generalize hag : ([.ref sc, .ref (ya i), .int y] : List Value).toArray = args at hts hQ ⊢
  have hl : lv_has ls 4 [(0, .ref sc), (1, .ref (ya i)), (2, .int y)] := hl
  obtain ⟨H, hH⟩ : ∃ H : Heap, H = s.heap := ⟨_, rfl⟩
  rw [← hH] at hP
  rw [← hH]
  have hS : va_S A s.heap H [] := by rw [hH]; exact hS
  obtain ⟨locs, hlo⟩ : ∃ L : List Loc, L = [] := ⟨_, rfl⟩
  rw [← hlo] at hS
  rw [← hlo]
  clear hH hlo
  refine lv_aload_n hx hb dX8_reachOf_0 rfl (lv_at hl 0 rfl) ?_
  refine lv_aload_n hx hb dX8_reachOf_1 rfl (lv_at hl 1 rfl) ?_
  refine va_hget1 (v := .int (nI i)) hx hb hts kc_xReach_1 hown (hH_ i (by omega)).1 (hH_ i (by omega)).2 hS (hts (.fieldLink RX8 76 "MistHeaps$Heap" "number" "I") kc_xReach_0) dX8_reachOf_2 rfl ?_
  refine lv_aload_n hx hb dX8_reachOf_5 rfl (lv_at hl 1 rfl) ?_
  refine va_hget0 (v := .int (yk i)) hx hb hts kc_xReach_1 hown (hH_ i (by omega)).1 (hH_ i (by omega)).2 hS (hts (.fieldLink RX8 79 "MistHeaps$Heap" "kind" "I") kc_xReach_2) dX8_reachOf_6 rfl ?_
  refine lv_aload_n hx hb dX8_reachOf_9 rfl (lv_at hl 1 rfl) ?_
  refine va_hget3 (v := .int (yc i)) hx hb hts kc_xReach_1 hown (hH_ i (by omega)).1 (hH_ i (by omega)).2 hS (hts (.fieldLink RX8 73 "MistHeaps$Heap" "cell" "I") kc_xReach_3) dX8_reachOf_10 rfl ?_
  refine lv_iload_n hx hb dX8_reachOf_13 rfl (lv_at hl 2 rfl) ?_
  have hPc := hP.sub (ws' := [(zo10ririliiriririr sc aTp (nI ts) aHl (nI nh) ed mi sn aHs (nI n) aWk (nI wz) aBk (nI bz) aFc), (zaI aFc cFc 6 fFc)]) [0, 1] rfl
  have hDc := hD.sub (ws' := [(zo10ririliiriririr sc aTp (nI ts) aHl (nI nh) ed mi sn aHs (nI n) aWk (nI wz) aBk (nI bz) aFc), (zaI aFc cFc 6 fFc)]) [0, 1] (by decide) rfl
  have hKc := hK.sub (tys' := [(cFc, .int)]) [0] rfl
  have hFc := va_free (wc := [(zo10ririliiriririr sc aTp (nI ts) aHl (nI nh) ed mi sn aHs (nI n) aWk (nI wz) aBk (nI bz) aFc), (zaI aFc cFc 6 fFc)]) hD hS hA [0, 1] rfl
  refine va_callv (va_runV (As := [.int (nI i), .int (yk i), .int (yc i), .int y]) (rest := []) ⟨hx, hb, hml, hown, hts⟩ (c_tellFacts l dC dI gd sc aTp aHl aHs aWk aBk aFc ts nh n wz bz mi sn y (nI i) (yk i) (yc i) ed cFc fFc H.size) (cwV 4 hts gX8_reachOf_X8_tellFacts rfl rfl rfl hd_yX8_tellFacts ⟨Nat.le_of_ble_eq_true rfl, Nat.le_of_ble_eq_true rfl⟩) ⟨fun a U g mk q => by obtain ⟨q0, q1, qP, qK, qD, qhG⟩ := q; exact ⟨q0, mvz g mk a q1, mvP g mk a qP, mvK g mk a qK, qD, qhG.mv g mk a⟩, va_recv hK hP (ci := 10) (q := (RX8, TX8, 14)) (q0 := 0) rfl rfl, fun U hU hW => ⟨rfl, by rw [hU], by rw [hU]; exact hPc, va_K.moved hW.alike hKc, hDc.weaken (fun _ _ _ _ => trivial), hG.call hS hU hW (fun q h => hFc q h)⟩⟩ rfl rfl hl.1 rfl (lv_room (Nat.le_of_ble_eq_true rfl)) dX8_reachOf_14 ⟨Nat.le_of_ble_eq_true rfl, Nat.le_of_ble_eq_true rfl⟩) hS (fun q _ h => hFc q h) hFc (fun u tC H1 locs htC hvm hw_2 hB hz1 hk1 hS => ?_)
  obtain ⟨fFc9_3, rfl⟩ : ∃ z, z = u := ⟨_, rfl⟩
  try dsimp only at hw_2 hB
  obtain ⟨hP1, hK1, hD1⟩ := hB
  rw [htC] at hP1
  have hK1 := va_K.moved hvm.symm hK1
  obtain ⟨hP, hD⟩ := va_join (wr := []) (w1 := [(zo10ririliiriririr sc aTp (nI ts) aHl (nI nh) ed mi sn aHs (nI n) aWk (nI wz) aBk (nI bz) aFc), (zaI aFc cFc 6 fFc9_3)]) hP hD [0, 1] [] rfl rfl (by decide) (by decide) hk1 hFc hP1 hD1
  have hK := (hK.sub (tys' := []) [] rfl).app hK1
  generalize H1 = H at hP hS ⊢
  have hP : va_P (dC, dI) vwCl [(zo10ririliiriririr sc aTp (nI ts) aHl (nI nh) ed mi sn aHs (nI n) aWk (nI wz) aBk (nI bz) aFc), (zaI aFc cFc 6 fFc9_3)] H := hP
  have hD : va_D A [(zo10ririliiriririr sc aTp (nI ts) aHl (nI nh) ed mi sn aHs (nI n) aWk (nI wz) aBk (nI bz) aFc), (zaI aFc cFc 6 fFc9_3)] := hD
  have hK : va_K (dC, dI) vwCl [(cFc, .int)] s := hK
  refine lv_aload_n hx hb dX8_reachOf_17 rfl (lv_at hl 0 rfl) ?_
  refine va_get (D := (dC, dI)) (ci := 10) (v := .ref aHl) (C := RX8) (T := TX8) (N := 14) hx hb hts kc_xReach_4 hown hK hP 0 rfl rfl 2 (by decide) (hts (.fieldLink RX8 18 "MistHeaps$Scene" "hill" "LMistHeaps$Hill;") kc_xReach_5) (fun _ h9 => h9) rfl dX8_reachOf_18 ?_
  refine va_get (D := (dC, dI)) (ci := 7) (v := .int sg) (C := RX5) (T := TX5) (N := 11) hx hb hts kc_xReach_7 hown hZ.2.1 (hZ.P hS) 0 rfl rfl 0 (by decide) (hts (.fieldLink RX8 86 "MistHeaps$Hill" "sight" "I") kc_xReach_6) (fun _ h9 => h9) rfl dX8_reachOf_21 ?_
  refine lv_aload_n hx hb dX8_reachOf_24 rfl (lv_at hl 0 rfl) ?_
  refine va_get (D := (dC, dI)) (ci := 10) (v := .ref aHl) (C := RX8) (T := TX8) (N := 14) hx hb hts kc_xReach_4 hown hK hP 0 rfl rfl 2 (by decide) (hts (.fieldLink RX8 18 "MistHeaps$Scene" "hill" "LMistHeaps$Hill;") kc_xReach_5) (fun _ h9 => h9) rfl dX8_reachOf_25 ?_
  refine lv_iconst (v := 0) hx hb dX8_reachOf_28 (by decide) ?_
  refine lv_aload_n hx hb dX8_reachOf_29 rfl (lv_at hl 0 rfl) ?_
  refine va_get (D := (dC, dI)) (ci := 10) (v := .ref aFc) (C := RX8) (T := TX8) (N := 14) hx hb hts kc_xReach_4 hown hK hP 0 rfl rfl 13 (by decide) (hts (.fieldLink RX8 34 "MistHeaps$Scene" "facts" "[I") kc_xReach_8) (fun _ h9 => h9) rfl dX8_reachOf_30 ?_
  have hPc := hP.sub (ws' := [(zaI aFc cFc 6 fFc9_3)]) [1] rfl
  have hKc := hK.sub (tys' := [(cFc, .int)]) [0] rfl
  refine vp_callSi (va_runV (As := [.int 0, .ref aFc]) (rest := [.int sg]) ⟨hx, hb, hml, hown, hts⟩ (c_total l dC dI  aHl aFc bW bA bE bC cl sg cdd szz att nmb cFc cbW cbA cbE cbC fFc9_3 fbW fbA fbE fbC tpv cz 0 (by omega) (zcl) (zE) (zC) (zHC)) (cwV 2 hts gX8_reachOf_X5_total rfl rfl rfl hd_yX5_total ⟨Nat.le_of_ble_eq_true rfl, Nat.le_of_ble_eq_true rfl⟩) ⟨fun a U g mk q => by obtain ⟨q0, qP, qK, qhZ⟩ := q; exact ⟨q0, mvP g mk a qP, mvK g mk a qK, qhZ.mv g mk a⟩, va_recv hZ.2.1 (hZ.P hS) (ci := 7) (q := (RX5, TX5, 11)) (q0 := 0) rfl rfl, fun U hU hW => ⟨rfl, by rw [hU]; exact hPc, va_K.moved hW.alike hKc, (hZ.sub [0, 1, 2, 3, 4] [0, 1, 2, 3] rfl rfl).callF hS hU hW⟩⟩ rfl rfl hl.1 rfl (lv_room (Nat.le_of_ble_eq_true rfl)) dX8_reachOf_33 ⟨Nat.le_of_ble_eq_true rfl, Nat.le_of_ble_eq_true rfl⟩).run (fun r_4 hw_5 => ?_)
  refine lv_iadd hx hb dX8_reachOf_36 ?_
  refine lv_aload_n hx hb dX8_reachOf_37 rfl (lv_at hl 0 rfl) ?_
  refine va_get (D := (dC, dI)) (ci := 10) (v := .ref aHl) (C := RX8) (T := TX8) (N := 14) hx hb hts kc_xReach_4 hown hK hP 0 rfl rfl 2 (by decide) (hts (.fieldLink RX8 18 "MistHeaps$Scene" "hill" "LMistHeaps$Hill;") kc_xReach_5) (fun _ h9 => h9) rfl dX8_reachOf_38 ?_
  refine lv_iconst (v := 1) hx hb dX8_reachOf_41 (by decide) ?_
  refine lv_aload_n hx hb dX8_reachOf_42 rfl (lv_at hl 0 rfl) ?_
  refine va_get (D := (dC, dI)) (ci := 10) (v := .ref aFc) (C := RX8) (T := TX8) (N := 14) hx hb hts kc_xReach_4 hown hK hP 0 rfl rfl 13 (by decide) (hts (.fieldLink RX8 34 "MistHeaps$Scene" "facts" "[I") kc_xReach_8) (fun _ h9 => h9) rfl dX8_reachOf_43 ?_
  have hPc := hP.sub (ws' := [(zaI aFc cFc 6 fFc9_3)]) [1] rfl
  have hKc := hK.sub (tys' := [(cFc, .int)]) [0] rfl
  refine vp_callSi (va_runV (As := [.int 1, .ref aFc]) (rest := [.int (sg + r_4)]) ⟨hx, hb, hml, hown, hts⟩ (c_total l dC dI  aHl aFc bW bA bE bC cl sg cdd szz att nmb cFc cbW cbA cbE cbC fFc9_3 fbW fbA fbE fbC tpv cz 1 (by omega) (zcl) (zE) (zC) (zHC)) (cwV 2 hts gX8_reachOf_X5_total rfl rfl rfl hd_yX5_total ⟨Nat.le_of_ble_eq_true rfl, Nat.le_of_ble_eq_true rfl⟩) ⟨fun a U g mk q => by obtain ⟨q0, qP, qK, qhZ⟩ := q; exact ⟨q0, mvP g mk a qP, mvK g mk a qK, qhZ.mv g mk a⟩, va_recv hZ.2.1 (hZ.P hS) (ci := 7) (q := (RX5, TX5, 11)) (q0 := 0) rfl rfl, fun U hU hW => ⟨rfl, by rw [hU]; exact hPc, va_K.moved hW.alike hKc, (hZ.sub [0, 1, 2, 3, 4] [0, 1, 2, 3] rfl rfl).callF hS hU hW⟩⟩ rfl rfl hl.1 rfl (lv_room (Nat.le_of_ble_eq_true rfl)) dX8_reachOf_46 ⟨Nat.le_of_ble_eq_true rfl, Nat.le_of_ble_eq_true rfl⟩).run (fun r_6 hw_7 => ?_)
  refine lv_isub hx hb dX8_reachOf_49 ?_
  refine lv_aload_n hx hb dX8_reachOf_50 rfl (lv_at hl 0 rfl) ?_
  refine va_get (D := (dC, dI)) (ci := 10) (v := .int mi) (C := RX8) (T := TX8) (N := 14) hx hb hts kc_xReach_4 hown hK hP 0 rfl rfl 5 (by decide) (hts (.fieldLink RX8 54 "MistHeaps$Scene" "mist" "I") kc_xReach_9) (fun _ h9 => h9) rfl dX8_reachOf_51 ?_
  refine lv_isub hx hb dX8_reachOf_54 ?_
  refine lv_istore_n (lv' := [(3, .int (((sg + r_4) - r_6) - mi)), (0, .ref sc), (1, .ref (ya i)), (2, .int y)]) hx hb dX8_reachOf_55 rfl hl (by decide) rfl (fun ls hl => ?_)
  refine lv_aload_n hx hb dX8_reachOf_56 rfl (lv_at hl 2 rfl) ?_
  refine lv_iload_n hx hb dX8_reachOf_57 rfl (lv_at hl 0 rfl) ?_
  refine lv_iload_n hx hb dX8_reachOf_58 rfl (lv_at hl 3 rfl) ?_
  rcases (show yi i = 3 ∨ yi i = 5 ∨ yi i = 6 ∨ yi i = 8 ∨ yi i = 9 ∨ yi i = 11 ∨ yi i = 12 from (hH_ i (by omega)).1) with e_8 | e_8 | e_8 | e_8 | e_8 | e_8 | e_8
  · skip
    have hY : Fz dC dI [(zo3iiii (ya i) (yk i) (nI i) (yv i) (yc i))] [] A s := by have h9 := (hH_ i (by omega)).2; rw [hpE, e_8] at h9; exact h9
    refine vp_callSi (va_runU (As := [.int (((sg + r_4) - r_6) - mi), .int y]) (rest := []) ⟨hx, hb, hml, hown, hts⟩ (c_reach3_X1 l dC dI  i (yk i) (yv i) (yc i) (((sg + r_4) - r_6) - mi) y (ya i)) (va_cwU 2 hts gX8_reachOf_X3_reachBy_u93X1 rfl rfl rfl rfl (by decide +kernel) ⟨Nat.le_of_ble_eq_true rfl, Nat.le_of_ble_eq_true rfl⟩) ⟨fun a U g mk q => by obtain ⟨q0, qhZ⟩ := q; exact ⟨q0, qhZ.mv g mk a⟩, va_recv hY.2.1 (hY.P hS) (ci := 3) (q := (RX1, TX1, 4)) (q0 := 0) rfl rfl, fun U hU hW => ⟨rfl, hY.callF hS hU hW⟩⟩ rfl rfl hl.1 rfl (lv_room (Nat.le_of_ble_eq_true rfl)) dX8_reachOf_59 ⟨Nat.le_of_ble_eq_true rfl, Nat.le_of_ble_eq_true rfl⟩).run (fun r_9 hw_10 => ?_)
    have hk := hpT_k3 (zyt i (by omega)) e_8
    rw [hQ]
    have hP9 := hP.sub (ws' := [(zo10ririliiriririr sc aTp (nI ts) aHl (nI nh) ed mi sn aHs (nI n) aWk (nI wz) aBk (nI bz) aFc), (zaI aFc cFc 6 fFc9_3)]) [0, 1] rfl
    have hD9 := hD.sub (ws' := [(zo10ririliiriririr sc aTp (nI ts) aHl (nI nh) ed mi sn aHs (nI n) aWk (nI wz) aBk (nI bz) aFc), (zaI aFc cFc 6 fFc9_3)]) [0, 1] (by decide) rfl
    have hK9 := hK.sub (tys' := [(cFc, .int)]) [0] rfl
    exact W.iret (v := r_9) hx hb hr (fun tQ htQ hWQ => ⟨⟨r_9, fFc9_3, rfl, rv_3 ⟨_, rv_p hw_2 hw_5 hw_7 zHC.1.2.1, hw_10⟩ hk, by rw [htQ]; exact hP9, va_K.moved hWQ.alike hK9, hD9⟩, hS.F htQ⟩) hS.2.2 dX8_reachOf_62
  · skip
    have hY : Fz dC dI [(zo5iiii (ya i) (yk i) (nI i) (yv i) (yc i))] [] A s := by have h9 := (hH_ i (by omega)).2; rw [hpE, e_8] at h9; exact h9
    refine vp_callSi (va_runV (As := [.int (((sg + r_4) - r_6) - mi), .int y]) (rest := []) ⟨hx, hb, hml, hown, hts⟩ (c_reach3_X3 l dC dI  i (yk i) (yv i) (yc i) (((sg + r_4) - r_6) - mi) y (ya i)) (cwV 2 hts gX8_reachOf_X3_reachBy rfl rfl rfl hd_yX3_reachBy ⟨Nat.le_of_ble_eq_true rfl, Nat.le_of_ble_eq_true rfl⟩) ⟨fun a U g mk q => by obtain ⟨q0, qhZ⟩ := q; exact ⟨q0, qhZ.mv g mk a⟩, va_recv hY.2.1 (hY.P hS) (ci := 5) (q := (RX3, TX3, 4)) (q0 := 0) rfl rfl, fun U hU hW => ⟨rfl, hY.callF hS hU hW⟩⟩ rfl rfl hl.1 rfl (lv_room (Nat.le_of_ble_eq_true rfl)) dX8_reachOf_59 ⟨Nat.le_of_ble_eq_true rfl, Nat.le_of_ble_eq_true rfl⟩).run (fun r_11 hw_12 => ?_)
    have hk := hpT_k0 (zyt i (by omega)) e_8
    rw [hQ]
    have hP9 := hP.sub (ws' := [(zo10ririliiriririr sc aTp (nI ts) aHl (nI nh) ed mi sn aHs (nI n) aWk (nI wz) aBk (nI bz) aFc), (zaI aFc cFc 6 fFc9_3)]) [0, 1] rfl
    have hD9 := hD.sub (ws' := [(zo10ririliiriririr sc aTp (nI ts) aHl (nI nh) ed mi sn aHs (nI n) aWk (nI wz) aBk (nI bz) aFc), (zaI aFc cFc 6 fFc9_3)]) [0, 1] (by decide) rfl
    have hK9 := hK.sub (tys' := [(cFc, .int)]) [0] rfl
    exact W.iret (v := r_11) hx hb hr (fun tQ htQ hWQ => ⟨⟨r_11, fFc9_3, rfl, rv_0 ⟨_, rv_p hw_2 hw_5 hw_7 zHC.1.2.1, hw_12⟩ hk, by rw [htQ]; exact hP9, va_K.moved hWQ.alike hK9, hD9⟩, hS.F htQ⟩) hS.2.2 dX8_reachOf_62
  · skip
    have hY : Fz dC dI [(zo6iiii (ya i) (yk i) (nI i) (yv i) (yc i))] [] A s := by have h9 := (hH_ i (by omega)).2; rw [hpE, e_8] at h9; exact h9
    refine vp_callSi (va_runU (As := [.int (((sg + r_4) - r_6) - mi), .int y]) (rest := []) ⟨hx, hb, hml, hown, hts⟩ (c_reach4_X4 l dC dI  i (yk i) (yv i) (yc i) (((sg + r_4) - r_6) - mi) y (ya i)) (va_cwO 2 hts gX8_reachOf_X4_reachBy_u93X4 rfl rfl rfl kc_xReach_10 (by decide +kernel) ⟨Nat.le_of_ble_eq_true rfl, Nat.le_of_ble_eq_true rfl⟩) ⟨fun a U g mk q => by obtain ⟨q0, qhZ⟩ := q; exact ⟨q0, qhZ.mv g mk a⟩, va_recv hY.2.1 (hY.P hS) (ci := 6) (q := (RX4, TX4, 4)) (q0 := 0) rfl rfl, fun U hU hW => ⟨rfl, hY.callF hS hU hW⟩⟩ rfl rfl hl.1 rfl (lv_room (Nat.le_of_ble_eq_true rfl)) dX8_reachOf_59 ⟨Nat.le_of_ble_eq_true rfl, Nat.le_of_ble_eq_true rfl⟩).run (fun r_13 hw_14 => ?_)
    have hk := hpT_k1 (zyt i (by omega)) e_8
    rw [hQ]
    have hP9 := hP.sub (ws' := [(zo10ririliiriririr sc aTp (nI ts) aHl (nI nh) ed mi sn aHs (nI n) aWk (nI wz) aBk (nI bz) aFc), (zaI aFc cFc 6 fFc9_3)]) [0, 1] rfl
    have hD9 := hD.sub (ws' := [(zo10ririliiriririr sc aTp (nI ts) aHl (nI nh) ed mi sn aHs (nI n) aWk (nI wz) aBk (nI bz) aFc), (zaI aFc cFc 6 fFc9_3)]) [0, 1] (by decide) rfl
    have hK9 := hK.sub (tys' := [(cFc, .int)]) [0] rfl
    exact W.iret (v := r_13) hx hb hr (fun tQ htQ hWQ => ⟨⟨r_13, fFc9_3, rfl, rv_1 ⟨_, rv_p hw_2 hw_5 hw_7 zHC.1.2.1, hw_14⟩ hk, by rw [htQ]; exact hP9, va_K.moved hWQ.alike hK9, hD9⟩, hS.F htQ⟩) hS.2.2 dX8_reachOf_62
  · skip
    have hY : Fz dC dI [(zo8iiii (ya i) (yk i) (nI i) (yv i) (yc i))] [] A s := by have h9 := (hH_ i (by omega)).2; rw [hpE, e_8] at h9; exact h9
    refine vp_callSi (va_runU (As := [.int (((sg + r_4) - r_6) - mi), .int y]) (rest := []) ⟨hx, hb, hml, hown, hts⟩ (c_reach6_X6 l dC dI  i (yk i) (yv i) (yc i) (((sg + r_4) - r_6) - mi) y (ya i)) (va_cwO 2 hts gX8_reachOf_X6_reachBy_u93X6 rfl rfl rfl kc_xReach_10 (by decide +kernel) ⟨Nat.le_of_ble_eq_true rfl, Nat.le_of_ble_eq_true rfl⟩) ⟨fun a U g mk q => by obtain ⟨q0, qhZ⟩ := q; exact ⟨q0, qhZ.mv g mk a⟩, va_recv hY.2.1 (hY.P hS) (ci := 8) (q := (RX6, TX6, 4)) (q0 := 0) rfl rfl, fun U hU hW => ⟨rfl, hY.callF hS hU hW⟩⟩ rfl rfl hl.1 rfl (lv_room (Nat.le_of_ble_eq_true rfl)) dX8_reachOf_59 ⟨Nat.le_of_ble_eq_true rfl, Nat.le_of_ble_eq_true rfl⟩).run (fun r_15 hw_16 => ?_)
    have hk := hpT_k2 (zyt i (by omega)) e_8
    rw [hQ]
    have hP9 := hP.sub (ws' := [(zo10ririliiriririr sc aTp (nI ts) aHl (nI nh) ed mi sn aHs (nI n) aWk (nI wz) aBk (nI bz) aFc), (zaI aFc cFc 6 fFc9_3)]) [0, 1] rfl
    have hD9 := hD.sub (ws' := [(zo10ririliiriririr sc aTp (nI ts) aHl (nI nh) ed mi sn aHs (nI n) aWk (nI wz) aBk (nI bz) aFc), (zaI aFc cFc 6 fFc9_3)]) [0, 1] (by decide) rfl
    have hK9 := hK.sub (tys' := [(cFc, .int)]) [0] rfl
    exact W.iret (v := r_15) hx hb hr (fun tQ htQ hWQ => ⟨⟨r_15, fFc9_3, rfl, rv_2 ⟨_, rv_p hw_2 hw_5 hw_7 zHC.1.2.1, hw_16⟩ hk, by rw [htQ]; exact hP9, va_K.moved hWQ.alike hK9, hD9⟩, hS.F htQ⟩) hS.2.2 dX8_reachOf_62
  · skip
    have hY : Fz dC dI [(zo9iiii (ya i) (yk i) (nI i) (yv i) (yc i))] [] A s := by have h9 := (hH_ i (by omega)).2; rw [hpE, e_8] at h9; exact h9
    refine vp_callSi (va_runU (As := [.int (((sg + r_4) - r_6) - mi), .int y]) (rest := []) ⟨hx, hb, hml, hown, hts⟩ (c_reach7 l dC dI   i (yk i) (yv i) (yc i) (((sg + r_4) - r_6) - mi) y (ya i)) (va_cwO 2 hts gX8_reachOf_X7_reachBy_u93X7 rfl rfl rfl kc_xReach_10 (by decide +kernel) ⟨Nat.le_of_ble_eq_true rfl, Nat.le_of_ble_eq_true rfl⟩) ⟨fun a U g mk q => by obtain ⟨q0, qhW_, qhZ⟩ := q; exact ⟨q0, qhW_.mv g mk a, qhZ.mv g mk a⟩, va_recv hY.2.1 (hY.P hS) (ci := 9) (q := (RX7, TX7, 4)) (q0 := 0) rfl rfl, fun U hU hW => ⟨rfl, hW_.callF hS hU hW, hY.callF hS hU hW⟩⟩ rfl rfl hl.1 rfl (lv_room (Nat.le_of_ble_eq_true rfl)) dX8_reachOf_59 ⟨Nat.le_of_ble_eq_true rfl, Nat.le_of_ble_eq_true rfl⟩).run (fun r_17 hw_18 => ?_)
    have hk := hpT_k6 (zyt i (by omega)) e_8
    rw [hQ]
    have hP9 := hP.sub (ws' := [(zo10ririliiriririr sc aTp (nI ts) aHl (nI nh) ed mi sn aHs (nI n) aWk (nI wz) aBk (nI bz) aFc), (zaI aFc cFc 6 fFc9_3)]) [0, 1] rfl
    have hD9 := hD.sub (ws' := [(zo10ririliiriririr sc aTp (nI ts) aHl (nI nh) ed mi sn aHs (nI n) aWk (nI wz) aBk (nI bz) aFc), (zaI aFc cFc 6 fFc9_3)]) [0, 1] (by decide) rfl
    have hK9 := hK.sub (tys' := [(cFc, .int)]) [0] rfl
    exact W.iret (v := r_17) hx hb hr (fun tQ htQ hWQ => ⟨⟨r_17, fFc9_3, rfl, rv_6 ⟨_, rv_p hw_2 hw_5 hw_7 zHC.1.2.1, hw_18⟩ hk, by rw [htQ]; exact hP9, va_K.moved hWQ.alike hK9, hD9⟩, hS.F htQ⟩) hS.2.2 dX8_reachOf_62
  · skip
    have hY : Fz dC dI [(zo11iiii (ya i) (yk i) (nI i) (yv i) (yc i))] [] A s := by have h9 := (hH_ i (by omega)).2; rw [hpE, e_8] at h9; exact h9
    refine vp_callSi (va_runU (As := [.int (((sg + r_4) - r_6) - mi), .int y]) (rest := []) ⟨hx, hb, hml, hown, hts⟩ (c_reach9 l dC dI  i (yk i) (yv i) (yc i) (((sg + r_4) - r_6) - mi) y (ya i)) (va_cwO 2 hts gX8_reachOf_X9_reachBy_u93X9 rfl rfl rfl kc_xReach_10 (by decide +kernel) ⟨Nat.le_of_ble_eq_true rfl, Nat.le_of_ble_eq_true rfl⟩) ⟨fun a U g mk q => by obtain ⟨q0, qhZ⟩ := q; exact ⟨q0, qhZ.mv g mk a⟩, va_recv hY.2.1 (hY.P hS) (ci := 11) (q := (RX9, TX9, 4)) (q0 := 0) rfl rfl, fun U hU hW => ⟨rfl, hY.callF hS hU hW⟩⟩ rfl rfl hl.1 rfl (lv_room (Nat.le_of_ble_eq_true rfl)) dX8_reachOf_59 ⟨Nat.le_of_ble_eq_true rfl, Nat.le_of_ble_eq_true rfl⟩).run (fun r_19 hw_20 => ?_)
    have hk := hpT_k5 (zyt i (by omega)) e_8
    rw [hQ]
    have hP9 := hP.sub (ws' := [(zo10ririliiriririr sc aTp (nI ts) aHl (nI nh) ed mi sn aHs (nI n) aWk (nI wz) aBk (nI bz) aFc), (zaI aFc cFc 6 fFc9_3)]) [0, 1] rfl
    have hD9 := hD.sub (ws' := [(zo10ririliiriririr sc aTp (nI ts) aHl (nI nh) ed mi sn aHs (nI n) aWk (nI wz) aBk (nI bz) aFc), (zaI aFc cFc 6 fFc9_3)]) [0, 1] (by decide) rfl
    have hK9 := hK.sub (tys' := [(cFc, .int)]) [0] rfl
    exact W.iret (v := r_19) hx hb hr (fun tQ htQ hWQ => ⟨⟨r_19, fFc9_3, rfl, rv_5 ⟨_, rv_p hw_2 hw_5 hw_7 zHC.1.2.1, hw_20⟩ hk, by rw [htQ]; exact hP9, va_K.moved hWQ.alike hK9, hD9⟩, hS.F htQ⟩) hS.2.2 dX8_reachOf_62
  · skip
    have hY : Fz dC dI [(zo12iiii (ya i) (yk i) (nI i) (yv i) (yc i))] [] A s := by have h9 := (hH_ i (by omega)).2; rw [hpE, e_8] at h9; exact h9
    refine vp_callSi (va_runU (As := [.int (((sg + r_4) - r_6) - mi), .int y]) (rest := []) ⟨hx, hb, hml, hown, hts⟩ (c_reach4_X10 l dC dI  i (yk i) (yv i) (yc i) (((sg + r_4) - r_6) - mi) y (ya i)) (va_cwO 2 hts gX8_reachOf_X4_reachBy_u93X10 rfl rfl rfl kc_xReach_10 (by decide +kernel) ⟨Nat.le_of_ble_eq_true rfl, Nat.le_of_ble_eq_true rfl⟩) ⟨fun a U g mk q => by obtain ⟨q0, qhZ⟩ := q; exact ⟨q0, qhZ.mv g mk a⟩, va_recv hY.2.1 (hY.P hS) (ci := 12) (q := (RX10, TX10, 4)) (q0 := 0) rfl rfl, fun U hU hW => ⟨rfl, hY.callF hS hU hW⟩⟩ rfl rfl hl.1 rfl (lv_room (Nat.le_of_ble_eq_true rfl)) dX8_reachOf_59 ⟨Nat.le_of_ble_eq_true rfl, Nat.le_of_ble_eq_true rfl⟩).run (fun r_21 hw_22 => ?_)
    have hk := hpT_k4 (zyt i (by omega)) e_8
    rw [hQ]
    have hP9 := hP.sub (ws' := [(zo10ririliiriririr sc aTp (nI ts) aHl (nI nh) ed mi sn aHs (nI n) aWk (nI wz) aBk (nI bz) aFc), (zaI aFc cFc 6 fFc9_3)]) [0, 1] rfl
    have hD9 := hD.sub (ws' := [(zo10ririliiriririr sc aTp (nI ts) aHl (nI nh) ed mi sn aHs (nI n) aWk (nI wz) aBk (nI bz) aFc), (zaI aFc cFc 6 fFc9_3)]) [0, 1] (by decide) rfl
    have hK9 := hK.sub (tys' := [(cFc, .int)]) [0] rfl
    exact W.iret (v := r_21) hx hb hr (fun tQ htQ hWQ => ⟨⟨r_21, fFc9_3, rfl, rv_4 ⟨_, rv_p hw_2 hw_5 hw_7 zHC.1.2.1, hw_22⟩ hk, by rw [htQ]; exact hP9, va_K.moved hWQ.alike hK9, hD9⟩, hS.F htQ⟩) hS.2.2 dX8_reachOf_62

theorem kc_reach3_S_0 : (.methodLink RX3 28 Lib.Math.max.name : Cond) ∈ wsX3_reachBy := kc_of 684 rfl rfl rfl
theorem kc_reach3_S_1 : (.static Lib.Math.max.name : Cond) ∈ wsX3_reachBy := kc_of 426 rfl rfl rfl
theorem kc_reach3_S_2 : (.initialized "java/lang/Math" : Cond) ∈ wsX3_reachBy := kc_of 77 rfl rfl rfl
theorem kc_reach3_S_3 : (.code Lib.Math.max.name Lib.Math.max.code 2 (some .int) : Cond) ∈ wsX3_reachBy := kc_of 427 rfl rfl rfl
set_option maxHeartbeats 4000000 in
set_option maxRecDepth 100000 in
theorem c_reach3_S (l : Launch) (dC : Nat → ClassId) (dI : Nat → Nat → Nat) (gS : Nat) (i0 : Nat) (scl : Int32) (x : Int32) (y : Int32) : Met l yX3_reachBy wsX3_reachBy ({ frames := 1, cells := 0, slots := 0, locals := 13 } : Room) (va_Pc [.ref gS, .int x, .int y] (fun U => va_P (dC, dI) vwCl [(zo5iiii gS 0 (nI i0) 0 scl)] U.heap ∧ va_K (dC, dI) vwCl [] U)) (vp_Si (fun r => r = mx0 x)) 0 0 (fun _ => False) := by
  refine met_ofQ (cc := cX3_reachBy) (maxL := 3) (ret := (some .int)) (by decide) rfl ?_
  intro p e s m args below meth c s₁ Q B hml hv hQ
  obtain ⟨rfl, hP, hK⟩ := hv
  have hx := B.exec
  have hb := B.bytes
  have hr := B.returns
  have hts := atoms_spec (ws := wsX3_reachBy) B.pre
  have hown : s.vm.findClass RX3 = some m.cls := findClass_of_methodNamed B.named
  have hlocks := B.notSynchronized
  obtain ⟨A, hAe⟩ : ∃ A : Nat → Prop, A = fun _ => False := ⟨_, rfl⟩
  rw [← hAe] at hQ
  have hS : va_S A s.heap s.heap [] := va_S.rf
  have hl := lv_entry [.ref gS, .int x, .int y] (n := 3) (Nat.le_of_ble_eq_true rfl)
  rw [lg_entry_eq]
  generalize (lg_sl [.ref gS, .int x, .int y] ++ List.replicate (3 - (lg_sl [.ref gS, .int x, .int y]).length) Slot.unset).toArray = ls at hl ⊢
  generalize hag : ([.ref gS, .int x, .int y] : List Value).toArray = args at hts hQ ⊢
  have hl : lv_has ls 3 [(0, .ref gS), (1, .int x), (2, .int y)] := hl
  refine lv_iconst (v := 0) hx hb dX3_reachBy_0 (by decide) ?_
  refine lv_iload_n hx hb dX3_reachBy_1 rfl (lv_at hl 1 rfl) ?_
  refine va_mmax hx hb (by rw [hml]; exact hl.1.symm) hown (hts (.methodLink RX3 28 Lib.Math.max.name) kc_reach3_S_0) (hts (.static Lib.Math.max.name) kc_reach3_S_1) (hts (.initialized "java/lang/Math") kc_reach3_S_2) (hts (.code Lib.Math.max.name Lib.Math.max.code 2 (some .int)) kc_reach3_S_3) (Nat.le_of_ble_eq_true rfl) (Nat.le_of_ble_eq_true rfl) (Nat.le_of_ble_eq_true rfl) (Nat.le_of_ble_eq_true rfl) dX3_reachBy_2 ?_
  rw [hQ]
  exact W.iret (v := (if 0 < x then x else 0)) hx hb hr (fun tQ htQ hWQ => ⟨(if 0 < x then x else 0), rfl, rfl, by rw [htQ]⟩) (fun q hq => absurd hq List.not_mem_nil) dX3_reachBy_5

set_option maxHeartbeats 4000000 in
set_option maxRecDepth 100000 in
theorem c_lead3_S (l : Launch) (dC : Nat → ClassId) (dI : Nat → Nat → Nat) (gS : Nat) (i0 : Nat) (scl : Int32) (x : Int32) : Met l yX3_leadsTo wsX3_leadsTo ({ frames := 0, cells := 0, slots := 0, locals := 0 } : Room) (va_Pc [.ref gS, .int x] (fun U => va_P (dC, dI) vwCl [(zo5iiii gS 0 (nI i0) 0 scl)] U.heap ∧ va_K (dC, dI) vwCl [] U)) (vp_Si (fun r => r = 1)) 0 0 (fun _ => False) := by
  refine met_ofQ (cc := cX3_leadsTo) (maxL := 2) (ret := (some .boolean)) (by decide) rfl ?_
  intro p e s m args below meth c s₁ Q B hml hv hQ
  obtain ⟨rfl, hP, hK⟩ := hv
  have hx := B.exec
  have hb := B.bytes
  have hr := B.returns
  have hts := atoms_spec (ws := wsX3_leadsTo) B.pre
  have hown : s.vm.findClass RX3 = some m.cls := findClass_of_methodNamed B.named
  have hlocks := B.notSynchronized
  obtain ⟨A, hAe⟩ : ∃ A : Nat → Prop, A = fun _ => False := ⟨_, rfl⟩
  rw [← hAe] at hQ
  have hS : va_S A s.heap s.heap [] := va_S.rf
  have hl := lv_entry [.ref gS, .int x] (n := 2) (Nat.le_of_ble_eq_true rfl)
  rw [lg_entry_eq]
  generalize (lg_sl [.ref gS, .int x] ++ List.replicate (2 - (lg_sl [.ref gS, .int x]).length) Slot.unset).toArray = ls at hl ⊢
  generalize hag : ([.ref gS, .int x] : List Value).toArray = args at hts hQ ⊢
  have hl : lv_has ls 2 [(0, .ref gS), (1, .int x)] := hl
  refine lv_iconst (v := 1) hx hb dX3_leadsTo_0 (by decide) ?_
  rw [hQ]
  exact W.zret (v := 1) hx hb hr rfl (fun tQ htQ hWQ => ⟨1, rfl, rfl, by rw [htQ]⟩) (fun q hq => absurd hq List.not_mem_nil) dX3_leadsTo_1

theorem kc_xReachS_0 : ∀ w ∈ wsX30, w ∈ wsX8_reachOf := fun w h => List.mem_cons_of_mem _ (gin_wsX30 w h)
theorem kc_xReachS_1 : (.fieldLink RX8 76 "MistHeaps$Heap" "number" "I" : Cond) ∈ wsX8_reachOf := kc_of 235 rfl rfl rfl
theorem kc_xReachS_2 : (.fieldLink RX8 79 "MistHeaps$Heap" "kind" "I" : Cond) ∈ wsX8_reachOf := kc_of 229 rfl rfl rfl
theorem kc_xReachS_3 : (.fieldLink RX8 73 "MistHeaps$Heap" "cell" "I" : Cond) ∈ wsX8_reachOf := kc_of 250 rfl rfl rfl
theorem kc_xReachS_4 : ∀ w ∈ wsX80, w ∈ wsX8_reachOf := fun w h => List.mem_cons_of_mem _ (gin_wsX80 w h)
theorem kc_xReachS_5 : (.fieldLink RX8 18 "MistHeaps$Scene" "hill" "LMistHeaps$Hill;" : Cond) ∈ wsX8_reachOf := kc_of 156 rfl rfl rfl
theorem kc_xReachS_6 : (.fieldLink RX8 86 "MistHeaps$Hill" "sight" "I" : Cond) ∈ wsX8_reachOf := kc_of 114 rfl rfl rfl
theorem kc_xReachS_7 : ∀ w ∈ wsX50, w ∈ wsX8_reachOf := fun w h => List.mem_cons_of_mem _ (gin_wsX50 w h)
theorem kc_xReachS_8 : (.fieldLink RX8 34 "MistHeaps$Scene" "facts" "[I" : Cond) ∈ wsX8_reachOf := kc_of 184 rfl rfl rfl
theorem kc_xReachS_9 : (.fieldLink RX8 54 "MistHeaps$Scene" "mist" "I" : Cond) ∈ wsX8_reachOf := kc_of 163 rfl rfl rfl
set_option maxHeartbeats 4000000 in
set_option maxRecDepth 100000 in
theorem c_xReachS (l : Launch) (dC : Nat → ClassId) (dI : Nat → Nat → Nat) (gd : Nat → Nat)  (sc : Nat) (aTp : Nat) (aHl : Nat) (aHs : Nat) (aWk : Nat) (aBk : Nat) (aFc : Nat) (bW : Nat) (bA : Nat) (bE : Nat) (bC : Nat) (gS : Nat) (ts : Nat) (nh : Nat) (n : Nat) (wz : Nat) (bz : Nat) (cl : Nat) (i0 : Nat) (mi : Int32) (sn : Int32) (sg : Int32) (cdd : Int32) (szz : Int32) (att : Int32) (nmb : Int32) (scl : Int32) (y : Int32) (ed : Int64) (cFc : ClassId) (cbW : ClassId) (cbA : ClassId) (cbE : ClassId) (cbC : ClassId) (fFc : Nat → Int32) (fbW : Nat → Int32) (fbA : Nat → Int32) (fbE : Nat → Int32) (fbC : Nat → Int32) (tpv : Value) (cz : List pCla) (sz : Nat) (zcl : cl ≤ 10) (zE : ∀ k0, k0 < 10 → ∃ e0 : Nat, e0 ≤ 100 ∧ fbE k0 = nI e0) (zC : ∀ k0, k0 < 100 → okC (fbC k0)) (zHC : HC cl sg fbW fbA fbE fbC cz ∧ WfC cz) : Met l yX8_reachOf wsX8_reachOf ({ frames := 3, cells := 0, slots := 0, locals := 73 } : Room) (va_Pc [.ref sc, .ref gS, .int y] (fun U => U.heap.size = sz ∧ va_P (dC, dI) vwCl [(zo10ririliiriririr sc aTp (nI ts) aHl (nI nh) ed mi sn aHs (nI n) aWk (nI wz) aBk (nI bz) aFc), (zaI aFc cFc 6 fFc), (zo5iiii gS 0 (nI i0) 0 scl)] U.heap ∧ va_K (dC, dI) vwCl [(cFc, .int)] U ∧ va_D (fun _ => True) [(zo10ririliiriririr sc aTp (nI ts) aHl (nI nh) ed mi sn aHs (nI n) aWk (nI wz) aBk (nI bz) aFc), (zaI aFc cFc 6 fFc), (zo5iiii gS 0 (nI i0) 0 scl)] ∧ Gl gd (va_A [(zo10ririliiriririr sc aTp (nI ts) aHl (nI nh) ed mi sn aHs (nI n) aWk (nI wz) aBk (nI bz) aFc), (zaI aFc cFc 6 fFc), (zo5iiii gS 0 (nI i0) 0 scl)] sz) U ∧ Fz dC dI [(zo7iirrrriviii aHl sg (nI cl) bW bA bE bC cdd tpv szz att nmb), (zaI bW cbW 10 fbW), (zaI bA cbA 10 fbA), (zaI bE cbE 10 fbE), (zaI bC cbC 100 fbC)] [(cbW, .int), (cbA, .int), (cbE, .int), (cbC, .int)] (va_A [(zo10ririliiriririr sc aTp (nI ts) aHl (nI nh) ed mi sn aHs (nI n) aWk (nI wz) aBk (nI bz) aFc), (zaI aFc cFc 6 fFc), (zo5iiii gS 0 (nI i0) 0 scl)] sz) U)) (va_Qi (fun (r : Int32) (u : Nat → Int32) => match u with | fFc9 => r = RV cz mi y i0 0 0 scl) (fun (u : Nat → Int32) (t : State) => match u with | fFc9 => va_P (dC, dI) vwCl [(zo10ririliiriririr sc aTp (nI ts) aHl (nI nh) ed mi sn aHs (nI n) aWk (nI wz) aBk (nI bz) aFc), (zaI aFc cFc 6 fFc9), (zo5iiii gS 0 (nI i0) 0 scl)] t.heap ∧ va_K (dC, dI) vwCl [(cFc, .int)] t ∧ va_D (va_A [(zo10ririliiriririr sc aTp (nI ts) aHl (nI nh) ed mi sn aHs (nI n) aWk (nI wz) aBk (nI bz) aFc), (zaI aFc cFc 6 fFc), (zo5iiii gS 0 (nI i0) 0 scl)] sz) [(zo10ririliiriririr sc aTp (nI ts) aHl (nI nh) ed mi sn aHs (nI n) aWk (nI wz) aBk (nI bz) aFc), (zaI aFc cFc 6 fFc9), (zo5iiii gS 0 (nI i0) 0 scl)]) (va_A [(zo10ririliiriririr sc aTp (nI ts) aHl (nI nh) ed mi sn aHs (nI n) aWk (nI wz) aBk (nI bz) aFc), (zaI aFc cFc 6 fFc), (zo5iiii gS 0 (nI i0) 0 scl)] sz)) 0 0 (va_A [(zo10ririliiriririr sc aTp (nI ts) aHl (nI nh) ed mi sn aHs (nI n) aWk (nI wz) aBk (nI bz) aFc), (zaI aFc cFc 6 fFc), (zo5iiii gS 0 (nI i0) 0 scl)] sz) := by
  refine met_ofQ (cc := cX8_reachOf) (maxL := 4) (ret := (some .int)) (by decide) rfl ?_
  intro p e s m args below meth c s₁ Q B hml hv hQ
  obtain ⟨rfl, hsz, hP, hK, hD0, hG, hZ⟩ := hv
  have hx := B.exec
  have hb := B.bytes
  have hr := B.returns
  have hts := atoms_spec (ws := wsX8_reachOf) B.pre
  have hown : s.vm.findClass RX8 = some m.cls := findClass_of_methodNamed B.named
  have hlocks := B.notSynchronized
  subst hsz
  have hD := hD0.self (sz := s.heap.size)
  generalize hAe : va_A [(zo10ririliiriririr sc aTp (nI ts) aHl (nI nh) ed mi sn aHs (nI n) aWk (nI wz) aBk (nI bz) aFc), (zaI aFc cFc 6 fFc), (zo5iiii gS 0 (nI i0) 0 scl)] s.heap.size = A at hD hQ hG hZ ⊢
  have hA : ∀ q : Nat, s.heap.size ≤ q → A q := fun q h => by rw [← hAe]; exact Or.inr h
  have hS : va_S A s.heap s.heap [] := va_S.rf
  have hl := lv_entry [.ref sc, .ref gS, .int y] (n := 4) (Nat.le_of_ble_eq_true rfl)
  rw [lg_entry_eq]
  generalize (lg_sl [.ref sc, .ref gS, .int y] ++ List.replicate (4 - (lg_sl [.ref sc, .ref gS, .int y]).length) Slot.unset).toArray = ls at hl ⊢
  generalize hag : ([.ref sc, .ref gS, .int y] : List Value).toArray = args at hts hQ ⊢
  have hl : lv_has ls 4 [(0, .ref sc), (1, .ref gS), (2, .int y)] := hl
  obtain ⟨H, hH⟩ : ∃ H : Heap, H = s.heap := ⟨_, rfl⟩
  rw [← hH] at hP
  rw [← hH]
  have hS : va_S A s.heap H [] := by rw [hH]; exact hS
  obtain ⟨locs, hlo⟩ : ∃ L : List Loc, L = [] := ⟨_, rfl⟩
  rw [← hlo] at hS
  rw [← hlo]
  clear hH hlo
  refine lv_aload_n hx hb dX8_reachOf_0 rfl (lv_at hl 0 rfl) ?_
  refine lv_aload_n hx hb dX8_reachOf_1 rfl (lv_at hl 1 rfl) ?_
  refine va_get (D := (dC, dI)) (ci := 5) (v := .int (nI i0)) (C := RX3) (T := TX3) (N := 4) hx hb hts kc_xReachS_0 hown hK hP 2 rfl rfl 1 (by decide) (hts (.fieldLink RX8 76 "MistHeaps$Heap" "number" "I") kc_xReachS_1) (fun _ h9 => h9) rfl dX8_reachOf_2 ?_
  refine lv_aload_n hx hb dX8_reachOf_5 rfl (lv_at hl 1 rfl) ?_
  refine va_get (D := (dC, dI)) (ci := 5) (v := .int 0) (C := RX3) (T := TX3) (N := 4) hx hb hts kc_xReachS_0 hown hK hP 2 rfl rfl 0 (by decide) (hts (.fieldLink RX8 79 "MistHeaps$Heap" "kind" "I") kc_xReachS_2) (fun _ h9 => h9) rfl dX8_reachOf_6 ?_
  refine lv_aload_n hx hb dX8_reachOf_9 rfl (lv_at hl 1 rfl) ?_
  refine va_get (D := (dC, dI)) (ci := 5) (v := .int scl) (C := RX3) (T := TX3) (N := 4) hx hb hts kc_xReachS_0 hown hK hP 2 rfl rfl 3 (by decide) (hts (.fieldLink RX8 73 "MistHeaps$Heap" "cell" "I") kc_xReachS_3) (fun _ h9 => h9) rfl dX8_reachOf_10 ?_
  refine lv_iload_n hx hb dX8_reachOf_13 rfl (lv_at hl 2 rfl) ?_
  have hPc := hP.sub (ws' := [(zo10ririliiriririr sc aTp (nI ts) aHl (nI nh) ed mi sn aHs (nI n) aWk (nI wz) aBk (nI bz) aFc), (zaI aFc cFc 6 fFc)]) [0, 1] rfl
  have hDc := hD.sub (ws' := [(zo10ririliiriririr sc aTp (nI ts) aHl (nI nh) ed mi sn aHs (nI n) aWk (nI wz) aBk (nI bz) aFc), (zaI aFc cFc 6 fFc)]) [0, 1] (by decide) rfl
  have hKc := hK.sub (tys' := [(cFc, .int)]) [0] rfl
  have hFc := va_free (wc := [(zo10ririliiriririr sc aTp (nI ts) aHl (nI nh) ed mi sn aHs (nI n) aWk (nI wz) aBk (nI bz) aFc), (zaI aFc cFc 6 fFc)]) hD hS hA [0, 1] rfl
  refine va_callv (va_runV (As := [.int (nI i0), .int 0, .int scl, .int y]) (rest := []) ⟨hx, hb, hml, hown, hts⟩ (c_tellFacts l dC dI gd sc aTp aHl aHs aWk aBk aFc ts nh n wz bz mi sn y (nI i0) 0 scl ed cFc fFc H.size) (cwV 4 hts gX8_reachOf_X8_tellFacts rfl rfl rfl hd_yX8_tellFacts ⟨Nat.le_of_ble_eq_true rfl, Nat.le_of_ble_eq_true rfl⟩) ⟨fun a U g mk q => by obtain ⟨q0, q1, qP, qK, qD, qhG⟩ := q; exact ⟨q0, mvz g mk a q1, mvP g mk a qP, mvK g mk a qK, qD, qhG.mv g mk a⟩, va_recv hK hP (ci := 10) (q := (RX8, TX8, 14)) (q0 := 0) rfl rfl, fun U hU hW => ⟨rfl, by rw [hU], by rw [hU]; exact hPc, va_K.moved hW.alike hKc, hDc.weaken (fun _ _ _ _ => trivial), hG.call hS hU hW (fun q h => hFc q h)⟩⟩ rfl rfl hl.1 rfl (lv_room (Nat.le_of_ble_eq_true rfl)) dX8_reachOf_14 ⟨Nat.le_of_ble_eq_true rfl, Nat.le_of_ble_eq_true rfl⟩) hS (fun q _ h => hFc q h) hFc (fun u tC H1 locs htC hvm hw_2 hB hz1 hk1 hS => ?_)
  obtain ⟨fFc9_3, rfl⟩ : ∃ z, z = u := ⟨_, rfl⟩
  try dsimp only at hw_2 hB
  obtain ⟨hP1, hK1, hD1⟩ := hB
  rw [htC] at hP1
  have hK1 := va_K.moved hvm.symm hK1
  obtain ⟨hP, hD⟩ := va_join (wr := [(zo5iiii gS 0 (nI i0) 0 scl)]) (w1 := [(zo10ririliiriririr sc aTp (nI ts) aHl (nI nh) ed mi sn aHs (nI n) aWk (nI wz) aBk (nI bz) aFc), (zaI aFc cFc 6 fFc9_3)]) hP hD [0, 1] [2] rfl rfl (by decide) (by decide) hk1 hFc hP1 hD1
  have hK := (hK.sub (tys' := []) [] rfl).app hK1
  generalize H1 = H at hP hS ⊢
  have hP : va_P (dC, dI) vwCl [(zo5iiii gS 0 (nI i0) 0 scl), (zo10ririliiriririr sc aTp (nI ts) aHl (nI nh) ed mi sn aHs (nI n) aWk (nI wz) aBk (nI bz) aFc), (zaI aFc cFc 6 fFc9_3)] H := hP
  have hD : va_D A [(zo5iiii gS 0 (nI i0) 0 scl), (zo10ririliiriririr sc aTp (nI ts) aHl (nI nh) ed mi sn aHs (nI n) aWk (nI wz) aBk (nI bz) aFc), (zaI aFc cFc 6 fFc9_3)] := hD
  have hK : va_K (dC, dI) vwCl [(cFc, .int)] s := hK
  refine lv_aload_n hx hb dX8_reachOf_17 rfl (lv_at hl 0 rfl) ?_
  refine va_get (D := (dC, dI)) (ci := 10) (v := .ref aHl) (C := RX8) (T := TX8) (N := 14) hx hb hts kc_xReachS_4 hown hK hP 1 rfl rfl 2 (by decide) (hts (.fieldLink RX8 18 "MistHeaps$Scene" "hill" "LMistHeaps$Hill;") kc_xReachS_5) (fun _ h9 => h9) rfl dX8_reachOf_18 ?_
  refine va_get (D := (dC, dI)) (ci := 7) (v := .int sg) (C := RX5) (T := TX5) (N := 11) hx hb hts kc_xReachS_7 hown hZ.2.1 (hZ.P hS) 0 rfl rfl 0 (by decide) (hts (.fieldLink RX8 86 "MistHeaps$Hill" "sight" "I") kc_xReachS_6) (fun _ h9 => h9) rfl dX8_reachOf_21 ?_
  refine lv_aload_n hx hb dX8_reachOf_24 rfl (lv_at hl 0 rfl) ?_
  refine va_get (D := (dC, dI)) (ci := 10) (v := .ref aHl) (C := RX8) (T := TX8) (N := 14) hx hb hts kc_xReachS_4 hown hK hP 1 rfl rfl 2 (by decide) (hts (.fieldLink RX8 18 "MistHeaps$Scene" "hill" "LMistHeaps$Hill;") kc_xReachS_5) (fun _ h9 => h9) rfl dX8_reachOf_25 ?_
  refine lv_iconst (v := 0) hx hb dX8_reachOf_28 (by decide) ?_
  refine lv_aload_n hx hb dX8_reachOf_29 rfl (lv_at hl 0 rfl) ?_
  refine va_get (D := (dC, dI)) (ci := 10) (v := .ref aFc) (C := RX8) (T := TX8) (N := 14) hx hb hts kc_xReachS_4 hown hK hP 1 rfl rfl 13 (by decide) (hts (.fieldLink RX8 34 "MistHeaps$Scene" "facts" "[I") kc_xReachS_8) (fun _ h9 => h9) rfl dX8_reachOf_30 ?_
  have hPc := hP.sub (ws' := [(zaI aFc cFc 6 fFc9_3)]) [2] rfl
  have hKc := hK.sub (tys' := [(cFc, .int)]) [0] rfl
  refine vp_callSi (va_runV (As := [.int 0, .ref aFc]) (rest := [.int sg]) ⟨hx, hb, hml, hown, hts⟩ (c_total l dC dI  aHl aFc bW bA bE bC cl sg cdd szz att nmb cFc cbW cbA cbE cbC fFc9_3 fbW fbA fbE fbC tpv cz 0 (by omega) (zcl) (zE) (zC) (zHC)) (cwV 2 hts gX8_reachOf_X5_total rfl rfl rfl hd_yX5_total ⟨Nat.le_of_ble_eq_true rfl, Nat.le_of_ble_eq_true rfl⟩) ⟨fun a U g mk q => by obtain ⟨q0, qP, qK, qhZ⟩ := q; exact ⟨q0, mvP g mk a qP, mvK g mk a qK, qhZ.mv g mk a⟩, va_recv hZ.2.1 (hZ.P hS) (ci := 7) (q := (RX5, TX5, 11)) (q0 := 0) rfl rfl, fun U hU hW => ⟨rfl, by rw [hU]; exact hPc, va_K.moved hW.alike hKc, (hZ.sub [0, 1, 2, 3, 4] [0, 1, 2, 3] rfl rfl).callF hS hU hW⟩⟩ rfl rfl hl.1 rfl (lv_room (Nat.le_of_ble_eq_true rfl)) dX8_reachOf_33 ⟨Nat.le_of_ble_eq_true rfl, Nat.le_of_ble_eq_true rfl⟩).run (fun r_4 hw_5 => ?_)
  refine lv_iadd hx hb dX8_reachOf_36 ?_
  refine lv_aload_n hx hb dX8_reachOf_37 rfl (lv_at hl 0 rfl) ?_
  refine va_get (D := (dC, dI)) (ci := 10) (v := .ref aHl) (C := RX8) (T := TX8) (N := 14) hx hb hts kc_xReachS_4 hown hK hP 1 rfl rfl 2 (by decide) (hts (.fieldLink RX8 18 "MistHeaps$Scene" "hill" "LMistHeaps$Hill;") kc_xReachS_5) (fun _ h9 => h9) rfl dX8_reachOf_38 ?_
  refine lv_iconst (v := 1) hx hb dX8_reachOf_41 (by decide) ?_
  refine lv_aload_n hx hb dX8_reachOf_42 rfl (lv_at hl 0 rfl) ?_
  refine va_get (D := (dC, dI)) (ci := 10) (v := .ref aFc) (C := RX8) (T := TX8) (N := 14) hx hb hts kc_xReachS_4 hown hK hP 1 rfl rfl 13 (by decide) (hts (.fieldLink RX8 34 "MistHeaps$Scene" "facts" "[I") kc_xReachS_8) (fun _ h9 => h9) rfl dX8_reachOf_43 ?_
  have hPc := hP.sub (ws' := [(zaI aFc cFc 6 fFc9_3)]) [2] rfl
  have hKc := hK.sub (tys' := [(cFc, .int)]) [0] rfl
  refine vp_callSi (va_runV (As := [.int 1, .ref aFc]) (rest := [.int (sg + r_4)]) ⟨hx, hb, hml, hown, hts⟩ (c_total l dC dI  aHl aFc bW bA bE bC cl sg cdd szz att nmb cFc cbW cbA cbE cbC fFc9_3 fbW fbA fbE fbC tpv cz 1 (by omega) (zcl) (zE) (zC) (zHC)) (cwV 2 hts gX8_reachOf_X5_total rfl rfl rfl hd_yX5_total ⟨Nat.le_of_ble_eq_true rfl, Nat.le_of_ble_eq_true rfl⟩) ⟨fun a U g mk q => by obtain ⟨q0, qP, qK, qhZ⟩ := q; exact ⟨q0, mvP g mk a qP, mvK g mk a qK, qhZ.mv g mk a⟩, va_recv hZ.2.1 (hZ.P hS) (ci := 7) (q := (RX5, TX5, 11)) (q0 := 0) rfl rfl, fun U hU hW => ⟨rfl, by rw [hU]; exact hPc, va_K.moved hW.alike hKc, (hZ.sub [0, 1, 2, 3, 4] [0, 1, 2, 3] rfl rfl).callF hS hU hW⟩⟩ rfl rfl hl.1 rfl (lv_room (Nat.le_of_ble_eq_true rfl)) dX8_reachOf_46 ⟨Nat.le_of_ble_eq_true rfl, Nat.le_of_ble_eq_true rfl⟩).run (fun r_6 hw_7 => ?_)
  refine lv_isub hx hb dX8_reachOf_49 ?_
  refine lv_aload_n hx hb dX8_reachOf_50 rfl (lv_at hl 0 rfl) ?_
  refine va_get (D := (dC, dI)) (ci := 10) (v := .int mi) (C := RX8) (T := TX8) (N := 14) hx hb hts kc_xReachS_4 hown hK hP 1 rfl rfl 5 (by decide) (hts (.fieldLink RX8 54 "MistHeaps$Scene" "mist" "I") kc_xReachS_9) (fun _ h9 => h9) rfl dX8_reachOf_51 ?_
  refine lv_isub hx hb dX8_reachOf_54 ?_
  refine lv_istore_n (lv' := [(3, .int (((sg + r_4) - r_6) - mi)), (0, .ref sc), (1, .ref gS), (2, .int y)]) hx hb dX8_reachOf_55 rfl hl (by decide) rfl (fun ls hl => ?_)
  refine lv_aload_n hx hb dX8_reachOf_56 rfl (lv_at hl 2 rfl) ?_
  refine lv_iload_n hx hb dX8_reachOf_57 rfl (lv_at hl 0 rfl) ?_
  refine lv_iload_n hx hb dX8_reachOf_58 rfl (lv_at hl 3 rfl) ?_
  have hPc := hP.sub (ws' := [(zo5iiii gS 0 (nI i0) 0 scl)]) [0] rfl
  have hKc := hK.sub (tys' := []) [] rfl
  refine vp_callSi (va_runV (As := [.int (((sg + r_4) - r_6) - mi), .int y]) (rest := []) ⟨hx, hb, hml, hown, hts⟩ (c_reach3_S l dC dI gS i0 scl (((sg + r_4) - r_6) - mi) y) (cwV 2 hts gX8_reachOf_X3_reachBy rfl rfl rfl hd_yX3_reachBy ⟨Nat.le_of_ble_eq_true rfl, Nat.le_of_ble_eq_true rfl⟩) ⟨fun a U g mk q => by obtain ⟨q0, qP, qK⟩ := q; exact ⟨q0, mvP g mk a qP, mvK g mk a qK⟩, va_recv hK hP (ci := 5) (q := (RX3, TX3, 4)) (q0 := 0) rfl rfl, fun U hU hW => ⟨rfl, by rw [hU]; exact hPc, va_K.moved hW.alike hKc⟩⟩ rfl rfl hl.1 rfl (lv_room (Nat.le_of_ble_eq_true rfl)) dX8_reachOf_59 ⟨Nat.le_of_ble_eq_true rfl, Nat.le_of_ble_eq_true rfl⟩).run (fun r_8 hw_9 => ?_)
  rw [hQ]
  have hP9 := hP.sub (ws' := [(zo10ririliiriririr sc aTp (nI ts) aHl (nI nh) ed mi sn aHs (nI n) aWk (nI wz) aBk (nI bz) aFc), (zaI aFc cFc 6 fFc9_3), (zo5iiii gS 0 (nI i0) 0 scl)]) [1, 2, 0] rfl
  have hD9 := hD.sub (ws' := [(zo10ririliiriririr sc aTp (nI ts) aHl (nI nh) ed mi sn aHs (nI n) aWk (nI wz) aBk (nI bz) aFc), (zaI aFc cFc 6 fFc9_3), (zo5iiii gS 0 (nI i0) 0 scl)]) [1, 2, 0] (by decide) rfl
  have hK9 := hK.sub (tys' := [(cFc, .int)]) [0] rfl
  exact W.iret (v := r_8) hx hb hr (fun tQ htQ hWQ => ⟨⟨r_8, fFc9_3, rfl, rv_0 ⟨_, rv_p hw_2 hw_5 hw_7 zHC.1.2.1, hw_9⟩ rfl, by rw [htQ]; exact hP9, va_K.moved hWQ.alike hK9, hD9⟩, hS.F htQ⟩) hS.2.2 dX8_reachOf_62

theorem kc_xDriftOn_0 : ∀ w ∈ wsX80, w ∈ wsX8_driftOn := fun w h => List.mem_cons_of_mem _ (gin_wsX80 w h)
theorem kc_xDriftOn_1 : (.fieldLink RX8 57 "MistHeaps$Scene" "snow" "I" : Cond) ∈ wsX8_driftOn := kc_of 165 rfl rfl rfl
theorem kc_xDriftOn_2 : (.fieldLink RX8 18 "MistHeaps$Scene" "hill" "LMistHeaps$Hill;" : Cond) ∈ wsX8_driftOn := kc_of 156 rfl rfl rfl
theorem kc_xDriftOn_3 : (.fieldLink RX8 34 "MistHeaps$Scene" "facts" "[I" : Cond) ∈ wsX8_driftOn := kc_of 184 rfl rfl rfl
theorem kc_xDriftOn_4 : (.methodLink RX8 97 Lib.Math.min.name : Cond) ∈ wsX8_driftOn := kc_of 810 rfl rfl rfl
theorem kc_xDriftOn_5 : (.static Lib.Math.min.name : Cond) ∈ wsX8_driftOn := kc_of 477 rfl rfl rfl
theorem kc_xDriftOn_6 : (.initialized "java/lang/Math" : Cond) ∈ wsX8_driftOn := kc_of 77 rfl rfl rfl
theorem kc_xDriftOn_7 : (.code Lib.Math.min.name Lib.Math.min.code 2 (some .int) : Cond) ∈ wsX8_driftOn := kc_of 478 rfl rfl rfl
set_option maxHeartbeats 4000000 in
set_option maxRecDepth 100000 in
theorem c_xDriftOn (l : Launch) (dC : Nat → ClassId) (dI : Nat → Nat → Nat) (gd : Nat → Nat)  (sc : Nat) (aTp : Nat) (aHl : Nat) (aHs : Nat) (aWk : Nat) (aBk : Nat) (aFc : Nat) (bW : Nat) (bA : Nat) (bE : Nat) (bC : Nat) (ts : Nat) (nh : Nat) (n : Nat) (wz : Nat) (bz : Nat) (cl : Nat) (mi : Int32) (sn : Int32) (sg : Int32) (cdd : Int32) (szz : Int32) (att : Int32) (nmb : Int32) (x : Int32) (ed : Int64) (cFc : ClassId) (cbW : ClassId) (cbA : ClassId) (cbE : ClassId) (cbC : ClassId) (fFc : Nat → Int32) (fbW : Nat → Int32) (fbA : Nat → Int32) (fbE : Nat → Int32) (fbC : Nat → Int32) (tpv : Value) (cz : List pCla) (sz : Nat) (zcl : cl ≤ 10) (zE : ∀ k0, k0 < 10 → ∃ e0 : Nat, e0 ≤ 100 ∧ fbE k0 = nI e0) (zC : ∀ k0, k0 < 100 → okC (fbC k0)) (zHC : HC cl sg fbW fbA fbE fbC cz ∧ WfC cz) : Met l yX8_driftOn wsX8_driftOn ({ frames := 3, cells := 0, slots := 0, locals := 73 } : Room) (va_Pc [.ref sc, .int x] (fun U => U.heap.size = sz ∧ va_P (dC, dI) vwCl [(zo10ririliiriririr sc aTp (nI ts) aHl (nI nh) ed mi sn aHs (nI n) aWk (nI wz) aBk (nI bz) aFc), (zaI aFc cFc 6 fFc)] U.heap ∧ va_K (dC, dI) vwCl [(cFc, .int)] U ∧ va_D (fun _ => True) [(zo10ririliiriririr sc aTp (nI ts) aHl (nI nh) ed mi sn aHs (nI n) aWk (nI wz) aBk (nI bz) aFc), (zaI aFc cFc 6 fFc)] ∧ Gl gd (va_A [(zo10ririliiriririr sc aTp (nI ts) aHl (nI nh) ed mi sn aHs (nI n) aWk (nI wz) aBk (nI bz) aFc), (zaI aFc cFc 6 fFc)] sz) U ∧ Fz dC dI [(zo7iirrrriviii aHl sg (nI cl) bW bA bE bC cdd tpv szz att nmb), (zaI bW cbW 10 fbW), (zaI bA cbA 10 fbA), (zaI bE cbE 10 fbE), (zaI bC cbC 100 fbC)] [(cbW, .int), (cbA, .int), (cbE, .int), (cbC, .int)] (va_A [(zo10ririliiriririr sc aTp (nI ts) aHl (nI nh) ed mi sn aHs (nI n) aWk (nI wz) aBk (nI bz) aFc), (zaI aFc cFc 6 fFc)] sz) U)) (va_Qi (fun (r : Int32) (u : Nat → Int32) => match u with | fFc9 => r = DRV cz mi sn x) (fun (u : Nat → Int32) (t : State) => match u with | fFc9 => va_P (dC, dI) vwCl [(zo10ririliiriririr sc aTp (nI ts) aHl (nI nh) ed mi sn aHs (nI n) aWk (nI wz) aBk (nI bz) aFc), (zaI aFc cFc 6 fFc9)] t.heap ∧ va_K (dC, dI) vwCl [(cFc, .int)] t ∧ va_D (va_A [(zo10ririliiriririr sc aTp (nI ts) aHl (nI nh) ed mi sn aHs (nI n) aWk (nI wz) aBk (nI bz) aFc), (zaI aFc cFc 6 fFc)] sz) [(zo10ririliiriririr sc aTp (nI ts) aHl (nI nh) ed mi sn aHs (nI n) aWk (nI wz) aBk (nI bz) aFc), (zaI aFc cFc 6 fFc9)]) (va_A [(zo10ririliiriririr sc aTp (nI ts) aHl (nI nh) ed mi sn aHs (nI n) aWk (nI wz) aBk (nI bz) aFc), (zaI aFc cFc 6 fFc)] sz)) 0 0 (va_A [(zo10ririliiriririr sc aTp (nI ts) aHl (nI nh) ed mi sn aHs (nI n) aWk (nI wz) aBk (nI bz) aFc), (zaI aFc cFc 6 fFc)] sz) := by
  refine met_ofQ (cc := cX8_driftOn) (maxL := 2) (ret := (some .int)) (by decide) rfl ?_
  intro p e s m args below meth c s₁ Q B hml hv hQ
  obtain ⟨rfl, hsz, hP, hK, hD0, hG, hZ⟩ := hv
  have hx := B.exec
  have hb := B.bytes
  have hr := B.returns
  have hts := atoms_spec (ws := wsX8_driftOn) B.pre
  have hown : s.vm.findClass RX8 = some m.cls := findClass_of_methodNamed B.named
  have hlocks := B.notSynchronized
  subst hsz
  have hD := hD0.self (sz := s.heap.size)
  generalize hAe : va_A [(zo10ririliiriririr sc aTp (nI ts) aHl (nI nh) ed mi sn aHs (nI n) aWk (nI wz) aBk (nI bz) aFc), (zaI aFc cFc 6 fFc)] s.heap.size = A at hD hQ hG hZ ⊢
  have hA : ∀ q : Nat, s.heap.size ≤ q → A q := fun q h => by rw [← hAe]; exact Or.inr h
  have hS : va_S A s.heap s.heap [] := va_S.rf
  have hl := lv_entry [.ref sc, .int x] (n := 2) (Nat.le_of_ble_eq_true rfl)
  rw [lg_entry_eq]
  generalize (lg_sl [.ref sc, .int x] ++ List.replicate (2 - (lg_sl [.ref sc, .int x]).length) Slot.unset).toArray = ls at hl ⊢
  generalize hag : ([.ref sc, .int x] : List Value).toArray = args at hts hQ ⊢
  have hl : lv_has ls 2 [(0, .ref sc), (1, .int x)] := hl
  obtain ⟨H, hH⟩ : ∃ H : Heap, H = s.heap := ⟨_, rfl⟩
  rw [← hH] at hP
  rw [← hH]
  have hS : va_S A s.heap H [] := by rw [hH]; exact hS
  obtain ⟨locs, hlo⟩ : ∃ L : List Loc, L = [] := ⟨_, rfl⟩
  rw [← hlo] at hS
  rw [← hlo]
  clear hH hlo
  refine lv_aload_n hx hb dX8_driftOn_0 rfl (lv_at hl 0 rfl) ?_
  refine lv_bipush (v := 99) hx hb dX8_driftOn_1 (by decide) ?_
  refine lv_bipush (v := 99) hx hb dX8_driftOn_3 (by decide) ?_
  refine lv_iload_n hx hb dX8_driftOn_5 rfl (lv_at hl 1 rfl) ?_
  refine lv_aload_n hx hb dX8_driftOn_6 rfl (lv_at hl 0 rfl) ?_
  refine va_get (D := (dC, dI)) (ci := 10) (v := .int sn) (C := RX8) (T := TX8) (N := 14) hx hb hts kc_xDriftOn_0 hown hK hP 0 rfl rfl 6 (by decide) (hts (.fieldLink RX8 57 "MistHeaps$Scene" "snow" "I") kc_xDriftOn_1) (fun _ h9 => h9) rfl dX8_driftOn_7 ?_
  have hPc := hP.sub (ws' := [(zo10ririliiriririr sc aTp (nI ts) aHl (nI nh) ed mi sn aHs (nI n) aWk (nI wz) aBk (nI bz) aFc), (zaI aFc cFc 6 fFc)]) [0, 1] rfl
  have hDc := hD.sub (ws' := [(zo10ririliiriririr sc aTp (nI ts) aHl (nI nh) ed mi sn aHs (nI n) aWk (nI wz) aBk (nI bz) aFc), (zaI aFc cFc 6 fFc)]) [0, 1] (by decide) rfl
  have hKc := hK.sub (tys' := [(cFc, .int)]) [0] rfl
  have hFc := va_free (wc := [(zo10ririliiriririr sc aTp (nI ts) aHl (nI nh) ed mi sn aHs (nI n) aWk (nI wz) aBk (nI bz) aFc), (zaI aFc cFc 6 fFc)]) hD hS hA [0, 1] rfl
  refine va_callv (va_runV (As := [.int 99, .int 99, .int x, .int sn]) (rest := []) ⟨hx, hb, hml, hown, hts⟩ (c_tellFacts l dC dI gd sc aTp aHl aHs aWk aBk aFc ts nh n wz bz mi sn sn 99 99 x ed cFc fFc H.size) (cwV 4 hts gX8_driftOn_X8_tellFacts rfl rfl rfl hd_yX8_tellFacts ⟨Nat.le_of_ble_eq_true rfl, Nat.le_of_ble_eq_true rfl⟩) ⟨fun a U g mk q => by obtain ⟨q0, q1, qP, qK, qD, qhG⟩ := q; exact ⟨q0, mvz g mk a q1, mvP g mk a qP, mvK g mk a qK, qD, qhG.mv g mk a⟩, va_recv hK hP (ci := 10) (q := (RX8, TX8, 14)) (q0 := 0) rfl rfl, fun U hU hW => ⟨rfl, by rw [hU], by rw [hU]; exact hPc, va_K.moved hW.alike hKc, hDc.weaken (fun _ _ _ _ => trivial), hG.call hS hU hW (fun q h => hFc q h)⟩⟩ rfl rfl hl.1 rfl (lv_room (Nat.le_of_ble_eq_true rfl)) dX8_driftOn_10 ⟨Nat.le_of_ble_eq_true rfl, Nat.le_of_ble_eq_true rfl⟩) hS (fun q _ h => hFc q h) hFc (fun u tC H1 locs htC hvm hw_2 hB hz1 hk1 hS => ?_)
  obtain ⟨fFc9_3, rfl⟩ : ∃ z, z = u := ⟨_, rfl⟩
  try dsimp only at hw_2 hB
  obtain ⟨hP1, hK1, hD1⟩ := hB
  rw [htC] at hP1
  have hK1 := va_K.moved hvm.symm hK1
  obtain ⟨hP, hD⟩ := va_join (wr := []) (w1 := [(zo10ririliiriririr sc aTp (nI ts) aHl (nI nh) ed mi sn aHs (nI n) aWk (nI wz) aBk (nI bz) aFc), (zaI aFc cFc 6 fFc9_3)]) hP hD [0, 1] [] rfl rfl (by decide) (by decide) hk1 hFc hP1 hD1
  have hK := (hK.sub (tys' := []) [] rfl).app hK1
  generalize H1 = H at hP hS ⊢
  have hP : va_P (dC, dI) vwCl [(zo10ririliiriririr sc aTp (nI ts) aHl (nI nh) ed mi sn aHs (nI n) aWk (nI wz) aBk (nI bz) aFc), (zaI aFc cFc 6 fFc9_3)] H := hP
  have hD : va_D A [(zo10ririliiriririr sc aTp (nI ts) aHl (nI nh) ed mi sn aHs (nI n) aWk (nI wz) aBk (nI bz) aFc), (zaI aFc cFc 6 fFc9_3)] := hD
  have hK : va_K (dC, dI) vwCl [(cFc, .int)] s := hK
  refine lv_iconst (v := 5) hx hb dX8_driftOn_13 (by decide) ?_
  refine lv_aload_n hx hb dX8_driftOn_14 rfl (lv_at hl 0 rfl) ?_
  refine va_get (D := (dC, dI)) (ci := 10) (v := .ref aHl) (C := RX8) (T := TX8) (N := 14) hx hb hts kc_xDriftOn_0 hown hK hP 0 rfl rfl 2 (by decide) (hts (.fieldLink RX8 18 "MistHeaps$Scene" "hill" "LMistHeaps$Hill;") kc_xDriftOn_2) (fun _ h9 => h9) rfl dX8_driftOn_15 ?_
  refine lv_iconst (v := 3) hx hb dX8_driftOn_18 (by decide) ?_
  refine lv_aload_n hx hb dX8_driftOn_19 rfl (lv_at hl 0 rfl) ?_
  refine va_get (D := (dC, dI)) (ci := 10) (v := .ref aFc) (C := RX8) (T := TX8) (N := 14) hx hb hts kc_xDriftOn_0 hown hK hP 0 rfl rfl 13 (by decide) (hts (.fieldLink RX8 34 "MistHeaps$Scene" "facts" "[I") kc_xDriftOn_3) (fun _ h9 => h9) rfl dX8_driftOn_20 ?_
  have hPc := hP.sub (ws' := [(zaI aFc cFc 6 fFc9_3)]) [1] rfl
  have hKc := hK.sub (tys' := [(cFc, .int)]) [0] rfl
  refine vp_callSi (va_runV (As := [.int 3, .ref aFc]) (rest := [.int 5]) ⟨hx, hb, hml, hown, hts⟩ (c_total l dC dI  aHl aFc bW bA bE bC cl sg cdd szz att nmb cFc cbW cbA cbE cbC fFc9_3 fbW fbA fbE fbC tpv cz 3 (by omega) (zcl) (zE) (zC) (zHC)) (cwV 2 hts gX8_driftOn_X5_total rfl rfl rfl hd_yX5_total ⟨Nat.le_of_ble_eq_true rfl, Nat.le_of_ble_eq_true rfl⟩) ⟨fun a U g mk q => by obtain ⟨q0, qP, qK, qhZ⟩ := q; exact ⟨q0, mvP g mk a qP, mvK g mk a qK, qhZ.mv g mk a⟩, va_recv hZ.2.1 (hZ.P hS) (ci := 7) (q := (RX5, TX5, 11)) (q0 := 0) rfl rfl, fun U hU hW => ⟨rfl, by rw [hU]; exact hPc, va_K.moved hW.alike hKc, (hZ.sub [0, 1, 2, 3, 4] [0, 1, 2, 3] rfl rfl).callF hS hU hW⟩⟩ rfl rfl hl.1 rfl (lv_room (Nat.le_of_ble_eq_true rfl)) dX8_driftOn_23 ⟨Nat.le_of_ble_eq_true rfl, Nat.le_of_ble_eq_true rfl⟩).run (fun r_4 hw_5 => ?_)
  refine va_mmin hx hb (by rw [hml]; exact hl.1.symm) hown (hts (.methodLink RX8 97 Lib.Math.min.name) kc_xDriftOn_4) (hts (.static Lib.Math.min.name) kc_xDriftOn_5) (hts (.initialized "java/lang/Math") kc_xDriftOn_6) (hts (.code Lib.Math.min.name Lib.Math.min.code 2 (some .int)) kc_xDriftOn_7) (Nat.le_of_ble_eq_true rfl) (Nat.le_of_ble_eq_true rfl) (Nat.le_of_ble_eq_true rfl) (Nat.le_of_ble_eq_true rfl) dX8_driftOn_26 ?_
  rw [hQ]
  have hP9 := hP.sub (ws' := [(zo10ririliiriririr sc aTp (nI ts) aHl (nI nh) ed mi sn aHs (nI n) aWk (nI wz) aBk (nI bz) aFc), (zaI aFc cFc 6 fFc9_3)]) [0, 1] rfl
  have hD9 := hD.sub (ws' := [(zo10ririliiriririr sc aTp (nI ts) aHl (nI nh) ed mi sn aHs (nI n) aWk (nI wz) aBk (nI bz) aFc), (zaI aFc cFc 6 fFc9_3)]) [0, 1] (by decide) rfl
  have hK9 := hK.sub (tys' := [(cFc, .int)]) [0] rfl
  exact W.iret (v := (if r_4 < 5 then r_4 else 5)) hx hb hr (fun tQ htQ hWQ => ⟨⟨(if r_4 < 5 then r_4 else 5), fFc9_3, rfl, drv_c hw_2 hw_5, by rw [htQ]; exact hP9, va_K.moved hWQ.alike hK9, hD9⟩, hS.F htQ⟩) hS.2.2 dX8_driftOn_29

theorem kc_cellsSeeing_0 : ∀ w ∈ wsX80, w ∈ wsX8_cellsSeeing := fun w h => List.mem_cons_of_mem _ (gin_wsX80 w h)
theorem kc_cellsSeeing_1 : (.fieldLink RX8 57 "MistHeaps$Scene" "snow" "I" : Cond) ∈ wsX8_cellsSeeing := kc_of 165 rfl rfl rfl
theorem kc_cellsSeeing_2 : (.fieldLink RX8 73 "MistHeaps$Heap" "cell" "I" : Cond) ∈ wsX8_cellsSeeing := kc_of 250 rfl rfl rfl
theorem kc_cellsSeeing_4 : (.initialized RX11 : Cond) ∈ wsX8_cellsSeeing := kc_of 63 rfl rfl rfl
theorem kc_cellsSeeing_5 : (.static yX11_apart : Cond) ∈ wsX8_cellsSeeing := kc_of 699 rfl rfl rfl
theorem kc_cellsSeeing_3 : ∀ C ∈ hpC, ∀ w ∈ u_ws C.1 C.2.1 C.2.2, w ∈ wsX8_cellsSeeing := by decide +kernel
set_option maxHeartbeats 4000000 in
set_option maxRecDepth 100000 in
theorem c_cellsSeeing (l : Launch) (dC : Nat → ClassId) (dI : Nat → Nat → Nat) (gd : Nat → Nat)    (sc : Nat) (aTp : Nat) (aHl : Nat) (aHs : Nat) (aWk : Nat) (aBk : Nat) (aFc : Nat) (bW : Nat) (bA : Nat) (bE : Nat) (bC : Nat) (ts : Nat) (nh : Nat) (n : Nat) (wz : Nat) (bz : Nat) (cl : Nat) (j : Nat) (mi : Int32) (sn : Int32) (sg : Int32) (cdd : Int32) (szz : Int32) (att : Int32) (nmb : Int32) (ed : Int64) (cHs : ClassId) (cFc : ClassId) (cbW : ClassId) (cbA : ClassId) (cbE : ClassId) (cbC : ClassId) (fFc : Nat → Int32) (fbW : Nat → Int32) (fbA : Nat → Int32) (fbE : Nat → Int32) (fbC : Nat → Int32) (yk : Nat → Int32) (yv : Nat → Int32) (yc : Nat → Int32) (fHs : Nat → Option Nat) (yi : Nat → Nat) (ya : Nat → Nat) (tpv : Value) (cz : List pCla) (sz : Nat) (hjn : j < n) (zhs : ∀ k0, k0 < n → fHs k0 = some (ya k0)) (hn8 : n ≤ 8) (zcl : cl ≤ 10) (zE : ∀ k0, k0 < 10 → ∃ e0 : Nat, e0 ≤ 100 ∧ fbE k0 = nI e0) (zC : ∀ k0, k0 < 100 → okC (fbC k0)) (zHC : HC cl sg fbW fbA fbE fbC cz ∧ WfC cz) (zyt : ∀ k0, k0 < n → hpT (yi k0) (yk k0)) : Met l yX8_cellsSeeing wsX8_cellsSeeing ({ frames := 5, cells := 0, slots := 0, locals := 102 } : Room) (va_Pc [.ref sc, .int (nI j)] (fun U => U.heap.size = sz ∧ va_P (dC, dI) vwCl [(zo10ririliiriririr sc aTp (nI ts) aHl (nI nh) ed mi sn aHs (nI n) aWk (nI wz) aBk (nI bz) aFc), (zaR aHs cHs 8 fHs), (zaI aFc cFc 6 fFc)] U.heap ∧ va_K (dC, dI) vwCl [(cHs, .object "MistHeaps$Heap"), (cFc, .int)] U ∧ va_D (fun _ => True) [(zo10ririliiriririr sc aTp (nI ts) aHl (nI nh) ed mi sn aHs (nI n) aWk (nI wz) aBk (nI bz) aFc), (zaR aHs cHs 8 fHs), (zaI aFc cFc 6 fFc)] ∧ Gl gd (va_A [(zo10ririliiriririr sc aTp (nI ts) aHl (nI nh) ed mi sn aHs (nI n) aWk (nI wz) aBk (nI bz) aFc), (zaR aHs cHs 8 fHs), (zaI aFc cFc 6 fFc)] sz) U ∧ Gw (va_A [(zo10ririliiriririr sc aTp (nI ts) aHl (nI nh) ed mi sn aHs (nI n) aWk (nI wz) aBk (nI bz) aFc), (zaR aHs cHs 8 fHs), (zaI aFc cFc 6 fFc)] sz) U ∧ Fz dC dI [(zo7iirrrriviii aHl sg (nI cl) bW bA bE bC cdd tpv szz att nmb), (zaI bW cbW 10 fbW), (zaI bA cbA 10 fbA), (zaI bE cbE 10 fbE), (zaI bC cbC 100 fbC)] [(cbW, .int), (cbA, .int), (cbE, .int), (cbC, .int)] (va_A [(zo10ririliiriririr sc aTp (nI ts) aHl (nI nh) ed mi sn aHs (nI n) aWk (nI wz) aBk (nI bz) aFc), (zaR aHs cHs 8 fHs), (zaI aFc cFc 6 fFc)] sz) U ∧ Hs dC dI n yi ya yk yv yc (va_A [(zo10ririliiriririr sc aTp (nI ts) aHl (nI nh) ed mi sn aHs (nI n) aWk (nI wz) aBk (nI bz) aFc), (zaR aHs cHs 8 fHs), (zaI aFc cFc 6 fFc)] sz) U)) (va_Ql (fun (r : Int64) (u : Nat → Int32) => match u with | fFc9 => r = lN (csM (fun kq => ¬ RV cz mi sn j (yk j) (yv j) (yc j) < apR (nI kq) (yc j)) 36)) (fun (u : Nat → Int32) (t : State) => match u with | fFc9 => va_P (dC, dI) vwCl [(zo10ririliiriririr sc aTp (nI ts) aHl (nI nh) ed mi sn aHs (nI n) aWk (nI wz) aBk (nI bz) aFc), (zaR aHs cHs 8 fHs), (zaI aFc cFc 6 fFc9)] t.heap ∧ va_K (dC, dI) vwCl [(cHs, .object "MistHeaps$Heap"), (cFc, .int)] t ∧ va_D (va_A [(zo10ririliiriririr sc aTp (nI ts) aHl (nI nh) ed mi sn aHs (nI n) aWk (nI wz) aBk (nI bz) aFc), (zaR aHs cHs 8 fHs), (zaI aFc cFc 6 fFc)] sz) [(zo10ririliiriririr sc aTp (nI ts) aHl (nI nh) ed mi sn aHs (nI n) aWk (nI wz) aBk (nI bz) aFc), (zaR aHs cHs 8 fHs), (zaI aFc cFc 6 fFc9)]) (va_A [(zo10ririliiriririr sc aTp (nI ts) aHl (nI nh) ed mi sn aHs (nI n) aWk (nI wz) aBk (nI bz) aFc), (zaR aHs cHs 8 fHs), (zaI aFc cFc 6 fFc)] sz)) 0 0 (va_A [(zo10ririliiriririr sc aTp (nI ts) aHl (nI nh) ed mi sn aHs (nI n) aWk (nI wz) aBk (nI bz) aFc), (zaR aHs cHs 8 fHs), (zaI aFc cFc 6 fFc)] sz) := by
  refine met_ofQ (cc := cX8_cellsSeeing) (maxL := 7) (ret := (some .long)) (by decide) rfl ?_
  intro p e s m args below meth c s₁ Q B hml hv hQ
  obtain ⟨rfl, hsz, hP, hK, hD0, hG, hW_, hZ, hH_⟩ := hv
  have hx := B.exec
  have hb := B.bytes
  have hr := B.returns
  have hts := atoms_spec (ws := wsX8_cellsSeeing) B.pre
  have hown : s.vm.findClass RX8 = some m.cls := findClass_of_methodNamed B.named
  have hlocks := B.notSynchronized
  subst hsz
  have hD := hD0.self (sz := s.heap.size)
  generalize hAe : va_A [(zo10ririliiriririr sc aTp (nI ts) aHl (nI nh) ed mi sn aHs (nI n) aWk (nI wz) aBk (nI bz) aFc), (zaR aHs cHs 8 fHs), (zaI aFc cFc 6 fFc)] s.heap.size = A at hD hQ hG hW_ hZ hH_ ⊢
  have hA : ∀ q : Nat, s.heap.size ≤ q → A q := fun q h => by rw [← hAe]; exact Or.inr h
  have hS : va_S A s.heap s.heap [] := va_S.rf
  have hl := lv_entry [.ref sc, .int (nI j)] (n := 7) (Nat.le_of_ble_eq_true rfl)
  rw [lg_entry_eq]
  generalize (lg_sl [.ref sc, .int (nI j)] ++ List.replicate (7 - (lg_sl [.ref sc, .int (nI j)]).length) Slot.unset).toArray = ls at hl ⊢
  generalize hag : ([.ref sc, .int (nI j)] : List Value).toArray = args at hts hQ ⊢
  have hl : lv_has ls 7 [(0, .ref sc), (1, .int (nI j))] := hl
  obtain ⟨H, hH⟩ : ∃ H : Heap, H = s.heap := ⟨_, rfl⟩
  rw [← hH] at hP
  rw [← hH]
  have hS : va_S A s.heap H [] := by rw [hH]; exact hS
  obtain ⟨locs, hlo⟩ : ∃ L : List Loc, L = [] := ⟨_, rfl⟩
  rw [← hlo] at hS
  rw [← hlo]
  clear hH hlo
  refine lv_aload_n hx hb dX8_cellsSeeing_0 rfl (lv_at hl 0 rfl) ?_
  refine lv_iload_n hx hb dX8_cellsSeeing_1 rfl (lv_at hl 1 rfl) ?_
  have hPc := hP.sub (ws' := [(zo10ririliiriririr sc aTp (nI ts) aHl (nI nh) ed mi sn aHs (nI n) aWk (nI wz) aBk (nI bz) aFc), (zaR aHs cHs 8 fHs)]) [0, 1] rfl
  have hKc := hK.sub (tys' := [(cHs, .object "MistHeaps$Heap")]) [0] rfl
  refine va_csq (va_runV (As := [.int (nI j)]) (rest := []) ⟨hx, hb, hml, hown, hts⟩ (c_heapAt l dC dI sc aTp aHl aHs aWk aBk aFc ts nh n wz bz mi sn (nI j) ed cHs fHs ya (zhs) (hn8)) (cwV 1 hts gX8_cellsSeeing_X8_heapAt rfl rfl rfl hd_yX8_heapAt ⟨Nat.le_of_ble_eq_true rfl, Nat.le_of_ble_eq_true rfl⟩) ⟨fun a U g mk q => by obtain ⟨q0, qP, qK⟩ := q; exact ⟨q0, mvP g mk a qP, mvK g mk a qK⟩, va_recv hK hP (ci := 10) (q := (RX8, TX8, 14)) (q0 := 0) rfl rfl, fun U hU hW => ⟨rfl, by rw [hU]; exact hPc, va_K.moved hW.alike hKc⟩⟩ rfl rfl hl.1 rfl (lv_room (Nat.le_of_ble_eq_true rfl)) dX8_cellsSeeing_2 ⟨Nat.le_of_ble_eq_true rfl, Nat.le_of_ble_eq_true rfl⟩).run (fun r_1 hw_2 => ?_)
  obtain rfl : r_1 = some (ya j) := by rcases hw_2 with ⟨j9, hj9, e9, rfl⟩ | ⟨-, e9⟩; rw [show j = j9 from (nI_eq (by omega) (by omega)).mp e9]; exact absurd rfl (e9 j hjn)
  refine qq_as (v := .ref (ya j)) rfl ?_
  refine lv_astore_n (lv' := [(2, .ref (ya j)), (0, .ref sc), (1, .int (nI j))]) hx hb dX8_cellsSeeing_5 rfl hl (by decide) rfl (fun ls hl => ?_)
  refine lv_aload_n hx hb dX8_cellsSeeing_6 rfl (lv_at hl 0 rfl) ?_
  refine lv_ifnonnull (tgt := 12) hx hb dX8_cellsSeeing_7 (by decide) ?_
  refine lv_aload_n hx hb dX8_cellsSeeing_12 rfl (lv_at hl 1 rfl) ?_
  refine lv_aload_n hx hb dX8_cellsSeeing_13 rfl (lv_at hl 0 rfl) ?_
  refine lv_aload_n hx hb dX8_cellsSeeing_14 rfl (lv_at hl 1 rfl) ?_
  refine va_get (D := (dC, dI)) (ci := 10) (v := .int sn) (C := RX8) (T := TX8) (N := 14) hx hb hts kc_cellsSeeing_0 hown hK hP 0 rfl rfl 6 (by decide) (hts (.fieldLink RX8 57 "MistHeaps$Scene" "snow" "I") kc_cellsSeeing_1) (fun _ h9 => h9) rfl dX8_cellsSeeing_15 ?_
  have hPc := hP.sub (ws' := [(zo10ririliiriririr sc aTp (nI ts) aHl (nI nh) ed mi sn aHs (nI n) aWk (nI wz) aBk (nI bz) aFc), (zaI aFc cFc 6 fFc)]) [0, 2] rfl
  have hDc := hD.sub (ws' := [(zo10ririliiriririr sc aTp (nI ts) aHl (nI nh) ed mi sn aHs (nI n) aWk (nI wz) aBk (nI bz) aFc), (zaI aFc cFc 6 fFc)]) [0, 2] (by decide) rfl
  have hKc := hK.sub (tys' := [(cFc, .int)]) [1] rfl
  have hFc := va_free (wc := [(zo10ririliiriririr sc aTp (nI ts) aHl (nI nh) ed mi sn aHs (nI n) aWk (nI wz) aBk (nI bz) aFc), (zaI aFc cFc 6 fFc)]) hD hS hA [0, 2] rfl
  refine va_calli (va_runV (As := [.ref (ya j), .int sn]) (rest := []) ⟨hx, hb, hml, hown, hts⟩ (c_xReach l dC dI gd    sc aTp aHl aHs aWk aBk aFc bW bA bE bC ts nh n wz bz cl j mi sn sg cdd szz att nmb sn ed cFc cbW cbA cbE cbC fFc fbW fbA fbE fbC yk yv yc yi ya tpv cz H.size (by omega) (zcl) (zE) (zC) (zHC) (zyt)) (cwV 2 hts gX8_cellsSeeing_X8_reachOf rfl rfl rfl hd_yX8_reachOf ⟨Nat.le_of_ble_eq_true rfl, Nat.le_of_ble_eq_true rfl⟩) ⟨fun a U g mk q => by obtain ⟨q0, q1, qP, qK, qD, qhG, qhW_, qhZ, qhH_⟩ := q; exact ⟨q0, mvz g mk a q1, mvP g mk a qP, mvK g mk a qK, qD, qhG.mv g mk a, qhW_.mv g mk a, qhZ.mv g mk a, qhH_.mv g mk a⟩, va_recv hK hP (ci := 10) (q := (RX8, TX8, 14)) (q0 := 0) rfl rfl, fun U hU hW => ⟨rfl, by rw [hU], by rw [hU]; exact hPc, va_K.moved hW.alike hKc, hDc.weaken (fun _ _ _ _ => trivial), hG.call hS hU hW (fun q h => hFc q h), hW_.call hS hU hW (fun q h => hFc q h), (hZ.sub [0, 1, 2, 3, 4] [0, 1, 2, 3] rfl rfl).call hS hU hW (fun q h => hFc q h), hH_.call hS hU hW (fun q h => hFc q h)⟩⟩ rfl rfl hl.1 rfl (lv_room (Nat.le_of_ble_eq_true rfl)) dX8_cellsSeeing_18 ⟨Nat.le_of_ble_eq_true rfl, Nat.le_of_ble_eq_true rfl⟩) hS (fun q _ h => hFc q h) hFc (fun r_3 u tC H1 locs htC hvm hw_4 hB hz1 hk1 hS => ?_)
  obtain ⟨fFc9_5, rfl⟩ : ∃ z, z = u := ⟨_, rfl⟩
  try dsimp only at hw_4 hB
  obtain ⟨hP1, hK1, hD1⟩ := hB
  rw [htC] at hP1
  have hK1 := va_K.moved hvm.symm hK1
  obtain ⟨hP, hD⟩ := va_join (wr := [(zaR aHs cHs 8 fHs)]) (w1 := [(zo10ririliiriririr sc aTp (nI ts) aHl (nI nh) ed mi sn aHs (nI n) aWk (nI wz) aBk (nI bz) aFc), (zaI aFc cFc 6 fFc9_5)]) hP hD [0, 2] [1] rfl rfl (by decide) (by decide) hk1 hFc hP1 hD1
  have hK := (hK.sub (tys' := [(cHs, .object "MistHeaps$Heap")]) [0] rfl).app hK1
  generalize H1 = H at hP hS ⊢
  have hP : va_P (dC, dI) vwCl [(zaR aHs cHs 8 fHs), (zo10ririliiriririr sc aTp (nI ts) aHl (nI nh) ed mi sn aHs (nI n) aWk (nI wz) aBk (nI bz) aFc), (zaI aFc cFc 6 fFc9_5)] H := hP
  have hD : va_D A [(zaR aHs cHs 8 fHs), (zo10ririliiriririr sc aTp (nI ts) aHl (nI nh) ed mi sn aHs (nI n) aWk (nI wz) aBk (nI bz) aFc), (zaI aFc cFc 6 fFc9_5)] := hD
  have hK : va_K (dC, dI) vwCl [(cHs, .object "MistHeaps$Heap"), (cFc, .int)] s := hK
  obtain rfl := hw_4
  refine lv_istore_n (lv' := [(3, .int (RV cz mi sn j (yk j) (yv j) (yc j))), (2, .ref (ya j)), (0, .ref sc), (1, .int (nI j))]) hx hb dX8_cellsSeeing_21 rfl hl (by decide) rfl (fun ls hl => ?_)
  refine lv_lconst (v := 0) hx hb dX8_cellsSeeing_22 (by decide) ?_
  refine lv_lstore (lv' := [(4, .long 0), (3, .int (RV cz mi sn j (yk j) (yv j) (yc j))), (2, .ref (ya j)), (0, .ref sc), (1, .int (nI j))]) hx hb dX8_cellsSeeing_23 hl (by decide) rfl (fun ls hl => ?_)
  refine lv_iconst (v := 0) hx hb dX8_cellsSeeing_25 (by decide) ?_
  refine lv_istore (lv' := [(6, .int 0), (4, .long 0), (3, .int (RV cz mi sn j (yk j) (yv j) (yc j))), (2, .ref (ya j)), (0, .ref sc), (1, .int (nI j))]) hx hb dX8_cellsSeeing_26 hl (by decide) rfl (fun ls hl => ?_)
  have L28 : ∀ (nF : Nat) (i : Nat) (q : Int64), 36 - i < nF → (i ≤ 36) → (q = lN (csM (fun kq => ¬ RV cz mi sn j (yk j) (yv j) (yc j) < apR (nI kq) (yc j)) i)) → ∀ (H : Heap) (locs : List Loc), va_K (dC, dI) vwCl [(cHs, .object "MistHeaps$Heap"), (cFc, .int)] s → va_P (dC, dI) vwCl [(zo10ririliiriririr sc aTp (nI ts) aHl (nI nh) ed mi sn aHs (nI n) aWk (nI wz) aBk (nI bz) aFc), (zaR aHs cHs 8 fHs), (zaI aFc cFc 6 fFc9_5)] H → va_D A [(zo10ririliiriririr sc aTp (nI ts) aHl (nI nh) ed mi sn aHs (nI n) aWk (nI wz) aBk (nI bz) aFc), (zaR aHs cHs 8 fHs), (zaI aFc cFc 6 fFc9_5)] → va_S A s.heap H locs → ∀ (ls : Array Slot), lv_has ls 7 [(0, .ref sc), (2, .ref (ya j)), (3, .int (RV cz mi sn j (yk j) (yv j) (yc j))), (4, .long q), (6, .int (nI i))] → W p l e ({ frames := 5, cells := 0, slots := 0, locals := 102 } : Room) s m args below meth c H locs 0 0 Q (F0 m 28 ls []) := by
    intro nF
    induction nF with
    | zero => intro i q hm; exact absurd hm (Nat.not_lt_zero _)
    | succ nF ih28 =>
      intro i q hm hi hq9 H locs hK hP hD hS ls hl
      refine lv_iload hx hb dX8_cellsSeeing_28 (lv_at hl 4 rfl) ?_
      refine lv_bipush (v := 36) hx hb dX8_cellsSeeing_30 (by decide) ?_
      refine lv_icmp_ge (tgt := 63) hx hb dX8_cellsSeeing_32 (by decide) (fun c_6 => ?_) (fun c_6 => ?_)
      · skip
        have c_6 : 36 ≤ i := (nI_leI (a := 36) (b := i) (by omega) (by omega)).mp c_6
        refine lv_lload hx hb dX8_cellsSeeing_63 (lv_at hl 3 rfl) ?_
        rw [hQ]
        have hP9 := hP.sub (ws' := [(zo10ririliiriririr sc aTp (nI ts) aHl (nI nh) ed mi sn aHs (nI n) aWk (nI wz) aBk (nI bz) aFc), (zaR aHs cHs 8 fHs), (zaI aFc cFc 6 fFc9_5)]) [0, 1, 2] rfl
        have hD9 := hD.sub (ws' := [(zo10ririliiriririr sc aTp (nI ts) aHl (nI nh) ed mi sn aHs (nI n) aWk (nI wz) aBk (nI bz) aFc), (zaR aHs cHs 8 fHs), (zaI aFc cFc 6 fFc9_5)]) [0, 1, 2] (by decide) rfl
        have hK9 := hK.sub (tys' := [(cHs, .object "MistHeaps$Heap"), (cFc, .int)]) [0, 1] rfl
        exact W.lret (v := q) hx hb hr (fun tQ htQ hWQ => ⟨⟨q, fFc9_5, rfl, cs_e hq9 (by omega), by rw [htQ]; exact hP9, va_K.moved hWQ.alike hK9, hD9⟩, hS.F htQ⟩) hS.2.2 dX8_cellsSeeing_65
      · skip
        have c_6 : ¬ 36 ≤ i := fun q => c_6 ((nI_leI (a := 36) (b := i) (by omega) (by omega)).mpr q)
        refine lv_iload hx hb dX8_cellsSeeing_35 (lv_at hl 4 rfl) ?_
        refine lv_aload_n hx hb dX8_cellsSeeing_37 rfl (lv_at hl 1 rfl) ?_
        refine va_hget3 (v := .int (yc j)) hx hb hts kc_cellsSeeing_3 hown (hH_ j (by omega)).1 (hH_ j (by omega)).2 hS (hts (.fieldLink RX8 73 "MistHeaps$Heap" "cell" "I") kc_cellsSeeing_2) dX8_cellsSeeing_38 rfl ?_
        refine vp_callSi (va_runSN (As := [.int (nI i), .int (yc j)]) (rest := []) ⟨hx, hb, hml, hown, hts⟩ (c_xApart l dC dI (nI i) (yc j)) ⟨va_cnB 2 hts ggX8_cellsSeeing_X11_apart rfl rfl rfl (hG.1 (.methodLinkNest RX8 113 yX11_apart "MistHeaps") (by decide +kernel)) (hts (.initialized RX11) kc_cellsSeeing_4) (by decide +kernel) ⟨Nat.le_of_ble_eq_true rfl, Nat.le_of_ble_eq_true rfl⟩, (hts (.static yX11_apart) kc_cellsSeeing_5), trivial⟩ ⟨fun a U g mk q => ⟨q.1, trivial⟩, fun U hU hW => ⟨rfl, trivial⟩⟩ rfl rfl hl.1 rfl (lv_room (Nat.le_of_ble_eq_true rfl)) dX8_cellsSeeing_41 ⟨Nat.le_of_ble_eq_true rfl, Nat.le_of_ble_eq_true rfl⟩).run (fun r_7 hw_8 => ?_)
        obtain rfl := hw_8
        refine lv_iload_n hx hb dX8_cellsSeeing_44 rfl (lv_at hl 2 rfl) ?_
        refine lv_icmp_gt (tgt := 57) hx hb dX8_cellsSeeing_45 (by decide) (fun c_9 => ?_) (fun c_9 => ?_)
        · skip
          refine lv_iinc (v := nI (i + 1)) (lv' := [(6, .int (nI (i + 1))), (0, .ref sc), (2, .ref (ya j)), (3, .int (RV cz mi sn j (yk j) (yv j) (yc j))), (4, .long q)]) hx hb dX8_cellsSeeing_57 hl (k := 4) rfl (nI_add i 1) (by decide) rfl (fun ls hl => ?_)
          refine lv_goto (tgt := 28) hx hb dX8_cellsSeeing_60 (by decide) ?_
          exact ih28 (i + 1) (q) (by omega) (by omega) (cs_f hq9 (fun z9 => z9 c_9)) _ _ (hK.sub [0, 1] rfl) (hP.sub [0, 1, 2] rfl) (hD.sub [0, 1, 2] (by decide) rfl) hS ls (lv_sub hl [1, 2, 3, 4, 0] rfl)
        · skip
          refine lv_lload hx hb dX8_cellsSeeing_48 (lv_at hl 3 rfl) ?_
          refine lv_lconst (v := 1) hx hb dX8_cellsSeeing_50 (by decide) ?_
          refine lv_iload hx hb dX8_cellsSeeing_51 (lv_at hl 4 rfl) ?_
          refine lv_lshl (v := (1 : Int64) <<< ((nI i).toInt64 &&& 63)) hx hb dX8_cellsSeeing_53 (rfl) ?_
          refine lv_lor hx hb dX8_cellsSeeing_54 ?_
          refine lv_lstore (lv' := [(4, .long (q ||| ((1 : Int64) <<< ((nI i).toInt64 &&& 63)))), (0, .ref sc), (2, .ref (ya j)), (3, .int (RV cz mi sn j (yk j) (yv j) (yc j))), (6, .int (nI i))]) hx hb dX8_cellsSeeing_55 hl (by decide) rfl (fun ls hl => ?_)
          refine lv_iinc (v := nI (i + 1)) (lv' := [(6, .int (nI (i + 1))), (4, .long (q ||| ((1 : Int64) <<< ((nI i).toInt64 &&& 63)))), (0, .ref sc), (2, .ref (ya j)), (3, .int (RV cz mi sn j (yk j) (yv j) (yc j)))]) hx hb dX8_cellsSeeing_57 hl (k := 4) rfl (nI_add i 1) (by decide) rfl (fun ls hl => ?_)
          refine lv_goto (tgt := 28) hx hb dX8_cellsSeeing_60 (by decide) ?_
          exact ih28 (i + 1) (q ||| ((1 : Int64) <<< ((nI i).toInt64 &&& 63))) (by omega) (by omega) (cs_t hq9 (by omega) c_9) _ _ (hK.sub [0, 1] rfl) (hP.sub [0, 1, 2] rfl) (hD.sub [0, 1, 2] (by decide) rfl) hS ls (lv_sub hl [2, 3, 4, 1, 0] rfl)
  exact L28 _ (0) (0) (Nat.lt_succ_self _) (by omega) (rfl) _ _ (hK.sub [0, 1] rfl) (hP.sub [1, 0, 2] rfl) (hD.sub [1, 0, 2] (by decide) rfl) hS ls (lv_sub hl [4, 3, 2, 1, 0] rfl)
end mg15a
section mg15a
theorem ggX2_measure_X8_reachOf : GoodIn wsX2_measure wsX8_reachOf := gga_of 636 rfl rfl rfl
theorem gX2_measure_X8_reachOf : GoodIn wsX2_measure (wsV RX2 37 RX8 yX8_reachOf wsX8_reachOf) := goodIn_app (ggh_of [693, 634, 635, 64] rfl rfl rfl) ggX2_measure_X8_reachOf
theorem ggX2_seenFrom_X11_apart : GoodIn wsX2_seenFrom wsX11_apart := gga_of 700 rfl rfl rfl
theorem ggX2_tellGoing_X11_apart : GoodIn wsX2_tellGoing wsX11_apart := gga_of 700 rfl rfl rfl
theorem ggX2_tellGoing_X1_leadsTo : GoodIn wsX2_tellGoing wsX1_leadsTo := gga_of 736 rfl rfl rfl
theorem gX2_tellGoing_X1_leadsTo_u62X1 : GoodIn wsX2_tellGoing (va_wsO RX2 62 RX1 "MistHeaps$Heap" ⟨"MistHeaps$Heap", "leadsTo", "(I)Z"⟩ yX1_leadsTo wsX1_leadsTo) := goodIn_app (ggh_of [730, 733, 731, 734, 735, 83] rfl rfl rfl) ggX2_tellGoing_X1_leadsTo
theorem ggX2_tellGoing_X3_leadsTo : GoodIn wsX2_tellGoing wsX3_leadsTo := gga_of 753 rfl rfl rfl
theorem gX2_tellGoing_X3_leadsTo : GoodIn wsX2_tellGoing (wsV RX2 62 RX3 yX3_leadsTo wsX3_leadsTo) := goodIn_app (ggh_of [730, 731, 732, 67] rfl rfl rfl) ggX2_tellGoing_X3_leadsTo
theorem gX2_tellGoing_X3_leadsTo_u62X4 : GoodIn wsX2_tellGoing (va_wsU RX2 62 RX4 "MistHeaps$Heap" ⟨"MistHeaps$Heap", "leadsTo", "(I)Z"⟩ yX3_leadsTo wsX3_leadsTo) := goodIn_app (ggh_of [730, 733, 737, 731, 67] rfl rfl rfl) ggX2_tellGoing_X3_leadsTo
theorem gX2_tellGoing_X3_leadsTo_u62X6 : GoodIn wsX2_tellGoing (va_wsU RX2 62 RX6 "MistHeaps$Heap" ⟨"MistHeaps$Heap", "leadsTo", "(I)Z"⟩ yX3_leadsTo wsX3_leadsTo) := goodIn_app (ggh_of [730, 733, 738, 731, 67] rfl rfl rfl) ggX2_tellGoing_X3_leadsTo
theorem gX2_tellGoing_X1_leadsTo_u62X7 : GoodIn wsX2_tellGoing (va_wsO RX2 62 RX7 "MistHeaps$Heap" ⟨"MistHeaps$Heap", "leadsTo", "(I)Z"⟩ yX1_leadsTo wsX1_leadsTo) := goodIn_app (ggh_of [730, 733, 731, 739, 735, 83] rfl rfl rfl) ggX2_tellGoing_X1_leadsTo
theorem gX2_tellGoing_X3_leadsTo_u62X9 : GoodIn wsX2_tellGoing (va_wsU RX2 62 RX9 "MistHeaps$Heap" ⟨"MistHeaps$Heap", "leadsTo", "(I)Z"⟩ yX3_leadsTo wsX3_leadsTo) := goodIn_app (ggh_of [730, 733, 740, 731, 67] rfl rfl rfl) ggX2_tellGoing_X3_leadsTo
theorem ggX2_tellGoing_X10_leadsTo : GoodIn wsX2_tellGoing wsX10_leadsTo := gga_of 743 rfl rfl rfl
theorem gX2_tellGoing_X10_leadsTo_u62X10 : GoodIn wsX2_tellGoing (va_wsO RX2 62 RX10 "MistHeaps$Heap" ⟨"MistHeaps$Heap", "leadsTo", "(I)Z"⟩ yX10_leadsTo wsX10_leadsTo) := goodIn_app (ggh_of [730, 733, 731, 741, 742, 84] rfl rfl rfl) ggX2_tellGoing_X10_leadsTo
theorem ggX2_link_X2_measure : GoodIn wsX2_link wsX2_measure := gga_of 692 rfl rfl rfl
theorem gX2_link_X2_measure : GoodIn wsX2_link (wsV RX2 48 RX2 yX2_measure wsX2_measure) := goodIn_app (ggh_of [725, 690, 691, 66] rfl rfl rfl) ggX2_link_X2_measure
theorem ggX2_link_X2_tellGoing : GoodIn wsX2_link wsX2_tellGoing := gga_of 729 rfl rfl rfl
theorem gX2_link_X2_tellGoing : GoodIn wsX2_link (wsV RX2 55 RX2 yX2_tellGoing wsX2_tellGoing) := goodIn_app (ggh_of [726, 728, 12, 66] rfl rfl rfl) ggX2_link_X2_tellGoing
theorem ggX2_fewest_X2_onwardFrom : GoodIn wsX2_fewest wsX2_onwardFrom := gga_of 761 rfl rfl rfl
theorem gX2_fewest_X2_onwardFrom : GoodIn wsX2_fewest (wsV RX2 66 RX2 yX2_onwardFrom wsX2_onwardFrom) := goodIn_app (ggh_of [758, 760, 13, 66] rfl rfl rfl) ggX2_fewest_X2_onwardFrom
theorem ggX2_first_X2_fewest : GoodIn wsX2_first wsX2_fewest := gga_of 757 rfl rfl rfl
theorem gX2_first_X2_fewest : GoodIn wsX2_first (wsV RX2 70 RX2 yX2_fewest wsX2_fewest) := goodIn_app (ggh_of [770, 755, 756, 66] rfl rfl rfl) ggX2_first_X2_fewest
theorem ggX2_first_X2_isGoing : GoodIn wsX2_first wsX2_isGoing := gga_of 774 rfl rfl rfl
theorem gX2_first_X2_isGoing : GoodIn wsX2_first (wsV RX2 74 RX2 yX2_isGoing wsX2_isGoing) := goodIn_app (ggh_of [771, 772, 773, 66] rfl rfl rfl) ggX2_first_X2_isGoing
theorem ggX2_breaks_X2_fewest : GoodIn wsX2_breaks wsX2_fewest := gga_of 757 rfl rfl rfl
theorem gX2_breaks_X2_fewest : GoodIn wsX2_breaks (wsV RX2 70 RX2 yX2_fewest wsX2_fewest) := goodIn_app (ggh_of [770, 755, 756, 66] rfl rfl rfl) ggX2_breaks_X2_fewest
theorem ggX2_join_X8_reachOf : GoodIn wsX2_join wsX8_reachOf := gga_of 636 rfl rfl rfl
theorem gX2_join_X8_reachOf : GoodIn wsX2_join (wsV RX2 37 RX8 yX8_reachOf wsX8_reachOf) := goodIn_app (ggh_of [693, 634, 635, 64] rfl rfl rfl) ggX2_join_X8_reachOf
theorem ggX2_join_X2_tellGoing : GoodIn wsX2_join wsX2_tellGoing := gga_of 729 rfl rfl rfl
theorem gX2_join_X2_tellGoing : GoodIn wsX2_join (wsV RX2 55 RX2 yX2_tellGoing wsX2_tellGoing) := goodIn_app (ggh_of [726, 728, 12, 66] rfl rfl rfl) ggX2_join_X2_tellGoing
theorem ggX2_bestCell_X2_link : GoodIn wsX2_bestCell wsX2_link := gga_of 724 rfl rfl rfl
theorem gX2_bestCell_X2_link : GoodIn wsX2_bestCell (wsV RX2 81 RX2 yX2_link wsX2_link) := goodIn_app (ggh_of [795, 722, 723, 66] rfl rfl rfl) ggX2_bestCell_X2_link
theorem ggX2_bestCell_X2_fewest : GoodIn wsX2_bestCell wsX2_fewest := gga_of 757 rfl rfl rfl
theorem gX2_bestCell_X2_fewest : GoodIn wsX2_bestCell (wsV RX2 70 RX2 yX2_fewest wsX2_fewest) := goodIn_app (ggh_of [770, 755, 756, 66] rfl rfl rfl) ggX2_bestCell_X2_fewest
theorem ggX2_bestCell_X8_isTaken : GoodIn wsX2_bestCell wsX8_isTaken := gga_of 553 rfl rfl rfl
theorem gX2_bestCell_X8_isTaken : GoodIn wsX2_bestCell (wsV RX2 84 RX8 yX8_isTaken wsX8_isTaken) := goodIn_app (ggh_of [796, 551, 552, 64] rfl rfl rfl) ggX2_bestCell_X8_isTaken
theorem ggX2_bestCell_X2_join : GoodIn wsX2_bestCell wsX2_join := gga_of 800 rfl rfl rfl
theorem gX2_bestCell_X2_join : GoodIn wsX2_bestCell (wsV RX2 87 RX2 yX2_join wsX2_join) := goodIn_app (ggh_of [797, 798, 799, 66] rfl rfl rfl) ggX2_bestCell_X2_join
noncomputable def dk15bgoings_cX2_measure_0 : List (Nat × List Nat) := [(0, [3]), (1, [62]), (2, [29]), (3, [43]), (4, [180, 0, 27]), (7, [162, 0, 26]), (10, [42]), (11, [180, 0, 9]), (14, [29]), (15, [43]), (16, [43]), (17, [180, 0, 33]), (20, [29]), (21, [50]), (22, [28]), (23, [182, 0, 37]), (26, [79]), (27, [132, 3, 1]), (30, [167, 255, 228]), (33, [177])]
set_option maxRecDepth 100000 in
theorem dk15bgoings_cX2_measure_0_a : btA cX2_measure dk15bgoings_cX2_measure_0 = true := by decide +kernel
theorem dX2_measure_0 : decode cX2_measure 0 = .ok (.iconst 0, 1) := bd3 (btAt dk15bgoings_cX2_measure_0_a 0 rfl)
theorem dX2_measure_1 : decode cX2_measure 1 = .ok (.istore_n 3, 1) := bd62 (btAt dk15bgoings_cX2_measure_0_a 1 rfl)
theorem dX2_measure_2 : decode cX2_measure 2 = .ok (.iload_n 3, 1) := bd29 (btAt dk15bgoings_cX2_measure_0_a 2 rfl)
theorem dX2_measure_3 : decode cX2_measure 3 = .ok (.aload_n 1, 1) := bd43 (btAt dk15bgoings_cX2_measure_0_a 3 rfl)
theorem dX2_measure_4 : decode cX2_measure 4 = .ok (.getfield 27, 3) := bd180 (a := 0) (b := 27) (btAt dk15bgoings_cX2_measure_0_a 4 rfl)
theorem dX2_measure_7 : decode cX2_measure 7 = .ok (.if_icmp .ge 26, 3) := bd162 (a := 0) (b := 26) (btAt dk15bgoings_cX2_measure_0_a 5 rfl)
theorem dX2_measure_10 : decode cX2_measure 10 = .ok (.aload_n 0, 1) := bd42 (btAt dk15bgoings_cX2_measure_0_a 6 rfl)
theorem dX2_measure_11 : decode cX2_measure 11 = .ok (.getfield 9, 3) := bd180 (a := 0) (b := 9) (btAt dk15bgoings_cX2_measure_0_a 7 rfl)
theorem dX2_measure_14 : decode cX2_measure 14 = .ok (.iload_n 3, 1) := bd29 (btAt dk15bgoings_cX2_measure_0_a 8 rfl)
theorem dX2_measure_15 : decode cX2_measure 15 = .ok (.aload_n 1, 1) := bd43 (btAt dk15bgoings_cX2_measure_0_a 9 rfl)
theorem dX2_measure_16 : decode cX2_measure 16 = .ok (.aload_n 1, 1) := bd43 (btAt dk15bgoings_cX2_measure_0_a 10 rfl)
theorem dX2_measure_17 : decode cX2_measure 17 = .ok (.getfield 33, 3) := bd180 (a := 0) (b := 33) (btAt dk15bgoings_cX2_measure_0_a 11 rfl)
theorem dX2_measure_20 : decode cX2_measure 20 = .ok (.iload_n 3, 1) := bd29 (btAt dk15bgoings_cX2_measure_0_a 12 rfl)
theorem dX2_measure_21 : decode cX2_measure 21 = .ok (.aaload, 1) := bd50 (btAt dk15bgoings_cX2_measure_0_a 13 rfl)
theorem dX2_measure_22 : decode cX2_measure 22 = .ok (.iload_n 2, 1) := bd28 (btAt dk15bgoings_cX2_measure_0_a 14 rfl)
theorem dX2_measure_23 : decode cX2_measure 23 = .ok (.invokevirtual 37, 3) := bd182 (a := 0) (b := 37) (btAt dk15bgoings_cX2_measure_0_a 15 rfl)
theorem dX2_measure_26 : decode cX2_measure 26 = .ok (.iastore, 1) := bd79 (btAt dk15bgoings_cX2_measure_0_a 16 rfl)
theorem dX2_measure_27 : decode cX2_measure 27 = .ok (.iinc 3 1, 3) := bd132 (a := 3) (b := 1) (btAt dk15bgoings_cX2_measure_0_a 17 rfl)
theorem dX2_measure_30 : decode cX2_measure 30 = .ok (.goto (-28), 3) := bd167 (a := 255) (b := 228) (btAt dk15bgoings_cX2_measure_0_a 18 rfl)
theorem dX2_measure_33 : decode cX2_measure 33 = .ok (.return_, 1) := bd177 (btAt dk15bgoings_cX2_measure_0_a 19 rfl)
noncomputable def dk15bgoings_cX2_seenFrom_0 : List (Nat × List Nat) := [(0, [3]), (1, [62]), (2, [3]), (3, [54, 4]), (5, [21, 4]), (7, [43]), (8, [180, 0, 27]), (11, [162, 0, 40]), (14, [28]), (15, [43]), (16, [180, 0, 33]), (19, [21, 4]), (21, [50]), (22, [180, 0, 41]), (25, [184, 0, 44]), (28, [42]), (29, [180, 0, 9]), (32, [21, 4]), (34, [46]), (35, [163, 0, 10]), (38, [29]), (39, [4]), (40, [21, 4]), (42, [120]), (43, [128]), (44, [62]), (45, [132, 4, 1]), (48, [167, 255, 213]), (51, [29]), (52, [172])]
set_option maxRecDepth 100000 in
theorem dk15bgoings_cX2_seenFrom_0_a : btA cX2_seenFrom dk15bgoings_cX2_seenFrom_0 = true := by decide +kernel
theorem dX2_seenFrom_0 : decode cX2_seenFrom 0 = .ok (.iconst 0, 1) := bd3 (btAt dk15bgoings_cX2_seenFrom_0_a 0 rfl)
theorem dX2_seenFrom_1 : decode cX2_seenFrom 1 = .ok (.istore_n 3, 1) := bd62 (btAt dk15bgoings_cX2_seenFrom_0_a 1 rfl)
theorem dX2_seenFrom_2 : decode cX2_seenFrom 2 = .ok (.iconst 0, 1) := bd3 (btAt dk15bgoings_cX2_seenFrom_0_a 2 rfl)
theorem dX2_seenFrom_3 : decode cX2_seenFrom 3 = .ok (.istore 4, 2) := bd54 (a := 4) (btAt dk15bgoings_cX2_seenFrom_0_a 3 rfl)
theorem dX2_seenFrom_5 : decode cX2_seenFrom 5 = .ok (.iload 4, 2) := bd21 (a := 4) (btAt dk15bgoings_cX2_seenFrom_0_a 4 rfl)
theorem dX2_seenFrom_7 : decode cX2_seenFrom 7 = .ok (.aload_n 1, 1) := bd43 (btAt dk15bgoings_cX2_seenFrom_0_a 5 rfl)
theorem dX2_seenFrom_8 : decode cX2_seenFrom 8 = .ok (.getfield 27, 3) := bd180 (a := 0) (b := 27) (btAt dk15bgoings_cX2_seenFrom_0_a 6 rfl)
theorem dX2_seenFrom_11 : decode cX2_seenFrom 11 = .ok (.if_icmp .ge 40, 3) := bd162 (a := 0) (b := 40) (btAt dk15bgoings_cX2_seenFrom_0_a 7 rfl)
theorem dX2_seenFrom_14 : decode cX2_seenFrom 14 = .ok (.iload_n 2, 1) := bd28 (btAt dk15bgoings_cX2_seenFrom_0_a 8 rfl)
theorem dX2_seenFrom_15 : decode cX2_seenFrom 15 = .ok (.aload_n 1, 1) := bd43 (btAt dk15bgoings_cX2_seenFrom_0_a 9 rfl)
theorem dX2_seenFrom_16 : decode cX2_seenFrom 16 = .ok (.getfield 33, 3) := bd180 (a := 0) (b := 33) (btAt dk15bgoings_cX2_seenFrom_0_a 10 rfl)
theorem dX2_seenFrom_19 : decode cX2_seenFrom 19 = .ok (.iload 4, 2) := bd21 (a := 4) (btAt dk15bgoings_cX2_seenFrom_0_a 11 rfl)
theorem dX2_seenFrom_21 : decode cX2_seenFrom 21 = .ok (.aaload, 1) := bd50 (btAt dk15bgoings_cX2_seenFrom_0_a 12 rfl)
theorem dX2_seenFrom_22 : decode cX2_seenFrom 22 = .ok (.getfield 41, 3) := bd180 (a := 0) (b := 41) (btAt dk15bgoings_cX2_seenFrom_0_a 13 rfl)
theorem dX2_seenFrom_25 : decode cX2_seenFrom 25 = .ok (.invokestatic 44, 3) := bd184 (a := 0) (b := 44) (btAt dk15bgoings_cX2_seenFrom_0_a 14 rfl)
theorem dX2_seenFrom_28 : decode cX2_seenFrom 28 = .ok (.aload_n 0, 1) := bd42 (btAt dk15bgoings_cX2_seenFrom_0_a 15 rfl)
theorem dX2_seenFrom_29 : decode cX2_seenFrom 29 = .ok (.getfield 9, 3) := bd180 (a := 0) (b := 9) (btAt dk15bgoings_cX2_seenFrom_0_a 16 rfl)
theorem dX2_seenFrom_32 : decode cX2_seenFrom 32 = .ok (.iload 4, 2) := bd21 (a := 4) (btAt dk15bgoings_cX2_seenFrom_0_a 17 rfl)
theorem dX2_seenFrom_34 : decode cX2_seenFrom 34 = .ok (.iaload, 1) := bd46 (btAt dk15bgoings_cX2_seenFrom_0_a 18 rfl)
theorem dX2_seenFrom_35 : decode cX2_seenFrom 35 = .ok (.if_icmp .gt 10, 3) := bd163 (a := 0) (b := 10) (btAt dk15bgoings_cX2_seenFrom_0_a 19 rfl)
theorem dX2_seenFrom_38 : decode cX2_seenFrom 38 = .ok (.iload_n 3, 1) := bd29 (btAt dk15bgoings_cX2_seenFrom_0_a 20 rfl)
theorem dX2_seenFrom_39 : decode cX2_seenFrom 39 = .ok (.iconst 1, 1) := bd4 (btAt dk15bgoings_cX2_seenFrom_0_a 21 rfl)
theorem dX2_seenFrom_40 : decode cX2_seenFrom 40 = .ok (.iload 4, 2) := bd21 (a := 4) (btAt dk15bgoings_cX2_seenFrom_0_a 22 rfl)
theorem dX2_seenFrom_42 : decode cX2_seenFrom 42 = .ok (.ishl, 1) := bd120 (btAt dk15bgoings_cX2_seenFrom_0_a 23 rfl)
theorem dX2_seenFrom_43 : decode cX2_seenFrom 43 = .ok (.ior, 1) := bd128 (btAt dk15bgoings_cX2_seenFrom_0_a 24 rfl)
theorem dX2_seenFrom_44 : decode cX2_seenFrom 44 = .ok (.istore_n 3, 1) := bd62 (btAt dk15bgoings_cX2_seenFrom_0_a 25 rfl)
theorem dX2_seenFrom_45 : decode cX2_seenFrom 45 = .ok (.iinc 4 1, 3) := bd132 (a := 4) (b := 1) (btAt dk15bgoings_cX2_seenFrom_0_a 26 rfl)
theorem dX2_seenFrom_48 : decode cX2_seenFrom 48 = .ok (.goto (-43), 3) := bd167 (a := 255) (b := 213) (btAt dk15bgoings_cX2_seenFrom_0_a 27 rfl)
theorem dX2_seenFrom_51 : decode cX2_seenFrom 51 = .ok (.iload_n 3, 1) := bd29 (btAt dk15bgoings_cX2_seenFrom_0_a 28 rfl)
theorem dX2_seenFrom_52 : decode cX2_seenFrom 52 = .ok (.ireturn, 1) := bd172 (btAt dk15bgoings_cX2_seenFrom_0_a 29 rfl)
noncomputable def dk15bgoings_cX2_tellGoing_0 : List (Nat × List Nat) := [(0, [43]), (1, [180, 0, 59]), (4, [44]), (5, [180, 0, 59]), (8, [159, 0, 41]), (11, [43]), (12, [180, 0, 41]), (15, [44]), (16, [180, 0, 41]), (19, [184, 0, 44]), (22, [42]), (23, [180, 0, 9]), (26, [44]), (27, [180, 0, 59]), (30, [46]), (31, [163, 0, 18]), (49, [3]), (50, [62]), (51, [4]), (52, [44]), (53, [180, 0, 59]), (56, [120]), (57, [54, 4]), (59, [42]), (60, [180, 0, 15]), (63, [43]), (64, [180, 0, 59]), (67, [29]), (68, [153, 0, 18]), (86, [42]), (87, [180, 0, 15]), (90, [43]), (91, [180, 0, 59]), (94, [46]), (95, [21, 4]), (97, [2]), (98, [130]), (99, [126]), (100, [79]), (101, [177])]
set_option maxRecDepth 100000 in
theorem dk15bgoings_cX2_tellGoing_0_a : btA cX2_tellGoing dk15bgoings_cX2_tellGoing_0 = true := by decide +kernel
theorem dX2_tellGoing_0 : decode cX2_tellGoing 0 = .ok (.aload_n 1, 1) := bd43 (btAt dk15bgoings_cX2_tellGoing_0_a 0 rfl)
theorem dX2_tellGoing_1 : decode cX2_tellGoing 1 = .ok (.getfield 59, 3) := bd180 (a := 0) (b := 59) (btAt dk15bgoings_cX2_tellGoing_0_a 1 rfl)
theorem dX2_tellGoing_4 : decode cX2_tellGoing 4 = .ok (.aload_n 2, 1) := bd44 (btAt dk15bgoings_cX2_tellGoing_0_a 2 rfl)
theorem dX2_tellGoing_5 : decode cX2_tellGoing 5 = .ok (.getfield 59, 3) := bd180 (a := 0) (b := 59) (btAt dk15bgoings_cX2_tellGoing_0_a 3 rfl)
theorem dX2_tellGoing_8 : decode cX2_tellGoing 8 = .ok (.if_icmp .eq 41, 3) := bd159 (a := 0) (b := 41) (btAt dk15bgoings_cX2_tellGoing_0_a 4 rfl)
theorem dX2_tellGoing_11 : decode cX2_tellGoing 11 = .ok (.aload_n 1, 1) := bd43 (btAt dk15bgoings_cX2_tellGoing_0_a 5 rfl)
theorem dX2_tellGoing_12 : decode cX2_tellGoing 12 = .ok (.getfield 41, 3) := bd180 (a := 0) (b := 41) (btAt dk15bgoings_cX2_tellGoing_0_a 6 rfl)
theorem dX2_tellGoing_15 : decode cX2_tellGoing 15 = .ok (.aload_n 2, 1) := bd44 (btAt dk15bgoings_cX2_tellGoing_0_a 7 rfl)
theorem dX2_tellGoing_16 : decode cX2_tellGoing 16 = .ok (.getfield 41, 3) := bd180 (a := 0) (b := 41) (btAt dk15bgoings_cX2_tellGoing_0_a 8 rfl)
theorem dX2_tellGoing_19 : decode cX2_tellGoing 19 = .ok (.invokestatic 44, 3) := bd184 (a := 0) (b := 44) (btAt dk15bgoings_cX2_tellGoing_0_a 9 rfl)
theorem dX2_tellGoing_22 : decode cX2_tellGoing 22 = .ok (.aload_n 0, 1) := bd42 (btAt dk15bgoings_cX2_tellGoing_0_a 10 rfl)
theorem dX2_tellGoing_23 : decode cX2_tellGoing 23 = .ok (.getfield 9, 3) := bd180 (a := 0) (b := 9) (btAt dk15bgoings_cX2_tellGoing_0_a 11 rfl)
theorem dX2_tellGoing_26 : decode cX2_tellGoing 26 = .ok (.aload_n 2, 1) := bd44 (btAt dk15bgoings_cX2_tellGoing_0_a 12 rfl)
theorem dX2_tellGoing_27 : decode cX2_tellGoing 27 = .ok (.getfield 59, 3) := bd180 (a := 0) (b := 59) (btAt dk15bgoings_cX2_tellGoing_0_a 13 rfl)
theorem dX2_tellGoing_30 : decode cX2_tellGoing 30 = .ok (.iaload, 1) := bd46 (btAt dk15bgoings_cX2_tellGoing_0_a 14 rfl)
theorem dX2_tellGoing_31 : decode cX2_tellGoing 31 = .ok (.if_icmp .gt 18, 3) := bd163 (a := 0) (b := 18) (btAt dk15bgoings_cX2_tellGoing_0_a 15 rfl)
theorem dX2_tellGoing_49 : decode cX2_tellGoing 49 = .ok (.iconst 0, 1) := bd3 (btAt dk15bgoings_cX2_tellGoing_0_a 16 rfl)
theorem dX2_tellGoing_50 : decode cX2_tellGoing 50 = .ok (.istore_n 3, 1) := bd62 (btAt dk15bgoings_cX2_tellGoing_0_a 17 rfl)
theorem dX2_tellGoing_51 : decode cX2_tellGoing 51 = .ok (.iconst 1, 1) := bd4 (btAt dk15bgoings_cX2_tellGoing_0_a 18 rfl)
theorem dX2_tellGoing_52 : decode cX2_tellGoing 52 = .ok (.aload_n 2, 1) := bd44 (btAt dk15bgoings_cX2_tellGoing_0_a 19 rfl)
theorem dX2_tellGoing_53 : decode cX2_tellGoing 53 = .ok (.getfield 59, 3) := bd180 (a := 0) (b := 59) (btAt dk15bgoings_cX2_tellGoing_0_a 20 rfl)
theorem dX2_tellGoing_56 : decode cX2_tellGoing 56 = .ok (.ishl, 1) := bd120 (btAt dk15bgoings_cX2_tellGoing_0_a 21 rfl)
theorem dX2_tellGoing_57 : decode cX2_tellGoing 57 = .ok (.istore 4, 2) := bd54 (a := 4) (btAt dk15bgoings_cX2_tellGoing_0_a 22 rfl)
theorem dX2_tellGoing_59 : decode cX2_tellGoing 59 = .ok (.aload_n 0, 1) := bd42 (btAt dk15bgoings_cX2_tellGoing_0_a 23 rfl)
theorem dX2_tellGoing_60 : decode cX2_tellGoing 60 = .ok (.getfield 15, 3) := bd180 (a := 0) (b := 15) (btAt dk15bgoings_cX2_tellGoing_0_a 24 rfl)
theorem dX2_tellGoing_63 : decode cX2_tellGoing 63 = .ok (.aload_n 1, 1) := bd43 (btAt dk15bgoings_cX2_tellGoing_0_a 25 rfl)
theorem dX2_tellGoing_64 : decode cX2_tellGoing 64 = .ok (.getfield 59, 3) := bd180 (a := 0) (b := 59) (btAt dk15bgoings_cX2_tellGoing_0_a 26 rfl)
theorem dX2_tellGoing_67 : decode cX2_tellGoing 67 = .ok (.iload_n 3, 1) := bd29 (btAt dk15bgoings_cX2_tellGoing_0_a 27 rfl)
theorem dX2_tellGoing_68 : decode cX2_tellGoing 68 = .ok (.ifCond .eq 18, 3) := bd153 (a := 0) (b := 18) (btAt dk15bgoings_cX2_tellGoing_0_a 28 rfl)
theorem dX2_tellGoing_86 : decode cX2_tellGoing 86 = .ok (.aload_n 0, 1) := bd42 (btAt dk15bgoings_cX2_tellGoing_0_a 29 rfl)
theorem dX2_tellGoing_87 : decode cX2_tellGoing 87 = .ok (.getfield 15, 3) := bd180 (a := 0) (b := 15) (btAt dk15bgoings_cX2_tellGoing_0_a 30 rfl)
theorem dX2_tellGoing_90 : decode cX2_tellGoing 90 = .ok (.aload_n 1, 1) := bd43 (btAt dk15bgoings_cX2_tellGoing_0_a 31 rfl)
theorem dX2_tellGoing_91 : decode cX2_tellGoing 91 = .ok (.getfield 59, 3) := bd180 (a := 0) (b := 59) (btAt dk15bgoings_cX2_tellGoing_0_a 32 rfl)
theorem dX2_tellGoing_94 : decode cX2_tellGoing 94 = .ok (.iaload, 1) := bd46 (btAt dk15bgoings_cX2_tellGoing_0_a 33 rfl)
theorem dX2_tellGoing_95 : decode cX2_tellGoing 95 = .ok (.iload 4, 2) := bd21 (a := 4) (btAt dk15bgoings_cX2_tellGoing_0_a 34 rfl)
theorem dX2_tellGoing_97 : decode cX2_tellGoing 97 = .ok (.iconst (-1), 1) := bd2 (btAt dk15bgoings_cX2_tellGoing_0_a 35 rfl)
theorem dX2_tellGoing_98 : decode cX2_tellGoing 98 = .ok (.ixor, 1) := bd130 (btAt dk15bgoings_cX2_tellGoing_0_a 36 rfl)
theorem dX2_tellGoing_99 : decode cX2_tellGoing 99 = .ok (.iand, 1) := bd126 (btAt dk15bgoings_cX2_tellGoing_0_a 37 rfl)
theorem dX2_tellGoing_100 : decode cX2_tellGoing 100 = .ok (.iastore, 1) := bd79 (btAt dk15bgoings_cX2_tellGoing_0_a 38 rfl)
theorem dX2_tellGoing_101 : decode cX2_tellGoing 101 = .ok (.return_, 1) := bd177 (btAt dk15bgoings_cX2_tellGoing_0_a 39 rfl)
noncomputable def dk15bgoings_cX2_tellGoing_40 : List (Nat × List Nat) := [(34, [43]), (35, [44]), (36, [180, 0, 41]), (39, [182, 0, 62]), (42, [153, 0, 7]), (45, [4]), (46, [167, 0, 4]), (71, [42]), (72, [180, 0, 15]), (75, [43]), (76, [180, 0, 59]), (79, [46]), (80, [21, 4]), (82, [128]), (83, [167, 0, 17])]
set_option maxRecDepth 100000 in
theorem dk15bgoings_cX2_tellGoing_40_a : btA cX2_tellGoing dk15bgoings_cX2_tellGoing_40 = true := by decide +kernel
theorem dX2_tellGoing_34 : decode cX2_tellGoing 34 = .ok (.aload_n 1, 1) := bd43 (btAt dk15bgoings_cX2_tellGoing_40_a 0 rfl)
theorem dX2_tellGoing_35 : decode cX2_tellGoing 35 = .ok (.aload_n 2, 1) := bd44 (btAt dk15bgoings_cX2_tellGoing_40_a 1 rfl)
theorem dX2_tellGoing_36 : decode cX2_tellGoing 36 = .ok (.getfield 41, 3) := bd180 (a := 0) (b := 41) (btAt dk15bgoings_cX2_tellGoing_40_a 2 rfl)
theorem dX2_tellGoing_39 : decode cX2_tellGoing 39 = .ok (.invokevirtual 62, 3) := bd182 (a := 0) (b := 62) (btAt dk15bgoings_cX2_tellGoing_40_a 3 rfl)
theorem dX2_tellGoing_42 : decode cX2_tellGoing 42 = .ok (.ifCond .eq 7, 3) := bd153 (a := 0) (b := 7) (btAt dk15bgoings_cX2_tellGoing_40_a 4 rfl)
theorem dX2_tellGoing_45 : decode cX2_tellGoing 45 = .ok (.iconst 1, 1) := bd4 (btAt dk15bgoings_cX2_tellGoing_40_a 5 rfl)
theorem dX2_tellGoing_46 : decode cX2_tellGoing 46 = .ok (.goto 4, 3) := bd167 (a := 0) (b := 4) (btAt dk15bgoings_cX2_tellGoing_40_a 6 rfl)
theorem dX2_tellGoing_71 : decode cX2_tellGoing 71 = .ok (.aload_n 0, 1) := bd42 (btAt dk15bgoings_cX2_tellGoing_40_a 7 rfl)
theorem dX2_tellGoing_72 : decode cX2_tellGoing 72 = .ok (.getfield 15, 3) := bd180 (a := 0) (b := 15) (btAt dk15bgoings_cX2_tellGoing_40_a 8 rfl)
theorem dX2_tellGoing_75 : decode cX2_tellGoing 75 = .ok (.aload_n 1, 1) := bd43 (btAt dk15bgoings_cX2_tellGoing_40_a 9 rfl)
theorem dX2_tellGoing_76 : decode cX2_tellGoing 76 = .ok (.getfield 59, 3) := bd180 (a := 0) (b := 59) (btAt dk15bgoings_cX2_tellGoing_40_a 10 rfl)
theorem dX2_tellGoing_79 : decode cX2_tellGoing 79 = .ok (.iaload, 1) := bd46 (btAt dk15bgoings_cX2_tellGoing_40_a 11 rfl)
theorem dX2_tellGoing_80 : decode cX2_tellGoing 80 = .ok (.iload 4, 2) := bd21 (a := 4) (btAt dk15bgoings_cX2_tellGoing_40_a 12 rfl)
theorem dX2_tellGoing_82 : decode cX2_tellGoing 82 = .ok (.ior, 1) := bd128 (btAt dk15bgoings_cX2_tellGoing_40_a 13 rfl)
theorem dX2_tellGoing_83 : decode cX2_tellGoing 83 = .ok (.goto 17, 3) := bd167 (a := 0) (b := 17) (btAt dk15bgoings_cX2_tellGoing_40_a 14 rfl)
noncomputable def dk15bgoings_cX2_link_0 : List (Nat × List Nat) := [(0, [42]), (1, [43]), (2, [28]), (3, [182, 0, 48]), (6, [42]), (7, [43]), (8, [180, 0, 27]), (11, [181, 0, 52]), (14, [3]), (15, [62]), (16, [29]), (17, [42]), (18, [180, 0, 52]), (21, [162, 0, 51]), (24, [42]), (25, [180, 0, 15]), (28, [29]), (29, [3]), (30, [79]), (31, [3]), (32, [54, 4]), (34, [21, 4]), (36, [42]), (37, [180, 0, 52]), (40, [162, 0, 26]), (43, [42]), (44, [43]), (45, [180, 0, 33]), (48, [29]), (49, [50]), (50, [43]), (51, [180, 0, 33]), (54, [21, 4]), (56, [50]), (57, [182, 0, 55]), (60, [132, 4, 1]), (63, [167, 255, 227]), (66, [132, 3, 1]), (69, [167, 255, 203]), (72, [177])]
set_option maxRecDepth 100000 in
theorem dk15bgoings_cX2_link_0_a : btA cX2_link dk15bgoings_cX2_link_0 = true := by decide +kernel
theorem dX2_link_0 : decode cX2_link 0 = .ok (.aload_n 0, 1) := bd42 (btAt dk15bgoings_cX2_link_0_a 0 rfl)
theorem dX2_link_1 : decode cX2_link 1 = .ok (.aload_n 1, 1) := bd43 (btAt dk15bgoings_cX2_link_0_a 1 rfl)
theorem dX2_link_2 : decode cX2_link 2 = .ok (.iload_n 2, 1) := bd28 (btAt dk15bgoings_cX2_link_0_a 2 rfl)
theorem dX2_link_3 : decode cX2_link 3 = .ok (.invokevirtual 48, 3) := bd182 (a := 0) (b := 48) (btAt dk15bgoings_cX2_link_0_a 3 rfl)
theorem dX2_link_6 : decode cX2_link 6 = .ok (.aload_n 0, 1) := bd42 (btAt dk15bgoings_cX2_link_0_a 4 rfl)
theorem dX2_link_7 : decode cX2_link 7 = .ok (.aload_n 1, 1) := bd43 (btAt dk15bgoings_cX2_link_0_a 5 rfl)
theorem dX2_link_8 : decode cX2_link 8 = .ok (.getfield 27, 3) := bd180 (a := 0) (b := 27) (btAt dk15bgoings_cX2_link_0_a 6 rfl)
theorem dX2_link_11 : decode cX2_link 11 = .ok (.putfield 52, 3) := bd181 (a := 0) (b := 52) (btAt dk15bgoings_cX2_link_0_a 7 rfl)
theorem dX2_link_14 : decode cX2_link 14 = .ok (.iconst 0, 1) := bd3 (btAt dk15bgoings_cX2_link_0_a 8 rfl)
theorem dX2_link_15 : decode cX2_link 15 = .ok (.istore_n 3, 1) := bd62 (btAt dk15bgoings_cX2_link_0_a 9 rfl)
theorem dX2_link_16 : decode cX2_link 16 = .ok (.iload_n 3, 1) := bd29 (btAt dk15bgoings_cX2_link_0_a 10 rfl)
theorem dX2_link_17 : decode cX2_link 17 = .ok (.aload_n 0, 1) := bd42 (btAt dk15bgoings_cX2_link_0_a 11 rfl)
theorem dX2_link_18 : decode cX2_link 18 = .ok (.getfield 52, 3) := bd180 (a := 0) (b := 52) (btAt dk15bgoings_cX2_link_0_a 12 rfl)
theorem dX2_link_21 : decode cX2_link 21 = .ok (.if_icmp .ge 51, 3) := bd162 (a := 0) (b := 51) (btAt dk15bgoings_cX2_link_0_a 13 rfl)
theorem dX2_link_24 : decode cX2_link 24 = .ok (.aload_n 0, 1) := bd42 (btAt dk15bgoings_cX2_link_0_a 14 rfl)
theorem dX2_link_25 : decode cX2_link 25 = .ok (.getfield 15, 3) := bd180 (a := 0) (b := 15) (btAt dk15bgoings_cX2_link_0_a 15 rfl)
theorem dX2_link_28 : decode cX2_link 28 = .ok (.iload_n 3, 1) := bd29 (btAt dk15bgoings_cX2_link_0_a 16 rfl)
theorem dX2_link_29 : decode cX2_link 29 = .ok (.iconst 0, 1) := bd3 (btAt dk15bgoings_cX2_link_0_a 17 rfl)
theorem dX2_link_30 : decode cX2_link 30 = .ok (.iastore, 1) := bd79 (btAt dk15bgoings_cX2_link_0_a 18 rfl)
theorem dX2_link_31 : decode cX2_link 31 = .ok (.iconst 0, 1) := bd3 (btAt dk15bgoings_cX2_link_0_a 19 rfl)
theorem dX2_link_32 : decode cX2_link 32 = .ok (.istore 4, 2) := bd54 (a := 4) (btAt dk15bgoings_cX2_link_0_a 20 rfl)
theorem dX2_link_34 : decode cX2_link 34 = .ok (.iload 4, 2) := bd21 (a := 4) (btAt dk15bgoings_cX2_link_0_a 21 rfl)
theorem dX2_link_36 : decode cX2_link 36 = .ok (.aload_n 0, 1) := bd42 (btAt dk15bgoings_cX2_link_0_a 22 rfl)
theorem dX2_link_37 : decode cX2_link 37 = .ok (.getfield 52, 3) := bd180 (a := 0) (b := 52) (btAt dk15bgoings_cX2_link_0_a 23 rfl)
theorem dX2_link_40 : decode cX2_link 40 = .ok (.if_icmp .ge 26, 3) := bd162 (a := 0) (b := 26) (btAt dk15bgoings_cX2_link_0_a 24 rfl)
theorem dX2_link_43 : decode cX2_link 43 = .ok (.aload_n 0, 1) := bd42 (btAt dk15bgoings_cX2_link_0_a 25 rfl)
theorem dX2_link_44 : decode cX2_link 44 = .ok (.aload_n 1, 1) := bd43 (btAt dk15bgoings_cX2_link_0_a 26 rfl)
theorem dX2_link_45 : decode cX2_link 45 = .ok (.getfield 33, 3) := bd180 (a := 0) (b := 33) (btAt dk15bgoings_cX2_link_0_a 27 rfl)
theorem dX2_link_48 : decode cX2_link 48 = .ok (.iload_n 3, 1) := bd29 (btAt dk15bgoings_cX2_link_0_a 28 rfl)
theorem dX2_link_49 : decode cX2_link 49 = .ok (.aaload, 1) := bd50 (btAt dk15bgoings_cX2_link_0_a 29 rfl)
theorem dX2_link_50 : decode cX2_link 50 = .ok (.aload_n 1, 1) := bd43 (btAt dk15bgoings_cX2_link_0_a 30 rfl)
theorem dX2_link_51 : decode cX2_link 51 = .ok (.getfield 33, 3) := bd180 (a := 0) (b := 33) (btAt dk15bgoings_cX2_link_0_a 31 rfl)
theorem dX2_link_54 : decode cX2_link 54 = .ok (.iload 4, 2) := bd21 (a := 4) (btAt dk15bgoings_cX2_link_0_a 32 rfl)
theorem dX2_link_56 : decode cX2_link 56 = .ok (.aaload, 1) := bd50 (btAt dk15bgoings_cX2_link_0_a 33 rfl)
theorem dX2_link_57 : decode cX2_link 57 = .ok (.invokevirtual 55, 3) := bd182 (a := 0) (b := 55) (btAt dk15bgoings_cX2_link_0_a 34 rfl)
theorem dX2_link_60 : decode cX2_link 60 = .ok (.iinc 4 1, 3) := bd132 (a := 4) (b := 1) (btAt dk15bgoings_cX2_link_0_a 35 rfl)
theorem dX2_link_63 : decode cX2_link 63 = .ok (.goto (-29), 3) := bd167 (a := 255) (b := 227) (btAt dk15bgoings_cX2_link_0_a 36 rfl)
theorem dX2_link_66 : decode cX2_link 66 = .ok (.iinc 3 1, 3) := bd132 (a := 3) (b := 1) (btAt dk15bgoings_cX2_link_0_a 37 rfl)
theorem dX2_link_69 : decode cX2_link 69 = .ok (.goto (-53), 3) := bd167 (a := 255) (b := 203) (btAt dk15bgoings_cX2_link_0_a 38 rfl)
theorem dX2_link_72 : decode cX2_link 72 = .ok (.return_, 1) := bd177 (btAt dk15bgoings_cX2_link_0_a 39 rfl)
noncomputable def dk15bgoings_cX2_isGoing_0 : List (Nat × List Nat) := [(0, [42]), (1, [180, 0, 15]), (4, [27]), (5, [46]), (6, [28]), (7, [122]), (8, [4]), (9, [126]), (10, [4]), (11, [160, 0, 7]), (14, [4]), (15, [167, 0, 4]), (18, [3]), (19, [172])]
set_option maxRecDepth 100000 in
theorem dk15bgoings_cX2_isGoing_0_a : btA cX2_isGoing dk15bgoings_cX2_isGoing_0 = true := by decide +kernel
theorem dX2_isGoing_0 : decode cX2_isGoing 0 = .ok (.aload_n 0, 1) := bd42 (btAt dk15bgoings_cX2_isGoing_0_a 0 rfl)
theorem dX2_isGoing_1 : decode cX2_isGoing 1 = .ok (.getfield 15, 3) := bd180 (a := 0) (b := 15) (btAt dk15bgoings_cX2_isGoing_0_a 1 rfl)
theorem dX2_isGoing_4 : decode cX2_isGoing 4 = .ok (.iload_n 1, 1) := bd27 (btAt dk15bgoings_cX2_isGoing_0_a 2 rfl)
theorem dX2_isGoing_5 : decode cX2_isGoing 5 = .ok (.iaload, 1) := bd46 (btAt dk15bgoings_cX2_isGoing_0_a 3 rfl)
theorem dX2_isGoing_6 : decode cX2_isGoing 6 = .ok (.iload_n 2, 1) := bd28 (btAt dk15bgoings_cX2_isGoing_0_a 4 rfl)
theorem dX2_isGoing_7 : decode cX2_isGoing 7 = .ok (.ishr, 1) := bd122 (btAt dk15bgoings_cX2_isGoing_0_a 5 rfl)
theorem dX2_isGoing_8 : decode cX2_isGoing 8 = .ok (.iconst 1, 1) := bd4 (btAt dk15bgoings_cX2_isGoing_0_a 6 rfl)
theorem dX2_isGoing_9 : decode cX2_isGoing 9 = .ok (.iand, 1) := bd126 (btAt dk15bgoings_cX2_isGoing_0_a 7 rfl)
theorem dX2_isGoing_10 : decode cX2_isGoing 10 = .ok (.iconst 1, 1) := bd4 (btAt dk15bgoings_cX2_isGoing_0_a 8 rfl)
theorem dX2_isGoing_11 : decode cX2_isGoing 11 = .ok (.if_icmp .ne 7, 3) := bd160 (a := 0) (b := 7) (btAt dk15bgoings_cX2_isGoing_0_a 9 rfl)
theorem dX2_isGoing_14 : decode cX2_isGoing 14 = .ok (.iconst 1, 1) := bd4 (btAt dk15bgoings_cX2_isGoing_0_a 10 rfl)
theorem dX2_isGoing_15 : decode cX2_isGoing 15 = .ok (.goto 4, 3) := bd167 (a := 0) (b := 4) (btAt dk15bgoings_cX2_isGoing_0_a 11 rfl)
theorem dX2_isGoing_18 : decode cX2_isGoing 18 = .ok (.iconst 0, 1) := bd3 (btAt dk15bgoings_cX2_isGoing_0_a 12 rfl)
theorem dX2_isGoing_19 : decode cX2_isGoing 19 = .ok (.ireturn, 1) := bd172 (btAt dk15bgoings_cX2_isGoing_0_a 13 rfl)
noncomputable def dk15bgoings_cX2_onwardFrom_0 : List (Nat × List Nat) := [(0, [3]), (1, [61]), (2, [3]), (3, [62]), (4, [29]), (5, [42]), (6, [180, 0, 52]), (9, [162, 0, 27]), (12, [27]), (13, [29]), (14, [122]), (15, [4]), (16, [126]), (17, [4]), (18, [160, 0, 12]), (21, [28]), (22, [42]), (23, [180, 0, 15]), (26, [29]), (27, [46]), (28, [128]), (29, [61]), (30, [132, 3, 1]), (33, [167, 255, 227]), (36, [28]), (37, [172])]
set_option maxRecDepth 100000 in
theorem dk15bgoings_cX2_onwardFrom_0_a : btA cX2_onwardFrom dk15bgoings_cX2_onwardFrom_0 = true := by decide +kernel
theorem dX2_onwardFrom_0 : decode cX2_onwardFrom 0 = .ok (.iconst 0, 1) := bd3 (btAt dk15bgoings_cX2_onwardFrom_0_a 0 rfl)
theorem dX2_onwardFrom_1 : decode cX2_onwardFrom 1 = .ok (.istore_n 2, 1) := bd61 (btAt dk15bgoings_cX2_onwardFrom_0_a 1 rfl)
theorem dX2_onwardFrom_2 : decode cX2_onwardFrom 2 = .ok (.iconst 0, 1) := bd3 (btAt dk15bgoings_cX2_onwardFrom_0_a 2 rfl)
theorem dX2_onwardFrom_3 : decode cX2_onwardFrom 3 = .ok (.istore_n 3, 1) := bd62 (btAt dk15bgoings_cX2_onwardFrom_0_a 3 rfl)
theorem dX2_onwardFrom_4 : decode cX2_onwardFrom 4 = .ok (.iload_n 3, 1) := bd29 (btAt dk15bgoings_cX2_onwardFrom_0_a 4 rfl)
theorem dX2_onwardFrom_5 : decode cX2_onwardFrom 5 = .ok (.aload_n 0, 1) := bd42 (btAt dk15bgoings_cX2_onwardFrom_0_a 5 rfl)
theorem dX2_onwardFrom_6 : decode cX2_onwardFrom 6 = .ok (.getfield 52, 3) := bd180 (a := 0) (b := 52) (btAt dk15bgoings_cX2_onwardFrom_0_a 6 rfl)
theorem dX2_onwardFrom_9 : decode cX2_onwardFrom 9 = .ok (.if_icmp .ge 27, 3) := bd162 (a := 0) (b := 27) (btAt dk15bgoings_cX2_onwardFrom_0_a 7 rfl)
theorem dX2_onwardFrom_12 : decode cX2_onwardFrom 12 = .ok (.iload_n 1, 1) := bd27 (btAt dk15bgoings_cX2_onwardFrom_0_a 8 rfl)
theorem dX2_onwardFrom_13 : decode cX2_onwardFrom 13 = .ok (.iload_n 3, 1) := bd29 (btAt dk15bgoings_cX2_onwardFrom_0_a 9 rfl)
theorem dX2_onwardFrom_14 : decode cX2_onwardFrom 14 = .ok (.ishr, 1) := bd122 (btAt dk15bgoings_cX2_onwardFrom_0_a 10 rfl)
theorem dX2_onwardFrom_15 : decode cX2_onwardFrom 15 = .ok (.iconst 1, 1) := bd4 (btAt dk15bgoings_cX2_onwardFrom_0_a 11 rfl)
theorem dX2_onwardFrom_16 : decode cX2_onwardFrom 16 = .ok (.iand, 1) := bd126 (btAt dk15bgoings_cX2_onwardFrom_0_a 12 rfl)
theorem dX2_onwardFrom_17 : decode cX2_onwardFrom 17 = .ok (.iconst 1, 1) := bd4 (btAt dk15bgoings_cX2_onwardFrom_0_a 13 rfl)
theorem dX2_onwardFrom_18 : decode cX2_onwardFrom 18 = .ok (.if_icmp .ne 12, 3) := bd160 (a := 0) (b := 12) (btAt dk15bgoings_cX2_onwardFrom_0_a 14 rfl)
theorem dX2_onwardFrom_21 : decode cX2_onwardFrom 21 = .ok (.iload_n 2, 1) := bd28 (btAt dk15bgoings_cX2_onwardFrom_0_a 15 rfl)
theorem dX2_onwardFrom_22 : decode cX2_onwardFrom 22 = .ok (.aload_n 0, 1) := bd42 (btAt dk15bgoings_cX2_onwardFrom_0_a 16 rfl)
theorem dX2_onwardFrom_23 : decode cX2_onwardFrom 23 = .ok (.getfield 15, 3) := bd180 (a := 0) (b := 15) (btAt dk15bgoings_cX2_onwardFrom_0_a 17 rfl)
theorem dX2_onwardFrom_26 : decode cX2_onwardFrom 26 = .ok (.iload_n 3, 1) := bd29 (btAt dk15bgoings_cX2_onwardFrom_0_a 18 rfl)
theorem dX2_onwardFrom_27 : decode cX2_onwardFrom 27 = .ok (.iaload, 1) := bd46 (btAt dk15bgoings_cX2_onwardFrom_0_a 19 rfl)
theorem dX2_onwardFrom_28 : decode cX2_onwardFrom 28 = .ok (.ior, 1) := bd128 (btAt dk15bgoings_cX2_onwardFrom_0_a 20 rfl)
theorem dX2_onwardFrom_29 : decode cX2_onwardFrom 29 = .ok (.istore_n 2, 1) := bd61 (btAt dk15bgoings_cX2_onwardFrom_0_a 21 rfl)
theorem dX2_onwardFrom_30 : decode cX2_onwardFrom 30 = .ok (.iinc 3 1, 3) := bd132 (a := 3) (b := 1) (btAt dk15bgoings_cX2_onwardFrom_0_a 22 rfl)
theorem dX2_onwardFrom_33 : decode cX2_onwardFrom 33 = .ok (.goto (-29), 3) := bd167 (a := 255) (b := 227) (btAt dk15bgoings_cX2_onwardFrom_0_a 23 rfl)
theorem dX2_onwardFrom_36 : decode cX2_onwardFrom 36 = .ok (.iload_n 2, 1) := bd28 (btAt dk15bgoings_cX2_onwardFrom_0_a 24 rfl)
theorem dX2_onwardFrom_37 : decode cX2_onwardFrom 37 = .ok (.ireturn, 1) := bd172 (btAt dk15bgoings_cX2_onwardFrom_0_a 25 rfl)
noncomputable def dk15bgoings_cX2_fewest_0 : List (Nat × List Nat) := [(0, [27]), (1, [28]), (2, [160, 0, 5]), (7, [4]), (8, [27]), (9, [120]), (10, [54, 4]), (12, [21, 4]), (14, [54, 5]), (16, [4]), (17, [54, 6]), (19, [21, 6]), (21, [16, 8]), (23, [162, 0, 49]), (26, [21, 5]), (28, [153, 0, 44]), (31, [42]), (32, [21, 5]), (34, [182, 0, 66]), (37, [21, 4]), (39, [29]), (40, [128]), (41, [2]), (42, [130]), (43, [126]), (44, [54, 5]), (46, [21, 5]), (48, [28]), (49, [122]), (50, [4]), (51, [126]), (52, [4]), (53, [160, 0, 6]), (59, [21, 4]), (61, [21, 5]), (63, [128]), (64, [54, 4]), (66, [132, 6, 1]), (72, [16, 251]), (74, [172])]
set_option maxRecDepth 100000 in
theorem dk15bgoings_cX2_fewest_0_a : btA cX2_fewest dk15bgoings_cX2_fewest_0 = true := by decide +kernel
theorem dX2_fewest_0 : decode cX2_fewest 0 = .ok (.iload_n 1, 1) := bd27 (btAt dk15bgoings_cX2_fewest_0_a 0 rfl)
theorem dX2_fewest_1 : decode cX2_fewest 1 = .ok (.iload_n 2, 1) := bd28 (btAt dk15bgoings_cX2_fewest_0_a 1 rfl)
theorem dX2_fewest_2 : decode cX2_fewest 2 = .ok (.if_icmp .ne 5, 3) := bd160 (a := 0) (b := 5) (btAt dk15bgoings_cX2_fewest_0_a 2 rfl)
theorem dX2_fewest_7 : decode cX2_fewest 7 = .ok (.iconst 1, 1) := bd4 (btAt dk15bgoings_cX2_fewest_0_a 3 rfl)
theorem dX2_fewest_8 : decode cX2_fewest 8 = .ok (.iload_n 1, 1) := bd27 (btAt dk15bgoings_cX2_fewest_0_a 4 rfl)
theorem dX2_fewest_9 : decode cX2_fewest 9 = .ok (.ishl, 1) := bd120 (btAt dk15bgoings_cX2_fewest_0_a 5 rfl)
theorem dX2_fewest_10 : decode cX2_fewest 10 = .ok (.istore 4, 2) := bd54 (a := 4) (btAt dk15bgoings_cX2_fewest_0_a 6 rfl)
theorem dX2_fewest_12 : decode cX2_fewest 12 = .ok (.iload 4, 2) := bd21 (a := 4) (btAt dk15bgoings_cX2_fewest_0_a 7 rfl)
theorem dX2_fewest_14 : decode cX2_fewest 14 = .ok (.istore 5, 2) := bd54 (a := 5) (btAt dk15bgoings_cX2_fewest_0_a 8 rfl)
theorem dX2_fewest_16 : decode cX2_fewest 16 = .ok (.iconst 1, 1) := bd4 (btAt dk15bgoings_cX2_fewest_0_a 9 rfl)
theorem dX2_fewest_17 : decode cX2_fewest 17 = .ok (.istore 6, 2) := bd54 (a := 6) (btAt dk15bgoings_cX2_fewest_0_a 10 rfl)
theorem dX2_fewest_19 : decode cX2_fewest 19 = .ok (.iload 6, 2) := bd21 (a := 6) (btAt dk15bgoings_cX2_fewest_0_a 11 rfl)
theorem dX2_fewest_21 : decode cX2_fewest 21 = .ok (.bipush 8, 2) := bd16 (a := 8) (btAt dk15bgoings_cX2_fewest_0_a 12 rfl)
theorem dX2_fewest_23 : decode cX2_fewest 23 = .ok (.if_icmp .ge 49, 3) := bd162 (a := 0) (b := 49) (btAt dk15bgoings_cX2_fewest_0_a 13 rfl)
theorem dX2_fewest_26 : decode cX2_fewest 26 = .ok (.iload 5, 2) := bd21 (a := 5) (btAt dk15bgoings_cX2_fewest_0_a 14 rfl)
theorem dX2_fewest_28 : decode cX2_fewest 28 = .ok (.ifCond .eq 44, 3) := bd153 (a := 0) (b := 44) (btAt dk15bgoings_cX2_fewest_0_a 15 rfl)
theorem dX2_fewest_31 : decode cX2_fewest 31 = .ok (.aload_n 0, 1) := bd42 (btAt dk15bgoings_cX2_fewest_0_a 16 rfl)
theorem dX2_fewest_32 : decode cX2_fewest 32 = .ok (.iload 5, 2) := bd21 (a := 5) (btAt dk15bgoings_cX2_fewest_0_a 17 rfl)
theorem dX2_fewest_34 : decode cX2_fewest 34 = .ok (.invokevirtual 66, 3) := bd182 (a := 0) (b := 66) (btAt dk15bgoings_cX2_fewest_0_a 18 rfl)
theorem dX2_fewest_37 : decode cX2_fewest 37 = .ok (.iload 4, 2) := bd21 (a := 4) (btAt dk15bgoings_cX2_fewest_0_a 19 rfl)
theorem dX2_fewest_39 : decode cX2_fewest 39 = .ok (.iload_n 3, 1) := bd29 (btAt dk15bgoings_cX2_fewest_0_a 20 rfl)
theorem dX2_fewest_40 : decode cX2_fewest 40 = .ok (.ior, 1) := bd128 (btAt dk15bgoings_cX2_fewest_0_a 21 rfl)
theorem dX2_fewest_41 : decode cX2_fewest 41 = .ok (.iconst (-1), 1) := bd2 (btAt dk15bgoings_cX2_fewest_0_a 22 rfl)
theorem dX2_fewest_42 : decode cX2_fewest 42 = .ok (.ixor, 1) := bd130 (btAt dk15bgoings_cX2_fewest_0_a 23 rfl)
theorem dX2_fewest_43 : decode cX2_fewest 43 = .ok (.iand, 1) := bd126 (btAt dk15bgoings_cX2_fewest_0_a 24 rfl)
theorem dX2_fewest_44 : decode cX2_fewest 44 = .ok (.istore 5, 2) := bd54 (a := 5) (btAt dk15bgoings_cX2_fewest_0_a 25 rfl)
theorem dX2_fewest_46 : decode cX2_fewest 46 = .ok (.iload 5, 2) := bd21 (a := 5) (btAt dk15bgoings_cX2_fewest_0_a 26 rfl)
theorem dX2_fewest_48 : decode cX2_fewest 48 = .ok (.iload_n 2, 1) := bd28 (btAt dk15bgoings_cX2_fewest_0_a 27 rfl)
theorem dX2_fewest_49 : decode cX2_fewest 49 = .ok (.ishr, 1) := bd122 (btAt dk15bgoings_cX2_fewest_0_a 28 rfl)
theorem dX2_fewest_50 : decode cX2_fewest 50 = .ok (.iconst 1, 1) := bd4 (btAt dk15bgoings_cX2_fewest_0_a 29 rfl)
theorem dX2_fewest_51 : decode cX2_fewest 51 = .ok (.iand, 1) := bd126 (btAt dk15bgoings_cX2_fewest_0_a 30 rfl)
theorem dX2_fewest_52 : decode cX2_fewest 52 = .ok (.iconst 1, 1) := bd4 (btAt dk15bgoings_cX2_fewest_0_a 31 rfl)
theorem dX2_fewest_53 : decode cX2_fewest 53 = .ok (.if_icmp .ne 6, 3) := bd160 (a := 0) (b := 6) (btAt dk15bgoings_cX2_fewest_0_a 32 rfl)
theorem dX2_fewest_59 : decode cX2_fewest 59 = .ok (.iload 4, 2) := bd21 (a := 4) (btAt dk15bgoings_cX2_fewest_0_a 33 rfl)
theorem dX2_fewest_61 : decode cX2_fewest 61 = .ok (.iload 5, 2) := bd21 (a := 5) (btAt dk15bgoings_cX2_fewest_0_a 34 rfl)
theorem dX2_fewest_63 : decode cX2_fewest 63 = .ok (.ior, 1) := bd128 (btAt dk15bgoings_cX2_fewest_0_a 35 rfl)
theorem dX2_fewest_64 : decode cX2_fewest 64 = .ok (.istore 4, 2) := bd54 (a := 4) (btAt dk15bgoings_cX2_fewest_0_a 36 rfl)
theorem dX2_fewest_66 : decode cX2_fewest 66 = .ok (.iinc 6 1, 3) := bd132 (a := 6) (b := 1) (btAt dk15bgoings_cX2_fewest_0_a 37 rfl)
theorem dX2_fewest_72 : decode cX2_fewest 72 = .ok (.bipush (-5), 2) := bd16 (a := 251) (btAt dk15bgoings_cX2_fewest_0_a 38 rfl)
theorem dX2_fewest_74 : decode cX2_fewest 74 = .ok (.ireturn, 1) := bd172 (btAt dk15bgoings_cX2_fewest_0_a 39 rfl)
noncomputable def dk15bgoings_cX2_fewest_40 : List (Nat × List Nat) := [(5, [3]), (6, [172]), (56, [21, 6]), (58, [172]), (69, [167, 255, 206])]
set_option maxRecDepth 100000 in
theorem dk15bgoings_cX2_fewest_40_a : btA cX2_fewest dk15bgoings_cX2_fewest_40 = true := by decide +kernel
theorem dX2_fewest_5 : decode cX2_fewest 5 = .ok (.iconst 0, 1) := bd3 (btAt dk15bgoings_cX2_fewest_40_a 0 rfl)
theorem dX2_fewest_6 : decode cX2_fewest 6 = .ok (.ireturn, 1) := bd172 (btAt dk15bgoings_cX2_fewest_40_a 1 rfl)
theorem dX2_fewest_56 : decode cX2_fewest 56 = .ok (.iload 6, 2) := bd21 (a := 6) (btAt dk15bgoings_cX2_fewest_40_a 2 rfl)
theorem dX2_fewest_58 : decode cX2_fewest 58 = .ok (.ireturn, 1) := bd172 (btAt dk15bgoings_cX2_fewest_40_a 3 rfl)
theorem dX2_fewest_69 : decode cX2_fewest 69 = .ok (.goto (-50), 3) := bd167 (a := 255) (b := 206) (btAt dk15bgoings_cX2_fewest_40_a 4 rfl)
noncomputable def dk15bgoings_cX2_first_0 : List (Nat × List Nat) := [(0, [42]), (1, [27]), (2, [28]), (3, [3]), (4, [182, 0, 70]), (7, [62]), (8, [29]), (9, [16, 251]), (11, [159, 0, 7]), (14, [29]), (15, [154, 0, 6]), (18, [16, 251]), (20, [172]), (21, [3]), (22, [54, 4]), (24, [21, 4]), (26, [42]), (27, [180, 0, 52]), (30, [162, 0, 36]), (33, [42]), (34, [27]), (35, [21, 4]), (37, [182, 0, 74]), (40, [153, 0, 20]), (43, [42]), (44, [21, 4]), (46, [28]), (47, [3]), (48, [182, 0, 70]), (51, [29]), (52, [4]), (53, [100]), (54, [160, 0, 6]), (57, [21, 4]), (59, [172]), (60, [132, 4, 1]), (63, [167, 255, 217]), (66, [16, 251]), (68, [172])]
set_option maxRecDepth 100000 in
theorem dk15bgoings_cX2_first_0_a : btA cX2_first dk15bgoings_cX2_first_0 = true := by decide +kernel
theorem dX2_first_0 : decode cX2_first 0 = .ok (.aload_n 0, 1) := bd42 (btAt dk15bgoings_cX2_first_0_a 0 rfl)
theorem dX2_first_1 : decode cX2_first 1 = .ok (.iload_n 1, 1) := bd27 (btAt dk15bgoings_cX2_first_0_a 1 rfl)
theorem dX2_first_2 : decode cX2_first 2 = .ok (.iload_n 2, 1) := bd28 (btAt dk15bgoings_cX2_first_0_a 2 rfl)
theorem dX2_first_3 : decode cX2_first 3 = .ok (.iconst 0, 1) := bd3 (btAt dk15bgoings_cX2_first_0_a 3 rfl)
theorem dX2_first_4 : decode cX2_first 4 = .ok (.invokevirtual 70, 3) := bd182 (a := 0) (b := 70) (btAt dk15bgoings_cX2_first_0_a 4 rfl)
theorem dX2_first_7 : decode cX2_first 7 = .ok (.istore_n 3, 1) := bd62 (btAt dk15bgoings_cX2_first_0_a 5 rfl)
theorem dX2_first_8 : decode cX2_first 8 = .ok (.iload_n 3, 1) := bd29 (btAt dk15bgoings_cX2_first_0_a 6 rfl)
theorem dX2_first_9 : decode cX2_first 9 = .ok (.bipush (-5), 2) := bd16 (a := 251) (btAt dk15bgoings_cX2_first_0_a 7 rfl)
theorem dX2_first_11 : decode cX2_first 11 = .ok (.if_icmp .eq 7, 3) := bd159 (a := 0) (b := 7) (btAt dk15bgoings_cX2_first_0_a 8 rfl)
theorem dX2_first_14 : decode cX2_first 14 = .ok (.iload_n 3, 1) := bd29 (btAt dk15bgoings_cX2_first_0_a 9 rfl)
theorem dX2_first_15 : decode cX2_first 15 = .ok (.ifCond .ne 6, 3) := bd154 (a := 0) (b := 6) (btAt dk15bgoings_cX2_first_0_a 10 rfl)
theorem dX2_first_18 : decode cX2_first 18 = .ok (.bipush (-5), 2) := bd16 (a := 251) (btAt dk15bgoings_cX2_first_0_a 11 rfl)
theorem dX2_first_20 : decode cX2_first 20 = .ok (.ireturn, 1) := bd172 (btAt dk15bgoings_cX2_first_0_a 12 rfl)
theorem dX2_first_21 : decode cX2_first 21 = .ok (.iconst 0, 1) := bd3 (btAt dk15bgoings_cX2_first_0_a 13 rfl)
theorem dX2_first_22 : decode cX2_first 22 = .ok (.istore 4, 2) := bd54 (a := 4) (btAt dk15bgoings_cX2_first_0_a 14 rfl)
theorem dX2_first_24 : decode cX2_first 24 = .ok (.iload 4, 2) := bd21 (a := 4) (btAt dk15bgoings_cX2_first_0_a 15 rfl)
theorem dX2_first_26 : decode cX2_first 26 = .ok (.aload_n 0, 1) := bd42 (btAt dk15bgoings_cX2_first_0_a 16 rfl)
theorem dX2_first_27 : decode cX2_first 27 = .ok (.getfield 52, 3) := bd180 (a := 0) (b := 52) (btAt dk15bgoings_cX2_first_0_a 17 rfl)
theorem dX2_first_30 : decode cX2_first 30 = .ok (.if_icmp .ge 36, 3) := bd162 (a := 0) (b := 36) (btAt dk15bgoings_cX2_first_0_a 18 rfl)
theorem dX2_first_33 : decode cX2_first 33 = .ok (.aload_n 0, 1) := bd42 (btAt dk15bgoings_cX2_first_0_a 19 rfl)
theorem dX2_first_34 : decode cX2_first 34 = .ok (.iload_n 1, 1) := bd27 (btAt dk15bgoings_cX2_first_0_a 20 rfl)
theorem dX2_first_35 : decode cX2_first 35 = .ok (.iload 4, 2) := bd21 (a := 4) (btAt dk15bgoings_cX2_first_0_a 21 rfl)
theorem dX2_first_37 : decode cX2_first 37 = .ok (.invokevirtual 74, 3) := bd182 (a := 0) (b := 74) (btAt dk15bgoings_cX2_first_0_a 22 rfl)
theorem dX2_first_40 : decode cX2_first 40 = .ok (.ifCond .eq 20, 3) := bd153 (a := 0) (b := 20) (btAt dk15bgoings_cX2_first_0_a 23 rfl)
theorem dX2_first_43 : decode cX2_first 43 = .ok (.aload_n 0, 1) := bd42 (btAt dk15bgoings_cX2_first_0_a 24 rfl)
theorem dX2_first_44 : decode cX2_first 44 = .ok (.iload 4, 2) := bd21 (a := 4) (btAt dk15bgoings_cX2_first_0_a 25 rfl)
theorem dX2_first_46 : decode cX2_first 46 = .ok (.iload_n 2, 1) := bd28 (btAt dk15bgoings_cX2_first_0_a 26 rfl)
theorem dX2_first_47 : decode cX2_first 47 = .ok (.iconst 0, 1) := bd3 (btAt dk15bgoings_cX2_first_0_a 27 rfl)
theorem dX2_first_48 : decode cX2_first 48 = .ok (.invokevirtual 70, 3) := bd182 (a := 0) (b := 70) (btAt dk15bgoings_cX2_first_0_a 28 rfl)
theorem dX2_first_51 : decode cX2_first 51 = .ok (.iload_n 3, 1) := bd29 (btAt dk15bgoings_cX2_first_0_a 29 rfl)
theorem dX2_first_52 : decode cX2_first 52 = .ok (.iconst 1, 1) := bd4 (btAt dk15bgoings_cX2_first_0_a 30 rfl)
theorem dX2_first_53 : decode cX2_first 53 = .ok (.isub, 1) := bd100 (btAt dk15bgoings_cX2_first_0_a 31 rfl)
theorem dX2_first_54 : decode cX2_first 54 = .ok (.if_icmp .ne 6, 3) := bd160 (a := 0) (b := 6) (btAt dk15bgoings_cX2_first_0_a 32 rfl)
theorem dX2_first_57 : decode cX2_first 57 = .ok (.iload 4, 2) := bd21 (a := 4) (btAt dk15bgoings_cX2_first_0_a 33 rfl)
theorem dX2_first_59 : decode cX2_first 59 = .ok (.ireturn, 1) := bd172 (btAt dk15bgoings_cX2_first_0_a 34 rfl)
theorem dX2_first_60 : decode cX2_first 60 = .ok (.iinc 4 1, 3) := bd132 (a := 4) (b := 1) (btAt dk15bgoings_cX2_first_0_a 35 rfl)
theorem dX2_first_63 : decode cX2_first 63 = .ok (.goto (-39), 3) := bd167 (a := 255) (b := 217) (btAt dk15bgoings_cX2_first_0_a 36 rfl)
theorem dX2_first_66 : decode cX2_first 66 = .ok (.bipush (-5), 2) := bd16 (a := 251) (btAt dk15bgoings_cX2_first_0_a 37 rfl)
theorem dX2_first_68 : decode cX2_first 68 = .ok (.ireturn, 1) := bd172 (btAt dk15bgoings_cX2_first_0_a 38 rfl)
noncomputable def dk15bgoings_cX2_breaks_0 : List (Nat × List Nat) := [(0, [42]), (1, [27]), (2, [28]), (3, [3]), (4, [182, 0, 70]), (7, [16, 251]), (9, [160, 0, 5]), (14, [3]), (15, [62]), (16, [3]), (17, [54, 4]), (19, [21, 4]), (21, [42]), (22, [180, 0, 52]), (25, [162, 0, 43]), (28, [21, 4]), (30, [27]), (31, [159, 0, 31]), (34, [21, 4]), (36, [28]), (37, [159, 0, 25]), (40, [42]), (41, [27]), (42, [28]), (43, [4]), (44, [21, 4]), (46, [120]), (47, [182, 0, 70]), (50, [16, 251]), (52, [160, 0, 10]), (55, [29]), (56, [4]), (57, [21, 4]), (59, [120]), (60, [128]), (61, [62]), (62, [132, 4, 1]), (65, [167, 255, 210]), (68, [29]), (69, [172])]
set_option maxRecDepth 100000 in
theorem dk15bgoings_cX2_breaks_0_a : btA cX2_breaks dk15bgoings_cX2_breaks_0 = true := by decide +kernel
theorem dX2_breaks_0 : decode cX2_breaks 0 = .ok (.aload_n 0, 1) := bd42 (btAt dk15bgoings_cX2_breaks_0_a 0 rfl)
theorem dX2_breaks_1 : decode cX2_breaks 1 = .ok (.iload_n 1, 1) := bd27 (btAt dk15bgoings_cX2_breaks_0_a 1 rfl)
theorem dX2_breaks_2 : decode cX2_breaks 2 = .ok (.iload_n 2, 1) := bd28 (btAt dk15bgoings_cX2_breaks_0_a 2 rfl)
theorem dX2_breaks_3 : decode cX2_breaks 3 = .ok (.iconst 0, 1) := bd3 (btAt dk15bgoings_cX2_breaks_0_a 3 rfl)
theorem dX2_breaks_4 : decode cX2_breaks 4 = .ok (.invokevirtual 70, 3) := bd182 (a := 0) (b := 70) (btAt dk15bgoings_cX2_breaks_0_a 4 rfl)
theorem dX2_breaks_7 : decode cX2_breaks 7 = .ok (.bipush (-5), 2) := bd16 (a := 251) (btAt dk15bgoings_cX2_breaks_0_a 5 rfl)
theorem dX2_breaks_9 : decode cX2_breaks 9 = .ok (.if_icmp .ne 5, 3) := bd160 (a := 0) (b := 5) (btAt dk15bgoings_cX2_breaks_0_a 6 rfl)
theorem dX2_breaks_14 : decode cX2_breaks 14 = .ok (.iconst 0, 1) := bd3 (btAt dk15bgoings_cX2_breaks_0_a 7 rfl)
theorem dX2_breaks_15 : decode cX2_breaks 15 = .ok (.istore_n 3, 1) := bd62 (btAt dk15bgoings_cX2_breaks_0_a 8 rfl)
theorem dX2_breaks_16 : decode cX2_breaks 16 = .ok (.iconst 0, 1) := bd3 (btAt dk15bgoings_cX2_breaks_0_a 9 rfl)
theorem dX2_breaks_17 : decode cX2_breaks 17 = .ok (.istore 4, 2) := bd54 (a := 4) (btAt dk15bgoings_cX2_breaks_0_a 10 rfl)
theorem dX2_breaks_19 : decode cX2_breaks 19 = .ok (.iload 4, 2) := bd21 (a := 4) (btAt dk15bgoings_cX2_breaks_0_a 11 rfl)
theorem dX2_breaks_21 : decode cX2_breaks 21 = .ok (.aload_n 0, 1) := bd42 (btAt dk15bgoings_cX2_breaks_0_a 12 rfl)
theorem dX2_breaks_22 : decode cX2_breaks 22 = .ok (.getfield 52, 3) := bd180 (a := 0) (b := 52) (btAt dk15bgoings_cX2_breaks_0_a 13 rfl)
theorem dX2_breaks_25 : decode cX2_breaks 25 = .ok (.if_icmp .ge 43, 3) := bd162 (a := 0) (b := 43) (btAt dk15bgoings_cX2_breaks_0_a 14 rfl)
theorem dX2_breaks_28 : decode cX2_breaks 28 = .ok (.iload 4, 2) := bd21 (a := 4) (btAt dk15bgoings_cX2_breaks_0_a 15 rfl)
theorem dX2_breaks_30 : decode cX2_breaks 30 = .ok (.iload_n 1, 1) := bd27 (btAt dk15bgoings_cX2_breaks_0_a 16 rfl)
theorem dX2_breaks_31 : decode cX2_breaks 31 = .ok (.if_icmp .eq 31, 3) := bd159 (a := 0) (b := 31) (btAt dk15bgoings_cX2_breaks_0_a 17 rfl)
theorem dX2_breaks_34 : decode cX2_breaks 34 = .ok (.iload 4, 2) := bd21 (a := 4) (btAt dk15bgoings_cX2_breaks_0_a 18 rfl)
theorem dX2_breaks_36 : decode cX2_breaks 36 = .ok (.iload_n 2, 1) := bd28 (btAt dk15bgoings_cX2_breaks_0_a 19 rfl)
theorem dX2_breaks_37 : decode cX2_breaks 37 = .ok (.if_icmp .eq 25, 3) := bd159 (a := 0) (b := 25) (btAt dk15bgoings_cX2_breaks_0_a 20 rfl)
theorem dX2_breaks_40 : decode cX2_breaks 40 = .ok (.aload_n 0, 1) := bd42 (btAt dk15bgoings_cX2_breaks_0_a 21 rfl)
theorem dX2_breaks_41 : decode cX2_breaks 41 = .ok (.iload_n 1, 1) := bd27 (btAt dk15bgoings_cX2_breaks_0_a 22 rfl)
theorem dX2_breaks_42 : decode cX2_breaks 42 = .ok (.iload_n 2, 1) := bd28 (btAt dk15bgoings_cX2_breaks_0_a 23 rfl)
theorem dX2_breaks_43 : decode cX2_breaks 43 = .ok (.iconst 1, 1) := bd4 (btAt dk15bgoings_cX2_breaks_0_a 24 rfl)
theorem dX2_breaks_44 : decode cX2_breaks 44 = .ok (.iload 4, 2) := bd21 (a := 4) (btAt dk15bgoings_cX2_breaks_0_a 25 rfl)
theorem dX2_breaks_46 : decode cX2_breaks 46 = .ok (.ishl, 1) := bd120 (btAt dk15bgoings_cX2_breaks_0_a 26 rfl)
theorem dX2_breaks_47 : decode cX2_breaks 47 = .ok (.invokevirtual 70, 3) := bd182 (a := 0) (b := 70) (btAt dk15bgoings_cX2_breaks_0_a 27 rfl)
theorem dX2_breaks_50 : decode cX2_breaks 50 = .ok (.bipush (-5), 2) := bd16 (a := 251) (btAt dk15bgoings_cX2_breaks_0_a 28 rfl)
theorem dX2_breaks_52 : decode cX2_breaks 52 = .ok (.if_icmp .ne 10, 3) := bd160 (a := 0) (b := 10) (btAt dk15bgoings_cX2_breaks_0_a 29 rfl)
theorem dX2_breaks_55 : decode cX2_breaks 55 = .ok (.iload_n 3, 1) := bd29 (btAt dk15bgoings_cX2_breaks_0_a 30 rfl)
theorem dX2_breaks_56 : decode cX2_breaks 56 = .ok (.iconst 1, 1) := bd4 (btAt dk15bgoings_cX2_breaks_0_a 31 rfl)
theorem dX2_breaks_57 : decode cX2_breaks 57 = .ok (.iload 4, 2) := bd21 (a := 4) (btAt dk15bgoings_cX2_breaks_0_a 32 rfl)
theorem dX2_breaks_59 : decode cX2_breaks 59 = .ok (.ishl, 1) := bd120 (btAt dk15bgoings_cX2_breaks_0_a 33 rfl)
theorem dX2_breaks_60 : decode cX2_breaks 60 = .ok (.ior, 1) := bd128 (btAt dk15bgoings_cX2_breaks_0_a 34 rfl)
theorem dX2_breaks_61 : decode cX2_breaks 61 = .ok (.istore_n 3, 1) := bd62 (btAt dk15bgoings_cX2_breaks_0_a 35 rfl)
theorem dX2_breaks_62 : decode cX2_breaks 62 = .ok (.iinc 4 1, 3) := bd132 (a := 4) (b := 1) (btAt dk15bgoings_cX2_breaks_0_a 36 rfl)
theorem dX2_breaks_65 : decode cX2_breaks 65 = .ok (.goto (-46), 3) := bd167 (a := 255) (b := 210) (btAt dk15bgoings_cX2_breaks_0_a 37 rfl)
theorem dX2_breaks_68 : decode cX2_breaks 68 = .ok (.iload_n 3, 1) := bd29 (btAt dk15bgoings_cX2_breaks_0_a 38 rfl)
theorem dX2_breaks_69 : decode cX2_breaks 69 = .ok (.ireturn, 1) := bd172 (btAt dk15bgoings_cX2_breaks_0_a 39 rfl)
noncomputable def dk15bgoings_cX2_breaks_40 : List (Nat × List Nat) := [(12, [3]), (13, [172])]
set_option maxRecDepth 100000 in
theorem dk15bgoings_cX2_breaks_40_a : btA cX2_breaks dk15bgoings_cX2_breaks_40 = true := by decide +kernel
theorem dX2_breaks_12 : decode cX2_breaks 12 = .ok (.iconst 0, 1) := bd3 (btAt dk15bgoings_cX2_breaks_40_a 0 rfl)
theorem dX2_breaks_13 : decode cX2_breaks 13 = .ok (.ireturn, 1) := bd172 (btAt dk15bgoings_cX2_breaks_40_a 1 rfl)
noncomputable def dk15bgoings_cX2_join_0 : List (Nat × List Nat) := [(0, [43]), (1, [180, 0, 27]), (4, [62]), (5, [29]), (6, [16, 8]), (8, [161, 0, 4]), (12, [42]), (13, [180, 0, 23]), (16, [29]), (17, [181, 0, 59]), (20, [42]), (21, [180, 0, 23]), (24, [28]), (25, [181, 0, 41]), (28, [42]), (29, [180, 0, 9]), (32, [29]), (33, [43]), (34, [42]), (35, [180, 0, 23]), (38, [43]), (39, [180, 0, 78]), (42, [182, 0, 37]), (45, [79]), (46, [42]), (47, [29]), (48, [4]), (49, [96]), (50, [181, 0, 52]), (53, [3]), (54, [54, 4]), (56, [21, 4]), (58, [29]), (59, [162, 0, 39]), (62, [42]), (63, [43]), (64, [180, 0, 33]), (67, [21, 4]), (69, [50]), (98, [177])]
set_option maxRecDepth 100000 in
theorem dk15bgoings_cX2_join_0_a : btA cX2_join dk15bgoings_cX2_join_0 = true := by decide +kernel
theorem dX2_join_0 : decode cX2_join 0 = .ok (.aload_n 1, 1) := bd43 (btAt dk15bgoings_cX2_join_0_a 0 rfl)
theorem dX2_join_1 : decode cX2_join 1 = .ok (.getfield 27, 3) := bd180 (a := 0) (b := 27) (btAt dk15bgoings_cX2_join_0_a 1 rfl)
theorem dX2_join_4 : decode cX2_join 4 = .ok (.istore_n 3, 1) := bd62 (btAt dk15bgoings_cX2_join_0_a 2 rfl)
theorem dX2_join_5 : decode cX2_join 5 = .ok (.iload_n 3, 1) := bd29 (btAt dk15bgoings_cX2_join_0_a 3 rfl)
theorem dX2_join_6 : decode cX2_join 6 = .ok (.bipush 8, 2) := bd16 (a := 8) (btAt dk15bgoings_cX2_join_0_a 4 rfl)
theorem dX2_join_8 : decode cX2_join 8 = .ok (.if_icmp .lt 4, 3) := bd161 (a := 0) (b := 4) (btAt dk15bgoings_cX2_join_0_a 5 rfl)
theorem dX2_join_12 : decode cX2_join 12 = .ok (.aload_n 0, 1) := bd42 (btAt dk15bgoings_cX2_join_0_a 6 rfl)
theorem dX2_join_13 : decode cX2_join 13 = .ok (.getfield 23, 3) := bd180 (a := 0) (b := 23) (btAt dk15bgoings_cX2_join_0_a 7 rfl)
theorem dX2_join_16 : decode cX2_join 16 = .ok (.iload_n 3, 1) := bd29 (btAt dk15bgoings_cX2_join_0_a 8 rfl)
theorem dX2_join_17 : decode cX2_join 17 = .ok (.putfield 59, 3) := bd181 (a := 0) (b := 59) (btAt dk15bgoings_cX2_join_0_a 9 rfl)
theorem dX2_join_20 : decode cX2_join 20 = .ok (.aload_n 0, 1) := bd42 (btAt dk15bgoings_cX2_join_0_a 10 rfl)
theorem dX2_join_21 : decode cX2_join 21 = .ok (.getfield 23, 3) := bd180 (a := 0) (b := 23) (btAt dk15bgoings_cX2_join_0_a 11 rfl)
theorem dX2_join_24 : decode cX2_join 24 = .ok (.iload_n 2, 1) := bd28 (btAt dk15bgoings_cX2_join_0_a 12 rfl)
theorem dX2_join_25 : decode cX2_join 25 = .ok (.putfield 41, 3) := bd181 (a := 0) (b := 41) (btAt dk15bgoings_cX2_join_0_a 13 rfl)
theorem dX2_join_28 : decode cX2_join 28 = .ok (.aload_n 0, 1) := bd42 (btAt dk15bgoings_cX2_join_0_a 14 rfl)
theorem dX2_join_29 : decode cX2_join 29 = .ok (.getfield 9, 3) := bd180 (a := 0) (b := 9) (btAt dk15bgoings_cX2_join_0_a 15 rfl)
theorem dX2_join_32 : decode cX2_join 32 = .ok (.iload_n 3, 1) := bd29 (btAt dk15bgoings_cX2_join_0_a 16 rfl)
theorem dX2_join_33 : decode cX2_join 33 = .ok (.aload_n 1, 1) := bd43 (btAt dk15bgoings_cX2_join_0_a 17 rfl)
theorem dX2_join_34 : decode cX2_join 34 = .ok (.aload_n 0, 1) := bd42 (btAt dk15bgoings_cX2_join_0_a 18 rfl)
theorem dX2_join_35 : decode cX2_join 35 = .ok (.getfield 23, 3) := bd180 (a := 0) (b := 23) (btAt dk15bgoings_cX2_join_0_a 19 rfl)
theorem dX2_join_38 : decode cX2_join 38 = .ok (.aload_n 1, 1) := bd43 (btAt dk15bgoings_cX2_join_0_a 20 rfl)
theorem dX2_join_39 : decode cX2_join 39 = .ok (.getfield 78, 3) := bd180 (a := 0) (b := 78) (btAt dk15bgoings_cX2_join_0_a 21 rfl)
theorem dX2_join_42 : decode cX2_join 42 = .ok (.invokevirtual 37, 3) := bd182 (a := 0) (b := 37) (btAt dk15bgoings_cX2_join_0_a 22 rfl)
theorem dX2_join_45 : decode cX2_join 45 = .ok (.iastore, 1) := bd79 (btAt dk15bgoings_cX2_join_0_a 23 rfl)
theorem dX2_join_46 : decode cX2_join 46 = .ok (.aload_n 0, 1) := bd42 (btAt dk15bgoings_cX2_join_0_a 24 rfl)
theorem dX2_join_47 : decode cX2_join 47 = .ok (.iload_n 3, 1) := bd29 (btAt dk15bgoings_cX2_join_0_a 25 rfl)
theorem dX2_join_48 : decode cX2_join 48 = .ok (.iconst 1, 1) := bd4 (btAt dk15bgoings_cX2_join_0_a 26 rfl)
theorem dX2_join_49 : decode cX2_join 49 = .ok (.iadd, 1) := bd96 (btAt dk15bgoings_cX2_join_0_a 27 rfl)
theorem dX2_join_50 : decode cX2_join 50 = .ok (.putfield 52, 3) := bd181 (a := 0) (b := 52) (btAt dk15bgoings_cX2_join_0_a 28 rfl)
theorem dX2_join_53 : decode cX2_join 53 = .ok (.iconst 0, 1) := bd3 (btAt dk15bgoings_cX2_join_0_a 29 rfl)
theorem dX2_join_54 : decode cX2_join 54 = .ok (.istore 4, 2) := bd54 (a := 4) (btAt dk15bgoings_cX2_join_0_a 30 rfl)
theorem dX2_join_56 : decode cX2_join 56 = .ok (.iload 4, 2) := bd21 (a := 4) (btAt dk15bgoings_cX2_join_0_a 31 rfl)
theorem dX2_join_58 : decode cX2_join 58 = .ok (.iload_n 3, 1) := bd29 (btAt dk15bgoings_cX2_join_0_a 32 rfl)
theorem dX2_join_59 : decode cX2_join 59 = .ok (.if_icmp .ge 39, 3) := bd162 (a := 0) (b := 39) (btAt dk15bgoings_cX2_join_0_a 33 rfl)
theorem dX2_join_62 : decode cX2_join 62 = .ok (.aload_n 0, 1) := bd42 (btAt dk15bgoings_cX2_join_0_a 34 rfl)
theorem dX2_join_63 : decode cX2_join 63 = .ok (.aload_n 1, 1) := bd43 (btAt dk15bgoings_cX2_join_0_a 35 rfl)
theorem dX2_join_64 : decode cX2_join 64 = .ok (.getfield 33, 3) := bd180 (a := 0) (b := 33) (btAt dk15bgoings_cX2_join_0_a 36 rfl)
theorem dX2_join_67 : decode cX2_join 67 = .ok (.iload 4, 2) := bd21 (a := 4) (btAt dk15bgoings_cX2_join_0_a 37 rfl)
theorem dX2_join_69 : decode cX2_join 69 = .ok (.aaload, 1) := bd50 (btAt dk15bgoings_cX2_join_0_a 38 rfl)
theorem dX2_join_98 : decode cX2_join 98 = .ok (.return_, 1) := bd177 (btAt dk15bgoings_cX2_join_0_a 39 rfl)
noncomputable def dk15bgoings_cX2_join_40 : List (Nat × List Nat) := [(70, [42]), (71, [180, 0, 23]), (74, [182, 0, 55]), (77, [42]), (78, [42]), (79, [180, 0, 23]), (82, [43]), (83, [180, 0, 33]), (86, [21, 4]), (88, [50]), (89, [182, 0, 55]), (92, [132, 4, 1]), (95, [167, 255, 217])]
set_option maxRecDepth 100000 in
theorem dk15bgoings_cX2_join_40_a : btA cX2_join dk15bgoings_cX2_join_40 = true := by decide +kernel
theorem dX2_join_70 : decode cX2_join 70 = .ok (.aload_n 0, 1) := bd42 (btAt dk15bgoings_cX2_join_40_a 0 rfl)
theorem dX2_join_71 : decode cX2_join 71 = .ok (.getfield 23, 3) := bd180 (a := 0) (b := 23) (btAt dk15bgoings_cX2_join_40_a 1 rfl)
theorem dX2_join_74 : decode cX2_join 74 = .ok (.invokevirtual 55, 3) := bd182 (a := 0) (b := 55) (btAt dk15bgoings_cX2_join_40_a 2 rfl)
theorem dX2_join_77 : decode cX2_join 77 = .ok (.aload_n 0, 1) := bd42 (btAt dk15bgoings_cX2_join_40_a 3 rfl)
theorem dX2_join_78 : decode cX2_join 78 = .ok (.aload_n 0, 1) := bd42 (btAt dk15bgoings_cX2_join_40_a 4 rfl)
theorem dX2_join_79 : decode cX2_join 79 = .ok (.getfield 23, 3) := bd180 (a := 0) (b := 23) (btAt dk15bgoings_cX2_join_40_a 5 rfl)
theorem dX2_join_82 : decode cX2_join 82 = .ok (.aload_n 1, 1) := bd43 (btAt dk15bgoings_cX2_join_40_a 6 rfl)
theorem dX2_join_83 : decode cX2_join 83 = .ok (.getfield 33, 3) := bd180 (a := 0) (b := 33) (btAt dk15bgoings_cX2_join_40_a 7 rfl)
theorem dX2_join_86 : decode cX2_join 86 = .ok (.iload 4, 2) := bd21 (a := 4) (btAt dk15bgoings_cX2_join_40_a 8 rfl)
theorem dX2_join_88 : decode cX2_join 88 = .ok (.aaload, 1) := bd50 (btAt dk15bgoings_cX2_join_40_a 9 rfl)
theorem dX2_join_89 : decode cX2_join 89 = .ok (.invokevirtual 55, 3) := bd182 (a := 0) (b := 55) (btAt dk15bgoings_cX2_join_40_a 10 rfl)
theorem dX2_join_92 : decode cX2_join 92 = .ok (.iinc 4 1, 3) := bd132 (a := 4) (b := 1) (btAt dk15bgoings_cX2_join_40_a 11 rfl)
theorem dX2_join_95 : decode cX2_join 95 = .ok (.goto (-39), 3) := bd167 (a := 255) (b := 217) (btAt dk15bgoings_cX2_join_40_a 12 rfl)
noncomputable def dk15bgoings_cX2_bestCell_0 : List (Nat × List Nat) := [(0, [43]), (1, [180, 0, 27]), (4, [16, 8]), (6, [161, 0, 6]), (12, [42]), (13, [43]), (14, [43]), (15, [180, 0, 78]), (18, [182, 0, 81]), (21, [42]), (22, [28]), (23, [29]), (24, [3]), (25, [182, 0, 70]), (28, [54, 4]), (30, [16, 251]), (32, [54, 5]), (34, [3]), (35, [54, 6]), (37, [21, 6]), (39, [16, 36]), (41, [162, 0, 66]), (44, [43]), (45, [21, 6]), (47, [182, 0, 84]), (50, [153, 0, 6]), (53, [167, 0, 48]), (56, [42]), (57, [43]), (58, [21, 6]), (60, [182, 0, 87]), (63, [42]), (64, [28]), (65, [29]), (66, [3]), (67, [182, 0, 70]), (101, [132, 6, 1]), (104, [167, 255, 189]), (107, [21, 5]), (109, [172])]
set_option maxRecDepth 100000 in
theorem dk15bgoings_cX2_bestCell_0_a : btA cX2_bestCell dk15bgoings_cX2_bestCell_0 = true := by decide +kernel
theorem dX2_bestCell_0 : decode cX2_bestCell 0 = .ok (.aload_n 1, 1) := bd43 (btAt dk15bgoings_cX2_bestCell_0_a 0 rfl)
theorem dX2_bestCell_1 : decode cX2_bestCell 1 = .ok (.getfield 27, 3) := bd180 (a := 0) (b := 27) (btAt dk15bgoings_cX2_bestCell_0_a 1 rfl)
theorem dX2_bestCell_4 : decode cX2_bestCell 4 = .ok (.bipush 8, 2) := bd16 (a := 8) (btAt dk15bgoings_cX2_bestCell_0_a 2 rfl)
theorem dX2_bestCell_6 : decode cX2_bestCell 6 = .ok (.if_icmp .lt 6, 3) := bd161 (a := 0) (b := 6) (btAt dk15bgoings_cX2_bestCell_0_a 3 rfl)
theorem dX2_bestCell_12 : decode cX2_bestCell 12 = .ok (.aload_n 0, 1) := bd42 (btAt dk15bgoings_cX2_bestCell_0_a 4 rfl)
theorem dX2_bestCell_13 : decode cX2_bestCell 13 = .ok (.aload_n 1, 1) := bd43 (btAt dk15bgoings_cX2_bestCell_0_a 5 rfl)
theorem dX2_bestCell_14 : decode cX2_bestCell 14 = .ok (.aload_n 1, 1) := bd43 (btAt dk15bgoings_cX2_bestCell_0_a 6 rfl)
theorem dX2_bestCell_15 : decode cX2_bestCell 15 = .ok (.getfield 78, 3) := bd180 (a := 0) (b := 78) (btAt dk15bgoings_cX2_bestCell_0_a 7 rfl)
theorem dX2_bestCell_18 : decode cX2_bestCell 18 = .ok (.invokevirtual 81, 3) := bd182 (a := 0) (b := 81) (btAt dk15bgoings_cX2_bestCell_0_a 8 rfl)
theorem dX2_bestCell_21 : decode cX2_bestCell 21 = .ok (.aload_n 0, 1) := bd42 (btAt dk15bgoings_cX2_bestCell_0_a 9 rfl)
theorem dX2_bestCell_22 : decode cX2_bestCell 22 = .ok (.iload_n 2, 1) := bd28 (btAt dk15bgoings_cX2_bestCell_0_a 10 rfl)
theorem dX2_bestCell_23 : decode cX2_bestCell 23 = .ok (.iload_n 3, 1) := bd29 (btAt dk15bgoings_cX2_bestCell_0_a 11 rfl)
theorem dX2_bestCell_24 : decode cX2_bestCell 24 = .ok (.iconst 0, 1) := bd3 (btAt dk15bgoings_cX2_bestCell_0_a 12 rfl)
theorem dX2_bestCell_25 : decode cX2_bestCell 25 = .ok (.invokevirtual 70, 3) := bd182 (a := 0) (b := 70) (btAt dk15bgoings_cX2_bestCell_0_a 13 rfl)
theorem dX2_bestCell_28 : decode cX2_bestCell 28 = .ok (.istore 4, 2) := bd54 (a := 4) (btAt dk15bgoings_cX2_bestCell_0_a 14 rfl)
theorem dX2_bestCell_30 : decode cX2_bestCell 30 = .ok (.bipush (-5), 2) := bd16 (a := 251) (btAt dk15bgoings_cX2_bestCell_0_a 15 rfl)
theorem dX2_bestCell_32 : decode cX2_bestCell 32 = .ok (.istore 5, 2) := bd54 (a := 5) (btAt dk15bgoings_cX2_bestCell_0_a 16 rfl)
theorem dX2_bestCell_34 : decode cX2_bestCell 34 = .ok (.iconst 0, 1) := bd3 (btAt dk15bgoings_cX2_bestCell_0_a 17 rfl)
theorem dX2_bestCell_35 : decode cX2_bestCell 35 = .ok (.istore 6, 2) := bd54 (a := 6) (btAt dk15bgoings_cX2_bestCell_0_a 18 rfl)
theorem dX2_bestCell_37 : decode cX2_bestCell 37 = .ok (.iload 6, 2) := bd21 (a := 6) (btAt dk15bgoings_cX2_bestCell_0_a 19 rfl)
theorem dX2_bestCell_39 : decode cX2_bestCell 39 = .ok (.bipush 36, 2) := bd16 (a := 36) (btAt dk15bgoings_cX2_bestCell_0_a 20 rfl)
theorem dX2_bestCell_41 : decode cX2_bestCell 41 = .ok (.if_icmp .ge 66, 3) := bd162 (a := 0) (b := 66) (btAt dk15bgoings_cX2_bestCell_0_a 21 rfl)
theorem dX2_bestCell_44 : decode cX2_bestCell 44 = .ok (.aload_n 1, 1) := bd43 (btAt dk15bgoings_cX2_bestCell_0_a 22 rfl)
theorem dX2_bestCell_45 : decode cX2_bestCell 45 = .ok (.iload 6, 2) := bd21 (a := 6) (btAt dk15bgoings_cX2_bestCell_0_a 23 rfl)
theorem dX2_bestCell_47 : decode cX2_bestCell 47 = .ok (.invokevirtual 84, 3) := bd182 (a := 0) (b := 84) (btAt dk15bgoings_cX2_bestCell_0_a 24 rfl)
theorem dX2_bestCell_50 : decode cX2_bestCell 50 = .ok (.ifCond .eq 6, 3) := bd153 (a := 0) (b := 6) (btAt dk15bgoings_cX2_bestCell_0_a 25 rfl)
theorem dX2_bestCell_53 : decode cX2_bestCell 53 = .ok (.goto 48, 3) := bd167 (a := 0) (b := 48) (btAt dk15bgoings_cX2_bestCell_0_a 26 rfl)
theorem dX2_bestCell_56 : decode cX2_bestCell 56 = .ok (.aload_n 0, 1) := bd42 (btAt dk15bgoings_cX2_bestCell_0_a 27 rfl)
theorem dX2_bestCell_57 : decode cX2_bestCell 57 = .ok (.aload_n 1, 1) := bd43 (btAt dk15bgoings_cX2_bestCell_0_a 28 rfl)
theorem dX2_bestCell_58 : decode cX2_bestCell 58 = .ok (.iload 6, 2) := bd21 (a := 6) (btAt dk15bgoings_cX2_bestCell_0_a 29 rfl)
theorem dX2_bestCell_60 : decode cX2_bestCell 60 = .ok (.invokevirtual 87, 3) := bd182 (a := 0) (b := 87) (btAt dk15bgoings_cX2_bestCell_0_a 30 rfl)
theorem dX2_bestCell_63 : decode cX2_bestCell 63 = .ok (.aload_n 0, 1) := bd42 (btAt dk15bgoings_cX2_bestCell_0_a 31 rfl)
theorem dX2_bestCell_64 : decode cX2_bestCell 64 = .ok (.iload_n 2, 1) := bd28 (btAt dk15bgoings_cX2_bestCell_0_a 32 rfl)
theorem dX2_bestCell_65 : decode cX2_bestCell 65 = .ok (.iload_n 3, 1) := bd29 (btAt dk15bgoings_cX2_bestCell_0_a 33 rfl)
theorem dX2_bestCell_66 : decode cX2_bestCell 66 = .ok (.iconst 0, 1) := bd3 (btAt dk15bgoings_cX2_bestCell_0_a 34 rfl)
theorem dX2_bestCell_67 : decode cX2_bestCell 67 = .ok (.invokevirtual 70, 3) := bd182 (a := 0) (b := 70) (btAt dk15bgoings_cX2_bestCell_0_a 35 rfl)
theorem dX2_bestCell_101 : decode cX2_bestCell 101 = .ok (.iinc 6 1, 3) := bd132 (a := 6) (b := 1) (btAt dk15bgoings_cX2_bestCell_0_a 36 rfl)
theorem dX2_bestCell_104 : decode cX2_bestCell 104 = .ok (.goto (-67), 3) := bd167 (a := 255) (b := 189) (btAt dk15bgoings_cX2_bestCell_0_a 37 rfl)
theorem dX2_bestCell_107 : decode cX2_bestCell 107 = .ok (.iload 5, 2) := bd21 (a := 5) (btAt dk15bgoings_cX2_bestCell_0_a 38 rfl)
theorem dX2_bestCell_109 : decode cX2_bestCell 109 = .ok (.ireturn, 1) := bd172 (btAt dk15bgoings_cX2_bestCell_0_a 39 rfl)
noncomputable def dk15bgoings_cX2_bestCell_40 : List (Nat × List Nat) := [(9, [16, 251]), (11, [172]), (70, [54, 7]), (72, [21, 7]), (74, [16, 251]), (76, [159, 0, 25]), (79, [21, 4]), (81, [16, 251]), (83, [159, 0, 10]), (86, [21, 7]), (88, [21, 4]), (90, [162, 0, 11]), (93, [21, 7]), (95, [54, 4]), (97, [21, 6]), (99, [54, 5])]
set_option maxRecDepth 100000 in
theorem dk15bgoings_cX2_bestCell_40_a : btA cX2_bestCell dk15bgoings_cX2_bestCell_40 = true := by decide +kernel
theorem dX2_bestCell_9 : decode cX2_bestCell 9 = .ok (.bipush (-5), 2) := bd16 (a := 251) (btAt dk15bgoings_cX2_bestCell_40_a 0 rfl)
theorem dX2_bestCell_11 : decode cX2_bestCell 11 = .ok (.ireturn, 1) := bd172 (btAt dk15bgoings_cX2_bestCell_40_a 1 rfl)
theorem dX2_bestCell_70 : decode cX2_bestCell 70 = .ok (.istore 7, 2) := bd54 (a := 7) (btAt dk15bgoings_cX2_bestCell_40_a 2 rfl)
theorem dX2_bestCell_72 : decode cX2_bestCell 72 = .ok (.iload 7, 2) := bd21 (a := 7) (btAt dk15bgoings_cX2_bestCell_40_a 3 rfl)
theorem dX2_bestCell_74 : decode cX2_bestCell 74 = .ok (.bipush (-5), 2) := bd16 (a := 251) (btAt dk15bgoings_cX2_bestCell_40_a 4 rfl)
theorem dX2_bestCell_76 : decode cX2_bestCell 76 = .ok (.if_icmp .eq 25, 3) := bd159 (a := 0) (b := 25) (btAt dk15bgoings_cX2_bestCell_40_a 5 rfl)
theorem dX2_bestCell_79 : decode cX2_bestCell 79 = .ok (.iload 4, 2) := bd21 (a := 4) (btAt dk15bgoings_cX2_bestCell_40_a 6 rfl)
theorem dX2_bestCell_81 : decode cX2_bestCell 81 = .ok (.bipush (-5), 2) := bd16 (a := 251) (btAt dk15bgoings_cX2_bestCell_40_a 7 rfl)
theorem dX2_bestCell_83 : decode cX2_bestCell 83 = .ok (.if_icmp .eq 10, 3) := bd159 (a := 0) (b := 10) (btAt dk15bgoings_cX2_bestCell_40_a 8 rfl)
theorem dX2_bestCell_86 : decode cX2_bestCell 86 = .ok (.iload 7, 2) := bd21 (a := 7) (btAt dk15bgoings_cX2_bestCell_40_a 9 rfl)
theorem dX2_bestCell_88 : decode cX2_bestCell 88 = .ok (.iload 4, 2) := bd21 (a := 4) (btAt dk15bgoings_cX2_bestCell_40_a 10 rfl)
theorem dX2_bestCell_90 : decode cX2_bestCell 90 = .ok (.if_icmp .ge 11, 3) := bd162 (a := 0) (b := 11) (btAt dk15bgoings_cX2_bestCell_40_a 11 rfl)
theorem dX2_bestCell_93 : decode cX2_bestCell 93 = .ok (.iload 7, 2) := bd21 (a := 7) (btAt dk15bgoings_cX2_bestCell_40_a 12 rfl)
theorem dX2_bestCell_95 : decode cX2_bestCell 95 = .ok (.istore 4, 2) := bd54 (a := 4) (btAt dk15bgoings_cX2_bestCell_40_a 13 rfl)
theorem dX2_bestCell_97 : decode cX2_bestCell 97 = .ok (.iload 6, 2) := bd21 (a := 6) (btAt dk15bgoings_cX2_bestCell_40_a 14 rfl)
theorem dX2_bestCell_99 : decode cX2_bestCell 99 = .ok (.istore 5, 2) := bd54 (a := 5) (btAt dk15bgoings_cX2_bestCell_40_a 15 rfl)
theorem kc_measure_0 : ∀ w ∈ wsX80, w ∈ wsX2_measure := fun w h => List.mem_cons_of_mem _ (gin_wsX80 w h)
theorem kc_measure_1 : (.fieldLink RX2 27 "MistHeaps$Scene" "heapCount" "I" : Cond) ∈ wsX2_measure := kc_of 171 rfl rfl rfl
theorem kc_measure_2 : ∀ w ∈ wsX20, w ∈ wsX2_measure := fun w h => List.mem_cons_of_mem _ (gin_wsX20 w h)
theorem kc_measure_3 : (.fieldLink RX2 9 "MistHeaps$Goings" "reach" "[I" : Cond) ∈ wsX2_measure := kc_of 261 rfl rfl rfl
theorem kc_measure_4 : (.fieldLink RX2 33 "MistHeaps$Scene" "heaps" "[LMistHeaps$Heap;" : Cond) ∈ wsX2_measure := kc_of 169 rfl rfl rfl
set_option maxHeartbeats 4000000 in
set_option maxRecDepth 100000 in
theorem c_measure (l : Launch) (dC : Nat → ClassId) (dI : Nat → Nat → Nat) (gd : Nat → Nat)    (sc : Nat) (go : Nat) (aTp : Nat) (aHl : Nat) (aHs : Nat) (aWk : Nat) (aBk : Nat) (aFc : Nat) (bW : Nat) (bA : Nat) (bE : Nat) (bC : Nat) (gR : Nat) (gO : Nat) (gS : Nat) (ts : Nat) (nh : Nat) (n : Nat) (wz : Nat) (bz : Nat) (lk : Nat) (cl : Nat) (mi : Int32) (sn : Int32) (sg : Int32) (cdd : Int32) (szz : Int32) (att : Int32) (nmb : Int32) (y : Int32) (ed : Int64) (cHs : ClassId) (cFc : ClassId) (cbW : ClassId) (cbA : ClassId) (cbE : ClassId) (cbC : ClassId) (cR : ClassId) (fFc : Nat → Int32) (fbW : Nat → Int32) (fbA : Nat → Int32) (fbE : Nat → Int32) (fbC : Nat → Int32) (fR : Nat → Int32) (yk : Nat → Int32) (yv : Nat → Int32) (yc : Nat → Int32) (fHs : Nat → Option Nat) (yi : Nat → Nat) (ya : Nat → Nat) (tpv : Value) (cz : List pCla) (sz : Nat) (zhs : ∀ k0, k0 < n → fHs k0 = some (ya k0)) (hn8 : n ≤ 8) (zcl : cl ≤ 10) (zE : ∀ k0, k0 < 10 → ∃ e0 : Nat, e0 ≤ 100 ∧ fbE k0 = nI e0) (zC : ∀ k0, k0 < 100 → okC (fbC k0)) (zHC : HC cl sg fbW fbA fbE fbC cz ∧ WfC cz) (zyt : ∀ k0, k0 < n → hpT (yi k0) (yk k0)) : Met l yX2_measure wsX2_measure ({ frames := 5, cells := 0, slots := 0, locals := 102 } : Room) (va_Pc [.ref go, .ref sc, .int y] (fun U => U.heap.size = sz ∧ va_P (dC, dI) vwCl [(zo4rrir go gR gO (nI lk) gS), (zaI gR cR 8 fR), (zo10ririliiriririr sc aTp (nI ts) aHl (nI nh) ed mi sn aHs (nI n) aWk (nI wz) aBk (nI bz) aFc), (zaR aHs cHs 8 fHs), (zaI aFc cFc 6 fFc)] U.heap ∧ va_K (dC, dI) vwCl [(cR, .int), (cHs, .object "MistHeaps$Heap"), (cFc, .int)] U ∧ va_D (fun _ => True) [(zo4rrir go gR gO (nI lk) gS), (zaI gR cR 8 fR), (zo10ririliiriririr sc aTp (nI ts) aHl (nI nh) ed mi sn aHs (nI n) aWk (nI wz) aBk (nI bz) aFc), (zaR aHs cHs 8 fHs), (zaI aFc cFc 6 fFc)] ∧ Gl gd (va_A [(zo4rrir go gR gO (nI lk) gS), (zaI gR cR 8 fR), (zo10ririliiriririr sc aTp (nI ts) aHl (nI nh) ed mi sn aHs (nI n) aWk (nI wz) aBk (nI bz) aFc), (zaR aHs cHs 8 fHs), (zaI aFc cFc 6 fFc)] sz) U ∧ Gw (va_A [(zo4rrir go gR gO (nI lk) gS), (zaI gR cR 8 fR), (zo10ririliiriririr sc aTp (nI ts) aHl (nI nh) ed mi sn aHs (nI n) aWk (nI wz) aBk (nI bz) aFc), (zaR aHs cHs 8 fHs), (zaI aFc cFc 6 fFc)] sz) U ∧ Fz dC dI [(zo7iirrrriviii aHl sg (nI cl) bW bA bE bC cdd tpv szz att nmb), (zaI bW cbW 10 fbW), (zaI bA cbA 10 fbA), (zaI bE cbE 10 fbE), (zaI bC cbC 100 fbC)] [(cbW, .int), (cbA, .int), (cbE, .int), (cbC, .int)] (va_A [(zo4rrir go gR gO (nI lk) gS), (zaI gR cR 8 fR), (zo10ririliiriririr sc aTp (nI ts) aHl (nI nh) ed mi sn aHs (nI n) aWk (nI wz) aBk (nI bz) aFc), (zaR aHs cHs 8 fHs), (zaI aFc cFc 6 fFc)] sz) U ∧ Hs dC dI n yi ya yk yv yc (va_A [(zo4rrir go gR gO (nI lk) gS), (zaI gR cR 8 fR), (zo10ririliiriririr sc aTp (nI ts) aHl (nI nh) ed mi sn aHs (nI n) aWk (nI wz) aBk (nI bz) aFc), (zaR aHs cHs 8 fHs), (zaI aFc cFc 6 fFc)] sz) U)) (va_Qv (fun (u : (Nat → Int32) × (Nat → Int32)) => match u with | (fR9, fFc9) => ∀ k0, k0 < n → fR9 k0 = RV cz mi y k0 (yk k0) (yv k0) (yc k0)) (fun (u : (Nat → Int32) × (Nat → Int32)) (t : State) => match u with | (fR9, fFc9) => va_P (dC, dI) vwCl [(zo4rrir go gR gO (nI lk) gS), (zaI gR cR 8 fR9), (zo10ririliiriririr sc aTp (nI ts) aHl (nI nh) ed mi sn aHs (nI n) aWk (nI wz) aBk (nI bz) aFc), (zaR aHs cHs 8 fHs), (zaI aFc cFc 6 fFc9)] t.heap ∧ va_K (dC, dI) vwCl [(cR, .int), (cHs, .object "MistHeaps$Heap"), (cFc, .int)] t ∧ va_D (va_A [(zo4rrir go gR gO (nI lk) gS), (zaI gR cR 8 fR), (zo10ririliiriririr sc aTp (nI ts) aHl (nI nh) ed mi sn aHs (nI n) aWk (nI wz) aBk (nI bz) aFc), (zaR aHs cHs 8 fHs), (zaI aFc cFc 6 fFc)] sz) [(zo4rrir go gR gO (nI lk) gS), (zaI gR cR 8 fR9), (zo10ririliiriririr sc aTp (nI ts) aHl (nI nh) ed mi sn aHs (nI n) aWk (nI wz) aBk (nI bz) aFc), (zaR aHs cHs 8 fHs), (zaI aFc cFc 6 fFc9)]) (va_A [(zo4rrir go gR gO (nI lk) gS), (zaI gR cR 8 fR), (zo10ririliiriririr sc aTp (nI ts) aHl (nI nh) ed mi sn aHs (nI n) aWk (nI wz) aBk (nI bz) aFc), (zaR aHs cHs 8 fHs), (zaI aFc cFc 6 fFc)] sz)) 0 0 (va_A [(zo4rrir go gR gO (nI lk) gS), (zaI gR cR 8 fR), (zo10ririliiriririr sc aTp (nI ts) aHl (nI nh) ed mi sn aHs (nI n) aWk (nI wz) aBk (nI bz) aFc), (zaR aHs cHs 8 fHs), (zaI aFc cFc 6 fFc)] sz) := by
  refine met_ofQ (cc := cX2_measure) (maxL := 4) (ret := none) (by decide) rfl ?_
  intro p e s m args below meth c s₁ Q B hml hv hQ
  obtain ⟨rfl, hsz, hP, hK, hD0, hG, hW_, hZ, hH_⟩ := hv
  have hx := B.exec
  have hb := B.bytes
  have hr := B.returns
  have hts := atoms_spec (ws := wsX2_measure) B.pre
  have hown : s.vm.findClass RX2 = some m.cls := findClass_of_methodNamed B.named
  have hlocks := B.notSynchronized
  subst hsz
  have hD := hD0.self (sz := s.heap.size)
  generalize hAe : va_A [(zo4rrir go gR gO (nI lk) gS), (zaI gR cR 8 fR), (zo10ririliiriririr sc aTp (nI ts) aHl (nI nh) ed mi sn aHs (nI n) aWk (nI wz) aBk (nI bz) aFc), (zaR aHs cHs 8 fHs), (zaI aFc cFc 6 fFc)] s.heap.size = A at hD hQ hG hW_ hZ hH_ ⊢
  have hA : ∀ q : Nat, s.heap.size ≤ q → A q := fun q h => by rw [← hAe]; exact Or.inr h
  have hS : va_S A s.heap s.heap [] := va_S.rf
  have hl := lv_entry [.ref go, .ref sc, .int y] (n := 4) (Nat.le_of_ble_eq_true rfl)
  rw [lg_entry_eq]
  generalize (lg_sl [.ref go, .ref sc, .int y] ++ List.replicate (4 - (lg_sl [.ref go, .ref sc, .int y]).length) Slot.unset).toArray = ls at hl ⊢
  generalize hag : ([.ref go, .ref sc, .int y] : List Value).toArray = args at hts hQ ⊢
  have hl : lv_has ls 4 [(0, .ref go), (1, .ref sc), (2, .int y)] := hl
  obtain ⟨H, hH⟩ : ∃ H : Heap, H = s.heap := ⟨_, rfl⟩
  rw [← hH] at hP
  rw [← hH]
  have hS : va_S A s.heap H [] := by rw [hH]; exact hS
  obtain ⟨locs, hlo⟩ : ∃ L : List Loc, L = [] := ⟨_, rfl⟩
  rw [← hlo] at hS
  rw [← hlo]
  clear hH hlo
  refine lv_iconst (v := 0) hx hb dX2_measure_0 (by decide) ?_
  refine lv_istore_n (lv' := [(3, .int 0), (0, .ref go), (1, .ref sc), (2, .int y)]) hx hb dX2_measure_1 rfl hl (by decide) rfl (fun ls hl => ?_)
  have L2 : ∀ (nF : Nat) (i : Nat) (fR2 : Nat → Int32) (fFc2 : Nat → Int32), n - i < nF → (i ≤ n) → (∀ k0, k0 < i → fR2 k0 = RV cz mi y k0 (yk k0) (yv k0) (yc k0)) → ∀ (H : Heap) (locs : List Loc), va_K (dC, dI) vwCl [(cR, .int), (cHs, .object "MistHeaps$Heap"), (cFc, .int)] s → va_P (dC, dI) vwCl [(zo4rrir go gR gO (nI lk) gS), (zaI gR cR 8 fR2), (zo10ririliiriririr sc aTp (nI ts) aHl (nI nh) ed mi sn aHs (nI n) aWk (nI wz) aBk (nI bz) aFc), (zaR aHs cHs 8 fHs), (zaI aFc cFc 6 fFc2)] H → va_D A [(zo4rrir go gR gO (nI lk) gS), (zaI gR cR 8 fR2), (zo10ririliiriririr sc aTp (nI ts) aHl (nI nh) ed mi sn aHs (nI n) aWk (nI wz) aBk (nI bz) aFc), (zaR aHs cHs 8 fHs), (zaI aFc cFc 6 fFc2)] → va_S A s.heap H locs → ∀ (ls : Array Slot), lv_has ls 4 [(0, .ref go), (1, .ref sc), (2, .int y), (3, .int (nI i))] → W p l e ({ frames := 5, cells := 0, slots := 0, locals := 102 } : Room) s m args below meth c H locs 0 0 Q (F0 m 2 ls []) := by
    intro nF
    induction nF with
    | zero => intro i fR2 fFc2 hm; exact absurd hm (Nat.not_lt_zero _)
    | succ nF ih2 =>
      intro i fR2 fFc2 hm hii hq9 H locs hK hP hD hS ls hl
      refine lv_iload_n hx hb dX2_measure_2 rfl (lv_at hl 3 rfl) ?_
      refine lv_aload_n hx hb dX2_measure_3 rfl (lv_at hl 1 rfl) ?_
      refine va_get (D := (dC, dI)) (ci := 10) (v := .int (nI n)) (C := RX8) (T := TX8) (N := 14) hx hb hts kc_measure_0 hown hK hP 2 rfl rfl 8 (by decide) (hts (.fieldLink RX2 27 "MistHeaps$Scene" "heapCount" "I") kc_measure_1) (fun _ h9 => h9) rfl dX2_measure_4 ?_
      refine lv_icmp_ge (tgt := 33) hx hb dX2_measure_7 (by decide) (fun c_1 => ?_) (fun c_1 => ?_)
      · skip
        have c_1 : n ≤ i := (nI_leI (a := n) (b := i) (by omega) (by omega)).mp c_1
        rw [hQ]
        have hP9 := hP.sub (ws' := [(zo4rrir go gR gO (nI lk) gS), (zaI gR cR 8 fR2), (zo10ririliiriririr sc aTp (nI ts) aHl (nI nh) ed mi sn aHs (nI n) aWk (nI wz) aBk (nI bz) aFc), (zaR aHs cHs 8 fHs), (zaI aFc cFc 6 fFc2)]) [0, 1, 2, 3, 4] rfl
        have hD9 := hD.sub (ws' := [(zo4rrir go gR gO (nI lk) gS), (zaI gR cR 8 fR2), (zo10ririliiriririr sc aTp (nI ts) aHl (nI nh) ed mi sn aHs (nI n) aWk (nI wz) aBk (nI bz) aFc), (zaR aHs cHs 8 fHs), (zaI aFc cFc 6 fFc2)]) [0, 1, 2, 3, 4] (by decide) rfl
        have hK9 := hK.sub (tys' := [(cR, .int), (cHs, .object "MistHeaps$Heap"), (cFc, .int)]) [0, 1, 2] rfl
        exact W.vret hx hb hr (fun tQ htQ hWQ => ⟨⟨(fR2, fFc2), rfl, fun k0 h0 => hq9 k0 (by omega), by rw [htQ]; exact hP9, va_K.moved hWQ.alike hK9, hD9⟩, hS.F htQ⟩) hS.2.2 dX2_measure_33
      · skip
        have c_1 : ¬ n ≤ i := fun q => c_1 ((nI_leI (a := n) (b := i) (by omega) (by omega)).mpr q)
        refine lv_aload_n hx hb dX2_measure_10 rfl (lv_at hl 0 rfl) ?_
        refine va_get (D := (dC, dI)) (ci := 4) (v := .ref gR) (C := RX2) (T := TX2) (N := 4) hx hb hts kc_measure_2 hown hK hP 0 rfl rfl 0 (by decide) (hts (.fieldLink RX2 9 "MistHeaps$Goings" "reach" "[I") kc_measure_3) (fun _ h9 => h9) rfl dX2_measure_11 ?_
        refine lv_iload_n hx hb dX2_measure_14 rfl (lv_at hl 3 rfl) ?_
        refine lv_aload_n hx hb dX2_measure_15 rfl (lv_at hl 1 rfl) ?_
        refine lv_aload_n hx hb dX2_measure_16 rfl (lv_at hl 1 rfl) ?_
        refine va_get (D := (dC, dI)) (ci := 10) (v := .ref aHs) (C := RX8) (T := TX8) (N := 14) hx hb hts kc_measure_0 hown hK hP 2 rfl rfl 7 (by decide) (hts (.fieldLink RX2 33 "MistHeaps$Scene" "heaps" "[LMistHeaps$Heap;") kc_measure_4) (fun _ h9 => h9) rfl dX2_measure_17 ?_
        refine lv_iload_n hx hb dX2_measure_20 rfl (lv_at hl 3 rfl) ?_
        refine va_aldq hx hb hK hP 3 1 rfl rfl (vp_in_nI (n := i) (N := 8) (by omega) (by omega)) dX2_measure_21 ?_
        refine qq_as (v := .ref (ya i)) (by rw [nI_clamp (by omega), zhs i (by omega)]; rfl) ?_
        refine lv_iload_n hx hb dX2_measure_22 rfl (lv_at hl 2 rfl) ?_
        have hPc := hP.sub (ws' := [(zo10ririliiriririr sc aTp (nI ts) aHl (nI nh) ed mi sn aHs (nI n) aWk (nI wz) aBk (nI bz) aFc), (zaI aFc cFc 6 fFc2)]) [2, 4] rfl
        have hDc := hD.sub (ws' := [(zo10ririliiriririr sc aTp (nI ts) aHl (nI nh) ed mi sn aHs (nI n) aWk (nI wz) aBk (nI bz) aFc), (zaI aFc cFc 6 fFc2)]) [2, 4] (by decide) rfl
        have hKc := hK.sub (tys' := [(cFc, .int)]) [2] rfl
        have hFc := va_free (wc := [(zo10ririliiriririr sc aTp (nI ts) aHl (nI nh) ed mi sn aHs (nI n) aWk (nI wz) aBk (nI bz) aFc), (zaI aFc cFc 6 fFc2)]) hD hS hA [2, 4] rfl
        refine va_calli (va_runV (As := [.ref (ya i), .int y]) (rest := [.int (nI i), .ref gR]) ⟨hx, hb, hml, hown, hts⟩ (c_xReach l dC dI gd    sc aTp aHl aHs aWk aBk aFc bW bA bE bC ts nh n wz bz cl i mi sn sg cdd szz att nmb y ed cFc cbW cbA cbE cbC fFc2 fbW fbA fbE fbC yk yv yc yi ya tpv cz H.size (by omega) (zcl) (zE) (zC) (zHC) (zyt)) (cwV 2 hts gX2_measure_X8_reachOf rfl rfl rfl hd_yX8_reachOf ⟨Nat.le_of_ble_eq_true rfl, Nat.le_of_ble_eq_true rfl⟩) ⟨fun a U g mk q => by obtain ⟨q0, q1, qP, qK, qD, qhG, qhW_, qhZ, qhH_⟩ := q; exact ⟨q0, mvz g mk a q1, mvP g mk a qP, mvK g mk a qK, qD, qhG.mv g mk a, qhW_.mv g mk a, qhZ.mv g mk a, qhH_.mv g mk a⟩, va_recv hK hP (ci := 10) (q := (RX8, TX8, 14)) (q0 := 2) rfl rfl, fun U hU hW => ⟨rfl, by rw [hU], by rw [hU]; exact hPc, va_K.moved hW.alike hKc, hDc.weaken (fun _ _ _ _ => trivial), hG.call hS hU hW (fun q h => hFc q h), hW_.call hS hU hW (fun q h => hFc q h), (hZ.sub [0, 1, 2, 3, 4] [0, 1, 2, 3] rfl rfl).call hS hU hW (fun q h => hFc q h), hH_.call hS hU hW (fun q h => hFc q h)⟩⟩ rfl rfl hl.1 rfl (lv_room (Nat.le_of_ble_eq_true rfl)) dX2_measure_23 ⟨Nat.le_of_ble_eq_true rfl, Nat.le_of_ble_eq_true rfl⟩) hS (fun q _ h => hFc q h) hFc (fun r_2 u tC H1 locs htC hvm hw_3 hB hz1 hk1 hS => ?_)
        obtain ⟨fFc9_4, rfl⟩ : ∃ z, z = u := ⟨_, rfl⟩
        try dsimp only at hw_3 hB
        obtain ⟨hP1, hK1, hD1⟩ := hB
        rw [htC] at hP1
        have hK1 := va_K.moved hvm.symm hK1
        obtain ⟨hP, hD⟩ := va_join (wr := [(zo4rrir go gR gO (nI lk) gS), (zaI gR cR 8 fR2), (zaR aHs cHs 8 fHs)]) (w1 := [(zo10ririliiriririr sc aTp (nI ts) aHl (nI nh) ed mi sn aHs (nI n) aWk (nI wz) aBk (nI bz) aFc), (zaI aFc cFc 6 fFc9_4)]) hP hD [2, 4] [0, 1, 3] rfl rfl (by decide) (by decide) hk1 hFc hP1 hD1
        have hK := (hK.sub (tys' := [(cR, .int), (cHs, .object "MistHeaps$Heap")]) [0, 1] rfl).app hK1
        generalize H1 = H at hP hS ⊢
        have hP : va_P (dC, dI) vwCl [(zo4rrir go gR gO (nI lk) gS), (zaI gR cR 8 fR2), (zaR aHs cHs 8 fHs), (zo10ririliiriririr sc aTp (nI ts) aHl (nI nh) ed mi sn aHs (nI n) aWk (nI wz) aBk (nI bz) aFc), (zaI aFc cFc 6 fFc9_4)] H := hP
        have hD : va_D A [(zo4rrir go gR gO (nI lk) gS), (zaI gR cR 8 fR2), (zaR aHs cHs 8 fHs), (zo10ririliiriririr sc aTp (nI ts) aHl (nI nh) ed mi sn aHs (nI n) aWk (nI wz) aBk (nI bz) aFc), (zaI aFc cFc 6 fFc9_4)] := hD
        have hK : va_K (dC, dI) vwCl [(cR, .int), (cHs, .object "MistHeaps$Heap"), (cFc, .int)] s := hK
        obtain rfl := hw_3
        refine va_iast hx hb hK hP hD hS 1 0 rfl rfl (vp_in_nI (n := i) (N := 8) (by omega) (by omega)) dX2_measure_26 (fun H locs hP hD hS => ?_)
        rw [nI_clamp (n := i) (by omega)] at hP hD
        have hP : va_P (dC, dI) vwCl [(zo4rrir go gR gO (nI lk) gS), (zaI gR cR 8 (upd fR2 i (RV cz mi y i (yk i) (yv i) (yc i)))), (zaR aHs cHs 8 fHs), (zo10ririliiriririr sc aTp (nI ts) aHl (nI nh) ed mi sn aHs (nI n) aWk (nI wz) aBk (nI bz) aFc), (zaI aFc cFc 6 fFc9_4)] H := hP
        have hD : va_D A [(zo4rrir go gR gO (nI lk) gS), (zaI gR cR 8 (upd fR2 i (RV cz mi y i (yk i) (yv i) (yc i)))), (zaR aHs cHs 8 fHs), (zo10ririliiriririr sc aTp (nI ts) aHl (nI nh) ed mi sn aHs (nI n) aWk (nI wz) aBk (nI bz) aFc), (zaI aFc cFc 6 fFc9_4)] := hD
        refine lv_iinc (v := nI (i + 1)) (lv' := [(3, .int (nI (i + 1))), (0, .ref go), (1, .ref sc), (2, .int y)]) hx hb dX2_measure_27 hl (k := 3) rfl (nI_add i 1) (by decide) rfl (fun ls hl => ?_)
        refine lv_goto (tgt := 2) hx hb dX2_measure_30 (by decide) ?_
        exact ih2 (i + 1) _ _ (by omega) (by omega) (me_up (g := fun k0 => RV cz mi y k0 (yk k0) (yv k0) (yc k0)) hq9) _ _ (hK.sub [0, 1, 2] rfl) (hP.sub [0, 1, 3, 2, 4] rfl) (hD.sub [0, 1, 3, 2, 4] (by decide) rfl) hS ls (lv_sub hl [1, 2, 3, 0] rfl)
  exact L2 _ (0) _ _ (Nat.lt_succ_self _) (by omega) (fun k0 h0 => absurd h0 (Nat.not_lt_zero k0)) _ _ (hK.sub [0, 1, 2] rfl) (hP.sub [0, 1, 2, 3, 4] rfl) (hD.sub [0, 1, 2, 3, 4] (by decide) rfl) hS ls (lv_sub hl [1, 2, 3, 0] rfl)

theorem kc_seenFrom_0 : ∀ w ∈ wsX80, w ∈ wsX2_seenFrom := fun w h => List.mem_cons_of_mem _ (gin_wsX80 w h)
theorem kc_seenFrom_1 : (.fieldLink RX2 27 "MistHeaps$Scene" "heapCount" "I" : Cond) ∈ wsX2_seenFrom := kc_of 171 rfl rfl rfl
theorem kc_seenFrom_2 : (.fieldLink RX2 33 "MistHeaps$Scene" "heaps" "[LMistHeaps$Heap;" : Cond) ∈ wsX2_seenFrom := kc_of 169 rfl rfl rfl
theorem kc_seenFrom_3 : (.fieldLink RX2 41 "MistHeaps$Heap" "cell" "I" : Cond) ∈ wsX2_seenFrom := kc_of 249 rfl rfl rfl
theorem kc_seenFrom_5 : (.initialized RX11 : Cond) ∈ wsX2_seenFrom := kc_of 63 rfl rfl rfl
theorem kc_seenFrom_6 : (.static yX11_apart : Cond) ∈ wsX2_seenFrom := kc_of 699 rfl rfl rfl
theorem kc_seenFrom_7 : ∀ w ∈ wsX20, w ∈ wsX2_seenFrom := fun w h => List.mem_cons_of_mem _ (gin_wsX20 w h)
theorem kc_seenFrom_8 : (.fieldLink RX2 9 "MistHeaps$Goings" "reach" "[I" : Cond) ∈ wsX2_seenFrom := kc_of 261 rfl rfl rfl
theorem kc_seenFrom_4 : ∀ C ∈ hpC, ∀ w ∈ u_ws C.1 C.2.1 C.2.2, w ∈ wsX2_seenFrom := by decide +kernel
set_option maxHeartbeats 4000000 in
set_option maxRecDepth 100000 in
theorem c_seenFrom (l : Launch) (dC : Nat → ClassId) (dI : Nat → Nat → Nat) (gd : Nat → Nat)  (sc : Nat) (go : Nat) (aTp : Nat) (aHl : Nat) (aHs : Nat) (aWk : Nat) (aBk : Nat) (aFc : Nat) (gR : Nat) (gO : Nat) (gS : Nat) (ts : Nat) (nh : Nat) (n : Nat) (wz : Nat) (bz : Nat) (lk : Nat) (mi : Int32) (sn : Int32) (x : Int32) (ed : Int64) (cHs : ClassId) (cR : ClassId) (fR : Nat → Int32) (yk : Nat → Int32) (yv : Nat → Int32) (yc : Nat → Int32) (fHs : Nat → Option Nat) (yi : Nat → Nat) (ya : Nat → Nat) (zhs : ∀ k0, k0 < n → fHs k0 = some (ya k0)) (hn8 : n ≤ 8) : Met l yX2_seenFrom wsX2_seenFrom ({ frames := 2, cells := 0, slots := 0, locals := 41 } : Room) (va_Pc [.ref go, .ref sc, .int x] (fun U => va_P (dC, dI) vwCl [(zo4rrir go gR gO (nI lk) gS), (zaI gR cR 8 fR), (zo10ririliiriririr sc aTp (nI ts) aHl (nI nh) ed mi sn aHs (nI n) aWk (nI wz) aBk (nI bz) aFc), (zaR aHs cHs 8 fHs)] U.heap ∧ va_K (dC, dI) vwCl [(cR, .int), (cHs, .object "MistHeaps$Heap")] U ∧ Gl gd (fun _ => False) U ∧ Hs dC dI n yi ya yk yv yc (fun _ => False) U)) (vp_Si (fun r => r = sbR (fun kq => apR x (yc kq)) fR n)) 0 0 (fun _ => False) := by
  refine met_ofQ (cc := cX2_seenFrom) (maxL := 5) (ret := (some .int)) (by decide) rfl ?_
  intro p e s m args below meth c s₁ Q B hml hv hQ
  obtain ⟨rfl, hP, hK, hG, hH_⟩ := hv
  have hx := B.exec
  have hb := B.bytes
  have hr := B.returns
  have hts := atoms_spec (ws := wsX2_seenFrom) B.pre
  have hown : s.vm.findClass RX2 = some m.cls := findClass_of_methodNamed B.named
  have hlocks := B.notSynchronized
  obtain ⟨A, hAe⟩ : ∃ A : Nat → Prop, A = fun _ => False := ⟨_, rfl⟩
  rw [← hAe] at hQ hG hH_
  have hS : va_S A s.heap s.heap [] := va_S.rf
  have hl := lv_entry [.ref go, .ref sc, .int x] (n := 5) (Nat.le_of_ble_eq_true rfl)
  rw [lg_entry_eq]
  generalize (lg_sl [.ref go, .ref sc, .int x] ++ List.replicate (5 - (lg_sl [.ref go, .ref sc, .int x]).length) Slot.unset).toArray = ls at hl ⊢
  generalize hag : ([.ref go, .ref sc, .int x] : List Value).toArray = args at hts hQ ⊢
  have hl : lv_has ls 5 [(0, .ref go), (1, .ref sc), (2, .int x)] := hl
  refine lv_iconst (v := 0) hx hb dX2_seenFrom_0 (by decide) ?_
  refine lv_istore_n (lv' := [(3, .int 0), (0, .ref go), (1, .ref sc), (2, .int x)]) hx hb dX2_seenFrom_1 rfl hl (by decide) rfl (fun ls hl => ?_)
  refine lv_iconst (v := 0) hx hb dX2_seenFrom_2 (by decide) ?_
  refine lv_istore (lv' := [(4, .int 0), (3, .int 0), (0, .ref go), (1, .ref sc), (2, .int x)]) hx hb dX2_seenFrom_3 hl (by decide) rfl (fun ls hl => ?_)
  have L5 : ∀ (nF : Nat) (i : Nat) (q : Int32), n - i < nF → (i ≤ n) → (q = sbR (fun k => apR x (yc k)) fR i) → ∀ (ls : Array Slot), lv_has ls 5 [(0, .ref go), (1, .ref sc), (2, .int x), (3, .int q), (4, .int (nI i))] → W p l e ({ frames := 2, cells := 0, slots := 0, locals := 41 } : Room) s m args below meth c s.heap [] 0 0 Q (F0 m 5 ls []) := by
    intro nF
    induction nF with
    | zero => intro i q hm; exact absurd hm (Nat.not_lt_zero _)
    | succ nF ih5 =>
      intro i q hm hi hq9 ls hl
      refine lv_iload hx hb dX2_seenFrom_5 (lv_at hl 4 rfl) ?_
      refine lv_aload_n hx hb dX2_seenFrom_7 rfl (lv_at hl 1 rfl) ?_
      refine va_get (D := (dC, dI)) (ci := 10) (v := .int (nI n)) (C := RX8) (T := TX8) (N := 14) hx hb hts kc_seenFrom_0 hown hK hP 2 rfl rfl 8 (by decide) (hts (.fieldLink RX2 27 "MistHeaps$Scene" "heapCount" "I") kc_seenFrom_1) (fun _ h9 => h9) rfl dX2_seenFrom_8 ?_
      refine lv_icmp_ge (tgt := 51) hx hb dX2_seenFrom_11 (by decide) (fun c_1 => ?_) (fun c_1 => ?_)
      · skip
        have c_1 : n ≤ i := (nI_leI (a := n) (b := i) (by omega) (by omega)).mp c_1
        refine lv_iload_n hx hb dX2_seenFrom_51 rfl (lv_at hl 3 rfl) ?_
        rw [hQ]
        exact W.iret (v := q) hx hb hr (fun tQ htQ hWQ => ⟨q, rfl, sb_end hq9 (by omega), by rw [htQ]⟩) (fun q hq => absurd hq List.not_mem_nil) dX2_seenFrom_52
      · skip
        have c_1 : ¬ n ≤ i := fun q => c_1 ((nI_leI (a := n) (b := i) (by omega) (by omega)).mpr q)
        refine lv_iload_n hx hb dX2_seenFrom_14 rfl (lv_at hl 2 rfl) ?_
        refine lv_aload_n hx hb dX2_seenFrom_15 rfl (lv_at hl 1 rfl) ?_
        refine va_get (D := (dC, dI)) (ci := 10) (v := .ref aHs) (C := RX8) (T := TX8) (N := 14) hx hb hts kc_seenFrom_0 hown hK hP 2 rfl rfl 7 (by decide) (hts (.fieldLink RX2 33 "MistHeaps$Scene" "heaps" "[LMistHeaps$Heap;") kc_seenFrom_2) (fun _ h9 => h9) rfl dX2_seenFrom_16 ?_
        refine lv_iload hx hb dX2_seenFrom_19 (lv_at hl 4 rfl) ?_
        refine va_aldq hx hb hK hP 3 1 rfl rfl (vp_in_nI (n := i) (N := 8) (by omega) (by omega)) dX2_seenFrom_21 ?_
        refine qq_as (v := .ref (ya i)) (by rw [nI_clamp (by omega), zhs i (by omega)]; rfl) ?_
        refine va_hget3 (v := .int (yc i)) hx hb hts kc_seenFrom_4 hown (hH_ i (by omega)).1 (hH_ i (by omega)).2 hS (hts (.fieldLink RX2 41 "MistHeaps$Heap" "cell" "I") kc_seenFrom_3) dX2_seenFrom_22 rfl ?_
        refine vp_callSi (va_runSN (As := [.int x, .int (yc i)]) (rest := []) ⟨hx, hb, hml, hown, hts⟩ (c_xApart l dC dI x (yc i)) ⟨va_cnB 2 hts ggX2_seenFrom_X11_apart rfl rfl rfl (hG.1 (.methodLinkNest RX2 44 yX11_apart "MistHeaps") (by decide +kernel)) (hts (.initialized RX11) kc_seenFrom_5) (by decide +kernel) ⟨Nat.le_of_ble_eq_true rfl, Nat.le_of_ble_eq_true rfl⟩, (hts (.static yX11_apart) kc_seenFrom_6), trivial⟩ ⟨fun a U g mk q => ⟨q.1, trivial⟩, fun U hU hW => ⟨rfl, trivial⟩⟩ rfl rfl hl.1 rfl (lv_room (Nat.le_of_ble_eq_true rfl)) dX2_seenFrom_25 ⟨Nat.le_of_ble_eq_true rfl, Nat.le_of_ble_eq_true rfl⟩).run (fun r_2 hw_3 => ?_)
        obtain rfl := hw_3
        refine lv_aload_n hx hb dX2_seenFrom_28 rfl (lv_at hl 0 rfl) ?_
        refine va_get (D := (dC, dI)) (ci := 4) (v := .ref gR) (C := RX2) (T := TX2) (N := 4) hx hb hts kc_seenFrom_7 hown hK hP 0 rfl rfl 0 (by decide) (hts (.fieldLink RX2 9 "MistHeaps$Goings" "reach" "[I") kc_seenFrom_8) (fun _ h9 => h9) rfl dX2_seenFrom_29 ?_
        refine lv_iload hx hb dX2_seenFrom_32 (lv_at hl 4 rfl) ?_
        refine va_iald hx hb hK hP 1 0 rfl rfl (vp_in_nI (n := i) (N := 8) (by omega) (by omega)) dX2_seenFrom_34 ?_
        refine qi_as (y := fR i) (by rw [nI_clamp (by omega)]) ?_
        refine lv_icmp_gt (tgt := 45) hx hb dX2_seenFrom_35 (by decide) (fun c_4 => ?_) (fun c_4 => ?_)
        · skip
          refine lv_iinc (v := nI (i + 1)) (lv' := [(4, .int (nI (i + 1))), (0, .ref go), (1, .ref sc), (2, .int x), (3, .int q)]) hx hb dX2_seenFrom_45 hl (k := 4) rfl (nI_add i 1) (by decide) rfl (fun ls hl => ?_)
          refine lv_goto (tgt := 5) hx hb dX2_seenFrom_48 (by decide) ?_
          exact ih5 (i + 1) (q) (by omega) (by omega) (sb_n hq9 c_4) ls (lv_sub hl [1, 2, 3, 4, 0] rfl)
        · skip
          refine lv_iload_n hx hb dX2_seenFrom_38 rfl (lv_at hl 3 rfl) ?_
          refine lv_iconst (v := 1) hx hb dX2_seenFrom_39 (by decide) ?_
          refine lv_iload hx hb dX2_seenFrom_40 (lv_at hl 4 rfl) ?_
          refine lv_ishl hx hb dX2_seenFrom_42 ?_
          refine lv_ior hx hb dX2_seenFrom_43 ?_
          refine lv_istore_n (lv' := [(3, .int (q ||| (1 <<< ((nI i) &&& 31)))), (0, .ref go), (1, .ref sc), (2, .int x), (4, .int (nI i))]) hx hb dX2_seenFrom_44 rfl hl (by decide) rfl (fun ls hl => ?_)
          refine lv_iinc (v := nI (i + 1)) (lv' := [(4, .int (nI (i + 1))), (3, .int (q ||| (1 <<< ((nI i) &&& 31)))), (0, .ref go), (1, .ref sc), (2, .int x)]) hx hb dX2_seenFrom_45 hl (k := 4) rfl (nI_add i 1) (by decide) rfl (fun ls hl => ?_)
          refine lv_goto (tgt := 5) hx hb dX2_seenFrom_48 (by decide) ?_
          exact ih5 (i + 1) (q ||| (1 <<< ((nI i) &&& 31))) (by omega) (by omega) (sb_1 hq9 c_4) ls (lv_sub hl [2, 3, 4, 1, 0] rfl)
  exact L5 _ (0) (0) (Nat.lt_succ_self _) (by omega) (rfl) ls (lv_sub hl [2, 3, 4, 1, 0] rfl)

theorem kc_tgHH_0 : (.fieldLink RX2 59 "MistHeaps$Heap" "number" "I" : Cond) ∈ wsX2_tellGoing := kc_of 234 rfl rfl rfl
theorem kc_tgHH_2 : ∀ w ∈ wsX20, w ∈ wsX2_tellGoing := fun w h => List.mem_cons_of_mem _ (gin_wsX20 w h)
theorem kc_tgHH_3 : (.fieldLink RX2 15 "MistHeaps$Goings" "onward" "[I" : Cond) ∈ wsX2_tellGoing := kc_of 262 rfl rfl rfl
theorem kc_tgHH_4 : (.fieldLink RX2 41 "MistHeaps$Heap" "cell" "I" : Cond) ∈ wsX2_tellGoing := kc_of 249 rfl rfl rfl
theorem kc_tgHH_5 : (.initialized RX11 : Cond) ∈ wsX2_tellGoing := kc_of 63 rfl rfl rfl
theorem kc_tgHH_6 : (.static yX11_apart : Cond) ∈ wsX2_tellGoing := kc_of 699 rfl rfl rfl
theorem kc_tgHH_7 : (.fieldLink RX2 9 "MistHeaps$Goings" "reach" "[I" : Cond) ∈ wsX2_tellGoing := kc_of 261 rfl rfl rfl
theorem kc_tgHH_8 : (.code yX3_leadsTo cX3_leadsTo 2 (some .boolean) : Cond) ∈ wsX2_tellGoing := kc_of 753 rfl rfl rfl
theorem kc_tgHH_1 : ∀ C ∈ hpC, ∀ w ∈ u_ws C.1 C.2.1 C.2.2, w ∈ wsX2_tellGoing := by decide +kernel
set_option maxHeartbeats 4000000 in
set_option maxRecDepth 100000 in
theorem c_tgHH (l : Launch) (dC : Nat → ClassId) (dI : Nat → Nat → Nat) (gd : Nat → Nat) (kA : Nat)  (go : Nat) (gR : Nat) (gO : Nat) (gS : Nat) (n : Nat) (lk : Nat) (i : Nat) (j : Nat) (cR : ClassId) (cO : ClassId) (fR : Nat → Int32) (fO : Nat → Int32) (yk : Nat → Int32) (yv : Nat → Int32) (yc : Nat → Int32) (yi : Nat → Nat) (ya : Nat → Nat) (sz : Nat) (hin : i < n) (hjn : j < n) (hn8 : n ≤ 8) (zyv : ∀ k0, k0 < n → ∃ v0 : Nat, v0 ≤ 9 ∧ yv k0 = nI v0) (zyc : ∀ k0, k0 < n → ∃ v0 : Nat, v0 < 36 ∧ yc k0 = nI v0) (zyt : ∀ k0, k0 < n → hpT (yi k0) (yk k0)) : Met l yX2_tellGoing wsX2_tellGoing ({ frames := 2, cells := 0, slots := 0, locals := 43 } : Room) (va_Pc [.ref go, .ref (ya i), .ref (ya j)] (fun U => U.heap.size = sz ∧ va_P (dC, dI) vwCl [(zo4rrir go gR gO (nI lk) gS), (zaI gR cR 8 fR), (zaI gO cO 8 fO)] U.heap ∧ va_K (dC, dI) vwCl [(cR, .int), (cO, .int)] U ∧ va_D (fun _ => True) [(zo4rrir go gR gO (nI lk) gS), (zaI gR cR 8 fR), (zaI gO cO 8 fO)] ∧ Gl gd (va_A [(zo4rrir go gR gO (nI lk) gS), (zaI gR cR 8 fR), (zaI gO cO 8 fO)] sz) U ∧ Gn kA (va_A [(zo4rrir go gR gO (nI lk) gS), (zaI gR cR 8 fR), (zaI gO cO 8 fO)] sz) U ∧ Hs dC dI n yi ya yk yv yc (va_A [(zo4rrir go gR gO (nI lk) gS), (zaI gR cR 8 fR), (zaI gO cO 8 fO)] sz) U)) (va_Qv (fun (u : Nat → Int32) => match u with | fO9 => ∃ q9 : Int32, fO9 = upd fO i q9 ∧ tgB (goK fR yk yv yc i j) (fO i) j q9) (fun (u : Nat → Int32) (t : State) => match u with | fO9 => va_P (dC, dI) vwCl [(zo4rrir go gR gO (nI lk) gS), (zaI gR cR 8 fR), (zaI gO cO 8 fO9)] t.heap ∧ va_K (dC, dI) vwCl [(cR, .int), (cO, .int)] t ∧ va_D (va_A [(zo4rrir go gR gO (nI lk) gS), (zaI gR cR 8 fR), (zaI gO cO 8 fO)] sz) [(zo4rrir go gR gO (nI lk) gS), (zaI gR cR 8 fR), (zaI gO cO 8 fO9)]) (va_A [(zo4rrir go gR gO (nI lk) gS), (zaI gR cR 8 fR), (zaI gO cO 8 fO)] sz)) 0 0 (va_A [(zo4rrir go gR gO (nI lk) gS), (zaI gR cR 8 fR), (zaI gO cO 8 fO)] sz) := by
  refine met_ofQ (cc := cX2_tellGoing) (maxL := 5) (ret := none) (by decide) rfl ?_
  intro p e s m args below meth c s₁ Q B hml hv hQ
  obtain ⟨rfl, hsz, hP, hK, hD0, hG, hN_, hH_⟩ := hv
  have hx := B.exec
  have hb := B.bytes
  have hr := B.returns
  have hts := atoms_spec (ws := wsX2_tellGoing) B.pre
  have hown : s.vm.findClass RX2 = some m.cls := findClass_of_methodNamed B.named
  have hlocks := B.notSynchronized
  subst hsz
  have hD := hD0.self (sz := s.heap.size)
  generalize hAe : va_A [(zo4rrir go gR gO (nI lk) gS), (zaI gR cR 8 fR), (zaI gO cO 8 fO)] s.heap.size = A at hD hQ hG hN_ hH_ ⊢
  have hA : ∀ q : Nat, s.heap.size ≤ q → A q := fun q h => by rw [← hAe]; exact Or.inr h
  have hS : va_S A s.heap s.heap [] := va_S.rf
  have hl := lv_entry [.ref go, .ref (ya i), .ref (ya j)] (n := 5) (Nat.le_of_ble_eq_true rfl)
  rw [lg_entry_eq]
  generalize (lg_sl [.ref go, .ref (ya i), .ref (ya j)] ++ List.replicate (5 - (lg_sl [.ref go, .ref (ya i), .ref (ya j)]).length) Slot.unset).toArray = ls at hl ⊢
  generalize hag : ([.ref go, .ref (ya i), .ref (ya j)] : List Value).toArray = args at hts hQ ⊢
  have hl : lv_has ls 5 [(0, .ref go), (1, .ref (ya i)), (2, .ref (ya j))] := hl
  obtain ⟨H, hH⟩ : ∃ H : Heap, H = s.heap := ⟨_, rfl⟩
  rw [← hH] at hP
  rw [← hH]
  have hS : va_S A s.heap H [] := by rw [hH]; exact hS
  obtain ⟨locs, hlo⟩ : ∃ L : List Loc, L = [] := ⟨_, rfl⟩
  rw [← hlo] at hS
  rw [← hlo]
  clear hH hlo
  refine lv_aload_n hx hb dX2_tellGoing_0 rfl (lv_at hl 1 rfl) ?_
  refine va_hget1 (v := .int (nI i)) hx hb hts kc_tgHH_1 hown (hH_ i (by omega)).1 (hH_ i (by omega)).2 hS (hts (.fieldLink RX2 59 "MistHeaps$Heap" "number" "I") kc_tgHH_0) dX2_tellGoing_1 rfl ?_
  refine lv_aload_n hx hb dX2_tellGoing_4 rfl (lv_at hl 2 rfl) ?_
  refine va_hget1 (v := .int (nI j)) hx hb hts kc_tgHH_1 hown (hH_ j (by omega)).1 (hH_ j (by omega)).2 hS (hts (.fieldLink RX2 59 "MistHeaps$Heap" "number" "I") kc_tgHH_0) dX2_tellGoing_5 rfl ?_
  refine lv_icmp_eq (tgt := 49) hx hb dX2_tellGoing_8 (by decide) (fun c_1 => ?_) (fun c_1 => ?_)
  · skip
    have c_1 : i = j := (nI_eq (a := i) (b := j) (by omega) (by omega)).mp c_1
    refine lv_iconst (v := 0) hx hb dX2_tellGoing_49 (by decide) ?_
    refine lv_istore_n (lv' := [(3, .int 0), (0, .ref go), (1, .ref (ya i)), (2, .ref (ya j))]) hx hb dX2_tellGoing_50 rfl hl (by decide) rfl (fun ls hl => ?_)
    refine lv_iconst (v := 1) hx hb dX2_tellGoing_51 (by decide) ?_
    refine lv_aload_n hx hb dX2_tellGoing_52 rfl (lv_at hl 3 rfl) ?_
    refine va_hget1 (v := .int (nI j)) hx hb hts kc_tgHH_1 hown (hH_ j (by omega)).1 (hH_ j (by omega)).2 hS (hts (.fieldLink RX2 59 "MistHeaps$Heap" "number" "I") kc_tgHH_0) dX2_tellGoing_53 rfl ?_
    refine lv_ishl hx hb dX2_tellGoing_56 ?_
    refine lv_istore (lv' := [(4, .int (1 <<< ((nI j) &&& 31))), (3, .int 0), (0, .ref go), (1, .ref (ya i)), (2, .ref (ya j))]) hx hb dX2_tellGoing_57 hl (by decide) rfl (fun ls hl => ?_)
    refine lv_aload_n hx hb dX2_tellGoing_59 rfl (lv_at hl 2 rfl) ?_
    refine va_get (D := (dC, dI)) (ci := 4) (v := .ref gO) (C := RX2) (T := TX2) (N := 4) hx hb hts kc_tgHH_2 hown hK hP 0 rfl rfl 1 (by decide) (hts (.fieldLink RX2 15 "MistHeaps$Goings" "onward" "[I") kc_tgHH_3) (fun _ h9 => h9) rfl dX2_tellGoing_60 ?_
    refine lv_aload_n hx hb dX2_tellGoing_63 rfl (lv_at hl 3 rfl) ?_
    refine va_hget1 (v := .int (nI i)) hx hb hts kc_tgHH_1 hown (hH_ i (by omega)).1 (hH_ i (by omega)).2 hS (hts (.fieldLink RX2 59 "MistHeaps$Heap" "number" "I") kc_tgHH_0) dX2_tellGoing_64 rfl ?_
    refine lv_iload_n hx hb dX2_tellGoing_67 rfl (lv_at hl 1 rfl) ?_
    refine lv_if_eq (tgt := 86) hx hb dX2_tellGoing_68 (by decide) (fun _ => ?_) (fun c_2 => absurd c_2 (by decide))
    refine lv_aload_n hx hb dX2_tellGoing_86 rfl (lv_at hl 2 rfl) ?_
    refine va_get (D := (dC, dI)) (ci := 4) (v := .ref gO) (C := RX2) (T := TX2) (N := 4) hx hb hts kc_tgHH_2 hown hK hP 0 rfl rfl 1 (by decide) (hts (.fieldLink RX2 15 "MistHeaps$Goings" "onward" "[I") kc_tgHH_3) (fun _ h9 => h9) rfl dX2_tellGoing_87 ?_
    refine lv_aload_n hx hb dX2_tellGoing_90 rfl (lv_at hl 3 rfl) ?_
    refine va_hget1 (v := .int (nI i)) hx hb hts kc_tgHH_1 hown (hH_ i (by omega)).1 (hH_ i (by omega)).2 hS (hts (.fieldLink RX2 59 "MistHeaps$Heap" "number" "I") kc_tgHH_0) dX2_tellGoing_91 rfl ?_
    refine va_iald hx hb hK hP 2 1 rfl rfl (vp_in_nI (n := i) (N := 8) (by omega) (by omega)) dX2_tellGoing_94 ?_
    refine qi_as (y := fO i) (by rw [nI_clamp (by omega)]) ?_
    refine lv_iload hx hb dX2_tellGoing_95 (lv_at hl 0 rfl) ?_
    refine lv_iconst (v := (-1)) hx hb dX2_tellGoing_97 (by decide) ?_
    refine lv_ixor hx hb dX2_tellGoing_98 ?_
    refine lv_iand hx hb dX2_tellGoing_99 ?_
    refine va_iast hx hb hK hP hD hS 2 1 rfl rfl (vp_in_nI (n := i) (N := 8) (by omega) (by omega)) dX2_tellGoing_100 (fun H locs hP hD hS => ?_)
    rw [nI_clamp (n := i) (by omega)] at hP hD
    have hP : va_P (dC, dI) vwCl [(zo4rrir go gR gO (nI lk) gS), (zaI gR cR 8 fR), (zaI gO cO 8 (upd fO i ((fO i) &&& ((1 <<< ((nI j) &&& 31)) ^^^ (-1)))))] H := hP
    have hD : va_D A [(zo4rrir go gR gO (nI lk) gS), (zaI gR cR 8 fR), (zaI gO cO 8 (upd fO i ((fO i) &&& ((1 <<< ((nI j) &&& 31)) ^^^ (-1)))))] := hD
    rw [hQ]
    have hP9 := hP.sub (ws' := [(zo4rrir go gR gO (nI lk) gS), (zaI gR cR 8 fR), (zaI gO cO 8 (upd fO i ((fO i) &&& ((1 <<< ((nI j) &&& 31)) ^^^ (-1)))))]) [0, 1, 2] rfl
    have hD9 := hD.sub (ws' := [(zo4rrir go gR gO (nI lk) gS), (zaI gR cR 8 fR), (zaI gO cO 8 (upd fO i ((fO i) &&& ((1 <<< ((nI j) &&& 31)) ^^^ (-1)))))]) [0, 1, 2] (by decide) rfl
    have hK9 := hK.sub (tys' := [(cR, .int), (cO, .int)]) [0, 1] rfl
    exact W.vret hx hb hr (fun tQ htQ hWQ => ⟨⟨(upd fO i ((fO i) &&& ((1 <<< ((nI j) &&& 31)) ^^^ (-1)))), rfl, ⟨_, rfl, tgB_f (by omega) (fun z9 => z9.1 (by omega))⟩, by rw [htQ]; exact hP9, va_K.moved hWQ.alike hK9, hD9⟩, hS.F htQ⟩) hS.2.2 dX2_tellGoing_101
  · skip
    have c_1 : ¬ i = j := fun q => c_1 ((nI_eq (a := i) (b := j) (by omega) (by omega)).mpr q)
    refine lv_aload_n hx hb dX2_tellGoing_11 rfl (lv_at hl 1 rfl) ?_
    refine va_hget3 (v := .int (yc i)) hx hb hts kc_tgHH_1 hown (hH_ i (by omega)).1 (hH_ i (by omega)).2 hS (hts (.fieldLink RX2 41 "MistHeaps$Heap" "cell" "I") kc_tgHH_4) dX2_tellGoing_12 rfl ?_
    refine lv_aload_n hx hb dX2_tellGoing_15 rfl (lv_at hl 2 rfl) ?_
    refine va_hget3 (v := .int (yc j)) hx hb hts kc_tgHH_1 hown (hH_ j (by omega)).1 (hH_ j (by omega)).2 hS (hts (.fieldLink RX2 41 "MistHeaps$Heap" "cell" "I") kc_tgHH_4) dX2_tellGoing_16 rfl ?_
    refine vp_callSi (va_runSN (As := [.int (yc i), .int (yc j)]) (rest := []) ⟨hx, hb, hml, hown, hts⟩ (c_xApart l dC dI (yc i) (yc j)) ⟨va_cnB 2 hts ggX2_tellGoing_X11_apart rfl rfl rfl (hG.1 (.methodLinkNest RX2 44 yX11_apart "MistHeaps") (by decide +kernel)) (hts (.initialized RX11) kc_tgHH_5) (by decide +kernel) ⟨Nat.le_of_ble_eq_true rfl, Nat.le_of_ble_eq_true rfl⟩, (hts (.static yX11_apart) kc_tgHH_6), trivial⟩ ⟨fun a U g mk q => ⟨q.1, trivial⟩, fun U hU hW => ⟨rfl, trivial⟩⟩ rfl rfl hl.1 rfl (lv_room (Nat.le_of_ble_eq_true rfl)) dX2_tellGoing_19 ⟨Nat.le_of_ble_eq_true rfl, Nat.le_of_ble_eq_true rfl⟩).run (fun r_3 hw_4 => ?_)
    obtain rfl := hw_4
    refine lv_aload_n hx hb dX2_tellGoing_22 rfl (lv_at hl 0 rfl) ?_
    refine va_get (D := (dC, dI)) (ci := 4) (v := .ref gR) (C := RX2) (T := TX2) (N := 4) hx hb hts kc_tgHH_2 hown hK hP 0 rfl rfl 0 (by decide) (hts (.fieldLink RX2 9 "MistHeaps$Goings" "reach" "[I") kc_tgHH_7) (fun _ h9 => h9) rfl dX2_tellGoing_23 ?_
    refine lv_aload_n hx hb dX2_tellGoing_26 rfl (lv_at hl 2 rfl) ?_
    refine va_hget1 (v := .int (nI j)) hx hb hts kc_tgHH_1 hown (hH_ j (by omega)).1 (hH_ j (by omega)).2 hS (hts (.fieldLink RX2 59 "MistHeaps$Heap" "number" "I") kc_tgHH_0) dX2_tellGoing_27 rfl ?_
    refine va_iald hx hb hK hP 1 0 rfl rfl (vp_in_nI (n := j) (N := 8) (by omega) (by omega)) dX2_tellGoing_30 ?_
    refine qi_as (y := fR j) (by rw [nI_clamp (by omega)]) ?_
    refine lv_icmp_gt (tgt := 49) hx hb dX2_tellGoing_31 (by decide) (fun c_5 => ?_) (fun c_5 => ?_)
    · skip
      refine lv_iconst (v := 0) hx hb dX2_tellGoing_49 (by decide) ?_
      refine lv_istore_n (lv' := [(3, .int 0), (0, .ref go), (1, .ref (ya i)), (2, .ref (ya j))]) hx hb dX2_tellGoing_50 rfl hl (by decide) rfl (fun ls hl => ?_)
      refine lv_iconst (v := 1) hx hb dX2_tellGoing_51 (by decide) ?_
      refine lv_aload_n hx hb dX2_tellGoing_52 rfl (lv_at hl 3 rfl) ?_
      refine va_hget1 (v := .int (nI j)) hx hb hts kc_tgHH_1 hown (hH_ j (by omega)).1 (hH_ j (by omega)).2 hS (hts (.fieldLink RX2 59 "MistHeaps$Heap" "number" "I") kc_tgHH_0) dX2_tellGoing_53 rfl ?_
      refine lv_ishl hx hb dX2_tellGoing_56 ?_
      refine lv_istore (lv' := [(4, .int (1 <<< ((nI j) &&& 31))), (3, .int 0), (0, .ref go), (1, .ref (ya i)), (2, .ref (ya j))]) hx hb dX2_tellGoing_57 hl (by decide) rfl (fun ls hl => ?_)
      refine lv_aload_n hx hb dX2_tellGoing_59 rfl (lv_at hl 2 rfl) ?_
      refine va_get (D := (dC, dI)) (ci := 4) (v := .ref gO) (C := RX2) (T := TX2) (N := 4) hx hb hts kc_tgHH_2 hown hK hP 0 rfl rfl 1 (by decide) (hts (.fieldLink RX2 15 "MistHeaps$Goings" "onward" "[I") kc_tgHH_3) (fun _ h9 => h9) rfl dX2_tellGoing_60 ?_
      refine lv_aload_n hx hb dX2_tellGoing_63 rfl (lv_at hl 3 rfl) ?_
      refine va_hget1 (v := .int (nI i)) hx hb hts kc_tgHH_1 hown (hH_ i (by omega)).1 (hH_ i (by omega)).2 hS (hts (.fieldLink RX2 59 "MistHeaps$Heap" "number" "I") kc_tgHH_0) dX2_tellGoing_64 rfl ?_
      refine lv_iload_n hx hb dX2_tellGoing_67 rfl (lv_at hl 1 rfl) ?_
      refine lv_if_eq (tgt := 86) hx hb dX2_tellGoing_68 (by decide) (fun _ => ?_) (fun c_6 => absurd c_6 (by decide))
      refine lv_aload_n hx hb dX2_tellGoing_86 rfl (lv_at hl 2 rfl) ?_
      refine va_get (D := (dC, dI)) (ci := 4) (v := .ref gO) (C := RX2) (T := TX2) (N := 4) hx hb hts kc_tgHH_2 hown hK hP 0 rfl rfl 1 (by decide) (hts (.fieldLink RX2 15 "MistHeaps$Goings" "onward" "[I") kc_tgHH_3) (fun _ h9 => h9) rfl dX2_tellGoing_87 ?_
      refine lv_aload_n hx hb dX2_tellGoing_90 rfl (lv_at hl 3 rfl) ?_
      refine va_hget1 (v := .int (nI i)) hx hb hts kc_tgHH_1 hown (hH_ i (by omega)).1 (hH_ i (by omega)).2 hS (hts (.fieldLink RX2 59 "MistHeaps$Heap" "number" "I") kc_tgHH_0) dX2_tellGoing_91 rfl ?_
      refine va_iald hx hb hK hP 2 1 rfl rfl (vp_in_nI (n := i) (N := 8) (by omega) (by omega)) dX2_tellGoing_94 ?_
      refine qi_as (y := fO i) (by rw [nI_clamp (by omega)]) ?_
      refine lv_iload hx hb dX2_tellGoing_95 (lv_at hl 0 rfl) ?_
      refine lv_iconst (v := (-1)) hx hb dX2_tellGoing_97 (by decide) ?_
      refine lv_ixor hx hb dX2_tellGoing_98 ?_
      refine lv_iand hx hb dX2_tellGoing_99 ?_
      refine va_iast hx hb hK hP hD hS 2 1 rfl rfl (vp_in_nI (n := i) (N := 8) (by omega) (by omega)) dX2_tellGoing_100 (fun H locs hP hD hS => ?_)
      rw [nI_clamp (n := i) (by omega)] at hP hD
      have hP : va_P (dC, dI) vwCl [(zo4rrir go gR gO (nI lk) gS), (zaI gR cR 8 fR), (zaI gO cO 8 (upd fO i ((fO i) &&& ((1 <<< ((nI j) &&& 31)) ^^^ (-1)))))] H := hP
      have hD : va_D A [(zo4rrir go gR gO (nI lk) gS), (zaI gR cR 8 fR), (zaI gO cO 8 (upd fO i ((fO i) &&& ((1 <<< ((nI j) &&& 31)) ^^^ (-1)))))] := hD
      rw [hQ]
      have hP9 := hP.sub (ws' := [(zo4rrir go gR gO (nI lk) gS), (zaI gR cR 8 fR), (zaI gO cO 8 (upd fO i ((fO i) &&& ((1 <<< ((nI j) &&& 31)) ^^^ (-1)))))]) [0, 1, 2] rfl
      have hD9 := hD.sub (ws' := [(zo4rrir go gR gO (nI lk) gS), (zaI gR cR 8 fR), (zaI gO cO 8 (upd fO i ((fO i) &&& ((1 <<< ((nI j) &&& 31)) ^^^ (-1)))))]) [0, 1, 2] (by decide) rfl
      have hK9 := hK.sub (tys' := [(cR, .int), (cO, .int)]) [0, 1] rfl
      exact W.vret hx hb hr (fun tQ htQ hWQ => ⟨⟨(upd fO i ((fO i) &&& ((1 <<< ((nI j) &&& 31)) ^^^ (-1)))), rfl, ⟨_, rfl, tgB_f (by omega) (fun z9 => gv_far c_5 z9.2)⟩, by rw [htQ]; exact hP9, va_K.moved hWQ.alike hK9, hD9⟩, hS.F htQ⟩) hS.2.2 dX2_tellGoing_101
    · skip
      refine lv_aload_n hx hb dX2_tellGoing_34 rfl (lv_at hl 1 rfl) ?_
      refine lv_aload_n hx hb dX2_tellGoing_35 rfl (lv_at hl 2 rfl) ?_
      refine va_hget3 (v := .int (yc j)) hx hb hts kc_tgHH_1 hown (hH_ j (by omega)).1 (hH_ j (by omega)).2 hS (hts (.fieldLink RX2 41 "MistHeaps$Heap" "cell" "I") kc_tgHH_4) dX2_tellGoing_36 rfl ?_
      rcases (show yi i = 3 ∨ yi i = 5 ∨ yi i = 6 ∨ yi i = 8 ∨ yi i = 9 ∨ yi i = 11 ∨ yi i = 12 from (hH_ i (by omega)).1) with e_7 | e_7 | e_7 | e_7 | e_7 | e_7 | e_7
      · skip
        have hY : Fz dC dI [(zo3iiii (ya i) (yk i) (nI i) (yv i) (yc i))] [] A s := by have h9 := (hH_ i (by omega)).2; rw [hpE, e_7] at h9; exact h9
        refine vp_callSi (va_runU (As := [.int (yc j)]) (rest := []) ⟨hx, hb, hml, hown, hts⟩ (c_lead1_X1 l dC dI  i (yk i) (yv i) (yc i) (yc j) (ya i)) (va_cwO 1 hts gX2_tellGoing_X1_leadsTo_u62X1 rfl rfl rfl kc_tgHH_8 (by decide +kernel) ⟨Nat.le_of_ble_eq_true rfl, Nat.le_of_ble_eq_true rfl⟩) ⟨fun a U g mk q => by obtain ⟨q0, qhZ⟩ := q; exact ⟨q0, qhZ.mv g mk a⟩, va_recv hY.2.1 (hY.P hS) (ci := 3) (q := (RX1, TX1, 4)) (q0 := 0) rfl rfl, fun U hU hW => ⟨rfl, hY.callF hS hU hW⟩⟩ rfl rfl hl.1 rfl (lv_room (Nat.le_of_ble_eq_true rfl)) dX2_tellGoing_39 ⟨Nat.le_of_ble_eq_true rfl, Nat.le_of_ble_eq_true rfl⟩).run (fun r_8 hw_9 => ?_)
        have hk := hpT_k3 (zyt i (by omega)) e_7
        obtain rfl := hw_9
        refine lv_if_eq (tgt := 49) hx hb dX2_tellGoing_42 (by decide) (fun _ => ?_) (fun c_10 => absurd c_10 (by decide))
        refine lv_iconst (v := 0) hx hb dX2_tellGoing_49 (by decide) ?_
        refine lv_istore_n (lv' := [(3, .int 0), (0, .ref go), (1, .ref (ya i)), (2, .ref (ya j))]) hx hb dX2_tellGoing_50 rfl hl (by decide) rfl (fun ls hl => ?_)
        refine lv_iconst (v := 1) hx hb dX2_tellGoing_51 (by decide) ?_
        refine lv_aload_n hx hb dX2_tellGoing_52 rfl (lv_at hl 3 rfl) ?_
        refine va_hget1 (v := .int (nI j)) hx hb hts kc_tgHH_1 hown (hH_ j (by omega)).1 (hH_ j (by omega)).2 hS (hts (.fieldLink RX2 59 "MistHeaps$Heap" "number" "I") kc_tgHH_0) dX2_tellGoing_53 rfl ?_
        refine lv_ishl hx hb dX2_tellGoing_56 ?_
        refine lv_istore (lv' := [(4, .int (1 <<< ((nI j) &&& 31))), (3, .int 0), (0, .ref go), (1, .ref (ya i)), (2, .ref (ya j))]) hx hb dX2_tellGoing_57 hl (by decide) rfl (fun ls hl => ?_)
        refine lv_aload_n hx hb dX2_tellGoing_59 rfl (lv_at hl 2 rfl) ?_
        refine va_get (D := (dC, dI)) (ci := 4) (v := .ref gO) (C := RX2) (T := TX2) (N := 4) hx hb hts kc_tgHH_2 hown hK hP 0 rfl rfl 1 (by decide) (hts (.fieldLink RX2 15 "MistHeaps$Goings" "onward" "[I") kc_tgHH_3) (fun _ h9 => h9) rfl dX2_tellGoing_60 ?_
        refine lv_aload_n hx hb dX2_tellGoing_63 rfl (lv_at hl 3 rfl) ?_
        refine va_hget1 (v := .int (nI i)) hx hb hts kc_tgHH_1 hown (hH_ i (by omega)).1 (hH_ i (by omega)).2 hS (hts (.fieldLink RX2 59 "MistHeaps$Heap" "number" "I") kc_tgHH_0) dX2_tellGoing_64 rfl ?_
        refine lv_iload_n hx hb dX2_tellGoing_67 rfl (lv_at hl 1 rfl) ?_
        refine lv_if_eq (tgt := 86) hx hb dX2_tellGoing_68 (by decide) (fun _ => ?_) (fun c_11 => absurd c_11 (by decide))
        refine lv_aload_n hx hb dX2_tellGoing_86 rfl (lv_at hl 2 rfl) ?_
        refine va_get (D := (dC, dI)) (ci := 4) (v := .ref gO) (C := RX2) (T := TX2) (N := 4) hx hb hts kc_tgHH_2 hown hK hP 0 rfl rfl 1 (by decide) (hts (.fieldLink RX2 15 "MistHeaps$Goings" "onward" "[I") kc_tgHH_3) (fun _ h9 => h9) rfl dX2_tellGoing_87 ?_
        refine lv_aload_n hx hb dX2_tellGoing_90 rfl (lv_at hl 3 rfl) ?_
        refine va_hget1 (v := .int (nI i)) hx hb hts kc_tgHH_1 hown (hH_ i (by omega)).1 (hH_ i (by omega)).2 hS (hts (.fieldLink RX2 59 "MistHeaps$Heap" "number" "I") kc_tgHH_0) dX2_tellGoing_91 rfl ?_
        refine va_iald hx hb hK hP 2 1 rfl rfl (vp_in_nI (n := i) (N := 8) (by omega) (by omega)) dX2_tellGoing_94 ?_
        refine qi_as (y := fO i) (by rw [nI_clamp (by omega)]) ?_
        refine lv_iload hx hb dX2_tellGoing_95 (lv_at hl 0 rfl) ?_
        refine lv_iconst (v := (-1)) hx hb dX2_tellGoing_97 (by decide) ?_
        refine lv_ixor hx hb dX2_tellGoing_98 ?_
        refine lv_iand hx hb dX2_tellGoing_99 ?_
        refine va_iast hx hb hK hP hD hS 2 1 rfl rfl (vp_in_nI (n := i) (N := 8) (by omega) (by omega)) dX2_tellGoing_100 (fun H locs hP hD hS => ?_)
        rw [nI_clamp (n := i) (by omega)] at hP hD
        have hP : va_P (dC, dI) vwCl [(zo4rrir go gR gO (nI lk) gS), (zaI gR cR 8 fR), (zaI gO cO 8 (upd fO i ((fO i) &&& ((1 <<< ((nI j) &&& 31)) ^^^ (-1)))))] H := hP
        have hD : va_D A [(zo4rrir go gR gO (nI lk) gS), (zaI gR cR 8 fR), (zaI gO cO 8 (upd fO i ((fO i) &&& ((1 <<< ((nI j) &&& 31)) ^^^ (-1)))))] := hD
        rw [hQ]
        have hP9 := hP.sub (ws' := [(zo4rrir go gR gO (nI lk) gS), (zaI gR cR 8 fR), (zaI gO cO 8 (upd fO i ((fO i) &&& ((1 <<< ((nI j) &&& 31)) ^^^ (-1)))))]) [0, 1, 2] rfl
        have hD9 := hD.sub (ws' := [(zo4rrir go gR gO (nI lk) gS), (zaI gR cR 8 fR), (zaI gO cO 8 (upd fO i ((fO i) &&& ((1 <<< ((nI j) &&& 31)) ^^^ (-1)))))]) [0, 1, 2] (by decide) rfl
        have hK9 := hK.sub (tys' := [(cR, .int), (cO, .int)]) [0, 1] rfl
        exact W.vret hx hb hr (fun tQ htQ hWQ => ⟨⟨(upd fO i ((fO i) &&& ((1 <<< ((nI j) &&& 31)) ^^^ (-1)))), rfl, ⟨_, rfl, tgB_f (by omega) (fun z9 => gv_3 hk z9.2)⟩, by rw [htQ]; exact hP9, va_K.moved hWQ.alike hK9, hD9⟩, hS.F htQ⟩) hS.2.2 dX2_tellGoing_101
      · skip
        have hY : Fz dC dI [(zo5iiii (ya i) (yk i) (nI i) (yv i) (yc i))] [] A s := by have h9 := (hH_ i (by omega)).2; rw [hpE, e_7] at h9; exact h9
        refine vp_callSi (va_runV (As := [.int (yc j)]) (rest := []) ⟨hx, hb, hml, hown, hts⟩ (c_lead3_X3 l dC dI  i (yk i) (yv i) (yc i) (yc j) (ya i)) (cwV 1 hts gX2_tellGoing_X3_leadsTo rfl rfl rfl hd_yX3_leadsTo ⟨Nat.le_of_ble_eq_true rfl, Nat.le_of_ble_eq_true rfl⟩) ⟨fun a U g mk q => by obtain ⟨q0, qhZ⟩ := q; exact ⟨q0, qhZ.mv g mk a⟩, va_recv hY.2.1 (hY.P hS) (ci := 5) (q := (RX3, TX3, 4)) (q0 := 0) rfl rfl, fun U hU hW => ⟨rfl, hY.callF hS hU hW⟩⟩ rfl rfl hl.1 rfl (lv_room (Nat.le_of_ble_eq_true rfl)) dX2_tellGoing_39 ⟨Nat.le_of_ble_eq_true rfl, Nat.le_of_ble_eq_true rfl⟩).run (fun r_12 hw_13 => ?_)
        have hk := hpT_k0 (zyt i (by omega)) e_7
        obtain rfl := hw_13
        refine lv_if_eq (tgt := 49) hx hb dX2_tellGoing_42 (by decide) (fun c_14 => absurd c_14 (by decide)) (fun _ => ?_)
        refine lv_iconst (v := 1) hx hb dX2_tellGoing_45 (by decide) ?_
        refine lv_goto (tgt := 50) hx hb dX2_tellGoing_46 (by decide) ?_
        refine lv_istore_n (lv' := [(3, .int 1), (0, .ref go), (1, .ref (ya i)), (2, .ref (ya j))]) hx hb dX2_tellGoing_50 rfl hl (by decide) rfl (fun ls hl => ?_)
        refine lv_iconst (v := 1) hx hb dX2_tellGoing_51 (by decide) ?_
        refine lv_aload_n hx hb dX2_tellGoing_52 rfl (lv_at hl 3 rfl) ?_
        refine va_hget1 (v := .int (nI j)) hx hb hts kc_tgHH_1 hown (hH_ j (by omega)).1 (hH_ j (by omega)).2 hS (hts (.fieldLink RX2 59 "MistHeaps$Heap" "number" "I") kc_tgHH_0) dX2_tellGoing_53 rfl ?_
        refine lv_ishl hx hb dX2_tellGoing_56 ?_
        refine lv_istore (lv' := [(4, .int (1 <<< ((nI j) &&& 31))), (3, .int 1), (0, .ref go), (1, .ref (ya i)), (2, .ref (ya j))]) hx hb dX2_tellGoing_57 hl (by decide) rfl (fun ls hl => ?_)
        refine lv_aload_n hx hb dX2_tellGoing_59 rfl (lv_at hl 2 rfl) ?_
        refine va_get (D := (dC, dI)) (ci := 4) (v := .ref gO) (C := RX2) (T := TX2) (N := 4) hx hb hts kc_tgHH_2 hown hK hP 0 rfl rfl 1 (by decide) (hts (.fieldLink RX2 15 "MistHeaps$Goings" "onward" "[I") kc_tgHH_3) (fun _ h9 => h9) rfl dX2_tellGoing_60 ?_
        refine lv_aload_n hx hb dX2_tellGoing_63 rfl (lv_at hl 3 rfl) ?_
        refine va_hget1 (v := .int (nI i)) hx hb hts kc_tgHH_1 hown (hH_ i (by omega)).1 (hH_ i (by omega)).2 hS (hts (.fieldLink RX2 59 "MistHeaps$Heap" "number" "I") kc_tgHH_0) dX2_tellGoing_64 rfl ?_
        refine lv_iload_n hx hb dX2_tellGoing_67 rfl (lv_at hl 1 rfl) ?_
        refine lv_if_eq (tgt := 86) hx hb dX2_tellGoing_68 (by decide) (fun c_15 => absurd c_15 (by decide)) (fun _ => ?_)
        refine lv_aload_n hx hb dX2_tellGoing_71 rfl (lv_at hl 2 rfl) ?_
        refine va_get (D := (dC, dI)) (ci := 4) (v := .ref gO) (C := RX2) (T := TX2) (N := 4) hx hb hts kc_tgHH_2 hown hK hP 0 rfl rfl 1 (by decide) (hts (.fieldLink RX2 15 "MistHeaps$Goings" "onward" "[I") kc_tgHH_3) (fun _ h9 => h9) rfl dX2_tellGoing_72 ?_
        refine lv_aload_n hx hb dX2_tellGoing_75 rfl (lv_at hl 3 rfl) ?_
        refine va_hget1 (v := .int (nI i)) hx hb hts kc_tgHH_1 hown (hH_ i (by omega)).1 (hH_ i (by omega)).2 hS (hts (.fieldLink RX2 59 "MistHeaps$Heap" "number" "I") kc_tgHH_0) dX2_tellGoing_76 rfl ?_
        refine va_iald hx hb hK hP 2 1 rfl rfl (vp_in_nI (n := i) (N := 8) (by omega) (by omega)) dX2_tellGoing_79 ?_
        refine qi_as (y := fO i) (by rw [nI_clamp (by omega)]) ?_
        refine lv_iload hx hb dX2_tellGoing_80 (lv_at hl 0 rfl) ?_
        refine lv_ior hx hb dX2_tellGoing_82 ?_
        refine lv_goto (tgt := 100) hx hb dX2_tellGoing_83 (by decide) ?_
        refine va_iast hx hb hK hP hD hS 2 1 rfl rfl (vp_in_nI (n := i) (N := 8) (by omega) (by omega)) dX2_tellGoing_100 (fun H locs hP hD hS => ?_)
        rw [nI_clamp (n := i) (by omega)] at hP hD
        have hP : va_P (dC, dI) vwCl [(zo4rrir go gR gO (nI lk) gS), (zaI gR cR 8 fR), (zaI gO cO 8 (upd fO i ((fO i) ||| (1 <<< ((nI j) &&& 31)))))] H := hP
        have hD : va_D A [(zo4rrir go gR gO (nI lk) gS), (zaI gR cR 8 fR), (zaI gO cO 8 (upd fO i ((fO i) ||| (1 <<< ((nI j) &&& 31)))))] := hD
        rw [hQ]
        have hP9 := hP.sub (ws' := [(zo4rrir go gR gO (nI lk) gS), (zaI gR cR 8 fR), (zaI gO cO 8 (upd fO i ((fO i) ||| (1 <<< ((nI j) &&& 31)))))]) [0, 1, 2] rfl
        have hD9 := hD.sub (ws' := [(zo4rrir go gR gO (nI lk) gS), (zaI gR cR 8 fR), (zaI gO cO 8 (upd fO i ((fO i) ||| (1 <<< ((nI j) &&& 31)))))]) [0, 1, 2] (by decide) rfl
        have hK9 := hK.sub (tys' := [(cR, .int), (cO, .int)]) [0, 1] rfl
        exact W.vret hx hb hr (fun tQ htQ hWQ => ⟨⟨(upd fO i ((fO i) ||| (1 <<< ((nI j) &&& 31)))), rfl, ⟨_, rfl, tgB_t (by omega) (⟨by omega, gv_y c_5 (by rw [hk]; decide)⟩)⟩, by rw [htQ]; exact hP9, va_K.moved hWQ.alike hK9, hD9⟩, hS.F htQ⟩) hS.2.2 dX2_tellGoing_101
      · skip
        have hY : Fz dC dI [(zo6iiii (ya i) (yk i) (nI i) (yv i) (yc i))] [] A s := by have h9 := (hH_ i (by omega)).2; rw [hpE, e_7] at h9; exact h9
        refine vp_callSi (va_runU (As := [.int (yc j)]) (rest := []) ⟨hx, hb, hml, hown, hts⟩ (c_lead3_X4 l dC dI  i (yk i) (yv i) (yc i) (yc j) (ya i)) (va_cwU 1 hts gX2_tellGoing_X3_leadsTo_u62X4 rfl rfl rfl rfl (by decide +kernel) ⟨Nat.le_of_ble_eq_true rfl, Nat.le_of_ble_eq_true rfl⟩) ⟨fun a U g mk q => by obtain ⟨q0, qhZ⟩ := q; exact ⟨q0, qhZ.mv g mk a⟩, va_recv hY.2.1 (hY.P hS) (ci := 6) (q := (RX4, TX4, 4)) (q0 := 0) rfl rfl, fun U hU hW => ⟨rfl, hY.callF hS hU hW⟩⟩ rfl rfl hl.1 rfl (lv_room (Nat.le_of_ble_eq_true rfl)) dX2_tellGoing_39 ⟨Nat.le_of_ble_eq_true rfl, Nat.le_of_ble_eq_true rfl⟩).run (fun r_16 hw_17 => ?_)
        have hk := hpT_k1 (zyt i (by omega)) e_7
        obtain rfl := hw_17
        refine lv_if_eq (tgt := 49) hx hb dX2_tellGoing_42 (by decide) (fun c_18 => absurd c_18 (by decide)) (fun _ => ?_)
        refine lv_iconst (v := 1) hx hb dX2_tellGoing_45 (by decide) ?_
        refine lv_goto (tgt := 50) hx hb dX2_tellGoing_46 (by decide) ?_
        refine lv_istore_n (lv' := [(3, .int 1), (0, .ref go), (1, .ref (ya i)), (2, .ref (ya j))]) hx hb dX2_tellGoing_50 rfl hl (by decide) rfl (fun ls hl => ?_)
        refine lv_iconst (v := 1) hx hb dX2_tellGoing_51 (by decide) ?_
        refine lv_aload_n hx hb dX2_tellGoing_52 rfl (lv_at hl 3 rfl) ?_
        refine va_hget1 (v := .int (nI j)) hx hb hts kc_tgHH_1 hown (hH_ j (by omega)).1 (hH_ j (by omega)).2 hS (hts (.fieldLink RX2 59 "MistHeaps$Heap" "number" "I") kc_tgHH_0) dX2_tellGoing_53 rfl ?_
        refine lv_ishl hx hb dX2_tellGoing_56 ?_
        refine lv_istore (lv' := [(4, .int (1 <<< ((nI j) &&& 31))), (3, .int 1), (0, .ref go), (1, .ref (ya i)), (2, .ref (ya j))]) hx hb dX2_tellGoing_57 hl (by decide) rfl (fun ls hl => ?_)
        refine lv_aload_n hx hb dX2_tellGoing_59 rfl (lv_at hl 2 rfl) ?_
        refine va_get (D := (dC, dI)) (ci := 4) (v := .ref gO) (C := RX2) (T := TX2) (N := 4) hx hb hts kc_tgHH_2 hown hK hP 0 rfl rfl 1 (by decide) (hts (.fieldLink RX2 15 "MistHeaps$Goings" "onward" "[I") kc_tgHH_3) (fun _ h9 => h9) rfl dX2_tellGoing_60 ?_
        refine lv_aload_n hx hb dX2_tellGoing_63 rfl (lv_at hl 3 rfl) ?_
        refine va_hget1 (v := .int (nI i)) hx hb hts kc_tgHH_1 hown (hH_ i (by omega)).1 (hH_ i (by omega)).2 hS (hts (.fieldLink RX2 59 "MistHeaps$Heap" "number" "I") kc_tgHH_0) dX2_tellGoing_64 rfl ?_
        refine lv_iload_n hx hb dX2_tellGoing_67 rfl (lv_at hl 1 rfl) ?_
        refine lv_if_eq (tgt := 86) hx hb dX2_tellGoing_68 (by decide) (fun c_19 => absurd c_19 (by decide)) (fun _ => ?_)
        refine lv_aload_n hx hb dX2_tellGoing_71 rfl (lv_at hl 2 rfl) ?_
        refine va_get (D := (dC, dI)) (ci := 4) (v := .ref gO) (C := RX2) (T := TX2) (N := 4) hx hb hts kc_tgHH_2 hown hK hP 0 rfl rfl 1 (by decide) (hts (.fieldLink RX2 15 "MistHeaps$Goings" "onward" "[I") kc_tgHH_3) (fun _ h9 => h9) rfl dX2_tellGoing_72 ?_
        refine lv_aload_n hx hb dX2_tellGoing_75 rfl (lv_at hl 3 rfl) ?_
        refine va_hget1 (v := .int (nI i)) hx hb hts kc_tgHH_1 hown (hH_ i (by omega)).1 (hH_ i (by omega)).2 hS (hts (.fieldLink RX2 59 "MistHeaps$Heap" "number" "I") kc_tgHH_0) dX2_tellGoing_76 rfl ?_
        refine va_iald hx hb hK hP 2 1 rfl rfl (vp_in_nI (n := i) (N := 8) (by omega) (by omega)) dX2_tellGoing_79 ?_
        refine qi_as (y := fO i) (by rw [nI_clamp (by omega)]) ?_
        refine lv_iload hx hb dX2_tellGoing_80 (lv_at hl 0 rfl) ?_
        refine lv_ior hx hb dX2_tellGoing_82 ?_
        refine lv_goto (tgt := 100) hx hb dX2_tellGoing_83 (by decide) ?_
        refine va_iast hx hb hK hP hD hS 2 1 rfl rfl (vp_in_nI (n := i) (N := 8) (by omega) (by omega)) dX2_tellGoing_100 (fun H locs hP hD hS => ?_)
        rw [nI_clamp (n := i) (by omega)] at hP hD
        have hP : va_P (dC, dI) vwCl [(zo4rrir go gR gO (nI lk) gS), (zaI gR cR 8 fR), (zaI gO cO 8 (upd fO i ((fO i) ||| (1 <<< ((nI j) &&& 31)))))] H := hP
        have hD : va_D A [(zo4rrir go gR gO (nI lk) gS), (zaI gR cR 8 fR), (zaI gO cO 8 (upd fO i ((fO i) ||| (1 <<< ((nI j) &&& 31)))))] := hD
        rw [hQ]
        have hP9 := hP.sub (ws' := [(zo4rrir go gR gO (nI lk) gS), (zaI gR cR 8 fR), (zaI gO cO 8 (upd fO i ((fO i) ||| (1 <<< ((nI j) &&& 31)))))]) [0, 1, 2] rfl
        have hD9 := hD.sub (ws' := [(zo4rrir go gR gO (nI lk) gS), (zaI gR cR 8 fR), (zaI gO cO 8 (upd fO i ((fO i) ||| (1 <<< ((nI j) &&& 31)))))]) [0, 1, 2] (by decide) rfl
        have hK9 := hK.sub (tys' := [(cR, .int), (cO, .int)]) [0, 1] rfl
        exact W.vret hx hb hr (fun tQ htQ hWQ => ⟨⟨(upd fO i ((fO i) ||| (1 <<< ((nI j) &&& 31)))), rfl, ⟨_, rfl, tgB_t (by omega) (⟨by omega, gv_y c_5 (by rw [hk]; decide)⟩)⟩, by rw [htQ]; exact hP9, va_K.moved hWQ.alike hK9, hD9⟩, hS.F htQ⟩) hS.2.2 dX2_tellGoing_101
      · skip
        have hY : Fz dC dI [(zo8iiii (ya i) (yk i) (nI i) (yv i) (yc i))] [] A s := by have h9 := (hH_ i (by omega)).2; rw [hpE, e_7] at h9; exact h9
        refine vp_callSi (va_runU (As := [.int (yc j)]) (rest := []) ⟨hx, hb, hml, hown, hts⟩ (c_lead3_X6 l dC dI  i (yk i) (yv i) (yc i) (yc j) (ya i)) (va_cwU 1 hts gX2_tellGoing_X3_leadsTo_u62X6 rfl rfl rfl rfl (by decide +kernel) ⟨Nat.le_of_ble_eq_true rfl, Nat.le_of_ble_eq_true rfl⟩) ⟨fun a U g mk q => by obtain ⟨q0, qhZ⟩ := q; exact ⟨q0, qhZ.mv g mk a⟩, va_recv hY.2.1 (hY.P hS) (ci := 8) (q := (RX6, TX6, 4)) (q0 := 0) rfl rfl, fun U hU hW => ⟨rfl, hY.callF hS hU hW⟩⟩ rfl rfl hl.1 rfl (lv_room (Nat.le_of_ble_eq_true rfl)) dX2_tellGoing_39 ⟨Nat.le_of_ble_eq_true rfl, Nat.le_of_ble_eq_true rfl⟩).run (fun r_20 hw_21 => ?_)
        have hk := hpT_k2 (zyt i (by omega)) e_7
        obtain rfl := hw_21
        refine lv_if_eq (tgt := 49) hx hb dX2_tellGoing_42 (by decide) (fun c_22 => absurd c_22 (by decide)) (fun _ => ?_)
        refine lv_iconst (v := 1) hx hb dX2_tellGoing_45 (by decide) ?_
        refine lv_goto (tgt := 50) hx hb dX2_tellGoing_46 (by decide) ?_
        refine lv_istore_n (lv' := [(3, .int 1), (0, .ref go), (1, .ref (ya i)), (2, .ref (ya j))]) hx hb dX2_tellGoing_50 rfl hl (by decide) rfl (fun ls hl => ?_)
        refine lv_iconst (v := 1) hx hb dX2_tellGoing_51 (by decide) ?_
        refine lv_aload_n hx hb dX2_tellGoing_52 rfl (lv_at hl 3 rfl) ?_
        refine va_hget1 (v := .int (nI j)) hx hb hts kc_tgHH_1 hown (hH_ j (by omega)).1 (hH_ j (by omega)).2 hS (hts (.fieldLink RX2 59 "MistHeaps$Heap" "number" "I") kc_tgHH_0) dX2_tellGoing_53 rfl ?_
        refine lv_ishl hx hb dX2_tellGoing_56 ?_
        refine lv_istore (lv' := [(4, .int (1 <<< ((nI j) &&& 31))), (3, .int 1), (0, .ref go), (1, .ref (ya i)), (2, .ref (ya j))]) hx hb dX2_tellGoing_57 hl (by decide) rfl (fun ls hl => ?_)
        refine lv_aload_n hx hb dX2_tellGoing_59 rfl (lv_at hl 2 rfl) ?_
        refine va_get (D := (dC, dI)) (ci := 4) (v := .ref gO) (C := RX2) (T := TX2) (N := 4) hx hb hts kc_tgHH_2 hown hK hP 0 rfl rfl 1 (by decide) (hts (.fieldLink RX2 15 "MistHeaps$Goings" "onward" "[I") kc_tgHH_3) (fun _ h9 => h9) rfl dX2_tellGoing_60 ?_
        refine lv_aload_n hx hb dX2_tellGoing_63 rfl (lv_at hl 3 rfl) ?_
        refine va_hget1 (v := .int (nI i)) hx hb hts kc_tgHH_1 hown (hH_ i (by omega)).1 (hH_ i (by omega)).2 hS (hts (.fieldLink RX2 59 "MistHeaps$Heap" "number" "I") kc_tgHH_0) dX2_tellGoing_64 rfl ?_
        refine lv_iload_n hx hb dX2_tellGoing_67 rfl (lv_at hl 1 rfl) ?_
        refine lv_if_eq (tgt := 86) hx hb dX2_tellGoing_68 (by decide) (fun c_23 => absurd c_23 (by decide)) (fun _ => ?_)
        refine lv_aload_n hx hb dX2_tellGoing_71 rfl (lv_at hl 2 rfl) ?_
        refine va_get (D := (dC, dI)) (ci := 4) (v := .ref gO) (C := RX2) (T := TX2) (N := 4) hx hb hts kc_tgHH_2 hown hK hP 0 rfl rfl 1 (by decide) (hts (.fieldLink RX2 15 "MistHeaps$Goings" "onward" "[I") kc_tgHH_3) (fun _ h9 => h9) rfl dX2_tellGoing_72 ?_
        refine lv_aload_n hx hb dX2_tellGoing_75 rfl (lv_at hl 3 rfl) ?_
        refine va_hget1 (v := .int (nI i)) hx hb hts kc_tgHH_1 hown (hH_ i (by omega)).1 (hH_ i (by omega)).2 hS (hts (.fieldLink RX2 59 "MistHeaps$Heap" "number" "I") kc_tgHH_0) dX2_tellGoing_76 rfl ?_
        refine va_iald hx hb hK hP 2 1 rfl rfl (vp_in_nI (n := i) (N := 8) (by omega) (by omega)) dX2_tellGoing_79 ?_
        refine qi_as (y := fO i) (by rw [nI_clamp (by omega)]) ?_
        refine lv_iload hx hb dX2_tellGoing_80 (lv_at hl 0 rfl) ?_
        refine lv_ior hx hb dX2_tellGoing_82 ?_
        refine lv_goto (tgt := 100) hx hb dX2_tellGoing_83 (by decide) ?_
        refine va_iast hx hb hK hP hD hS 2 1 rfl rfl (vp_in_nI (n := i) (N := 8) (by omega) (by omega)) dX2_tellGoing_100 (fun H locs hP hD hS => ?_)
        rw [nI_clamp (n := i) (by omega)] at hP hD
        have hP : va_P (dC, dI) vwCl [(zo4rrir go gR gO (nI lk) gS), (zaI gR cR 8 fR), (zaI gO cO 8 (upd fO i ((fO i) ||| (1 <<< ((nI j) &&& 31)))))] H := hP
        have hD : va_D A [(zo4rrir go gR gO (nI lk) gS), (zaI gR cR 8 fR), (zaI gO cO 8 (upd fO i ((fO i) ||| (1 <<< ((nI j) &&& 31)))))] := hD
        rw [hQ]
        have hP9 := hP.sub (ws' := [(zo4rrir go gR gO (nI lk) gS), (zaI gR cR 8 fR), (zaI gO cO 8 (upd fO i ((fO i) ||| (1 <<< ((nI j) &&& 31)))))]) [0, 1, 2] rfl
        have hD9 := hD.sub (ws' := [(zo4rrir go gR gO (nI lk) gS), (zaI gR cR 8 fR), (zaI gO cO 8 (upd fO i ((fO i) ||| (1 <<< ((nI j) &&& 31)))))]) [0, 1, 2] (by decide) rfl
        have hK9 := hK.sub (tys' := [(cR, .int), (cO, .int)]) [0, 1] rfl
        exact W.vret hx hb hr (fun tQ htQ hWQ => ⟨⟨(upd fO i ((fO i) ||| (1 <<< ((nI j) &&& 31)))), rfl, ⟨_, rfl, tgB_t (by omega) (⟨by omega, gv_y c_5 (by rw [hk]; decide)⟩)⟩, by rw [htQ]; exact hP9, va_K.moved hWQ.alike hK9, hD9⟩, hS.F htQ⟩) hS.2.2 dX2_tellGoing_101
      · skip
        have hY : Fz dC dI [(zo9iiii (ya i) (yk i) (nI i) (yv i) (yc i))] [] A s := by have h9 := (hH_ i (by omega)).2; rw [hpE, e_7] at h9; exact h9
        refine vp_callSi (va_runU (As := [.int (yc j)]) (rest := []) ⟨hx, hb, hml, hown, hts⟩ (c_lead1_X7 l dC dI  i (yk i) (yv i) (yc i) (yc j) (ya i)) (va_cwO 1 hts gX2_tellGoing_X1_leadsTo_u62X7 rfl rfl rfl kc_tgHH_8 (by decide +kernel) ⟨Nat.le_of_ble_eq_true rfl, Nat.le_of_ble_eq_true rfl⟩) ⟨fun a U g mk q => by obtain ⟨q0, qhZ⟩ := q; exact ⟨q0, qhZ.mv g mk a⟩, va_recv hY.2.1 (hY.P hS) (ci := 9) (q := (RX7, TX7, 4)) (q0 := 0) rfl rfl, fun U hU hW => ⟨rfl, hY.callF hS hU hW⟩⟩ rfl rfl hl.1 rfl (lv_room (Nat.le_of_ble_eq_true rfl)) dX2_tellGoing_39 ⟨Nat.le_of_ble_eq_true rfl, Nat.le_of_ble_eq_true rfl⟩).run (fun r_24 hw_25 => ?_)
        have hk := hpT_k6 (zyt i (by omega)) e_7
        obtain rfl := hw_25
        refine lv_if_eq (tgt := 49) hx hb dX2_tellGoing_42 (by decide) (fun _ => ?_) (fun c_26 => absurd c_26 (by decide))
        refine lv_iconst (v := 0) hx hb dX2_tellGoing_49 (by decide) ?_
        refine lv_istore_n (lv' := [(3, .int 0), (0, .ref go), (1, .ref (ya i)), (2, .ref (ya j))]) hx hb dX2_tellGoing_50 rfl hl (by decide) rfl (fun ls hl => ?_)
        refine lv_iconst (v := 1) hx hb dX2_tellGoing_51 (by decide) ?_
        refine lv_aload_n hx hb dX2_tellGoing_52 rfl (lv_at hl 3 rfl) ?_
        refine va_hget1 (v := .int (nI j)) hx hb hts kc_tgHH_1 hown (hH_ j (by omega)).1 (hH_ j (by omega)).2 hS (hts (.fieldLink RX2 59 "MistHeaps$Heap" "number" "I") kc_tgHH_0) dX2_tellGoing_53 rfl ?_
        refine lv_ishl hx hb dX2_tellGoing_56 ?_
        refine lv_istore (lv' := [(4, .int (1 <<< ((nI j) &&& 31))), (3, .int 0), (0, .ref go), (1, .ref (ya i)), (2, .ref (ya j))]) hx hb dX2_tellGoing_57 hl (by decide) rfl (fun ls hl => ?_)
        refine lv_aload_n hx hb dX2_tellGoing_59 rfl (lv_at hl 2 rfl) ?_
        refine va_get (D := (dC, dI)) (ci := 4) (v := .ref gO) (C := RX2) (T := TX2) (N := 4) hx hb hts kc_tgHH_2 hown hK hP 0 rfl rfl 1 (by decide) (hts (.fieldLink RX2 15 "MistHeaps$Goings" "onward" "[I") kc_tgHH_3) (fun _ h9 => h9) rfl dX2_tellGoing_60 ?_
        refine lv_aload_n hx hb dX2_tellGoing_63 rfl (lv_at hl 3 rfl) ?_
        refine va_hget1 (v := .int (nI i)) hx hb hts kc_tgHH_1 hown (hH_ i (by omega)).1 (hH_ i (by omega)).2 hS (hts (.fieldLink RX2 59 "MistHeaps$Heap" "number" "I") kc_tgHH_0) dX2_tellGoing_64 rfl ?_
        refine lv_iload_n hx hb dX2_tellGoing_67 rfl (lv_at hl 1 rfl) ?_
        refine lv_if_eq (tgt := 86) hx hb dX2_tellGoing_68 (by decide) (fun _ => ?_) (fun c_27 => absurd c_27 (by decide))
        refine lv_aload_n hx hb dX2_tellGoing_86 rfl (lv_at hl 2 rfl) ?_
        refine va_get (D := (dC, dI)) (ci := 4) (v := .ref gO) (C := RX2) (T := TX2) (N := 4) hx hb hts kc_tgHH_2 hown hK hP 0 rfl rfl 1 (by decide) (hts (.fieldLink RX2 15 "MistHeaps$Goings" "onward" "[I") kc_tgHH_3) (fun _ h9 => h9) rfl dX2_tellGoing_87 ?_
        refine lv_aload_n hx hb dX2_tellGoing_90 rfl (lv_at hl 3 rfl) ?_
        refine va_hget1 (v := .int (nI i)) hx hb hts kc_tgHH_1 hown (hH_ i (by omega)).1 (hH_ i (by omega)).2 hS (hts (.fieldLink RX2 59 "MistHeaps$Heap" "number" "I") kc_tgHH_0) dX2_tellGoing_91 rfl ?_
        refine va_iald hx hb hK hP 2 1 rfl rfl (vp_in_nI (n := i) (N := 8) (by omega) (by omega)) dX2_tellGoing_94 ?_
        refine qi_as (y := fO i) (by rw [nI_clamp (by omega)]) ?_
        refine lv_iload hx hb dX2_tellGoing_95 (lv_at hl 0 rfl) ?_
        refine lv_iconst (v := (-1)) hx hb dX2_tellGoing_97 (by decide) ?_
        refine lv_ixor hx hb dX2_tellGoing_98 ?_
        refine lv_iand hx hb dX2_tellGoing_99 ?_
        refine va_iast hx hb hK hP hD hS 2 1 rfl rfl (vp_in_nI (n := i) (N := 8) (by omega) (by omega)) dX2_tellGoing_100 (fun H locs hP hD hS => ?_)
        rw [nI_clamp (n := i) (by omega)] at hP hD
        have hP : va_P (dC, dI) vwCl [(zo4rrir go gR gO (nI lk) gS), (zaI gR cR 8 fR), (zaI gO cO 8 (upd fO i ((fO i) &&& ((1 <<< ((nI j) &&& 31)) ^^^ (-1)))))] H := hP
        have hD : va_D A [(zo4rrir go gR gO (nI lk) gS), (zaI gR cR 8 fR), (zaI gO cO 8 (upd fO i ((fO i) &&& ((1 <<< ((nI j) &&& 31)) ^^^ (-1)))))] := hD
        rw [hQ]
        have hP9 := hP.sub (ws' := [(zo4rrir go gR gO (nI lk) gS), (zaI gR cR 8 fR), (zaI gO cO 8 (upd fO i ((fO i) &&& ((1 <<< ((nI j) &&& 31)) ^^^ (-1)))))]) [0, 1, 2] rfl
        have hD9 := hD.sub (ws' := [(zo4rrir go gR gO (nI lk) gS), (zaI gR cR 8 fR), (zaI gO cO 8 (upd fO i ((fO i) &&& ((1 <<< ((nI j) &&& 31)) ^^^ (-1)))))]) [0, 1, 2] (by decide) rfl
        have hK9 := hK.sub (tys' := [(cR, .int), (cO, .int)]) [0, 1] rfl
        exact W.vret hx hb hr (fun tQ htQ hWQ => ⟨⟨(upd fO i ((fO i) &&& ((1 <<< ((nI j) &&& 31)) ^^^ (-1)))), rfl, ⟨_, rfl, tgB_f (by omega) (fun z9 => gv_6 hk z9.2)⟩, by rw [htQ]; exact hP9, va_K.moved hWQ.alike hK9, hD9⟩, hS.F htQ⟩) hS.2.2 dX2_tellGoing_101
      · skip
        have hY : Fz dC dI [(zo11iiii (ya i) (yk i) (nI i) (yv i) (yc i))] [] A s := by have h9 := (hH_ i (by omega)).2; rw [hpE, e_7] at h9; exact h9
        refine vp_callSi (va_runU (As := [.int (yc j)]) (rest := []) ⟨hx, hb, hml, hown, hts⟩ (c_lead3_X9 l dC dI  i (yk i) (yv i) (yc i) (yc j) (ya i)) (va_cwU 1 hts gX2_tellGoing_X3_leadsTo_u62X9 rfl rfl rfl rfl (by decide +kernel) ⟨Nat.le_of_ble_eq_true rfl, Nat.le_of_ble_eq_true rfl⟩) ⟨fun a U g mk q => by obtain ⟨q0, qhZ⟩ := q; exact ⟨q0, qhZ.mv g mk a⟩, va_recv hY.2.1 (hY.P hS) (ci := 11) (q := (RX9, TX9, 4)) (q0 := 0) rfl rfl, fun U hU hW => ⟨rfl, hY.callF hS hU hW⟩⟩ rfl rfl hl.1 rfl (lv_room (Nat.le_of_ble_eq_true rfl)) dX2_tellGoing_39 ⟨Nat.le_of_ble_eq_true rfl, Nat.le_of_ble_eq_true rfl⟩).run (fun r_28 hw_29 => ?_)
        have hk := hpT_k5 (zyt i (by omega)) e_7
        obtain rfl := hw_29
        refine lv_if_eq (tgt := 49) hx hb dX2_tellGoing_42 (by decide) (fun c_30 => absurd c_30 (by decide)) (fun _ => ?_)
        refine lv_iconst (v := 1) hx hb dX2_tellGoing_45 (by decide) ?_
        refine lv_goto (tgt := 50) hx hb dX2_tellGoing_46 (by decide) ?_
        refine lv_istore_n (lv' := [(3, .int 1), (0, .ref go), (1, .ref (ya i)), (2, .ref (ya j))]) hx hb dX2_tellGoing_50 rfl hl (by decide) rfl (fun ls hl => ?_)
        refine lv_iconst (v := 1) hx hb dX2_tellGoing_51 (by decide) ?_
        refine lv_aload_n hx hb dX2_tellGoing_52 rfl (lv_at hl 3 rfl) ?_
        refine va_hget1 (v := .int (nI j)) hx hb hts kc_tgHH_1 hown (hH_ j (by omega)).1 (hH_ j (by omega)).2 hS (hts (.fieldLink RX2 59 "MistHeaps$Heap" "number" "I") kc_tgHH_0) dX2_tellGoing_53 rfl ?_
        refine lv_ishl hx hb dX2_tellGoing_56 ?_
        refine lv_istore (lv' := [(4, .int (1 <<< ((nI j) &&& 31))), (3, .int 1), (0, .ref go), (1, .ref (ya i)), (2, .ref (ya j))]) hx hb dX2_tellGoing_57 hl (by decide) rfl (fun ls hl => ?_)
        refine lv_aload_n hx hb dX2_tellGoing_59 rfl (lv_at hl 2 rfl) ?_
        refine va_get (D := (dC, dI)) (ci := 4) (v := .ref gO) (C := RX2) (T := TX2) (N := 4) hx hb hts kc_tgHH_2 hown hK hP 0 rfl rfl 1 (by decide) (hts (.fieldLink RX2 15 "MistHeaps$Goings" "onward" "[I") kc_tgHH_3) (fun _ h9 => h9) rfl dX2_tellGoing_60 ?_
        refine lv_aload_n hx hb dX2_tellGoing_63 rfl (lv_at hl 3 rfl) ?_
        refine va_hget1 (v := .int (nI i)) hx hb hts kc_tgHH_1 hown (hH_ i (by omega)).1 (hH_ i (by omega)).2 hS (hts (.fieldLink RX2 59 "MistHeaps$Heap" "number" "I") kc_tgHH_0) dX2_tellGoing_64 rfl ?_
        refine lv_iload_n hx hb dX2_tellGoing_67 rfl (lv_at hl 1 rfl) ?_
        refine lv_if_eq (tgt := 86) hx hb dX2_tellGoing_68 (by decide) (fun c_31 => absurd c_31 (by decide)) (fun _ => ?_)
        refine lv_aload_n hx hb dX2_tellGoing_71 rfl (lv_at hl 2 rfl) ?_
        refine va_get (D := (dC, dI)) (ci := 4) (v := .ref gO) (C := RX2) (T := TX2) (N := 4) hx hb hts kc_tgHH_2 hown hK hP 0 rfl rfl 1 (by decide) (hts (.fieldLink RX2 15 "MistHeaps$Goings" "onward" "[I") kc_tgHH_3) (fun _ h9 => h9) rfl dX2_tellGoing_72 ?_
        refine lv_aload_n hx hb dX2_tellGoing_75 rfl (lv_at hl 3 rfl) ?_
        refine va_hget1 (v := .int (nI i)) hx hb hts kc_tgHH_1 hown (hH_ i (by omega)).1 (hH_ i (by omega)).2 hS (hts (.fieldLink RX2 59 "MistHeaps$Heap" "number" "I") kc_tgHH_0) dX2_tellGoing_76 rfl ?_
        refine va_iald hx hb hK hP 2 1 rfl rfl (vp_in_nI (n := i) (N := 8) (by omega) (by omega)) dX2_tellGoing_79 ?_
        refine qi_as (y := fO i) (by rw [nI_clamp (by omega)]) ?_
        refine lv_iload hx hb dX2_tellGoing_80 (lv_at hl 0 rfl) ?_
        refine lv_ior hx hb dX2_tellGoing_82 ?_
        refine lv_goto (tgt := 100) hx hb dX2_tellGoing_83 (by decide) ?_
        refine va_iast hx hb hK hP hD hS 2 1 rfl rfl (vp_in_nI (n := i) (N := 8) (by omega) (by omega)) dX2_tellGoing_100 (fun H locs hP hD hS => ?_)
        rw [nI_clamp (n := i) (by omega)] at hP hD
        have hP : va_P (dC, dI) vwCl [(zo4rrir go gR gO (nI lk) gS), (zaI gR cR 8 fR), (zaI gO cO 8 (upd fO i ((fO i) ||| (1 <<< ((nI j) &&& 31)))))] H := hP
        have hD : va_D A [(zo4rrir go gR gO (nI lk) gS), (zaI gR cR 8 fR), (zaI gO cO 8 (upd fO i ((fO i) ||| (1 <<< ((nI j) &&& 31)))))] := hD
        rw [hQ]
        have hP9 := hP.sub (ws' := [(zo4rrir go gR gO (nI lk) gS), (zaI gR cR 8 fR), (zaI gO cO 8 (upd fO i ((fO i) ||| (1 <<< ((nI j) &&& 31)))))]) [0, 1, 2] rfl
        have hD9 := hD.sub (ws' := [(zo4rrir go gR gO (nI lk) gS), (zaI gR cR 8 fR), (zaI gO cO 8 (upd fO i ((fO i) ||| (1 <<< ((nI j) &&& 31)))))]) [0, 1, 2] (by decide) rfl
        have hK9 := hK.sub (tys' := [(cR, .int), (cO, .int)]) [0, 1] rfl
        exact W.vret hx hb hr (fun tQ htQ hWQ => ⟨⟨(upd fO i ((fO i) ||| (1 <<< ((nI j) &&& 31)))), rfl, ⟨_, rfl, tgB_t (by omega) (⟨by omega, gv_y c_5 (by rw [hk]; decide)⟩)⟩, by rw [htQ]; exact hP9, va_K.moved hWQ.alike hK9, hD9⟩, hS.F htQ⟩) hS.2.2 dX2_tellGoing_101
      · skip
        have hY : Fz dC dI [(zo12iiii (ya i) (yk i) (nI i) (yv i) (yc i))] [] A s := by have h9 := (hH_ i (by omega)).2; rw [hpE, e_7] at h9; exact h9
        refine vp_callSi (va_runU (As := [.int (yc j)]) (rest := []) ⟨hx, hb, hml, hown, hts⟩ (c_lead10 l dC dI gd kA  i (yk i) (yv i) (yc i) (yc j) (ya i) (zyv i (by omega)) (zyc i (by omega)) (zyc j (by omega))) (va_cwO 1 hts gX2_tellGoing_X10_leadsTo_u62X10 rfl rfl rfl kc_tgHH_8 (by decide +kernel) ⟨Nat.le_of_ble_eq_true rfl, Nat.le_of_ble_eq_true rfl⟩) ⟨fun a U g mk q => by obtain ⟨q0, qhG, qhN_, qhZ⟩ := q; exact ⟨q0, qhG.mv g mk a, qhN_.mv g mk a, qhZ.mv g mk a⟩, va_recv hY.2.1 (hY.P hS) (ci := 12) (q := (RX10, TX10, 4)) (q0 := 0) rfl rfl, fun U hU hW => ⟨rfl, hG.callF hS hU hW, hN_.callF hS hU hW, hY.callF hS hU hW⟩⟩ rfl rfl hl.1 rfl (lv_room (Nat.le_of_ble_eq_true rfl)) dX2_tellGoing_39 ⟨Nat.le_of_ble_eq_true rfl, Nat.le_of_ble_eq_true rfl⟩).run (fun r_32 hw_33 => ?_)
        have hk := hpT_k4 (zyt i (by omega)) e_7
        rcases hw_33 with ⟨rfl, hd_34⟩ | ⟨rfl, hd_34⟩
        · skip
          refine lv_if_eq (tgt := 49) hx hb dX2_tellGoing_42 (by decide) (fun c_35 => absurd c_35 (by decide)) (fun _ => ?_)
          refine lv_iconst (v := 1) hx hb dX2_tellGoing_45 (by decide) ?_
          refine lv_goto (tgt := 50) hx hb dX2_tellGoing_46 (by decide) ?_
          refine lv_istore_n (lv' := [(3, .int 1), (0, .ref go), (1, .ref (ya i)), (2, .ref (ya j))]) hx hb dX2_tellGoing_50 rfl hl (by decide) rfl (fun ls hl => ?_)
          refine lv_iconst (v := 1) hx hb dX2_tellGoing_51 (by decide) ?_
          refine lv_aload_n hx hb dX2_tellGoing_52 rfl (lv_at hl 3 rfl) ?_
          refine va_hget1 (v := .int (nI j)) hx hb hts kc_tgHH_1 hown (hH_ j (by omega)).1 (hH_ j (by omega)).2 hS (hts (.fieldLink RX2 59 "MistHeaps$Heap" "number" "I") kc_tgHH_0) dX2_tellGoing_53 rfl ?_
          refine lv_ishl hx hb dX2_tellGoing_56 ?_
          refine lv_istore (lv' := [(4, .int (1 <<< ((nI j) &&& 31))), (3, .int 1), (0, .ref go), (1, .ref (ya i)), (2, .ref (ya j))]) hx hb dX2_tellGoing_57 hl (by decide) rfl (fun ls hl => ?_)
          refine lv_aload_n hx hb dX2_tellGoing_59 rfl (lv_at hl 2 rfl) ?_
          refine va_get (D := (dC, dI)) (ci := 4) (v := .ref gO) (C := RX2) (T := TX2) (N := 4) hx hb hts kc_tgHH_2 hown hK hP 0 rfl rfl 1 (by decide) (hts (.fieldLink RX2 15 "MistHeaps$Goings" "onward" "[I") kc_tgHH_3) (fun _ h9 => h9) rfl dX2_tellGoing_60 ?_
          refine lv_aload_n hx hb dX2_tellGoing_63 rfl (lv_at hl 3 rfl) ?_
          refine va_hget1 (v := .int (nI i)) hx hb hts kc_tgHH_1 hown (hH_ i (by omega)).1 (hH_ i (by omega)).2 hS (hts (.fieldLink RX2 59 "MistHeaps$Heap" "number" "I") kc_tgHH_0) dX2_tellGoing_64 rfl ?_
          refine lv_iload_n hx hb dX2_tellGoing_67 rfl (lv_at hl 1 rfl) ?_
          refine lv_if_eq (tgt := 86) hx hb dX2_tellGoing_68 (by decide) (fun c_36 => absurd c_36 (by decide)) (fun _ => ?_)
          refine lv_aload_n hx hb dX2_tellGoing_71 rfl (lv_at hl 2 rfl) ?_
          refine va_get (D := (dC, dI)) (ci := 4) (v := .ref gO) (C := RX2) (T := TX2) (N := 4) hx hb hts kc_tgHH_2 hown hK hP 0 rfl rfl 1 (by decide) (hts (.fieldLink RX2 15 "MistHeaps$Goings" "onward" "[I") kc_tgHH_3) (fun _ h9 => h9) rfl dX2_tellGoing_72 ?_
          refine lv_aload_n hx hb dX2_tellGoing_75 rfl (lv_at hl 3 rfl) ?_
          refine va_hget1 (v := .int (nI i)) hx hb hts kc_tgHH_1 hown (hH_ i (by omega)).1 (hH_ i (by omega)).2 hS (hts (.fieldLink RX2 59 "MistHeaps$Heap" "number" "I") kc_tgHH_0) dX2_tellGoing_76 rfl ?_
          refine va_iald hx hb hK hP 2 1 rfl rfl (vp_in_nI (n := i) (N := 8) (by omega) (by omega)) dX2_tellGoing_79 ?_
          refine qi_as (y := fO i) (by rw [nI_clamp (by omega)]) ?_
          refine lv_iload hx hb dX2_tellGoing_80 (lv_at hl 0 rfl) ?_
          refine lv_ior hx hb dX2_tellGoing_82 ?_
          refine lv_goto (tgt := 100) hx hb dX2_tellGoing_83 (by decide) ?_
          refine va_iast hx hb hK hP hD hS 2 1 rfl rfl (vp_in_nI (n := i) (N := 8) (by omega) (by omega)) dX2_tellGoing_100 (fun H locs hP hD hS => ?_)
          rw [nI_clamp (n := i) (by omega)] at hP hD
          have hP : va_P (dC, dI) vwCl [(zo4rrir go gR gO (nI lk) gS), (zaI gR cR 8 fR), (zaI gO cO 8 (upd fO i ((fO i) ||| (1 <<< ((nI j) &&& 31)))))] H := hP
          have hD : va_D A [(zo4rrir go gR gO (nI lk) gS), (zaI gR cR 8 fR), (zaI gO cO 8 (upd fO i ((fO i) ||| (1 <<< ((nI j) &&& 31)))))] := hD
          rw [hQ]
          have hP9 := hP.sub (ws' := [(zo4rrir go gR gO (nI lk) gS), (zaI gR cR 8 fR), (zaI gO cO 8 (upd fO i ((fO i) ||| (1 <<< ((nI j) &&& 31)))))]) [0, 1, 2] rfl
          have hD9 := hD.sub (ws' := [(zo4rrir go gR gO (nI lk) gS), (zaI gR cR 8 fR), (zaI gO cO 8 (upd fO i ((fO i) ||| (1 <<< ((nI j) &&& 31)))))]) [0, 1, 2] (by decide) rfl
          have hK9 := hK.sub (tys' := [(cR, .int), (cO, .int)]) [0, 1] rfl
          exact W.vret hx hb hr (fun tQ htQ hWQ => ⟨⟨(upd fO i ((fO i) ||| (1 <<< ((nI j) &&& 31)))), rfl, ⟨_, rfl, tgB_t (by omega) (⟨by omega, gv_4 c_5 hk hd_34⟩)⟩, by rw [htQ]; exact hP9, va_K.moved hWQ.alike hK9, hD9⟩, hS.F htQ⟩) hS.2.2 dX2_tellGoing_101
        · skip
          refine lv_if_eq (tgt := 49) hx hb dX2_tellGoing_42 (by decide) (fun _ => ?_) (fun c_37 => absurd c_37 (by decide))
          refine lv_iconst (v := 0) hx hb dX2_tellGoing_49 (by decide) ?_
          refine lv_istore_n (lv' := [(3, .int 0), (0, .ref go), (1, .ref (ya i)), (2, .ref (ya j))]) hx hb dX2_tellGoing_50 rfl hl (by decide) rfl (fun ls hl => ?_)
          refine lv_iconst (v := 1) hx hb dX2_tellGoing_51 (by decide) ?_
          refine lv_aload_n hx hb dX2_tellGoing_52 rfl (lv_at hl 3 rfl) ?_
          refine va_hget1 (v := .int (nI j)) hx hb hts kc_tgHH_1 hown (hH_ j (by omega)).1 (hH_ j (by omega)).2 hS (hts (.fieldLink RX2 59 "MistHeaps$Heap" "number" "I") kc_tgHH_0) dX2_tellGoing_53 rfl ?_
          refine lv_ishl hx hb dX2_tellGoing_56 ?_
          refine lv_istore (lv' := [(4, .int (1 <<< ((nI j) &&& 31))), (3, .int 0), (0, .ref go), (1, .ref (ya i)), (2, .ref (ya j))]) hx hb dX2_tellGoing_57 hl (by decide) rfl (fun ls hl => ?_)
          refine lv_aload_n hx hb dX2_tellGoing_59 rfl (lv_at hl 2 rfl) ?_
          refine va_get (D := (dC, dI)) (ci := 4) (v := .ref gO) (C := RX2) (T := TX2) (N := 4) hx hb hts kc_tgHH_2 hown hK hP 0 rfl rfl 1 (by decide) (hts (.fieldLink RX2 15 "MistHeaps$Goings" "onward" "[I") kc_tgHH_3) (fun _ h9 => h9) rfl dX2_tellGoing_60 ?_
          refine lv_aload_n hx hb dX2_tellGoing_63 rfl (lv_at hl 3 rfl) ?_
          refine va_hget1 (v := .int (nI i)) hx hb hts kc_tgHH_1 hown (hH_ i (by omega)).1 (hH_ i (by omega)).2 hS (hts (.fieldLink RX2 59 "MistHeaps$Heap" "number" "I") kc_tgHH_0) dX2_tellGoing_64 rfl ?_
          refine lv_iload_n hx hb dX2_tellGoing_67 rfl (lv_at hl 1 rfl) ?_
          refine lv_if_eq (tgt := 86) hx hb dX2_tellGoing_68 (by decide) (fun _ => ?_) (fun c_38 => absurd c_38 (by decide))
          refine lv_aload_n hx hb dX2_tellGoing_86 rfl (lv_at hl 2 rfl) ?_
          refine va_get (D := (dC, dI)) (ci := 4) (v := .ref gO) (C := RX2) (T := TX2) (N := 4) hx hb hts kc_tgHH_2 hown hK hP 0 rfl rfl 1 (by decide) (hts (.fieldLink RX2 15 "MistHeaps$Goings" "onward" "[I") kc_tgHH_3) (fun _ h9 => h9) rfl dX2_tellGoing_87 ?_
          refine lv_aload_n hx hb dX2_tellGoing_90 rfl (lv_at hl 3 rfl) ?_
          refine va_hget1 (v := .int (nI i)) hx hb hts kc_tgHH_1 hown (hH_ i (by omega)).1 (hH_ i (by omega)).2 hS (hts (.fieldLink RX2 59 "MistHeaps$Heap" "number" "I") kc_tgHH_0) dX2_tellGoing_91 rfl ?_
          refine va_iald hx hb hK hP 2 1 rfl rfl (vp_in_nI (n := i) (N := 8) (by omega) (by omega)) dX2_tellGoing_94 ?_
          refine qi_as (y := fO i) (by rw [nI_clamp (by omega)]) ?_
          refine lv_iload hx hb dX2_tellGoing_95 (lv_at hl 0 rfl) ?_
          refine lv_iconst (v := (-1)) hx hb dX2_tellGoing_97 (by decide) ?_
          refine lv_ixor hx hb dX2_tellGoing_98 ?_
          refine lv_iand hx hb dX2_tellGoing_99 ?_
          refine va_iast hx hb hK hP hD hS 2 1 rfl rfl (vp_in_nI (n := i) (N := 8) (by omega) (by omega)) dX2_tellGoing_100 (fun H locs hP hD hS => ?_)
          rw [nI_clamp (n := i) (by omega)] at hP hD
          have hP : va_P (dC, dI) vwCl [(zo4rrir go gR gO (nI lk) gS), (zaI gR cR 8 fR), (zaI gO cO 8 (upd fO i ((fO i) &&& ((1 <<< ((nI j) &&& 31)) ^^^ (-1)))))] H := hP
          have hD : va_D A [(zo4rrir go gR gO (nI lk) gS), (zaI gR cR 8 fR), (zaI gO cO 8 (upd fO i ((fO i) &&& ((1 <<< ((nI j) &&& 31)) ^^^ (-1)))))] := hD
          rw [hQ]
          have hP9 := hP.sub (ws' := [(zo4rrir go gR gO (nI lk) gS), (zaI gR cR 8 fR), (zaI gO cO 8 (upd fO i ((fO i) &&& ((1 <<< ((nI j) &&& 31)) ^^^ (-1)))))]) [0, 1, 2] rfl
          have hD9 := hD.sub (ws' := [(zo4rrir go gR gO (nI lk) gS), (zaI gR cR 8 fR), (zaI gO cO 8 (upd fO i ((fO i) &&& ((1 <<< ((nI j) &&& 31)) ^^^ (-1)))))]) [0, 1, 2] (by decide) rfl
          have hK9 := hK.sub (tys' := [(cR, .int), (cO, .int)]) [0, 1] rfl
          exact W.vret hx hb hr (fun tQ htQ hWQ => ⟨⟨(upd fO i ((fO i) &&& ((1 <<< ((nI j) &&& 31)) ^^^ (-1)))), rfl, ⟨_, rfl, tgB_f (by omega) (fun z9 => gv_4n hk hd_34 z9.2)⟩, by rw [htQ]; exact hP9, va_K.moved hWQ.alike hK9, hD9⟩, hS.F htQ⟩) hS.2.2 dX2_tellGoing_101

theorem kc_tgHS_0 : (.fieldLink RX2 59 "MistHeaps$Heap" "number" "I" : Cond) ∈ wsX2_tellGoing := kc_of 234 rfl rfl rfl
theorem kc_tgHS_2 : ∀ w ∈ wsX30, w ∈ wsX2_tellGoing := fun w h => List.mem_cons_of_mem _ (gin_wsX30 w h)
theorem kc_tgHS_3 : ∀ w ∈ wsX20, w ∈ wsX2_tellGoing := fun w h => List.mem_cons_of_mem _ (gin_wsX20 w h)
theorem kc_tgHS_4 : (.fieldLink RX2 15 "MistHeaps$Goings" "onward" "[I" : Cond) ∈ wsX2_tellGoing := kc_of 262 rfl rfl rfl
theorem kc_tgHS_5 : (.fieldLink RX2 41 "MistHeaps$Heap" "cell" "I" : Cond) ∈ wsX2_tellGoing := kc_of 249 rfl rfl rfl
theorem kc_tgHS_6 : (.initialized RX11 : Cond) ∈ wsX2_tellGoing := kc_of 63 rfl rfl rfl
theorem kc_tgHS_7 : (.static yX11_apart : Cond) ∈ wsX2_tellGoing := kc_of 699 rfl rfl rfl
theorem kc_tgHS_8 : (.fieldLink RX2 9 "MistHeaps$Goings" "reach" "[I" : Cond) ∈ wsX2_tellGoing := kc_of 261 rfl rfl rfl
theorem kc_tgHS_9 : (.code yX3_leadsTo cX3_leadsTo 2 (some .boolean) : Cond) ∈ wsX2_tellGoing := kc_of 753 rfl rfl rfl
theorem kc_tgHS_1 : ∀ C ∈ hpC, ∀ w ∈ u_ws C.1 C.2.1 C.2.2, w ∈ wsX2_tellGoing := by decide +kernel
set_option maxHeartbeats 4000000 in
set_option maxRecDepth 100000 in
theorem c_tgHS (l : Launch) (dC : Nat → ClassId) (dI : Nat → Nat → Nat) (gd : Nat → Nat) (kA : Nat)  (go : Nat) (gR : Nat) (gO : Nat) (gS : Nat) (n : Nat) (lk : Nat) (i : Nat) (i0 : Nat) (scl : Int32) (cR : ClassId) (cO : ClassId) (fR : Nat → Int32) (fO : Nat → Int32) (yk : Nat → Int32) (yv : Nat → Int32) (yc : Nat → Int32) (yi : Nat → Nat) (ya : Nat → Nat) (sz : Nat) (hin : i < n) (hi0 : i0 < 8) (hn8 : n ≤ 8) (zsc : ∃ v0 : Nat, v0 < 36 ∧ scl = nI v0) (zyv : ∀ k0, k0 < n → ∃ v0 : Nat, v0 ≤ 9 ∧ yv k0 = nI v0) (zyc : ∀ k0, k0 < n → ∃ v0 : Nat, v0 < 36 ∧ yc k0 = nI v0) (zyt : ∀ k0, k0 < n → hpT (yi k0) (yk k0)) : Met l yX2_tellGoing wsX2_tellGoing ({ frames := 2, cells := 0, slots := 0, locals := 43 } : Room) (va_Pc [.ref go, .ref (ya i), .ref gS] (fun U => U.heap.size = sz ∧ va_P (dC, dI) vwCl [(zo4rrir go gR gO (nI lk) gS), (zaI gR cR 8 fR), (zaI gO cO 8 fO), (zo5iiii gS 0 (nI i0) 0 scl)] U.heap ∧ va_K (dC, dI) vwCl [(cR, .int), (cO, .int)] U ∧ va_D (fun _ => True) [(zo4rrir go gR gO (nI lk) gS), (zaI gR cR 8 fR), (zaI gO cO 8 fO), (zo5iiii gS 0 (nI i0) 0 scl)] ∧ Gl gd (va_A [(zo4rrir go gR gO (nI lk) gS), (zaI gR cR 8 fR), (zaI gO cO 8 fO), (zo5iiii gS 0 (nI i0) 0 scl)] sz) U ∧ Gn kA (va_A [(zo4rrir go gR gO (nI lk) gS), (zaI gR cR 8 fR), (zaI gO cO 8 fO), (zo5iiii gS 0 (nI i0) 0 scl)] sz) U ∧ Hs dC dI n yi ya yk yv yc (va_A [(zo4rrir go gR gO (nI lk) gS), (zaI gR cR 8 fR), (zaI gO cO 8 fO), (zo5iiii gS 0 (nI i0) 0 scl)] sz) U)) (va_Qv (fun (u : Nat → Int32) => match u with | fO9 => ∃ q9 : Int32, fO9 = upd fO i q9 ∧ tgB (¬ i = i0 ∧ goV (yk i) (yv i) (yc i) scl (fR i0)) (fO i) i0 q9) (fun (u : Nat → Int32) (t : State) => match u with | fO9 => va_P (dC, dI) vwCl [(zo4rrir go gR gO (nI lk) gS), (zaI gR cR 8 fR), (zaI gO cO 8 fO9), (zo5iiii gS 0 (nI i0) 0 scl)] t.heap ∧ va_K (dC, dI) vwCl [(cR, .int), (cO, .int)] t ∧ va_D (va_A [(zo4rrir go gR gO (nI lk) gS), (zaI gR cR 8 fR), (zaI gO cO 8 fO), (zo5iiii gS 0 (nI i0) 0 scl)] sz) [(zo4rrir go gR gO (nI lk) gS), (zaI gR cR 8 fR), (zaI gO cO 8 fO9), (zo5iiii gS 0 (nI i0) 0 scl)]) (va_A [(zo4rrir go gR gO (nI lk) gS), (zaI gR cR 8 fR), (zaI gO cO 8 fO), (zo5iiii gS 0 (nI i0) 0 scl)] sz)) 0 0 (va_A [(zo4rrir go gR gO (nI lk) gS), (zaI gR cR 8 fR), (zaI gO cO 8 fO), (zo5iiii gS 0 (nI i0) 0 scl)] sz) := by
  refine met_ofQ (cc := cX2_tellGoing) (maxL := 5) (ret := none) (by decide) rfl ?_
  intro p e s m args below meth c s₁ Q B hml hv hQ
  obtain ⟨rfl, hsz, hP, hK, hD0, hG, hN_, hH_⟩ := hv
  have hx := B.exec
  have hb := B.bytes
  have hr := B.returns
  have hts := atoms_spec (ws := wsX2_tellGoing) B.pre
  have hown : s.vm.findClass RX2 = some m.cls := findClass_of_methodNamed B.named
  have hlocks := B.notSynchronized
  subst hsz
  have hD := hD0.self (sz := s.heap.size)
  generalize hAe : va_A [(zo4rrir go gR gO (nI lk) gS), (zaI gR cR 8 fR), (zaI gO cO 8 fO), (zo5iiii gS 0 (nI i0) 0 scl)] s.heap.size = A at hD hQ hG hN_ hH_ ⊢
  have hA : ∀ q : Nat, s.heap.size ≤ q → A q := fun q h => by rw [← hAe]; exact Or.inr h
  have hS : va_S A s.heap s.heap [] := va_S.rf
  have hl := lv_entry [.ref go, .ref (ya i), .ref gS] (n := 5) (Nat.le_of_ble_eq_true rfl)
  rw [lg_entry_eq]
  generalize (lg_sl [.ref go, .ref (ya i), .ref gS] ++ List.replicate (5 - (lg_sl [.ref go, .ref (ya i), .ref gS]).length) Slot.unset).toArray = ls at hl ⊢
  generalize hag : ([.ref go, .ref (ya i), .ref gS] : List Value).toArray = args at hts hQ ⊢
  have hl : lv_has ls 5 [(0, .ref go), (1, .ref (ya i)), (2, .ref gS)] := hl
  obtain ⟨H, hH⟩ : ∃ H : Heap, H = s.heap := ⟨_, rfl⟩
  rw [← hH] at hP
  rw [← hH]
  have hS : va_S A s.heap H [] := by rw [hH]; exact hS
  obtain ⟨locs, hlo⟩ : ∃ L : List Loc, L = [] := ⟨_, rfl⟩
  rw [← hlo] at hS
  rw [← hlo]
  clear hH hlo
  refine lv_aload_n hx hb dX2_tellGoing_0 rfl (lv_at hl 1 rfl) ?_
  refine va_hget1 (v := .int (nI i)) hx hb hts kc_tgHS_1 hown (hH_ i (by omega)).1 (hH_ i (by omega)).2 hS (hts (.fieldLink RX2 59 "MistHeaps$Heap" "number" "I") kc_tgHS_0) dX2_tellGoing_1 rfl ?_
  refine lv_aload_n hx hb dX2_tellGoing_4 rfl (lv_at hl 2 rfl) ?_
  refine va_get (D := (dC, dI)) (ci := 5) (v := .int (nI i0)) (C := RX3) (T := TX3) (N := 4) hx hb hts kc_tgHS_2 hown hK hP 3 rfl rfl 1 (by decide) (hts (.fieldLink RX2 59 "MistHeaps$Heap" "number" "I") kc_tgHS_0) (fun _ h9 => h9) rfl dX2_tellGoing_5 ?_
  refine lv_icmp_eq (tgt := 49) hx hb dX2_tellGoing_8 (by decide) (fun c_1 => ?_) (fun c_1 => ?_)
  · skip
    have c_1 : i = i0 := (nI_eq (a := i) (b := i0) (by omega) (by omega)).mp c_1
    refine lv_iconst (v := 0) hx hb dX2_tellGoing_49 (by decide) ?_
    refine lv_istore_n (lv' := [(3, .int 0), (0, .ref go), (1, .ref (ya i)), (2, .ref gS)]) hx hb dX2_tellGoing_50 rfl hl (by decide) rfl (fun ls hl => ?_)
    refine lv_iconst (v := 1) hx hb dX2_tellGoing_51 (by decide) ?_
    refine lv_aload_n hx hb dX2_tellGoing_52 rfl (lv_at hl 3 rfl) ?_
    refine va_get (D := (dC, dI)) (ci := 5) (v := .int (nI i0)) (C := RX3) (T := TX3) (N := 4) hx hb hts kc_tgHS_2 hown hK hP 3 rfl rfl 1 (by decide) (hts (.fieldLink RX2 59 "MistHeaps$Heap" "number" "I") kc_tgHS_0) (fun _ h9 => h9) rfl dX2_tellGoing_53 ?_
    refine lv_ishl hx hb dX2_tellGoing_56 ?_
    refine lv_istore (lv' := [(4, .int (1 <<< ((nI i0) &&& 31))), (3, .int 0), (0, .ref go), (1, .ref (ya i)), (2, .ref gS)]) hx hb dX2_tellGoing_57 hl (by decide) rfl (fun ls hl => ?_)
    refine lv_aload_n hx hb dX2_tellGoing_59 rfl (lv_at hl 2 rfl) ?_
    refine va_get (D := (dC, dI)) (ci := 4) (v := .ref gO) (C := RX2) (T := TX2) (N := 4) hx hb hts kc_tgHS_3 hown hK hP 0 rfl rfl 1 (by decide) (hts (.fieldLink RX2 15 "MistHeaps$Goings" "onward" "[I") kc_tgHS_4) (fun _ h9 => h9) rfl dX2_tellGoing_60 ?_
    refine lv_aload_n hx hb dX2_tellGoing_63 rfl (lv_at hl 3 rfl) ?_
    refine va_hget1 (v := .int (nI i)) hx hb hts kc_tgHS_1 hown (hH_ i (by omega)).1 (hH_ i (by omega)).2 hS (hts (.fieldLink RX2 59 "MistHeaps$Heap" "number" "I") kc_tgHS_0) dX2_tellGoing_64 rfl ?_
    refine lv_iload_n hx hb dX2_tellGoing_67 rfl (lv_at hl 1 rfl) ?_
    refine lv_if_eq (tgt := 86) hx hb dX2_tellGoing_68 (by decide) (fun _ => ?_) (fun c_2 => absurd c_2 (by decide))
    refine lv_aload_n hx hb dX2_tellGoing_86 rfl (lv_at hl 2 rfl) ?_
    refine va_get (D := (dC, dI)) (ci := 4) (v := .ref gO) (C := RX2) (T := TX2) (N := 4) hx hb hts kc_tgHS_3 hown hK hP 0 rfl rfl 1 (by decide) (hts (.fieldLink RX2 15 "MistHeaps$Goings" "onward" "[I") kc_tgHS_4) (fun _ h9 => h9) rfl dX2_tellGoing_87 ?_
    refine lv_aload_n hx hb dX2_tellGoing_90 rfl (lv_at hl 3 rfl) ?_
    refine va_hget1 (v := .int (nI i)) hx hb hts kc_tgHS_1 hown (hH_ i (by omega)).1 (hH_ i (by omega)).2 hS (hts (.fieldLink RX2 59 "MistHeaps$Heap" "number" "I") kc_tgHS_0) dX2_tellGoing_91 rfl ?_
    refine va_iald hx hb hK hP 2 1 rfl rfl (vp_in_nI (n := i) (N := 8) (by omega) (by omega)) dX2_tellGoing_94 ?_
    refine qi_as (y := fO i) (by rw [nI_clamp (by omega)]) ?_
    refine lv_iload hx hb dX2_tellGoing_95 (lv_at hl 0 rfl) ?_
    refine lv_iconst (v := (-1)) hx hb dX2_tellGoing_97 (by decide) ?_
    refine lv_ixor hx hb dX2_tellGoing_98 ?_
    refine lv_iand hx hb dX2_tellGoing_99 ?_
    refine va_iast hx hb hK hP hD hS 2 1 rfl rfl (vp_in_nI (n := i) (N := 8) (by omega) (by omega)) dX2_tellGoing_100 (fun H locs hP hD hS => ?_)
    rw [nI_clamp (n := i) (by omega)] at hP hD
    have hP : va_P (dC, dI) vwCl [(zo4rrir go gR gO (nI lk) gS), (zaI gR cR 8 fR), (zaI gO cO 8 (upd fO i ((fO i) &&& ((1 <<< ((nI i0) &&& 31)) ^^^ (-1))))), (zo5iiii gS 0 (nI i0) 0 scl)] H := hP
    have hD : va_D A [(zo4rrir go gR gO (nI lk) gS), (zaI gR cR 8 fR), (zaI gO cO 8 (upd fO i ((fO i) &&& ((1 <<< ((nI i0) &&& 31)) ^^^ (-1))))), (zo5iiii gS 0 (nI i0) 0 scl)] := hD
    rw [hQ]
    have hP9 := hP.sub (ws' := [(zo4rrir go gR gO (nI lk) gS), (zaI gR cR 8 fR), (zaI gO cO 8 (upd fO i ((fO i) &&& ((1 <<< ((nI i0) &&& 31)) ^^^ (-1))))), (zo5iiii gS 0 (nI i0) 0 scl)]) [0, 1, 2, 3] rfl
    have hD9 := hD.sub (ws' := [(zo4rrir go gR gO (nI lk) gS), (zaI gR cR 8 fR), (zaI gO cO 8 (upd fO i ((fO i) &&& ((1 <<< ((nI i0) &&& 31)) ^^^ (-1))))), (zo5iiii gS 0 (nI i0) 0 scl)]) [0, 1, 2, 3] (by decide) rfl
    have hK9 := hK.sub (tys' := [(cR, .int), (cO, .int)]) [0, 1] rfl
    exact W.vret hx hb hr (fun tQ htQ hWQ => ⟨⟨(upd fO i ((fO i) &&& ((1 <<< ((nI i0) &&& 31)) ^^^ (-1)))), rfl, ⟨_, rfl, tgB_f (by omega) (fun z9 => z9.1 (by omega))⟩, by rw [htQ]; exact hP9, va_K.moved hWQ.alike hK9, hD9⟩, hS.F htQ⟩) hS.2.2 dX2_tellGoing_101
  · skip
    have c_1 : ¬ i = i0 := fun q => c_1 ((nI_eq (a := i) (b := i0) (by omega) (by omega)).mpr q)
    refine lv_aload_n hx hb dX2_tellGoing_11 rfl (lv_at hl 1 rfl) ?_
    refine va_hget3 (v := .int (yc i)) hx hb hts kc_tgHS_1 hown (hH_ i (by omega)).1 (hH_ i (by omega)).2 hS (hts (.fieldLink RX2 41 "MistHeaps$Heap" "cell" "I") kc_tgHS_5) dX2_tellGoing_12 rfl ?_
    refine lv_aload_n hx hb dX2_tellGoing_15 rfl (lv_at hl 2 rfl) ?_
    refine va_get (D := (dC, dI)) (ci := 5) (v := .int scl) (C := RX3) (T := TX3) (N := 4) hx hb hts kc_tgHS_2 hown hK hP 3 rfl rfl 3 (by decide) (hts (.fieldLink RX2 41 "MistHeaps$Heap" "cell" "I") kc_tgHS_5) (fun _ h9 => h9) rfl dX2_tellGoing_16 ?_
    refine vp_callSi (va_runSN (As := [.int (yc i), .int scl]) (rest := []) ⟨hx, hb, hml, hown, hts⟩ (c_xApart l dC dI (yc i) scl) ⟨va_cnB 2 hts ggX2_tellGoing_X11_apart rfl rfl rfl (hG.1 (.methodLinkNest RX2 44 yX11_apart "MistHeaps") (by decide +kernel)) (hts (.initialized RX11) kc_tgHS_6) (by decide +kernel) ⟨Nat.le_of_ble_eq_true rfl, Nat.le_of_ble_eq_true rfl⟩, (hts (.static yX11_apart) kc_tgHS_7), trivial⟩ ⟨fun a U g mk q => ⟨q.1, trivial⟩, fun U hU hW => ⟨rfl, trivial⟩⟩ rfl rfl hl.1 rfl (lv_room (Nat.le_of_ble_eq_true rfl)) dX2_tellGoing_19 ⟨Nat.le_of_ble_eq_true rfl, Nat.le_of_ble_eq_true rfl⟩).run (fun r_3 hw_4 => ?_)
    obtain rfl := hw_4
    refine lv_aload_n hx hb dX2_tellGoing_22 rfl (lv_at hl 0 rfl) ?_
    refine va_get (D := (dC, dI)) (ci := 4) (v := .ref gR) (C := RX2) (T := TX2) (N := 4) hx hb hts kc_tgHS_3 hown hK hP 0 rfl rfl 0 (by decide) (hts (.fieldLink RX2 9 "MistHeaps$Goings" "reach" "[I") kc_tgHS_8) (fun _ h9 => h9) rfl dX2_tellGoing_23 ?_
    refine lv_aload_n hx hb dX2_tellGoing_26 rfl (lv_at hl 2 rfl) ?_
    refine va_get (D := (dC, dI)) (ci := 5) (v := .int (nI i0)) (C := RX3) (T := TX3) (N := 4) hx hb hts kc_tgHS_2 hown hK hP 3 rfl rfl 1 (by decide) (hts (.fieldLink RX2 59 "MistHeaps$Heap" "number" "I") kc_tgHS_0) (fun _ h9 => h9) rfl dX2_tellGoing_27 ?_
    refine va_iald hx hb hK hP 1 0 rfl rfl (vp_in_nI (n := i0) (N := 8) (by omega) (by omega)) dX2_tellGoing_30 ?_
    refine qi_as (y := fR i0) (by rw [nI_clamp (by omega)]) ?_
    refine lv_icmp_gt (tgt := 49) hx hb dX2_tellGoing_31 (by decide) (fun c_5 => ?_) (fun c_5 => ?_)
    · skip
      refine lv_iconst (v := 0) hx hb dX2_tellGoing_49 (by decide) ?_
      refine lv_istore_n (lv' := [(3, .int 0), (0, .ref go), (1, .ref (ya i)), (2, .ref gS)]) hx hb dX2_tellGoing_50 rfl hl (by decide) rfl (fun ls hl => ?_)
      refine lv_iconst (v := 1) hx hb dX2_tellGoing_51 (by decide) ?_
      refine lv_aload_n hx hb dX2_tellGoing_52 rfl (lv_at hl 3 rfl) ?_
      refine va_get (D := (dC, dI)) (ci := 5) (v := .int (nI i0)) (C := RX3) (T := TX3) (N := 4) hx hb hts kc_tgHS_2 hown hK hP 3 rfl rfl 1 (by decide) (hts (.fieldLink RX2 59 "MistHeaps$Heap" "number" "I") kc_tgHS_0) (fun _ h9 => h9) rfl dX2_tellGoing_53 ?_
      refine lv_ishl hx hb dX2_tellGoing_56 ?_
      refine lv_istore (lv' := [(4, .int (1 <<< ((nI i0) &&& 31))), (3, .int 0), (0, .ref go), (1, .ref (ya i)), (2, .ref gS)]) hx hb dX2_tellGoing_57 hl (by decide) rfl (fun ls hl => ?_)
      refine lv_aload_n hx hb dX2_tellGoing_59 rfl (lv_at hl 2 rfl) ?_
      refine va_get (D := (dC, dI)) (ci := 4) (v := .ref gO) (C := RX2) (T := TX2) (N := 4) hx hb hts kc_tgHS_3 hown hK hP 0 rfl rfl 1 (by decide) (hts (.fieldLink RX2 15 "MistHeaps$Goings" "onward" "[I") kc_tgHS_4) (fun _ h9 => h9) rfl dX2_tellGoing_60 ?_
      refine lv_aload_n hx hb dX2_tellGoing_63 rfl (lv_at hl 3 rfl) ?_
      refine va_hget1 (v := .int (nI i)) hx hb hts kc_tgHS_1 hown (hH_ i (by omega)).1 (hH_ i (by omega)).2 hS (hts (.fieldLink RX2 59 "MistHeaps$Heap" "number" "I") kc_tgHS_0) dX2_tellGoing_64 rfl ?_
      refine lv_iload_n hx hb dX2_tellGoing_67 rfl (lv_at hl 1 rfl) ?_
      refine lv_if_eq (tgt := 86) hx hb dX2_tellGoing_68 (by decide) (fun _ => ?_) (fun c_6 => absurd c_6 (by decide))
      refine lv_aload_n hx hb dX2_tellGoing_86 rfl (lv_at hl 2 rfl) ?_
      refine va_get (D := (dC, dI)) (ci := 4) (v := .ref gO) (C := RX2) (T := TX2) (N := 4) hx hb hts kc_tgHS_3 hown hK hP 0 rfl rfl 1 (by decide) (hts (.fieldLink RX2 15 "MistHeaps$Goings" "onward" "[I") kc_tgHS_4) (fun _ h9 => h9) rfl dX2_tellGoing_87 ?_
      refine lv_aload_n hx hb dX2_tellGoing_90 rfl (lv_at hl 3 rfl) ?_
      refine va_hget1 (v := .int (nI i)) hx hb hts kc_tgHS_1 hown (hH_ i (by omega)).1 (hH_ i (by omega)).2 hS (hts (.fieldLink RX2 59 "MistHeaps$Heap" "number" "I") kc_tgHS_0) dX2_tellGoing_91 rfl ?_
      refine va_iald hx hb hK hP 2 1 rfl rfl (vp_in_nI (n := i) (N := 8) (by omega) (by omega)) dX2_tellGoing_94 ?_
      refine qi_as (y := fO i) (by rw [nI_clamp (by omega)]) ?_
      refine lv_iload hx hb dX2_tellGoing_95 (lv_at hl 0 rfl) ?_
      refine lv_iconst (v := (-1)) hx hb dX2_tellGoing_97 (by decide) ?_
      refine lv_ixor hx hb dX2_tellGoing_98 ?_
      refine lv_iand hx hb dX2_tellGoing_99 ?_
      refine va_iast hx hb hK hP hD hS 2 1 rfl rfl (vp_in_nI (n := i) (N := 8) (by omega) (by omega)) dX2_tellGoing_100 (fun H locs hP hD hS => ?_)
      rw [nI_clamp (n := i) (by omega)] at hP hD
      have hP : va_P (dC, dI) vwCl [(zo4rrir go gR gO (nI lk) gS), (zaI gR cR 8 fR), (zaI gO cO 8 (upd fO i ((fO i) &&& ((1 <<< ((nI i0) &&& 31)) ^^^ (-1))))), (zo5iiii gS 0 (nI i0) 0 scl)] H := hP
      have hD : va_D A [(zo4rrir go gR gO (nI lk) gS), (zaI gR cR 8 fR), (zaI gO cO 8 (upd fO i ((fO i) &&& ((1 <<< ((nI i0) &&& 31)) ^^^ (-1))))), (zo5iiii gS 0 (nI i0) 0 scl)] := hD
      rw [hQ]
      have hP9 := hP.sub (ws' := [(zo4rrir go gR gO (nI lk) gS), (zaI gR cR 8 fR), (zaI gO cO 8 (upd fO i ((fO i) &&& ((1 <<< ((nI i0) &&& 31)) ^^^ (-1))))), (zo5iiii gS 0 (nI i0) 0 scl)]) [0, 1, 2, 3] rfl
      have hD9 := hD.sub (ws' := [(zo4rrir go gR gO (nI lk) gS), (zaI gR cR 8 fR), (zaI gO cO 8 (upd fO i ((fO i) &&& ((1 <<< ((nI i0) &&& 31)) ^^^ (-1))))), (zo5iiii gS 0 (nI i0) 0 scl)]) [0, 1, 2, 3] (by decide) rfl
      have hK9 := hK.sub (tys' := [(cR, .int), (cO, .int)]) [0, 1] rfl
      exact W.vret hx hb hr (fun tQ htQ hWQ => ⟨⟨(upd fO i ((fO i) &&& ((1 <<< ((nI i0) &&& 31)) ^^^ (-1)))), rfl, ⟨_, rfl, tgB_f (by omega) (fun z9 => gv_far c_5 z9.2)⟩, by rw [htQ]; exact hP9, va_K.moved hWQ.alike hK9, hD9⟩, hS.F htQ⟩) hS.2.2 dX2_tellGoing_101
    · skip
      refine lv_aload_n hx hb dX2_tellGoing_34 rfl (lv_at hl 1 rfl) ?_
      refine lv_aload_n hx hb dX2_tellGoing_35 rfl (lv_at hl 2 rfl) ?_
      refine va_get (D := (dC, dI)) (ci := 5) (v := .int scl) (C := RX3) (T := TX3) (N := 4) hx hb hts kc_tgHS_2 hown hK hP 3 rfl rfl 3 (by decide) (hts (.fieldLink RX2 41 "MistHeaps$Heap" "cell" "I") kc_tgHS_5) (fun _ h9 => h9) rfl dX2_tellGoing_36 ?_
      rcases (show yi i = 3 ∨ yi i = 5 ∨ yi i = 6 ∨ yi i = 8 ∨ yi i = 9 ∨ yi i = 11 ∨ yi i = 12 from (hH_ i (by omega)).1) with e_7 | e_7 | e_7 | e_7 | e_7 | e_7 | e_7
      · skip
        have hY : Fz dC dI [(zo3iiii (ya i) (yk i) (nI i) (yv i) (yc i))] [] A s := by have h9 := (hH_ i (by omega)).2; rw [hpE, e_7] at h9; exact h9
        refine vp_callSi (va_runU (As := [.int scl]) (rest := []) ⟨hx, hb, hml, hown, hts⟩ (c_lead1_X1 l dC dI  i (yk i) (yv i) (yc i) scl (ya i)) (va_cwO 1 hts gX2_tellGoing_X1_leadsTo_u62X1 rfl rfl rfl kc_tgHS_9 (by decide +kernel) ⟨Nat.le_of_ble_eq_true rfl, Nat.le_of_ble_eq_true rfl⟩) ⟨fun a U g mk q => by obtain ⟨q0, qhZ⟩ := q; exact ⟨q0, qhZ.mv g mk a⟩, va_recv hY.2.1 (hY.P hS) (ci := 3) (q := (RX1, TX1, 4)) (q0 := 0) rfl rfl, fun U hU hW => ⟨rfl, hY.callF hS hU hW⟩⟩ rfl rfl hl.1 rfl (lv_room (Nat.le_of_ble_eq_true rfl)) dX2_tellGoing_39 ⟨Nat.le_of_ble_eq_true rfl, Nat.le_of_ble_eq_true rfl⟩).run (fun r_8 hw_9 => ?_)
        have hk := hpT_k3 (zyt i (by omega)) e_7
        obtain rfl := hw_9
        refine lv_if_eq (tgt := 49) hx hb dX2_tellGoing_42 (by decide) (fun _ => ?_) (fun c_10 => absurd c_10 (by decide))
        refine lv_iconst (v := 0) hx hb dX2_tellGoing_49 (by decide) ?_
        refine lv_istore_n (lv' := [(3, .int 0), (0, .ref go), (1, .ref (ya i)), (2, .ref gS)]) hx hb dX2_tellGoing_50 rfl hl (by decide) rfl (fun ls hl => ?_)
        refine lv_iconst (v := 1) hx hb dX2_tellGoing_51 (by decide) ?_
        refine lv_aload_n hx hb dX2_tellGoing_52 rfl (lv_at hl 3 rfl) ?_
        refine va_get (D := (dC, dI)) (ci := 5) (v := .int (nI i0)) (C := RX3) (T := TX3) (N := 4) hx hb hts kc_tgHS_2 hown hK hP 3 rfl rfl 1 (by decide) (hts (.fieldLink RX2 59 "MistHeaps$Heap" "number" "I") kc_tgHS_0) (fun _ h9 => h9) rfl dX2_tellGoing_53 ?_
        refine lv_ishl hx hb dX2_tellGoing_56 ?_
        refine lv_istore (lv' := [(4, .int (1 <<< ((nI i0) &&& 31))), (3, .int 0), (0, .ref go), (1, .ref (ya i)), (2, .ref gS)]) hx hb dX2_tellGoing_57 hl (by decide) rfl (fun ls hl => ?_)
        refine lv_aload_n hx hb dX2_tellGoing_59 rfl (lv_at hl 2 rfl) ?_
        refine va_get (D := (dC, dI)) (ci := 4) (v := .ref gO) (C := RX2) (T := TX2) (N := 4) hx hb hts kc_tgHS_3 hown hK hP 0 rfl rfl 1 (by decide) (hts (.fieldLink RX2 15 "MistHeaps$Goings" "onward" "[I") kc_tgHS_4) (fun _ h9 => h9) rfl dX2_tellGoing_60 ?_
        refine lv_aload_n hx hb dX2_tellGoing_63 rfl (lv_at hl 3 rfl) ?_
        refine va_hget1 (v := .int (nI i)) hx hb hts kc_tgHS_1 hown (hH_ i (by omega)).1 (hH_ i (by omega)).2 hS (hts (.fieldLink RX2 59 "MistHeaps$Heap" "number" "I") kc_tgHS_0) dX2_tellGoing_64 rfl ?_
        refine lv_iload_n hx hb dX2_tellGoing_67 rfl (lv_at hl 1 rfl) ?_
        refine lv_if_eq (tgt := 86) hx hb dX2_tellGoing_68 (by decide) (fun _ => ?_) (fun c_11 => absurd c_11 (by decide))
        refine lv_aload_n hx hb dX2_tellGoing_86 rfl (lv_at hl 2 rfl) ?_
        refine va_get (D := (dC, dI)) (ci := 4) (v := .ref gO) (C := RX2) (T := TX2) (N := 4) hx hb hts kc_tgHS_3 hown hK hP 0 rfl rfl 1 (by decide) (hts (.fieldLink RX2 15 "MistHeaps$Goings" "onward" "[I") kc_tgHS_4) (fun _ h9 => h9) rfl dX2_tellGoing_87 ?_
        refine lv_aload_n hx hb dX2_tellGoing_90 rfl (lv_at hl 3 rfl) ?_
        refine va_hget1 (v := .int (nI i)) hx hb hts kc_tgHS_1 hown (hH_ i (by omega)).1 (hH_ i (by omega)).2 hS (hts (.fieldLink RX2 59 "MistHeaps$Heap" "number" "I") kc_tgHS_0) dX2_tellGoing_91 rfl ?_
        refine va_iald hx hb hK hP 2 1 rfl rfl (vp_in_nI (n := i) (N := 8) (by omega) (by omega)) dX2_tellGoing_94 ?_
        refine qi_as (y := fO i) (by rw [nI_clamp (by omega)]) ?_
        refine lv_iload hx hb dX2_tellGoing_95 (lv_at hl 0 rfl) ?_
        refine lv_iconst (v := (-1)) hx hb dX2_tellGoing_97 (by decide) ?_
        refine lv_ixor hx hb dX2_tellGoing_98 ?_
        refine lv_iand hx hb dX2_tellGoing_99 ?_
        refine va_iast hx hb hK hP hD hS 2 1 rfl rfl (vp_in_nI (n := i) (N := 8) (by omega) (by omega)) dX2_tellGoing_100 (fun H locs hP hD hS => ?_)
        rw [nI_clamp (n := i) (by omega)] at hP hD
        have hP : va_P (dC, dI) vwCl [(zo4rrir go gR gO (nI lk) gS), (zaI gR cR 8 fR), (zaI gO cO 8 (upd fO i ((fO i) &&& ((1 <<< ((nI i0) &&& 31)) ^^^ (-1))))), (zo5iiii gS 0 (nI i0) 0 scl)] H := hP
        have hD : va_D A [(zo4rrir go gR gO (nI lk) gS), (zaI gR cR 8 fR), (zaI gO cO 8 (upd fO i ((fO i) &&& ((1 <<< ((nI i0) &&& 31)) ^^^ (-1))))), (zo5iiii gS 0 (nI i0) 0 scl)] := hD
        rw [hQ]
        have hP9 := hP.sub (ws' := [(zo4rrir go gR gO (nI lk) gS), (zaI gR cR 8 fR), (zaI gO cO 8 (upd fO i ((fO i) &&& ((1 <<< ((nI i0) &&& 31)) ^^^ (-1))))), (zo5iiii gS 0 (nI i0) 0 scl)]) [0, 1, 2, 3] rfl
        have hD9 := hD.sub (ws' := [(zo4rrir go gR gO (nI lk) gS), (zaI gR cR 8 fR), (zaI gO cO 8 (upd fO i ((fO i) &&& ((1 <<< ((nI i0) &&& 31)) ^^^ (-1))))), (zo5iiii gS 0 (nI i0) 0 scl)]) [0, 1, 2, 3] (by decide) rfl
        have hK9 := hK.sub (tys' := [(cR, .int), (cO, .int)]) [0, 1] rfl
        exact W.vret hx hb hr (fun tQ htQ hWQ => ⟨⟨(upd fO i ((fO i) &&& ((1 <<< ((nI i0) &&& 31)) ^^^ (-1)))), rfl, ⟨_, rfl, tgB_f (by omega) (fun z9 => gv_3 hk z9.2)⟩, by rw [htQ]; exact hP9, va_K.moved hWQ.alike hK9, hD9⟩, hS.F htQ⟩) hS.2.2 dX2_tellGoing_101
      · skip
        have hY : Fz dC dI [(zo5iiii (ya i) (yk i) (nI i) (yv i) (yc i))] [] A s := by have h9 := (hH_ i (by omega)).2; rw [hpE, e_7] at h9; exact h9
        refine vp_callSi (va_runV (As := [.int scl]) (rest := []) ⟨hx, hb, hml, hown, hts⟩ (c_lead3_X3 l dC dI  i (yk i) (yv i) (yc i) scl (ya i)) (cwV 1 hts gX2_tellGoing_X3_leadsTo rfl rfl rfl hd_yX3_leadsTo ⟨Nat.le_of_ble_eq_true rfl, Nat.le_of_ble_eq_true rfl⟩) ⟨fun a U g mk q => by obtain ⟨q0, qhZ⟩ := q; exact ⟨q0, qhZ.mv g mk a⟩, va_recv hY.2.1 (hY.P hS) (ci := 5) (q := (RX3, TX3, 4)) (q0 := 0) rfl rfl, fun U hU hW => ⟨rfl, hY.callF hS hU hW⟩⟩ rfl rfl hl.1 rfl (lv_room (Nat.le_of_ble_eq_true rfl)) dX2_tellGoing_39 ⟨Nat.le_of_ble_eq_true rfl, Nat.le_of_ble_eq_true rfl⟩).run (fun r_12 hw_13 => ?_)
        have hk := hpT_k0 (zyt i (by omega)) e_7
        obtain rfl := hw_13
        refine lv_if_eq (tgt := 49) hx hb dX2_tellGoing_42 (by decide) (fun c_14 => absurd c_14 (by decide)) (fun _ => ?_)
        refine lv_iconst (v := 1) hx hb dX2_tellGoing_45 (by decide) ?_
        refine lv_goto (tgt := 50) hx hb dX2_tellGoing_46 (by decide) ?_
        refine lv_istore_n (lv' := [(3, .int 1), (0, .ref go), (1, .ref (ya i)), (2, .ref gS)]) hx hb dX2_tellGoing_50 rfl hl (by decide) rfl (fun ls hl => ?_)
        refine lv_iconst (v := 1) hx hb dX2_tellGoing_51 (by decide) ?_
        refine lv_aload_n hx hb dX2_tellGoing_52 rfl (lv_at hl 3 rfl) ?_
        refine va_get (D := (dC, dI)) (ci := 5) (v := .int (nI i0)) (C := RX3) (T := TX3) (N := 4) hx hb hts kc_tgHS_2 hown hK hP 3 rfl rfl 1 (by decide) (hts (.fieldLink RX2 59 "MistHeaps$Heap" "number" "I") kc_tgHS_0) (fun _ h9 => h9) rfl dX2_tellGoing_53 ?_
        refine lv_ishl hx hb dX2_tellGoing_56 ?_
        refine lv_istore (lv' := [(4, .int (1 <<< ((nI i0) &&& 31))), (3, .int 1), (0, .ref go), (1, .ref (ya i)), (2, .ref gS)]) hx hb dX2_tellGoing_57 hl (by decide) rfl (fun ls hl => ?_)
        refine lv_aload_n hx hb dX2_tellGoing_59 rfl (lv_at hl 2 rfl) ?_
        refine va_get (D := (dC, dI)) (ci := 4) (v := .ref gO) (C := RX2) (T := TX2) (N := 4) hx hb hts kc_tgHS_3 hown hK hP 0 rfl rfl 1 (by decide) (hts (.fieldLink RX2 15 "MistHeaps$Goings" "onward" "[I") kc_tgHS_4) (fun _ h9 => h9) rfl dX2_tellGoing_60 ?_
        refine lv_aload_n hx hb dX2_tellGoing_63 rfl (lv_at hl 3 rfl) ?_
        refine va_hget1 (v := .int (nI i)) hx hb hts kc_tgHS_1 hown (hH_ i (by omega)).1 (hH_ i (by omega)).2 hS (hts (.fieldLink RX2 59 "MistHeaps$Heap" "number" "I") kc_tgHS_0) dX2_tellGoing_64 rfl ?_
        refine lv_iload_n hx hb dX2_tellGoing_67 rfl (lv_at hl 1 rfl) ?_
        refine lv_if_eq (tgt := 86) hx hb dX2_tellGoing_68 (by decide) (fun c_15 => absurd c_15 (by decide)) (fun _ => ?_)
        refine lv_aload_n hx hb dX2_tellGoing_71 rfl (lv_at hl 2 rfl) ?_
        refine va_get (D := (dC, dI)) (ci := 4) (v := .ref gO) (C := RX2) (T := TX2) (N := 4) hx hb hts kc_tgHS_3 hown hK hP 0 rfl rfl 1 (by decide) (hts (.fieldLink RX2 15 "MistHeaps$Goings" "onward" "[I") kc_tgHS_4) (fun _ h9 => h9) rfl dX2_tellGoing_72 ?_
        refine lv_aload_n hx hb dX2_tellGoing_75 rfl (lv_at hl 3 rfl) ?_
        refine va_hget1 (v := .int (nI i)) hx hb hts kc_tgHS_1 hown (hH_ i (by omega)).1 (hH_ i (by omega)).2 hS (hts (.fieldLink RX2 59 "MistHeaps$Heap" "number" "I") kc_tgHS_0) dX2_tellGoing_76 rfl ?_
        refine va_iald hx hb hK hP 2 1 rfl rfl (vp_in_nI (n := i) (N := 8) (by omega) (by omega)) dX2_tellGoing_79 ?_
        refine qi_as (y := fO i) (by rw [nI_clamp (by omega)]) ?_
        refine lv_iload hx hb dX2_tellGoing_80 (lv_at hl 0 rfl) ?_
        refine lv_ior hx hb dX2_tellGoing_82 ?_
        refine lv_goto (tgt := 100) hx hb dX2_tellGoing_83 (by decide) ?_
        refine va_iast hx hb hK hP hD hS 2 1 rfl rfl (vp_in_nI (n := i) (N := 8) (by omega) (by omega)) dX2_tellGoing_100 (fun H locs hP hD hS => ?_)
        rw [nI_clamp (n := i) (by omega)] at hP hD
        have hP : va_P (dC, dI) vwCl [(zo4rrir go gR gO (nI lk) gS), (zaI gR cR 8 fR), (zaI gO cO 8 (upd fO i ((fO i) ||| (1 <<< ((nI i0) &&& 31))))), (zo5iiii gS 0 (nI i0) 0 scl)] H := hP
        have hD : va_D A [(zo4rrir go gR gO (nI lk) gS), (zaI gR cR 8 fR), (zaI gO cO 8 (upd fO i ((fO i) ||| (1 <<< ((nI i0) &&& 31))))), (zo5iiii gS 0 (nI i0) 0 scl)] := hD
        rw [hQ]
        have hP9 := hP.sub (ws' := [(zo4rrir go gR gO (nI lk) gS), (zaI gR cR 8 fR), (zaI gO cO 8 (upd fO i ((fO i) ||| (1 <<< ((nI i0) &&& 31))))), (zo5iiii gS 0 (nI i0) 0 scl)]) [0, 1, 2, 3] rfl
        have hD9 := hD.sub (ws' := [(zo4rrir go gR gO (nI lk) gS), (zaI gR cR 8 fR), (zaI gO cO 8 (upd fO i ((fO i) ||| (1 <<< ((nI i0) &&& 31))))), (zo5iiii gS 0 (nI i0) 0 scl)]) [0, 1, 2, 3] (by decide) rfl
        have hK9 := hK.sub (tys' := [(cR, .int), (cO, .int)]) [0, 1] rfl
        exact W.vret hx hb hr (fun tQ htQ hWQ => ⟨⟨(upd fO i ((fO i) ||| (1 <<< ((nI i0) &&& 31)))), rfl, ⟨_, rfl, tgB_t (by omega) (⟨by omega, gv_y c_5 (by rw [hk]; decide)⟩)⟩, by rw [htQ]; exact hP9, va_K.moved hWQ.alike hK9, hD9⟩, hS.F htQ⟩) hS.2.2 dX2_tellGoing_101
      · skip
        have hY : Fz dC dI [(zo6iiii (ya i) (yk i) (nI i) (yv i) (yc i))] [] A s := by have h9 := (hH_ i (by omega)).2; rw [hpE, e_7] at h9; exact h9
        refine vp_callSi (va_runU (As := [.int scl]) (rest := []) ⟨hx, hb, hml, hown, hts⟩ (c_lead3_X4 l dC dI  i (yk i) (yv i) (yc i) scl (ya i)) (va_cwU 1 hts gX2_tellGoing_X3_leadsTo_u62X4 rfl rfl rfl rfl (by decide +kernel) ⟨Nat.le_of_ble_eq_true rfl, Nat.le_of_ble_eq_true rfl⟩) ⟨fun a U g mk q => by obtain ⟨q0, qhZ⟩ := q; exact ⟨q0, qhZ.mv g mk a⟩, va_recv hY.2.1 (hY.P hS) (ci := 6) (q := (RX4, TX4, 4)) (q0 := 0) rfl rfl, fun U hU hW => ⟨rfl, hY.callF hS hU hW⟩⟩ rfl rfl hl.1 rfl (lv_room (Nat.le_of_ble_eq_true rfl)) dX2_tellGoing_39 ⟨Nat.le_of_ble_eq_true rfl, Nat.le_of_ble_eq_true rfl⟩).run (fun r_16 hw_17 => ?_)
        have hk := hpT_k1 (zyt i (by omega)) e_7
        obtain rfl := hw_17
        refine lv_if_eq (tgt := 49) hx hb dX2_tellGoing_42 (by decide) (fun c_18 => absurd c_18 (by decide)) (fun _ => ?_)
        refine lv_iconst (v := 1) hx hb dX2_tellGoing_45 (by decide) ?_
        refine lv_goto (tgt := 50) hx hb dX2_tellGoing_46 (by decide) ?_
        refine lv_istore_n (lv' := [(3, .int 1), (0, .ref go), (1, .ref (ya i)), (2, .ref gS)]) hx hb dX2_tellGoing_50 rfl hl (by decide) rfl (fun ls hl => ?_)
        refine lv_iconst (v := 1) hx hb dX2_tellGoing_51 (by decide) ?_
        refine lv_aload_n hx hb dX2_tellGoing_52 rfl (lv_at hl 3 rfl) ?_
        refine va_get (D := (dC, dI)) (ci := 5) (v := .int (nI i0)) (C := RX3) (T := TX3) (N := 4) hx hb hts kc_tgHS_2 hown hK hP 3 rfl rfl 1 (by decide) (hts (.fieldLink RX2 59 "MistHeaps$Heap" "number" "I") kc_tgHS_0) (fun _ h9 => h9) rfl dX2_tellGoing_53 ?_
        refine lv_ishl hx hb dX2_tellGoing_56 ?_
        refine lv_istore (lv' := [(4, .int (1 <<< ((nI i0) &&& 31))), (3, .int 1), (0, .ref go), (1, .ref (ya i)), (2, .ref gS)]) hx hb dX2_tellGoing_57 hl (by decide) rfl (fun ls hl => ?_)
        refine lv_aload_n hx hb dX2_tellGoing_59 rfl (lv_at hl 2 rfl) ?_
        refine va_get (D := (dC, dI)) (ci := 4) (v := .ref gO) (C := RX2) (T := TX2) (N := 4) hx hb hts kc_tgHS_3 hown hK hP 0 rfl rfl 1 (by decide) (hts (.fieldLink RX2 15 "MistHeaps$Goings" "onward" "[I") kc_tgHS_4) (fun _ h9 => h9) rfl dX2_tellGoing_60 ?_
        refine lv_aload_n hx hb dX2_tellGoing_63 rfl (lv_at hl 3 rfl) ?_
        refine va_hget1 (v := .int (nI i)) hx hb hts kc_tgHS_1 hown (hH_ i (by omega)).1 (hH_ i (by omega)).2 hS (hts (.fieldLink RX2 59 "MistHeaps$Heap" "number" "I") kc_tgHS_0) dX2_tellGoing_64 rfl ?_
        refine lv_iload_n hx hb dX2_tellGoing_67 rfl (lv_at hl 1 rfl) ?_
        refine lv_if_eq (tgt := 86) hx hb dX2_tellGoing_68 (by decide) (fun c_19 => absurd c_19 (by decide)) (fun _ => ?_)
        refine lv_aload_n hx hb dX2_tellGoing_71 rfl (lv_at hl 2 rfl) ?_
        refine va_get (D := (dC, dI)) (ci := 4) (v := .ref gO) (C := RX2) (T := TX2) (N := 4) hx hb hts kc_tgHS_3 hown hK hP 0 rfl rfl 1 (by decide) (hts (.fieldLink RX2 15 "MistHeaps$Goings" "onward" "[I") kc_tgHS_4) (fun _ h9 => h9) rfl dX2_tellGoing_72 ?_
        refine lv_aload_n hx hb dX2_tellGoing_75 rfl (lv_at hl 3 rfl) ?_
        refine va_hget1 (v := .int (nI i)) hx hb hts kc_tgHS_1 hown (hH_ i (by omega)).1 (hH_ i (by omega)).2 hS (hts (.fieldLink RX2 59 "MistHeaps$Heap" "number" "I") kc_tgHS_0) dX2_tellGoing_76 rfl ?_
        refine va_iald hx hb hK hP 2 1 rfl rfl (vp_in_nI (n := i) (N := 8) (by omega) (by omega)) dX2_tellGoing_79 ?_
        refine qi_as (y := fO i) (by rw [nI_clamp (by omega)]) ?_
        refine lv_iload hx hb dX2_tellGoing_80 (lv_at hl 0 rfl) ?_
        refine lv_ior hx hb dX2_tellGoing_82 ?_
        refine lv_goto (tgt := 100) hx hb dX2_tellGoing_83 (by decide) ?_
        refine va_iast hx hb hK hP hD hS 2 1 rfl rfl (vp_in_nI (n := i) (N := 8) (by omega) (by omega)) dX2_tellGoing_100 (fun H locs hP hD hS => ?_)
        rw [nI_clamp (n := i) (by omega)] at hP hD
        have hP : va_P (dC, dI) vwCl [(zo4rrir go gR gO (nI lk) gS), (zaI gR cR 8 fR), (zaI gO cO 8 (upd fO i ((fO i) ||| (1 <<< ((nI i0) &&& 31))))), (zo5iiii gS 0 (nI i0) 0 scl)] H := hP
        have hD : va_D A [(zo4rrir go gR gO (nI lk) gS), (zaI gR cR 8 fR), (zaI gO cO 8 (upd fO i ((fO i) ||| (1 <<< ((nI i0) &&& 31))))), (zo5iiii gS 0 (nI i0) 0 scl)] := hD
        rw [hQ]
        have hP9 := hP.sub (ws' := [(zo4rrir go gR gO (nI lk) gS), (zaI gR cR 8 fR), (zaI gO cO 8 (upd fO i ((fO i) ||| (1 <<< ((nI i0) &&& 31))))), (zo5iiii gS 0 (nI i0) 0 scl)]) [0, 1, 2, 3] rfl
        have hD9 := hD.sub (ws' := [(zo4rrir go gR gO (nI lk) gS), (zaI gR cR 8 fR), (zaI gO cO 8 (upd fO i ((fO i) ||| (1 <<< ((nI i0) &&& 31))))), (zo5iiii gS 0 (nI i0) 0 scl)]) [0, 1, 2, 3] (by decide) rfl
        have hK9 := hK.sub (tys' := [(cR, .int), (cO, .int)]) [0, 1] rfl
        exact W.vret hx hb hr (fun tQ htQ hWQ => ⟨⟨(upd fO i ((fO i) ||| (1 <<< ((nI i0) &&& 31)))), rfl, ⟨_, rfl, tgB_t (by omega) (⟨by omega, gv_y c_5 (by rw [hk]; decide)⟩)⟩, by rw [htQ]; exact hP9, va_K.moved hWQ.alike hK9, hD9⟩, hS.F htQ⟩) hS.2.2 dX2_tellGoing_101
      · skip
        have hY : Fz dC dI [(zo8iiii (ya i) (yk i) (nI i) (yv i) (yc i))] [] A s := by have h9 := (hH_ i (by omega)).2; rw [hpE, e_7] at h9; exact h9
        refine vp_callSi (va_runU (As := [.int scl]) (rest := []) ⟨hx, hb, hml, hown, hts⟩ (c_lead3_X6 l dC dI  i (yk i) (yv i) (yc i) scl (ya i)) (va_cwU 1 hts gX2_tellGoing_X3_leadsTo_u62X6 rfl rfl rfl rfl (by decide +kernel) ⟨Nat.le_of_ble_eq_true rfl, Nat.le_of_ble_eq_true rfl⟩) ⟨fun a U g mk q => by obtain ⟨q0, qhZ⟩ := q; exact ⟨q0, qhZ.mv g mk a⟩, va_recv hY.2.1 (hY.P hS) (ci := 8) (q := (RX6, TX6, 4)) (q0 := 0) rfl rfl, fun U hU hW => ⟨rfl, hY.callF hS hU hW⟩⟩ rfl rfl hl.1 rfl (lv_room (Nat.le_of_ble_eq_true rfl)) dX2_tellGoing_39 ⟨Nat.le_of_ble_eq_true rfl, Nat.le_of_ble_eq_true rfl⟩).run (fun r_20 hw_21 => ?_)
        have hk := hpT_k2 (zyt i (by omega)) e_7
        obtain rfl := hw_21
        refine lv_if_eq (tgt := 49) hx hb dX2_tellGoing_42 (by decide) (fun c_22 => absurd c_22 (by decide)) (fun _ => ?_)
        refine lv_iconst (v := 1) hx hb dX2_tellGoing_45 (by decide) ?_
        refine lv_goto (tgt := 50) hx hb dX2_tellGoing_46 (by decide) ?_
        refine lv_istore_n (lv' := [(3, .int 1), (0, .ref go), (1, .ref (ya i)), (2, .ref gS)]) hx hb dX2_tellGoing_50 rfl hl (by decide) rfl (fun ls hl => ?_)
        refine lv_iconst (v := 1) hx hb dX2_tellGoing_51 (by decide) ?_
        refine lv_aload_n hx hb dX2_tellGoing_52 rfl (lv_at hl 3 rfl) ?_
        refine va_get (D := (dC, dI)) (ci := 5) (v := .int (nI i0)) (C := RX3) (T := TX3) (N := 4) hx hb hts kc_tgHS_2 hown hK hP 3 rfl rfl 1 (by decide) (hts (.fieldLink RX2 59 "MistHeaps$Heap" "number" "I") kc_tgHS_0) (fun _ h9 => h9) rfl dX2_tellGoing_53 ?_
        refine lv_ishl hx hb dX2_tellGoing_56 ?_
        refine lv_istore (lv' := [(4, .int (1 <<< ((nI i0) &&& 31))), (3, .int 1), (0, .ref go), (1, .ref (ya i)), (2, .ref gS)]) hx hb dX2_tellGoing_57 hl (by decide) rfl (fun ls hl => ?_)
        refine lv_aload_n hx hb dX2_tellGoing_59 rfl (lv_at hl 2 rfl) ?_
        refine va_get (D := (dC, dI)) (ci := 4) (v := .ref gO) (C := RX2) (T := TX2) (N := 4) hx hb hts kc_tgHS_3 hown hK hP 0 rfl rfl 1 (by decide) (hts (.fieldLink RX2 15 "MistHeaps$Goings" "onward" "[I") kc_tgHS_4) (fun _ h9 => h9) rfl dX2_tellGoing_60 ?_
        refine lv_aload_n hx hb dX2_tellGoing_63 rfl (lv_at hl 3 rfl) ?_
        refine va_hget1 (v := .int (nI i)) hx hb hts kc_tgHS_1 hown (hH_ i (by omega)).1 (hH_ i (by omega)).2 hS (hts (.fieldLink RX2 59 "MistHeaps$Heap" "number" "I") kc_tgHS_0) dX2_tellGoing_64 rfl ?_
        refine lv_iload_n hx hb dX2_tellGoing_67 rfl (lv_at hl 1 rfl) ?_
        refine lv_if_eq (tgt := 86) hx hb dX2_tellGoing_68 (by decide) (fun c_23 => absurd c_23 (by decide)) (fun _ => ?_)
        refine lv_aload_n hx hb dX2_tellGoing_71 rfl (lv_at hl 2 rfl) ?_
        refine va_get (D := (dC, dI)) (ci := 4) (v := .ref gO) (C := RX2) (T := TX2) (N := 4) hx hb hts kc_tgHS_3 hown hK hP 0 rfl rfl 1 (by decide) (hts (.fieldLink RX2 15 "MistHeaps$Goings" "onward" "[I") kc_tgHS_4) (fun _ h9 => h9) rfl dX2_tellGoing_72 ?_
        refine lv_aload_n hx hb dX2_tellGoing_75 rfl (lv_at hl 3 rfl) ?_
        refine va_hget1 (v := .int (nI i)) hx hb hts kc_tgHS_1 hown (hH_ i (by omega)).1 (hH_ i (by omega)).2 hS (hts (.fieldLink RX2 59 "MistHeaps$Heap" "number" "I") kc_tgHS_0) dX2_tellGoing_76 rfl ?_
        refine va_iald hx hb hK hP 2 1 rfl rfl (vp_in_nI (n := i) (N := 8) (by omega) (by omega)) dX2_tellGoing_79 ?_
        refine qi_as (y := fO i) (by rw [nI_clamp (by omega)]) ?_
        refine lv_iload hx hb dX2_tellGoing_80 (lv_at hl 0 rfl) ?_
        refine lv_ior hx hb dX2_tellGoing_82 ?_
        refine lv_goto (tgt := 100) hx hb dX2_tellGoing_83 (by decide) ?_
        refine va_iast hx hb hK hP hD hS 2 1 rfl rfl (vp_in_nI (n := i) (N := 8) (by omega) (by omega)) dX2_tellGoing_100 (fun H locs hP hD hS => ?_)
        rw [nI_clamp (n := i) (by omega)] at hP hD
        have hP : va_P (dC, dI) vwCl [(zo4rrir go gR gO (nI lk) gS), (zaI gR cR 8 fR), (zaI gO cO 8 (upd fO i ((fO i) ||| (1 <<< ((nI i0) &&& 31))))), (zo5iiii gS 0 (nI i0) 0 scl)] H := hP
        have hD : va_D A [(zo4rrir go gR gO (nI lk) gS), (zaI gR cR 8 fR), (zaI gO cO 8 (upd fO i ((fO i) ||| (1 <<< ((nI i0) &&& 31))))), (zo5iiii gS 0 (nI i0) 0 scl)] := hD
        rw [hQ]
        have hP9 := hP.sub (ws' := [(zo4rrir go gR gO (nI lk) gS), (zaI gR cR 8 fR), (zaI gO cO 8 (upd fO i ((fO i) ||| (1 <<< ((nI i0) &&& 31))))), (zo5iiii gS 0 (nI i0) 0 scl)]) [0, 1, 2, 3] rfl
        have hD9 := hD.sub (ws' := [(zo4rrir go gR gO (nI lk) gS), (zaI gR cR 8 fR), (zaI gO cO 8 (upd fO i ((fO i) ||| (1 <<< ((nI i0) &&& 31))))), (zo5iiii gS 0 (nI i0) 0 scl)]) [0, 1, 2, 3] (by decide) rfl
        have hK9 := hK.sub (tys' := [(cR, .int), (cO, .int)]) [0, 1] rfl
        exact W.vret hx hb hr (fun tQ htQ hWQ => ⟨⟨(upd fO i ((fO i) ||| (1 <<< ((nI i0) &&& 31)))), rfl, ⟨_, rfl, tgB_t (by omega) (⟨by omega, gv_y c_5 (by rw [hk]; decide)⟩)⟩, by rw [htQ]; exact hP9, va_K.moved hWQ.alike hK9, hD9⟩, hS.F htQ⟩) hS.2.2 dX2_tellGoing_101
      · skip
        have hY : Fz dC dI [(zo9iiii (ya i) (yk i) (nI i) (yv i) (yc i))] [] A s := by have h9 := (hH_ i (by omega)).2; rw [hpE, e_7] at h9; exact h9
        refine vp_callSi (va_runU (As := [.int scl]) (rest := []) ⟨hx, hb, hml, hown, hts⟩ (c_lead1_X7 l dC dI  i (yk i) (yv i) (yc i) scl (ya i)) (va_cwO 1 hts gX2_tellGoing_X1_leadsTo_u62X7 rfl rfl rfl kc_tgHS_9 (by decide +kernel) ⟨Nat.le_of_ble_eq_true rfl, Nat.le_of_ble_eq_true rfl⟩) ⟨fun a U g mk q => by obtain ⟨q0, qhZ⟩ := q; exact ⟨q0, qhZ.mv g mk a⟩, va_recv hY.2.1 (hY.P hS) (ci := 9) (q := (RX7, TX7, 4)) (q0 := 0) rfl rfl, fun U hU hW => ⟨rfl, hY.callF hS hU hW⟩⟩ rfl rfl hl.1 rfl (lv_room (Nat.le_of_ble_eq_true rfl)) dX2_tellGoing_39 ⟨Nat.le_of_ble_eq_true rfl, Nat.le_of_ble_eq_true rfl⟩).run (fun r_24 hw_25 => ?_)
        have hk := hpT_k6 (zyt i (by omega)) e_7
        obtain rfl := hw_25
        refine lv_if_eq (tgt := 49) hx hb dX2_tellGoing_42 (by decide) (fun _ => ?_) (fun c_26 => absurd c_26 (by decide))
        refine lv_iconst (v := 0) hx hb dX2_tellGoing_49 (by decide) ?_
        refine lv_istore_n (lv' := [(3, .int 0), (0, .ref go), (1, .ref (ya i)), (2, .ref gS)]) hx hb dX2_tellGoing_50 rfl hl (by decide) rfl (fun ls hl => ?_)
        refine lv_iconst (v := 1) hx hb dX2_tellGoing_51 (by decide) ?_
        refine lv_aload_n hx hb dX2_tellGoing_52 rfl (lv_at hl 3 rfl) ?_
        refine va_get (D := (dC, dI)) (ci := 5) (v := .int (nI i0)) (C := RX3) (T := TX3) (N := 4) hx hb hts kc_tgHS_2 hown hK hP 3 rfl rfl 1 (by decide) (hts (.fieldLink RX2 59 "MistHeaps$Heap" "number" "I") kc_tgHS_0) (fun _ h9 => h9) rfl dX2_tellGoing_53 ?_
        refine lv_ishl hx hb dX2_tellGoing_56 ?_
        refine lv_istore (lv' := [(4, .int (1 <<< ((nI i0) &&& 31))), (3, .int 0), (0, .ref go), (1, .ref (ya i)), (2, .ref gS)]) hx hb dX2_tellGoing_57 hl (by decide) rfl (fun ls hl => ?_)
        refine lv_aload_n hx hb dX2_tellGoing_59 rfl (lv_at hl 2 rfl) ?_
        refine va_get (D := (dC, dI)) (ci := 4) (v := .ref gO) (C := RX2) (T := TX2) (N := 4) hx hb hts kc_tgHS_3 hown hK hP 0 rfl rfl 1 (by decide) (hts (.fieldLink RX2 15 "MistHeaps$Goings" "onward" "[I") kc_tgHS_4) (fun _ h9 => h9) rfl dX2_tellGoing_60 ?_
        refine lv_aload_n hx hb dX2_tellGoing_63 rfl (lv_at hl 3 rfl) ?_
        refine va_hget1 (v := .int (nI i)) hx hb hts kc_tgHS_1 hown (hH_ i (by omega)).1 (hH_ i (by omega)).2 hS (hts (.fieldLink RX2 59 "MistHeaps$Heap" "number" "I") kc_tgHS_0) dX2_tellGoing_64 rfl ?_
        refine lv_iload_n hx hb dX2_tellGoing_67 rfl (lv_at hl 1 rfl) ?_
        refine lv_if_eq (tgt := 86) hx hb dX2_tellGoing_68 (by decide) (fun _ => ?_) (fun c_27 => absurd c_27 (by decide))
        refine lv_aload_n hx hb dX2_tellGoing_86 rfl (lv_at hl 2 rfl) ?_
        refine va_get (D := (dC, dI)) (ci := 4) (v := .ref gO) (C := RX2) (T := TX2) (N := 4) hx hb hts kc_tgHS_3 hown hK hP 0 rfl rfl 1 (by decide) (hts (.fieldLink RX2 15 "MistHeaps$Goings" "onward" "[I") kc_tgHS_4) (fun _ h9 => h9) rfl dX2_tellGoing_87 ?_
        refine lv_aload_n hx hb dX2_tellGoing_90 rfl (lv_at hl 3 rfl) ?_
        refine va_hget1 (v := .int (nI i)) hx hb hts kc_tgHS_1 hown (hH_ i (by omega)).1 (hH_ i (by omega)).2 hS (hts (.fieldLink RX2 59 "MistHeaps$Heap" "number" "I") kc_tgHS_0) dX2_tellGoing_91 rfl ?_
        refine va_iald hx hb hK hP 2 1 rfl rfl (vp_in_nI (n := i) (N := 8) (by omega) (by omega)) dX2_tellGoing_94 ?_
        refine qi_as (y := fO i) (by rw [nI_clamp (by omega)]) ?_
        refine lv_iload hx hb dX2_tellGoing_95 (lv_at hl 0 rfl) ?_
        refine lv_iconst (v := (-1)) hx hb dX2_tellGoing_97 (by decide) ?_
        refine lv_ixor hx hb dX2_tellGoing_98 ?_
        refine lv_iand hx hb dX2_tellGoing_99 ?_
        refine va_iast hx hb hK hP hD hS 2 1 rfl rfl (vp_in_nI (n := i) (N := 8) (by omega) (by omega)) dX2_tellGoing_100 (fun H locs hP hD hS => ?_)
        rw [nI_clamp (n := i) (by omega)] at hP hD
        have hP : va_P (dC, dI) vwCl [(zo4rrir go gR gO (nI lk) gS), (zaI gR cR 8 fR), (zaI gO cO 8 (upd fO i ((fO i) &&& ((1 <<< ((nI i0) &&& 31)) ^^^ (-1))))), (zo5iiii gS 0 (nI i0) 0 scl)] H := hP
        have hD : va_D A [(zo4rrir go gR gO (nI lk) gS), (zaI gR cR 8 fR), (zaI gO cO 8 (upd fO i ((fO i) &&& ((1 <<< ((nI i0) &&& 31)) ^^^ (-1))))), (zo5iiii gS 0 (nI i0) 0 scl)] := hD
        rw [hQ]
        have hP9 := hP.sub (ws' := [(zo4rrir go gR gO (nI lk) gS), (zaI gR cR 8 fR), (zaI gO cO 8 (upd fO i ((fO i) &&& ((1 <<< ((nI i0) &&& 31)) ^^^ (-1))))), (zo5iiii gS 0 (nI i0) 0 scl)]) [0, 1, 2, 3] rfl
        have hD9 := hD.sub (ws' := [(zo4rrir go gR gO (nI lk) gS), (zaI gR cR 8 fR), (zaI gO cO 8 (upd fO i ((fO i) &&& ((1 <<< ((nI i0) &&& 31)) ^^^ (-1))))), (zo5iiii gS 0 (nI i0) 0 scl)]) [0, 1, 2, 3] (by decide) rfl
        have hK9 := hK.sub (tys' := [(cR, .int), (cO, .int)]) [0, 1] rfl
        exact W.vret hx hb hr (fun tQ htQ hWQ => ⟨⟨(upd fO i ((fO i) &&& ((1 <<< ((nI i0) &&& 31)) ^^^ (-1)))), rfl, ⟨_, rfl, tgB_f (by omega) (fun z9 => gv_6 hk z9.2)⟩, by rw [htQ]; exact hP9, va_K.moved hWQ.alike hK9, hD9⟩, hS.F htQ⟩) hS.2.2 dX2_tellGoing_101
      · skip
        have hY : Fz dC dI [(zo11iiii (ya i) (yk i) (nI i) (yv i) (yc i))] [] A s := by have h9 := (hH_ i (by omega)).2; rw [hpE, e_7] at h9; exact h9
        refine vp_callSi (va_runU (As := [.int scl]) (rest := []) ⟨hx, hb, hml, hown, hts⟩ (c_lead3_X9 l dC dI  i (yk i) (yv i) (yc i) scl (ya i)) (va_cwU 1 hts gX2_tellGoing_X3_leadsTo_u62X9 rfl rfl rfl rfl (by decide +kernel) ⟨Nat.le_of_ble_eq_true rfl, Nat.le_of_ble_eq_true rfl⟩) ⟨fun a U g mk q => by obtain ⟨q0, qhZ⟩ := q; exact ⟨q0, qhZ.mv g mk a⟩, va_recv hY.2.1 (hY.P hS) (ci := 11) (q := (RX9, TX9, 4)) (q0 := 0) rfl rfl, fun U hU hW => ⟨rfl, hY.callF hS hU hW⟩⟩ rfl rfl hl.1 rfl (lv_room (Nat.le_of_ble_eq_true rfl)) dX2_tellGoing_39 ⟨Nat.le_of_ble_eq_true rfl, Nat.le_of_ble_eq_true rfl⟩).run (fun r_28 hw_29 => ?_)
        have hk := hpT_k5 (zyt i (by omega)) e_7
        obtain rfl := hw_29
        refine lv_if_eq (tgt := 49) hx hb dX2_tellGoing_42 (by decide) (fun c_30 => absurd c_30 (by decide)) (fun _ => ?_)
        refine lv_iconst (v := 1) hx hb dX2_tellGoing_45 (by decide) ?_
        refine lv_goto (tgt := 50) hx hb dX2_tellGoing_46 (by decide) ?_
        refine lv_istore_n (lv' := [(3, .int 1), (0, .ref go), (1, .ref (ya i)), (2, .ref gS)]) hx hb dX2_tellGoing_50 rfl hl (by decide) rfl (fun ls hl => ?_)
        refine lv_iconst (v := 1) hx hb dX2_tellGoing_51 (by decide) ?_
        refine lv_aload_n hx hb dX2_tellGoing_52 rfl (lv_at hl 3 rfl) ?_
        refine va_get (D := (dC, dI)) (ci := 5) (v := .int (nI i0)) (C := RX3) (T := TX3) (N := 4) hx hb hts kc_tgHS_2 hown hK hP 3 rfl rfl 1 (by decide) (hts (.fieldLink RX2 59 "MistHeaps$Heap" "number" "I") kc_tgHS_0) (fun _ h9 => h9) rfl dX2_tellGoing_53 ?_
        refine lv_ishl hx hb dX2_tellGoing_56 ?_
        refine lv_istore (lv' := [(4, .int (1 <<< ((nI i0) &&& 31))), (3, .int 1), (0, .ref go), (1, .ref (ya i)), (2, .ref gS)]) hx hb dX2_tellGoing_57 hl (by decide) rfl (fun ls hl => ?_)
        refine lv_aload_n hx hb dX2_tellGoing_59 rfl (lv_at hl 2 rfl) ?_
        refine va_get (D := (dC, dI)) (ci := 4) (v := .ref gO) (C := RX2) (T := TX2) (N := 4) hx hb hts kc_tgHS_3 hown hK hP 0 rfl rfl 1 (by decide) (hts (.fieldLink RX2 15 "MistHeaps$Goings" "onward" "[I") kc_tgHS_4) (fun _ h9 => h9) rfl dX2_tellGoing_60 ?_
        refine lv_aload_n hx hb dX2_tellGoing_63 rfl (lv_at hl 3 rfl) ?_
        refine va_hget1 (v := .int (nI i)) hx hb hts kc_tgHS_1 hown (hH_ i (by omega)).1 (hH_ i (by omega)).2 hS (hts (.fieldLink RX2 59 "MistHeaps$Heap" "number" "I") kc_tgHS_0) dX2_tellGoing_64 rfl ?_
        refine lv_iload_n hx hb dX2_tellGoing_67 rfl (lv_at hl 1 rfl) ?_
        refine lv_if_eq (tgt := 86) hx hb dX2_tellGoing_68 (by decide) (fun c_31 => absurd c_31 (by decide)) (fun _ => ?_)
        refine lv_aload_n hx hb dX2_tellGoing_71 rfl (lv_at hl 2 rfl) ?_
        refine va_get (D := (dC, dI)) (ci := 4) (v := .ref gO) (C := RX2) (T := TX2) (N := 4) hx hb hts kc_tgHS_3 hown hK hP 0 rfl rfl 1 (by decide) (hts (.fieldLink RX2 15 "MistHeaps$Goings" "onward" "[I") kc_tgHS_4) (fun _ h9 => h9) rfl dX2_tellGoing_72 ?_
        refine lv_aload_n hx hb dX2_tellGoing_75 rfl (lv_at hl 3 rfl) ?_
        refine va_hget1 (v := .int (nI i)) hx hb hts kc_tgHS_1 hown (hH_ i (by omega)).1 (hH_ i (by omega)).2 hS (hts (.fieldLink RX2 59 "MistHeaps$Heap" "number" "I") kc_tgHS_0) dX2_tellGoing_76 rfl ?_
        refine va_iald hx hb hK hP 2 1 rfl rfl (vp_in_nI (n := i) (N := 8) (by omega) (by omega)) dX2_tellGoing_79 ?_
        refine qi_as (y := fO i) (by rw [nI_clamp (by omega)]) ?_
        refine lv_iload hx hb dX2_tellGoing_80 (lv_at hl 0 rfl) ?_
        refine lv_ior hx hb dX2_tellGoing_82 ?_
        refine lv_goto (tgt := 100) hx hb dX2_tellGoing_83 (by decide) ?_
        refine va_iast hx hb hK hP hD hS 2 1 rfl rfl (vp_in_nI (n := i) (N := 8) (by omega) (by omega)) dX2_tellGoing_100 (fun H locs hP hD hS => ?_)
        rw [nI_clamp (n := i) (by omega)] at hP hD
        have hP : va_P (dC, dI) vwCl [(zo4rrir go gR gO (nI lk) gS), (zaI gR cR 8 fR), (zaI gO cO 8 (upd fO i ((fO i) ||| (1 <<< ((nI i0) &&& 31))))), (zo5iiii gS 0 (nI i0) 0 scl)] H := hP
        have hD : va_D A [(zo4rrir go gR gO (nI lk) gS), (zaI gR cR 8 fR), (zaI gO cO 8 (upd fO i ((fO i) ||| (1 <<< ((nI i0) &&& 31))))), (zo5iiii gS 0 (nI i0) 0 scl)] := hD
        rw [hQ]
        have hP9 := hP.sub (ws' := [(zo4rrir go gR gO (nI lk) gS), (zaI gR cR 8 fR), (zaI gO cO 8 (upd fO i ((fO i) ||| (1 <<< ((nI i0) &&& 31))))), (zo5iiii gS 0 (nI i0) 0 scl)]) [0, 1, 2, 3] rfl
        have hD9 := hD.sub (ws' := [(zo4rrir go gR gO (nI lk) gS), (zaI gR cR 8 fR), (zaI gO cO 8 (upd fO i ((fO i) ||| (1 <<< ((nI i0) &&& 31))))), (zo5iiii gS 0 (nI i0) 0 scl)]) [0, 1, 2, 3] (by decide) rfl
        have hK9 := hK.sub (tys' := [(cR, .int), (cO, .int)]) [0, 1] rfl
        exact W.vret hx hb hr (fun tQ htQ hWQ => ⟨⟨(upd fO i ((fO i) ||| (1 <<< ((nI i0) &&& 31)))), rfl, ⟨_, rfl, tgB_t (by omega) (⟨by omega, gv_y c_5 (by rw [hk]; decide)⟩)⟩, by rw [htQ]; exact hP9, va_K.moved hWQ.alike hK9, hD9⟩, hS.F htQ⟩) hS.2.2 dX2_tellGoing_101
      · skip
        have hY : Fz dC dI [(zo12iiii (ya i) (yk i) (nI i) (yv i) (yc i))] [] A s := by have h9 := (hH_ i (by omega)).2; rw [hpE, e_7] at h9; exact h9
        refine vp_callSi (va_runU (As := [.int scl]) (rest := []) ⟨hx, hb, hml, hown, hts⟩ (c_lead10 l dC dI gd kA  i (yk i) (yv i) (yc i) scl (ya i) (zyv i (by omega)) (zyc i (by omega)) (zsc)) (va_cwO 1 hts gX2_tellGoing_X10_leadsTo_u62X10 rfl rfl rfl kc_tgHS_9 (by decide +kernel) ⟨Nat.le_of_ble_eq_true rfl, Nat.le_of_ble_eq_true rfl⟩) ⟨fun a U g mk q => by obtain ⟨q0, qhG, qhN_, qhZ⟩ := q; exact ⟨q0, qhG.mv g mk a, qhN_.mv g mk a, qhZ.mv g mk a⟩, va_recv hY.2.1 (hY.P hS) (ci := 12) (q := (RX10, TX10, 4)) (q0 := 0) rfl rfl, fun U hU hW => ⟨rfl, hG.callF hS hU hW, hN_.callF hS hU hW, hY.callF hS hU hW⟩⟩ rfl rfl hl.1 rfl (lv_room (Nat.le_of_ble_eq_true rfl)) dX2_tellGoing_39 ⟨Nat.le_of_ble_eq_true rfl, Nat.le_of_ble_eq_true rfl⟩).run (fun r_32 hw_33 => ?_)
        have hk := hpT_k4 (zyt i (by omega)) e_7
        rcases hw_33 with ⟨rfl, hd_34⟩ | ⟨rfl, hd_34⟩
        · skip
          refine lv_if_eq (tgt := 49) hx hb dX2_tellGoing_42 (by decide) (fun c_35 => absurd c_35 (by decide)) (fun _ => ?_)
          refine lv_iconst (v := 1) hx hb dX2_tellGoing_45 (by decide) ?_
          refine lv_goto (tgt := 50) hx hb dX2_tellGoing_46 (by decide) ?_
          refine lv_istore_n (lv' := [(3, .int 1), (0, .ref go), (1, .ref (ya i)), (2, .ref gS)]) hx hb dX2_tellGoing_50 rfl hl (by decide) rfl (fun ls hl => ?_)
          refine lv_iconst (v := 1) hx hb dX2_tellGoing_51 (by decide) ?_
          refine lv_aload_n hx hb dX2_tellGoing_52 rfl (lv_at hl 3 rfl) ?_
          refine va_get (D := (dC, dI)) (ci := 5) (v := .int (nI i0)) (C := RX3) (T := TX3) (N := 4) hx hb hts kc_tgHS_2 hown hK hP 3 rfl rfl 1 (by decide) (hts (.fieldLink RX2 59 "MistHeaps$Heap" "number" "I") kc_tgHS_0) (fun _ h9 => h9) rfl dX2_tellGoing_53 ?_
          refine lv_ishl hx hb dX2_tellGoing_56 ?_
          refine lv_istore (lv' := [(4, .int (1 <<< ((nI i0) &&& 31))), (3, .int 1), (0, .ref go), (1, .ref (ya i)), (2, .ref gS)]) hx hb dX2_tellGoing_57 hl (by decide) rfl (fun ls hl => ?_)
          refine lv_aload_n hx hb dX2_tellGoing_59 rfl (lv_at hl 2 rfl) ?_
          refine va_get (D := (dC, dI)) (ci := 4) (v := .ref gO) (C := RX2) (T := TX2) (N := 4) hx hb hts kc_tgHS_3 hown hK hP 0 rfl rfl 1 (by decide) (hts (.fieldLink RX2 15 "MistHeaps$Goings" "onward" "[I") kc_tgHS_4) (fun _ h9 => h9) rfl dX2_tellGoing_60 ?_
          refine lv_aload_n hx hb dX2_tellGoing_63 rfl (lv_at hl 3 rfl) ?_
          refine va_hget1 (v := .int (nI i)) hx hb hts kc_tgHS_1 hown (hH_ i (by omega)).1 (hH_ i (by omega)).2 hS (hts (.fieldLink RX2 59 "MistHeaps$Heap" "number" "I") kc_tgHS_0) dX2_tellGoing_64 rfl ?_
          refine lv_iload_n hx hb dX2_tellGoing_67 rfl (lv_at hl 1 rfl) ?_
          refine lv_if_eq (tgt := 86) hx hb dX2_tellGoing_68 (by decide) (fun c_36 => absurd c_36 (by decide)) (fun _ => ?_)
          refine lv_aload_n hx hb dX2_tellGoing_71 rfl (lv_at hl 2 rfl) ?_
          refine va_get (D := (dC, dI)) (ci := 4) (v := .ref gO) (C := RX2) (T := TX2) (N := 4) hx hb hts kc_tgHS_3 hown hK hP 0 rfl rfl 1 (by decide) (hts (.fieldLink RX2 15 "MistHeaps$Goings" "onward" "[I") kc_tgHS_4) (fun _ h9 => h9) rfl dX2_tellGoing_72 ?_
          refine lv_aload_n hx hb dX2_tellGoing_75 rfl (lv_at hl 3 rfl) ?_
          refine va_hget1 (v := .int (nI i)) hx hb hts kc_tgHS_1 hown (hH_ i (by omega)).1 (hH_ i (by omega)).2 hS (hts (.fieldLink RX2 59 "MistHeaps$Heap" "number" "I") kc_tgHS_0) dX2_tellGoing_76 rfl ?_
          refine va_iald hx hb hK hP 2 1 rfl rfl (vp_in_nI (n := i) (N := 8) (by omega) (by omega)) dX2_tellGoing_79 ?_
          refine qi_as (y := fO i) (by rw [nI_clamp (by omega)]) ?_
          refine lv_iload hx hb dX2_tellGoing_80 (lv_at hl 0 rfl) ?_
          refine lv_ior hx hb dX2_tellGoing_82 ?_
          refine lv_goto (tgt := 100) hx hb dX2_tellGoing_83 (by decide) ?_
          refine va_iast hx hb hK hP hD hS 2 1 rfl rfl (vp_in_nI (n := i) (N := 8) (by omega) (by omega)) dX2_tellGoing_100 (fun H locs hP hD hS => ?_)
          rw [nI_clamp (n := i) (by omega)] at hP hD
          have hP : va_P (dC, dI) vwCl [(zo4rrir go gR gO (nI lk) gS), (zaI gR cR 8 fR), (zaI gO cO 8 (upd fO i ((fO i) ||| (1 <<< ((nI i0) &&& 31))))), (zo5iiii gS 0 (nI i0) 0 scl)] H := hP
          have hD : va_D A [(zo4rrir go gR gO (nI lk) gS), (zaI gR cR 8 fR), (zaI gO cO 8 (upd fO i ((fO i) ||| (1 <<< ((nI i0) &&& 31))))), (zo5iiii gS 0 (nI i0) 0 scl)] := hD
          rw [hQ]
          have hP9 := hP.sub (ws' := [(zo4rrir go gR gO (nI lk) gS), (zaI gR cR 8 fR), (zaI gO cO 8 (upd fO i ((fO i) ||| (1 <<< ((nI i0) &&& 31))))), (zo5iiii gS 0 (nI i0) 0 scl)]) [0, 1, 2, 3] rfl
          have hD9 := hD.sub (ws' := [(zo4rrir go gR gO (nI lk) gS), (zaI gR cR 8 fR), (zaI gO cO 8 (upd fO i ((fO i) ||| (1 <<< ((nI i0) &&& 31))))), (zo5iiii gS 0 (nI i0) 0 scl)]) [0, 1, 2, 3] (by decide) rfl
          have hK9 := hK.sub (tys' := [(cR, .int), (cO, .int)]) [0, 1] rfl
          exact W.vret hx hb hr (fun tQ htQ hWQ => ⟨⟨(upd fO i ((fO i) ||| (1 <<< ((nI i0) &&& 31)))), rfl, ⟨_, rfl, tgB_t (by omega) (⟨by omega, gv_4 c_5 hk hd_34⟩)⟩, by rw [htQ]; exact hP9, va_K.moved hWQ.alike hK9, hD9⟩, hS.F htQ⟩) hS.2.2 dX2_tellGoing_101
        · skip
          refine lv_if_eq (tgt := 49) hx hb dX2_tellGoing_42 (by decide) (fun _ => ?_) (fun c_37 => absurd c_37 (by decide))
          refine lv_iconst (v := 0) hx hb dX2_tellGoing_49 (by decide) ?_
          refine lv_istore_n (lv' := [(3, .int 0), (0, .ref go), (1, .ref (ya i)), (2, .ref gS)]) hx hb dX2_tellGoing_50 rfl hl (by decide) rfl (fun ls hl => ?_)
          refine lv_iconst (v := 1) hx hb dX2_tellGoing_51 (by decide) ?_
          refine lv_aload_n hx hb dX2_tellGoing_52 rfl (lv_at hl 3 rfl) ?_
          refine va_get (D := (dC, dI)) (ci := 5) (v := .int (nI i0)) (C := RX3) (T := TX3) (N := 4) hx hb hts kc_tgHS_2 hown hK hP 3 rfl rfl 1 (by decide) (hts (.fieldLink RX2 59 "MistHeaps$Heap" "number" "I") kc_tgHS_0) (fun _ h9 => h9) rfl dX2_tellGoing_53 ?_
          refine lv_ishl hx hb dX2_tellGoing_56 ?_
          refine lv_istore (lv' := [(4, .int (1 <<< ((nI i0) &&& 31))), (3, .int 0), (0, .ref go), (1, .ref (ya i)), (2, .ref gS)]) hx hb dX2_tellGoing_57 hl (by decide) rfl (fun ls hl => ?_)
          refine lv_aload_n hx hb dX2_tellGoing_59 rfl (lv_at hl 2 rfl) ?_
          refine va_get (D := (dC, dI)) (ci := 4) (v := .ref gO) (C := RX2) (T := TX2) (N := 4) hx hb hts kc_tgHS_3 hown hK hP 0 rfl rfl 1 (by decide) (hts (.fieldLink RX2 15 "MistHeaps$Goings" "onward" "[I") kc_tgHS_4) (fun _ h9 => h9) rfl dX2_tellGoing_60 ?_
          refine lv_aload_n hx hb dX2_tellGoing_63 rfl (lv_at hl 3 rfl) ?_
          refine va_hget1 (v := .int (nI i)) hx hb hts kc_tgHS_1 hown (hH_ i (by omega)).1 (hH_ i (by omega)).2 hS (hts (.fieldLink RX2 59 "MistHeaps$Heap" "number" "I") kc_tgHS_0) dX2_tellGoing_64 rfl ?_
          refine lv_iload_n hx hb dX2_tellGoing_67 rfl (lv_at hl 1 rfl) ?_
          refine lv_if_eq (tgt := 86) hx hb dX2_tellGoing_68 (by decide) (fun _ => ?_) (fun c_38 => absurd c_38 (by decide))
          refine lv_aload_n hx hb dX2_tellGoing_86 rfl (lv_at hl 2 rfl) ?_
          refine va_get (D := (dC, dI)) (ci := 4) (v := .ref gO) (C := RX2) (T := TX2) (N := 4) hx hb hts kc_tgHS_3 hown hK hP 0 rfl rfl 1 (by decide) (hts (.fieldLink RX2 15 "MistHeaps$Goings" "onward" "[I") kc_tgHS_4) (fun _ h9 => h9) rfl dX2_tellGoing_87 ?_
          refine lv_aload_n hx hb dX2_tellGoing_90 rfl (lv_at hl 3 rfl) ?_
          refine va_hget1 (v := .int (nI i)) hx hb hts kc_tgHS_1 hown (hH_ i (by omega)).1 (hH_ i (by omega)).2 hS (hts (.fieldLink RX2 59 "MistHeaps$Heap" "number" "I") kc_tgHS_0) dX2_tellGoing_91 rfl ?_
          refine va_iald hx hb hK hP 2 1 rfl rfl (vp_in_nI (n := i) (N := 8) (by omega) (by omega)) dX2_tellGoing_94 ?_
          refine qi_as (y := fO i) (by rw [nI_clamp (by omega)]) ?_
          refine lv_iload hx hb dX2_tellGoing_95 (lv_at hl 0 rfl) ?_
          refine lv_iconst (v := (-1)) hx hb dX2_tellGoing_97 (by decide) ?_
          refine lv_ixor hx hb dX2_tellGoing_98 ?_
          refine lv_iand hx hb dX2_tellGoing_99 ?_
          refine va_iast hx hb hK hP hD hS 2 1 rfl rfl (vp_in_nI (n := i) (N := 8) (by omega) (by omega)) dX2_tellGoing_100 (fun H locs hP hD hS => ?_)
          rw [nI_clamp (n := i) (by omega)] at hP hD
          have hP : va_P (dC, dI) vwCl [(zo4rrir go gR gO (nI lk) gS), (zaI gR cR 8 fR), (zaI gO cO 8 (upd fO i ((fO i) &&& ((1 <<< ((nI i0) &&& 31)) ^^^ (-1))))), (zo5iiii gS 0 (nI i0) 0 scl)] H := hP
          have hD : va_D A [(zo4rrir go gR gO (nI lk) gS), (zaI gR cR 8 fR), (zaI gO cO 8 (upd fO i ((fO i) &&& ((1 <<< ((nI i0) &&& 31)) ^^^ (-1))))), (zo5iiii gS 0 (nI i0) 0 scl)] := hD
          rw [hQ]
          have hP9 := hP.sub (ws' := [(zo4rrir go gR gO (nI lk) gS), (zaI gR cR 8 fR), (zaI gO cO 8 (upd fO i ((fO i) &&& ((1 <<< ((nI i0) &&& 31)) ^^^ (-1))))), (zo5iiii gS 0 (nI i0) 0 scl)]) [0, 1, 2, 3] rfl
          have hD9 := hD.sub (ws' := [(zo4rrir go gR gO (nI lk) gS), (zaI gR cR 8 fR), (zaI gO cO 8 (upd fO i ((fO i) &&& ((1 <<< ((nI i0) &&& 31)) ^^^ (-1))))), (zo5iiii gS 0 (nI i0) 0 scl)]) [0, 1, 2, 3] (by decide) rfl
          have hK9 := hK.sub (tys' := [(cR, .int), (cO, .int)]) [0, 1] rfl
          exact W.vret hx hb hr (fun tQ htQ hWQ => ⟨⟨(upd fO i ((fO i) &&& ((1 <<< ((nI i0) &&& 31)) ^^^ (-1)))), rfl, ⟨_, rfl, tgB_f (by omega) (fun z9 => gv_4n hk hd_34 z9.2)⟩, by rw [htQ]; exact hP9, va_K.moved hWQ.alike hK9, hD9⟩, hS.F htQ⟩) hS.2.2 dX2_tellGoing_101

theorem kc_tgSH_0 : ∀ w ∈ wsX30, w ∈ wsX2_tellGoing := fun w h => List.mem_cons_of_mem _ (gin_wsX30 w h)
theorem kc_tgSH_1 : (.fieldLink RX2 59 "MistHeaps$Heap" "number" "I" : Cond) ∈ wsX2_tellGoing := kc_of 234 rfl rfl rfl
theorem kc_tgSH_3 : ∀ w ∈ wsX20, w ∈ wsX2_tellGoing := fun w h => List.mem_cons_of_mem _ (gin_wsX20 w h)
theorem kc_tgSH_4 : (.fieldLink RX2 15 "MistHeaps$Goings" "onward" "[I" : Cond) ∈ wsX2_tellGoing := kc_of 262 rfl rfl rfl
theorem kc_tgSH_5 : (.fieldLink RX2 41 "MistHeaps$Heap" "cell" "I" : Cond) ∈ wsX2_tellGoing := kc_of 249 rfl rfl rfl
theorem kc_tgSH_6 : (.initialized RX11 : Cond) ∈ wsX2_tellGoing := kc_of 63 rfl rfl rfl
theorem kc_tgSH_7 : (.static yX11_apart : Cond) ∈ wsX2_tellGoing := kc_of 699 rfl rfl rfl
theorem kc_tgSH_8 : (.fieldLink RX2 9 "MistHeaps$Goings" "reach" "[I" : Cond) ∈ wsX2_tellGoing := kc_of 261 rfl rfl rfl
theorem kc_tgSH_2 : ∀ C ∈ hpC, ∀ w ∈ u_ws C.1 C.2.1 C.2.2, w ∈ wsX2_tellGoing := by decide +kernel
set_option maxHeartbeats 4000000 in
set_option maxRecDepth 100000 in
theorem c_tgSH (l : Launch) (dC : Nat → ClassId) (dI : Nat → Nat → Nat) (gd : Nat → Nat)  (go : Nat) (gR : Nat) (gO : Nat) (gS : Nat) (n : Nat) (lk : Nat) (j : Nat) (i0 : Nat) (scl : Int32) (cR : ClassId) (cO : ClassId) (fR : Nat → Int32) (fO : Nat → Int32) (yk : Nat → Int32) (yv : Nat → Int32) (yc : Nat → Int32) (yi : Nat → Nat) (ya : Nat → Nat) (sz : Nat) (hjn : j < n) (hi0 : i0 < 8) (hn8 : n ≤ 8) : Met l yX2_tellGoing wsX2_tellGoing ({ frames := 2, cells := 0, slots := 0, locals := 41 } : Room) (va_Pc [.ref go, .ref gS, .ref (ya j)] (fun U => U.heap.size = sz ∧ va_P (dC, dI) vwCl [(zo4rrir go gR gO (nI lk) gS), (zaI gR cR 8 fR), (zaI gO cO 8 fO), (zo5iiii gS 0 (nI i0) 0 scl)] U.heap ∧ va_K (dC, dI) vwCl [(cR, .int), (cO, .int)] U ∧ va_D (fun _ => True) [(zo4rrir go gR gO (nI lk) gS), (zaI gR cR 8 fR), (zaI gO cO 8 fO), (zo5iiii gS 0 (nI i0) 0 scl)] ∧ Gl gd (va_A [(zo4rrir go gR gO (nI lk) gS), (zaI gR cR 8 fR), (zaI gO cO 8 fO), (zo5iiii gS 0 (nI i0) 0 scl)] sz) U ∧ Hs dC dI n yi ya yk yv yc (va_A [(zo4rrir go gR gO (nI lk) gS), (zaI gR cR 8 fR), (zaI gO cO 8 fO), (zo5iiii gS 0 (nI i0) 0 scl)] sz) U)) (va_Qv (fun (u : Nat → Int32) => match u with | fO9 => ∃ q9 : Int32, fO9 = upd fO i0 q9 ∧ tgB (¬ i0 = j ∧ goV 0 0 scl (yc j) (fR j)) (fO i0) j q9) (fun (u : Nat → Int32) (t : State) => match u with | fO9 => va_P (dC, dI) vwCl [(zo4rrir go gR gO (nI lk) gS), (zaI gR cR 8 fR), (zaI gO cO 8 fO9), (zo5iiii gS 0 (nI i0) 0 scl)] t.heap ∧ va_K (dC, dI) vwCl [(cR, .int), (cO, .int)] t ∧ va_D (va_A [(zo4rrir go gR gO (nI lk) gS), (zaI gR cR 8 fR), (zaI gO cO 8 fO), (zo5iiii gS 0 (nI i0) 0 scl)] sz) [(zo4rrir go gR gO (nI lk) gS), (zaI gR cR 8 fR), (zaI gO cO 8 fO9), (zo5iiii gS 0 (nI i0) 0 scl)]) (va_A [(zo4rrir go gR gO (nI lk) gS), (zaI gR cR 8 fR), (zaI gO cO 8 fO), (zo5iiii gS 0 (nI i0) 0 scl)] sz)) 0 0 (va_A [(zo4rrir go gR gO (nI lk) gS), (zaI gR cR 8 fR), (zaI gO cO 8 fO), (zo5iiii gS 0 (nI i0) 0 scl)] sz) := by
  refine met_ofQ (cc := cX2_tellGoing) (maxL := 5) (ret := none) (by decide) rfl ?_
  intro p e s m args below meth c s₁ Q B hml hv hQ
  obtain ⟨rfl, hsz, hP, hK, hD0, hG, hH_⟩ := hv
  have hx := B.exec
  have hb := B.bytes
  have hr := B.returns
  have hts := atoms_spec (ws := wsX2_tellGoing) B.pre
  have hown : s.vm.findClass RX2 = some m.cls := findClass_of_methodNamed B.named
  have hlocks := B.notSynchronized
  subst hsz
  have hD := hD0.self (sz := s.heap.size)
  generalize hAe : va_A [(zo4rrir go gR gO (nI lk) gS), (zaI gR cR 8 fR), (zaI gO cO 8 fO), (zo5iiii gS 0 (nI i0) 0 scl)] s.heap.size = A at hD hQ hG hH_ ⊢
  have hA : ∀ q : Nat, s.heap.size ≤ q → A q := fun q h => by rw [← hAe]; exact Or.inr h
  have hS : va_S A s.heap s.heap [] := va_S.rf
  have hl := lv_entry [.ref go, .ref gS, .ref (ya j)] (n := 5) (Nat.le_of_ble_eq_true rfl)
  rw [lg_entry_eq]
  generalize (lg_sl [.ref go, .ref gS, .ref (ya j)] ++ List.replicate (5 - (lg_sl [.ref go, .ref gS, .ref (ya j)]).length) Slot.unset).toArray = ls at hl ⊢
  generalize hag : ([.ref go, .ref gS, .ref (ya j)] : List Value).toArray = args at hts hQ ⊢
  have hl : lv_has ls 5 [(0, .ref go), (1, .ref gS), (2, .ref (ya j))] := hl
  obtain ⟨H, hH⟩ : ∃ H : Heap, H = s.heap := ⟨_, rfl⟩
  rw [← hH] at hP
  rw [← hH]
  have hS : va_S A s.heap H [] := by rw [hH]; exact hS
  obtain ⟨locs, hlo⟩ : ∃ L : List Loc, L = [] := ⟨_, rfl⟩
  rw [← hlo] at hS
  rw [← hlo]
  clear hH hlo
  refine lv_aload_n hx hb dX2_tellGoing_0 rfl (lv_at hl 1 rfl) ?_
  refine va_get (D := (dC, dI)) (ci := 5) (v := .int (nI i0)) (C := RX3) (T := TX3) (N := 4) hx hb hts kc_tgSH_0 hown hK hP 3 rfl rfl 1 (by decide) (hts (.fieldLink RX2 59 "MistHeaps$Heap" "number" "I") kc_tgSH_1) (fun _ h9 => h9) rfl dX2_tellGoing_1 ?_
  refine lv_aload_n hx hb dX2_tellGoing_4 rfl (lv_at hl 2 rfl) ?_
  refine va_hget1 (v := .int (nI j)) hx hb hts kc_tgSH_2 hown (hH_ j (by omega)).1 (hH_ j (by omega)).2 hS (hts (.fieldLink RX2 59 "MistHeaps$Heap" "number" "I") kc_tgSH_1) dX2_tellGoing_5 rfl ?_
  refine lv_icmp_eq (tgt := 49) hx hb dX2_tellGoing_8 (by decide) (fun c_1 => ?_) (fun c_1 => ?_)
  · skip
    have c_1 : i0 = j := (nI_eq (a := i0) (b := j) (by omega) (by omega)).mp c_1
    refine lv_iconst (v := 0) hx hb dX2_tellGoing_49 (by decide) ?_
    refine lv_istore_n (lv' := [(3, .int 0), (0, .ref go), (1, .ref gS), (2, .ref (ya j))]) hx hb dX2_tellGoing_50 rfl hl (by decide) rfl (fun ls hl => ?_)
    refine lv_iconst (v := 1) hx hb dX2_tellGoing_51 (by decide) ?_
    refine lv_aload_n hx hb dX2_tellGoing_52 rfl (lv_at hl 3 rfl) ?_
    refine va_hget1 (v := .int (nI j)) hx hb hts kc_tgSH_2 hown (hH_ j (by omega)).1 (hH_ j (by omega)).2 hS (hts (.fieldLink RX2 59 "MistHeaps$Heap" "number" "I") kc_tgSH_1) dX2_tellGoing_53 rfl ?_
    refine lv_ishl hx hb dX2_tellGoing_56 ?_
    refine lv_istore (lv' := [(4, .int (1 <<< ((nI j) &&& 31))), (3, .int 0), (0, .ref go), (1, .ref gS), (2, .ref (ya j))]) hx hb dX2_tellGoing_57 hl (by decide) rfl (fun ls hl => ?_)
    refine lv_aload_n hx hb dX2_tellGoing_59 rfl (lv_at hl 2 rfl) ?_
    refine va_get (D := (dC, dI)) (ci := 4) (v := .ref gO) (C := RX2) (T := TX2) (N := 4) hx hb hts kc_tgSH_3 hown hK hP 0 rfl rfl 1 (by decide) (hts (.fieldLink RX2 15 "MistHeaps$Goings" "onward" "[I") kc_tgSH_4) (fun _ h9 => h9) rfl dX2_tellGoing_60 ?_
    refine lv_aload_n hx hb dX2_tellGoing_63 rfl (lv_at hl 3 rfl) ?_
    refine va_get (D := (dC, dI)) (ci := 5) (v := .int (nI i0)) (C := RX3) (T := TX3) (N := 4) hx hb hts kc_tgSH_0 hown hK hP 3 rfl rfl 1 (by decide) (hts (.fieldLink RX2 59 "MistHeaps$Heap" "number" "I") kc_tgSH_1) (fun _ h9 => h9) rfl dX2_tellGoing_64 ?_
    refine lv_iload_n hx hb dX2_tellGoing_67 rfl (lv_at hl 1 rfl) ?_
    refine lv_if_eq (tgt := 86) hx hb dX2_tellGoing_68 (by decide) (fun _ => ?_) (fun c_2 => absurd c_2 (by decide))
    refine lv_aload_n hx hb dX2_tellGoing_86 rfl (lv_at hl 2 rfl) ?_
    refine va_get (D := (dC, dI)) (ci := 4) (v := .ref gO) (C := RX2) (T := TX2) (N := 4) hx hb hts kc_tgSH_3 hown hK hP 0 rfl rfl 1 (by decide) (hts (.fieldLink RX2 15 "MistHeaps$Goings" "onward" "[I") kc_tgSH_4) (fun _ h9 => h9) rfl dX2_tellGoing_87 ?_
    refine lv_aload_n hx hb dX2_tellGoing_90 rfl (lv_at hl 3 rfl) ?_
    refine va_get (D := (dC, dI)) (ci := 5) (v := .int (nI i0)) (C := RX3) (T := TX3) (N := 4) hx hb hts kc_tgSH_0 hown hK hP 3 rfl rfl 1 (by decide) (hts (.fieldLink RX2 59 "MistHeaps$Heap" "number" "I") kc_tgSH_1) (fun _ h9 => h9) rfl dX2_tellGoing_91 ?_
    refine va_iald hx hb hK hP 2 1 rfl rfl (vp_in_nI (n := i0) (N := 8) (by omega) (by omega)) dX2_tellGoing_94 ?_
    refine qi_as (y := fO i0) (by rw [nI_clamp (by omega)]) ?_
    refine lv_iload hx hb dX2_tellGoing_95 (lv_at hl 0 rfl) ?_
    refine lv_iconst (v := (-1)) hx hb dX2_tellGoing_97 (by decide) ?_
    refine lv_ixor hx hb dX2_tellGoing_98 ?_
    refine lv_iand hx hb dX2_tellGoing_99 ?_
    refine va_iast hx hb hK hP hD hS 2 1 rfl rfl (vp_in_nI (n := i0) (N := 8) (by omega) (by omega)) dX2_tellGoing_100 (fun H locs hP hD hS => ?_)
    rw [nI_clamp (n := i0) (by omega)] at hP hD
    have hP : va_P (dC, dI) vwCl [(zo4rrir go gR gO (nI lk) gS), (zaI gR cR 8 fR), (zaI gO cO 8 (upd fO i0 ((fO i0) &&& ((1 <<< ((nI j) &&& 31)) ^^^ (-1))))), (zo5iiii gS 0 (nI i0) 0 scl)] H := hP
    have hD : va_D A [(zo4rrir go gR gO (nI lk) gS), (zaI gR cR 8 fR), (zaI gO cO 8 (upd fO i0 ((fO i0) &&& ((1 <<< ((nI j) &&& 31)) ^^^ (-1))))), (zo5iiii gS 0 (nI i0) 0 scl)] := hD
    rw [hQ]
    have hP9 := hP.sub (ws' := [(zo4rrir go gR gO (nI lk) gS), (zaI gR cR 8 fR), (zaI gO cO 8 (upd fO i0 ((fO i0) &&& ((1 <<< ((nI j) &&& 31)) ^^^ (-1))))), (zo5iiii gS 0 (nI i0) 0 scl)]) [0, 1, 2, 3] rfl
    have hD9 := hD.sub (ws' := [(zo4rrir go gR gO (nI lk) gS), (zaI gR cR 8 fR), (zaI gO cO 8 (upd fO i0 ((fO i0) &&& ((1 <<< ((nI j) &&& 31)) ^^^ (-1))))), (zo5iiii gS 0 (nI i0) 0 scl)]) [0, 1, 2, 3] (by decide) rfl
    have hK9 := hK.sub (tys' := [(cR, .int), (cO, .int)]) [0, 1] rfl
    exact W.vret hx hb hr (fun tQ htQ hWQ => ⟨⟨(upd fO i0 ((fO i0) &&& ((1 <<< ((nI j) &&& 31)) ^^^ (-1)))), rfl, ⟨_, rfl, tgB_f (by omega) (fun z9 => z9.1 (by omega))⟩, by rw [htQ]; exact hP9, va_K.moved hWQ.alike hK9, hD9⟩, hS.F htQ⟩) hS.2.2 dX2_tellGoing_101
  · skip
    have c_1 : ¬ i0 = j := fun q => c_1 ((nI_eq (a := i0) (b := j) (by omega) (by omega)).mpr q)
    refine lv_aload_n hx hb dX2_tellGoing_11 rfl (lv_at hl 1 rfl) ?_
    refine va_get (D := (dC, dI)) (ci := 5) (v := .int scl) (C := RX3) (T := TX3) (N := 4) hx hb hts kc_tgSH_0 hown hK hP 3 rfl rfl 3 (by decide) (hts (.fieldLink RX2 41 "MistHeaps$Heap" "cell" "I") kc_tgSH_5) (fun _ h9 => h9) rfl dX2_tellGoing_12 ?_
    refine lv_aload_n hx hb dX2_tellGoing_15 rfl (lv_at hl 2 rfl) ?_
    refine va_hget3 (v := .int (yc j)) hx hb hts kc_tgSH_2 hown (hH_ j (by omega)).1 (hH_ j (by omega)).2 hS (hts (.fieldLink RX2 41 "MistHeaps$Heap" "cell" "I") kc_tgSH_5) dX2_tellGoing_16 rfl ?_
    refine vp_callSi (va_runSN (As := [.int scl, .int (yc j)]) (rest := []) ⟨hx, hb, hml, hown, hts⟩ (c_xApart l dC dI scl (yc j)) ⟨va_cnB 2 hts ggX2_tellGoing_X11_apart rfl rfl rfl (hG.1 (.methodLinkNest RX2 44 yX11_apart "MistHeaps") (by decide +kernel)) (hts (.initialized RX11) kc_tgSH_6) (by decide +kernel) ⟨Nat.le_of_ble_eq_true rfl, Nat.le_of_ble_eq_true rfl⟩, (hts (.static yX11_apart) kc_tgSH_7), trivial⟩ ⟨fun a U g mk q => ⟨q.1, trivial⟩, fun U hU hW => ⟨rfl, trivial⟩⟩ rfl rfl hl.1 rfl (lv_room (Nat.le_of_ble_eq_true rfl)) dX2_tellGoing_19 ⟨Nat.le_of_ble_eq_true rfl, Nat.le_of_ble_eq_true rfl⟩).run (fun r_3 hw_4 => ?_)
    obtain rfl := hw_4
    refine lv_aload_n hx hb dX2_tellGoing_22 rfl (lv_at hl 0 rfl) ?_
    refine va_get (D := (dC, dI)) (ci := 4) (v := .ref gR) (C := RX2) (T := TX2) (N := 4) hx hb hts kc_tgSH_3 hown hK hP 0 rfl rfl 0 (by decide) (hts (.fieldLink RX2 9 "MistHeaps$Goings" "reach" "[I") kc_tgSH_8) (fun _ h9 => h9) rfl dX2_tellGoing_23 ?_
    refine lv_aload_n hx hb dX2_tellGoing_26 rfl (lv_at hl 2 rfl) ?_
    refine va_hget1 (v := .int (nI j)) hx hb hts kc_tgSH_2 hown (hH_ j (by omega)).1 (hH_ j (by omega)).2 hS (hts (.fieldLink RX2 59 "MistHeaps$Heap" "number" "I") kc_tgSH_1) dX2_tellGoing_27 rfl ?_
    refine va_iald hx hb hK hP 1 0 rfl rfl (vp_in_nI (n := j) (N := 8) (by omega) (by omega)) dX2_tellGoing_30 ?_
    refine qi_as (y := fR j) (by rw [nI_clamp (by omega)]) ?_
    refine lv_icmp_gt (tgt := 49) hx hb dX2_tellGoing_31 (by decide) (fun c_5 => ?_) (fun c_5 => ?_)
    · skip
      refine lv_iconst (v := 0) hx hb dX2_tellGoing_49 (by decide) ?_
      refine lv_istore_n (lv' := [(3, .int 0), (0, .ref go), (1, .ref gS), (2, .ref (ya j))]) hx hb dX2_tellGoing_50 rfl hl (by decide) rfl (fun ls hl => ?_)
      refine lv_iconst (v := 1) hx hb dX2_tellGoing_51 (by decide) ?_
      refine lv_aload_n hx hb dX2_tellGoing_52 rfl (lv_at hl 3 rfl) ?_
      refine va_hget1 (v := .int (nI j)) hx hb hts kc_tgSH_2 hown (hH_ j (by omega)).1 (hH_ j (by omega)).2 hS (hts (.fieldLink RX2 59 "MistHeaps$Heap" "number" "I") kc_tgSH_1) dX2_tellGoing_53 rfl ?_
      refine lv_ishl hx hb dX2_tellGoing_56 ?_
      refine lv_istore (lv' := [(4, .int (1 <<< ((nI j) &&& 31))), (3, .int 0), (0, .ref go), (1, .ref gS), (2, .ref (ya j))]) hx hb dX2_tellGoing_57 hl (by decide) rfl (fun ls hl => ?_)
      refine lv_aload_n hx hb dX2_tellGoing_59 rfl (lv_at hl 2 rfl) ?_
      refine va_get (D := (dC, dI)) (ci := 4) (v := .ref gO) (C := RX2) (T := TX2) (N := 4) hx hb hts kc_tgSH_3 hown hK hP 0 rfl rfl 1 (by decide) (hts (.fieldLink RX2 15 "MistHeaps$Goings" "onward" "[I") kc_tgSH_4) (fun _ h9 => h9) rfl dX2_tellGoing_60 ?_
      refine lv_aload_n hx hb dX2_tellGoing_63 rfl (lv_at hl 3 rfl) ?_
      refine va_get (D := (dC, dI)) (ci := 5) (v := .int (nI i0)) (C := RX3) (T := TX3) (N := 4) hx hb hts kc_tgSH_0 hown hK hP 3 rfl rfl 1 (by decide) (hts (.fieldLink RX2 59 "MistHeaps$Heap" "number" "I") kc_tgSH_1) (fun _ h9 => h9) rfl dX2_tellGoing_64 ?_
      refine lv_iload_n hx hb dX2_tellGoing_67 rfl (lv_at hl 1 rfl) ?_
      refine lv_if_eq (tgt := 86) hx hb dX2_tellGoing_68 (by decide) (fun _ => ?_) (fun c_6 => absurd c_6 (by decide))
      refine lv_aload_n hx hb dX2_tellGoing_86 rfl (lv_at hl 2 rfl) ?_
      refine va_get (D := (dC, dI)) (ci := 4) (v := .ref gO) (C := RX2) (T := TX2) (N := 4) hx hb hts kc_tgSH_3 hown hK hP 0 rfl rfl 1 (by decide) (hts (.fieldLink RX2 15 "MistHeaps$Goings" "onward" "[I") kc_tgSH_4) (fun _ h9 => h9) rfl dX2_tellGoing_87 ?_
      refine lv_aload_n hx hb dX2_tellGoing_90 rfl (lv_at hl 3 rfl) ?_
      refine va_get (D := (dC, dI)) (ci := 5) (v := .int (nI i0)) (C := RX3) (T := TX3) (N := 4) hx hb hts kc_tgSH_0 hown hK hP 3 rfl rfl 1 (by decide) (hts (.fieldLink RX2 59 "MistHeaps$Heap" "number" "I") kc_tgSH_1) (fun _ h9 => h9) rfl dX2_tellGoing_91 ?_
      refine va_iald hx hb hK hP 2 1 rfl rfl (vp_in_nI (n := i0) (N := 8) (by omega) (by omega)) dX2_tellGoing_94 ?_
      refine qi_as (y := fO i0) (by rw [nI_clamp (by omega)]) ?_
      refine lv_iload hx hb dX2_tellGoing_95 (lv_at hl 0 rfl) ?_
      refine lv_iconst (v := (-1)) hx hb dX2_tellGoing_97 (by decide) ?_
      refine lv_ixor hx hb dX2_tellGoing_98 ?_
      refine lv_iand hx hb dX2_tellGoing_99 ?_
      refine va_iast hx hb hK hP hD hS 2 1 rfl rfl (vp_in_nI (n := i0) (N := 8) (by omega) (by omega)) dX2_tellGoing_100 (fun H locs hP hD hS => ?_)
      rw [nI_clamp (n := i0) (by omega)] at hP hD
      have hP : va_P (dC, dI) vwCl [(zo4rrir go gR gO (nI lk) gS), (zaI gR cR 8 fR), (zaI gO cO 8 (upd fO i0 ((fO i0) &&& ((1 <<< ((nI j) &&& 31)) ^^^ (-1))))), (zo5iiii gS 0 (nI i0) 0 scl)] H := hP
      have hD : va_D A [(zo4rrir go gR gO (nI lk) gS), (zaI gR cR 8 fR), (zaI gO cO 8 (upd fO i0 ((fO i0) &&& ((1 <<< ((nI j) &&& 31)) ^^^ (-1))))), (zo5iiii gS 0 (nI i0) 0 scl)] := hD
      rw [hQ]
      have hP9 := hP.sub (ws' := [(zo4rrir go gR gO (nI lk) gS), (zaI gR cR 8 fR), (zaI gO cO 8 (upd fO i0 ((fO i0) &&& ((1 <<< ((nI j) &&& 31)) ^^^ (-1))))), (zo5iiii gS 0 (nI i0) 0 scl)]) [0, 1, 2, 3] rfl
      have hD9 := hD.sub (ws' := [(zo4rrir go gR gO (nI lk) gS), (zaI gR cR 8 fR), (zaI gO cO 8 (upd fO i0 ((fO i0) &&& ((1 <<< ((nI j) &&& 31)) ^^^ (-1))))), (zo5iiii gS 0 (nI i0) 0 scl)]) [0, 1, 2, 3] (by decide) rfl
      have hK9 := hK.sub (tys' := [(cR, .int), (cO, .int)]) [0, 1] rfl
      exact W.vret hx hb hr (fun tQ htQ hWQ => ⟨⟨(upd fO i0 ((fO i0) &&& ((1 <<< ((nI j) &&& 31)) ^^^ (-1)))), rfl, ⟨_, rfl, tgB_f (by omega) (fun z9 => gv_far c_5 z9.2)⟩, by rw [htQ]; exact hP9, va_K.moved hWQ.alike hK9, hD9⟩, hS.F htQ⟩) hS.2.2 dX2_tellGoing_101
    · skip
      refine lv_aload_n hx hb dX2_tellGoing_34 rfl (lv_at hl 1 rfl) ?_
      refine lv_aload_n hx hb dX2_tellGoing_35 rfl (lv_at hl 2 rfl) ?_
      refine va_hget3 (v := .int (yc j)) hx hb hts kc_tgSH_2 hown (hH_ j (by omega)).1 (hH_ j (by omega)).2 hS (hts (.fieldLink RX2 41 "MistHeaps$Heap" "cell" "I") kc_tgSH_5) dX2_tellGoing_36 rfl ?_
      have hPc := hP.sub (ws' := [(zo5iiii gS 0 (nI i0) 0 scl)]) [3] rfl
      have hKc := hK.sub (tys' := []) [] rfl
      refine vp_callSi (va_runV (As := [.int (yc j)]) (rest := []) ⟨hx, hb, hml, hown, hts⟩ (c_lead3_S l dC dI gS i0 scl (yc j)) (cwV 1 hts gX2_tellGoing_X3_leadsTo rfl rfl rfl hd_yX3_leadsTo ⟨Nat.le_of_ble_eq_true rfl, Nat.le_of_ble_eq_true rfl⟩) ⟨fun a U g mk q => by obtain ⟨q0, qP, qK⟩ := q; exact ⟨q0, mvP g mk a qP, mvK g mk a qK⟩, va_recv hK hP (ci := 5) (q := (RX3, TX3, 4)) (q0 := 3) rfl rfl, fun U hU hW => ⟨rfl, by rw [hU]; exact hPc, va_K.moved hW.alike hKc⟩⟩ rfl rfl hl.1 rfl (lv_room (Nat.le_of_ble_eq_true rfl)) dX2_tellGoing_39 ⟨Nat.le_of_ble_eq_true rfl, Nat.le_of_ble_eq_true rfl⟩).run (fun r_7 hw_8 => ?_)
      obtain rfl := hw_8
      refine lv_if_eq (tgt := 49) hx hb dX2_tellGoing_42 (by decide) (fun c_9 => absurd c_9 (by decide)) (fun _ => ?_)
      refine lv_iconst (v := 1) hx hb dX2_tellGoing_45 (by decide) ?_
      refine lv_goto (tgt := 50) hx hb dX2_tellGoing_46 (by decide) ?_
      refine lv_istore_n (lv' := [(3, .int 1), (0, .ref go), (1, .ref gS), (2, .ref (ya j))]) hx hb dX2_tellGoing_50 rfl hl (by decide) rfl (fun ls hl => ?_)
      refine lv_iconst (v := 1) hx hb dX2_tellGoing_51 (by decide) ?_
      refine lv_aload_n hx hb dX2_tellGoing_52 rfl (lv_at hl 3 rfl) ?_
      refine va_hget1 (v := .int (nI j)) hx hb hts kc_tgSH_2 hown (hH_ j (by omega)).1 (hH_ j (by omega)).2 hS (hts (.fieldLink RX2 59 "MistHeaps$Heap" "number" "I") kc_tgSH_1) dX2_tellGoing_53 rfl ?_
      refine lv_ishl hx hb dX2_tellGoing_56 ?_
      refine lv_istore (lv' := [(4, .int (1 <<< ((nI j) &&& 31))), (3, .int 1), (0, .ref go), (1, .ref gS), (2, .ref (ya j))]) hx hb dX2_tellGoing_57 hl (by decide) rfl (fun ls hl => ?_)
      refine lv_aload_n hx hb dX2_tellGoing_59 rfl (lv_at hl 2 rfl) ?_
      refine va_get (D := (dC, dI)) (ci := 4) (v := .ref gO) (C := RX2) (T := TX2) (N := 4) hx hb hts kc_tgSH_3 hown hK hP 0 rfl rfl 1 (by decide) (hts (.fieldLink RX2 15 "MistHeaps$Goings" "onward" "[I") kc_tgSH_4) (fun _ h9 => h9) rfl dX2_tellGoing_60 ?_
      refine lv_aload_n hx hb dX2_tellGoing_63 rfl (lv_at hl 3 rfl) ?_
      refine va_get (D := (dC, dI)) (ci := 5) (v := .int (nI i0)) (C := RX3) (T := TX3) (N := 4) hx hb hts kc_tgSH_0 hown hK hP 3 rfl rfl 1 (by decide) (hts (.fieldLink RX2 59 "MistHeaps$Heap" "number" "I") kc_tgSH_1) (fun _ h9 => h9) rfl dX2_tellGoing_64 ?_
      refine lv_iload_n hx hb dX2_tellGoing_67 rfl (lv_at hl 1 rfl) ?_
      refine lv_if_eq (tgt := 86) hx hb dX2_tellGoing_68 (by decide) (fun c_10 => absurd c_10 (by decide)) (fun _ => ?_)
      refine lv_aload_n hx hb dX2_tellGoing_71 rfl (lv_at hl 2 rfl) ?_
      refine va_get (D := (dC, dI)) (ci := 4) (v := .ref gO) (C := RX2) (T := TX2) (N := 4) hx hb hts kc_tgSH_3 hown hK hP 0 rfl rfl 1 (by decide) (hts (.fieldLink RX2 15 "MistHeaps$Goings" "onward" "[I") kc_tgSH_4) (fun _ h9 => h9) rfl dX2_tellGoing_72 ?_
      refine lv_aload_n hx hb dX2_tellGoing_75 rfl (lv_at hl 3 rfl) ?_
      refine va_get (D := (dC, dI)) (ci := 5) (v := .int (nI i0)) (C := RX3) (T := TX3) (N := 4) hx hb hts kc_tgSH_0 hown hK hP 3 rfl rfl 1 (by decide) (hts (.fieldLink RX2 59 "MistHeaps$Heap" "number" "I") kc_tgSH_1) (fun _ h9 => h9) rfl dX2_tellGoing_76 ?_
      refine va_iald hx hb hK hP 2 1 rfl rfl (vp_in_nI (n := i0) (N := 8) (by omega) (by omega)) dX2_tellGoing_79 ?_
      refine qi_as (y := fO i0) (by rw [nI_clamp (by omega)]) ?_
      refine lv_iload hx hb dX2_tellGoing_80 (lv_at hl 0 rfl) ?_
      refine lv_ior hx hb dX2_tellGoing_82 ?_
      refine lv_goto (tgt := 100) hx hb dX2_tellGoing_83 (by decide) ?_
      refine va_iast hx hb hK hP hD hS 2 1 rfl rfl (vp_in_nI (n := i0) (N := 8) (by omega) (by omega)) dX2_tellGoing_100 (fun H locs hP hD hS => ?_)
      rw [nI_clamp (n := i0) (by omega)] at hP hD
      have hP : va_P (dC, dI) vwCl [(zo4rrir go gR gO (nI lk) gS), (zaI gR cR 8 fR), (zaI gO cO 8 (upd fO i0 ((fO i0) ||| (1 <<< ((nI j) &&& 31))))), (zo5iiii gS 0 (nI i0) 0 scl)] H := hP
      have hD : va_D A [(zo4rrir go gR gO (nI lk) gS), (zaI gR cR 8 fR), (zaI gO cO 8 (upd fO i0 ((fO i0) ||| (1 <<< ((nI j) &&& 31))))), (zo5iiii gS 0 (nI i0) 0 scl)] := hD
      rw [hQ]
      have hP9 := hP.sub (ws' := [(zo4rrir go gR gO (nI lk) gS), (zaI gR cR 8 fR), (zaI gO cO 8 (upd fO i0 ((fO i0) ||| (1 <<< ((nI j) &&& 31))))), (zo5iiii gS 0 (nI i0) 0 scl)]) [0, 1, 2, 3] rfl
      have hD9 := hD.sub (ws' := [(zo4rrir go gR gO (nI lk) gS), (zaI gR cR 8 fR), (zaI gO cO 8 (upd fO i0 ((fO i0) ||| (1 <<< ((nI j) &&& 31))))), (zo5iiii gS 0 (nI i0) 0 scl)]) [0, 1, 2, 3] (by decide) rfl
      have hK9 := hK.sub (tys' := [(cR, .int), (cO, .int)]) [0, 1] rfl
      exact W.vret hx hb hr (fun tQ htQ hWQ => ⟨⟨(upd fO i0 ((fO i0) ||| (1 <<< ((nI j) &&& 31)))), rfl, ⟨_, rfl, tgB_t (by omega) (⟨by omega, gv_y c_5 (by decide)⟩)⟩, by rw [htQ]; exact hP9, va_K.moved hWQ.alike hK9, hD9⟩, hS.F htQ⟩) hS.2.2 dX2_tellGoing_101

theorem lk_row {f R yk yv yc : Nat → Int32} {i j n : Nat} (hg : ∀ a, a < i → ∀ b, b < n → (bt (f a) b = true ↔ goK R yk yv yc a b)) (hr : ∀ b, b < j → (bt (f i) b = true ↔ goK R yk yv yc i b)) (e : n ≤ j) : ∀ a, a < i + 1 → ∀ b, b < n → (bt (f a) b = true ↔ goK R yk yv yc a b) := fun a ha b hb => by
  by_cases q : a = i
  · subst q; exact hr b (by omega)
  · exact hg a (by omega) b hb

theorem kc_link_0 : ∀ w ∈ wsX80, w ∈ wsX2_link := fun w h => List.mem_cons_of_mem _ (gin_wsX80 w h)
theorem kc_link_1 : (.fieldLink RX2 27 "MistHeaps$Scene" "heapCount" "I" : Cond) ∈ wsX2_link := kc_of 171 rfl rfl rfl
theorem kc_link_2 : ∀ w ∈ wsX20, w ∈ wsX2_link := fun w h => List.mem_cons_of_mem _ (gin_wsX20 w h)
theorem kc_link_3 : (.fieldLink RX2 52 "MistHeaps$Goings" "linked" "I" : Cond) ∈ wsX2_link := kc_of 263 rfl rfl rfl
theorem kc_link_4 : (.fieldLink RX2 15 "MistHeaps$Goings" "onward" "[I" : Cond) ∈ wsX2_link := kc_of 262 rfl rfl rfl
theorem kc_link_5 : (.fieldLink RX2 33 "MistHeaps$Scene" "heaps" "[LMistHeaps$Heap;" : Cond) ∈ wsX2_link := kc_of 169 rfl rfl rfl
set_option maxHeartbeats 4000000 in
set_option maxRecDepth 100000 in
theorem c_link (l : Launch) (dC : Nat → ClassId) (dI : Nat → Nat → Nat) (gd : Nat → Nat)  (kA : Nat)   (sc : Nat) (go : Nat) (aTp : Nat) (aHl : Nat) (aHs : Nat) (aWk : Nat) (aBk : Nat) (aFc : Nat) (bW : Nat) (bA : Nat) (bE : Nat) (bC : Nat) (gR : Nat) (gO : Nat) (gS : Nat) (ts : Nat) (nh : Nat) (n : Nat) (wz : Nat) (bz : Nat) (lk : Nat) (cl : Nat) (mi : Int32) (sn : Int32) (sg : Int32) (cdd : Int32) (szz : Int32) (att : Int32) (nmb : Int32) (y : Int32) (ed : Int64) (cHs : ClassId) (cFc : ClassId) (cbW : ClassId) (cbA : ClassId) (cbE : ClassId) (cbC : ClassId) (cR : ClassId) (cO : ClassId) (fFc : Nat → Int32) (fbW : Nat → Int32) (fbA : Nat → Int32) (fbE : Nat → Int32) (fbC : Nat → Int32) (fR : Nat → Int32) (fO : Nat → Int32) (yk : Nat → Int32) (yv : Nat → Int32) (yc : Nat → Int32) (fHs : Nat → Option Nat) (yi : Nat → Nat) (ya : Nat → Nat) (tpv : Value) (cz : List pCla) (sz : Nat) (zhs : ∀ k0, k0 < n → fHs k0 = some (ya k0)) (hn8 : n ≤ 8) (zcl : cl ≤ 10) (zE : ∀ k0, k0 < 10 → ∃ e0 : Nat, e0 ≤ 100 ∧ fbE k0 = nI e0) (zC : ∀ k0, k0 < 100 → okC (fbC k0)) (zyv : ∀ k0, k0 < n → ∃ v0 : Nat, v0 ≤ 9 ∧ yv k0 = nI v0) (zyc : ∀ k0, k0 < n → ∃ v0 : Nat, v0 < 36 ∧ yc k0 = nI v0) (zHC : HC cl sg fbW fbA fbE fbC cz ∧ WfC cz) (zyt : ∀ k0, k0 < n → hpT (yi k0) (yk k0)) : Met l yX2_link wsX2_link ({ frames := 6, cells := 0, slots := 0, locals := 125 } : Room) (va_Pc [.ref go, .ref sc, .int y] (fun U => U.heap.size = sz ∧ va_P (dC, dI) vwCl [(zo4rrir go gR gO (nI lk) gS), (zaI gR cR 8 fR), (zaI gO cO 8 fO), (zo10ririliiriririr sc aTp (nI ts) aHl (nI nh) ed mi sn aHs (nI n) aWk (nI wz) aBk (nI bz) aFc), (zaR aHs cHs 8 fHs), (zaI aFc cFc 6 fFc)] U.heap ∧ va_K (dC, dI) vwCl [(cR, .int), (cO, .int), (cHs, .object "MistHeaps$Heap"), (cFc, .int)] U ∧ va_D (fun _ => True) [(zo4rrir go gR gO (nI lk) gS), (zaI gR cR 8 fR), (zaI gO cO 8 fO), (zo10ririliiriririr sc aTp (nI ts) aHl (nI nh) ed mi sn aHs (nI n) aWk (nI wz) aBk (nI bz) aFc), (zaR aHs cHs 8 fHs), (zaI aFc cFc 6 fFc)] ∧ Gl gd (va_A [(zo4rrir go gR gO (nI lk) gS), (zaI gR cR 8 fR), (zaI gO cO 8 fO), (zo10ririliiriririr sc aTp (nI ts) aHl (nI nh) ed mi sn aHs (nI n) aWk (nI wz) aBk (nI bz) aFc), (zaR aHs cHs 8 fHs), (zaI aFc cFc 6 fFc)] sz) U ∧ Gw (va_A [(zo4rrir go gR gO (nI lk) gS), (zaI gR cR 8 fR), (zaI gO cO 8 fO), (zo10ririliiriririr sc aTp (nI ts) aHl (nI nh) ed mi sn aHs (nI n) aWk (nI wz) aBk (nI bz) aFc), (zaR aHs cHs 8 fHs), (zaI aFc cFc 6 fFc)] sz) U ∧ Gn kA (va_A [(zo4rrir go gR gO (nI lk) gS), (zaI gR cR 8 fR), (zaI gO cO 8 fO), (zo10ririliiriririr sc aTp (nI ts) aHl (nI nh) ed mi sn aHs (nI n) aWk (nI wz) aBk (nI bz) aFc), (zaR aHs cHs 8 fHs), (zaI aFc cFc 6 fFc)] sz) U ∧ Fz dC dI [(zo7iirrrriviii aHl sg (nI cl) bW bA bE bC cdd tpv szz att nmb), (zaI bW cbW 10 fbW), (zaI bA cbA 10 fbA), (zaI bE cbE 10 fbE), (zaI bC cbC 100 fbC)] [(cbW, .int), (cbA, .int), (cbE, .int), (cbC, .int)] (va_A [(zo4rrir go gR gO (nI lk) gS), (zaI gR cR 8 fR), (zaI gO cO 8 fO), (zo10ririliiriririr sc aTp (nI ts) aHl (nI nh) ed mi sn aHs (nI n) aWk (nI wz) aBk (nI bz) aFc), (zaR aHs cHs 8 fHs), (zaI aFc cFc 6 fFc)] sz) U ∧ Hs dC dI n yi ya yk yv yc (va_A [(zo4rrir go gR gO (nI lk) gS), (zaI gR cR 8 fR), (zaI gO cO 8 fO), (zo10ririliiriririr sc aTp (nI ts) aHl (nI nh) ed mi sn aHs (nI n) aWk (nI wz) aBk (nI bz) aFc), (zaR aHs cHs 8 fHs), (zaI aFc cFc 6 fFc)] sz) U)) (va_Qv (fun (u : (Nat) × (Nat → Int32) × (Nat → Int32) × (Nat → Int32)) => match u with | (lk9, fR9, fO9, fFc9) => lk9 = n ∧ (∀ k0, k0 < n → fR9 k0 = RV cz mi y k0 (yk k0) (yv k0) (yc k0)) ∧ rwF fO9 n (goP cz mi y yk yv yc)) (fun (u : (Nat) × (Nat → Int32) × (Nat → Int32) × (Nat → Int32)) (t : State) => match u with | (lk9, fR9, fO9, fFc9) => va_P (dC, dI) vwCl [(zo4rrir go gR gO (nI lk9) gS), (zaI gR cR 8 fR9), (zaI gO cO 8 fO9), (zo10ririliiriririr sc aTp (nI ts) aHl (nI nh) ed mi sn aHs (nI n) aWk (nI wz) aBk (nI bz) aFc), (zaR aHs cHs 8 fHs), (zaI aFc cFc 6 fFc9)] t.heap ∧ va_K (dC, dI) vwCl [(cR, .int), (cO, .int), (cHs, .object "MistHeaps$Heap"), (cFc, .int)] t ∧ va_D (va_A [(zo4rrir go gR gO (nI lk) gS), (zaI gR cR 8 fR), (zaI gO cO 8 fO), (zo10ririliiriririr sc aTp (nI ts) aHl (nI nh) ed mi sn aHs (nI n) aWk (nI wz) aBk (nI bz) aFc), (zaR aHs cHs 8 fHs), (zaI aFc cFc 6 fFc)] sz) [(zo4rrir go gR gO (nI lk9) gS), (zaI gR cR 8 fR9), (zaI gO cO 8 fO9), (zo10ririliiriririr sc aTp (nI ts) aHl (nI nh) ed mi sn aHs (nI n) aWk (nI wz) aBk (nI bz) aFc), (zaR aHs cHs 8 fHs), (zaI aFc cFc 6 fFc9)]) (va_A [(zo4rrir go gR gO (nI lk) gS), (zaI gR cR 8 fR), (zaI gO cO 8 fO), (zo10ririliiriririr sc aTp (nI ts) aHl (nI nh) ed mi sn aHs (nI n) aWk (nI wz) aBk (nI bz) aFc), (zaR aHs cHs 8 fHs), (zaI aFc cFc 6 fFc)] sz)) 0 0 (va_A [(zo4rrir go gR gO (nI lk) gS), (zaI gR cR 8 fR), (zaI gO cO 8 fO), (zo10ririliiriririr sc aTp (nI ts) aHl (nI nh) ed mi sn aHs (nI n) aWk (nI wz) aBk (nI bz) aFc), (zaR aHs cHs 8 fHs), (zaI aFc cFc 6 fFc)] sz) := by
  refine met_ofQ (cc := cX2_link) (maxL := 5) (ret := none) (by decide) rfl ?_
  intro p e s m args below meth c s₁ Q B hml hv hQ
  obtain ⟨rfl, hsz, hP, hK, hD0, hG, hW_, hN_, hZ, hH_⟩ := hv
  have hx := B.exec
  have hb := B.bytes
  have hr := B.returns
  have hts := atoms_spec (ws := wsX2_link) B.pre
  have hown : s.vm.findClass RX2 = some m.cls := findClass_of_methodNamed B.named
  have hlocks := B.notSynchronized
  subst hsz
  have hD := hD0.self (sz := s.heap.size)
  generalize hAe : va_A [(zo4rrir go gR gO (nI lk) gS), (zaI gR cR 8 fR), (zaI gO cO 8 fO), (zo10ririliiriririr sc aTp (nI ts) aHl (nI nh) ed mi sn aHs (nI n) aWk (nI wz) aBk (nI bz) aFc), (zaR aHs cHs 8 fHs), (zaI aFc cFc 6 fFc)] s.heap.size = A at hD hQ hG hW_ hN_ hZ hH_ ⊢
  have hA : ∀ q : Nat, s.heap.size ≤ q → A q := fun q h => by rw [← hAe]; exact Or.inr h
  have hS : va_S A s.heap s.heap [] := va_S.rf
  have hl := lv_entry [.ref go, .ref sc, .int y] (n := 5) (Nat.le_of_ble_eq_true rfl)
  rw [lg_entry_eq]
  generalize (lg_sl [.ref go, .ref sc, .int y] ++ List.replicate (5 - (lg_sl [.ref go, .ref sc, .int y]).length) Slot.unset).toArray = ls at hl ⊢
  generalize hag : ([.ref go, .ref sc, .int y] : List Value).toArray = args at hts hQ ⊢
  have hl : lv_has ls 5 [(0, .ref go), (1, .ref sc), (2, .int y)] := hl
  obtain ⟨H, hH⟩ : ∃ H : Heap, H = s.heap := ⟨_, rfl⟩
  rw [← hH] at hP
  rw [← hH]
  have hS : va_S A s.heap H [] := by rw [hH]; exact hS
  obtain ⟨locs, hlo⟩ : ∃ L : List Loc, L = [] := ⟨_, rfl⟩
  rw [← hlo] at hS
  rw [← hlo]
  clear hH hlo
  refine lv_aload_n hx hb dX2_link_0 rfl (lv_at hl 0 rfl) ?_
  refine lv_aload_n hx hb dX2_link_1 rfl (lv_at hl 1 rfl) ?_
  refine lv_iload_n hx hb dX2_link_2 rfl (lv_at hl 2 rfl) ?_
  have hPc := hP.sub (ws' := [(zo4rrir go gR gO (nI lk) gS), (zaI gR cR 8 fR), (zo10ririliiriririr sc aTp (nI ts) aHl (nI nh) ed mi sn aHs (nI n) aWk (nI wz) aBk (nI bz) aFc), (zaR aHs cHs 8 fHs), (zaI aFc cFc 6 fFc)]) [0, 1, 3, 4, 5] rfl
  have hDc := hD.sub (ws' := [(zo4rrir go gR gO (nI lk) gS), (zaI gR cR 8 fR), (zo10ririliiriririr sc aTp (nI ts) aHl (nI nh) ed mi sn aHs (nI n) aWk (nI wz) aBk (nI bz) aFc), (zaR aHs cHs 8 fHs), (zaI aFc cFc 6 fFc)]) [0, 1, 3, 4, 5] (by decide) rfl
  have hKc := hK.sub (tys' := [(cR, .int), (cHs, .object "MistHeaps$Heap"), (cFc, .int)]) [0, 2, 3] rfl
  have hFc := va_free (wc := [(zo4rrir go gR gO (nI lk) gS), (zaI gR cR 8 fR), (zo10ririliiriririr sc aTp (nI ts) aHl (nI nh) ed mi sn aHs (nI n) aWk (nI wz) aBk (nI bz) aFc), (zaR aHs cHs 8 fHs), (zaI aFc cFc 6 fFc)]) hD hS hA [0, 1, 3, 4, 5] rfl
  refine va_callv (va_runV (As := [.ref sc, .int y]) (rest := []) ⟨hx, hb, hml, hown, hts⟩ (c_measure l dC dI gd    sc go aTp aHl aHs aWk aBk aFc bW bA bE bC gR gO gS ts nh n wz bz lk cl mi sn sg cdd szz att nmb y ed cHs cFc cbW cbA cbE cbC cR fFc fbW fbA fbE fbC fR yk yv yc fHs yi ya tpv cz H.size (zhs) (hn8) (zcl) (zE) (zC) (zHC) (zyt)) (cwV 2 hts gX2_link_X2_measure rfl rfl rfl hd_yX2_measure ⟨Nat.le_of_ble_eq_true rfl, Nat.le_of_ble_eq_true rfl⟩) ⟨fun a U g mk q => by obtain ⟨q0, q1, qP, qK, qD, qhG, qhW_, qhZ, qhH_⟩ := q; exact ⟨q0, mvz g mk a q1, mvP g mk a qP, mvK g mk a qK, qD, qhG.mv g mk a, qhW_.mv g mk a, qhZ.mv g mk a, qhH_.mv g mk a⟩, va_recv hK hP (ci := 4) (q := (RX2, TX2, 4)) (q0 := 0) rfl rfl, fun U hU hW => ⟨rfl, by rw [hU], by rw [hU]; exact hPc, va_K.moved hW.alike hKc, hDc.weaken (fun _ _ _ _ => trivial), hG.call hS hU hW (fun q h => hFc q h), hW_.call hS hU hW (fun q h => hFc q h), (hZ.sub [0, 1, 2, 3, 4] [0, 1, 2, 3] rfl rfl).call hS hU hW (fun q h => hFc q h), hH_.call hS hU hW (fun q h => hFc q h)⟩⟩ rfl rfl hl.1 rfl (lv_room (Nat.le_of_ble_eq_true rfl)) dX2_link_3 ⟨Nat.le_of_ble_eq_true rfl, Nat.le_of_ble_eq_true rfl⟩) hS (fun q _ h => hFc q h) hFc (fun u tC H1 locs htC hvm hw_2 hB hz1 hk1 hS => ?_)
  obtain ⟨fR9_3, fFc9_4⟩ := u
  try dsimp only at hw_2 hB
  obtain ⟨hP1, hK1, hD1⟩ := hB
  rw [htC] at hP1
  have hK1 := va_K.moved hvm.symm hK1
  obtain ⟨hP, hD⟩ := va_join (wr := [(zaI gO cO 8 fO)]) (w1 := [(zo4rrir go gR gO (nI lk) gS), (zaI gR cR 8 fR9_3), (zo10ririliiriririr sc aTp (nI ts) aHl (nI nh) ed mi sn aHs (nI n) aWk (nI wz) aBk (nI bz) aFc), (zaR aHs cHs 8 fHs), (zaI aFc cFc 6 fFc9_4)]) hP hD [0, 1, 3, 4, 5] [2] rfl rfl (by decide) (by decide) hk1 hFc hP1 hD1
  have hK := (hK.sub (tys' := [(cO, .int)]) [1] rfl).app hK1
  generalize H1 = H at hP hS ⊢
  have hP : va_P (dC, dI) vwCl [(zaI gO cO 8 fO), (zo4rrir go gR gO (nI lk) gS), (zaI gR cR 8 fR9_3), (zo10ririliiriririr sc aTp (nI ts) aHl (nI nh) ed mi sn aHs (nI n) aWk (nI wz) aBk (nI bz) aFc), (zaR aHs cHs 8 fHs), (zaI aFc cFc 6 fFc9_4)] H := hP
  have hD : va_D A [(zaI gO cO 8 fO), (zo4rrir go gR gO (nI lk) gS), (zaI gR cR 8 fR9_3), (zo10ririliiriririr sc aTp (nI ts) aHl (nI nh) ed mi sn aHs (nI n) aWk (nI wz) aBk (nI bz) aFc), (zaR aHs cHs 8 fHs), (zaI aFc cFc 6 fFc9_4)] := hD
  have hK : va_K (dC, dI) vwCl [(cO, .int), (cR, .int), (cHs, .object "MistHeaps$Heap"), (cFc, .int)] s := hK
  refine lv_aload_n hx hb dX2_link_6 rfl (lv_at hl 0 rfl) ?_
  refine lv_aload_n hx hb dX2_link_7 rfl (lv_at hl 1 rfl) ?_
  refine va_get (D := (dC, dI)) (ci := 10) (v := .int (nI n)) (C := RX8) (T := TX8) (N := 14) hx hb hts kc_link_0 hown hK hP 3 rfl rfl 8 (by decide) (hts (.fieldLink RX2 27 "MistHeaps$Scene" "heapCount" "I") kc_link_1) (fun _ h9 => h9) rfl dX2_link_8 ?_
  refine va_put (D := (dC, dI)) (ci := 4) (v := .int (nI n)) (ty := .int) (C := RX2) (T := TX2) (N := 4) hx hb hts kc_link_2 tyX2 tyX2_ok nmX2 hown hK hP hD hS 1 rfl rfl 2 (by decide) (hts (.fieldLink RX2 52 "MistHeaps$Goings" "linked" "I") kc_link_3) (fun _ h9 => h9) rfl (by decide +kernel) rfl rfl (Nat.le_of_ble_eq_true rfl) dX2_link_11 (fun H locs hP hD hS => ?_)
  have hP : va_P (dC, dI) vwCl [(zaI gO cO 8 fO), (zo4rrir go gR gO (nI n) gS), (zaI gR cR 8 fR9_3), (zo10ririliiriririr sc aTp (nI ts) aHl (nI nh) ed mi sn aHs (nI n) aWk (nI wz) aBk (nI bz) aFc), (zaR aHs cHs 8 fHs), (zaI aFc cFc 6 fFc9_4)] H := hP
  have hD : va_D A [(zaI gO cO 8 fO), (zo4rrir go gR gO (nI n) gS), (zaI gR cR 8 fR9_3), (zo10ririliiriririr sc aTp (nI ts) aHl (nI nh) ed mi sn aHs (nI n) aWk (nI wz) aBk (nI bz) aFc), (zaR aHs cHs 8 fHs), (zaI aFc cFc 6 fFc9_4)] := hD
  refine lv_iconst (v := 0) hx hb dX2_link_14 (by decide) ?_
  refine lv_istore_n (lv' := [(3, .int 0), (0, .ref go), (1, .ref sc), (2, .int y)]) hx hb dX2_link_15 rfl hl (by decide) rfl (fun ls hl => ?_)
  have L16 : ∀ (nF : Nat) (i : Nat) (fO2 : Nat → Int32), n - i < nF → (i ≤ n) → (∀ a, a < i → ∀ b, b < n → (bt (fO2 a) b = true ↔ goK fR9_3 yk yv yc a b)) → ∀ (H : Heap) (locs : List Loc), va_K (dC, dI) vwCl [(cR, .int), (cO, .int), (cHs, .object "MistHeaps$Heap"), (cFc, .int)] s → va_P (dC, dI) vwCl [(zo4rrir go gR gO (nI n) gS), (zaI gR cR 8 fR9_3), (zaI gO cO 8 fO2), (zo10ririliiriririr sc aTp (nI ts) aHl (nI nh) ed mi sn aHs (nI n) aWk (nI wz) aBk (nI bz) aFc), (zaR aHs cHs 8 fHs), (zaI aFc cFc 6 fFc9_4)] H → va_D A [(zo4rrir go gR gO (nI n) gS), (zaI gR cR 8 fR9_3), (zaI gO cO 8 fO2), (zo10ririliiriririr sc aTp (nI ts) aHl (nI nh) ed mi sn aHs (nI n) aWk (nI wz) aBk (nI bz) aFc), (zaR aHs cHs 8 fHs), (zaI aFc cFc 6 fFc9_4)] → va_S A s.heap H locs → ∀ (ls : Array Slot), lv_has ls 5 [(0, .ref go), (1, .ref sc), (3, .int (nI i))] → W p l e ({ frames := 6, cells := 0, slots := 0, locals := 125 } : Room) s m args below meth c H locs 0 0 Q (F0 m 16 ls []) := by
    intro nF
    induction nF with
    | zero => intro i fO2 hm; exact absurd hm (Nat.not_lt_zero _)
    | succ nF ih16 =>
      intro i fO2 hm hi hg9 H locs hK hP hD hS ls hl
      refine lv_iload_n hx hb dX2_link_16 rfl (lv_at hl 2 rfl) ?_
      refine lv_aload_n hx hb dX2_link_17 rfl (lv_at hl 0 rfl) ?_
      refine va_get (D := (dC, dI)) (ci := 4) (v := .int (nI n)) (C := RX2) (T := TX2) (N := 4) hx hb hts kc_link_2 hown hK hP 0 rfl rfl 2 (by decide) (hts (.fieldLink RX2 52 "MistHeaps$Goings" "linked" "I") kc_link_3) (fun _ h9 => h9) rfl dX2_link_18 ?_
      refine lv_icmp_ge (tgt := 72) hx hb dX2_link_21 (by decide) (fun c_5 => ?_) (fun c_5 => ?_)
      · skip
        have c_5 : n ≤ i := (nI_leI (a := n) (b := i) (by omega) (by omega)).mp c_5
        rw [hQ]
        have hP9 := hP.sub (ws' := [(zo4rrir go gR gO (nI n) gS), (zaI gR cR 8 fR9_3), (zaI gO cO 8 fO2), (zo10ririliiriririr sc aTp (nI ts) aHl (nI nh) ed mi sn aHs (nI n) aWk (nI wz) aBk (nI bz) aFc), (zaR aHs cHs 8 fHs), (zaI aFc cFc 6 fFc9_4)]) [0, 1, 2, 3, 4, 5] rfl
        have hD9 := hD.sub (ws' := [(zo4rrir go gR gO (nI n) gS), (zaI gR cR 8 fR9_3), (zaI gO cO 8 fO2), (zo10ririliiriririr sc aTp (nI ts) aHl (nI nh) ed mi sn aHs (nI n) aWk (nI wz) aBk (nI bz) aFc), (zaR aHs cHs 8 fHs), (zaI aFc cFc 6 fFc9_4)]) [0, 1, 2, 3, 4, 5] (by decide) rfl
        have hK9 := hK.sub (tys' := [(cR, .int), (cO, .int), (cHs, .object "MistHeaps$Heap"), (cFc, .int)]) [0, 1, 2, 3] rfl
        exact W.vret hx hb hr (fun tQ htQ hWQ => ⟨⟨(n, fR9_3, fO2, fFc9_4), rfl, ⟨rfl, hw_2, row_k hw_2 (fun a ha b hb => hg9 a (by omega) b hb)⟩, by rw [htQ]; exact hP9, va_K.moved hWQ.alike hK9, hD9⟩, hS.F htQ⟩) hS.2.2 dX2_link_72
      · skip
        have c_5 : ¬ n ≤ i := fun q => c_5 ((nI_leI (a := n) (b := i) (by omega) (by omega)).mpr q)
        refine lv_aload_n hx hb dX2_link_24 rfl (lv_at hl 0 rfl) ?_
        refine va_get (D := (dC, dI)) (ci := 4) (v := .ref gO) (C := RX2) (T := TX2) (N := 4) hx hb hts kc_link_2 hown hK hP 0 rfl rfl 1 (by decide) (hts (.fieldLink RX2 15 "MistHeaps$Goings" "onward" "[I") kc_link_4) (fun _ h9 => h9) rfl dX2_link_25 ?_
        refine lv_iload_n hx hb dX2_link_28 rfl (lv_at hl 2 rfl) ?_
        refine lv_iconst (v := 0) hx hb dX2_link_29 (by decide) ?_
        refine va_iast hx hb hK hP hD hS 2 1 rfl rfl (vp_in_nI (n := i) (N := 8) (by omega) (by omega)) dX2_link_30 (fun H locs hP hD hS => ?_)
        rw [nI_clamp (n := i) (by omega)] at hP hD
        have hP : va_P (dC, dI) vwCl [(zo4rrir go gR gO (nI n) gS), (zaI gR cR 8 fR9_3), (zaI gO cO 8 (upd fO2 i 0)), (zo10ririliiriririr sc aTp (nI ts) aHl (nI nh) ed mi sn aHs (nI n) aWk (nI wz) aBk (nI bz) aFc), (zaR aHs cHs 8 fHs), (zaI aFc cFc 6 fFc9_4)] H := hP
        have hD : va_D A [(zo4rrir go gR gO (nI n) gS), (zaI gR cR 8 fR9_3), (zaI gO cO 8 (upd fO2 i 0)), (zo10ririliiriririr sc aTp (nI ts) aHl (nI nh) ed mi sn aHs (nI n) aWk (nI wz) aBk (nI bz) aFc), (zaR aHs cHs 8 fHs), (zaI aFc cFc 6 fFc9_4)] := hD
        refine lv_iconst (v := 0) hx hb dX2_link_31 (by decide) ?_
        refine lv_istore (lv' := [(4, .int 0), (0, .ref go), (1, .ref sc), (3, .int (nI i))]) hx hb dX2_link_32 hl (by decide) rfl (fun ls hl => ?_)
        have L34 : ∀ (nF : Nat) (j : Nat) (fO2 : Nat → Int32), n - j < nF → (j ≤ n) → (∀ a, a < i → ∀ b, b < n → (bt (fO2 a) b = true ↔ goK fR9_3 yk yv yc a b)) → (∀ b, b < j → (bt (fO2 i) b = true ↔ goK fR9_3 yk yv yc i b)) → ∀ (H : Heap) (locs : List Loc), va_K (dC, dI) vwCl [(cR, .int), (cO, .int), (cHs, .object "MistHeaps$Heap"), (cFc, .int)] s → va_P (dC, dI) vwCl [(zo4rrir go gR gO (nI n) gS), (zaI gR cR 8 fR9_3), (zaI gO cO 8 fO2), (zo10ririliiriririr sc aTp (nI ts) aHl (nI nh) ed mi sn aHs (nI n) aWk (nI wz) aBk (nI bz) aFc), (zaR aHs cHs 8 fHs), (zaI aFc cFc 6 fFc9_4)] H → va_D A [(zo4rrir go gR gO (nI n) gS), (zaI gR cR 8 fR9_3), (zaI gO cO 8 fO2), (zo10ririliiriririr sc aTp (nI ts) aHl (nI nh) ed mi sn aHs (nI n) aWk (nI wz) aBk (nI bz) aFc), (zaR aHs cHs 8 fHs), (zaI aFc cFc 6 fFc9_4)] → va_S A s.heap H locs → ∀ (ls : Array Slot), lv_has ls 5 [(0, .ref go), (1, .ref sc), (3, .int (nI i)), (4, .int (nI j))] → W p l e ({ frames := 6, cells := 0, slots := 0, locals := 125 } : Room) s m args below meth c H locs 0 0 Q (F0 m 34 ls []) := by
          intro nF
          induction nF with
          | zero => intro j fO2 hm; exact absurd hm (Nat.not_lt_zero _)
          | succ nF ih34 =>
            intro j fO2 hm hj hg9 hr9 H locs hK hP hD hS ls hl
            refine lv_iload hx hb dX2_link_34 (lv_at hl 3 rfl) ?_
            refine lv_aload_n hx hb dX2_link_36 rfl (lv_at hl 0 rfl) ?_
            refine va_get (D := (dC, dI)) (ci := 4) (v := .int (nI n)) (C := RX2) (T := TX2) (N := 4) hx hb hts kc_link_2 hown hK hP 0 rfl rfl 2 (by decide) (hts (.fieldLink RX2 52 "MistHeaps$Goings" "linked" "I") kc_link_3) (fun _ h9 => h9) rfl dX2_link_37 ?_
            refine lv_icmp_ge (tgt := 66) hx hb dX2_link_40 (by decide) (fun c_6 => ?_) (fun c_6 => ?_)
            · skip
              have c_6 : n ≤ j := (nI_leI (a := n) (b := j) (by omega) (by omega)).mp c_6
              refine lv_iinc (v := nI (i + 1)) (lv' := [(3, .int (nI (i + 1))), (0, .ref go), (1, .ref sc), (4, .int (nI j))]) hx hb dX2_link_66 hl (k := 2) rfl (nI_add i 1) (by decide) rfl (fun ls hl => ?_)
              refine lv_goto (tgt := 16) hx hb dX2_link_69 (by decide) ?_
              exact ih16 (i + 1) (fO2) (by omega) (by omega) (lk_row hg9 hr9 (by omega)) _ _ (hK.sub [0, 1, 2, 3] rfl) (hP.sub [0, 1, 2, 3, 4, 5] rfl) (hD.sub [0, 1, 2, 3, 4, 5] (by decide) rfl) hS ls (lv_sub hl [1, 2, 0] rfl)
            · skip
              have c_6 : ¬ n ≤ j := fun q => c_6 ((nI_leI (a := n) (b := j) (by omega) (by omega)).mpr q)
              refine lv_aload_n hx hb dX2_link_43 rfl (lv_at hl 0 rfl) ?_
              refine lv_aload_n hx hb dX2_link_44 rfl (lv_at hl 1 rfl) ?_
              refine va_get (D := (dC, dI)) (ci := 10) (v := .ref aHs) (C := RX8) (T := TX8) (N := 14) hx hb hts kc_link_0 hown hK hP 3 rfl rfl 7 (by decide) (hts (.fieldLink RX2 33 "MistHeaps$Scene" "heaps" "[LMistHeaps$Heap;") kc_link_5) (fun _ h9 => h9) rfl dX2_link_45 ?_
              refine lv_iload_n hx hb dX2_link_48 rfl (lv_at hl 2 rfl) ?_
              refine va_aldq hx hb hK hP 4 2 rfl rfl (vp_in_nI (n := i) (N := 8) (by omega) (by omega)) dX2_link_49 ?_
              refine qq_as (v := .ref (ya i)) (by rw [nI_clamp (by omega), zhs i (by omega)]; rfl) ?_
              refine lv_aload_n hx hb dX2_link_50 rfl (lv_at hl 1 rfl) ?_
              refine va_get (D := (dC, dI)) (ci := 10) (v := .ref aHs) (C := RX8) (T := TX8) (N := 14) hx hb hts kc_link_0 hown hK hP 3 rfl rfl 7 (by decide) (hts (.fieldLink RX2 33 "MistHeaps$Scene" "heaps" "[LMistHeaps$Heap;") kc_link_5) (fun _ h9 => h9) rfl dX2_link_51 ?_
              refine lv_iload hx hb dX2_link_54 (lv_at hl 3 rfl) ?_
              refine va_aldq hx hb hK hP 4 2 rfl rfl (vp_in_nI (n := j) (N := 8) (by omega) (by omega)) dX2_link_56 ?_
              refine qq_as (v := .ref (ya j)) (by rw [nI_clamp (by omega), zhs j (by omega)]; rfl) ?_
              have hPc := hP.sub (ws' := [(zo4rrir go gR gO (nI n) gS), (zaI gR cR 8 fR9_3), (zaI gO cO 8 fO2)]) [0, 1, 2] rfl
              have hDc := hD.sub (ws' := [(zo4rrir go gR gO (nI n) gS), (zaI gR cR 8 fR9_3), (zaI gO cO 8 fO2)]) [0, 1, 2] (by decide) rfl
              have hKc := hK.sub (tys' := [(cR, .int), (cO, .int)]) [0, 1] rfl
              have hFc := va_free (wc := [(zo4rrir go gR gO (nI n) gS), (zaI gR cR 8 fR9_3), (zaI gO cO 8 fO2)]) hD hS hA [0, 1, 2] rfl
              refine va_callv (va_runV (As := [.ref (ya i), .ref (ya j)]) (rest := []) ⟨hx, hb, hml, hown, hts⟩ (c_tgHH l dC dI gd kA  go gR gO gS n n i j cR cO fR9_3 fO2 yk yv yc yi ya H.size (by omega) (by omega) (hn8) (zyv) (zyc) (zyt)) (cwV 2 hts gX2_link_X2_tellGoing rfl rfl rfl hd_yX2_tellGoing ⟨Nat.le_of_ble_eq_true rfl, Nat.le_of_ble_eq_true rfl⟩) ⟨fun a U g mk q => by obtain ⟨q0, q1, qP, qK, qD, qhG, qhN_, qhH_⟩ := q; exact ⟨q0, mvz g mk a q1, mvP g mk a qP, mvK g mk a qK, qD, qhG.mv g mk a, qhN_.mv g mk a, qhH_.mv g mk a⟩, va_recv hK hP (ci := 4) (q := (RX2, TX2, 4)) (q0 := 0) rfl rfl, fun U hU hW => ⟨rfl, by rw [hU], by rw [hU]; exact hPc, va_K.moved hW.alike hKc, hDc.weaken (fun _ _ _ _ => trivial), hG.call hS hU hW (fun q h => hFc q h), hN_.call hS hU hW (fun q h => hFc q h), hH_.call hS hU hW (fun q h => hFc q h)⟩⟩ rfl rfl hl.1 rfl (lv_room (Nat.le_of_ble_eq_true rfl)) dX2_link_57 ⟨Nat.le_of_ble_eq_true rfl, Nat.le_of_ble_eq_true rfl⟩) hS (fun q _ h => hFc q h) hFc (fun u tC H1 locs htC hvm hw_8 hB hz1 hk1 hS => ?_)
              obtain ⟨fO9_9, rfl⟩ : ∃ z, z = u := ⟨_, rfl⟩
              try dsimp only at hw_8 hB
              obtain ⟨hP1, hK1, hD1⟩ := hB
              rw [htC] at hP1
              have hK1 := va_K.moved hvm.symm hK1
              obtain ⟨hP, hD⟩ := va_join (wr := [(zo10ririliiriririr sc aTp (nI ts) aHl (nI nh) ed mi sn aHs (nI n) aWk (nI wz) aBk (nI bz) aFc), (zaR aHs cHs 8 fHs), (zaI aFc cFc 6 fFc9_4)]) (w1 := [(zo4rrir go gR gO (nI n) gS), (zaI gR cR 8 fR9_3), (zaI gO cO 8 fO9_9)]) hP hD [0, 1, 2] [3, 4, 5] rfl rfl (by decide) (by decide) hk1 hFc hP1 hD1
              have hK := (hK.sub (tys' := [(cHs, .object "MistHeaps$Heap"), (cFc, .int)]) [2, 3] rfl).app hK1
              generalize H1 = H at hP hS ⊢
              have hP : va_P (dC, dI) vwCl [(zo10ririliiriririr sc aTp (nI ts) aHl (nI nh) ed mi sn aHs (nI n) aWk (nI wz) aBk (nI bz) aFc), (zaR aHs cHs 8 fHs), (zaI aFc cFc 6 fFc9_4), (zo4rrir go gR gO (nI n) gS), (zaI gR cR 8 fR9_3), (zaI gO cO 8 fO9_9)] H := hP
              have hD : va_D A [(zo10ririliiriririr sc aTp (nI ts) aHl (nI nh) ed mi sn aHs (nI n) aWk (nI wz) aBk (nI bz) aFc), (zaR aHs cHs 8 fHs), (zaI aFc cFc 6 fFc9_4), (zo4rrir go gR gO (nI n) gS), (zaI gR cR 8 fR9_3), (zaI gO cO 8 fO9_9)] := hD
              have hK : va_K (dC, dI) vwCl [(cHs, .object "MistHeaps$Heap"), (cFc, .int), (cR, .int), (cO, .int)] s := hK
              obtain ⟨q_10, eO_, hg_11⟩ := hw_8
              subst eO_
              refine lv_iinc (v := nI (j + 1)) (lv' := [(4, .int (nI (j + 1))), (0, .ref go), (1, .ref sc), (3, .int (nI i))]) hx hb dX2_link_60 hl (k := 3) rfl (nI_add j 1) (by decide) rfl (fun ls hl => ?_)
              refine lv_goto (tgt := 34) hx hb dX2_link_63 (by decide) ?_
              exact ih34 (j + 1) ((upd fO2 i q_10)) (by omega) (by omega) (fun a ha b hb => by rw [pk_un (show ¬ a = i by omega)]; exact hg9 a ha b hb) (by rw [pk_us]; exact tg_up hr9 hg_11 (by omega)) _ _ (hK.sub [2, 3, 0, 1] rfl) (hP.sub [3, 4, 5, 0, 1, 2] rfl) (hD.sub [3, 4, 5, 0, 1, 2] (by decide) rfl) hS ls (lv_sub hl [1, 2, 3, 0] rfl)
        exact L34 _ (0) ((upd fO2 i 0)) (Nat.lt_succ_self _) (by omega) (fun a ha b hb => by rw [pk_un (show ¬ a = i by omega)]; exact hg9 a ha b hb) (fun b hb => absurd hb (Nat.not_lt_zero b)) _ _ (hK.sub [0, 1, 2, 3] rfl) (hP.sub [0, 1, 2, 3, 4, 5] rfl) (hD.sub [0, 1, 2, 3, 4, 5] (by decide) rfl) hS ls (lv_sub hl [1, 2, 3, 0] rfl)
  exact L16 _ (0) (fO) (Nat.lt_succ_self _) (by omega) (fun a ha => absurd ha (Nat.not_lt_zero a)) _ _ (hK.sub [1, 0, 2, 3] rfl) (hP.sub [1, 2, 0, 3, 4, 5] rfl) (hD.sub [1, 2, 0, 3, 4, 5] (by decide) rfl) hS ls (lv_sub hl [1, 2, 0] rfl)

theorem kc_isGoing_0 : ∀ w ∈ wsX20, w ∈ wsX2_isGoing := fun w h => List.mem_cons_of_mem _ (gin_wsX20 w h)
theorem kc_isGoing_1 : (.fieldLink RX2 15 "MistHeaps$Goings" "onward" "[I" : Cond) ∈ wsX2_isGoing := kc_of 262 rfl rfl rfl
set_option maxHeartbeats 4000000 in
set_option maxRecDepth 100000 in
theorem c_isGoing (l : Launch) (dC : Nat → ClassId) (dI : Nat → Nat → Nat) (go : Nat) (gR : Nat) (gO : Nat) (gS : Nat) (lk : Nat) (j : Nat) (x : Int32) (cO : ClassId) (fO : Nat → Int32) (hj8 : j < 8) : Met l yX2_isGoing wsX2_isGoing ({ frames := 0, cells := 0, slots := 0, locals := 0 } : Room) (va_Pc [.ref go, .int (nI j), .int x] (fun U => va_P (dC, dI) vwCl [(zo4rrir go gR gO (nI lk) gS), (zaI gO cO 8 fO)] U.heap ∧ va_K (dC, dI) vwCl [(cO, .int)] U)) (vp_Si (fun r => (r = 1 ∧ tB (fO j) x) ∨ (r = 0 ∧ ¬ tB (fO j) x))) 0 0 (fun _ => False) := by
  refine met_ofQ (cc := cX2_isGoing) (maxL := 3) (ret := (some .boolean)) (by decide) rfl ?_
  intro p e s m args below meth c s₁ Q B hml hv hQ
  obtain ⟨rfl, hP, hK⟩ := hv
  have hx := B.exec
  have hb := B.bytes
  have hr := B.returns
  have hts := atoms_spec (ws := wsX2_isGoing) B.pre
  have hown : s.vm.findClass RX2 = some m.cls := findClass_of_methodNamed B.named
  have hlocks := B.notSynchronized
  obtain ⟨A, hAe⟩ : ∃ A : Nat → Prop, A = fun _ => False := ⟨_, rfl⟩
  rw [← hAe] at hQ
  have hS : va_S A s.heap s.heap [] := va_S.rf
  have hl := lv_entry [.ref go, .int (nI j), .int x] (n := 3) (Nat.le_of_ble_eq_true rfl)
  rw [lg_entry_eq]
  generalize (lg_sl [.ref go, .int (nI j), .int x] ++ List.replicate (3 - (lg_sl [.ref go, .int (nI j), .int x]).length) Slot.unset).toArray = ls at hl ⊢
  generalize hag : ([.ref go, .int (nI j), .int x] : List Value).toArray = args at hts hQ ⊢
  have hl : lv_has ls 3 [(0, .ref go), (1, .int (nI j)), (2, .int x)] := hl
  refine lv_aload_n hx hb dX2_isGoing_0 rfl (lv_at hl 0 rfl) ?_
  refine va_get (D := (dC, dI)) (ci := 4) (v := .ref gO) (C := RX2) (T := TX2) (N := 4) hx hb hts kc_isGoing_0 hown hK hP 0 rfl rfl 1 (by decide) (hts (.fieldLink RX2 15 "MistHeaps$Goings" "onward" "[I") kc_isGoing_1) (fun _ h9 => h9) rfl dX2_isGoing_1 ?_
  refine lv_iload_n hx hb dX2_isGoing_4 rfl (lv_at hl 1 rfl) ?_
  refine va_iald hx hb hK hP 1 0 rfl rfl (vp_in_nI (n := j) (N := 8) (by omega) (by omega)) dX2_isGoing_5 ?_
  refine qi_as (y := fO j) (by rw [nI_clamp (by omega)]) ?_
  refine lv_iload_n hx hb dX2_isGoing_6 rfl (lv_at hl 2 rfl) ?_
  refine lv_ishr hx hb dX2_isGoing_7 ?_
  refine lv_iconst (v := 1) hx hb dX2_isGoing_8 (by decide) ?_
  refine lv_iand hx hb dX2_isGoing_9 ?_
  refine lv_iconst (v := 1) hx hb dX2_isGoing_10 (by decide) ?_
  refine lv_icmp_ne (tgt := 18) hx hb dX2_isGoing_11 (by decide) (fun c_1 => ?_) (fun c_1 => ?_)
  · skip
    refine lv_iconst (v := 0) hx hb dX2_isGoing_18 (by decide) ?_
    rw [hQ]
    exact W.zret (v := 0) hx hb hr rfl (fun tQ htQ hWQ => ⟨0, rfl, by first | exact Or.inl ⟨rfl, by assumption⟩ | exact Or.inr ⟨rfl, by assumption⟩, by rw [htQ]⟩) (fun q hq => absurd hq List.not_mem_nil) dX2_isGoing_19
  · skip
    refine lv_iconst (v := 1) hx hb dX2_isGoing_14 (by decide) ?_
    refine lv_goto (tgt := 19) hx hb dX2_isGoing_15 (by decide) ?_
    rw [hQ]
    exact W.zret (v := 1) hx hb hr rfl (fun tQ htQ hWQ => ⟨1, rfl, by first | exact Or.inl ⟨rfl, by assumption⟩ | exact Or.inr ⟨rfl, by assumption⟩, by rw [htQ]⟩) (fun q hq => absurd hq List.not_mem_nil) dX2_isGoing_19

theorem kc_onwardFrom_0 : ∀ w ∈ wsX20, w ∈ wsX2_onwardFrom := fun w h => List.mem_cons_of_mem _ (gin_wsX20 w h)
theorem kc_onwardFrom_1 : (.fieldLink RX2 52 "MistHeaps$Goings" "linked" "I" : Cond) ∈ wsX2_onwardFrom := kc_of 263 rfl rfl rfl
theorem kc_onwardFrom_2 : (.fieldLink RX2 15 "MistHeaps$Goings" "onward" "[I" : Cond) ∈ wsX2_onwardFrom := kc_of 262 rfl rfl rfl
set_option maxHeartbeats 4000000 in
set_option maxRecDepth 100000 in
theorem c_onwardFrom (l : Launch) (dC : Nat → ClassId) (dI : Nat → Nat → Nat) (go : Nat) (gR : Nat) (gO : Nat) (gS : Nat) (lk : Nat) (x : Int32) (cO : ClassId) (fO : Nat → Int32) (hlk : lk ≤ 8) : Met l yX2_onwardFrom wsX2_onwardFrom ({ frames := 0, cells := 0, slots := 0, locals := 0 } : Room) (va_Pc [.ref go, .int x] (fun U => va_P (dC, dI) vwCl [(zo4rrir go gR gO (nI lk) gS), (zaI gO cO 8 fO)] U.heap ∧ va_K (dC, dI) vwCl [(cO, .int)] U)) (vp_Si (fun r => r = owI fO x lk)) 0 0 (fun _ => False) := by
  refine met_ofQ (cc := cX2_onwardFrom) (maxL := 4) (ret := (some .int)) (by decide) rfl ?_
  intro p e s m args below meth c s₁ Q B hml hv hQ
  obtain ⟨rfl, hP, hK⟩ := hv
  have hx := B.exec
  have hb := B.bytes
  have hr := B.returns
  have hts := atoms_spec (ws := wsX2_onwardFrom) B.pre
  have hown : s.vm.findClass RX2 = some m.cls := findClass_of_methodNamed B.named
  have hlocks := B.notSynchronized
  obtain ⟨A, hAe⟩ : ∃ A : Nat → Prop, A = fun _ => False := ⟨_, rfl⟩
  rw [← hAe] at hQ
  have hS : va_S A s.heap s.heap [] := va_S.rf
  have hl := lv_entry [.ref go, .int x] (n := 4) (Nat.le_of_ble_eq_true rfl)
  rw [lg_entry_eq]
  generalize (lg_sl [.ref go, .int x] ++ List.replicate (4 - (lg_sl [.ref go, .int x]).length) Slot.unset).toArray = ls at hl ⊢
  generalize hag : ([.ref go, .int x] : List Value).toArray = args at hts hQ ⊢
  have hl : lv_has ls 4 [(0, .ref go), (1, .int x)] := hl
  refine lv_iconst (v := 0) hx hb dX2_onwardFrom_0 (by decide) ?_
  refine lv_istore_n (lv' := [(2, .int 0), (0, .ref go), (1, .int x)]) hx hb dX2_onwardFrom_1 rfl hl (by decide) rfl (fun ls hl => ?_)
  refine lv_iconst (v := 0) hx hb dX2_onwardFrom_2 (by decide) ?_
  refine lv_istore_n (lv' := [(3, .int 0), (2, .int 0), (0, .ref go), (1, .int x)]) hx hb dX2_onwardFrom_3 rfl hl (by decide) rfl (fun ls hl => ?_)
  have L4 : ∀ (nF : Nat) (i : Nat) (q : Int32), lk - i < nF → (i ≤ lk) → (q = owI fO x i) → ∀ (ls : Array Slot), lv_has ls 4 [(0, .ref go), (1, .int x), (2, .int q), (3, .int (nI i))] → W p l e ({ frames := 0, cells := 0, slots := 0, locals := 0 } : Room) s m args below meth c s.heap [] 0 0 Q (F0 m 4 ls []) := by
    intro nF
    induction nF with
    | zero => intro i q hm; exact absurd hm (Nat.not_lt_zero _)
    | succ nF ih4 =>
      intro i q hm hi hq9 ls hl
      refine lv_iload_n hx hb dX2_onwardFrom_4 rfl (lv_at hl 3 rfl) ?_
      refine lv_aload_n hx hb dX2_onwardFrom_5 rfl (lv_at hl 0 rfl) ?_
      refine va_get (D := (dC, dI)) (ci := 4) (v := .int (nI lk)) (C := RX2) (T := TX2) (N := 4) hx hb hts kc_onwardFrom_0 hown hK hP 0 rfl rfl 2 (by decide) (hts (.fieldLink RX2 52 "MistHeaps$Goings" "linked" "I") kc_onwardFrom_1) (fun _ h9 => h9) rfl dX2_onwardFrom_6 ?_
      refine lv_icmp_ge (tgt := 36) hx hb dX2_onwardFrom_9 (by decide) (fun c_1 => ?_) (fun c_1 => ?_)
      · skip
        have c_1 : lk ≤ i := (nI_leI (a := lk) (b := i) (by omega) (by omega)).mp c_1
        refine lv_iload_n hx hb dX2_onwardFrom_36 rfl (lv_at hl 2 rfl) ?_
        rw [hQ]
        exact W.iret (v := q) hx hb hr (fun tQ htQ hWQ => ⟨q, rfl, ow_e hq9 (by omega), by rw [htQ]⟩) (fun q hq => absurd hq List.not_mem_nil) dX2_onwardFrom_37
      · skip
        have c_1 : ¬ lk ≤ i := fun q => c_1 ((nI_leI (a := lk) (b := i) (by omega) (by omega)).mpr q)
        refine lv_iload_n hx hb dX2_onwardFrom_12 rfl (lv_at hl 1 rfl) ?_
        refine lv_iload_n hx hb dX2_onwardFrom_13 rfl (lv_at hl 3 rfl) ?_
        refine lv_ishr hx hb dX2_onwardFrom_14 ?_
        refine lv_iconst (v := 1) hx hb dX2_onwardFrom_15 (by decide) ?_
        refine lv_iand hx hb dX2_onwardFrom_16 ?_
        refine lv_iconst (v := 1) hx hb dX2_onwardFrom_17 (by decide) ?_
        refine lv_icmp_ne (tgt := 30) hx hb dX2_onwardFrom_18 (by decide) (fun c_2 => ?_) (fun c_2 => ?_)
        · skip
          refine lv_iinc (v := nI (i + 1)) (lv' := [(3, .int (nI (i + 1))), (0, .ref go), (1, .int x), (2, .int q)]) hx hb dX2_onwardFrom_30 hl (k := 3) rfl (nI_add i 1) (by decide) rfl (fun ls hl => ?_)
          refine lv_goto (tgt := 4) hx hb dX2_onwardFrom_33 (by decide) ?_
          exact ih4 (i + 1) (q) (by omega) (by omega) (ow_f hq9 c_2) ls (lv_sub hl [1, 2, 3, 0] rfl)
        · skip
          refine lv_iload_n hx hb dX2_onwardFrom_21 rfl (lv_at hl 2 rfl) ?_
          refine lv_aload_n hx hb dX2_onwardFrom_22 rfl (lv_at hl 0 rfl) ?_
          refine va_get (D := (dC, dI)) (ci := 4) (v := .ref gO) (C := RX2) (T := TX2) (N := 4) hx hb hts kc_onwardFrom_0 hown hK hP 0 rfl rfl 1 (by decide) (hts (.fieldLink RX2 15 "MistHeaps$Goings" "onward" "[I") kc_onwardFrom_2) (fun _ h9 => h9) rfl dX2_onwardFrom_23 ?_
          refine lv_iload_n hx hb dX2_onwardFrom_26 rfl (lv_at hl 3 rfl) ?_
          refine va_iald hx hb hK hP 1 0 rfl rfl (vp_in_nI (n := i) (N := 8) (by omega) (by omega)) dX2_onwardFrom_27 ?_
          refine qi_as (y := fO i) (by rw [nI_clamp (by omega)]) ?_
          refine lv_ior hx hb dX2_onwardFrom_28 ?_
          refine lv_istore_n (lv' := [(2, .int (q ||| (fO i))), (0, .ref go), (1, .int x), (3, .int (nI i))]) hx hb dX2_onwardFrom_29 rfl hl (by decide) rfl (fun ls hl => ?_)
          refine lv_iinc (v := nI (i + 1)) (lv' := [(3, .int (nI (i + 1))), (2, .int (q ||| (fO i))), (0, .ref go), (1, .int x)]) hx hb dX2_onwardFrom_30 hl (k := 3) rfl (nI_add i 1) (by decide) rfl (fun ls hl => ?_)
          refine lv_goto (tgt := 4) hx hb dX2_onwardFrom_33 (by decide) ?_
          exact ih4 (i + 1) (q ||| (fO i)) (by omega) (by omega) (ow_t hq9 c_2) ls (lv_sub hl [2, 3, 1, 0] rfl)
  exact L4 _ (0) (0) (Nat.lt_succ_self _) (by omega) (rfl) ls (lv_sub hl [2, 3, 1, 0] rfl)

set_option maxHeartbeats 4000000 in
set_option maxRecDepth 100000 in
theorem c_fewest (l : Launch) (dC : Nat → ClassId) (dI : Nat → Nat → Nat) (go : Nat) (gR : Nat) (gO : Nat) (gS : Nat) (lk : Nat) (x : Int32) (y : Int32) (z : Int32) (cO : ClassId) (fO : Nat → Int32) (hlk : lk ≤ 8) : Met l yX2_fewest wsX2_fewest ({ frames := 1, cells := 0, slots := 0, locals := 23 } : Room) (va_Pc [.ref go, .int x, .int y, .int z] (fun U => va_P (dC, dI) vwCl [(zo4rrir go gR gO (nI lk) gS), (zaI gO cO 8 fO)] U.heap ∧ va_K (dC, dI) vwCl [(cO, .int)] U)) (vp_Si (fun r => r = fwR fO lk x y z)) 0 0 (fun _ => False) := by
  refine met_ofQ (cc := cX2_fewest) (maxL := 7) (ret := (some .int)) (by decide) rfl ?_
  intro p e s m args below meth c s₁ Q B hml hv hQ
  obtain ⟨rfl, hP, hK⟩ := hv
  have hx := B.exec
  have hb := B.bytes
  have hr := B.returns
  have hts := atoms_spec (ws := wsX2_fewest) B.pre
  have hown : s.vm.findClass RX2 = some m.cls := findClass_of_methodNamed B.named
  have hlocks := B.notSynchronized
  obtain ⟨A, hAe⟩ : ∃ A : Nat → Prop, A = fun _ => False := ⟨_, rfl⟩
  rw [← hAe] at hQ
  have hS : va_S A s.heap s.heap [] := va_S.rf
  have hl := lv_entry [.ref go, .int x, .int y, .int z] (n := 7) (Nat.le_of_ble_eq_true rfl)
  rw [lg_entry_eq]
  generalize (lg_sl [.ref go, .int x, .int y, .int z] ++ List.replicate (7 - (lg_sl [.ref go, .int x, .int y, .int z]).length) Slot.unset).toArray = ls at hl ⊢
  generalize hag : ([.ref go, .int x, .int y, .int z] : List Value).toArray = args at hts hQ ⊢
  have hl : lv_has ls 7 [(0, .ref go), (1, .int x), (2, .int y), (3, .int z)] := hl
  refine lv_iload_n hx hb dX2_fewest_0 rfl (lv_at hl 1 rfl) ?_
  refine lv_iload_n hx hb dX2_fewest_1 rfl (lv_at hl 2 rfl) ?_
  refine lv_icmp_ne (tgt := 7) hx hb dX2_fewest_2 (by decide) (fun c_1 => ?_) (fun c_1 => ?_)
  · skip
    refine lv_iconst (v := 1) hx hb dX2_fewest_7 (by decide) ?_
    refine lv_iload_n hx hb dX2_fewest_8 rfl (lv_at hl 1 rfl) ?_
    refine lv_ishl hx hb dX2_fewest_9 ?_
    refine lv_istore (lv' := [(4, .int (1 <<< (x &&& 31))), (0, .ref go), (1, .int x), (2, .int y), (3, .int z)]) hx hb dX2_fewest_10 hl (by decide) rfl (fun ls hl => ?_)
    refine lv_iload hx hb dX2_fewest_12 (lv_at hl 0 rfl) ?_
    refine lv_istore (lv' := [(5, .int (1 <<< (x &&& 31))), (4, .int (1 <<< (x &&& 31))), (0, .ref go), (1, .int x), (2, .int y), (3, .int z)]) hx hb dX2_fewest_14 hl (by decide) rfl (fun ls hl => ?_)
    refine lv_iconst (v := 1) hx hb dX2_fewest_16 (by decide) ?_
    refine lv_istore (lv' := [(6, .int 1), (5, .int (1 <<< (x &&& 31))), (4, .int (1 <<< (x &&& 31))), (0, .ref go), (1, .int x), (2, .int y), (3, .int z)]) hx hb dX2_fewest_17 hl (by decide) rfl (fun ls hl => ?_)
    have L19 : ∀ (nF : Nat) (i : Nat) (q : Int32) (q2 : Int32), 8 - i < nF → (1 ≤ i ∧ i ≤ 8) → (q = (cwJ fO lk x z (i - 1)).1) → (q2 = (cwJ fO lk x z (i - 1)).2) → (fwR fO lk x y z = fwF (cwJ fO lk x z) y (8 - i) (i - 1)) → ∀ (ls : Array Slot), lv_has ls 7 [(0, .ref go), (2, .int y), (3, .int z), (4, .int q), (5, .int q2), (6, .int (nI i))] → W p l e ({ frames := 1, cells := 0, slots := 0, locals := 23 } : Room) s m args below meth c s.heap [] 0 0 Q (F0 m 19 ls []) := by
      intro nF
      induction nF with
      | zero => intro i q q2 hm; exact absurd hm (Nat.not_lt_zero _)
      | succ nF ih19 =>
        intro i q q2 hm hi hc9 hn9 hf9 ls hl
        refine lv_iload hx hb dX2_fewest_19 (lv_at hl 5 rfl) ?_
        refine lv_bipush (v := 8) hx hb dX2_fewest_21 (by decide) ?_
        refine lv_icmp_ge (tgt := 72) hx hb dX2_fewest_23 (by decide) (fun c_2 => ?_) (fun c_2 => ?_)
        · skip
          have c_2 : 8 ≤ i := (nI_leI (a := 8) (b := i) (by omega) (by omega)).mp c_2
          refine lv_bipush (v := (-5)) hx hb dX2_fewest_72 (by decide) ?_
          rw [hQ]
          exact W.iret (v := (-5)) hx hb hr (fun tQ htQ hWQ => ⟨(-5), rfl, fw_end hf9 (by assumption), by rw [htQ]⟩) (fun q hq => absurd hq List.not_mem_nil) dX2_fewest_74
        · skip
          have c_2 : ¬ 8 ≤ i := fun q => c_2 ((nI_leI (a := 8) (b := i) (by omega) (by omega)).mpr q)
          refine lv_iload hx hb dX2_fewest_26 (lv_at hl 4 rfl) ?_
          refine lv_if_eq (tgt := 72) hx hb dX2_fewest_28 (by decide) (fun c_3 => ?_) (fun c_3 => ?_)
          · skip
            refine lv_bipush (v := (-5)) hx hb dX2_fewest_72 (by decide) ?_
            rw [hQ]
            exact W.iret (v := (-5)) hx hb hr (fun tQ htQ hWQ => ⟨(-5), rfl, fw_zero hf9 hi (by assumption) hn9 c_3, by rw [htQ]⟩) (fun q hq => absurd hq List.not_mem_nil) dX2_fewest_74
          · skip
            refine lv_aload_n hx hb dX2_fewest_31 rfl (lv_at hl 0 rfl) ?_
            refine lv_iload hx hb dX2_fewest_32 (lv_at hl 4 rfl) ?_
            have hPc := hP.sub (ws' := [(zo4rrir go gR gO (nI lk) gS), (zaI gO cO 8 fO)]) [0, 1] rfl
            have hKc := hK.sub (tys' := [(cO, .int)]) [0] rfl
            refine vp_callSi (va_runV (As := [.int q2]) (rest := []) ⟨hx, hb, hml, hown, hts⟩ (c_onwardFrom l dC dI go gR gO gS lk q2 cO fO (hlk)) (cwV 1 hts gX2_fewest_X2_onwardFrom rfl rfl rfl hd_yX2_onwardFrom ⟨Nat.le_of_ble_eq_true rfl, Nat.le_of_ble_eq_true rfl⟩) ⟨fun a U g mk q => by obtain ⟨q0, qP, qK⟩ := q; exact ⟨q0, mvP g mk a qP, mvK g mk a qK⟩, va_recv hK hP (ci := 4) (q := (RX2, TX2, 4)) (q0 := 0) rfl rfl, fun U hU hW => ⟨rfl, by rw [hU]; exact hPc, va_K.moved hW.alike hKc⟩⟩ rfl rfl hl.1 rfl (lv_room (Nat.le_of_ble_eq_true rfl)) dX2_fewest_34 ⟨Nat.le_of_ble_eq_true rfl, Nat.le_of_ble_eq_true rfl⟩).run (fun r_4 hw_5 => ?_)
            obtain rfl := hw_5
            refine lv_iload hx hb dX2_fewest_37 (lv_at hl 3 rfl) ?_
            refine lv_iload_n hx hb dX2_fewest_39 rfl (lv_at hl 2 rfl) ?_
            refine lv_ior hx hb dX2_fewest_40 ?_
            refine lv_iconst (v := (-1)) hx hb dX2_fewest_41 (by decide) ?_
            refine lv_ixor hx hb dX2_fewest_42 ?_
            refine lv_iand hx hb dX2_fewest_43 ?_
            refine lv_istore (lv' := [(5, .int ((owI fO q2 lk) &&& ((q ||| z) ^^^ (-1)))), (0, .ref go), (2, .int y), (3, .int z), (4, .int q), (6, .int (nI i))]) hx hb dX2_fewest_44 hl (by decide) rfl (fun ls hl => ?_)
            refine lv_iload hx hb dX2_fewest_46 (lv_at hl 0 rfl) ?_
            refine lv_iload_n hx hb dX2_fewest_48 rfl (lv_at hl 2 rfl) ?_
            refine lv_ishr hx hb dX2_fewest_49 ?_
            refine lv_iconst (v := 1) hx hb dX2_fewest_50 (by decide) ?_
            refine lv_iand hx hb dX2_fewest_51 ?_
            refine lv_iconst (v := 1) hx hb dX2_fewest_52 (by decide) ?_
            refine lv_icmp_ne (tgt := 59) hx hb dX2_fewest_53 (by decide) (fun c_6 => ?_) (fun c_6 => ?_)
            · skip
              refine lv_iload hx hb dX2_fewest_59 (lv_at hl 4 rfl) ?_
              refine lv_iload hx hb dX2_fewest_61 (lv_at hl 0 rfl) ?_
              refine lv_ior hx hb dX2_fewest_63 ?_
              refine lv_istore (lv' := [(4, .int (q ||| ((owI fO q2 lk) &&& ((q ||| z) ^^^ (-1))))), (5, .int ((owI fO q2 lk) &&& ((q ||| z) ^^^ (-1)))), (0, .ref go), (2, .int y), (3, .int z), (6, .int (nI i))]) hx hb dX2_fewest_64 hl (by decide) rfl (fun ls hl => ?_)
              refine lv_iinc (v := nI (i + 1)) (lv' := [(6, .int (nI (i + 1))), (4, .int (q ||| ((owI fO q2 lk) &&& ((q ||| z) ^^^ (-1))))), (5, .int ((owI fO q2 lk) &&& ((q ||| z) ^^^ (-1)))), (0, .ref go), (2, .int y), (3, .int z)]) hx hb dX2_fewest_66 hl (k := 5) rfl (nI_add i 1) (by decide) rfl (fun ls hl => ?_)
              refine lv_goto (tgt := 19) hx hb dX2_fewest_69 (by decide) ?_
              exact ih19 (i + 1) (q ||| ((owI fO q2 lk) &&& ((q ||| z) ^^^ (-1)))) ((owI fO q2 lk) &&& ((q ||| z) ^^^ (-1))) (by omega) (by omega) (fw_c hi hc9 hn9) (fw_w hi hc9 hn9) (fw_next hf9 hi (by assumption) hn9 c_3 (fw_v hi hc9 hn9) c_6) ls (lv_sub hl [3, 4, 5, 1, 2, 0] rfl)
            · skip
              refine lv_iload hx hb dX2_fewest_56 (lv_at hl 5 rfl) ?_
              rw [hQ]
              exact W.iret (v := nI i) hx hb hr (fun tQ htQ hWQ => ⟨nI i, rfl, fw_hit hf9 hi (by assumption) hn9 c_3 (fw_v hi hc9 hn9) c_6, by rw [htQ]⟩) (fun q hq => absurd hq List.not_mem_nil) dX2_fewest_58
    exact L19 _ (1) (1 <<< (x &&& 31)) (1 <<< (x &&& 31)) (Nat.lt_succ_self _) (by omega) (rfl) (rfl) (if_neg c_1) ls (lv_sub hl [3, 5, 6, 2, 1, 0] rfl)
  · skip
    refine lv_iconst (v := 0) hx hb dX2_fewest_5 (by decide) ?_
    rw [hQ]
    exact W.iret (v := 0) hx hb hr (fun tQ htQ hWQ => ⟨0, rfl, (if_pos c_1).symm, by rw [htQ]⟩) (fun q hq => absurd hq List.not_mem_nil) dX2_fewest_6

theorem kc_first_0 : ∀ w ∈ wsX20, w ∈ wsX2_first := fun w h => List.mem_cons_of_mem _ (gin_wsX20 w h)
theorem kc_first_1 : (.fieldLink RX2 52 "MistHeaps$Goings" "linked" "I" : Cond) ∈ wsX2_first := kc_of 263 rfl rfl rfl
set_option maxHeartbeats 4000000 in
set_option maxRecDepth 100000 in
theorem c_first (l : Launch) (dC : Nat → ClassId) (dI : Nat → Nat → Nat) (go : Nat) (gR : Nat) (gO : Nat) (gS : Nat) (lk : Nat) (j : Nat) (k : Nat) (cO : ClassId) (fO : Nat → Int32) (hj8 : j < 8) (hlk : lk ≤ 8) : Met l yX2_first wsX2_first ({ frames := 2, cells := 0, slots := 0, locals := 49 } : Room) (va_Pc [.ref go, .int (nI j), .int (nI k)] (fun U => va_P (dC, dI) vwCl [(zo4rrir go gR gO (nI lk) gS), (zaI gO cO 8 fO)] U.heap ∧ va_K (dC, dI) vwCl [(cO, .int)] U)) (vp_Si (fun r => r = vxR fO lk j (nI k))) 0 0 (fun _ => False) := by
  refine met_ofQ (cc := cX2_first) (maxL := 5) (ret := (some .int)) (by decide) rfl ?_
  intro p e s m args below meth c s₁ Q B hml hv hQ
  obtain ⟨rfl, hP, hK⟩ := hv
  have hx := B.exec
  have hb := B.bytes
  have hr := B.returns
  have hts := atoms_spec (ws := wsX2_first) B.pre
  have hown : s.vm.findClass RX2 = some m.cls := findClass_of_methodNamed B.named
  have hlocks := B.notSynchronized
  obtain ⟨A, hAe⟩ : ∃ A : Nat → Prop, A = fun _ => False := ⟨_, rfl⟩
  rw [← hAe] at hQ
  have hS : va_S A s.heap s.heap [] := va_S.rf
  have hl := lv_entry [.ref go, .int (nI j), .int (nI k)] (n := 5) (Nat.le_of_ble_eq_true rfl)
  rw [lg_entry_eq]
  generalize (lg_sl [.ref go, .int (nI j), .int (nI k)] ++ List.replicate (5 - (lg_sl [.ref go, .int (nI j), .int (nI k)]).length) Slot.unset).toArray = ls at hl ⊢
  generalize hag : ([.ref go, .int (nI j), .int (nI k)] : List Value).toArray = args at hts hQ ⊢
  have hl : lv_has ls 5 [(0, .ref go), (1, .int (nI j)), (2, .int (nI k))] := hl
  refine lv_aload_n hx hb dX2_first_0 rfl (lv_at hl 0 rfl) ?_
  refine lv_iload_n hx hb dX2_first_1 rfl (lv_at hl 1 rfl) ?_
  refine lv_iload_n hx hb dX2_first_2 rfl (lv_at hl 2 rfl) ?_
  refine lv_iconst (v := 0) hx hb dX2_first_3 (by decide) ?_
  have hPc := hP.sub (ws' := [(zo4rrir go gR gO (nI lk) gS), (zaI gO cO 8 fO)]) [0, 1] rfl
  have hKc := hK.sub (tys' := [(cO, .int)]) [0] rfl
  refine vp_callSi (va_runV (As := [.int (nI j), .int (nI k), .int 0]) (rest := []) ⟨hx, hb, hml, hown, hts⟩ (c_fewest l dC dI go gR gO gS lk (nI j) (nI k) 0 cO fO (by omega)) (cwV 3 hts gX2_first_X2_fewest rfl rfl rfl hd_yX2_fewest ⟨Nat.le_of_ble_eq_true rfl, Nat.le_of_ble_eq_true rfl⟩) ⟨fun a U g mk q => by obtain ⟨q0, qP, qK⟩ := q; exact ⟨q0, mvP g mk a qP, mvK g mk a qK⟩, va_recv hK hP (ci := 4) (q := (RX2, TX2, 4)) (q0 := 0) rfl rfl, fun U hU hW => ⟨rfl, by rw [hU]; exact hPc, va_K.moved hW.alike hKc⟩⟩ rfl rfl hl.1 rfl (lv_room (Nat.le_of_ble_eq_true rfl)) dX2_first_4 ⟨Nat.le_of_ble_eq_true rfl, Nat.le_of_ble_eq_true rfl⟩).run (fun r_1 hw_2 => ?_)
  obtain rfl := hw_2
  refine lv_istore_n (lv' := [(3, .int (fwR fO lk (nI j) (nI k) 0)), (0, .ref go), (1, .int (nI j)), (2, .int (nI k))]) hx hb dX2_first_7 rfl hl (by decide) rfl (fun ls hl => ?_)
  refine lv_iload_n hx hb dX2_first_8 rfl (lv_at hl 0 rfl) ?_
  refine lv_bipush (v := (-5)) hx hb dX2_first_9 (by decide) ?_
  refine lv_icmp_eq (tgt := 18) hx hb dX2_first_11 (by decide) (fun c_3 => ?_) (fun c_3 => ?_)
  · skip
    refine lv_bipush (v := (-5)) hx hb dX2_first_18 (by decide) ?_
    rw [hQ]
    exact W.iret (v := (-5)) hx hb hr (fun tQ htQ hWQ => ⟨(-5), rfl, vx_5 c_3, by rw [htQ]⟩) (fun q hq => absurd hq List.not_mem_nil) dX2_first_20
  · skip
    refine lv_iload_n hx hb dX2_first_14 rfl (lv_at hl 0 rfl) ?_
    refine lv_if_ne (tgt := 21) hx hb dX2_first_15 (by decide) (fun c_4 => ?_) (fun c_4 => ?_)
    · skip
      obtain ⟨V9, hV9⟩ : ∃ V : Nat → Prop, V = vxP fO lk j (nI k) := ⟨_, rfl⟩
      obtain ⟨A9, hA9⟩ : ∃ A : Int32, A = fiF V9 lk 0 := ⟨_, rfl⟩
      refine lv_iconst (v := 0) hx hb dX2_first_21 (by decide) ?_
      refine lv_istore (lv' := [(4, .int 0), (3, .int (fwR fO lk (nI j) (nI k) 0)), (0, .ref go), (1, .int (nI j)), (2, .int (nI k))]) hx hb dX2_first_22 hl (by decide) rfl (fun ls hl => ?_)
      have L24 : ∀ (nF : Nat) (i : Nat), lk - i < nF → (i ≤ lk) → (A9 = fiF V9 (lk - i) i) → ∀ (ls : Array Slot), lv_has ls 5 [(0, .ref go), (1, .int (nI j)), (2, .int (nI k)), (3, .int (fwR fO lk (nI j) (nI k) 0)), (4, .int (nI i))] → W p l e ({ frames := 2, cells := 0, slots := 0, locals := 49 } : Room) s m args below meth c s.heap [] 0 0 Q (F0 m 24 ls []) := by
        intro nF
        induction nF with
        | zero => intro i hm; exact absurd hm (Nat.not_lt_zero _)
        | succ nF ih24 =>
          intro i hm hi hq9 ls hl
          refine lv_iload hx hb dX2_first_24 (lv_at hl 4 rfl) ?_
          refine lv_aload_n hx hb dX2_first_26 rfl (lv_at hl 0 rfl) ?_
          refine va_get (D := (dC, dI)) (ci := 4) (v := .int (nI lk)) (C := RX2) (T := TX2) (N := 4) hx hb hts kc_first_0 hown hK hP 0 rfl rfl 2 (by decide) (hts (.fieldLink RX2 52 "MistHeaps$Goings" "linked" "I") kc_first_1) (fun _ h9 => h9) rfl dX2_first_27 ?_
          refine lv_icmp_ge (tgt := 66) hx hb dX2_first_30 (by decide) (fun c_5 => ?_) (fun c_5 => ?_)
          · skip
            have c_5 : lk ≤ i := (nI_leI (a := lk) (b := i) (by omega) (by omega)).mp c_5
            refine lv_bipush (v := (-5)) hx hb dX2_first_66 (by decide) ?_
            rw [hQ]
            exact W.iret (v := (-5)) hx hb hr (fun tQ htQ hWQ => ⟨(-5), rfl, vx_h c_3 c_4 hV9 hA9 (fi_end hq9 (by assumption)), by rw [htQ]⟩) (fun q hq => absurd hq List.not_mem_nil) dX2_first_68
          · skip
            have c_5 : ¬ lk ≤ i := fun q => c_5 ((nI_leI (a := lk) (b := i) (by omega) (by omega)).mpr q)
            refine lv_aload_n hx hb dX2_first_33 rfl (lv_at hl 0 rfl) ?_
            refine lv_iload_n hx hb dX2_first_34 rfl (lv_at hl 1 rfl) ?_
            refine lv_iload hx hb dX2_first_35 (lv_at hl 4 rfl) ?_
            have hPc := hP.sub (ws' := [(zo4rrir go gR gO (nI lk) gS), (zaI gO cO 8 fO)]) [0, 1] rfl
            have hKc := hK.sub (tys' := [(cO, .int)]) [0] rfl
            refine vp_callSi (va_runV (As := [.int (nI j), .int (nI i)]) (rest := []) ⟨hx, hb, hml, hown, hts⟩ (c_isGoing l dC dI go gR gO gS lk j (nI i) cO fO (hj8)) (cwV 2 hts gX2_first_X2_isGoing rfl rfl rfl hd_yX2_isGoing ⟨Nat.le_of_ble_eq_true rfl, Nat.le_of_ble_eq_true rfl⟩) ⟨fun a U g mk q => by obtain ⟨q0, qP, qK⟩ := q; exact ⟨q0, mvP g mk a qP, mvK g mk a qK⟩, va_recv hK hP (ci := 4) (q := (RX2, TX2, 4)) (q0 := 0) rfl rfl, fun U hU hW => ⟨rfl, by rw [hU]; exact hPc, va_K.moved hW.alike hKc⟩⟩ rfl rfl hl.1 rfl (lv_room (Nat.le_of_ble_eq_true rfl)) dX2_first_37 ⟨Nat.le_of_ble_eq_true rfl, Nat.le_of_ble_eq_true rfl⟩).run (fun r_6 hw_7 => ?_)
            rcases hw_7 with ⟨rfl, hd_8⟩ | ⟨rfl, hd_8⟩
            · skip
              refine lv_if_eq (tgt := 60) hx hb dX2_first_40 (by decide) (fun c_9 => absurd c_9 (by decide)) (fun _ => ?_)
              refine lv_aload_n hx hb dX2_first_43 rfl (lv_at hl 0 rfl) ?_
              refine lv_iload hx hb dX2_first_44 (lv_at hl 4 rfl) ?_
              refine lv_iload_n hx hb dX2_first_46 rfl (lv_at hl 2 rfl) ?_
              refine lv_iconst (v := 0) hx hb dX2_first_47 (by decide) ?_
              have hPc := hP.sub (ws' := [(zo4rrir go gR gO (nI lk) gS), (zaI gO cO 8 fO)]) [0, 1] rfl
              have hKc := hK.sub (tys' := [(cO, .int)]) [0] rfl
              refine vp_callSi (va_runV (As := [.int (nI i), .int (nI k), .int 0]) (rest := []) ⟨hx, hb, hml, hown, hts⟩ (c_fewest l dC dI go gR gO gS lk (nI i) (nI k) 0 cO fO (by omega)) (cwV 3 hts gX2_first_X2_fewest rfl rfl rfl hd_yX2_fewest ⟨Nat.le_of_ble_eq_true rfl, Nat.le_of_ble_eq_true rfl⟩) ⟨fun a U g mk q => by obtain ⟨q0, qP, qK⟩ := q; exact ⟨q0, mvP g mk a qP, mvK g mk a qK⟩, va_recv hK hP (ci := 4) (q := (RX2, TX2, 4)) (q0 := 0) rfl rfl, fun U hU hW => ⟨rfl, by rw [hU]; exact hPc, va_K.moved hW.alike hKc⟩⟩ rfl rfl hl.1 rfl (lv_room (Nat.le_of_ble_eq_true rfl)) dX2_first_48 ⟨Nat.le_of_ble_eq_true rfl, Nat.le_of_ble_eq_true rfl⟩).run (fun r_10 hw_11 => ?_)
              obtain rfl := hw_11
              refine lv_iload_n hx hb dX2_first_51 rfl (lv_at hl 3 rfl) ?_
              refine lv_iconst (v := 1) hx hb dX2_first_52 (by decide) ?_
              refine lv_isub hx hb dX2_first_53 ?_
              refine lv_icmp_ne (tgt := 60) hx hb dX2_first_54 (by decide) (fun c_12 => ?_) (fun c_12 => ?_)
              · skip
                refine lv_iinc (v := nI (i + 1)) (lv' := [(4, .int (nI (i + 1))), (0, .ref go), (1, .int (nI j)), (2, .int (nI k)), (3, .int (fwR fO lk (nI j) (nI k) 0))]) hx hb dX2_first_60 hl (k := 4) rfl (nI_add i 1) (by decide) rfl (fun ls hl => ?_)
                refine lv_goto (tgt := 24) hx hb dX2_first_63 (by decide) ?_
                exact ih24 (i + 1) (by omega) (by omega) (fi_next hq9 (by assumption) (by rw [hV9]; exact fun z9 => c_12 z9.2)) ls (lv_sub hl [1, 2, 3, 4, 0] rfl)
              · skip
                refine lv_iload hx hb dX2_first_57 (lv_at hl 4 rfl) ?_
                rw [hQ]
                exact W.iret (v := nI i) hx hb hr (fun tQ htQ hWQ => ⟨nI i, rfl, vx_h c_3 c_4 hV9 hA9 (fi_hit hq9 (by assumption) (by rw [hV9]; exact ⟨hd_8, c_12⟩)), by rw [htQ]⟩) (fun q hq => absurd hq List.not_mem_nil) dX2_first_59
            · skip
              refine lv_if_eq (tgt := 60) hx hb dX2_first_40 (by decide) (fun _ => ?_) (fun c_13 => absurd c_13 (by decide))
              refine lv_iinc (v := nI (i + 1)) (lv' := [(4, .int (nI (i + 1))), (0, .ref go), (1, .int (nI j)), (2, .int (nI k)), (3, .int (fwR fO lk (nI j) (nI k) 0))]) hx hb dX2_first_60 hl (k := 4) rfl (nI_add i 1) (by decide) rfl (fun ls hl => ?_)
              refine lv_goto (tgt := 24) hx hb dX2_first_63 (by decide) ?_
              exact ih24 (i + 1) (by omega) (by omega) (fi_next hq9 (by assumption) (by rw [hV9]; exact fun z9 => hd_8 z9.1)) ls (lv_sub hl [1, 2, 3, 4, 0] rfl)
      exact L24 _ (0) (Nat.lt_succ_self _) (by omega) (hA9) ls (lv_sub hl [2, 3, 4, 1, 0] rfl)
    · skip
      refine lv_bipush (v := (-5)) hx hb dX2_first_18 (by decide) ?_
      rw [hQ]
      exact W.iret (v := (-5)) hx hb hr (fun tQ htQ hWQ => ⟨(-5), rfl, vx_0 c_3 c_4, by rw [htQ]⟩) (fun q hq => absurd hq List.not_mem_nil) dX2_first_20

theorem kc_breaks_0 : ∀ w ∈ wsX20, w ∈ wsX2_breaks := fun w h => List.mem_cons_of_mem _ (gin_wsX20 w h)
theorem kc_breaks_1 : (.fieldLink RX2 52 "MistHeaps$Goings" "linked" "I" : Cond) ∈ wsX2_breaks := kc_of 263 rfl rfl rfl
set_option maxHeartbeats 4000000 in
set_option maxRecDepth 100000 in
theorem c_breaks (l : Launch) (dC : Nat → ClassId) (dI : Nat → Nat → Nat) (go : Nat) (gR : Nat) (gO : Nat) (gS : Nat) (lk : Nat) (j : Nat) (k : Nat) (cO : ClassId) (fO : Nat → Int32) (hlk : lk ≤ 8) (hj8 : j < 8) (hk8 : k < 8) : Met l yX2_breaks wsX2_breaks ({ frames := 2, cells := 0, slots := 0, locals := 49 } : Room) (va_Pc [.ref go, .int (nI j), .int (nI k)] (fun U => va_P (dC, dI) vwCl [(zo4rrir go gR gO (nI lk) gS), (zaI gO cO 8 fO)] U.heap ∧ va_K (dC, dI) vwCl [(cO, .int)] U)) (vp_Si (fun r => r = cxR fO lk j k)) 0 0 (fun _ => False) := by
  refine met_ofQ (cc := cX2_breaks) (maxL := 5) (ret := (some .int)) (by decide) rfl ?_
  intro p e s m args below meth c s₁ Q B hml hv hQ
  obtain ⟨rfl, hP, hK⟩ := hv
  have hx := B.exec
  have hb := B.bytes
  have hr := B.returns
  have hts := atoms_spec (ws := wsX2_breaks) B.pre
  have hown : s.vm.findClass RX2 = some m.cls := findClass_of_methodNamed B.named
  have hlocks := B.notSynchronized
  obtain ⟨A, hAe⟩ : ∃ A : Nat → Prop, A = fun _ => False := ⟨_, rfl⟩
  rw [← hAe] at hQ
  have hS : va_S A s.heap s.heap [] := va_S.rf
  have hl := lv_entry [.ref go, .int (nI j), .int (nI k)] (n := 5) (Nat.le_of_ble_eq_true rfl)
  rw [lg_entry_eq]
  generalize (lg_sl [.ref go, .int (nI j), .int (nI k)] ++ List.replicate (5 - (lg_sl [.ref go, .int (nI j), .int (nI k)]).length) Slot.unset).toArray = ls at hl ⊢
  generalize hag : ([.ref go, .int (nI j), .int (nI k)] : List Value).toArray = args at hts hQ ⊢
  have hl : lv_has ls 5 [(0, .ref go), (1, .int (nI j)), (2, .int (nI k))] := hl
  refine lv_aload_n hx hb dX2_breaks_0 rfl (lv_at hl 0 rfl) ?_
  refine lv_iload_n hx hb dX2_breaks_1 rfl (lv_at hl 1 rfl) ?_
  refine lv_iload_n hx hb dX2_breaks_2 rfl (lv_at hl 2 rfl) ?_
  refine lv_iconst (v := 0) hx hb dX2_breaks_3 (by decide) ?_
  have hPc := hP.sub (ws' := [(zo4rrir go gR gO (nI lk) gS), (zaI gO cO 8 fO)]) [0, 1] rfl
  have hKc := hK.sub (tys' := [(cO, .int)]) [0] rfl
  refine vp_callSi (va_runV (As := [.int (nI j), .int (nI k), .int 0]) (rest := []) ⟨hx, hb, hml, hown, hts⟩ (c_fewest l dC dI go gR gO gS lk (nI j) (nI k) 0 cO fO (by omega)) (cwV 3 hts gX2_breaks_X2_fewest rfl rfl rfl hd_yX2_fewest ⟨Nat.le_of_ble_eq_true rfl, Nat.le_of_ble_eq_true rfl⟩) ⟨fun a U g mk q => by obtain ⟨q0, qP, qK⟩ := q; exact ⟨q0, mvP g mk a qP, mvK g mk a qK⟩, va_recv hK hP (ci := 4) (q := (RX2, TX2, 4)) (q0 := 0) rfl rfl, fun U hU hW => ⟨rfl, by rw [hU]; exact hPc, va_K.moved hW.alike hKc⟩⟩ rfl rfl hl.1 rfl (lv_room (Nat.le_of_ble_eq_true rfl)) dX2_breaks_4 ⟨Nat.le_of_ble_eq_true rfl, Nat.le_of_ble_eq_true rfl⟩).run (fun r_1 hw_2 => ?_)
  obtain rfl := hw_2
  refine lv_bipush (v := (-5)) hx hb dX2_breaks_7 (by decide) ?_
  refine lv_icmp_ne (tgt := 14) hx hb dX2_breaks_9 (by decide) (fun c_3 => ?_) (fun c_3 => ?_)
  · skip
    obtain ⟨B9, hB9⟩ : ∃ B : Nat → Int32, B = gbI (cxP fO lk j k) := ⟨_, rfl⟩
    refine lv_iconst (v := 0) hx hb dX2_breaks_14 (by decide) ?_
    refine lv_istore_n (lv' := [(3, .int 0), (0, .ref go), (1, .int (nI j)), (2, .int (nI k))]) hx hb dX2_breaks_15 rfl hl (by decide) rfl (fun ls hl => ?_)
    refine lv_iconst (v := 0) hx hb dX2_breaks_16 (by decide) ?_
    refine lv_istore (lv' := [(4, .int 0), (3, .int 0), (0, .ref go), (1, .int (nI j)), (2, .int (nI k))]) hx hb dX2_breaks_17 hl (by decide) rfl (fun ls hl => ?_)
    have L19 : ∀ (nF : Nat) (i : Nat) (q : Int32), lk - i < nF → (i ≤ lk) → (q = B9 i) → ∀ (ls : Array Slot), lv_has ls 5 [(0, .ref go), (1, .int (nI j)), (2, .int (nI k)), (3, .int q), (4, .int (nI i))] → W p l e ({ frames := 2, cells := 0, slots := 0, locals := 49 } : Room) s m args below meth c s.heap [] 0 0 Q (F0 m 19 ls []) := by
      intro nF
      induction nF with
      | zero => intro i q hm; exact absurd hm (Nat.not_lt_zero _)
      | succ nF ih19 =>
        intro i q hm hi hq9 ls hl
        refine lv_iload hx hb dX2_breaks_19 (lv_at hl 4 rfl) ?_
        refine lv_aload_n hx hb dX2_breaks_21 rfl (lv_at hl 0 rfl) ?_
        refine va_get (D := (dC, dI)) (ci := 4) (v := .int (nI lk)) (C := RX2) (T := TX2) (N := 4) hx hb hts kc_breaks_0 hown hK hP 0 rfl rfl 2 (by decide) (hts (.fieldLink RX2 52 "MistHeaps$Goings" "linked" "I") kc_breaks_1) (fun _ h9 => h9) rfl dX2_breaks_22 ?_
        refine lv_icmp_ge (tgt := 68) hx hb dX2_breaks_25 (by decide) (fun c_4 => ?_) (fun c_4 => ?_)
        · skip
          have c_4 : lk ≤ i := (nI_leI (a := lk) (b := i) (by omega) (by omega)).mp c_4
          refine lv_iload_n hx hb dX2_breaks_68 rfl (lv_at hl 3 rfl) ?_
          rw [hQ]
          exact W.iret (v := q) hx hb hr (fun tQ htQ hWQ => ⟨q, rfl, cx_n c_3 hB9 hq9 (by omega), by rw [htQ]⟩) (fun q hq => absurd hq List.not_mem_nil) dX2_breaks_69
        · skip
          have c_4 : ¬ lk ≤ i := fun q => c_4 ((nI_leI (a := lk) (b := i) (by omega) (by omega)).mpr q)
          refine lv_iload hx hb dX2_breaks_28 (lv_at hl 4 rfl) ?_
          refine lv_iload_n hx hb dX2_breaks_30 rfl (lv_at hl 1 rfl) ?_
          refine lv_icmp_eq (tgt := 62) hx hb dX2_breaks_31 (by decide) (fun c_5 => ?_) (fun c_5 => ?_)
          · skip
            have c_5 : i = j := (nI_eq (a := i) (b := j) (by omega) (by omega)).mp c_5
            refine lv_iinc (v := nI (i + 1)) (lv' := [(4, .int (nI (i + 1))), (0, .ref go), (1, .int (nI j)), (2, .int (nI k)), (3, .int q)]) hx hb dX2_breaks_62 hl (k := 4) rfl (nI_add i 1) (by decide) rfl (fun ls hl => ?_)
            refine lv_goto (tgt := 19) hx hb dX2_breaks_65 (by decide) ?_
            exact ih19 (i + 1) (q) (by omega) (by omega) (cu_s hB9 hq9 (fun z9 => z9.1 (by omega))) ls (lv_sub hl [1, 2, 3, 4, 0] rfl)
          · skip
            have c_5 : ¬ i = j := fun q => c_5 ((nI_eq (a := i) (b := j) (by omega) (by omega)).mpr q)
            refine lv_iload hx hb dX2_breaks_34 (lv_at hl 4 rfl) ?_
            refine lv_iload_n hx hb dX2_breaks_36 rfl (lv_at hl 2 rfl) ?_
            refine lv_icmp_eq (tgt := 62) hx hb dX2_breaks_37 (by decide) (fun c_6 => ?_) (fun c_6 => ?_)
            · skip
              have c_6 : i = k := (nI_eq (a := i) (b := k) (by omega) (by omega)).mp c_6
              refine lv_iinc (v := nI (i + 1)) (lv' := [(4, .int (nI (i + 1))), (0, .ref go), (1, .int (nI j)), (2, .int (nI k)), (3, .int q)]) hx hb dX2_breaks_62 hl (k := 4) rfl (nI_add i 1) (by decide) rfl (fun ls hl => ?_)
              refine lv_goto (tgt := 19) hx hb dX2_breaks_65 (by decide) ?_
              exact ih19 (i + 1) (q) (by omega) (by omega) (cu_s hB9 hq9 (fun z9 => z9.2.1 (by omega))) ls (lv_sub hl [1, 2, 3, 4, 0] rfl)
            · skip
              have c_6 : ¬ i = k := fun q => c_6 ((nI_eq (a := i) (b := k) (by omega) (by omega)).mpr q)
              refine lv_aload_n hx hb dX2_breaks_40 rfl (lv_at hl 0 rfl) ?_
              refine lv_iload_n hx hb dX2_breaks_41 rfl (lv_at hl 1 rfl) ?_
              refine lv_iload_n hx hb dX2_breaks_42 rfl (lv_at hl 2 rfl) ?_
              refine lv_iconst (v := 1) hx hb dX2_breaks_43 (by decide) ?_
              refine lv_iload hx hb dX2_breaks_44 (lv_at hl 4 rfl) ?_
              refine lv_ishl hx hb dX2_breaks_46 ?_
              have hPc := hP.sub (ws' := [(zo4rrir go gR gO (nI lk) gS), (zaI gO cO 8 fO)]) [0, 1] rfl
              have hKc := hK.sub (tys' := [(cO, .int)]) [0] rfl
              refine vp_callSi (va_runV (As := [.int (nI j), .int (nI k), .int (1 <<< ((nI i) &&& 31))]) (rest := []) ⟨hx, hb, hml, hown, hts⟩ (c_fewest l dC dI go gR gO gS lk (nI j) (nI k) (1 <<< ((nI i) &&& 31)) cO fO (by omega)) (cwV 3 hts gX2_breaks_X2_fewest rfl rfl rfl hd_yX2_fewest ⟨Nat.le_of_ble_eq_true rfl, Nat.le_of_ble_eq_true rfl⟩) ⟨fun a U g mk q => by obtain ⟨q0, qP, qK⟩ := q; exact ⟨q0, mvP g mk a qP, mvK g mk a qK⟩, va_recv hK hP (ci := 4) (q := (RX2, TX2, 4)) (q0 := 0) rfl rfl, fun U hU hW => ⟨rfl, by rw [hU]; exact hPc, va_K.moved hW.alike hKc⟩⟩ rfl rfl hl.1 rfl (lv_room (Nat.le_of_ble_eq_true rfl)) dX2_breaks_47 ⟨Nat.le_of_ble_eq_true rfl, Nat.le_of_ble_eq_true rfl⟩).run (fun r_7 hw_8 => ?_)
              obtain rfl := hw_8
              refine lv_bipush (v := (-5)) hx hb dX2_breaks_50 (by decide) ?_
              refine lv_icmp_ne (tgt := 62) hx hb dX2_breaks_52 (by decide) (fun c_9 => ?_) (fun c_9 => ?_)
              · skip
                refine lv_iinc (v := nI (i + 1)) (lv' := [(4, .int (nI (i + 1))), (0, .ref go), (1, .int (nI j)), (2, .int (nI k)), (3, .int q)]) hx hb dX2_breaks_62 hl (k := 4) rfl (nI_add i 1) (by decide) rfl (fun ls hl => ?_)
                refine lv_goto (tgt := 19) hx hb dX2_breaks_65 (by decide) ?_
                exact ih19 (i + 1) (q) (by omega) (by omega) (cu_s hB9 hq9 (fun z9 => c_9 z9.2.2)) ls (lv_sub hl [1, 2, 3, 4, 0] rfl)
              · skip
                refine lv_iload_n hx hb dX2_breaks_55 rfl (lv_at hl 3 rfl) ?_
                refine lv_iconst (v := 1) hx hb dX2_breaks_56 (by decide) ?_
                refine lv_iload hx hb dX2_breaks_57 (lv_at hl 4 rfl) ?_
                refine lv_ishl hx hb dX2_breaks_59 ?_
                refine lv_ior hx hb dX2_breaks_60 ?_
                refine lv_istore_n (lv' := [(3, .int (q ||| (1 <<< ((nI i) &&& 31)))), (0, .ref go), (1, .int (nI j)), (2, .int (nI k)), (4, .int (nI i))]) hx hb dX2_breaks_61 rfl hl (by decide) rfl (fun ls hl => ?_)
                refine lv_iinc (v := nI (i + 1)) (lv' := [(4, .int (nI (i + 1))), (3, .int (q ||| (1 <<< ((nI i) &&& 31)))), (0, .ref go), (1, .int (nI j)), (2, .int (nI k))]) hx hb dX2_breaks_62 hl (k := 4) rfl (nI_add i 1) (by decide) rfl (fun ls hl => ?_)
                refine lv_goto (tgt := 19) hx hb dX2_breaks_65 (by decide) ?_
                exact ih19 (i + 1) (q ||| (1 <<< ((nI i) &&& 31))) (by omega) (by omega) (cu_t hB9 hq9 ⟨by omega, by omega, c_9⟩) ls (lv_sub hl [2, 3, 4, 1, 0] rfl)
    exact L19 _ (0) (0) (Nat.lt_succ_self _) (by omega) (by rw [hB9]; rfl) ls (lv_sub hl [2, 3, 4, 1, 0] rfl)
  · skip
    refine lv_iconst (v := 0) hx hb dX2_breaks_12 (by decide) ?_
    rw [hQ]
    exact W.iret (v := 0) hx hb hr (fun tQ htQ hWQ => ⟨0, rfl, cx_0 c_3, by rw [htQ]⟩) (fun q hq => absurd hq List.not_mem_nil) dX2_breaks_13

section
variable {f : Nat → Int32} {i n : Nat} {q1 q2 : Int32} {P : Nat → Nat → Prop} {G : Prop}
theorem jo_A (hA : rwB f n P) (h1 : tgB G (f i) n q1) (hi : i < n) (hn : n < 8) : rwB (upd (upd f i q1) n q2) n P := fun a ha b hb e => by
  rw [pk_un (show ¬ a = n by omega)]
  by_cases q : a = i
  · subst q
    rw [pk_us, tg_off h1 (by omega) (by omega)]; exact hA a ha b hb e
  · rw [pk_un q]; exact hA a ha b hb e
theorem jo_B {K : Nat → Prop} (hB : ∀ a, a < i → (bt (f a) n = true ↔ K a)) (h1 : tgB (K i) (f i) n q1) (hi : i < n) (hn : n < 8) : ∀ a, a < i + 1 → (bt (upd (upd f i q1) n q2 a) n = true ↔ K a) := fun a ha => by
  rw [pk_un (show ¬ a = n by omega)]
  by_cases q : a = i
  · subst q
    rw [pk_us]; exact tg_at h1 (by omega)
  · rw [pk_un q]; exact hB a (by omega)
theorem jo_C {K : Nat → Prop} (hC : ∀ b, b < i → (bt (f n) b = true ↔ K b)) (h2 : tgB (K i) (upd f i q1 n) i q2) (hi : i < n) (hn : n < 8) : ∀ b, b < i + 1 → (bt (upd (upd f i q1) n q2 n) b = true ↔ K b) := by
  rw [pk_un (show ¬ n = i by omega)] at h2
  rw [pk_us]
  exact tg_up hC h2 (by omega)
end

theorem kc_join_0 : ∀ w ∈ wsX80, w ∈ wsX2_join := fun w h => List.mem_cons_of_mem _ (gin_wsX80 w h)
theorem kc_join_1 : (.fieldLink RX2 27 "MistHeaps$Scene" "heapCount" "I" : Cond) ∈ wsX2_join := kc_of 171 rfl rfl rfl
theorem kc_join_2 : ∀ w ∈ wsX20, w ∈ wsX2_join := fun w h => List.mem_cons_of_mem _ (gin_wsX20 w h)
theorem kc_join_3 : (.fieldLink RX2 23 "MistHeaps$Goings" "spare" "LMistHeaps$Heap;" : Cond) ∈ wsX2_join := kc_of 264 rfl rfl rfl
theorem kc_join_4 : ∀ w ∈ wsX30, w ∈ wsX2_join := fun w h => List.mem_cons_of_mem _ (gin_wsX30 w h)
theorem kc_join_5 : (.fieldLink RX2 59 "MistHeaps$Heap" "number" "I" : Cond) ∈ wsX2_join := kc_of 234 rfl rfl rfl
theorem kc_join_6 : (.fieldLink RX2 41 "MistHeaps$Heap" "cell" "I" : Cond) ∈ wsX2_join := kc_of 249 rfl rfl rfl
theorem kc_join_7 : (.fieldLink RX2 9 "MistHeaps$Goings" "reach" "[I" : Cond) ∈ wsX2_join := kc_of 261 rfl rfl rfl
theorem kc_join_8 : (.fieldLink RX2 78 "MistHeaps$Scene" "snow" "I" : Cond) ∈ wsX2_join := kc_of 167 rfl rfl rfl
theorem kc_join_9 : (.fieldLink RX2 52 "MistHeaps$Goings" "linked" "I" : Cond) ∈ wsX2_join := kc_of 263 rfl rfl rfl
theorem kc_join_10 : (.fieldLink RX2 33 "MistHeaps$Scene" "heaps" "[LMistHeaps$Heap;" : Cond) ∈ wsX2_join := kc_of 169 rfl rfl rfl
set_option maxHeartbeats 4000000 in
set_option maxRecDepth 100000 in
theorem c_join (l : Launch) (dC : Nat → ClassId) (dI : Nat → Nat → Nat) (gd : Nat → Nat)  (kA : Nat)   (sc : Nat) (go : Nat) (aTp : Nat) (aHl : Nat) (aHs : Nat) (aWk : Nat) (aBk : Nat) (aFc : Nat) (bW : Nat) (bA : Nat) (bE : Nat) (bC : Nat) (gR : Nat) (gO : Nat) (gS : Nat) (ts : Nat) (nh : Nat) (n : Nat) (wz : Nat) (bz : Nat) (lk : Nat) (cl : Nat) (k : Nat) (i0 : Nat) (mi : Int32) (sn : Int32) (sg : Int32) (cdd : Int32) (szz : Int32) (att : Int32) (nmb : Int32) (scl : Int32) (ed : Int64) (cHs : ClassId) (cFc : ClassId) (cbW : ClassId) (cbA : ClassId) (cbE : ClassId) (cbC : ClassId) (cR : ClassId) (cO : ClassId) (fFc : Nat → Int32) (fbW : Nat → Int32) (fbA : Nat → Int32) (fbE : Nat → Int32) (fbC : Nat → Int32) (fR : Nat → Int32) (fO : Nat → Int32) (yk : Nat → Int32) (yv : Nat → Int32) (yc : Nat → Int32) (fHs : Nat → Option Nat) (yi : Nat → Nat) (ya : Nat → Nat) (tpv : Value) (cz : List pCla) (sz : Nat) (zhs : ∀ k0, k0 < n → fHs k0 = some (ya k0)) (hn8 : n ≤ 8) (zcl : cl ≤ 10) (zE : ∀ k0, k0 < 10 → ∃ e0 : Nat, e0 ≤ 100 ∧ fbE k0 = nI e0) (zC : ∀ k0, k0 < 100 → okC (fbC k0)) (zyv : ∀ k0, k0 < n → ∃ v0 : Nat, v0 ≤ 9 ∧ yv k0 = nI v0) (zyc : ∀ k0, k0 < n → ∃ v0 : Nat, v0 < 36 ∧ yc k0 = nI v0) (hn7 : n < 8) (hk36 : k < 36) (hRJ : (∀ k0, k0 < n → fR k0 = RV cz mi sn k0 (yk k0) (yv k0) (yc k0)) ∧ rwB fO n (goP cz mi sn yk yv yc)) (zHC : HC cl sg fbW fbA fbE fbC cz ∧ WfC cz) (zyt : ∀ k0, k0 < n → hpT (yi k0) (yk k0)) : Met l yX2_join wsX2_join ({ frames := 4, cells := 0, slots := 0, locals := 96 } : Room) (va_Pc [.ref go, .ref sc, .int (nI k)] (fun U => U.heap.size = sz ∧ va_P (dC, dI) vwCl [(zo4rrir go gR gO (nI lk) gS), (zaI gR cR 8 fR), (zaI gO cO 8 fO), (zo5iiii gS 0 (nI i0) 0 scl), (zo10ririliiriririr sc aTp (nI ts) aHl (nI nh) ed mi sn aHs (nI n) aWk (nI wz) aBk (nI bz) aFc), (zaR aHs cHs 8 fHs), (zaI aFc cFc 6 fFc)] U.heap ∧ va_K (dC, dI) vwCl [(cR, .int), (cO, .int), (cHs, .object "MistHeaps$Heap"), (cFc, .int)] U ∧ va_D (fun _ => True) [(zo4rrir go gR gO (nI lk) gS), (zaI gR cR 8 fR), (zaI gO cO 8 fO), (zo5iiii gS 0 (nI i0) 0 scl), (zo10ririliiriririr sc aTp (nI ts) aHl (nI nh) ed mi sn aHs (nI n) aWk (nI wz) aBk (nI bz) aFc), (zaR aHs cHs 8 fHs), (zaI aFc cFc 6 fFc)] ∧ Gl gd (va_A [(zo4rrir go gR gO (nI lk) gS), (zaI gR cR 8 fR), (zaI gO cO 8 fO), (zo5iiii gS 0 (nI i0) 0 scl), (zo10ririliiriririr sc aTp (nI ts) aHl (nI nh) ed mi sn aHs (nI n) aWk (nI wz) aBk (nI bz) aFc), (zaR aHs cHs 8 fHs), (zaI aFc cFc 6 fFc)] sz) U ∧ Gw (va_A [(zo4rrir go gR gO (nI lk) gS), (zaI gR cR 8 fR), (zaI gO cO 8 fO), (zo5iiii gS 0 (nI i0) 0 scl), (zo10ririliiriririr sc aTp (nI ts) aHl (nI nh) ed mi sn aHs (nI n) aWk (nI wz) aBk (nI bz) aFc), (zaR aHs cHs 8 fHs), (zaI aFc cFc 6 fFc)] sz) U ∧ Gn kA (va_A [(zo4rrir go gR gO (nI lk) gS), (zaI gR cR 8 fR), (zaI gO cO 8 fO), (zo5iiii gS 0 (nI i0) 0 scl), (zo10ririliiriririr sc aTp (nI ts) aHl (nI nh) ed mi sn aHs (nI n) aWk (nI wz) aBk (nI bz) aFc), (zaR aHs cHs 8 fHs), (zaI aFc cFc 6 fFc)] sz) U ∧ Fz dC dI [(zo7iirrrriviii aHl sg (nI cl) bW bA bE bC cdd tpv szz att nmb), (zaI bW cbW 10 fbW), (zaI bA cbA 10 fbA), (zaI bE cbE 10 fbE), (zaI bC cbC 100 fbC)] [(cbW, .int), (cbA, .int), (cbE, .int), (cbC, .int)] (va_A [(zo4rrir go gR gO (nI lk) gS), (zaI gR cR 8 fR), (zaI gO cO 8 fO), (zo5iiii gS 0 (nI i0) 0 scl), (zo10ririliiriririr sc aTp (nI ts) aHl (nI nh) ed mi sn aHs (nI n) aWk (nI wz) aBk (nI bz) aFc), (zaR aHs cHs 8 fHs), (zaI aFc cFc 6 fFc)] sz) U ∧ Hs dC dI n yi ya yk yv yc (va_A [(zo4rrir go gR gO (nI lk) gS), (zaI gR cR 8 fR), (zaI gO cO 8 fO), (zo5iiii gS 0 (nI i0) 0 scl), (zo10ririliiriririr sc aTp (nI ts) aHl (nI nh) ed mi sn aHs (nI n) aWk (nI wz) aBk (nI bz) aFc), (zaR aHs cHs 8 fHs), (zaI aFc cFc 6 fFc)] sz) U)) (va_Qv (fun (u : (Nat) × (Nat → Int32) × (Nat → Int32) × (Nat → Int32) × (Nat) × (Int32)) => match u with | (lk9, fR9, fO9, fFc9, i09, scl9) => lk9 = n + 1 ∧ ((∀ k0, k0 < n → fR9 k0 = RV cz mi sn k0 (yk k0) (yv k0) (yc k0)) ∧ rwB fO9 n (goP cz mi sn yk yv yc)) ∧ rwB fO9 (n + 1) (goP cz mi sn (up0 yk n 0) (up0 yv n 0) (up0 yc n (nI k)))) (fun (u : (Nat) × (Nat → Int32) × (Nat → Int32) × (Nat → Int32) × (Nat) × (Int32)) (t : State) => match u with | (lk9, fR9, fO9, fFc9, i09, scl9) => va_P (dC, dI) vwCl [(zo4rrir go gR gO (nI lk9) gS), (zaI gR cR 8 fR9), (zaI gO cO 8 fO9), (zo5iiii gS 0 (nI i09) 0 scl9), (zo10ririliiriririr sc aTp (nI ts) aHl (nI nh) ed mi sn aHs (nI n) aWk (nI wz) aBk (nI bz) aFc), (zaR aHs cHs 8 fHs), (zaI aFc cFc 6 fFc9)] t.heap ∧ va_K (dC, dI) vwCl [(cR, .int), (cO, .int), (cHs, .object "MistHeaps$Heap"), (cFc, .int)] t ∧ va_D (va_A [(zo4rrir go gR gO (nI lk) gS), (zaI gR cR 8 fR), (zaI gO cO 8 fO), (zo5iiii gS 0 (nI i0) 0 scl), (zo10ririliiriririr sc aTp (nI ts) aHl (nI nh) ed mi sn aHs (nI n) aWk (nI wz) aBk (nI bz) aFc), (zaR aHs cHs 8 fHs), (zaI aFc cFc 6 fFc)] sz) [(zo4rrir go gR gO (nI lk9) gS), (zaI gR cR 8 fR9), (zaI gO cO 8 fO9), (zo5iiii gS 0 (nI i09) 0 scl9), (zo10ririliiriririr sc aTp (nI ts) aHl (nI nh) ed mi sn aHs (nI n) aWk (nI wz) aBk (nI bz) aFc), (zaR aHs cHs 8 fHs), (zaI aFc cFc 6 fFc9)]) (va_A [(zo4rrir go gR gO (nI lk) gS), (zaI gR cR 8 fR), (zaI gO cO 8 fO), (zo5iiii gS 0 (nI i0) 0 scl), (zo10ririliiriririr sc aTp (nI ts) aHl (nI nh) ed mi sn aHs (nI n) aWk (nI wz) aBk (nI bz) aFc), (zaR aHs cHs 8 fHs), (zaI aFc cFc 6 fFc)] sz)) 0 0 (va_A [(zo4rrir go gR gO (nI lk) gS), (zaI gR cR 8 fR), (zaI gO cO 8 fO), (zo5iiii gS 0 (nI i0) 0 scl), (zo10ririliiriririr sc aTp (nI ts) aHl (nI nh) ed mi sn aHs (nI n) aWk (nI wz) aBk (nI bz) aFc), (zaR aHs cHs 8 fHs), (zaI aFc cFc 6 fFc)] sz) := by
  refine met_ofQ (cc := cX2_join) (maxL := 5) (ret := none) (by decide) rfl ?_
  intro p e s m args below meth c s₁ Q B hml hv hQ
  obtain ⟨rfl, hsz, hP, hK, hD0, hG, hW_, hN_, hZ, hH_⟩ := hv
  have hx := B.exec
  have hb := B.bytes
  have hr := B.returns
  have hts := atoms_spec (ws := wsX2_join) B.pre
  have hown : s.vm.findClass RX2 = some m.cls := findClass_of_methodNamed B.named
  have hlocks := B.notSynchronized
  subst hsz
  have hD := hD0.self (sz := s.heap.size)
  generalize hAe : va_A [(zo4rrir go gR gO (nI lk) gS), (zaI gR cR 8 fR), (zaI gO cO 8 fO), (zo5iiii gS 0 (nI i0) 0 scl), (zo10ririliiriririr sc aTp (nI ts) aHl (nI nh) ed mi sn aHs (nI n) aWk (nI wz) aBk (nI bz) aFc), (zaR aHs cHs 8 fHs), (zaI aFc cFc 6 fFc)] s.heap.size = A at hD hQ hG hW_ hN_ hZ hH_ ⊢
  have hA : ∀ q : Nat, s.heap.size ≤ q → A q := fun q h => by rw [← hAe]; exact Or.inr h
  have hS : va_S A s.heap s.heap [] := va_S.rf
  have hl := lv_entry [.ref go, .ref sc, .int (nI k)] (n := 5) (Nat.le_of_ble_eq_true rfl)
  rw [lg_entry_eq]
  generalize (lg_sl [.ref go, .ref sc, .int (nI k)] ++ List.replicate (5 - (lg_sl [.ref go, .ref sc, .int (nI k)]).length) Slot.unset).toArray = ls at hl ⊢
  generalize hag : ([.ref go, .ref sc, .int (nI k)] : List Value).toArray = args at hts hQ ⊢
  have hl : lv_has ls 5 [(0, .ref go), (1, .ref sc), (2, .int (nI k))] := hl
  obtain ⟨H, hH⟩ : ∃ H : Heap, H = s.heap := ⟨_, rfl⟩
  rw [← hH] at hP
  rw [← hH]
  have hS : va_S A s.heap H [] := by rw [hH]; exact hS
  obtain ⟨locs, hlo⟩ : ∃ L : List Loc, L = [] := ⟨_, rfl⟩
  rw [← hlo] at hS
  rw [← hlo]
  clear hH hlo
  refine lv_aload_n hx hb dX2_join_0 rfl (lv_at hl 1 rfl) ?_
  refine va_get (D := (dC, dI)) (ci := 10) (v := .int (nI n)) (C := RX8) (T := TX8) (N := 14) hx hb hts kc_join_0 hown hK hP 4 rfl rfl 8 (by decide) (hts (.fieldLink RX2 27 "MistHeaps$Scene" "heapCount" "I") kc_join_1) (fun _ h9 => h9) rfl dX2_join_1 ?_
  refine lv_istore_n (lv' := [(3, .int (nI n)), (0, .ref go), (1, .ref sc), (2, .int (nI k))]) hx hb dX2_join_4 rfl hl (by decide) rfl (fun ls hl => ?_)
  refine lv_iload_n hx hb dX2_join_5 rfl (lv_at hl 0 rfl) ?_
  refine lv_bipush (v := 8) hx hb dX2_join_6 (by decide) ?_
  refine lv_icmp_lt (tgt := 12) hx hb dX2_join_8 (by decide) (fun c_1 => ?_) (fun c_1 => ?_)
  · skip
    have c_1 : n < 8 := (nI_ltI (a := n) (b := 8) (by omega) (by omega)).mp c_1
    refine lv_aload_n hx hb dX2_join_12 rfl (lv_at hl 1 rfl) ?_
    refine va_get (D := (dC, dI)) (ci := 4) (v := .ref gS) (C := RX2) (T := TX2) (N := 4) hx hb hts kc_join_2 hown hK hP 0 rfl rfl 3 (by decide) (hts (.fieldLink RX2 23 "MistHeaps$Goings" "spare" "LMistHeaps$Heap;") kc_join_3) (fun _ h9 => h9) rfl dX2_join_13 ?_
    refine lv_iload_n hx hb dX2_join_16 rfl (lv_at hl 0 rfl) ?_
    refine va_put (D := (dC, dI)) (ci := 5) (v := .int (nI n)) (ty := .int) (C := RX3) (T := TX3) (N := 4) hx hb hts kc_join_4 tyX3 tyX3_ok nmX3 hown hK hP hD hS 3 rfl rfl 1 (by decide) (hts (.fieldLink RX2 59 "MistHeaps$Heap" "number" "I") kc_join_5) (fun _ h9 => h9) rfl (by decide +kernel) rfl rfl (Nat.le_of_ble_eq_true rfl) dX2_join_17 (fun H locs hP hD hS => ?_)
    have hP : va_P (dC, dI) vwCl [(zo4rrir go gR gO (nI lk) gS), (zaI gR cR 8 fR), (zaI gO cO 8 fO), (zo5iiii gS 0 (nI n) 0 scl), (zo10ririliiriririr sc aTp (nI ts) aHl (nI nh) ed mi sn aHs (nI n) aWk (nI wz) aBk (nI bz) aFc), (zaR aHs cHs 8 fHs), (zaI aFc cFc 6 fFc)] H := hP
    have hD : va_D A [(zo4rrir go gR gO (nI lk) gS), (zaI gR cR 8 fR), (zaI gO cO 8 fO), (zo5iiii gS 0 (nI n) 0 scl), (zo10ririliiriririr sc aTp (nI ts) aHl (nI nh) ed mi sn aHs (nI n) aWk (nI wz) aBk (nI bz) aFc), (zaR aHs cHs 8 fHs), (zaI aFc cFc 6 fFc)] := hD
    refine lv_aload_n hx hb dX2_join_20 rfl (lv_at hl 1 rfl) ?_
    refine va_get (D := (dC, dI)) (ci := 4) (v := .ref gS) (C := RX2) (T := TX2) (N := 4) hx hb hts kc_join_2 hown hK hP 0 rfl rfl 3 (by decide) (hts (.fieldLink RX2 23 "MistHeaps$Goings" "spare" "LMistHeaps$Heap;") kc_join_3) (fun _ h9 => h9) rfl dX2_join_21 ?_
    refine lv_iload_n hx hb dX2_join_24 rfl (lv_at hl 3 rfl) ?_
    refine va_put (D := (dC, dI)) (ci := 5) (v := .int (nI k)) (ty := .int) (C := RX3) (T := TX3) (N := 4) hx hb hts kc_join_4 tyX3 tyX3_ok nmX3 hown hK hP hD hS 3 rfl rfl 3 (by decide) (hts (.fieldLink RX2 41 "MistHeaps$Heap" "cell" "I") kc_join_6) (fun _ h9 => h9) rfl (by decide +kernel) rfl rfl (Nat.le_of_ble_eq_true rfl) dX2_join_25 (fun H locs hP hD hS => ?_)
    have hP : va_P (dC, dI) vwCl [(zo4rrir go gR gO (nI lk) gS), (zaI gR cR 8 fR), (zaI gO cO 8 fO), (zo5iiii gS 0 (nI n) 0 (nI k)), (zo10ririliiriririr sc aTp (nI ts) aHl (nI nh) ed mi sn aHs (nI n) aWk (nI wz) aBk (nI bz) aFc), (zaR aHs cHs 8 fHs), (zaI aFc cFc 6 fFc)] H := hP
    have hD : va_D A [(zo4rrir go gR gO (nI lk) gS), (zaI gR cR 8 fR), (zaI gO cO 8 fO), (zo5iiii gS 0 (nI n) 0 (nI k)), (zo10ririliiriririr sc aTp (nI ts) aHl (nI nh) ed mi sn aHs (nI n) aWk (nI wz) aBk (nI bz) aFc), (zaR aHs cHs 8 fHs), (zaI aFc cFc 6 fFc)] := hD
    refine lv_aload_n hx hb dX2_join_28 rfl (lv_at hl 1 rfl) ?_
    refine va_get (D := (dC, dI)) (ci := 4) (v := .ref gR) (C := RX2) (T := TX2) (N := 4) hx hb hts kc_join_2 hown hK hP 0 rfl rfl 0 (by decide) (hts (.fieldLink RX2 9 "MistHeaps$Goings" "reach" "[I") kc_join_7) (fun _ h9 => h9) rfl dX2_join_29 ?_
    refine lv_iload_n hx hb dX2_join_32 rfl (lv_at hl 0 rfl) ?_
    refine lv_aload_n hx hb dX2_join_33 rfl (lv_at hl 2 rfl) ?_
    refine lv_aload_n hx hb dX2_join_34 rfl (lv_at hl 1 rfl) ?_
    refine va_get (D := (dC, dI)) (ci := 4) (v := .ref gS) (C := RX2) (T := TX2) (N := 4) hx hb hts kc_join_2 hown hK hP 0 rfl rfl 3 (by decide) (hts (.fieldLink RX2 23 "MistHeaps$Goings" "spare" "LMistHeaps$Heap;") kc_join_3) (fun _ h9 => h9) rfl dX2_join_35 ?_
    refine lv_aload_n hx hb dX2_join_38 rfl (lv_at hl 2 rfl) ?_
    refine va_get (D := (dC, dI)) (ci := 10) (v := .int sn) (C := RX8) (T := TX8) (N := 14) hx hb hts kc_join_0 hown hK hP 4 rfl rfl 6 (by decide) (hts (.fieldLink RX2 78 "MistHeaps$Scene" "snow" "I") kc_join_8) (fun _ h9 => h9) rfl dX2_join_39 ?_
    have hPc := hP.sub (ws' := [(zo10ririliiriririr sc aTp (nI ts) aHl (nI nh) ed mi sn aHs (nI n) aWk (nI wz) aBk (nI bz) aFc), (zaI aFc cFc 6 fFc), (zo5iiii gS 0 (nI n) 0 (nI k))]) [4, 6, 3] rfl
    have hDc := hD.sub (ws' := [(zo10ririliiriririr sc aTp (nI ts) aHl (nI nh) ed mi sn aHs (nI n) aWk (nI wz) aBk (nI bz) aFc), (zaI aFc cFc 6 fFc), (zo5iiii gS 0 (nI n) 0 (nI k))]) [4, 6, 3] (by decide) rfl
    have hKc := hK.sub (tys' := [(cFc, .int)]) [3] rfl
    have hFc := va_free (wc := [(zo10ririliiriririr sc aTp (nI ts) aHl (nI nh) ed mi sn aHs (nI n) aWk (nI wz) aBk (nI bz) aFc), (zaI aFc cFc 6 fFc), (zo5iiii gS 0 (nI n) 0 (nI k))]) hD hS hA [4, 6, 3] rfl
    refine va_calli (va_runV (As := [.ref gS, .int sn]) (rest := [.int (nI n), .ref gR]) ⟨hx, hb, hml, hown, hts⟩ (c_xReachS l dC dI gd  sc aTp aHl aHs aWk aBk aFc bW bA bE bC gS ts nh n wz bz cl n mi sn sg cdd szz att nmb (nI k) sn ed cFc cbW cbA cbE cbC fFc fbW fbA fbE fbC tpv cz H.size (zcl) (zE) (zC) (zHC)) (cwV 2 hts gX2_join_X8_reachOf rfl rfl rfl hd_yX8_reachOf ⟨Nat.le_of_ble_eq_true rfl, Nat.le_of_ble_eq_true rfl⟩) ⟨fun a U g mk q => by obtain ⟨q0, q1, qP, qK, qD, qhG, qhZ⟩ := q; exact ⟨q0, mvz g mk a q1, mvP g mk a qP, mvK g mk a qK, qD, qhG.mv g mk a, qhZ.mv g mk a⟩, va_recv hK hP (ci := 10) (q := (RX8, TX8, 14)) (q0 := 4) rfl rfl, fun U hU hW => ⟨rfl, by rw [hU], by rw [hU]; exact hPc, va_K.moved hW.alike hKc, hDc.weaken (fun _ _ _ _ => trivial), hG.call hS hU hW (fun q h => hFc q h), (hZ.sub [0, 1, 2, 3, 4] [0, 1, 2, 3] rfl rfl).call hS hU hW (fun q h => hFc q h)⟩⟩ rfl rfl hl.1 rfl (lv_room (Nat.le_of_ble_eq_true rfl)) dX2_join_42 ⟨Nat.le_of_ble_eq_true rfl, Nat.le_of_ble_eq_true rfl⟩) hS (fun q _ h => hFc q h) hFc (fun r_2 u tC H1 locs htC hvm hw_3 hB hz1 hk1 hS => ?_)
    obtain ⟨fFc9_4, rfl⟩ : ∃ z, z = u := ⟨_, rfl⟩
    try dsimp only at hw_3 hB
    obtain ⟨hP1, hK1, hD1⟩ := hB
    rw [htC] at hP1
    have hK1 := va_K.moved hvm.symm hK1
    obtain ⟨hP, hD⟩ := va_join (wr := [(zo4rrir go gR gO (nI lk) gS), (zaI gR cR 8 fR), (zaI gO cO 8 fO), (zaR aHs cHs 8 fHs)]) (w1 := [(zo10ririliiriririr sc aTp (nI ts) aHl (nI nh) ed mi sn aHs (nI n) aWk (nI wz) aBk (nI bz) aFc), (zaI aFc cFc 6 fFc9_4), (zo5iiii gS 0 (nI n) 0 (nI k))]) hP hD [4, 6, 3] [0, 1, 2, 5] rfl rfl (by decide) (by decide) hk1 hFc hP1 hD1
    have hK := (hK.sub (tys' := [(cR, .int), (cO, .int), (cHs, .object "MistHeaps$Heap")]) [0, 1, 2] rfl).app hK1
    generalize H1 = H at hP hS ⊢
    have hP : va_P (dC, dI) vwCl [(zo4rrir go gR gO (nI lk) gS), (zaI gR cR 8 fR), (zaI gO cO 8 fO), (zaR aHs cHs 8 fHs), (zo10ririliiriririr sc aTp (nI ts) aHl (nI nh) ed mi sn aHs (nI n) aWk (nI wz) aBk (nI bz) aFc), (zaI aFc cFc 6 fFc9_4), (zo5iiii gS 0 (nI n) 0 (nI k))] H := hP
    have hD : va_D A [(zo4rrir go gR gO (nI lk) gS), (zaI gR cR 8 fR), (zaI gO cO 8 fO), (zaR aHs cHs 8 fHs), (zo10ririliiriririr sc aTp (nI ts) aHl (nI nh) ed mi sn aHs (nI n) aWk (nI wz) aBk (nI bz) aFc), (zaI aFc cFc 6 fFc9_4), (zo5iiii gS 0 (nI n) 0 (nI k))] := hD
    have hK : va_K (dC, dI) vwCl [(cR, .int), (cO, .int), (cHs, .object "MistHeaps$Heap"), (cFc, .int)] s := hK
    obtain rfl := hw_3
    refine va_iast hx hb hK hP hD hS 1 0 rfl rfl (vp_in_nI (n := n) (N := 8) (by omega) (by omega)) dX2_join_45 (fun H locs hP hD hS => ?_)
    rw [nI_clamp (n := n) (by omega)] at hP hD
    have hP : va_P (dC, dI) vwCl [(zo4rrir go gR gO (nI lk) gS), (zaI gR cR 8 (upd fR n (RV cz mi sn n 0 0 (nI k)))), (zaI gO cO 8 fO), (zaR aHs cHs 8 fHs), (zo10ririliiriririr sc aTp (nI ts) aHl (nI nh) ed mi sn aHs (nI n) aWk (nI wz) aBk (nI bz) aFc), (zaI aFc cFc 6 fFc9_4), (zo5iiii gS 0 (nI n) 0 (nI k))] H := hP
    have hD : va_D A [(zo4rrir go gR gO (nI lk) gS), (zaI gR cR 8 (upd fR n (RV cz mi sn n 0 0 (nI k)))), (zaI gO cO 8 fO), (zaR aHs cHs 8 fHs), (zo10ririliiriririr sc aTp (nI ts) aHl (nI nh) ed mi sn aHs (nI n) aWk (nI wz) aBk (nI bz) aFc), (zaI aFc cFc 6 fFc9_4), (zo5iiii gS 0 (nI n) 0 (nI k))] := hD
    refine lv_aload_n hx hb dX2_join_46 rfl (lv_at hl 1 rfl) ?_
    refine lv_iload_n hx hb dX2_join_47 rfl (lv_at hl 0 rfl) ?_
    refine lv_iconst (v := 1) hx hb dX2_join_48 (by decide) ?_
    refine lv_iadd hx hb dX2_join_49 ?_
    refine qi_as (y := nI (n + 1)) (nI_add n 1) ?_
    refine va_put (D := (dC, dI)) (ci := 4) (v := .int (nI (n + 1))) (ty := .int) (C := RX2) (T := TX2) (N := 4) hx hb hts kc_join_2 tyX2 tyX2_ok nmX2 hown hK hP hD hS 0 rfl rfl 2 (by decide) (hts (.fieldLink RX2 52 "MistHeaps$Goings" "linked" "I") kc_join_9) (fun _ h9 => h9) rfl (by decide +kernel) rfl rfl (Nat.le_of_ble_eq_true rfl) dX2_join_50 (fun H locs hP hD hS => ?_)
    have hP : va_P (dC, dI) vwCl [(zo4rrir go gR gO (nI (n + 1)) gS), (zaI gR cR 8 (upd fR n (RV cz mi sn n 0 0 (nI k)))), (zaI gO cO 8 fO), (zaR aHs cHs 8 fHs), (zo10ririliiriririr sc aTp (nI ts) aHl (nI nh) ed mi sn aHs (nI n) aWk (nI wz) aBk (nI bz) aFc), (zaI aFc cFc 6 fFc9_4), (zo5iiii gS 0 (nI n) 0 (nI k))] H := hP
    have hD : va_D A [(zo4rrir go gR gO (nI (n + 1)) gS), (zaI gR cR 8 (upd fR n (RV cz mi sn n 0 0 (nI k)))), (zaI gO cO 8 fO), (zaR aHs cHs 8 fHs), (zo10ririliiriririr sc aTp (nI ts) aHl (nI nh) ed mi sn aHs (nI n) aWk (nI wz) aBk (nI bz) aFc), (zaI aFc cFc 6 fFc9_4), (zo5iiii gS 0 (nI n) 0 (nI k))] := hD
    refine lv_iconst (v := 0) hx hb dX2_join_53 (by decide) ?_
    refine lv_istore (lv' := [(4, .int 0), (3, .int (nI n)), (0, .ref go), (1, .ref sc), (2, .int (nI k))]) hx hb dX2_join_54 hl (by decide) rfl (fun ls hl => ?_)
    have hRn : (upd fR n (RV cz mi sn n 0 0 (nI k))) n = RV cz mi sn n 0 0 (nI k) := pk_us
    have hRk : ∀ k0, k0 < n → (upd fR n (RV cz mi sn n 0 0 (nI k))) k0 = RV cz mi sn k0 (yk k0) (yv k0) (yc k0) := fun k0 h0 => (pk_un (show ¬ k0 = n by omega)).trans (hRJ.1 k0 h0)
    have L56 : ∀ (nF : Nat) (i : Nat) (fO2 : Nat → Int32), n - i < nF → (i ≤ n) → (rwB fO2 n (goP cz mi sn yk yv yc)) → (∀ a, a < i → (bt (fO2 a) n = true ↔ ¬ a = n ∧ goV (yk a) (yv a) (yc a) (nI k) ((upd fR n (RV cz mi sn n 0 0 (nI k))) n))) → (∀ b, b < i → (bt (fO2 n) b = true ↔ ¬ n = b ∧ goV 0 0 (nI k) (yc b) ((upd fR n (RV cz mi sn n 0 0 (nI k))) b))) → ∀ (H : Heap) (locs : List Loc), va_K (dC, dI) vwCl [(cR, .int), (cO, .int), (cHs, .object "MistHeaps$Heap"), (cFc, .int)] s → va_P (dC, dI) vwCl [(zo4rrir go gR gO (nI (n + 1)) gS), (zaI gR cR 8 (upd fR n (RV cz mi sn n 0 0 (nI k)))), (zaI gO cO 8 fO2), (zo5iiii gS 0 (nI n) 0 (nI k)), (zo10ririliiriririr sc aTp (nI ts) aHl (nI nh) ed mi sn aHs (nI n) aWk (nI wz) aBk (nI bz) aFc), (zaR aHs cHs 8 fHs), (zaI aFc cFc 6 fFc9_4)] H → va_D A [(zo4rrir go gR gO (nI (n + 1)) gS), (zaI gR cR 8 (upd fR n (RV cz mi sn n 0 0 (nI k)))), (zaI gO cO 8 fO2), (zo5iiii gS 0 (nI n) 0 (nI k)), (zo10ririliiriririr sc aTp (nI ts) aHl (nI nh) ed mi sn aHs (nI n) aWk (nI wz) aBk (nI bz) aFc), (zaR aHs cHs 8 fHs), (zaI aFc cFc 6 fFc9_4)] → va_S A s.heap H locs → ∀ (ls : Array Slot), lv_has ls 5 [(0, .ref go), (1, .ref sc), (3, .int (nI n)), (4, .int (nI i))] → W p l e ({ frames := 4, cells := 0, slots := 0, locals := 96 } : Room) s m args below meth c H locs 0 0 Q (F0 m 56 ls []) := by
      intro nF
      induction nF with
      | zero => intro i fO2 hm; exact absurd hm (Nat.not_lt_zero _)
      | succ nF ih56 =>
        intro i fO2 hm hi hA9 hB9 hC9 H locs hK hP hD hS ls hl
        refine lv_iload hx hb dX2_join_56 (lv_at hl 3 rfl) ?_
        refine lv_iload_n hx hb dX2_join_58 rfl (lv_at hl 2 rfl) ?_
        refine lv_icmp_ge (tgt := 98) hx hb dX2_join_59 (by decide) (fun c_5 => ?_) (fun c_5 => ?_)
        · skip
          have c_5 : n ≤ i := (nI_leI (a := n) (b := i) (by omega) (by omega)).mp c_5
          rw [hQ]
          have hP9 := hP.sub (ws' := [(zo4rrir go gR gO (nI (n + 1)) gS), (zaI gR cR 8 (upd fR n (RV cz mi sn n 0 0 (nI k)))), (zaI gO cO 8 fO2), (zo5iiii gS 0 (nI n) 0 (nI k)), (zo10ririliiriririr sc aTp (nI ts) aHl (nI nh) ed mi sn aHs (nI n) aWk (nI wz) aBk (nI bz) aFc), (zaR aHs cHs 8 fHs), (zaI aFc cFc 6 fFc9_4)]) [0, 1, 2, 3, 4, 5, 6] rfl
          have hD9 := hD.sub (ws' := [(zo4rrir go gR gO (nI (n + 1)) gS), (zaI gR cR 8 (upd fR n (RV cz mi sn n 0 0 (nI k)))), (zaI gO cO 8 fO2), (zo5iiii gS 0 (nI n) 0 (nI k)), (zo10ririliiriririr sc aTp (nI ts) aHl (nI nh) ed mi sn aHs (nI n) aWk (nI wz) aBk (nI bz) aFc), (zaR aHs cHs 8 fHs), (zaI aFc cFc 6 fFc9_4)]) [0, 1, 2, 3, 4, 5, 6] (by decide) rfl
          have hK9 := hK.sub (tys' := [(cR, .int), (cO, .int), (cHs, .object "MistHeaps$Heap"), (cFc, .int)]) [0, 1, 2, 3] rfl
          exact W.vret hx hb hr (fun tQ htQ hWQ => ⟨⟨((n + 1), (upd fR n (RV cz mi sn n 0 0 (nI k))), fO2, fFc9_4, n, (nI k)), rfl, ⟨rfl, ⟨hRk, hA9⟩, row_j (by omega) hRk hRn hA9 (fun a ha => hB9 a (by omega)) (fun b hb => hC9 b (by omega))⟩, by rw [htQ]; exact hP9, va_K.moved hWQ.alike hK9, hD9⟩, hS.F htQ⟩) hS.2.2 dX2_join_98
        · skip
          have c_5 : ¬ n ≤ i := fun q => c_5 ((nI_leI (a := n) (b := i) (by omega) (by omega)).mpr q)
          refine lv_aload_n hx hb dX2_join_62 rfl (lv_at hl 0 rfl) ?_
          refine lv_aload_n hx hb dX2_join_63 rfl (lv_at hl 1 rfl) ?_
          refine va_get (D := (dC, dI)) (ci := 10) (v := .ref aHs) (C := RX8) (T := TX8) (N := 14) hx hb hts kc_join_0 hown hK hP 4 rfl rfl 7 (by decide) (hts (.fieldLink RX2 33 "MistHeaps$Scene" "heaps" "[LMistHeaps$Heap;") kc_join_10) (fun _ h9 => h9) rfl dX2_join_64 ?_
          refine lv_iload hx hb dX2_join_67 (lv_at hl 3 rfl) ?_
          refine va_aldq hx hb hK hP 5 2 rfl rfl (vp_in_nI (n := i) (N := 8) (by omega) (by omega)) dX2_join_69 ?_
          refine qq_as (v := .ref (ya i)) (by rw [nI_clamp (by omega), zhs i (by omega)]; rfl) ?_
          refine lv_aload_n hx hb dX2_join_70 rfl (lv_at hl 0 rfl) ?_
          refine va_get (D := (dC, dI)) (ci := 4) (v := .ref gS) (C := RX2) (T := TX2) (N := 4) hx hb hts kc_join_2 hown hK hP 0 rfl rfl 3 (by decide) (hts (.fieldLink RX2 23 "MistHeaps$Goings" "spare" "LMistHeaps$Heap;") kc_join_3) (fun _ h9 => h9) rfl dX2_join_71 ?_
          have hPc := hP.sub (ws' := [(zo4rrir go gR gO (nI (n + 1)) gS), (zaI gR cR 8 (upd fR n (RV cz mi sn n 0 0 (nI k)))), (zaI gO cO 8 fO2), (zo5iiii gS 0 (nI n) 0 (nI k))]) [0, 1, 2, 3] rfl
          have hDc := hD.sub (ws' := [(zo4rrir go gR gO (nI (n + 1)) gS), (zaI gR cR 8 (upd fR n (RV cz mi sn n 0 0 (nI k)))), (zaI gO cO 8 fO2), (zo5iiii gS 0 (nI n) 0 (nI k))]) [0, 1, 2, 3] (by decide) rfl
          have hKc := hK.sub (tys' := [(cR, .int), (cO, .int)]) [0, 1] rfl
          have hFc := va_free (wc := [(zo4rrir go gR gO (nI (n + 1)) gS), (zaI gR cR 8 (upd fR n (RV cz mi sn n 0 0 (nI k)))), (zaI gO cO 8 fO2), (zo5iiii gS 0 (nI n) 0 (nI k))]) hD hS hA [0, 1, 2, 3] rfl
          refine va_callv (va_runV (As := [.ref (ya i), .ref gS]) (rest := []) ⟨hx, hb, hml, hown, hts⟩ (c_tgHS l dC dI gd kA  go gR gO gS n (n + 1) i n (nI k) cR cO (upd fR n (RV cz mi sn n 0 0 (nI k))) fO2 yk yv yc yi ya H.size (by omega) (by omega) (hn8) (⟨k, hk36, rfl⟩) (zyv) (zyc) (zyt)) (cwV 2 hts gX2_join_X2_tellGoing rfl rfl rfl hd_yX2_tellGoing ⟨Nat.le_of_ble_eq_true rfl, Nat.le_of_ble_eq_true rfl⟩) ⟨fun a U g mk q => by obtain ⟨q0, q1, qP, qK, qD, qhG, qhN_, qhH_⟩ := q; exact ⟨q0, mvz g mk a q1, mvP g mk a qP, mvK g mk a qK, qD, qhG.mv g mk a, qhN_.mv g mk a, qhH_.mv g mk a⟩, va_recv hK hP (ci := 4) (q := (RX2, TX2, 4)) (q0 := 0) rfl rfl, fun U hU hW => ⟨rfl, by rw [hU], by rw [hU]; exact hPc, va_K.moved hW.alike hKc, hDc.weaken (fun _ _ _ _ => trivial), hG.call hS hU hW (fun q h => hFc q h), hN_.call hS hU hW (fun q h => hFc q h), hH_.call hS hU hW (fun q h => hFc q h)⟩⟩ rfl rfl hl.1 rfl (lv_room (Nat.le_of_ble_eq_true rfl)) dX2_join_74 ⟨Nat.le_of_ble_eq_true rfl, Nat.le_of_ble_eq_true rfl⟩) hS (fun q _ h => hFc q h) hFc (fun u tC H1 locs htC hvm hw_7 hB hz1 hk1 hS => ?_)
          obtain ⟨fO9_8, rfl⟩ : ∃ z, z = u := ⟨_, rfl⟩
          try dsimp only at hw_7 hB
          obtain ⟨hP1, hK1, hD1⟩ := hB
          rw [htC] at hP1
          have hK1 := va_K.moved hvm.symm hK1
          obtain ⟨hP, hD⟩ := va_join (wr := [(zo10ririliiriririr sc aTp (nI ts) aHl (nI nh) ed mi sn aHs (nI n) aWk (nI wz) aBk (nI bz) aFc), (zaR aHs cHs 8 fHs), (zaI aFc cFc 6 fFc9_4)]) (w1 := [(zo4rrir go gR gO (nI (n + 1)) gS), (zaI gR cR 8 (upd fR n (RV cz mi sn n 0 0 (nI k)))), (zaI gO cO 8 fO9_8), (zo5iiii gS 0 (nI n) 0 (nI k))]) hP hD [0, 1, 2, 3] [4, 5, 6] rfl rfl (by decide) (by decide) hk1 hFc hP1 hD1
          have hK := (hK.sub (tys' := [(cHs, .object "MistHeaps$Heap"), (cFc, .int)]) [2, 3] rfl).app hK1
          generalize H1 = H at hP hS ⊢
          have hP : va_P (dC, dI) vwCl [(zo10ririliiriririr sc aTp (nI ts) aHl (nI nh) ed mi sn aHs (nI n) aWk (nI wz) aBk (nI bz) aFc), (zaR aHs cHs 8 fHs), (zaI aFc cFc 6 fFc9_4), (zo4rrir go gR gO (nI (n + 1)) gS), (zaI gR cR 8 (upd fR n (RV cz mi sn n 0 0 (nI k)))), (zaI gO cO 8 fO9_8), (zo5iiii gS 0 (nI n) 0 (nI k))] H := hP
          have hD : va_D A [(zo10ririliiriririr sc aTp (nI ts) aHl (nI nh) ed mi sn aHs (nI n) aWk (nI wz) aBk (nI bz) aFc), (zaR aHs cHs 8 fHs), (zaI aFc cFc 6 fFc9_4), (zo4rrir go gR gO (nI (n + 1)) gS), (zaI gR cR 8 (upd fR n (RV cz mi sn n 0 0 (nI k)))), (zaI gO cO 8 fO9_8), (zo5iiii gS 0 (nI n) 0 (nI k))] := hD
          have hK : va_K (dC, dI) vwCl [(cHs, .object "MistHeaps$Heap"), (cFc, .int), (cR, .int), (cO, .int)] s := hK
          obtain ⟨q_9, eO_, hg_10⟩ := hw_7
          subst eO_
          refine lv_aload_n hx hb dX2_join_77 rfl (lv_at hl 0 rfl) ?_
          refine lv_aload_n hx hb dX2_join_78 rfl (lv_at hl 0 rfl) ?_
          refine va_get (D := (dC, dI)) (ci := 4) (v := .ref gS) (C := RX2) (T := TX2) (N := 4) hx hb hts kc_join_2 hown hK hP 3 rfl rfl 3 (by decide) (hts (.fieldLink RX2 23 "MistHeaps$Goings" "spare" "LMistHeaps$Heap;") kc_join_3) (fun _ h9 => h9) rfl dX2_join_79 ?_
          refine lv_aload_n hx hb dX2_join_82 rfl (lv_at hl 1 rfl) ?_
          refine va_get (D := (dC, dI)) (ci := 10) (v := .ref aHs) (C := RX8) (T := TX8) (N := 14) hx hb hts kc_join_0 hown hK hP 0 rfl rfl 7 (by decide) (hts (.fieldLink RX2 33 "MistHeaps$Scene" "heaps" "[LMistHeaps$Heap;") kc_join_10) (fun _ h9 => h9) rfl dX2_join_83 ?_
          refine lv_iload hx hb dX2_join_86 (lv_at hl 3 rfl) ?_
          refine va_aldq hx hb hK hP 1 0 rfl rfl (vp_in_nI (n := i) (N := 8) (by omega) (by omega)) dX2_join_88 ?_
          refine qq_as (v := .ref (ya i)) (by rw [nI_clamp (by omega), zhs i (by omega)]; rfl) ?_
          have hPc := hP.sub (ws' := [(zo4rrir go gR gO (nI (n + 1)) gS), (zaI gR cR 8 (upd fR n (RV cz mi sn n 0 0 (nI k)))), (zaI gO cO 8 (upd fO2 i q_9)), (zo5iiii gS 0 (nI n) 0 (nI k))]) [3, 4, 5, 6] rfl
          have hDc := hD.sub (ws' := [(zo4rrir go gR gO (nI (n + 1)) gS), (zaI gR cR 8 (upd fR n (RV cz mi sn n 0 0 (nI k)))), (zaI gO cO 8 (upd fO2 i q_9)), (zo5iiii gS 0 (nI n) 0 (nI k))]) [3, 4, 5, 6] (by decide) rfl
          have hKc := hK.sub (tys' := [(cR, .int), (cO, .int)]) [2, 3] rfl
          have hFc := va_free (wc := [(zo4rrir go gR gO (nI (n + 1)) gS), (zaI gR cR 8 (upd fR n (RV cz mi sn n 0 0 (nI k)))), (zaI gO cO 8 (upd fO2 i q_9)), (zo5iiii gS 0 (nI n) 0 (nI k))]) hD hS hA [3, 4, 5, 6] rfl
          refine va_callv (va_runV (As := [.ref gS, .ref (ya i)]) (rest := []) ⟨hx, hb, hml, hown, hts⟩ (c_tgSH l dC dI gd  go gR gO gS n (n + 1) i n (nI k) cR cO (upd fR n (RV cz mi sn n 0 0 (nI k))) (upd fO2 i q_9) yk yv yc yi ya H.size (by omega) (by omega) (hn8)) (cwV 2 hts gX2_join_X2_tellGoing rfl rfl rfl hd_yX2_tellGoing ⟨Nat.le_of_ble_eq_true rfl, Nat.le_of_ble_eq_true rfl⟩) ⟨fun a U g mk q => by obtain ⟨q0, q1, qP, qK, qD, qhG, qhH_⟩ := q; exact ⟨q0, mvz g mk a q1, mvP g mk a qP, mvK g mk a qK, qD, qhG.mv g mk a, qhH_.mv g mk a⟩, va_recv hK hP (ci := 4) (q := (RX2, TX2, 4)) (q0 := 3) rfl rfl, fun U hU hW => ⟨rfl, by rw [hU], by rw [hU]; exact hPc, va_K.moved hW.alike hKc, hDc.weaken (fun _ _ _ _ => trivial), hG.call hS hU hW (fun q h => hFc q h), hH_.call hS hU hW (fun q h => hFc q h)⟩⟩ rfl rfl hl.1 rfl (lv_room (Nat.le_of_ble_eq_true rfl)) dX2_join_89 ⟨Nat.le_of_ble_eq_true rfl, Nat.le_of_ble_eq_true rfl⟩) hS (fun q _ h => hFc q h) hFc (fun u tC H1 locs htC hvm hw_12 hB hz1 hk1 hS => ?_)
          obtain ⟨fO9_13, rfl⟩ : ∃ z, z = u := ⟨_, rfl⟩
          try dsimp only at hw_12 hB
          obtain ⟨hP1, hK1, hD1⟩ := hB
          rw [htC] at hP1
          have hK1 := va_K.moved hvm.symm hK1
          obtain ⟨hP, hD⟩ := va_join (wr := [(zo10ririliiriririr sc aTp (nI ts) aHl (nI nh) ed mi sn aHs (nI n) aWk (nI wz) aBk (nI bz) aFc), (zaR aHs cHs 8 fHs), (zaI aFc cFc 6 fFc9_4)]) (w1 := [(zo4rrir go gR gO (nI (n + 1)) gS), (zaI gR cR 8 (upd fR n (RV cz mi sn n 0 0 (nI k)))), (zaI gO cO 8 fO9_13), (zo5iiii gS 0 (nI n) 0 (nI k))]) hP hD [3, 4, 5, 6] [0, 1, 2] rfl rfl (by decide) (by decide) hk1 hFc hP1 hD1
          have hK := (hK.sub (tys' := [(cHs, .object "MistHeaps$Heap"), (cFc, .int)]) [0, 1] rfl).app hK1
          generalize H1 = H at hP hS ⊢
          have hP : va_P (dC, dI) vwCl [(zo10ririliiriririr sc aTp (nI ts) aHl (nI nh) ed mi sn aHs (nI n) aWk (nI wz) aBk (nI bz) aFc), (zaR aHs cHs 8 fHs), (zaI aFc cFc 6 fFc9_4), (zo4rrir go gR gO (nI (n + 1)) gS), (zaI gR cR 8 (upd fR n (RV cz mi sn n 0 0 (nI k)))), (zaI gO cO 8 fO9_13), (zo5iiii gS 0 (nI n) 0 (nI k))] H := hP
          have hD : va_D A [(zo10ririliiriririr sc aTp (nI ts) aHl (nI nh) ed mi sn aHs (nI n) aWk (nI wz) aBk (nI bz) aFc), (zaR aHs cHs 8 fHs), (zaI aFc cFc 6 fFc9_4), (zo4rrir go gR gO (nI (n + 1)) gS), (zaI gR cR 8 (upd fR n (RV cz mi sn n 0 0 (nI k)))), (zaI gO cO 8 fO9_13), (zo5iiii gS 0 (nI n) 0 (nI k))] := hD
          have hK : va_K (dC, dI) vwCl [(cHs, .object "MistHeaps$Heap"), (cFc, .int), (cR, .int), (cO, .int)] s := hK
          obtain ⟨q_14, eO_, hg_15⟩ := hw_12
          subst eO_
          refine lv_iinc (v := nI (i + 1)) (lv' := [(4, .int (nI (i + 1))), (0, .ref go), (1, .ref sc), (3, .int (nI n))]) hx hb dX2_join_92 hl (k := 3) rfl (nI_add i 1) (by decide) rfl (fun ls hl => ?_)
          refine lv_goto (tgt := 56) hx hb dX2_join_95 (by decide) ?_
          exact ih56 (i + 1) ((upd (upd fO2 i q_9) n q_14)) (by omega) (by omega) (jo_A hA9 hg_10 (by omega) (by omega)) (jo_B (K := fun a => ¬ a = n ∧ goV (yk a) (yv a) (yc a) (nI k) ((upd fR n (RV cz mi sn n 0 0 (nI k))) n)) hB9 hg_10 (by omega) (by omega)) (jo_C (K := fun b => ¬ n = b ∧ goV 0 0 (nI k) (yc b) ((upd fR n (RV cz mi sn n 0 0 (nI k))) b)) hC9 hg_15 (by omega) (by omega)) _ _ (hK.sub [2, 3, 0, 1] rfl) (hP.sub [3, 4, 5, 6, 0, 1, 2] rfl) (hD.sub [3, 4, 5, 6, 0, 1, 2] (by decide) rfl) hS ls (lv_sub hl [1, 2, 3, 0] rfl)
    exact L56 _ (0) (fO) (Nat.lt_succ_self _) (by omega) (hRJ.2) (fun a ha => absurd ha (Nat.not_lt_zero a)) (fun b hb => absurd hb (Nat.not_lt_zero b)) _ _ (hK.sub [0, 1, 2, 3] rfl) (hP.sub [0, 1, 2, 6, 4, 3, 5] rfl) (hD.sub [0, 1, 2, 6, 4, 3, 5] (by decide) rfl) hS ls (lv_sub hl [2, 3, 1, 0] rfl)
  · skip
    have c_1 : ¬ n < 8 := fun q => c_1 ((nI_ltI (a := n) (b := 8) (by omega) (by omega)).mpr q)
    exfalso
    omega

theorem kc_bestCell_0 : ∀ w ∈ wsX80, w ∈ wsX2_bestCell := fun w h => List.mem_cons_of_mem _ (gin_wsX80 w h)
theorem kc_bestCell_1 : (.fieldLink RX2 27 "MistHeaps$Scene" "heapCount" "I" : Cond) ∈ wsX2_bestCell := kc_of 171 rfl rfl rfl
theorem kc_bestCell_2 : (.fieldLink RX2 78 "MistHeaps$Scene" "snow" "I" : Cond) ∈ wsX2_bestCell := kc_of 167 rfl rfl rfl
set_option maxHeartbeats 4000000 in
set_option maxRecDepth 100000 in
theorem c_bestCell (l : Launch) (dC : Nat → ClassId) (dI : Nat → Nat → Nat) (gd : Nat → Nat)  (kA : Nat)   (sc : Nat) (go : Nat) (aTp : Nat) (aHl : Nat) (aHs : Nat) (aWk : Nat) (aBk : Nat) (aFc : Nat) (bW : Nat) (bA : Nat) (bE : Nat) (bC : Nat) (gR : Nat) (gO : Nat) (gS : Nat) (ts : Nat) (nh : Nat) (n : Nat) (wz : Nat) (bz : Nat) (lk : Nat) (cl : Nat) (j : Nat) (k : Nat) (i0 : Nat) (mi : Int32) (sn : Int32) (sg : Int32) (cdd : Int32) (szz : Int32) (att : Int32) (nmb : Int32) (scl : Int32) (ed : Int64) (cHs : ClassId) (cFc : ClassId) (cbW : ClassId) (cbA : ClassId) (cbE : ClassId) (cbC : ClassId) (cR : ClassId) (cO : ClassId) (fFc : Nat → Int32) (fbW : Nat → Int32) (fbA : Nat → Int32) (fbE : Nat → Int32) (fbC : Nat → Int32) (fR : Nat → Int32) (fO : Nat → Int32) (yk : Nat → Int32) (yv : Nat → Int32) (yc : Nat → Int32) (fHs : Nat → Option Nat) (yi : Nat → Nat) (ya : Nat → Nat) (tpv : Value) (cz : List pCla) (sz : Nat) (zhs : ∀ k0, k0 < n → fHs k0 = some (ya k0)) (hn8 : n ≤ 8) (zcl : cl ≤ 10) (zE : ∀ k0, k0 < 10 → ∃ e0 : Nat, e0 ≤ 100 ∧ fbE k0 = nI e0) (zC : ∀ k0, k0 < 100 → okC (fbC k0)) (zyv : ∀ k0, k0 < n → ∃ v0 : Nat, v0 ≤ 9 ∧ yv k0 = nI v0) (zyc : ∀ k0, k0 < n → ∃ v0 : Nat, v0 < 36 ∧ yc k0 = nI v0) (hlk : lk ≤ 8) (hjn : j < n) (hkn : k < n) (zHC : HC cl sg fbW fbA fbE fbC cz ∧ WfC cz) (zyt : ∀ k0, k0 < n → hpT (yi k0) (yk k0)) : Met l yX2_bestCell wsX2_bestCell ({ frames := 7, cells := 0, slots := 0, locals := 149 } : Room) (va_Pc [.ref go, .ref sc, .int (nI j), .int (nI k)] (fun U => U.heap.size = sz ∧ va_P (dC, dI) vwCl [(zo4rrir go gR gO (nI lk) gS), (zaI gR cR 8 fR), (zaI gO cO 8 fO), (zo5iiii gS 0 (nI i0) 0 scl), (zo10ririliiriririr sc aTp (nI ts) aHl (nI nh) ed mi sn aHs (nI n) aWk (nI wz) aBk (nI bz) aFc), (zaR aHs cHs 8 fHs), (zaI aFc cFc 6 fFc)] U.heap ∧ va_K (dC, dI) vwCl [(cR, .int), (cO, .int), (cHs, .object "MistHeaps$Heap"), (cFc, .int)] U ∧ va_D (fun _ => True) [(zo4rrir go gR gO (nI lk) gS), (zaI gR cR 8 fR), (zaI gO cO 8 fO), (zo5iiii gS 0 (nI i0) 0 scl), (zo10ririliiriririr sc aTp (nI ts) aHl (nI nh) ed mi sn aHs (nI n) aWk (nI wz) aBk (nI bz) aFc), (zaR aHs cHs 8 fHs), (zaI aFc cFc 6 fFc)] ∧ Gl gd (va_A [(zo4rrir go gR gO (nI lk) gS), (zaI gR cR 8 fR), (zaI gO cO 8 fO), (zo5iiii gS 0 (nI i0) 0 scl), (zo10ririliiriririr sc aTp (nI ts) aHl (nI nh) ed mi sn aHs (nI n) aWk (nI wz) aBk (nI bz) aFc), (zaR aHs cHs 8 fHs), (zaI aFc cFc 6 fFc)] sz) U ∧ Gw (va_A [(zo4rrir go gR gO (nI lk) gS), (zaI gR cR 8 fR), (zaI gO cO 8 fO), (zo5iiii gS 0 (nI i0) 0 scl), (zo10ririliiriririr sc aTp (nI ts) aHl (nI nh) ed mi sn aHs (nI n) aWk (nI wz) aBk (nI bz) aFc), (zaR aHs cHs 8 fHs), (zaI aFc cFc 6 fFc)] sz) U ∧ Gn kA (va_A [(zo4rrir go gR gO (nI lk) gS), (zaI gR cR 8 fR), (zaI gO cO 8 fO), (zo5iiii gS 0 (nI i0) 0 scl), (zo10ririliiriririr sc aTp (nI ts) aHl (nI nh) ed mi sn aHs (nI n) aWk (nI wz) aBk (nI bz) aFc), (zaR aHs cHs 8 fHs), (zaI aFc cFc 6 fFc)] sz) U ∧ Fz dC dI [(zo7iirrrriviii aHl sg (nI cl) bW bA bE bC cdd tpv szz att nmb), (zaI bW cbW 10 fbW), (zaI bA cbA 10 fbA), (zaI bE cbE 10 fbE), (zaI bC cbC 100 fbC)] [(cbW, .int), (cbA, .int), (cbE, .int), (cbC, .int)] (va_A [(zo4rrir go gR gO (nI lk) gS), (zaI gR cR 8 fR), (zaI gO cO 8 fO), (zo5iiii gS 0 (nI i0) 0 scl), (zo10ririliiriririr sc aTp (nI ts) aHl (nI nh) ed mi sn aHs (nI n) aWk (nI wz) aBk (nI bz) aFc), (zaR aHs cHs 8 fHs), (zaI aFc cFc 6 fFc)] sz) U ∧ Hs dC dI n yi ya yk yv yc (va_A [(zo4rrir go gR gO (nI lk) gS), (zaI gR cR 8 fR), (zaI gO cO 8 fO), (zo5iiii gS 0 (nI i0) 0 scl), (zo10ririliiriririr sc aTp (nI ts) aHl (nI nh) ed mi sn aHs (nI n) aWk (nI wz) aBk (nI bz) aFc), (zaR aHs cHs 8 fHs), (zaI aFc cFc 6 fFc)] sz) U)) (va_Qi (fun (r : Int32) (u : (Nat) × (Nat → Int32) × (Nat → Int32) × (Nat → Int32) × (Nat) × (Int32)) => match u with | (lk9, fR9, fO9, fFc9, i09, scl9) => (n = 8 ∧ r = -5 ∧ lk9 ≤ 8) ∨ (n < 8 ∧ r = (bdP n yk yv yc cz mi sn (nI j) (nI k) 36).1 ∧ lk9 ≤ 8 ∧ (∀ k0, k0 < n → fR9 k0 = RV cz mi sn k0 (yk k0) (yv k0) (yc k0)) ∧ rwB fO9 n (goP cz mi sn yk yv yc))) (fun (u : (Nat) × (Nat → Int32) × (Nat → Int32) × (Nat → Int32) × (Nat) × (Int32)) (t : State) => match u with | (lk9, fR9, fO9, fFc9, i09, scl9) => va_P (dC, dI) vwCl [(zo4rrir go gR gO (nI lk9) gS), (zaI gR cR 8 fR9), (zaI gO cO 8 fO9), (zo5iiii gS 0 (nI i09) 0 scl9), (zo10ririliiriririr sc aTp (nI ts) aHl (nI nh) ed mi sn aHs (nI n) aWk (nI wz) aBk (nI bz) aFc), (zaR aHs cHs 8 fHs), (zaI aFc cFc 6 fFc9)] t.heap ∧ va_K (dC, dI) vwCl [(cR, .int), (cO, .int), (cHs, .object "MistHeaps$Heap"), (cFc, .int)] t ∧ va_D (va_A [(zo4rrir go gR gO (nI lk) gS), (zaI gR cR 8 fR), (zaI gO cO 8 fO), (zo5iiii gS 0 (nI i0) 0 scl), (zo10ririliiriririr sc aTp (nI ts) aHl (nI nh) ed mi sn aHs (nI n) aWk (nI wz) aBk (nI bz) aFc), (zaR aHs cHs 8 fHs), (zaI aFc cFc 6 fFc)] sz) [(zo4rrir go gR gO (nI lk9) gS), (zaI gR cR 8 fR9), (zaI gO cO 8 fO9), (zo5iiii gS 0 (nI i09) 0 scl9), (zo10ririliiriririr sc aTp (nI ts) aHl (nI nh) ed mi sn aHs (nI n) aWk (nI wz) aBk (nI bz) aFc), (zaR aHs cHs 8 fHs), (zaI aFc cFc 6 fFc9)]) (va_A [(zo4rrir go gR gO (nI lk) gS), (zaI gR cR 8 fR), (zaI gO cO 8 fO), (zo5iiii gS 0 (nI i0) 0 scl), (zo10ririliiriririr sc aTp (nI ts) aHl (nI nh) ed mi sn aHs (nI n) aWk (nI wz) aBk (nI bz) aFc), (zaR aHs cHs 8 fHs), (zaI aFc cFc 6 fFc)] sz)) 0 0 (va_A [(zo4rrir go gR gO (nI lk) gS), (zaI gR cR 8 fR), (zaI gO cO 8 fO), (zo5iiii gS 0 (nI i0) 0 scl), (zo10ririliiriririr sc aTp (nI ts) aHl (nI nh) ed mi sn aHs (nI n) aWk (nI wz) aBk (nI bz) aFc), (zaR aHs cHs 8 fHs), (zaI aFc cFc 6 fFc)] sz) := by
  refine met_ofQ (cc := cX2_bestCell) (maxL := 8) (ret := (some .int)) (by decide) rfl ?_
  intro p e s m args below meth c s₁ Q B hml hv hQ
  obtain ⟨rfl, hsz, hP, hK, hD0, hG, hW_, hN_, hZ, hH_⟩ := hv
  have hx := B.exec
  have hb := B.bytes
  have hr := B.returns
  have hts := atoms_spec (ws := wsX2_bestCell) B.pre
  have hown : s.vm.findClass RX2 = some m.cls := findClass_of_methodNamed B.named
  have hlocks := B.notSynchronized
  subst hsz
  have hD := hD0.self (sz := s.heap.size)
  generalize hAe : va_A [(zo4rrir go gR gO (nI lk) gS), (zaI gR cR 8 fR), (zaI gO cO 8 fO), (zo5iiii gS 0 (nI i0) 0 scl), (zo10ririliiriririr sc aTp (nI ts) aHl (nI nh) ed mi sn aHs (nI n) aWk (nI wz) aBk (nI bz) aFc), (zaR aHs cHs 8 fHs), (zaI aFc cFc 6 fFc)] s.heap.size = A at hD hQ hG hW_ hN_ hZ hH_ ⊢
  have hA : ∀ q : Nat, s.heap.size ≤ q → A q := fun q h => by rw [← hAe]; exact Or.inr h
  have hS : va_S A s.heap s.heap [] := va_S.rf
  have hl := lv_entry [.ref go, .ref sc, .int (nI j), .int (nI k)] (n := 8) (Nat.le_of_ble_eq_true rfl)
  rw [lg_entry_eq]
  generalize (lg_sl [.ref go, .ref sc, .int (nI j), .int (nI k)] ++ List.replicate (8 - (lg_sl [.ref go, .ref sc, .int (nI j), .int (nI k)]).length) Slot.unset).toArray = ls at hl ⊢
  generalize hag : ([.ref go, .ref sc, .int (nI j), .int (nI k)] : List Value).toArray = args at hts hQ ⊢
  have hl : lv_has ls 8 [(0, .ref go), (1, .ref sc), (2, .int (nI j)), (3, .int (nI k))] := hl
  obtain ⟨H, hH⟩ : ∃ H : Heap, H = s.heap := ⟨_, rfl⟩
  rw [← hH] at hP
  rw [← hH]
  have hS : va_S A s.heap H [] := by rw [hH]; exact hS
  obtain ⟨locs, hlo⟩ : ∃ L : List Loc, L = [] := ⟨_, rfl⟩
  rw [← hlo] at hS
  rw [← hlo]
  clear hH hlo
  refine lv_aload_n hx hb dX2_bestCell_0 rfl (lv_at hl 1 rfl) ?_
  refine va_get (D := (dC, dI)) (ci := 10) (v := .int (nI n)) (C := RX8) (T := TX8) (N := 14) hx hb hts kc_bestCell_0 hown hK hP 4 rfl rfl 8 (by decide) (hts (.fieldLink RX2 27 "MistHeaps$Scene" "heapCount" "I") kc_bestCell_1) (fun _ h9 => h9) rfl dX2_bestCell_1 ?_
  refine lv_bipush (v := 8) hx hb dX2_bestCell_4 (by decide) ?_
  refine lv_icmp_lt (tgt := 12) hx hb dX2_bestCell_6 (by decide) (fun c_1 => ?_) (fun c_1 => ?_)
  · skip
    have c_1 : n < 8 := (nI_ltI (a := n) (b := 8) (by omega) (by omega)).mp c_1
    refine lv_aload_n hx hb dX2_bestCell_12 rfl (lv_at hl 0 rfl) ?_
    refine lv_aload_n hx hb dX2_bestCell_13 rfl (lv_at hl 1 rfl) ?_
    refine lv_aload_n hx hb dX2_bestCell_14 rfl (lv_at hl 1 rfl) ?_
    refine va_get (D := (dC, dI)) (ci := 10) (v := .int sn) (C := RX8) (T := TX8) (N := 14) hx hb hts kc_bestCell_0 hown hK hP 4 rfl rfl 6 (by decide) (hts (.fieldLink RX2 78 "MistHeaps$Scene" "snow" "I") kc_bestCell_2) (fun _ h9 => h9) rfl dX2_bestCell_15 ?_
    have hPc := hP.sub (ws' := [(zo4rrir go gR gO (nI lk) gS), (zaI gR cR 8 fR), (zaI gO cO 8 fO), (zo10ririliiriririr sc aTp (nI ts) aHl (nI nh) ed mi sn aHs (nI n) aWk (nI wz) aBk (nI bz) aFc), (zaR aHs cHs 8 fHs), (zaI aFc cFc 6 fFc)]) [0, 1, 2, 4, 5, 6] rfl
    have hDc := hD.sub (ws' := [(zo4rrir go gR gO (nI lk) gS), (zaI gR cR 8 fR), (zaI gO cO 8 fO), (zo10ririliiriririr sc aTp (nI ts) aHl (nI nh) ed mi sn aHs (nI n) aWk (nI wz) aBk (nI bz) aFc), (zaR aHs cHs 8 fHs), (zaI aFc cFc 6 fFc)]) [0, 1, 2, 4, 5, 6] (by decide) rfl
    have hKc := hK.sub (tys' := [(cR, .int), (cO, .int), (cHs, .object "MistHeaps$Heap"), (cFc, .int)]) [0, 1, 2, 3] rfl
    have hFc := va_free (wc := [(zo4rrir go gR gO (nI lk) gS), (zaI gR cR 8 fR), (zaI gO cO 8 fO), (zo10ririliiriririr sc aTp (nI ts) aHl (nI nh) ed mi sn aHs (nI n) aWk (nI wz) aBk (nI bz) aFc), (zaR aHs cHs 8 fHs), (zaI aFc cFc 6 fFc)]) hD hS hA [0, 1, 2, 4, 5, 6] rfl
    refine va_callv (va_runV (As := [.ref sc, .int sn]) (rest := []) ⟨hx, hb, hml, hown, hts⟩ (c_link l dC dI gd  kA   sc go aTp aHl aHs aWk aBk aFc bW bA bE bC gR gO gS ts nh n wz bz lk cl mi sn sg cdd szz att nmb sn ed cHs cFc cbW cbA cbE cbC cR cO fFc fbW fbA fbE fbC fR fO yk yv yc fHs yi ya tpv cz H.size (zhs) (hn8) (zcl) (zE) (zC) (zyv) (zyc) (zHC) (zyt)) (cwV 2 hts gX2_bestCell_X2_link rfl rfl rfl hd_yX2_link ⟨Nat.le_of_ble_eq_true rfl, Nat.le_of_ble_eq_true rfl⟩) ⟨fun a U g mk q => by obtain ⟨q0, q1, qP, qK, qD, qhG, qhW_, qhN_, qhZ, qhH_⟩ := q; exact ⟨q0, mvz g mk a q1, mvP g mk a qP, mvK g mk a qK, qD, qhG.mv g mk a, qhW_.mv g mk a, qhN_.mv g mk a, qhZ.mv g mk a, qhH_.mv g mk a⟩, va_recv hK hP (ci := 4) (q := (RX2, TX2, 4)) (q0 := 0) rfl rfl, fun U hU hW => ⟨rfl, by rw [hU], by rw [hU]; exact hPc, va_K.moved hW.alike hKc, hDc.weaken (fun _ _ _ _ => trivial), hG.call hS hU hW (fun q h => hFc q h), hW_.call hS hU hW (fun q h => hFc q h), hN_.call hS hU hW (fun q h => hFc q h), (hZ.sub [0, 1, 2, 3, 4] [0, 1, 2, 3] rfl rfl).call hS hU hW (fun q h => hFc q h), hH_.call hS hU hW (fun q h => hFc q h)⟩⟩ rfl rfl hl.1 rfl (lv_room (Nat.le_of_ble_eq_true rfl)) dX2_bestCell_18 ⟨Nat.le_of_ble_eq_true rfl, Nat.le_of_ble_eq_true rfl⟩) hS (fun q _ h => hFc q h) hFc (fun u tC H1 locs htC hvm hw_3 hB hz1 hk1 hS => ?_)
    obtain ⟨lk9_4, fR9_5, fO9_6, fFc9_7⟩ := u
    try dsimp only at hw_3 hB
    obtain ⟨hP1, hK1, hD1⟩ := hB
    rw [htC] at hP1
    have hK1 := va_K.moved hvm.symm hK1
    obtain ⟨hP, hD⟩ := va_join (wr := [(zo5iiii gS 0 (nI i0) 0 scl)]) (w1 := [(zo4rrir go gR gO (nI lk9_4) gS), (zaI gR cR 8 fR9_5), (zaI gO cO 8 fO9_6), (zo10ririliiriririr sc aTp (nI ts) aHl (nI nh) ed mi sn aHs (nI n) aWk (nI wz) aBk (nI bz) aFc), (zaR aHs cHs 8 fHs), (zaI aFc cFc 6 fFc9_7)]) hP hD [0, 1, 2, 4, 5, 6] [3] rfl rfl (by decide) (by decide) hk1 hFc hP1 hD1
    have hK := (hK.sub (tys' := []) [] rfl).app hK1
    generalize H1 = H at hP hS ⊢
    have hP : va_P (dC, dI) vwCl [(zo5iiii gS 0 (nI i0) 0 scl), (zo4rrir go gR gO (nI lk9_4) gS), (zaI gR cR 8 fR9_5), (zaI gO cO 8 fO9_6), (zo10ririliiriririr sc aTp (nI ts) aHl (nI nh) ed mi sn aHs (nI n) aWk (nI wz) aBk (nI bz) aFc), (zaR aHs cHs 8 fHs), (zaI aFc cFc 6 fFc9_7)] H := hP
    have hD : va_D A [(zo5iiii gS 0 (nI i0) 0 scl), (zo4rrir go gR gO (nI lk9_4) gS), (zaI gR cR 8 fR9_5), (zaI gO cO 8 fO9_6), (zo10ririliiriririr sc aTp (nI ts) aHl (nI nh) ed mi sn aHs (nI n) aWk (nI wz) aBk (nI bz) aFc), (zaR aHs cHs 8 fHs), (zaI aFc cFc 6 fFc9_7)] := hD
    have hK : va_K (dC, dI) vwCl [(cR, .int), (cO, .int), (cHs, .object "MistHeaps$Heap"), (cFc, .int)] s := hK
    obtain ⟨elk, hlR, hlO⟩ := hw_3
    obtain rfl := elk.symm
    refine lv_aload_n hx hb dX2_bestCell_21 rfl (lv_at hl 0 rfl) ?_
    refine lv_iload_n hx hb dX2_bestCell_22 rfl (lv_at hl 2 rfl) ?_
    refine lv_iload_n hx hb dX2_bestCell_23 rfl (lv_at hl 3 rfl) ?_
    refine lv_iconst (v := 0) hx hb dX2_bestCell_24 (by decide) ?_
    have hPc := hP.sub (ws' := [(zo4rrir go gR gO (nI n) gS), (zaI gO cO 8 fO9_6)]) [1, 3] rfl
    have hKc := hK.sub (tys' := [(cO, .int)]) [1] rfl
    refine vp_callSi (va_runV (As := [.int (nI j), .int (nI k), .int 0]) (rest := []) ⟨hx, hb, hml, hown, hts⟩ (c_fewest l dC dI go gR gO gS n (nI j) (nI k) 0 cO fO9_6 (by omega)) (cwV 3 hts gX2_bestCell_X2_fewest rfl rfl rfl hd_yX2_fewest ⟨Nat.le_of_ble_eq_true rfl, Nat.le_of_ble_eq_true rfl⟩) ⟨fun a U g mk q => by obtain ⟨q0, qP, qK⟩ := q; exact ⟨q0, mvP g mk a qP, mvK g mk a qK⟩, va_recv hK hP (ci := 4) (q := (RX2, TX2, 4)) (q0 := 1) rfl rfl, fun U hU hW => ⟨rfl, by rw [hU]; exact hPc, va_K.moved hW.alike hKc⟩⟩ rfl rfl hl.1 rfl (lv_room (Nat.le_of_ble_eq_true rfl)) dX2_bestCell_25 ⟨Nat.le_of_ble_eq_true rfl, Nat.le_of_ble_eq_true rfl⟩).run (fun r_8 hw_9 => ?_)
    obtain rfl := hw_9
    refine lv_istore (lv' := [(4, .int (fwR fO9_6 n (nI j) (nI k) 0)), (0, .ref go), (1, .ref sc), (2, .int (nI j)), (3, .int (nI k))]) hx hb dX2_bestCell_28 hl (by decide) rfl (fun ls hl => ?_)
    refine lv_bipush (v := (-5)) hx hb dX2_bestCell_30 (by decide) ?_
    refine lv_istore (lv' := [(5, .int (-5)), (4, .int (fwR fO9_6 n (nI j) (nI k) 0)), (0, .ref go), (1, .ref sc), (2, .int (nI j)), (3, .int (nI k))]) hx hb dX2_bestCell_32 hl (by decide) rfl (fun ls hl => ?_)
    refine lv_iconst (v := 0) hx hb dX2_bestCell_34 (by decide) ?_
    refine lv_istore (lv' := [(6, .int 0), (5, .int (-5)), (4, .int (fwR fO9_6 n (nI j) (nI k) 0)), (0, .ref go), (1, .ref sc), (2, .int (nI j)), (3, .int (nI k))]) hx hb dX2_bestCell_35 hl (by decide) rfl (fun ls hl => ?_)
    obtain ⟨G9, hG9⟩ : ∃ G : Nat → Int32 × Int32, G = bdP n yk yv yc cz mi sn (nI j) (nI k) := ⟨_, rfl⟩
    have L37 : ∀ (nF : Nat) (i : Nat) (lk2 : Nat) (fR2 : Nat → Int32) (fO2 : Nat → Int32) (fFc2 : Nat → Int32) (i02 : Nat) (scl2 : Int32) (q : Int32) (q5 : Int32), 36 - i < nF → (i ≤ 36) → (lk2 ≤ 8) → ((∀ k0, k0 < n → fR2 k0 = RV cz mi sn k0 (yk k0) (yv k0) (yc k0)) ∧ rwB fO2 n (goP cz mi sn yk yv yc)) → (q5 = (G9 i).1 ∧ q = (G9 i).2) → ∀ (H : Heap) (locs : List Loc), va_K (dC, dI) vwCl [(cR, .int), (cO, .int), (cHs, .object "MistHeaps$Heap"), (cFc, .int)] s → va_P (dC, dI) vwCl [(zo4rrir go gR gO (nI lk2) gS), (zaI gR cR 8 fR2), (zaI gO cO 8 fO2), (zo5iiii gS 0 (nI i02) 0 scl2), (zo10ririliiriririr sc aTp (nI ts) aHl (nI nh) ed mi sn aHs (nI n) aWk (nI wz) aBk (nI bz) aFc), (zaR aHs cHs 8 fHs), (zaI aFc cFc 6 fFc2)] H → va_D A [(zo4rrir go gR gO (nI lk2) gS), (zaI gR cR 8 fR2), (zaI gO cO 8 fO2), (zo5iiii gS 0 (nI i02) 0 scl2), (zo10ririliiriririr sc aTp (nI ts) aHl (nI nh) ed mi sn aHs (nI n) aWk (nI wz) aBk (nI bz) aFc), (zaR aHs cHs 8 fHs), (zaI aFc cFc 6 fFc2)] → va_S A s.heap H locs → ∀ (ls : Array Slot), lv_has ls 8 [(0, .ref go), (1, .ref sc), (2, .int (nI j)), (3, .int (nI k)), (4, .int q), (5, .int q5), (6, .int (nI i))] → W p l e ({ frames := 7, cells := 0, slots := 0, locals := 149 } : Room) s m args below meth c H locs 0 0 Q (F0 m 37 ls []) := by
      intro nF
      induction nF with
      | zero => intro i lk2 fR2 fO2 fFc2 i02 scl2 q q5 hm; exact absurd hm (Nat.not_lt_zero _)
      | succ nF ih37 =>
        intro i lk2 fR2 fO2 fFc2 i02 scl2 q q5 hm hii hk2 hRJ2 hq9 H locs hK hP hD hS ls hl
        refine lv_iload hx hb dX2_bestCell_37 (lv_at hl 6 rfl) ?_
        refine lv_bipush (v := 36) hx hb dX2_bestCell_39 (by decide) ?_
        refine lv_icmp_ge (tgt := 107) hx hb dX2_bestCell_41 (by decide) (fun c_10 => ?_) (fun c_10 => ?_)
        · skip
          have c_10 : 36 ≤ i := (nI_leI (a := 36) (b := i) (by omega) (by omega)).mp c_10
          refine lv_iload hx hb dX2_bestCell_107 (lv_at hl 5 rfl) ?_
          rw [hQ]
          have hP9 := hP.sub (ws' := [(zo4rrir go gR gO (nI lk2) gS), (zaI gR cR 8 fR2), (zaI gO cO 8 fO2), (zo5iiii gS 0 (nI i02) 0 scl2), (zo10ririliiriririr sc aTp (nI ts) aHl (nI nh) ed mi sn aHs (nI n) aWk (nI wz) aBk (nI bz) aFc), (zaR aHs cHs 8 fHs), (zaI aFc cFc 6 fFc2)]) [0, 1, 2, 3, 4, 5, 6] rfl
          have hD9 := hD.sub (ws' := [(zo4rrir go gR gO (nI lk2) gS), (zaI gR cR 8 fR2), (zaI gO cO 8 fO2), (zo5iiii gS 0 (nI i02) 0 scl2), (zo10ririliiriririr sc aTp (nI ts) aHl (nI nh) ed mi sn aHs (nI n) aWk (nI wz) aBk (nI bz) aFc), (zaR aHs cHs 8 fHs), (zaI aFc cFc 6 fFc2)]) [0, 1, 2, 3, 4, 5, 6] (by decide) rfl
          have hK9 := hK.sub (tys' := [(cR, .int), (cO, .int), (cHs, .object "MistHeaps$Heap"), (cFc, .int)]) [0, 1, 2, 3] rfl
          exact W.iret (v := q5) hx hb hr (fun tQ htQ hWQ => ⟨⟨q5, (lk2, fR2, fO2, fFc2, i02, scl2), rfl, Or.inr ⟨by omega, by rw [← hG9, ← (show i = 36 by omega)]; exact hq9.1, hk2, hRJ2⟩, by rw [htQ]; exact hP9, va_K.moved hWQ.alike hK9, hD9⟩, hS.F htQ⟩) hS.2.2 dX2_bestCell_109
        · skip
          have c_10 : ¬ 36 ≤ i := fun q => c_10 ((nI_leI (a := 36) (b := i) (by omega) (by omega)).mpr q)
          refine lv_aload_n hx hb dX2_bestCell_44 rfl (lv_at hl 1 rfl) ?_
          refine lv_iload hx hb dX2_bestCell_45 (lv_at hl 6 rfl) ?_
          have hPc := hP.sub (ws' := [(zo10ririliiriririr sc aTp (nI ts) aHl (nI nh) ed mi sn aHs (nI n) aWk (nI wz) aBk (nI bz) aFc), (zaR aHs cHs 8 fHs)]) [4, 5] rfl
          have hKc := hK.sub (tys' := [(cHs, .object "MistHeaps$Heap")]) [2] rfl
          refine vp_callSi (va_runV (As := [.int (nI i)]) (rest := []) ⟨hx, hb, hml, hown, hts⟩ (c_isTaken l dC dI  sc aTp aHl aHs aWk aBk aFc ts nh n wz bz mi sn (nI i) ed cHs yk yv yc fHs yi ya (zhs) (hn8)) (cwV 1 hts gX2_bestCell_X8_isTaken rfl rfl rfl hd_yX8_isTaken ⟨Nat.le_of_ble_eq_true rfl, Nat.le_of_ble_eq_true rfl⟩) ⟨fun a U g mk q => by obtain ⟨q0, qP, qK, qhH_⟩ := q; exact ⟨q0, mvP g mk a qP, mvK g mk a qK, qhH_.mv g mk a⟩, va_recv hK hP (ci := 10) (q := (RX8, TX8, 14)) (q0 := 4) rfl rfl, fun U hU hW => ⟨rfl, by rw [hU]; exact hPc, va_K.moved hW.alike hKc, hH_.callF hS hU hW⟩⟩ rfl rfl hl.1 rfl (lv_room (Nat.le_of_ble_eq_true rfl)) dX2_bestCell_47 ⟨Nat.le_of_ble_eq_true rfl, Nat.le_of_ble_eq_true rfl⟩).run (fun r_11 hw_12 => ?_)
          rcases hw_12 with ⟨rfl, hk9⟩ | ⟨rfl, hk9⟩
          · skip
            refine lv_if_eq (tgt := 56) hx hb dX2_bestCell_50 (by decide) (fun c_13 => absurd c_13 (by decide)) (fun _ => ?_)
            refine lv_goto (tgt := 101) hx hb dX2_bestCell_53 (by decide) ?_
            refine lv_iinc (v := nI (i + 1)) (lv' := [(6, .int (nI (i + 1))), (0, .ref go), (1, .ref sc), (2, .int (nI j)), (3, .int (nI k)), (4, .int q), (5, .int q5)]) hx hb dX2_bestCell_101 hl (k := 6) rfl (nI_add i 1) (by decide) rfl (fun ls hl => ?_)
            refine lv_goto (tgt := 37) hx hb dX2_bestCell_104 (by decide) ?_
            exact ih37 (i + 1) (lk2) (fR2) (fO2) _ _ _ (q) (q5) (by omega) (by omega) (by omega) (hRJ2) (bc_t hG9 hq9 hk9) _ _ (hK.sub [0, 1, 2, 3] rfl) (hP.sub [0, 1, 2, 3, 4, 5, 6] rfl) (hD.sub [0, 1, 2, 3, 4, 5, 6] (by decide) rfl) hS ls (lv_sub hl [1, 2, 3, 4, 5, 6, 0] rfl)
          · skip
            have ht9 : ¬ ∃ k, k < n ∧ yc k = nI i := fun ⟨k8, h8, h9⟩ => hk9 k8 h8 h9
            refine lv_if_eq (tgt := 56) hx hb dX2_bestCell_50 (by decide) (fun _ => ?_) (fun c_14 => absurd c_14 (by decide))
            refine lv_aload_n hx hb dX2_bestCell_56 rfl (lv_at hl 0 rfl) ?_
            refine lv_aload_n hx hb dX2_bestCell_57 rfl (lv_at hl 1 rfl) ?_
            refine lv_iload hx hb dX2_bestCell_58 (lv_at hl 6 rfl) ?_
            have hPc := hP.sub (ws' := [(zo4rrir go gR gO (nI lk2) gS), (zaI gR cR 8 fR2), (zaI gO cO 8 fO2), (zo5iiii gS 0 (nI i02) 0 scl2), (zo10ririliiriririr sc aTp (nI ts) aHl (nI nh) ed mi sn aHs (nI n) aWk (nI wz) aBk (nI bz) aFc), (zaR aHs cHs 8 fHs), (zaI aFc cFc 6 fFc2)]) [0, 1, 2, 3, 4, 5, 6] rfl
            have hDc := hD.sub (ws' := [(zo4rrir go gR gO (nI lk2) gS), (zaI gR cR 8 fR2), (zaI gO cO 8 fO2), (zo5iiii gS 0 (nI i02) 0 scl2), (zo10ririliiriririr sc aTp (nI ts) aHl (nI nh) ed mi sn aHs (nI n) aWk (nI wz) aBk (nI bz) aFc), (zaR aHs cHs 8 fHs), (zaI aFc cFc 6 fFc2)]) [0, 1, 2, 3, 4, 5, 6] (by decide) rfl
            have hKc := hK.sub (tys' := [(cR, .int), (cO, .int), (cHs, .object "MistHeaps$Heap"), (cFc, .int)]) [0, 1, 2, 3] rfl
            have hFc := va_free (wc := [(zo4rrir go gR gO (nI lk2) gS), (zaI gR cR 8 fR2), (zaI gO cO 8 fO2), (zo5iiii gS 0 (nI i02) 0 scl2), (zo10ririliiriririr sc aTp (nI ts) aHl (nI nh) ed mi sn aHs (nI n) aWk (nI wz) aBk (nI bz) aFc), (zaR aHs cHs 8 fHs), (zaI aFc cFc 6 fFc2)]) hD hS hA [0, 1, 2, 3, 4, 5, 6] rfl
            refine va_callv (va_runV (As := [.ref sc, .int (nI i)]) (rest := []) ⟨hx, hb, hml, hown, hts⟩ (c_join l dC dI gd  kA   sc go aTp aHl aHs aWk aBk aFc bW bA bE bC gR gO gS ts nh n wz bz lk2 cl i i02 mi sn sg cdd szz att nmb scl2 ed cHs cFc cbW cbA cbE cbC cR cO fFc2 fbW fbA fbE fbC fR2 fO2 yk yv yc fHs yi ya tpv cz H.size (zhs) (hn8) (zcl) (zE) (zC) (zyv) (zyc) (by omega) (by omega) (hRJ2) (zHC) (zyt)) (cwV 2 hts gX2_bestCell_X2_join rfl rfl rfl hd_yX2_join ⟨Nat.le_of_ble_eq_true rfl, Nat.le_of_ble_eq_true rfl⟩) ⟨fun a U g mk q => by obtain ⟨q0, q1, qP, qK, qD, qhG, qhW_, qhN_, qhZ, qhH_⟩ := q; exact ⟨q0, mvz g mk a q1, mvP g mk a qP, mvK g mk a qK, qD, qhG.mv g mk a, qhW_.mv g mk a, qhN_.mv g mk a, qhZ.mv g mk a, qhH_.mv g mk a⟩, va_recv hK hP (ci := 4) (q := (RX2, TX2, 4)) (q0 := 0) rfl rfl, fun U hU hW => ⟨rfl, by rw [hU], by rw [hU]; exact hPc, va_K.moved hW.alike hKc, hDc.weaken (fun _ _ _ _ => trivial), hG.call hS hU hW (fun q h => hFc q h), hW_.call hS hU hW (fun q h => hFc q h), hN_.call hS hU hW (fun q h => hFc q h), (hZ.sub [0, 1, 2, 3, 4] [0, 1, 2, 3] rfl rfl).call hS hU hW (fun q h => hFc q h), hH_.call hS hU hW (fun q h => hFc q h)⟩⟩ rfl rfl hl.1 rfl (lv_room (Nat.le_of_ble_eq_true rfl)) dX2_bestCell_60 ⟨Nat.le_of_ble_eq_true rfl, Nat.le_of_ble_eq_true rfl⟩) hS (fun q _ h => hFc q h) hFc (fun u tC H1 locs htC hvm hw_16 hB hz1 hk1 hS => ?_)
            obtain ⟨lk9_17, fR9_18, fO9_19, fFc9_20, i09_21, scl9_22⟩ := u
            try dsimp only at hw_16 hB
            obtain ⟨hP1, hK1, hD1⟩ := hB
            rw [htC] at hP1
            have hK1 := va_K.moved hvm.symm hK1
            obtain ⟨hP, hD⟩ := va_join (wr := []) (w1 := [(zo4rrir go gR gO (nI lk9_17) gS), (zaI gR cR 8 fR9_18), (zaI gO cO 8 fO9_19), (zo5iiii gS 0 (nI i09_21) 0 scl9_22), (zo10ririliiriririr sc aTp (nI ts) aHl (nI nh) ed mi sn aHs (nI n) aWk (nI wz) aBk (nI bz) aFc), (zaR aHs cHs 8 fHs), (zaI aFc cFc 6 fFc9_20)]) hP hD [0, 1, 2, 3, 4, 5, 6] [] rfl rfl (by decide) (by decide) hk1 hFc hP1 hD1
            have hK := (hK.sub (tys' := []) [] rfl).app hK1
            generalize H1 = H at hP hS ⊢
            have hP : va_P (dC, dI) vwCl [(zo4rrir go gR gO (nI lk9_17) gS), (zaI gR cR 8 fR9_18), (zaI gO cO 8 fO9_19), (zo5iiii gS 0 (nI i09_21) 0 scl9_22), (zo10ririliiriririr sc aTp (nI ts) aHl (nI nh) ed mi sn aHs (nI n) aWk (nI wz) aBk (nI bz) aFc), (zaR aHs cHs 8 fHs), (zaI aFc cFc 6 fFc9_20)] H := hP
            have hD : va_D A [(zo4rrir go gR gO (nI lk9_17) gS), (zaI gR cR 8 fR9_18), (zaI gO cO 8 fO9_19), (zo5iiii gS 0 (nI i09_21) 0 scl9_22), (zo10ririliiriririr sc aTp (nI ts) aHl (nI nh) ed mi sn aHs (nI n) aWk (nI wz) aBk (nI bz) aFc), (zaR aHs cHs 8 fHs), (zaI aFc cFc 6 fFc9_20)] := hD
            have hK : va_K (dC, dI) vwCl [(cR, .int), (cO, .int), (cHs, .object "MistHeaps$Heap"), (cFc, .int)] s := hK
            obtain ⟨elk, hRJ9, hrJ⟩ := hw_16
            obtain rfl := elk.symm
            refine lv_aload_n hx hb dX2_bestCell_63 rfl (lv_at hl 0 rfl) ?_
            refine lv_iload_n hx hb dX2_bestCell_64 rfl (lv_at hl 2 rfl) ?_
            refine lv_iload_n hx hb dX2_bestCell_65 rfl (lv_at hl 3 rfl) ?_
            refine lv_iconst (v := 0) hx hb dX2_bestCell_66 (by decide) ?_
            have hPc := hP.sub (ws' := [(zo4rrir go gR gO (nI (n + 1)) gS), (zaI gO cO 8 fO9_19)]) [0, 2] rfl
            have hKc := hK.sub (tys' := [(cO, .int)]) [1] rfl
            refine vp_callSi (va_runV (As := [.int (nI j), .int (nI k), .int 0]) (rest := []) ⟨hx, hb, hml, hown, hts⟩ (c_fewest l dC dI go gR gO gS (n + 1) (nI j) (nI k) 0 cO fO9_19 (by omega)) (cwV 3 hts gX2_bestCell_X2_fewest rfl rfl rfl hd_yX2_fewest ⟨Nat.le_of_ble_eq_true rfl, Nat.le_of_ble_eq_true rfl⟩) ⟨fun a U g mk q => by obtain ⟨q0, qP, qK⟩ := q; exact ⟨q0, mvP g mk a qP, mvK g mk a qK⟩, va_recv hK hP (ci := 4) (q := (RX2, TX2, 4)) (q0 := 0) rfl rfl, fun U hU hW => ⟨rfl, by rw [hU]; exact hPc, va_K.moved hW.alike hKc⟩⟩ rfl rfl hl.1 rfl (lv_room (Nat.le_of_ble_eq_true rfl)) dX2_bestCell_67 ⟨Nat.le_of_ble_eq_true rfl, Nat.le_of_ble_eq_true rfl⟩).run (fun r_23 hw_24 => ?_)
            obtain rfl := hw_24
            refine lv_istore (lv' := [(7, .int (fwR fO9_19 (n + 1) (nI j) (nI k) 0)), (0, .ref go), (1, .ref sc), (2, .int (nI j)), (3, .int (nI k)), (4, .int q), (5, .int q5), (6, .int (nI i))]) hx hb dX2_bestCell_70 hl (by decide) rfl (fun ls hl => ?_)
            refine lv_iload hx hb dX2_bestCell_72 (lv_at hl 0 rfl) ?_
            refine lv_bipush (v := (-5)) hx hb dX2_bestCell_74 (by decide) ?_
            refine lv_icmp_eq (tgt := 101) hx hb dX2_bestCell_76 (by decide) (fun c_25 => ?_) (fun c_25 => ?_)
            · skip
              refine lv_iinc (v := nI (i + 1)) (lv' := [(6, .int (nI (i + 1))), (7, .int (fwR fO9_19 (n + 1) (nI j) (nI k) 0)), (0, .ref go), (1, .ref sc), (2, .int (nI j)), (3, .int (nI k)), (4, .int q), (5, .int q5)]) hx hb dX2_bestCell_101 hl (k := 7) rfl (nI_add i 1) (by decide) rfl (fun ls hl => ?_)
              refine lv_goto (tgt := 37) hx hb dX2_bestCell_104 (by decide) ?_
              exact ih37 (i + 1) (n + 1) (fR9_18) (fO9_19) _ _ _ (q) (q5) (by omega) (by omega) (by omega) (hRJ9) (bc_n hG9 hq9 ht9 (bd_X (by omega) hjn hkn hrJ) (Or.inl c_25)) _ _ (hK.sub [0, 1, 2, 3] rfl) (hP.sub [0, 1, 2, 3, 4, 5, 6] rfl) (hD.sub [0, 1, 2, 3, 4, 5, 6] (by decide) rfl) hS ls (lv_sub hl [2, 3, 4, 5, 6, 7, 0] rfl)
            · skip
              refine lv_iload hx hb dX2_bestCell_79 (lv_at hl 5 rfl) ?_
              refine lv_bipush (v := (-5)) hx hb dX2_bestCell_81 (by decide) ?_
              refine lv_icmp_eq (tgt := 93) hx hb dX2_bestCell_83 (by decide) (fun c_26 => ?_) (fun c_26 => ?_)
              · skip
                refine lv_iload hx hb dX2_bestCell_93 (lv_at hl 0 rfl) ?_
                refine lv_istore (lv' := [(4, .int (fwR fO9_19 (n + 1) (nI j) (nI k) 0)), (7, .int (fwR fO9_19 (n + 1) (nI j) (nI k) 0)), (0, .ref go), (1, .ref sc), (2, .int (nI j)), (3, .int (nI k)), (5, .int q5), (6, .int (nI i))]) hx hb dX2_bestCell_95 hl (by decide) rfl (fun ls hl => ?_)
                refine lv_iload hx hb dX2_bestCell_97 (lv_at hl 7 rfl) ?_
                refine lv_istore (lv' := [(5, .int (nI i)), (4, .int (fwR fO9_19 (n + 1) (nI j) (nI k) 0)), (7, .int (fwR fO9_19 (n + 1) (nI j) (nI k) 0)), (0, .ref go), (1, .ref sc), (2, .int (nI j)), (3, .int (nI k)), (6, .int (nI i))]) hx hb dX2_bestCell_99 hl (by decide) rfl (fun ls hl => ?_)
                refine lv_iinc (v := nI (i + 1)) (lv' := [(6, .int (nI (i + 1))), (5, .int (nI i)), (4, .int (fwR fO9_19 (n + 1) (nI j) (nI k) 0)), (7, .int (fwR fO9_19 (n + 1) (nI j) (nI k) 0)), (0, .ref go), (1, .ref sc), (2, .int (nI j)), (3, .int (nI k))]) hx hb dX2_bestCell_101 hl (k := 7) rfl (nI_add i 1) (by decide) rfl (fun ls hl => ?_)
                refine lv_goto (tgt := 37) hx hb dX2_bestCell_104 (by decide) ?_
                exact ih37 (i + 1) (n + 1) (fR9_18) (fO9_19) _ _ _ (fwR fO9_19 (n + 1) (nI j) (nI k) 0) (nI i) (by omega) (by omega) (by omega) (hRJ9) (bc_y hG9 hq9 ht9 (bd_X (by omega) hjn hkn hrJ) c_25 (Or.inl c_26)) _ _ (hK.sub [0, 1, 2, 3] rfl) (hP.sub [0, 1, 2, 3, 4, 5, 6] rfl) (hD.sub [0, 1, 2, 3, 4, 5, 6] (by decide) rfl) hS ls (lv_sub hl [4, 5, 6, 7, 2, 1, 0] rfl)
              · skip
                refine lv_iload hx hb dX2_bestCell_86 (lv_at hl 0 rfl) ?_
                refine lv_iload hx hb dX2_bestCell_88 (lv_at hl 5 rfl) ?_
                refine lv_icmp_ge (tgt := 101) hx hb dX2_bestCell_90 (by decide) (fun c_27 => ?_) (fun c_27 => ?_)
                · skip
                  refine lv_iinc (v := nI (i + 1)) (lv' := [(6, .int (nI (i + 1))), (7, .int (fwR fO9_19 (n + 1) (nI j) (nI k) 0)), (0, .ref go), (1, .ref sc), (2, .int (nI j)), (3, .int (nI k)), (4, .int q), (5, .int q5)]) hx hb dX2_bestCell_101 hl (k := 7) rfl (nI_add i 1) (by decide) rfl (fun ls hl => ?_)
                  refine lv_goto (tgt := 37) hx hb dX2_bestCell_104 (by decide) ?_
                  exact ih37 (i + 1) (n + 1) (fR9_18) (fO9_19) _ _ _ (q) (q5) (by omega) (by omega) (by omega) (hRJ9) (bc_n hG9 hq9 ht9 (bd_X (by omega) hjn hkn hrJ) (Or.inr ⟨c_26, Int32.not_lt.mpr c_27⟩)) _ _ (hK.sub [0, 1, 2, 3] rfl) (hP.sub [0, 1, 2, 3, 4, 5, 6] rfl) (hD.sub [0, 1, 2, 3, 4, 5, 6] (by decide) rfl) hS ls (lv_sub hl [2, 3, 4, 5, 6, 7, 0] rfl)
                · skip
                  refine lv_iload hx hb dX2_bestCell_93 (lv_at hl 0 rfl) ?_
                  refine lv_istore (lv' := [(4, .int (fwR fO9_19 (n + 1) (nI j) (nI k) 0)), (7, .int (fwR fO9_19 (n + 1) (nI j) (nI k) 0)), (0, .ref go), (1, .ref sc), (2, .int (nI j)), (3, .int (nI k)), (5, .int q5), (6, .int (nI i))]) hx hb dX2_bestCell_95 hl (by decide) rfl (fun ls hl => ?_)
                  refine lv_iload hx hb dX2_bestCell_97 (lv_at hl 7 rfl) ?_
                  refine lv_istore (lv' := [(5, .int (nI i)), (4, .int (fwR fO9_19 (n + 1) (nI j) (nI k) 0)), (7, .int (fwR fO9_19 (n + 1) (nI j) (nI k) 0)), (0, .ref go), (1, .ref sc), (2, .int (nI j)), (3, .int (nI k)), (6, .int (nI i))]) hx hb dX2_bestCell_99 hl (by decide) rfl (fun ls hl => ?_)
                  refine lv_iinc (v := nI (i + 1)) (lv' := [(6, .int (nI (i + 1))), (5, .int (nI i)), (4, .int (fwR fO9_19 (n + 1) (nI j) (nI k) 0)), (7, .int (fwR fO9_19 (n + 1) (nI j) (nI k) 0)), (0, .ref go), (1, .ref sc), (2, .int (nI j)), (3, .int (nI k))]) hx hb dX2_bestCell_101 hl (k := 7) rfl (nI_add i 1) (by decide) rfl (fun ls hl => ?_)
                  refine lv_goto (tgt := 37) hx hb dX2_bestCell_104 (by decide) ?_
                  exact ih37 (i + 1) (n + 1) (fR9_18) (fO9_19) _ _ _ (fwR fO9_19 (n + 1) (nI j) (nI k) 0) (nI i) (by omega) (by omega) (by omega) (hRJ9) (bc_y hG9 hq9 ht9 (bd_X (by omega) hjn hkn hrJ) c_25 (Or.inr (Int32.not_le.mp c_27))) _ _ (hK.sub [0, 1, 2, 3] rfl) (hP.sub [0, 1, 2, 3, 4, 5, 6] rfl) (hD.sub [0, 1, 2, 3, 4, 5, 6] (by decide) rfl) hS ls (lv_sub hl [4, 5, 6, 7, 2, 1, 0] rfl)
    exact L37 _ (0) (n) (fR9_5) (fO9_6) _ _ _ (fwR fO9_6 n (nI j) (nI k) 0) (-5) (Nat.lt_succ_self _) (by omega) (by omega) (⟨hlR, hlO.B⟩) (⟨by rw [hG9]; rfl, by rw [hG9]; exact fw_row hn8 hjn hkn (b_0 _) hlO.B⟩) _ _ (hK.sub [0, 1, 2, 3] rfl) (hP.sub [1, 2, 3, 0, 4, 5, 6] rfl) (hD.sub [1, 2, 3, 0, 4, 5, 6] (by decide) rfl) hS ls (lv_sub hl [3, 4, 5, 6, 2, 1, 0] rfl)
  · skip
    have c_1 : ¬ n < 8 := fun q => c_1 ((nI_ltI (a := n) (b := 8) (by omega) (by omega)).mpr q)
    refine lv_bipush (v := (-5)) hx hb dX2_bestCell_9 (by decide) ?_
    rw [hQ]
    have hP9 := hP.sub (ws' := [(zo4rrir go gR gO (nI lk) gS), (zaI gR cR 8 fR), (zaI gO cO 8 fO), (zo5iiii gS 0 (nI i0) 0 scl), (zo10ririliiriririr sc aTp (nI ts) aHl (nI nh) ed mi sn aHs (nI n) aWk (nI wz) aBk (nI bz) aFc), (zaR aHs cHs 8 fHs), (zaI aFc cFc 6 fFc)]) [0, 1, 2, 3, 4, 5, 6] rfl
    have hD9 := hD.sub (ws' := [(zo4rrir go gR gO (nI lk) gS), (zaI gR cR 8 fR), (zaI gO cO 8 fO), (zo5iiii gS 0 (nI i0) 0 scl), (zo10ririliiriririr sc aTp (nI ts) aHl (nI nh) ed mi sn aHs (nI n) aWk (nI wz) aBk (nI bz) aFc), (zaR aHs cHs 8 fHs), (zaI aFc cFc 6 fFc)]) [0, 1, 2, 3, 4, 5, 6] (by decide) rfl
    have hK9 := hK.sub (tys' := [(cR, .int), (cO, .int), (cHs, .object "MistHeaps$Heap"), (cFc, .int)]) [0, 1, 2, 3] rfl
    exact W.iret (v := (-5)) hx hb hr (fun tQ htQ hWQ => ⟨⟨(-5), (lk, fR, fO, fFc, i0, scl), rfl, Or.inl ⟨by omega, rfl, hlk⟩, by rw [htQ]; exact hP9, va_K.moved hWQ.alike hK9, hD9⟩, hS.F htQ⟩) hS.2.2 dX2_bestCell_11
end mg15a
