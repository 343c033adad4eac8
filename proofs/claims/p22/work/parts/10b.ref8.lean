theorem ggX12_walk_X12_in : GoodIn wsX12_walk wsX12_in := gga_of 1217 rfl rfl rfl
theorem gX12_walk_X12_in : GoodIn wsX12_walk (va_wsS RX12 45 yX12_in wsX12_in) := goodIn_app (ggh_of [1215, 1216, 72] rfl rfl rfl) ggX12_walk_X12_in
theorem ggX12_feed_X12_in : GoodIn wsX12_feed wsX12_in := gga_of 1217 rfl rfl rfl
theorem gX12_feed_X12_in : GoodIn wsX12_feed (va_wsS RX12 45 yX12_in wsX12_in) := goodIn_app (ggh_of [1215, 1216, 72] rfl rfl rfl) ggX12_feed_X12_in
theorem ggX12_book_X12_isHeap : GoodIn wsX12_book wsX12_isHeap := gga_of 1320 rfl rfl rfl
theorem gX12_book_X12_isHeap : GoodIn wsX12_book (wsV RX12 164 RX12 yX12_isHeap wsX12_isHeap) := goodIn_app (ggh_of [1317, 1319, 37, 72] rfl rfl rfl) ggX12_book_X12_isHeap
theorem ggX12_set_X12_in : GoodIn wsX12_set wsX12_in := gga_of 1217 rfl rfl rfl
theorem gX12_set_X12_in : GoodIn wsX12_set (va_wsS RX12 45 yX12_in wsX12_in) := goodIn_app (ggh_of [1215, 1216, 72] rfl rfl rfl) ggX12_set_X12_in
theorem ggX12_edges_X12_edgesMany : GoodIn wsX12_edges wsX12_edgesMany := gga_of 1285 rfl rfl rfl
theorem gX12_edges_X12_edgesMany : GoodIn wsX12_edges (wsV RX12 137 RX12 yX12_edgesMany wsX12_edgesMany) := goodIn_app (ggh_of [1282, 1284, 33, 72] rfl rfl rfl) ggX12_edges_X12_edgesMany
theorem ggX12_told_X12_sight : GoodIn wsX12_told wsX12_sight := gga_of 1297 rfl rfl rfl
theorem gX12_told_X12_sight : GoodIn wsX12_told (wsV RX12 140 RX12 yX12_sight wsX12_sight) := goodIn_app (ggh_of [1294, 1296, 34, 72] rfl rfl rfl) ggX12_told_X12_sight
theorem ggX12_told_X12_edgesMany : GoodIn wsX12_told wsX12_edgesMany := gga_of 1285 rfl rfl rfl
theorem gX12_told_X12_edgesMany : GoodIn wsX12_told (wsV RX12 137 RX12 yX12_edgesMany wsX12_edgesMany) := goodIn_app (ggh_of [1282, 1284, 33, 72] rfl rfl rfl) ggX12_told_X12_edgesMany
theorem ggX12_heap_X12_in : GoodIn wsX12_heap wsX12_in := gga_of 1217 rfl rfl rfl
theorem gX12_heap_X12_in : GoodIn wsX12_heap (va_wsS RX12 45 yX12_in wsX12_in) := goodIn_app (ggh_of [1215, 1216, 72] rfl rfl rfl) ggX12_heap_X12_in
theorem ggX12_heap_X12_isCell : GoodIn wsX12_heap wsX12_isCell := gga_of 1304 rfl rfl rfl
theorem gX12_heap_X12_isCell : GoodIn wsX12_heap (va_wsS RX12 149 yX12_isCell wsX12_isCell) := goodIn_app (ggh_of [1302, 1303, 72] rfl rfl rfl) ggX12_heap_X12_isCell
theorem ggX12_heap_X12_heapOn : GoodIn wsX12_heap wsX12_heapOn := gga_of 1308 rfl rfl rfl
theorem gX12_heap_X12_heapOn : GoodIn wsX12_heap (wsV RX12 153 RX12 yX12_heapOn wsX12_heapOn) := goodIn_app (ggh_of [1305, 1307, 35, 72] rfl rfl rfl) ggX12_heap_X12_heapOn
theorem ggX12_heap_X12_puts : GoodIn wsX12_heap wsX12_puts := gga_of 1312 rfl rfl rfl
theorem gX12_heap_X12_puts : GoodIn wsX12_heap (wsV RX12 156 RX12 yX12_puts wsX12_puts) := goodIn_app (ggh_of [1309, 1311, 36, 72] rfl rfl rfl) ggX12_heap_X12_puts
noncomputable def dk10bref8_cX12_walk_0 : List (Nat × Instr × Nat) := [(0, .iload_n 1, 1), (1, .iconst (-1), 1), (2, .if_icmp .ne 12, 3), (14, .iload_n 1, 1), (15, .iconst 0, 1), (16, .bipush 7, 2), (18, .invokestatic 45, 3), (21, .ifCond .ne 5, 3), (26, .aload_n 0, 1), (27, .getfield 9, 3), (30, .iconst 2, 1), (31, .iaload, 1), (32, .bipush 6, 2), (34, .if_icmp .ne 6, 3), (40, .aload_n 0, 1), (41, .getfield 9, 3), (44, .bipush 73, 2), (46, .aload_n 0, 1), (47, .getfield 9, 3), (50, .iconst 2, 1), (51, .iaload, 1), (52, .iadd, 1), (53, .iload_n 1, 1), (54, .iastore, 1), (55, .aload_n 0, 1), (56, .getfield 9, 3), (59, .iconst 2, 1), (60, .dup2, 1), (61, .iaload, 1), (62, .iconst 1, 1), (63, .iadd, 1), (64, .iastore, 1), (65, .aload_n 0, 1), (66, .getfield 9, 3), (69, .iconst 2, 1), (70, .iaload, 1), (71, .ireturn, 1), (37, .bipush (-4), 2), (39, .ireturn, 1), (24, .iconst (-1), 1)]
set_option maxRecDepth 100000 in
theorem dk10bref8_cX12_walk_0_a : dkA cX12_walk dk10bref8_cX12_walk_0 = true := by decide +kernel
theorem dX12_walk_0 : decode cX12_walk 0 = .ok (.iload_n 1, 1) := dkAt dk10bref8_cX12_walk_0_a 0 rfl
theorem dX12_walk_1 : decode cX12_walk 1 = .ok (.iconst (-1), 1) := dkAt dk10bref8_cX12_walk_0_a 1 rfl
theorem dX12_walk_2 : decode cX12_walk 2 = .ok (.if_icmp .ne 12, 3) := dkAt dk10bref8_cX12_walk_0_a 2 rfl
theorem dX12_walk_14 : decode cX12_walk 14 = .ok (.iload_n 1, 1) := dkAt dk10bref8_cX12_walk_0_a 3 rfl
theorem dX12_walk_15 : decode cX12_walk 15 = .ok (.iconst 0, 1) := dkAt dk10bref8_cX12_walk_0_a 4 rfl
theorem dX12_walk_16 : decode cX12_walk 16 = .ok (.bipush 7, 2) := dkAt dk10bref8_cX12_walk_0_a 5 rfl
theorem dX12_walk_18 : decode cX12_walk 18 = .ok (.invokestatic 45, 3) := dkAt dk10bref8_cX12_walk_0_a 6 rfl
theorem dX12_walk_21 : decode cX12_walk 21 = .ok (.ifCond .ne 5, 3) := dkAt dk10bref8_cX12_walk_0_a 7 rfl
theorem dX12_walk_26 : decode cX12_walk 26 = .ok (.aload_n 0, 1) := dkAt dk10bref8_cX12_walk_0_a 8 rfl
theorem dX12_walk_27 : decode cX12_walk 27 = .ok (.getfield 9, 3) := dkAt dk10bref8_cX12_walk_0_a 9 rfl
theorem dX12_walk_30 : decode cX12_walk 30 = .ok (.iconst 2, 1) := dkAt dk10bref8_cX12_walk_0_a 10 rfl
theorem dX12_walk_31 : decode cX12_walk 31 = .ok (.iaload, 1) := dkAt dk10bref8_cX12_walk_0_a 11 rfl
theorem dX12_walk_32 : decode cX12_walk 32 = .ok (.bipush 6, 2) := dkAt dk10bref8_cX12_walk_0_a 12 rfl
theorem dX12_walk_34 : decode cX12_walk 34 = .ok (.if_icmp .ne 6, 3) := dkAt dk10bref8_cX12_walk_0_a 13 rfl
theorem dX12_walk_40 : decode cX12_walk 40 = .ok (.aload_n 0, 1) := dkAt dk10bref8_cX12_walk_0_a 14 rfl
theorem dX12_walk_41 : decode cX12_walk 41 = .ok (.getfield 9, 3) := dkAt dk10bref8_cX12_walk_0_a 15 rfl
theorem dX12_walk_44 : decode cX12_walk 44 = .ok (.bipush 73, 2) := dkAt dk10bref8_cX12_walk_0_a 16 rfl
theorem dX12_walk_46 : decode cX12_walk 46 = .ok (.aload_n 0, 1) := dkAt dk10bref8_cX12_walk_0_a 17 rfl
theorem dX12_walk_47 : decode cX12_walk 47 = .ok (.getfield 9, 3) := dkAt dk10bref8_cX12_walk_0_a 18 rfl
theorem dX12_walk_50 : decode cX12_walk 50 = .ok (.iconst 2, 1) := dkAt dk10bref8_cX12_walk_0_a 19 rfl
theorem dX12_walk_51 : decode cX12_walk 51 = .ok (.iaload, 1) := dkAt dk10bref8_cX12_walk_0_a 20 rfl
theorem dX12_walk_52 : decode cX12_walk 52 = .ok (.iadd, 1) := dkAt dk10bref8_cX12_walk_0_a 21 rfl
theorem dX12_walk_53 : decode cX12_walk 53 = .ok (.iload_n 1, 1) := dkAt dk10bref8_cX12_walk_0_a 22 rfl
theorem dX12_walk_54 : decode cX12_walk 54 = .ok (.iastore, 1) := dkAt dk10bref8_cX12_walk_0_a 23 rfl
theorem dX12_walk_55 : decode cX12_walk 55 = .ok (.aload_n 0, 1) := dkAt dk10bref8_cX12_walk_0_a 24 rfl
theorem dX12_walk_56 : decode cX12_walk 56 = .ok (.getfield 9, 3) := dkAt dk10bref8_cX12_walk_0_a 25 rfl
theorem dX12_walk_59 : decode cX12_walk 59 = .ok (.iconst 2, 1) := dkAt dk10bref8_cX12_walk_0_a 26 rfl
theorem dX12_walk_60 : decode cX12_walk 60 = .ok (.dup2, 1) := dkAt dk10bref8_cX12_walk_0_a 27 rfl
theorem dX12_walk_61 : decode cX12_walk 61 = .ok (.iaload, 1) := dkAt dk10bref8_cX12_walk_0_a 28 rfl
theorem dX12_walk_62 : decode cX12_walk 62 = .ok (.iconst 1, 1) := dkAt dk10bref8_cX12_walk_0_a 29 rfl
theorem dX12_walk_63 : decode cX12_walk 63 = .ok (.iadd, 1) := dkAt dk10bref8_cX12_walk_0_a 30 rfl
theorem dX12_walk_64 : decode cX12_walk 64 = .ok (.iastore, 1) := dkAt dk10bref8_cX12_walk_0_a 31 rfl
theorem dX12_walk_65 : decode cX12_walk 65 = .ok (.aload_n 0, 1) := dkAt dk10bref8_cX12_walk_0_a 32 rfl
theorem dX12_walk_66 : decode cX12_walk 66 = .ok (.getfield 9, 3) := dkAt dk10bref8_cX12_walk_0_a 33 rfl
theorem dX12_walk_69 : decode cX12_walk 69 = .ok (.iconst 2, 1) := dkAt dk10bref8_cX12_walk_0_a 34 rfl
theorem dX12_walk_70 : decode cX12_walk 70 = .ok (.iaload, 1) := dkAt dk10bref8_cX12_walk_0_a 35 rfl
theorem dX12_walk_71 : decode cX12_walk 71 = .ok (.ireturn, 1) := dkAt dk10bref8_cX12_walk_0_a 36 rfl
theorem dX12_walk_37 : decode cX12_walk 37 = .ok (.bipush (-4), 2) := dkAt dk10bref8_cX12_walk_0_a 37 rfl
theorem dX12_walk_39 : decode cX12_walk 39 = .ok (.ireturn, 1) := dkAt dk10bref8_cX12_walk_0_a 38 rfl
theorem dX12_walk_24 : decode cX12_walk 24 = .ok (.iconst (-1), 1) := dkAt dk10bref8_cX12_walk_0_a 39 rfl
noncomputable def dk10bref8_cX12_walk_40 : List (Nat × Instr × Nat) := [(25, .ireturn, 1), (5, .aload_n 0, 1), (6, .getfield 9, 3), (9, .iconst 2, 1), (10, .iconst 0, 1), (11, .iastore, 1), (12, .iconst 0, 1), (13, .ireturn, 1)]
set_option maxRecDepth 100000 in
theorem dk10bref8_cX12_walk_40_a : dkA cX12_walk dk10bref8_cX12_walk_40 = true := by decide +kernel
theorem dX12_walk_25 : decode cX12_walk 25 = .ok (.ireturn, 1) := dkAt dk10bref8_cX12_walk_40_a 0 rfl
theorem dX12_walk_5 : decode cX12_walk 5 = .ok (.aload_n 0, 1) := dkAt dk10bref8_cX12_walk_40_a 1 rfl
theorem dX12_walk_6 : decode cX12_walk 6 = .ok (.getfield 9, 3) := dkAt dk10bref8_cX12_walk_40_a 2 rfl
theorem dX12_walk_9 : decode cX12_walk 9 = .ok (.iconst 2, 1) := dkAt dk10bref8_cX12_walk_40_a 3 rfl
theorem dX12_walk_10 : decode cX12_walk 10 = .ok (.iconst 0, 1) := dkAt dk10bref8_cX12_walk_40_a 4 rfl
theorem dX12_walk_11 : decode cX12_walk 11 = .ok (.iastore, 1) := dkAt dk10bref8_cX12_walk_40_a 5 rfl
theorem dX12_walk_12 : decode cX12_walk 12 = .ok (.iconst 0, 1) := dkAt dk10bref8_cX12_walk_40_a 6 rfl
theorem dX12_walk_13 : decode cX12_walk 13 = .ok (.ireturn, 1) := dkAt dk10bref8_cX12_walk_40_a 7 rfl
noncomputable def dk10bref8_cX12_feed_0 : List (Nat × Instr × Nat) := [(0, .iload_n 1, 1), (1, .iconst 0, 1), (2, .bipush 127, 2), (4, .invokestatic 45, 3), (7, .ifCond .ne 6, 3), (13, .aload_n 0, 1), (14, .getfield 9, 3), (17, .iconst 4, 1), (18, .iaload, 1), (19, .bipush 100, 2), (21, .if_icmp .ne 6, 3), (27, .aload_n 0, 1), (28, .getfield 9, 3), (31, .bipush 91, 2), (33, .aload_n 0, 1), (34, .getfield 9, 3), (37, .iconst 4, 1), (38, .iaload, 1), (39, .iadd, 1), (40, .iload_n 1, 1), (41, .iastore, 1), (42, .aload_n 0, 1), (43, .getfield 9, 3), (46, .iconst 4, 1), (47, .dup2, 1), (48, .iaload, 1), (49, .iconst 1, 1), (50, .iadd, 1), (51, .iastore, 1), (52, .aload_n 0, 1), (53, .getfield 9, 3), (56, .iconst 4, 1), (57, .iaload, 1), (58, .ireturn, 1), (24, .bipush (-4), 2), (26, .ireturn, 1), (10, .bipush (-2), 2), (12, .ireturn, 1)]
set_option maxRecDepth 100000 in
theorem dk10bref8_cX12_feed_0_a : dkA cX12_feed dk10bref8_cX12_feed_0 = true := by decide +kernel
theorem dX12_feed_0 : decode cX12_feed 0 = .ok (.iload_n 1, 1) := dkAt dk10bref8_cX12_feed_0_a 0 rfl
theorem dX12_feed_1 : decode cX12_feed 1 = .ok (.iconst 0, 1) := dkAt dk10bref8_cX12_feed_0_a 1 rfl
theorem dX12_feed_2 : decode cX12_feed 2 = .ok (.bipush 127, 2) := dkAt dk10bref8_cX12_feed_0_a 2 rfl
theorem dX12_feed_4 : decode cX12_feed 4 = .ok (.invokestatic 45, 3) := dkAt dk10bref8_cX12_feed_0_a 3 rfl
theorem dX12_feed_7 : decode cX12_feed 7 = .ok (.ifCond .ne 6, 3) := dkAt dk10bref8_cX12_feed_0_a 4 rfl
theorem dX12_feed_13 : decode cX12_feed 13 = .ok (.aload_n 0, 1) := dkAt dk10bref8_cX12_feed_0_a 5 rfl
theorem dX12_feed_14 : decode cX12_feed 14 = .ok (.getfield 9, 3) := dkAt dk10bref8_cX12_feed_0_a 6 rfl
theorem dX12_feed_17 : decode cX12_feed 17 = .ok (.iconst 4, 1) := dkAt dk10bref8_cX12_feed_0_a 7 rfl
theorem dX12_feed_18 : decode cX12_feed 18 = .ok (.iaload, 1) := dkAt dk10bref8_cX12_feed_0_a 8 rfl
theorem dX12_feed_19 : decode cX12_feed 19 = .ok (.bipush 100, 2) := dkAt dk10bref8_cX12_feed_0_a 9 rfl
theorem dX12_feed_21 : decode cX12_feed 21 = .ok (.if_icmp .ne 6, 3) := dkAt dk10bref8_cX12_feed_0_a 10 rfl
theorem dX12_feed_27 : decode cX12_feed 27 = .ok (.aload_n 0, 1) := dkAt dk10bref8_cX12_feed_0_a 11 rfl
theorem dX12_feed_28 : decode cX12_feed 28 = .ok (.getfield 9, 3) := dkAt dk10bref8_cX12_feed_0_a 12 rfl
theorem dX12_feed_31 : decode cX12_feed 31 = .ok (.bipush 91, 2) := dkAt dk10bref8_cX12_feed_0_a 13 rfl
theorem dX12_feed_33 : decode cX12_feed 33 = .ok (.aload_n 0, 1) := dkAt dk10bref8_cX12_feed_0_a 14 rfl
theorem dX12_feed_34 : decode cX12_feed 34 = .ok (.getfield 9, 3) := dkAt dk10bref8_cX12_feed_0_a 15 rfl
theorem dX12_feed_37 : decode cX12_feed 37 = .ok (.iconst 4, 1) := dkAt dk10bref8_cX12_feed_0_a 16 rfl
theorem dX12_feed_38 : decode cX12_feed 38 = .ok (.iaload, 1) := dkAt dk10bref8_cX12_feed_0_a 17 rfl
theorem dX12_feed_39 : decode cX12_feed 39 = .ok (.iadd, 1) := dkAt dk10bref8_cX12_feed_0_a 18 rfl
theorem dX12_feed_40 : decode cX12_feed 40 = .ok (.iload_n 1, 1) := dkAt dk10bref8_cX12_feed_0_a 19 rfl
theorem dX12_feed_41 : decode cX12_feed 41 = .ok (.iastore, 1) := dkAt dk10bref8_cX12_feed_0_a 20 rfl
theorem dX12_feed_42 : decode cX12_feed 42 = .ok (.aload_n 0, 1) := dkAt dk10bref8_cX12_feed_0_a 21 rfl
theorem dX12_feed_43 : decode cX12_feed 43 = .ok (.getfield 9, 3) := dkAt dk10bref8_cX12_feed_0_a 22 rfl
theorem dX12_feed_46 : decode cX12_feed 46 = .ok (.iconst 4, 1) := dkAt dk10bref8_cX12_feed_0_a 23 rfl
theorem dX12_feed_47 : decode cX12_feed 47 = .ok (.dup2, 1) := dkAt dk10bref8_cX12_feed_0_a 24 rfl
theorem dX12_feed_48 : decode cX12_feed 48 = .ok (.iaload, 1) := dkAt dk10bref8_cX12_feed_0_a 25 rfl
theorem dX12_feed_49 : decode cX12_feed 49 = .ok (.iconst 1, 1) := dkAt dk10bref8_cX12_feed_0_a 26 rfl
theorem dX12_feed_50 : decode cX12_feed 50 = .ok (.iadd, 1) := dkAt dk10bref8_cX12_feed_0_a 27 rfl
theorem dX12_feed_51 : decode cX12_feed 51 = .ok (.iastore, 1) := dkAt dk10bref8_cX12_feed_0_a 28 rfl
theorem dX12_feed_52 : decode cX12_feed 52 = .ok (.aload_n 0, 1) := dkAt dk10bref8_cX12_feed_0_a 29 rfl
theorem dX12_feed_53 : decode cX12_feed 53 = .ok (.getfield 9, 3) := dkAt dk10bref8_cX12_feed_0_a 30 rfl
theorem dX12_feed_56 : decode cX12_feed 56 = .ok (.iconst 4, 1) := dkAt dk10bref8_cX12_feed_0_a 31 rfl
theorem dX12_feed_57 : decode cX12_feed 57 = .ok (.iaload, 1) := dkAt dk10bref8_cX12_feed_0_a 32 rfl
theorem dX12_feed_58 : decode cX12_feed 58 = .ok (.ireturn, 1) := dkAt dk10bref8_cX12_feed_0_a 33 rfl
theorem dX12_feed_24 : decode cX12_feed 24 = .ok (.bipush (-4), 2) := dkAt dk10bref8_cX12_feed_0_a 34 rfl
theorem dX12_feed_26 : decode cX12_feed 26 = .ok (.ireturn, 1) := dkAt dk10bref8_cX12_feed_0_a 35 rfl
theorem dX12_feed_10 : decode cX12_feed 10 = .ok (.bipush (-2), 2) := dkAt dk10bref8_cX12_feed_0_a 36 rfl
theorem dX12_feed_12 : decode cX12_feed 12 = .ok (.ireturn, 1) := dkAt dk10bref8_cX12_feed_0_a 37 rfl
noncomputable def dk10bref8_cX12_book_0 : List (Nat × Instr × Nat) := [(0, .iload_n 1, 1), (1, .iconst (-1), 1), (2, .if_icmp .ne 12, 3), (14, .aload_n 0, 1), (15, .iload_n 1, 1), (16, .invokevirtual 164, 3), (19, .ifCond .ne 5, 3), (24, .aload_n 0, 1), (25, .getfield 9, 3), (28, .iconst 3, 1), (29, .iaload, 1), (30, .bipush 12, 2), (32, .if_icmp .ne 6, 3), (38, .aload_n 0, 1), (39, .getfield 9, 3), (42, .bipush 79, 2), (44, .aload_n 0, 1), (45, .getfield 9, 3), (48, .iconst 3, 1), (49, .iaload, 1), (50, .iadd, 1), (51, .iload_n 1, 1), (52, .iastore, 1), (53, .aload_n 0, 1), (54, .getfield 9, 3), (57, .iconst 3, 1), (58, .dup2, 1), (59, .iaload, 1), (60, .iconst 1, 1), (61, .iadd, 1), (62, .iastore, 1), (63, .aload_n 0, 1), (64, .getfield 9, 3), (67, .iconst 3, 1), (68, .iaload, 1), (69, .ireturn, 1), (35, .bipush (-4), 2), (37, .ireturn, 1), (22, .iconst (-1), 1), (23, .ireturn, 1)]
set_option maxRecDepth 100000 in
theorem dk10bref8_cX12_book_0_a : dkA cX12_book dk10bref8_cX12_book_0 = true := by decide +kernel
theorem dX12_book_0 : decode cX12_book 0 = .ok (.iload_n 1, 1) := dkAt dk10bref8_cX12_book_0_a 0 rfl
theorem dX12_book_1 : decode cX12_book 1 = .ok (.iconst (-1), 1) := dkAt dk10bref8_cX12_book_0_a 1 rfl
theorem dX12_book_2 : decode cX12_book 2 = .ok (.if_icmp .ne 12, 3) := dkAt dk10bref8_cX12_book_0_a 2 rfl
theorem dX12_book_14 : decode cX12_book 14 = .ok (.aload_n 0, 1) := dkAt dk10bref8_cX12_book_0_a 3 rfl
theorem dX12_book_15 : decode cX12_book 15 = .ok (.iload_n 1, 1) := dkAt dk10bref8_cX12_book_0_a 4 rfl
theorem dX12_book_16 : decode cX12_book 16 = .ok (.invokevirtual 164, 3) := dkAt dk10bref8_cX12_book_0_a 5 rfl
theorem dX12_book_19 : decode cX12_book 19 = .ok (.ifCond .ne 5, 3) := dkAt dk10bref8_cX12_book_0_a 6 rfl
theorem dX12_book_24 : decode cX12_book 24 = .ok (.aload_n 0, 1) := dkAt dk10bref8_cX12_book_0_a 7 rfl
theorem dX12_book_25 : decode cX12_book 25 = .ok (.getfield 9, 3) := dkAt dk10bref8_cX12_book_0_a 8 rfl
theorem dX12_book_28 : decode cX12_book 28 = .ok (.iconst 3, 1) := dkAt dk10bref8_cX12_book_0_a 9 rfl
theorem dX12_book_29 : decode cX12_book 29 = .ok (.iaload, 1) := dkAt dk10bref8_cX12_book_0_a 10 rfl
theorem dX12_book_30 : decode cX12_book 30 = .ok (.bipush 12, 2) := dkAt dk10bref8_cX12_book_0_a 11 rfl
theorem dX12_book_32 : decode cX12_book 32 = .ok (.if_icmp .ne 6, 3) := dkAt dk10bref8_cX12_book_0_a 12 rfl
theorem dX12_book_38 : decode cX12_book 38 = .ok (.aload_n 0, 1) := dkAt dk10bref8_cX12_book_0_a 13 rfl
theorem dX12_book_39 : decode cX12_book 39 = .ok (.getfield 9, 3) := dkAt dk10bref8_cX12_book_0_a 14 rfl
theorem dX12_book_42 : decode cX12_book 42 = .ok (.bipush 79, 2) := dkAt dk10bref8_cX12_book_0_a 15 rfl
theorem dX12_book_44 : decode cX12_book 44 = .ok (.aload_n 0, 1) := dkAt dk10bref8_cX12_book_0_a 16 rfl
theorem dX12_book_45 : decode cX12_book 45 = .ok (.getfield 9, 3) := dkAt dk10bref8_cX12_book_0_a 17 rfl
theorem dX12_book_48 : decode cX12_book 48 = .ok (.iconst 3, 1) := dkAt dk10bref8_cX12_book_0_a 18 rfl
theorem dX12_book_49 : decode cX12_book 49 = .ok (.iaload, 1) := dkAt dk10bref8_cX12_book_0_a 19 rfl
theorem dX12_book_50 : decode cX12_book 50 = .ok (.iadd, 1) := dkAt dk10bref8_cX12_book_0_a 20 rfl
theorem dX12_book_51 : decode cX12_book 51 = .ok (.iload_n 1, 1) := dkAt dk10bref8_cX12_book_0_a 21 rfl
theorem dX12_book_52 : decode cX12_book 52 = .ok (.iastore, 1) := dkAt dk10bref8_cX12_book_0_a 22 rfl
theorem dX12_book_53 : decode cX12_book 53 = .ok (.aload_n 0, 1) := dkAt dk10bref8_cX12_book_0_a 23 rfl
theorem dX12_book_54 : decode cX12_book 54 = .ok (.getfield 9, 3) := dkAt dk10bref8_cX12_book_0_a 24 rfl
theorem dX12_book_57 : decode cX12_book 57 = .ok (.iconst 3, 1) := dkAt dk10bref8_cX12_book_0_a 25 rfl
theorem dX12_book_58 : decode cX12_book 58 = .ok (.dup2, 1) := dkAt dk10bref8_cX12_book_0_a 26 rfl
theorem dX12_book_59 : decode cX12_book 59 = .ok (.iaload, 1) := dkAt dk10bref8_cX12_book_0_a 27 rfl
theorem dX12_book_60 : decode cX12_book 60 = .ok (.iconst 1, 1) := dkAt dk10bref8_cX12_book_0_a 28 rfl
theorem dX12_book_61 : decode cX12_book 61 = .ok (.iadd, 1) := dkAt dk10bref8_cX12_book_0_a 29 rfl
theorem dX12_book_62 : decode cX12_book 62 = .ok (.iastore, 1) := dkAt dk10bref8_cX12_book_0_a 30 rfl
theorem dX12_book_63 : decode cX12_book 63 = .ok (.aload_n 0, 1) := dkAt dk10bref8_cX12_book_0_a 31 rfl
theorem dX12_book_64 : decode cX12_book 64 = .ok (.getfield 9, 3) := dkAt dk10bref8_cX12_book_0_a 32 rfl
theorem dX12_book_67 : decode cX12_book 67 = .ok (.iconst 3, 1) := dkAt dk10bref8_cX12_book_0_a 33 rfl
theorem dX12_book_68 : decode cX12_book 68 = .ok (.iaload, 1) := dkAt dk10bref8_cX12_book_0_a 34 rfl
theorem dX12_book_69 : decode cX12_book 69 = .ok (.ireturn, 1) := dkAt dk10bref8_cX12_book_0_a 35 rfl
theorem dX12_book_35 : decode cX12_book 35 = .ok (.bipush (-4), 2) := dkAt dk10bref8_cX12_book_0_a 36 rfl
theorem dX12_book_37 : decode cX12_book 37 = .ok (.ireturn, 1) := dkAt dk10bref8_cX12_book_0_a 37 rfl
theorem dX12_book_22 : decode cX12_book 22 = .ok (.iconst (-1), 1) := dkAt dk10bref8_cX12_book_0_a 38 rfl
theorem dX12_book_23 : decode cX12_book 23 = .ok (.ireturn, 1) := dkAt dk10bref8_cX12_book_0_a 39 rfl
noncomputable def dk10bref8_cX12_book_40 : List (Nat × Instr × Nat) := [(5, .aload_n 0, 1), (6, .getfield 9, 3), (9, .iconst 3, 1), (10, .iconst 0, 1), (11, .iastore, 1), (12, .iconst 0, 1), (13, .ireturn, 1)]
set_option maxRecDepth 100000 in
theorem dk10bref8_cX12_book_40_a : dkA cX12_book dk10bref8_cX12_book_40 = true := by decide +kernel
theorem dX12_book_5 : decode cX12_book 5 = .ok (.aload_n 0, 1) := dkAt dk10bref8_cX12_book_40_a 0 rfl
theorem dX12_book_6 : decode cX12_book 6 = .ok (.getfield 9, 3) := dkAt dk10bref8_cX12_book_40_a 1 rfl
theorem dX12_book_9 : decode cX12_book 9 = .ok (.iconst 3, 1) := dkAt dk10bref8_cX12_book_40_a 2 rfl
theorem dX12_book_10 : decode cX12_book 10 = .ok (.iconst 0, 1) := dkAt dk10bref8_cX12_book_40_a 3 rfl
theorem dX12_book_11 : decode cX12_book 11 = .ok (.iastore, 1) := dkAt dk10bref8_cX12_book_40_a 4 rfl
theorem dX12_book_12 : decode cX12_book 12 = .ok (.iconst 0, 1) := dkAt dk10bref8_cX12_book_40_a 5 rfl
theorem dX12_book_13 : decode cX12_book 13 = .ok (.ireturn, 1) := dkAt dk10bref8_cX12_book_40_a 6 rfl
noncomputable def dk10bref8_cX12_set_0 : List (Nat × Instr × Nat) := [(0, .iload_n 1, 1), (1, .iconst 0, 1), (2, .iconst 1, 1), (3, .invokestatic 45, 3), (6, .ifCond .ne 5, 3), (11, .iload_n 2, 1), (12, .iconst 0, 1), (13, .bipush 9, 2), (15, .invokestatic 45, 3), (18, .ifCond .ne 6, 3), (24, .aload_n 0, 1), (25, .getfield 9, 3), (28, .bipush 6, 2), (30, .iload_n 1, 1), (31, .iadd, 1), (32, .iaload, 1), (33, .istore_n 3, 1), (34, .aload_n 0, 1), (35, .getfield 9, 3), (38, .bipush 6, 2), (40, .iload_n 1, 1), (41, .iadd, 1), (42, .iload_n 2, 1), (43, .iastore, 1), (44, .iload_n 3, 1), (45, .ireturn, 1), (21, .bipush (-2), 2), (23, .ireturn, 1), (9, .iconst (-1), 1), (10, .ireturn, 1)]
set_option maxRecDepth 100000 in
theorem dk10bref8_cX12_set_0_a : dkA cX12_set dk10bref8_cX12_set_0 = true := by decide +kernel
theorem dX12_set_0 : decode cX12_set 0 = .ok (.iload_n 1, 1) := dkAt dk10bref8_cX12_set_0_a 0 rfl
theorem dX12_set_1 : decode cX12_set 1 = .ok (.iconst 0, 1) := dkAt dk10bref8_cX12_set_0_a 1 rfl
theorem dX12_set_2 : decode cX12_set 2 = .ok (.iconst 1, 1) := dkAt dk10bref8_cX12_set_0_a 2 rfl
theorem dX12_set_3 : decode cX12_set 3 = .ok (.invokestatic 45, 3) := dkAt dk10bref8_cX12_set_0_a 3 rfl
theorem dX12_set_6 : decode cX12_set 6 = .ok (.ifCond .ne 5, 3) := dkAt dk10bref8_cX12_set_0_a 4 rfl
theorem dX12_set_11 : decode cX12_set 11 = .ok (.iload_n 2, 1) := dkAt dk10bref8_cX12_set_0_a 5 rfl
theorem dX12_set_12 : decode cX12_set 12 = .ok (.iconst 0, 1) := dkAt dk10bref8_cX12_set_0_a 6 rfl
theorem dX12_set_13 : decode cX12_set 13 = .ok (.bipush 9, 2) := dkAt dk10bref8_cX12_set_0_a 7 rfl
theorem dX12_set_15 : decode cX12_set 15 = .ok (.invokestatic 45, 3) := dkAt dk10bref8_cX12_set_0_a 8 rfl
theorem dX12_set_18 : decode cX12_set 18 = .ok (.ifCond .ne 6, 3) := dkAt dk10bref8_cX12_set_0_a 9 rfl
theorem dX12_set_24 : decode cX12_set 24 = .ok (.aload_n 0, 1) := dkAt dk10bref8_cX12_set_0_a 10 rfl
theorem dX12_set_25 : decode cX12_set 25 = .ok (.getfield 9, 3) := dkAt dk10bref8_cX12_set_0_a 11 rfl
theorem dX12_set_28 : decode cX12_set 28 = .ok (.bipush 6, 2) := dkAt dk10bref8_cX12_set_0_a 12 rfl
theorem dX12_set_30 : decode cX12_set 30 = .ok (.iload_n 1, 1) := dkAt dk10bref8_cX12_set_0_a 13 rfl
theorem dX12_set_31 : decode cX12_set 31 = .ok (.iadd, 1) := dkAt dk10bref8_cX12_set_0_a 14 rfl
theorem dX12_set_32 : decode cX12_set 32 = .ok (.iaload, 1) := dkAt dk10bref8_cX12_set_0_a 15 rfl
theorem dX12_set_33 : decode cX12_set 33 = .ok (.istore_n 3, 1) := dkAt dk10bref8_cX12_set_0_a 16 rfl
theorem dX12_set_34 : decode cX12_set 34 = .ok (.aload_n 0, 1) := dkAt dk10bref8_cX12_set_0_a 17 rfl
theorem dX12_set_35 : decode cX12_set 35 = .ok (.getfield 9, 3) := dkAt dk10bref8_cX12_set_0_a 18 rfl
theorem dX12_set_38 : decode cX12_set 38 = .ok (.bipush 6, 2) := dkAt dk10bref8_cX12_set_0_a 19 rfl
theorem dX12_set_40 : decode cX12_set 40 = .ok (.iload_n 1, 1) := dkAt dk10bref8_cX12_set_0_a 20 rfl
theorem dX12_set_41 : decode cX12_set 41 = .ok (.iadd, 1) := dkAt dk10bref8_cX12_set_0_a 21 rfl
theorem dX12_set_42 : decode cX12_set 42 = .ok (.iload_n 2, 1) := dkAt dk10bref8_cX12_set_0_a 22 rfl
theorem dX12_set_43 : decode cX12_set 43 = .ok (.iastore, 1) := dkAt dk10bref8_cX12_set_0_a 23 rfl
theorem dX12_set_44 : decode cX12_set 44 = .ok (.iload_n 3, 1) := dkAt dk10bref8_cX12_set_0_a 24 rfl
theorem dX12_set_45 : decode cX12_set 45 = .ok (.ireturn, 1) := dkAt dk10bref8_cX12_set_0_a 25 rfl
theorem dX12_set_21 : decode cX12_set 21 = .ok (.bipush (-2), 2) := dkAt dk10bref8_cX12_set_0_a 26 rfl
theorem dX12_set_23 : decode cX12_set 23 = .ok (.ireturn, 1) := dkAt dk10bref8_cX12_set_0_a 27 rfl
theorem dX12_set_9 : decode cX12_set 9 = .ok (.iconst (-1), 1) := dkAt dk10bref8_cX12_set_0_a 28 rfl
theorem dX12_set_10 : decode cX12_set 10 = .ok (.ireturn, 1) := dkAt dk10bref8_cX12_set_0_a 29 rfl
noncomputable def dk10bref8_cX12_edgesMany_0 : List (Nat × Instr × Nat) := [(0, .iconst 0, 1), (1, .istore_n 1, 1), (2, .iconst 0, 1), (3, .istore_n 2, 1), (4, .iload_n 2, 1), (5, .bipush 36, 2), (7, .if_icmp .ge 21, 3), (28, .iload_n 1, 1), (29, .ireturn, 1), (10, .iload_n 1, 1), (11, .aload_n 0, 1), (12, .getfield 9, 3), (15, .bipush 37, 2), (17, .iload_n 2, 1), (18, .iadd, 1), (19, .iaload, 1), (20, .iadd, 1), (21, .istore_n 1, 1), (22, .iinc 2 1, 3), (25, .goto (-21), 3)]
set_option maxRecDepth 100000 in
theorem dk10bref8_cX12_edgesMany_0_a : dkA cX12_edgesMany dk10bref8_cX12_edgesMany_0 = true := by decide +kernel
theorem dX12_edgesMany_0 : decode cX12_edgesMany 0 = .ok (.iconst 0, 1) := dkAt dk10bref8_cX12_edgesMany_0_a 0 rfl
theorem dX12_edgesMany_1 : decode cX12_edgesMany 1 = .ok (.istore_n 1, 1) := dkAt dk10bref8_cX12_edgesMany_0_a 1 rfl
theorem dX12_edgesMany_2 : decode cX12_edgesMany 2 = .ok (.iconst 0, 1) := dkAt dk10bref8_cX12_edgesMany_0_a 2 rfl
theorem dX12_edgesMany_3 : decode cX12_edgesMany 3 = .ok (.istore_n 2, 1) := dkAt dk10bref8_cX12_edgesMany_0_a 3 rfl
theorem dX12_edgesMany_4 : decode cX12_edgesMany 4 = .ok (.iload_n 2, 1) := dkAt dk10bref8_cX12_edgesMany_0_a 4 rfl
theorem dX12_edgesMany_5 : decode cX12_edgesMany 5 = .ok (.bipush 36, 2) := dkAt dk10bref8_cX12_edgesMany_0_a 5 rfl
theorem dX12_edgesMany_7 : decode cX12_edgesMany 7 = .ok (.if_icmp .ge 21, 3) := dkAt dk10bref8_cX12_edgesMany_0_a 6 rfl
theorem dX12_edgesMany_28 : decode cX12_edgesMany 28 = .ok (.iload_n 1, 1) := dkAt dk10bref8_cX12_edgesMany_0_a 7 rfl
theorem dX12_edgesMany_29 : decode cX12_edgesMany 29 = .ok (.ireturn, 1) := dkAt dk10bref8_cX12_edgesMany_0_a 8 rfl
theorem dX12_edgesMany_10 : decode cX12_edgesMany 10 = .ok (.iload_n 1, 1) := dkAt dk10bref8_cX12_edgesMany_0_a 9 rfl
theorem dX12_edgesMany_11 : decode cX12_edgesMany 11 = .ok (.aload_n 0, 1) := dkAt dk10bref8_cX12_edgesMany_0_a 10 rfl
theorem dX12_edgesMany_12 : decode cX12_edgesMany 12 = .ok (.getfield 9, 3) := dkAt dk10bref8_cX12_edgesMany_0_a 11 rfl
theorem dX12_edgesMany_15 : decode cX12_edgesMany 15 = .ok (.bipush 37, 2) := dkAt dk10bref8_cX12_edgesMany_0_a 12 rfl
theorem dX12_edgesMany_17 : decode cX12_edgesMany 17 = .ok (.iload_n 2, 1) := dkAt dk10bref8_cX12_edgesMany_0_a 13 rfl
theorem dX12_edgesMany_18 : decode cX12_edgesMany 18 = .ok (.iadd, 1) := dkAt dk10bref8_cX12_edgesMany_0_a 14 rfl
theorem dX12_edgesMany_19 : decode cX12_edgesMany 19 = .ok (.iaload, 1) := dkAt dk10bref8_cX12_edgesMany_0_a 15 rfl
theorem dX12_edgesMany_20 : decode cX12_edgesMany 20 = .ok (.iadd, 1) := dkAt dk10bref8_cX12_edgesMany_0_a 16 rfl
theorem dX12_edgesMany_21 : decode cX12_edgesMany 21 = .ok (.istore_n 1, 1) := dkAt dk10bref8_cX12_edgesMany_0_a 17 rfl
theorem dX12_edgesMany_22 : decode cX12_edgesMany 22 = .ok (.iinc 2 1, 3) := dkAt dk10bref8_cX12_edgesMany_0_a 18 rfl
theorem dX12_edgesMany_25 : decode cX12_edgesMany 25 = .ok (.goto (-21), 3) := dkAt dk10bref8_cX12_edgesMany_0_a 19 rfl
noncomputable def dk10bref8_cX12_edges_0 : List (Nat × Instr × Nat) := [(0, .lload_n 1, 1), (1, .lconst 0, 1), (2, .lcmp, 1), (3, .ifCond .lt 12, 3), (15, .bipush (-2), 2), (17, .ireturn, 1), (6, .lload_n 1, 1), (7, .bipush 36, 2), (9, .lshr, 1), (10, .lconst 0, 1), (11, .lcmp, 1), (12, .ifCond .eq 6, 3), (18, .aload_n 0, 1), (19, .invokevirtual 137, 3), (22, .istore_n 3, 1), (23, .iconst 0, 1), (24, .istore 4, 2), (26, .iload 4, 2), (28, .bipush 36, 2), (30, .if_icmp .ge 26, 3), (56, .iload_n 3, 1), (57, .ireturn, 1), (33, .aload_n 0, 1), (34, .getfield 9, 3), (37, .bipush 37, 2), (39, .iload 4, 2), (41, .iadd, 1), (42, .lload_n 1, 1), (43, .iload 4, 2), (45, .lshr, 1), (46, .lconst 1, 1), (47, .land, 1), (48, .l2i, 1), (49, .iastore, 1), (50, .iinc 4 1, 3), (53, .goto (-27), 3)]
set_option maxRecDepth 100000 in
theorem dk10bref8_cX12_edges_0_a : dkA cX12_edges dk10bref8_cX12_edges_0 = true := by decide +kernel
theorem dX12_edges_0 : decode cX12_edges 0 = .ok (.lload_n 1, 1) := dkAt dk10bref8_cX12_edges_0_a 0 rfl
theorem dX12_edges_1 : decode cX12_edges 1 = .ok (.lconst 0, 1) := dkAt dk10bref8_cX12_edges_0_a 1 rfl
theorem dX12_edges_2 : decode cX12_edges 2 = .ok (.lcmp, 1) := dkAt dk10bref8_cX12_edges_0_a 2 rfl
theorem dX12_edges_3 : decode cX12_edges 3 = .ok (.ifCond .lt 12, 3) := dkAt dk10bref8_cX12_edges_0_a 3 rfl
theorem dX12_edges_15 : decode cX12_edges 15 = .ok (.bipush (-2), 2) := dkAt dk10bref8_cX12_edges_0_a 4 rfl
theorem dX12_edges_17 : decode cX12_edges 17 = .ok (.ireturn, 1) := dkAt dk10bref8_cX12_edges_0_a 5 rfl
theorem dX12_edges_6 : decode cX12_edges 6 = .ok (.lload_n 1, 1) := dkAt dk10bref8_cX12_edges_0_a 6 rfl
theorem dX12_edges_7 : decode cX12_edges 7 = .ok (.bipush 36, 2) := dkAt dk10bref8_cX12_edges_0_a 7 rfl
theorem dX12_edges_9 : decode cX12_edges 9 = .ok (.lshr, 1) := dkAt dk10bref8_cX12_edges_0_a 8 rfl
theorem dX12_edges_10 : decode cX12_edges 10 = .ok (.lconst 0, 1) := dkAt dk10bref8_cX12_edges_0_a 9 rfl
theorem dX12_edges_11 : decode cX12_edges 11 = .ok (.lcmp, 1) := dkAt dk10bref8_cX12_edges_0_a 10 rfl
theorem dX12_edges_12 : decode cX12_edges 12 = .ok (.ifCond .eq 6, 3) := dkAt dk10bref8_cX12_edges_0_a 11 rfl
theorem dX12_edges_18 : decode cX12_edges 18 = .ok (.aload_n 0, 1) := dkAt dk10bref8_cX12_edges_0_a 12 rfl
theorem dX12_edges_19 : decode cX12_edges 19 = .ok (.invokevirtual 137, 3) := dkAt dk10bref8_cX12_edges_0_a 13 rfl
theorem dX12_edges_22 : decode cX12_edges 22 = .ok (.istore_n 3, 1) := dkAt dk10bref8_cX12_edges_0_a 14 rfl
theorem dX12_edges_23 : decode cX12_edges 23 = .ok (.iconst 0, 1) := dkAt dk10bref8_cX12_edges_0_a 15 rfl
theorem dX12_edges_24 : decode cX12_edges 24 = .ok (.istore 4, 2) := dkAt dk10bref8_cX12_edges_0_a 16 rfl
theorem dX12_edges_26 : decode cX12_edges 26 = .ok (.iload 4, 2) := dkAt dk10bref8_cX12_edges_0_a 17 rfl
theorem dX12_edges_28 : decode cX12_edges 28 = .ok (.bipush 36, 2) := dkAt dk10bref8_cX12_edges_0_a 18 rfl
theorem dX12_edges_30 : decode cX12_edges 30 = .ok (.if_icmp .ge 26, 3) := dkAt dk10bref8_cX12_edges_0_a 19 rfl
theorem dX12_edges_56 : decode cX12_edges 56 = .ok (.iload_n 3, 1) := dkAt dk10bref8_cX12_edges_0_a 20 rfl
theorem dX12_edges_57 : decode cX12_edges 57 = .ok (.ireturn, 1) := dkAt dk10bref8_cX12_edges_0_a 21 rfl
theorem dX12_edges_33 : decode cX12_edges 33 = .ok (.aload_n 0, 1) := dkAt dk10bref8_cX12_edges_0_a 22 rfl
theorem dX12_edges_34 : decode cX12_edges 34 = .ok (.getfield 9, 3) := dkAt dk10bref8_cX12_edges_0_a 23 rfl
theorem dX12_edges_37 : decode cX12_edges 37 = .ok (.bipush 37, 2) := dkAt dk10bref8_cX12_edges_0_a 24 rfl
theorem dX12_edges_39 : decode cX12_edges 39 = .ok (.iload 4, 2) := dkAt dk10bref8_cX12_edges_0_a 25 rfl
theorem dX12_edges_41 : decode cX12_edges 41 = .ok (.iadd, 1) := dkAt dk10bref8_cX12_edges_0_a 26 rfl
theorem dX12_edges_42 : decode cX12_edges 42 = .ok (.lload_n 1, 1) := dkAt dk10bref8_cX12_edges_0_a 27 rfl
theorem dX12_edges_43 : decode cX12_edges 43 = .ok (.iload 4, 2) := dkAt dk10bref8_cX12_edges_0_a 28 rfl
theorem dX12_edges_45 : decode cX12_edges 45 = .ok (.lshr, 1) := dkAt dk10bref8_cX12_edges_0_a 29 rfl
theorem dX12_edges_46 : decode cX12_edges 46 = .ok (.lconst 1, 1) := dkAt dk10bref8_cX12_edges_0_a 30 rfl
theorem dX12_edges_47 : decode cX12_edges 47 = .ok (.land, 1) := dkAt dk10bref8_cX12_edges_0_a 31 rfl
theorem dX12_edges_48 : decode cX12_edges 48 = .ok (.l2i, 1) := dkAt dk10bref8_cX12_edges_0_a 32 rfl
theorem dX12_edges_49 : decode cX12_edges 49 = .ok (.iastore, 1) := dkAt dk10bref8_cX12_edges_0_a 33 rfl
theorem dX12_edges_50 : decode cX12_edges 50 = .ok (.iinc 4 1, 3) := dkAt dk10bref8_cX12_edges_0_a 34 rfl
theorem dX12_edges_53 : decode cX12_edges 53 = .ok (.goto (-27), 3) := dkAt dk10bref8_cX12_edges_0_a 35 rfl
noncomputable def dk10bref8_cX12_told_0 : List (Nat × Instr × Nat) := [(0, .iload_n 1, 1), (1, .tableswitch 57 0 3 #[31, 39, 47, 52], 31), (32, .aload_n 0, 1), (33, .getfield 9, 3), (36, .bipush 6, 2), (38, .iaload, 1), (39, .ireturn, 1), (40, .aload_n 0, 1), (41, .getfield 9, 3), (44, .bipush 7, 2), (46, .iaload, 1), (47, .ireturn, 1), (48, .aload_n 0, 1), (49, .invokevirtual 140, 3), (52, .ireturn, 1), (53, .aload_n 0, 1), (54, .invokevirtual 137, 3), (57, .ireturn, 1), (58, .iconst (-1), 1), (59, .ireturn, 1)]
set_option maxRecDepth 100000 in
theorem dk10bref8_cX12_told_0_a : dkA cX12_told dk10bref8_cX12_told_0 = true := by decide +kernel
theorem dX12_told_0 : decode cX12_told 0 = .ok (.iload_n 1, 1) := dkAt dk10bref8_cX12_told_0_a 0 rfl
theorem dX12_told_1 : decode cX12_told 1 = .ok (.tableswitch 57 0 3 #[31, 39, 47, 52], 31) := dkAt dk10bref8_cX12_told_0_a 1 rfl
theorem dX12_told_32 : decode cX12_told 32 = .ok (.aload_n 0, 1) := dkAt dk10bref8_cX12_told_0_a 2 rfl
theorem dX12_told_33 : decode cX12_told 33 = .ok (.getfield 9, 3) := dkAt dk10bref8_cX12_told_0_a 3 rfl
theorem dX12_told_36 : decode cX12_told 36 = .ok (.bipush 6, 2) := dkAt dk10bref8_cX12_told_0_a 4 rfl
theorem dX12_told_38 : decode cX12_told 38 = .ok (.iaload, 1) := dkAt dk10bref8_cX12_told_0_a 5 rfl
theorem dX12_told_39 : decode cX12_told 39 = .ok (.ireturn, 1) := dkAt dk10bref8_cX12_told_0_a 6 rfl
theorem dX12_told_40 : decode cX12_told 40 = .ok (.aload_n 0, 1) := dkAt dk10bref8_cX12_told_0_a 7 rfl
theorem dX12_told_41 : decode cX12_told 41 = .ok (.getfield 9, 3) := dkAt dk10bref8_cX12_told_0_a 8 rfl
theorem dX12_told_44 : decode cX12_told 44 = .ok (.bipush 7, 2) := dkAt dk10bref8_cX12_told_0_a 9 rfl
theorem dX12_told_46 : decode cX12_told 46 = .ok (.iaload, 1) := dkAt dk10bref8_cX12_told_0_a 10 rfl
theorem dX12_told_47 : decode cX12_told 47 = .ok (.ireturn, 1) := dkAt dk10bref8_cX12_told_0_a 11 rfl
theorem dX12_told_48 : decode cX12_told 48 = .ok (.aload_n 0, 1) := dkAt dk10bref8_cX12_told_0_a 12 rfl
theorem dX12_told_49 : decode cX12_told 49 = .ok (.invokevirtual 140, 3) := dkAt dk10bref8_cX12_told_0_a 13 rfl
theorem dX12_told_52 : decode cX12_told 52 = .ok (.ireturn, 1) := dkAt dk10bref8_cX12_told_0_a 14 rfl
theorem dX12_told_53 : decode cX12_told 53 = .ok (.aload_n 0, 1) := dkAt dk10bref8_cX12_told_0_a 15 rfl
theorem dX12_told_54 : decode cX12_told 54 = .ok (.invokevirtual 137, 3) := dkAt dk10bref8_cX12_told_0_a 16 rfl
theorem dX12_told_57 : decode cX12_told 57 = .ok (.ireturn, 1) := dkAt dk10bref8_cX12_told_0_a 17 rfl
theorem dX12_told_58 : decode cX12_told 58 = .ok (.iconst (-1), 1) := dkAt dk10bref8_cX12_told_0_a 18 rfl
theorem dX12_told_59 : decode cX12_told 59 = .ok (.ireturn, 1) := dkAt dk10bref8_cX12_told_0_a 19 rfl
noncomputable def dk10bref8_cX12_heap_0 : List (Nat × Instr × Nat) := [(0, .iload_n 1, 1), (1, .iconst 0, 1), (2, .bipush 6, 2), (4, .invokestatic 45, 3), (7, .ifCond .eq 10, 3), (10, .iload_n 3, 1), (11, .invokestatic 149, 3), (14, .ifCond .ne 5, 3), (19, .iload_n 2, 1), (20, .iconst 0, 1), (21, .bipush 9, 2), (23, .invokestatic 45, 3), (26, .ifCond .ne 6, 3), (32, .aload_n 0, 1), (33, .iload_n 3, 1), (34, .invokevirtual 153, 3), (37, .iconst (-1), 1), (38, .if_icmp .eq 6, 3), (44, .aload_n 0, 1), (45, .getfield 9, 3), (48, .iconst 0, 1), (49, .iaload, 1), (50, .bipush 8, 2), (52, .if_icmp .ne 6, 3), (58, .aload_n 0, 1), (59, .iload_n 1, 1), (60, .iload_n 2, 1), (61, .iload_n 3, 1), (62, .invokevirtual 156, 3), (65, .ireturn, 1), (55, .bipush (-4), 2), (57, .ireturn, 1), (41, .bipush (-3), 2), (43, .ireturn, 1), (29, .bipush (-2), 2), (31, .ireturn, 1), (17, .iconst (-1), 1), (18, .ireturn, 1)]
set_option maxRecDepth 100000 in
theorem dk10bref8_cX12_heap_0_a : dkA cX12_heap dk10bref8_cX12_heap_0 = true := by decide +kernel
theorem dX12_heap_0 : decode cX12_heap 0 = .ok (.iload_n 1, 1) := dkAt dk10bref8_cX12_heap_0_a 0 rfl
theorem dX12_heap_1 : decode cX12_heap 1 = .ok (.iconst 0, 1) := dkAt dk10bref8_cX12_heap_0_a 1 rfl
theorem dX12_heap_2 : decode cX12_heap 2 = .ok (.bipush 6, 2) := dkAt dk10bref8_cX12_heap_0_a 2 rfl
theorem dX12_heap_4 : decode cX12_heap 4 = .ok (.invokestatic 45, 3) := dkAt dk10bref8_cX12_heap_0_a 3 rfl
theorem dX12_heap_7 : decode cX12_heap 7 = .ok (.ifCond .eq 10, 3) := dkAt dk10bref8_cX12_heap_0_a 4 rfl
theorem dX12_heap_10 : decode cX12_heap 10 = .ok (.iload_n 3, 1) := dkAt dk10bref8_cX12_heap_0_a 5 rfl
theorem dX12_heap_11 : decode cX12_heap 11 = .ok (.invokestatic 149, 3) := dkAt dk10bref8_cX12_heap_0_a 6 rfl
theorem dX12_heap_14 : decode cX12_heap 14 = .ok (.ifCond .ne 5, 3) := dkAt dk10bref8_cX12_heap_0_a 7 rfl
theorem dX12_heap_19 : decode cX12_heap 19 = .ok (.iload_n 2, 1) := dkAt dk10bref8_cX12_heap_0_a 8 rfl
theorem dX12_heap_20 : decode cX12_heap 20 = .ok (.iconst 0, 1) := dkAt dk10bref8_cX12_heap_0_a 9 rfl
theorem dX12_heap_21 : decode cX12_heap 21 = .ok (.bipush 9, 2) := dkAt dk10bref8_cX12_heap_0_a 10 rfl
theorem dX12_heap_23 : decode cX12_heap 23 = .ok (.invokestatic 45, 3) := dkAt dk10bref8_cX12_heap_0_a 11 rfl
theorem dX12_heap_26 : decode cX12_heap 26 = .ok (.ifCond .ne 6, 3) := dkAt dk10bref8_cX12_heap_0_a 12 rfl
theorem dX12_heap_32 : decode cX12_heap 32 = .ok (.aload_n 0, 1) := dkAt dk10bref8_cX12_heap_0_a 13 rfl
theorem dX12_heap_33 : decode cX12_heap 33 = .ok (.iload_n 3, 1) := dkAt dk10bref8_cX12_heap_0_a 14 rfl
theorem dX12_heap_34 : decode cX12_heap 34 = .ok (.invokevirtual 153, 3) := dkAt dk10bref8_cX12_heap_0_a 15 rfl
theorem dX12_heap_37 : decode cX12_heap 37 = .ok (.iconst (-1), 1) := dkAt dk10bref8_cX12_heap_0_a 16 rfl
theorem dX12_heap_38 : decode cX12_heap 38 = .ok (.if_icmp .eq 6, 3) := dkAt dk10bref8_cX12_heap_0_a 17 rfl
theorem dX12_heap_44 : decode cX12_heap 44 = .ok (.aload_n 0, 1) := dkAt dk10bref8_cX12_heap_0_a 18 rfl
theorem dX12_heap_45 : decode cX12_heap 45 = .ok (.getfield 9, 3) := dkAt dk10bref8_cX12_heap_0_a 19 rfl
theorem dX12_heap_48 : decode cX12_heap 48 = .ok (.iconst 0, 1) := dkAt dk10bref8_cX12_heap_0_a 20 rfl
theorem dX12_heap_49 : decode cX12_heap 49 = .ok (.iaload, 1) := dkAt dk10bref8_cX12_heap_0_a 21 rfl
theorem dX12_heap_50 : decode cX12_heap 50 = .ok (.bipush 8, 2) := dkAt dk10bref8_cX12_heap_0_a 22 rfl
theorem dX12_heap_52 : decode cX12_heap 52 = .ok (.if_icmp .ne 6, 3) := dkAt dk10bref8_cX12_heap_0_a 23 rfl
theorem dX12_heap_58 : decode cX12_heap 58 = .ok (.aload_n 0, 1) := dkAt dk10bref8_cX12_heap_0_a 24 rfl
theorem dX12_heap_59 : decode cX12_heap 59 = .ok (.iload_n 1, 1) := dkAt dk10bref8_cX12_heap_0_a 25 rfl
theorem dX12_heap_60 : decode cX12_heap 60 = .ok (.iload_n 2, 1) := dkAt dk10bref8_cX12_heap_0_a 26 rfl
theorem dX12_heap_61 : decode cX12_heap 61 = .ok (.iload_n 3, 1) := dkAt dk10bref8_cX12_heap_0_a 27 rfl
theorem dX12_heap_62 : decode cX12_heap 62 = .ok (.invokevirtual 156, 3) := dkAt dk10bref8_cX12_heap_0_a 28 rfl
theorem dX12_heap_65 : decode cX12_heap 65 = .ok (.ireturn, 1) := dkAt dk10bref8_cX12_heap_0_a 29 rfl
theorem dX12_heap_55 : decode cX12_heap 55 = .ok (.bipush (-4), 2) := dkAt dk10bref8_cX12_heap_0_a 30 rfl
theorem dX12_heap_57 : decode cX12_heap 57 = .ok (.ireturn, 1) := dkAt dk10bref8_cX12_heap_0_a 31 rfl
theorem dX12_heap_41 : decode cX12_heap 41 = .ok (.bipush (-3), 2) := dkAt dk10bref8_cX12_heap_0_a 32 rfl
theorem dX12_heap_43 : decode cX12_heap 43 = .ok (.ireturn, 1) := dkAt dk10bref8_cX12_heap_0_a 33 rfl
theorem dX12_heap_29 : decode cX12_heap 29 = .ok (.bipush (-2), 2) := dkAt dk10bref8_cX12_heap_0_a 34 rfl
theorem dX12_heap_31 : decode cX12_heap 31 = .ok (.ireturn, 1) := dkAt dk10bref8_cX12_heap_0_a 35 rfl
theorem dX12_heap_17 : decode cX12_heap 17 = .ok (.iconst (-1), 1) := dkAt dk10bref8_cX12_heap_0_a 36 rfl
theorem dX12_heap_18 : decode cX12_heap 18 = .ok (.ireturn, 1) := dkAt dk10bref8_cX12_heap_0_a 37 rfl
noncomputable def dk10bref8_cX12_image_0 : List (Nat × Instr × Nat) := [(0, .iconst 0, 1), (1, .istore_n 1, 1), (2, .iload_n 1, 1), (3, .sipush 901, 3), (6, .if_icmp .ge 21, 3), (27, .aload_n 0, 1), (28, .iconst 1, 1), (29, .putfield 282, 3), (32, .aload_n 0, 1), (33, .getfield 9, 3), (36, .iconst 0, 1), (37, .iaload, 1), (38, .ireturn, 1), (9, .aload_n 0, 1), (10, .getfield 15, 3), (13, .iload_n 1, 1), (14, .aload_n 0, 1), (15, .getfield 9, 3), (18, .iload_n 1, 1), (19, .iaload, 1), (20, .iastore, 1), (21, .iinc 1 1, 3), (24, .goto (-22), 3)]
set_option maxRecDepth 100000 in
theorem dk10bref8_cX12_image_0_a : dkA cX12_image dk10bref8_cX12_image_0 = true := by decide +kernel
theorem dX12_image_0 : decode cX12_image 0 = .ok (.iconst 0, 1) := dkAt dk10bref8_cX12_image_0_a 0 rfl
theorem dX12_image_1 : decode cX12_image 1 = .ok (.istore_n 1, 1) := dkAt dk10bref8_cX12_image_0_a 1 rfl
theorem dX12_image_2 : decode cX12_image 2 = .ok (.iload_n 1, 1) := dkAt dk10bref8_cX12_image_0_a 2 rfl
theorem dX12_image_3 : decode cX12_image 3 = .ok (.sipush 901, 3) := dkAt dk10bref8_cX12_image_0_a 3 rfl
theorem dX12_image_6 : decode cX12_image 6 = .ok (.if_icmp .ge 21, 3) := dkAt dk10bref8_cX12_image_0_a 4 rfl
theorem dX12_image_27 : decode cX12_image 27 = .ok (.aload_n 0, 1) := dkAt dk10bref8_cX12_image_0_a 5 rfl
theorem dX12_image_28 : decode cX12_image 28 = .ok (.iconst 1, 1) := dkAt dk10bref8_cX12_image_0_a 6 rfl
theorem dX12_image_29 : decode cX12_image 29 = .ok (.putfield 282, 3) := dkAt dk10bref8_cX12_image_0_a 7 rfl
theorem dX12_image_32 : decode cX12_image 32 = .ok (.aload_n 0, 1) := dkAt dk10bref8_cX12_image_0_a 8 rfl
theorem dX12_image_33 : decode cX12_image 33 = .ok (.getfield 9, 3) := dkAt dk10bref8_cX12_image_0_a 9 rfl
theorem dX12_image_36 : decode cX12_image 36 = .ok (.iconst 0, 1) := dkAt dk10bref8_cX12_image_0_a 10 rfl
theorem dX12_image_37 : decode cX12_image 37 = .ok (.iaload, 1) := dkAt dk10bref8_cX12_image_0_a 11 rfl
theorem dX12_image_38 : decode cX12_image 38 = .ok (.ireturn, 1) := dkAt dk10bref8_cX12_image_0_a 12 rfl
theorem dX12_image_9 : decode cX12_image 9 = .ok (.aload_n 0, 1) := dkAt dk10bref8_cX12_image_0_a 13 rfl
theorem dX12_image_10 : decode cX12_image 10 = .ok (.getfield 15, 3) := dkAt dk10bref8_cX12_image_0_a 14 rfl
theorem dX12_image_13 : decode cX12_image 13 = .ok (.iload_n 1, 1) := dkAt dk10bref8_cX12_image_0_a 15 rfl
theorem dX12_image_14 : decode cX12_image 14 = .ok (.aload_n 0, 1) := dkAt dk10bref8_cX12_image_0_a 16 rfl
theorem dX12_image_15 : decode cX12_image 15 = .ok (.getfield 9, 3) := dkAt dk10bref8_cX12_image_0_a 17 rfl
theorem dX12_image_18 : decode cX12_image 18 = .ok (.iload_n 1, 1) := dkAt dk10bref8_cX12_image_0_a 18 rfl
theorem dX12_image_19 : decode cX12_image 19 = .ok (.iaload, 1) := dkAt dk10bref8_cX12_image_0_a 19 rfl
theorem dX12_image_20 : decode cX12_image 20 = .ok (.iastore, 1) := dkAt dk10bref8_cX12_image_0_a 20 rfl
theorem dX12_image_21 : decode cX12_image 21 = .ok (.iinc 1 1, 3) := dkAt dk10bref8_cX12_image_0_a 21 rfl
theorem dX12_image_24 : decode cX12_image 24 = .ok (.goto (-22), 3) := dkAt dk10bref8_cX12_image_0_a 22 rfl
noncomputable def dk10bref8_cX12_undo_0 : List (Nat × Instr × Nat) := [(0, .aload_n 0, 1), (1, .getfield 282, 3), (4, .ifCond .ne 6, 3), (10, .iconst 0, 1), (11, .istore_n 1, 1), (12, .iload_n 1, 1), (13, .sipush 901, 3), (16, .if_icmp .ge 21, 3), (37, .aload_n 0, 1), (38, .getfield 9, 3), (41, .iconst 0, 1), (42, .iaload, 1), (43, .ireturn, 1), (19, .aload_n 0, 1), (20, .getfield 9, 3), (23, .iload_n 1, 1), (24, .aload_n 0, 1), (25, .getfield 15, 3), (28, .iload_n 1, 1), (29, .iaload, 1), (30, .iastore, 1), (31, .iinc 1 1, 3), (34, .goto (-22), 3), (7, .bipush (-3), 2), (9, .ireturn, 1)]
set_option maxRecDepth 100000 in
theorem dk10bref8_cX12_undo_0_a : dkA cX12_undo dk10bref8_cX12_undo_0 = true := by decide +kernel
theorem dX12_undo_0 : decode cX12_undo 0 = .ok (.aload_n 0, 1) := dkAt dk10bref8_cX12_undo_0_a 0 rfl
theorem dX12_undo_1 : decode cX12_undo 1 = .ok (.getfield 282, 3) := dkAt dk10bref8_cX12_undo_0_a 1 rfl
theorem dX12_undo_4 : decode cX12_undo 4 = .ok (.ifCond .ne 6, 3) := dkAt dk10bref8_cX12_undo_0_a 2 rfl
theorem dX12_undo_10 : decode cX12_undo 10 = .ok (.iconst 0, 1) := dkAt dk10bref8_cX12_undo_0_a 3 rfl
theorem dX12_undo_11 : decode cX12_undo 11 = .ok (.istore_n 1, 1) := dkAt dk10bref8_cX12_undo_0_a 4 rfl
theorem dX12_undo_12 : decode cX12_undo 12 = .ok (.iload_n 1, 1) := dkAt dk10bref8_cX12_undo_0_a 5 rfl
theorem dX12_undo_13 : decode cX12_undo 13 = .ok (.sipush 901, 3) := dkAt dk10bref8_cX12_undo_0_a 6 rfl
theorem dX12_undo_16 : decode cX12_undo 16 = .ok (.if_icmp .ge 21, 3) := dkAt dk10bref8_cX12_undo_0_a 7 rfl
theorem dX12_undo_37 : decode cX12_undo 37 = .ok (.aload_n 0, 1) := dkAt dk10bref8_cX12_undo_0_a 8 rfl
theorem dX12_undo_38 : decode cX12_undo 38 = .ok (.getfield 9, 3) := dkAt dk10bref8_cX12_undo_0_a 9 rfl
theorem dX12_undo_41 : decode cX12_undo 41 = .ok (.iconst 0, 1) := dkAt dk10bref8_cX12_undo_0_a 10 rfl
theorem dX12_undo_42 : decode cX12_undo 42 = .ok (.iaload, 1) := dkAt dk10bref8_cX12_undo_0_a 11 rfl
theorem dX12_undo_43 : decode cX12_undo 43 = .ok (.ireturn, 1) := dkAt dk10bref8_cX12_undo_0_a 12 rfl
theorem dX12_undo_19 : decode cX12_undo 19 = .ok (.aload_n 0, 1) := dkAt dk10bref8_cX12_undo_0_a 13 rfl
theorem dX12_undo_20 : decode cX12_undo 20 = .ok (.getfield 9, 3) := dkAt dk10bref8_cX12_undo_0_a 14 rfl
theorem dX12_undo_23 : decode cX12_undo 23 = .ok (.iload_n 1, 1) := dkAt dk10bref8_cX12_undo_0_a 15 rfl
theorem dX12_undo_24 : decode cX12_undo 24 = .ok (.aload_n 0, 1) := dkAt dk10bref8_cX12_undo_0_a 16 rfl
theorem dX12_undo_25 : decode cX12_undo 25 = .ok (.getfield 15, 3) := dkAt dk10bref8_cX12_undo_0_a 17 rfl
theorem dX12_undo_28 : decode cX12_undo 28 = .ok (.iload_n 1, 1) := dkAt dk10bref8_cX12_undo_0_a 18 rfl
theorem dX12_undo_29 : decode cX12_undo 29 = .ok (.iaload, 1) := dkAt dk10bref8_cX12_undo_0_a 19 rfl
theorem dX12_undo_30 : decode cX12_undo 30 = .ok (.iastore, 1) := dkAt dk10bref8_cX12_undo_0_a 20 rfl
theorem dX12_undo_31 : decode cX12_undo 31 = .ok (.iinc 1 1, 3) := dkAt dk10bref8_cX12_undo_0_a 21 rfl
theorem dX12_undo_34 : decode cX12_undo 34 = .ok (.goto (-22), 3) := dkAt dk10bref8_cX12_undo_0_a 22 rfl
theorem dX12_undo_7 : decode cX12_undo 7 = .ok (.bipush (-3), 2) := dkAt dk10bref8_cX12_undo_0_a 23 rfl
theorem dX12_undo_9 : decode cX12_undo 9 = .ok (.ireturn, 1) := dkAt dk10bref8_cX12_undo_0_a 24 rfl
noncomputable def dk10bref8_cX12_count_0 : List (Nat × Instr × Nat) := [(0, .iload_n 1, 1), (1, .tableswitch 79 0 5 #[39, 46, 53, 60, 67, 74], 39), (40, .aload_n 0, 1), (41, .getfield 9, 3), (44, .iconst 0, 1), (45, .iaload, 1), (46, .ireturn, 1), (47, .aload_n 0, 1), (48, .getfield 9, 3), (51, .iconst 1, 1), (52, .iaload, 1), (53, .ireturn, 1), (54, .aload_n 0, 1), (55, .getfield 9, 3), (58, .iconst 2, 1), (59, .iaload, 1), (60, .ireturn, 1), (61, .aload_n 0, 1), (62, .getfield 9, 3), (65, .iconst 3, 1), (66, .iaload, 1), (67, .ireturn, 1), (68, .aload_n 0, 1), (69, .getfield 9, 3), (72, .iconst 4, 1), (73, .iaload, 1), (74, .ireturn, 1), (75, .aload_n 0, 1), (76, .getfield 246, 3), (79, .ireturn, 1), (80, .iconst (-1), 1), (81, .ireturn, 1)]
set_option maxRecDepth 100000 in
theorem dk10bref8_cX12_count_0_a : dkA cX12_count dk10bref8_cX12_count_0 = true := by decide +kernel
theorem dX12_count_0 : decode cX12_count 0 = .ok (.iload_n 1, 1) := dkAt dk10bref8_cX12_count_0_a 0 rfl
theorem dX12_count_1 : decode cX12_count 1 = .ok (.tableswitch 79 0 5 #[39, 46, 53, 60, 67, 74], 39) := dkAt dk10bref8_cX12_count_0_a 1 rfl
theorem dX12_count_40 : decode cX12_count 40 = .ok (.aload_n 0, 1) := dkAt dk10bref8_cX12_count_0_a 2 rfl
theorem dX12_count_41 : decode cX12_count 41 = .ok (.getfield 9, 3) := dkAt dk10bref8_cX12_count_0_a 3 rfl
theorem dX12_count_44 : decode cX12_count 44 = .ok (.iconst 0, 1) := dkAt dk10bref8_cX12_count_0_a 4 rfl
theorem dX12_count_45 : decode cX12_count 45 = .ok (.iaload, 1) := dkAt dk10bref8_cX12_count_0_a 5 rfl
theorem dX12_count_46 : decode cX12_count 46 = .ok (.ireturn, 1) := dkAt dk10bref8_cX12_count_0_a 6 rfl
theorem dX12_count_47 : decode cX12_count 47 = .ok (.aload_n 0, 1) := dkAt dk10bref8_cX12_count_0_a 7 rfl
theorem dX12_count_48 : decode cX12_count 48 = .ok (.getfield 9, 3) := dkAt dk10bref8_cX12_count_0_a 8 rfl
theorem dX12_count_51 : decode cX12_count 51 = .ok (.iconst 1, 1) := dkAt dk10bref8_cX12_count_0_a 9 rfl
theorem dX12_count_52 : decode cX12_count 52 = .ok (.iaload, 1) := dkAt dk10bref8_cX12_count_0_a 10 rfl
theorem dX12_count_53 : decode cX12_count 53 = .ok (.ireturn, 1) := dkAt dk10bref8_cX12_count_0_a 11 rfl
theorem dX12_count_54 : decode cX12_count 54 = .ok (.aload_n 0, 1) := dkAt dk10bref8_cX12_count_0_a 12 rfl
theorem dX12_count_55 : decode cX12_count 55 = .ok (.getfield 9, 3) := dkAt dk10bref8_cX12_count_0_a 13 rfl
theorem dX12_count_58 : decode cX12_count 58 = .ok (.iconst 2, 1) := dkAt dk10bref8_cX12_count_0_a 14 rfl
theorem dX12_count_59 : decode cX12_count 59 = .ok (.iaload, 1) := dkAt dk10bref8_cX12_count_0_a 15 rfl
theorem dX12_count_60 : decode cX12_count 60 = .ok (.ireturn, 1) := dkAt dk10bref8_cX12_count_0_a 16 rfl
theorem dX12_count_61 : decode cX12_count 61 = .ok (.aload_n 0, 1) := dkAt dk10bref8_cX12_count_0_a 17 rfl
theorem dX12_count_62 : decode cX12_count 62 = .ok (.getfield 9, 3) := dkAt dk10bref8_cX12_count_0_a 18 rfl
theorem dX12_count_65 : decode cX12_count 65 = .ok (.iconst 3, 1) := dkAt dk10bref8_cX12_count_0_a 19 rfl
theorem dX12_count_66 : decode cX12_count 66 = .ok (.iaload, 1) := dkAt dk10bref8_cX12_count_0_a 20 rfl
theorem dX12_count_67 : decode cX12_count 67 = .ok (.ireturn, 1) := dkAt dk10bref8_cX12_count_0_a 21 rfl
theorem dX12_count_68 : decode cX12_count 68 = .ok (.aload_n 0, 1) := dkAt dk10bref8_cX12_count_0_a 22 rfl
theorem dX12_count_69 : decode cX12_count 69 = .ok (.getfield 9, 3) := dkAt dk10bref8_cX12_count_0_a 23 rfl
theorem dX12_count_72 : decode cX12_count 72 = .ok (.iconst 4, 1) := dkAt dk10bref8_cX12_count_0_a 24 rfl
theorem dX12_count_73 : decode cX12_count 73 = .ok (.iaload, 1) := dkAt dk10bref8_cX12_count_0_a 25 rfl
theorem dX12_count_74 : decode cX12_count 74 = .ok (.ireturn, 1) := dkAt dk10bref8_cX12_count_0_a 26 rfl
theorem dX12_count_75 : decode cX12_count 75 = .ok (.aload_n 0, 1) := dkAt dk10bref8_cX12_count_0_a 27 rfl
theorem dX12_count_76 : decode cX12_count 76 = .ok (.getfield 246, 3) := dkAt dk10bref8_cX12_count_0_a 28 rfl
theorem dX12_count_79 : decode cX12_count 79 = .ok (.ireturn, 1) := dkAt dk10bref8_cX12_count_0_a 29 rfl
theorem dX12_count_80 : decode cX12_count 80 = .ok (.iconst (-1), 1) := dkAt dk10bref8_cX12_count_0_a 30 rfl
theorem dX12_count_81 : decode cX12_count 81 = .ok (.ireturn, 1) := dkAt dk10bref8_cX12_count_0_a 31 rfl
noncomputable def wkR (k : Nat) (x : Int32) : Int32 := if x = -1 then 0 else if x < 0 then -1 else if 7 < x then -1 else if k = 6 then -4 else nI (k + 1)
noncomputable def wkN (k : Nat) (x : Int32) : Nat := if x = -1 then 0 else if x < 0 then k else if 7 < x then k else if k = 6 then k else k + 1
noncomputable def fdR (k : Nat) (x : Int32) : Int32 := if x < 0 then -2 else if 127 < x then -2 else if k = 100 then -4 else nI (k + 1)
noncomputable def fdN (k : Nat) (x : Int32) : Nat := if x < 0 then k else if 127 < x then k else if k = 100 then k else k + 1
theorem bk_up {f : Nat → Int32} {k j : Nat} {v : Int32} (zb : ∀ i, i < 12 → ∃ j : Nat, j < 8 ∧ f (79 + i) = nI j) (hj : j < 8) : ∀ i, i < 12 → ∃ q : Nat, q < 8 ∧ (upd (upd f (79 + k) (nI j)) 3 v) (79 + i) = nI q := by
  intro i hi
  rw [pk_un (show 79 + i ≠ 3 by omega)]
  by_cases q : i = k
  · subst q; exact ⟨j, hj, pk_us⟩
  · rw [pk_un (show 79 + i ≠ 79 + k by omega)]; exact zb i hi
theorem bk_0 {f : Nat → Int32} {v : Int32} (zb : ∀ i, i < 12 → ∃ j : Nat, j < 8 ∧ f (79 + i) = nI j) : ∀ i, i < 12 → ∃ j : Nat, j < 8 ∧ (upd f 3 v) (79 + i) = nI j := by
  intro i hi
  rw [pk_un (show 79 + i ≠ 3 by omega)]; exact zb i hi

theorem kc_mWalk_0 : ∀ w ∈ wsX120, w ∈ wsX12_walk := fun w h => List.mem_cons_of_mem _ (gin_wsX120 w h)
theorem kc_mWalk_1 : (.fieldLink RX12 9 "MistHeapsModel" "s" "[I" : Cond) ∈ wsX12_walk := kc_of 1141 rfl rfl rfl
set_option maxHeartbeats 4000000 in
set_option maxRecDepth 100000 in
theorem c_mWalk (l : Launch) (dC : Nat → ClassId) (dI : Nat → Nat → Nat) (m0 aS aI aB aT aG aO aN aD aY : Nat) (th im ac sp en wg op se dn rn kd nu tv : Int32) (bv : Int64) (cS : ClassId) (fS : Nat → Int32) (wk : Nat) (x : Int32) (sz : Nat) (zw : fS 2 = nI wk) (hw6 : wk ≤ 6) : Met l yX12_walk wsX12_walk ({ frames := 1, cells := 0, slots := 0, locals := 22 } : Room) (va_Pc [.ref m0, .int x] (fun U => U.heap.size = sz ∧ va_P (dC, dI) vwCl [(zo14irriiiiiirriirrrrlriiii m0 th aS aI im ac sp en wg op aB aT se dn aG aO aN aD bv aY rn kd nu tv), (zaI aS cS 901 fS)] U.heap ∧ va_K (dC, dI) vwCl [(cS, .int)] U ∧ va_D (fun _ => True) [(zo14irriiiiiirriirrrrlriiii m0 th aS aI im ac sp en wg op aB aT se dn aG aO aN aD bv aY rn kd nu tv), (zaI aS cS 901 fS)])) (va_Qi (fun (r : Int32) (u : Nat → Int32) => match u with | fS9 => r = wkR wk x ∧ fS9 2 = nI (wkN wk x) ∧ ∀ i, i ≠ 2 → ¬ (73 ≤ i ∧ i < 79) → fS9 i = fS i) (fun (u : Nat → Int32) (t : State) => match u with | fS9 => va_P (dC, dI) vwCl [(zo14irriiiiiirriirrrrlriiii m0 th aS aI im ac sp en wg op aB aT se dn aG aO aN aD bv aY rn kd nu tv), (zaI aS cS 901 fS9)] t.heap ∧ va_K (dC, dI) vwCl [(cS, .int)] t ∧ va_D (va_A [(zo14irriiiiiirriirrrrlriiii m0 th aS aI im ac sp en wg op aB aT se dn aG aO aN aD bv aY rn kd nu tv), (zaI aS cS 901 fS)] sz) [(zo14irriiiiiirriirrrrlriiii m0 th aS aI im ac sp en wg op aB aT se dn aG aO aN aD bv aY rn kd nu tv), (zaI aS cS 901 fS9)]) (va_A [(zo14irriiiiiirriirrrrlriiii m0 th aS aI im ac sp en wg op aB aT se dn aG aO aN aD bv aY rn kd nu tv), (zaI aS cS 901 fS)] sz)) 0 0 (va_A [(zo14irriiiiiirriirrrrlriiii m0 th aS aI im ac sp en wg op aB aT se dn aG aO aN aD bv aY rn kd nu tv), (zaI aS cS 901 fS)] sz) := by
  refine met_ofQ (cc := cX12_walk) (maxL := 2) (ret := (some .int)) (by decide) rfl ?_
  intro p e s m args below meth c s₁ Q B hml hv hQ
  obtain ⟨rfl, hsz, hP, hK, hD0⟩ := hv
  have hx := B.exec
  have hb := B.bytes
  have hr := B.returns
  have hts := atoms_spec (ws := wsX12_walk) B.pre
  have hown : s.vm.findClass RX12 = some m.cls := findClass_of_methodNamed B.named
  have hlocks := B.notSynchronized
  subst hsz
  have hD := hD0.self (sz := s.heap.size)
  generalize hAe : va_A [(zo14irriiiiiirriirrrrlriiii m0 th aS aI im ac sp en wg op aB aT se dn aG aO aN aD bv aY rn kd nu tv), (zaI aS cS 901 fS)] s.heap.size = A at hD hQ ⊢
  have hA : ∀ q : Nat, s.heap.size ≤ q → A q := fun q h => by rw [← hAe]; exact Or.inr h
  have hS : va_S A s.heap s.heap [] := va_S.rf
  have hl := lv_entry [.ref m0, .int x] (n := 2) (Nat.le_of_ble_eq_true rfl)
  rw [lg_entry_eq]
  generalize (lg_sl [.ref m0, .int x] ++ List.replicate (2 - (lg_sl [.ref m0, .int x]).length) Slot.unset).toArray = ls at hl ⊢
  generalize hag : ([.ref m0, .int x] : List Value).toArray = args at hts hQ ⊢
  have hl : lv_has ls 2 [(0, .ref m0), (1, .int x)] := hl
  obtain ⟨H, hH⟩ : ∃ H : Heap, H = s.heap := ⟨_, rfl⟩
  rw [← hH] at hP
  rw [← hH]
  have hS : va_S A s.heap H [] := by rw [hH]; exact hS
  obtain ⟨locs, hlo⟩ : ∃ L : List Loc, L = [] := ⟨_, rfl⟩
  rw [← hlo] at hS
  rw [← hlo]
  clear hH hlo
  refine lv_iload_n hx hb dX12_walk_0 rfl (lv_at hl 1 rfl) ?_
  refine lv_iconst (v := (-1)) hx hb dX12_walk_1 (by decide) ?_
  refine lv_icmp_ne (tgt := 14) hx hb dX12_walk_2 (by decide) (fun c_1 => ?_) (fun c_1 => ?_)
  · skip
    refine lv_iload_n hx hb dX12_walk_14 rfl (lv_at hl 1 rfl) ?_
    refine lv_iconst (v := 0) hx hb dX12_walk_15 (by decide) ?_
    refine lv_bipush (v := 7) hx hb dX12_walk_16 (by decide) ?_
    refine vp_callSi (va_runS (As := [.int x, .int 0, .int 7]) (rest := []) ⟨hx, hb, hml, hown, hts⟩ (c_in l dC dI x 0 7) (va_cwS 3 hts gX12_walk_X12_in rfl rfl rfl hd_yX12_in.2 ⟨Nat.le_of_ble_eq_true rfl, Nat.le_of_ble_eq_true rfl⟩) ⟨fun a U g mk q => ⟨q.1, trivial⟩, fun U hU hW => ⟨rfl, trivial⟩⟩ rfl rfl hl.1 rfl (lv_room (Nat.le_of_ble_eq_true rfl)) dX12_walk_18 ⟨Nat.le_of_ble_eq_true rfl, Nat.le_of_ble_eq_true rfl⟩).run (fun r_2 hw_3 => ?_)
    rcases hw_3 with ⟨rfl, h_4, h_5⟩ | ⟨rfl, h_6⟩
    · skip
      refine lv_if_ne (tgt := 26) hx hb dX12_walk_21 (by decide) (fun _ => ?_) (fun c_7 => absurd c_7 (by decide))
      refine lv_aload_n hx hb dX12_walk_26 rfl (lv_at hl 0 rfl) ?_
      refine va_get (D := (dC, dI)) (ci := 14) (v := .ref aS) (C := RX12) (T := TX12) (N := 23) hx hb hts kc_mWalk_0 hown hK hP 0 rfl rfl 1 (by decide) (hts (.fieldLink RX12 9 "MistHeapsModel" "s" "[I") kc_mWalk_1) (fun _ h9 => h9) rfl dX12_walk_27 ?_
      refine lv_iconst (v := 2) hx hb dX12_walk_30 (by decide) ?_
      refine va_iald hx hb hK hP 1 0 rfl rfl (vp_in_nI (n := 2) (N := 901) (by omega) (by omega)) dX12_walk_31 ?_
      refine qi_as (y := nI wk) ((show fS (2 : Int32).toNatClampNeg = fS 2 from rfl).trans (zw)) ?_
      refine lv_bipush (v := 6) hx hb dX12_walk_32 (by decide) ?_
      refine lv_icmp_ne (tgt := 40) hx hb dX12_walk_34 (by decide) (fun c_8 => ?_) (fun c_8 => ?_)
      · skip
        have c_8 : ¬ wk = 6 := fun q => c_8 ((nI_eq (a := wk) (b := 6) (by omega) (by omega)).mpr q)
        refine lv_aload_n hx hb dX12_walk_40 rfl (lv_at hl 0 rfl) ?_
        refine va_get (D := (dC, dI)) (ci := 14) (v := .ref aS) (C := RX12) (T := TX12) (N := 23) hx hb hts kc_mWalk_0 hown hK hP 0 rfl rfl 1 (by decide) (hts (.fieldLink RX12 9 "MistHeapsModel" "s" "[I") kc_mWalk_1) (fun _ h9 => h9) rfl dX12_walk_41 ?_
        refine lv_bipush (v := 73) hx hb dX12_walk_44 (by decide) ?_
        refine lv_aload_n hx hb dX12_walk_46 rfl (lv_at hl 0 rfl) ?_
        refine va_get (D := (dC, dI)) (ci := 14) (v := .ref aS) (C := RX12) (T := TX12) (N := 23) hx hb hts kc_mWalk_0 hown hK hP 0 rfl rfl 1 (by decide) (hts (.fieldLink RX12 9 "MistHeapsModel" "s" "[I") kc_mWalk_1) (fun _ h9 => h9) rfl dX12_walk_47 ?_
        refine lv_iconst (v := 2) hx hb dX12_walk_50 (by decide) ?_
        refine va_iald hx hb hK hP 1 0 rfl rfl (vp_in_nI (n := 2) (N := 901) (by omega) (by omega)) dX12_walk_51 ?_
        refine qi_as (y := nI wk) ((show fS (2 : Int32).toNatClampNeg = fS 2 from rfl).trans (zw)) ?_
        refine lv_iadd hx hb dX12_walk_52 ?_
        refine qi_as (y := nI (73 + wk)) (nI_add 73 wk) ?_
        refine lv_iload_n hx hb dX12_walk_53 rfl (lv_at hl 1 rfl) ?_
        refine va_iast hx hb hK hP hD hS 1 0 rfl rfl (vp_in_nI (n := 73 + wk) (N := 901) (by omega) (by omega)) dX12_walk_54 (fun H locs hP hD hS => ?_)
        rw [nI_clamp (n := 73 + wk) (by omega)] at hP hD
        have hP : va_P (dC, dI) vwCl [(zo14irriiiiiirriirrrrlriiii m0 th aS aI im ac sp en wg op aB aT se dn aG aO aN aD bv aY rn kd nu tv), (zaI aS cS 901 (upd fS (73 + wk) x))] H := hP
        have hD : va_D A [(zo14irriiiiiirriirrrrlriiii m0 th aS aI im ac sp en wg op aB aT se dn aG aO aN aD bv aY rn kd nu tv), (zaI aS cS 901 (upd fS (73 + wk) x))] := hD
        refine lv_aload_n hx hb dX12_walk_55 rfl (lv_at hl 0 rfl) ?_
        refine va_get (D := (dC, dI)) (ci := 14) (v := .ref aS) (C := RX12) (T := TX12) (N := 23) hx hb hts kc_mWalk_0 hown hK hP 0 rfl rfl 1 (by decide) (hts (.fieldLink RX12 9 "MistHeapsModel" "s" "[I") kc_mWalk_1) (fun _ h9 => h9) rfl dX12_walk_56 ?_
        refine lv_iconst (v := 2) hx hb dX12_walk_59 (by decide) ?_
        refine lv_dup2_11 hx hb dX12_walk_60 rfl rfl ?_
        refine va_iald hx hb hK hP 1 0 rfl rfl (vp_in_nI (n := 2) (N := 901) (by omega) (by omega)) dX12_walk_61 ?_
        refine qi_as (y := nI wk) ((show (upd fS (73 + wk) x) (2 : Int32).toNatClampNeg = (upd fS (73 + wk) x) 2 from rfl).trans ((pk_un (by omega)).trans zw)) ?_
        refine lv_iconst (v := 1) hx hb dX12_walk_62 (by decide) ?_
        refine lv_iadd hx hb dX12_walk_63 ?_
        refine qi_as (y := nI (wk + 1)) (nI_add wk 1) ?_
        refine va_iast hx hb hK hP hD hS 1 0 rfl rfl (vp_in_nI (n := 2) (N := 901) (by omega) (by omega)) dX12_walk_64 (fun H locs hP hD hS => ?_)
        have hP : va_P (dC, dI) vwCl [(zo14irriiiiiirriirrrrlriiii m0 th aS aI im ac sp en wg op aB aT se dn aG aO aN aD bv aY rn kd nu tv), (zaI aS cS 901 (upd (upd fS (73 + wk) x) 2 (nI (wk + 1))))] H := hP
        have hD : va_D A [(zo14irriiiiiirriirrrrlriiii m0 th aS aI im ac sp en wg op aB aT se dn aG aO aN aD bv aY rn kd nu tv), (zaI aS cS 901 (upd (upd fS (73 + wk) x) 2 (nI (wk + 1))))] := hD
        refine lv_aload_n hx hb dX12_walk_65 rfl (lv_at hl 0 rfl) ?_
        refine va_get (D := (dC, dI)) (ci := 14) (v := .ref aS) (C := RX12) (T := TX12) (N := 23) hx hb hts kc_mWalk_0 hown hK hP 0 rfl rfl 1 (by decide) (hts (.fieldLink RX12 9 "MistHeapsModel" "s" "[I") kc_mWalk_1) (fun _ h9 => h9) rfl dX12_walk_66 ?_
        refine lv_iconst (v := 2) hx hb dX12_walk_69 (by decide) ?_
        refine va_iald hx hb hK hP 1 0 rfl rfl (vp_in_nI (n := 2) (N := 901) (by omega) (by omega)) dX12_walk_70 ?_
        refine qi_as (y := nI (wk + 1)) (rfl) ?_
        rw [hQ]
        have hP9 := hP.sub (ws' := [(zo14irriiiiiirriirrrrlriiii m0 th aS aI im ac sp en wg op aB aT se dn aG aO aN aD bv aY rn kd nu tv), (zaI aS cS 901 (upd (upd fS (73 + wk) x) 2 (nI (wk + 1))))]) [0, 1] rfl
        have hD9 := hD.sub (ws' := [(zo14irriiiiiirriirrrrlriiii m0 th aS aI im ac sp en wg op aB aT se dn aG aO aN aD bv aY rn kd nu tv), (zaI aS cS 901 (upd (upd fS (73 + wk) x) 2 (nI (wk + 1))))]) [0, 1] (by decide) rfl
        have hK9 := hK.sub (tys' := [(cS, .int)]) [0] rfl
        exact W.iret (v := nI (wk + 1)) hx hb hr (fun tQ htQ hWQ => ⟨⟨(nI (wk + 1)), (upd (upd fS (73 + wk) x) 2 (nI (wk + 1))), rfl, ⟨by simp only [wkR]; (repeat' split) <;> simp_all, by simp only [wkN]; (repeat' split) <;> first | exact pk_us | exact zw | simp_all, fun i h1 h2 => by first | rfl | exact pk_un h1 | rw [pk_un h1, pk_un (by omega)]⟩, by rw [htQ]; exact hP9, va_K.moved hWQ.alike hK9, hD9⟩, hS.F htQ⟩) hS.2.2 dX12_walk_71
      · skip
        have c_8 : wk = 6 := (nI_eq (a := wk) (b := 6) (by omega) (by omega)).mp c_8
        refine lv_bipush (v := (-4)) hx hb dX12_walk_37 (by decide) ?_
        rw [hQ]
        have hP9 := hP.sub (ws' := [(zo14irriiiiiirriirrrrlriiii m0 th aS aI im ac sp en wg op aB aT se dn aG aO aN aD bv aY rn kd nu tv), (zaI aS cS 901 fS)]) [0, 1] rfl
        have hD9 := hD.sub (ws' := [(zo14irriiiiiirriirrrrlriiii m0 th aS aI im ac sp en wg op aB aT se dn aG aO aN aD bv aY rn kd nu tv), (zaI aS cS 901 fS)]) [0, 1] (by decide) rfl
        have hK9 := hK.sub (tys' := [(cS, .int)]) [0] rfl
        exact W.iret (v := (-4)) hx hb hr (fun tQ htQ hWQ => ⟨⟨(-4), fS, rfl, ⟨by simp only [wkR]; (repeat' split) <;> simp_all, by simp only [wkN]; (repeat' split) <;> first | exact pk_us | exact zw | simp_all, fun i h1 h2 => by first | rfl | exact pk_un h1 | rw [pk_un h1, pk_un (by omega)]⟩, by rw [htQ]; exact hP9, va_K.moved hWQ.alike hK9, hD9⟩, hS.F htQ⟩) hS.2.2 dX12_walk_39
    · skip
      refine lv_if_ne (tgt := 26) hx hb dX12_walk_21 (by decide) (fun c_9 => absurd c_9 (by decide)) (fun _ => ?_)
      refine lv_iconst (v := (-1)) hx hb dX12_walk_24 (by decide) ?_
      rw [hQ]
      have hP9 := hP.sub (ws' := [(zo14irriiiiiirriirrrrlriiii m0 th aS aI im ac sp en wg op aB aT se dn aG aO aN aD bv aY rn kd nu tv), (zaI aS cS 901 fS)]) [0, 1] rfl
      have hD9 := hD.sub (ws' := [(zo14irriiiiiirriirrrrlriiii m0 th aS aI im ac sp en wg op aB aT se dn aG aO aN aD bv aY rn kd nu tv), (zaI aS cS 901 fS)]) [0, 1] (by decide) rfl
      have hK9 := hK.sub (tys' := [(cS, .int)]) [0] rfl
      exact W.iret (v := (-1)) hx hb hr (fun tQ htQ hWQ => ⟨⟨(-1), fS, rfl, ⟨by simp only [wkR]; (repeat' split) <;> simp_all, by simp only [wkN]; (repeat' split) <;> first | exact pk_us | exact zw | simp_all, fun i h1 h2 => by first | rfl | exact pk_un h1 | rw [pk_un h1, pk_un (by omega)]⟩, by rw [htQ]; exact hP9, va_K.moved hWQ.alike hK9, hD9⟩, hS.F htQ⟩) hS.2.2 dX12_walk_25
  · skip
    refine lv_aload_n hx hb dX12_walk_5 rfl (lv_at hl 0 rfl) ?_
    refine va_get (D := (dC, dI)) (ci := 14) (v := .ref aS) (C := RX12) (T := TX12) (N := 23) hx hb hts kc_mWalk_0 hown hK hP 0 rfl rfl 1 (by decide) (hts (.fieldLink RX12 9 "MistHeapsModel" "s" "[I") kc_mWalk_1) (fun _ h9 => h9) rfl dX12_walk_6 ?_
    refine lv_iconst (v := 2) hx hb dX12_walk_9 (by decide) ?_
    refine lv_iconst (v := 0) hx hb dX12_walk_10 (by decide) ?_
    refine va_iast hx hb hK hP hD hS 1 0 rfl rfl (vp_in_nI (n := 2) (N := 901) (by omega) (by omega)) dX12_walk_11 (fun H locs hP hD hS => ?_)
    have hP : va_P (dC, dI) vwCl [(zo14irriiiiiirriirrrrlriiii m0 th aS aI im ac sp en wg op aB aT se dn aG aO aN aD bv aY rn kd nu tv), (zaI aS cS 901 (upd fS 2 0))] H := hP
    have hD : va_D A [(zo14irriiiiiirriirrrrlriiii m0 th aS aI im ac sp en wg op aB aT se dn aG aO aN aD bv aY rn kd nu tv), (zaI aS cS 901 (upd fS 2 0))] := hD
    refine lv_iconst (v := 0) hx hb dX12_walk_12 (by decide) ?_
    rw [hQ]
    have hP9 := hP.sub (ws' := [(zo14irriiiiiirriirrrrlriiii m0 th aS aI im ac sp en wg op aB aT se dn aG aO aN aD bv aY rn kd nu tv), (zaI aS cS 901 (upd fS 2 0))]) [0, 1] rfl
    have hD9 := hD.sub (ws' := [(zo14irriiiiiirriirrrrlriiii m0 th aS aI im ac sp en wg op aB aT se dn aG aO aN aD bv aY rn kd nu tv), (zaI aS cS 901 (upd fS 2 0))]) [0, 1] (by decide) rfl
    have hK9 := hK.sub (tys' := [(cS, .int)]) [0] rfl
    exact W.iret (v := 0) hx hb hr (fun tQ htQ hWQ => ⟨⟨0, (upd fS 2 0), rfl, ⟨by simp only [wkR]; (repeat' split) <;> simp_all, by simp only [wkN]; (repeat' split) <;> first | exact pk_us | exact zw | simp_all, fun i h1 h2 => by first | rfl | exact pk_un h1 | rw [pk_un h1, pk_un (by omega)]⟩, by rw [htQ]; exact hP9, va_K.moved hWQ.alike hK9, hD9⟩, hS.F htQ⟩) hS.2.2 dX12_walk_13

theorem fd_bad {k : Nat} {x : Int32} (h : x < 0 ∨ 127 < x) : -2 = fdR k x := by
  rcases h with h | h
  · rw [fdR, if_pos h]
  · by_cases h2 : x < 0
    · rw [fdR, if_pos h2]
    · rw [fdR, if_neg h2, if_pos h]
theorem fd_full {k : Nat} {x : Int32} (h1 : ¬ x < 0) (h2 : ¬ 127 < x) (h : k = 100) : -4 = fdR k x := by rw [fdR, if_neg h1, if_neg h2, if_pos h]
theorem fd_ok {k : Nat} {x : Int32} (h1 : ¬ x < 0) (h2 : ¬ 127 < x) (h : ¬ k = 100) : nI (k + 1) = fdR k x := by rw [fdR, if_neg h1, if_neg h2, if_neg h]
noncomputable def ctR (n nh wz bz ts : Nat) (tl : List Nat) (x : Int32) : Int32 := if x = 0 then nI n else if x = 1 then nI nh else if x = 2 then nI wz else if x = 3 then nI bz else if x = 4 then nI ts else if x = 5 then nI tl.length else -1
section
variable {n nh wz bz ts : Nat} {tl : List Nat} {x : Int32}
theorem ct_0 (h : x = 0) : nI n = ctR n nh wz bz ts tl x := by rw [ctR, if_pos h]
theorem ct_1 (h : x = 1) : nI nh = ctR n nh wz bz ts tl x := by subst h; rw [ctR, if_neg (by decide), if_pos rfl]
theorem ct_2 (h : x = 2) : nI wz = ctR n nh wz bz ts tl x := by subst h; rw [ctR, if_neg (by decide), if_neg (by decide), if_pos rfl]
theorem ct_3 (h : x = 3) : nI bz = ctR n nh wz bz ts tl x := by subst h; rw [ctR, if_neg (by decide), if_neg (by decide), if_neg (by decide), if_pos rfl]
theorem ct_4 (h : x = 4) : nI ts = ctR n nh wz bz ts tl x := by subst h; rw [ctR, if_neg (by decide), if_neg (by decide), if_neg (by decide), if_neg (by decide), if_pos rfl]
theorem ct_5 (h : x = 5) : nI tl.length = ctR n nh wz bz ts tl x := by subst h; rw [ctR, if_neg (by decide), if_neg (by decide), if_neg (by decide), if_neg (by decide), if_neg (by decide), if_pos rfl]
theorem ct_n (h0 : ¬ x = 0) (h1 : ¬ x = 1) (h2 : ¬ x = 2) (h3 : ¬ x = 3) (h4 : ¬ x = 4) (h5 : ¬ x = 5) : -1 = ctR n nh wz bz ts tl x := by rw [ctR, if_neg h0, if_neg h1, if_neg h2, if_neg h3, if_neg h4, if_neg h5]
end

theorem kc_mFeed_0 : ∀ w ∈ wsX120, w ∈ wsX12_feed := fun w h => List.mem_cons_of_mem _ (gin_wsX120 w h)
theorem kc_mFeed_1 : (.fieldLink RX12 9 "MistHeapsModel" "s" "[I" : Cond) ∈ wsX12_feed := kc_of 1141 rfl rfl rfl
set_option maxHeartbeats 4000000 in
set_option maxRecDepth 100000 in
theorem c_mFeed (l : Launch) (dC : Nat → ClassId) (dI : Nat → Nat → Nat) (m0 aS aI aB aT aG aO aN aD aY : Nat) (th im ac sp en wg op se dn rn kd nu tv : Int32) (bv : Int64) (cS : ClassId) (fS : Nat → Int32) (tp : Nat) (x : Int32) (sz : Nat) (zt : fS 4 = nI tp) (ht : tp ≤ 100) : Met l yX12_feed wsX12_feed ({ frames := 1, cells := 0, slots := 0, locals := 22 } : Room) (va_Pc [.ref m0, .int x] (fun U => U.heap.size = sz ∧ va_P (dC, dI) vwCl [(zo14irriiiiiirriirrrrlriiii m0 th aS aI im ac sp en wg op aB aT se dn aG aO aN aD bv aY rn kd nu tv), (zaI aS cS 901 fS)] U.heap ∧ va_K (dC, dI) vwCl [(cS, .int)] U ∧ va_D (fun _ => True) [(zo14irriiiiiirriirrrrlriiii m0 th aS aI im ac sp en wg op aB aT se dn aG aO aN aD bv aY rn kd nu tv), (zaI aS cS 901 fS)])) (va_Qi (fun (r : Int32) (u : Nat → Int32) => match u with | fS9 => r = fdR tp x ∧ ((r < 0 ∧ fS9 = fS) ∨ (¬ r < 0 ∧ tp < 100 ∧ ¬ x < 0 ∧ ¬ 127 < x ∧ fS9 = upd (upd fS (91 + tp) x) 4 (nI (tp + 1))))) (fun (u : Nat → Int32) (t : State) => match u with | fS9 => va_P (dC, dI) vwCl [(zo14irriiiiiirriirrrrlriiii m0 th aS aI im ac sp en wg op aB aT se dn aG aO aN aD bv aY rn kd nu tv), (zaI aS cS 901 fS9)] t.heap ∧ va_K (dC, dI) vwCl [(cS, .int)] t ∧ va_D (va_A [(zo14irriiiiiirriirrrrlriiii m0 th aS aI im ac sp en wg op aB aT se dn aG aO aN aD bv aY rn kd nu tv), (zaI aS cS 901 fS)] sz) [(zo14irriiiiiirriirrrrlriiii m0 th aS aI im ac sp en wg op aB aT se dn aG aO aN aD bv aY rn kd nu tv), (zaI aS cS 901 fS9)]) (va_A [(zo14irriiiiiirriirrrrlriiii m0 th aS aI im ac sp en wg op aB aT se dn aG aO aN aD bv aY rn kd nu tv), (zaI aS cS 901 fS)] sz)) 0 0 (va_A [(zo14irriiiiiirriirrrrlriiii m0 th aS aI im ac sp en wg op aB aT se dn aG aO aN aD bv aY rn kd nu tv), (zaI aS cS 901 fS)] sz) := by
  refine met_ofQ (cc := cX12_feed) (maxL := 2) (ret := (some .int)) (by decide) rfl ?_
  intro p e s m args below meth c s₁ Q B hml hv hQ
  obtain ⟨rfl, hsz, hP, hK, hD0⟩ := hv
  have hx := B.exec
  have hb := B.bytes
  have hr := B.returns
  have hts := atoms_spec (ws := wsX12_feed) B.pre
  have hown : s.vm.findClass RX12 = some m.cls := findClass_of_methodNamed B.named
  have hlocks := B.notSynchronized
  subst hsz
  have hD := hD0.self (sz := s.heap.size)
  generalize hAe : va_A [(zo14irriiiiiirriirrrrlriiii m0 th aS aI im ac sp en wg op aB aT se dn aG aO aN aD bv aY rn kd nu tv), (zaI aS cS 901 fS)] s.heap.size = A at hD hQ ⊢
  have hA : ∀ q : Nat, s.heap.size ≤ q → A q := fun q h => by rw [← hAe]; exact Or.inr h
  have hS : va_S A s.heap s.heap [] := va_S.rf
  have hl := lv_entry [.ref m0, .int x] (n := 2) (Nat.le_of_ble_eq_true rfl)
  rw [lg_entry_eq]
  generalize (lg_sl [.ref m0, .int x] ++ List.replicate (2 - (lg_sl [.ref m0, .int x]).length) Slot.unset).toArray = ls at hl ⊢
  generalize hag : ([.ref m0, .int x] : List Value).toArray = args at hts hQ ⊢
  have hl : lv_has ls 2 [(0, .ref m0), (1, .int x)] := hl
  obtain ⟨H, hH⟩ : ∃ H : Heap, H = s.heap := ⟨_, rfl⟩
  rw [← hH] at hP
  rw [← hH]
  have hS : va_S A s.heap H [] := by rw [hH]; exact hS
  obtain ⟨locs, hlo⟩ : ∃ L : List Loc, L = [] := ⟨_, rfl⟩
  rw [← hlo] at hS
  rw [← hlo]
  clear hH hlo
  refine lv_iload_n hx hb dX12_feed_0 rfl (lv_at hl 1 rfl) ?_
  refine lv_iconst (v := 0) hx hb dX12_feed_1 (by decide) ?_
  refine lv_bipush (v := 127) hx hb dX12_feed_2 (by decide) ?_
  refine vp_callSi (va_runS (As := [.int x, .int 0, .int 127]) (rest := []) ⟨hx, hb, hml, hown, hts⟩ (c_in l dC dI x 0 127) (va_cwS 3 hts gX12_feed_X12_in rfl rfl rfl hd_yX12_in.2 ⟨Nat.le_of_ble_eq_true rfl, Nat.le_of_ble_eq_true rfl⟩) ⟨fun a U g mk q => ⟨q.1, trivial⟩, fun U hU hW => ⟨rfl, trivial⟩⟩ rfl rfl hl.1 rfl (lv_room (Nat.le_of_ble_eq_true rfl)) dX12_feed_4 ⟨Nat.le_of_ble_eq_true rfl, Nat.le_of_ble_eq_true rfl⟩).run (fun r_1 hw_2 => ?_)
  rcases hw_2 with ⟨rfl, h_3, h_4⟩ | ⟨rfl, h_5⟩
  · skip
    refine lv_if_ne (tgt := 13) hx hb dX12_feed_7 (by decide) (fun _ => ?_) (fun c_6 => absurd c_6 (by decide))
    refine lv_aload_n hx hb dX12_feed_13 rfl (lv_at hl 0 rfl) ?_
    refine va_get (D := (dC, dI)) (ci := 14) (v := .ref aS) (C := RX12) (T := TX12) (N := 23) hx hb hts kc_mFeed_0 hown hK hP 0 rfl rfl 1 (by decide) (hts (.fieldLink RX12 9 "MistHeapsModel" "s" "[I") kc_mFeed_1) (fun _ h9 => h9) rfl dX12_feed_14 ?_
    refine lv_iconst (v := 4) hx hb dX12_feed_17 (by decide) ?_
    refine va_iald hx hb hK hP 1 0 rfl rfl (vp_in_nI (n := 4) (N := 901) (by omega) (by omega)) dX12_feed_18 ?_
    refine qi_as (y := nI tp) ((show fS (4 : Int32).toNatClampNeg = fS 4 from rfl).trans (zt)) ?_
    refine lv_bipush (v := 100) hx hb dX12_feed_19 (by decide) ?_
    refine lv_icmp_ne (tgt := 27) hx hb dX12_feed_21 (by decide) (fun c_7 => ?_) (fun c_7 => ?_)
    · skip
      have c_7 : ¬ tp = 100 := fun q => c_7 ((nI_eq (a := tp) (b := 100) (by omega) (by omega)).mpr q)
      refine lv_aload_n hx hb dX12_feed_27 rfl (lv_at hl 0 rfl) ?_
      refine va_get (D := (dC, dI)) (ci := 14) (v := .ref aS) (C := RX12) (T := TX12) (N := 23) hx hb hts kc_mFeed_0 hown hK hP 0 rfl rfl 1 (by decide) (hts (.fieldLink RX12 9 "MistHeapsModel" "s" "[I") kc_mFeed_1) (fun _ h9 => h9) rfl dX12_feed_28 ?_
      refine lv_bipush (v := 91) hx hb dX12_feed_31 (by decide) ?_
      refine lv_aload_n hx hb dX12_feed_33 rfl (lv_at hl 0 rfl) ?_
      refine va_get (D := (dC, dI)) (ci := 14) (v := .ref aS) (C := RX12) (T := TX12) (N := 23) hx hb hts kc_mFeed_0 hown hK hP 0 rfl rfl 1 (by decide) (hts (.fieldLink RX12 9 "MistHeapsModel" "s" "[I") kc_mFeed_1) (fun _ h9 => h9) rfl dX12_feed_34 ?_
      refine lv_iconst (v := 4) hx hb dX12_feed_37 (by decide) ?_
      refine va_iald hx hb hK hP 1 0 rfl rfl (vp_in_nI (n := 4) (N := 901) (by omega) (by omega)) dX12_feed_38 ?_
      refine qi_as (y := nI tp) ((show fS (4 : Int32).toNatClampNeg = fS 4 from rfl).trans (zt)) ?_
      refine lv_iadd hx hb dX12_feed_39 ?_
      refine qi_as (y := nI (91 + tp)) (nI_add 91 tp) ?_
      refine lv_iload_n hx hb dX12_feed_40 rfl (lv_at hl 1 rfl) ?_
      refine va_iast hx hb hK hP hD hS 1 0 rfl rfl (vp_in_nI (n := 91 + tp) (N := 901) (by omega) (by omega)) dX12_feed_41 (fun H locs hP hD hS => ?_)
      rw [nI_clamp (n := 91 + tp) (by omega)] at hP hD
      have hP : va_P (dC, dI) vwCl [(zo14irriiiiiirriirrrrlriiii m0 th aS aI im ac sp en wg op aB aT se dn aG aO aN aD bv aY rn kd nu tv), (zaI aS cS 901 (upd fS (91 + tp) x))] H := hP
      have hD : va_D A [(zo14irriiiiiirriirrrrlriiii m0 th aS aI im ac sp en wg op aB aT se dn aG aO aN aD bv aY rn kd nu tv), (zaI aS cS 901 (upd fS (91 + tp) x))] := hD
      refine lv_aload_n hx hb dX12_feed_42 rfl (lv_at hl 0 rfl) ?_
      refine va_get (D := (dC, dI)) (ci := 14) (v := .ref aS) (C := RX12) (T := TX12) (N := 23) hx hb hts kc_mFeed_0 hown hK hP 0 rfl rfl 1 (by decide) (hts (.fieldLink RX12 9 "MistHeapsModel" "s" "[I") kc_mFeed_1) (fun _ h9 => h9) rfl dX12_feed_43 ?_
      refine lv_iconst (v := 4) hx hb dX12_feed_46 (by decide) ?_
      refine lv_dup2_11 hx hb dX12_feed_47 rfl rfl ?_
      refine va_iald hx hb hK hP 1 0 rfl rfl (vp_in_nI (n := 4) (N := 901) (by omega) (by omega)) dX12_feed_48 ?_
      refine qi_as (y := nI tp) ((show (upd fS (91 + tp) x) (4 : Int32).toNatClampNeg = (upd fS (91 + tp) x) 4 from rfl).trans ((pk_un (by omega)).trans zt)) ?_
      refine lv_iconst (v := 1) hx hb dX12_feed_49 (by decide) ?_
      refine lv_iadd hx hb dX12_feed_50 ?_
      refine qi_as (y := nI (tp + 1)) (nI_add tp 1) ?_
      refine va_iast hx hb hK hP hD hS 1 0 rfl rfl (vp_in_nI (n := 4) (N := 901) (by omega) (by omega)) dX12_feed_51 (fun H locs hP hD hS => ?_)
      have hP : va_P (dC, dI) vwCl [(zo14irriiiiiirriirrrrlriiii m0 th aS aI im ac sp en wg op aB aT se dn aG aO aN aD bv aY rn kd nu tv), (zaI aS cS 901 (upd (upd fS (91 + tp) x) 4 (nI (tp + 1))))] H := hP
      have hD : va_D A [(zo14irriiiiiirriirrrrlriiii m0 th aS aI im ac sp en wg op aB aT se dn aG aO aN aD bv aY rn kd nu tv), (zaI aS cS 901 (upd (upd fS (91 + tp) x) 4 (nI (tp + 1))))] := hD
      refine lv_aload_n hx hb dX12_feed_52 rfl (lv_at hl 0 rfl) ?_
      refine va_get (D := (dC, dI)) (ci := 14) (v := .ref aS) (C := RX12) (T := TX12) (N := 23) hx hb hts kc_mFeed_0 hown hK hP 0 rfl rfl 1 (by decide) (hts (.fieldLink RX12 9 "MistHeapsModel" "s" "[I") kc_mFeed_1) (fun _ h9 => h9) rfl dX12_feed_53 ?_
      refine lv_iconst (v := 4) hx hb dX12_feed_56 (by decide) ?_
      refine va_iald hx hb hK hP 1 0 rfl rfl (vp_in_nI (n := 4) (N := 901) (by omega) (by omega)) dX12_feed_57 ?_
      refine qi_as (y := nI (tp + 1)) (rfl) ?_
      rw [hQ]
      have hP9 := hP.sub (ws' := [(zo14irriiiiiirriirrrrlriiii m0 th aS aI im ac sp en wg op aB aT se dn aG aO aN aD bv aY rn kd nu tv), (zaI aS cS 901 (upd (upd fS (91 + tp) x) 4 (nI (tp + 1))))]) [0, 1] rfl
      have hD9 := hD.sub (ws' := [(zo14irriiiiiirriirrrrlriiii m0 th aS aI im ac sp en wg op aB aT se dn aG aO aN aD bv aY rn kd nu tv), (zaI aS cS 901 (upd (upd fS (91 + tp) x) 4 (nI (tp + 1))))]) [0, 1] (by decide) rfl
      have hK9 := hK.sub (tys' := [(cS, .int)]) [0] rfl
      exact W.iret (v := nI (tp + 1)) hx hb hr (fun tQ htQ hWQ => ⟨⟨(nI (tp + 1)), (upd (upd fS (91 + tp) x) 4 (nI (tp + 1))), rfl, ⟨fd_ok (by assumption) (by assumption) (by omega), Or.inr ⟨nI_pos (by omega), by omega, by assumption, by assumption, rfl⟩⟩, by rw [htQ]; exact hP9, va_K.moved hWQ.alike hK9, hD9⟩, hS.F htQ⟩) hS.2.2 dX12_feed_58
    · skip
      have c_7 : tp = 100 := (nI_eq (a := tp) (b := 100) (by omega) (by omega)).mp c_7
      refine lv_bipush (v := (-4)) hx hb dX12_feed_24 (by decide) ?_
      rw [hQ]
      have hP9 := hP.sub (ws' := [(zo14irriiiiiirriirrrrlriiii m0 th aS aI im ac sp en wg op aB aT se dn aG aO aN aD bv aY rn kd nu tv), (zaI aS cS 901 fS)]) [0, 1] rfl
      have hD9 := hD.sub (ws' := [(zo14irriiiiiirriirrrrlriiii m0 th aS aI im ac sp en wg op aB aT se dn aG aO aN aD bv aY rn kd nu tv), (zaI aS cS 901 fS)]) [0, 1] (by decide) rfl
      have hK9 := hK.sub (tys' := [(cS, .int)]) [0] rfl
      exact W.iret (v := (-4)) hx hb hr (fun tQ htQ hWQ => ⟨⟨(-4), fS, rfl, ⟨fd_full (by assumption) (by assumption) (by omega), Or.inl ⟨by decide, rfl⟩⟩, by rw [htQ]; exact hP9, va_K.moved hWQ.alike hK9, hD9⟩, hS.F htQ⟩) hS.2.2 dX12_feed_26
  · skip
    refine lv_if_ne (tgt := 13) hx hb dX12_feed_7 (by decide) (fun c_8 => absurd c_8 (by decide)) (fun _ => ?_)
    refine lv_bipush (v := (-2)) hx hb dX12_feed_10 (by decide) ?_
    rw [hQ]
    have hP9 := hP.sub (ws' := [(zo14irriiiiiirriirrrrlriiii m0 th aS aI im ac sp en wg op aB aT se dn aG aO aN aD bv aY rn kd nu tv), (zaI aS cS 901 fS)]) [0, 1] rfl
    have hD9 := hD.sub (ws' := [(zo14irriiiiiirriirrrrlriiii m0 th aS aI im ac sp en wg op aB aT se dn aG aO aN aD bv aY rn kd nu tv), (zaI aS cS 901 fS)]) [0, 1] (by decide) rfl
    have hK9 := hK.sub (tys' := [(cS, .int)]) [0] rfl
    exact W.iret (v := (-2)) hx hb hr (fun tQ htQ hWQ => ⟨⟨(-2), fS, rfl, ⟨fd_bad (by assumption), Or.inl ⟨by decide, rfl⟩⟩, by rw [htQ]; exact hP9, va_K.moved hWQ.alike hK9, hD9⟩, hS.F htQ⟩) hS.2.2 dX12_feed_12

theorem kc_mBook_0 : ∀ w ∈ wsX120, w ∈ wsX12_book := fun w h => List.mem_cons_of_mem _ (gin_wsX120 w h)
theorem kc_mBook_1 : (.fieldLink RX12 9 "MistHeapsModel" "s" "[I" : Cond) ∈ wsX12_book := kc_of 1141 rfl rfl rfl
set_option maxHeartbeats 4000000 in
set_option maxRecDepth 100000 in
theorem c_mBook (l : Launch) (dC : Nat → ClassId) (dI : Nat → Nat → Nat) (m0 aS aI aB aT aG aO aN aD aY : Nat) (th im ac sp en wg op se dn rn kd nu tv : Int32) (bv : Int64) (cS : ClassId) (fS : Nat → Int32) (n kb : Nat) (x : Int32) (sz : Nat) (zn : fS 0 = nI n) (hn : n ≤ 8) (zk : fS 3 = nI kb) (hk12 : kb ≤ 12) (zb : ∀ i, i < 12 → ∃ j : Nat, j < 8 ∧ fS (79 + i) = nI j) : Met l yX12_book wsX12_book ({ frames := 2, cells := 0, slots := 0, locals := 43 } : Room) (va_Pc [.ref m0, .int x] (fun U => U.heap.size = sz ∧ va_P (dC, dI) vwCl [(zo14irriiiiiirriirrrrlriiii m0 th aS aI im ac sp en wg op aB aT se dn aG aO aN aD bv aY rn kd nu tv), (zaI aS cS 901 fS)] U.heap ∧ va_K (dC, dI) vwCl [(cS, .int)] U ∧ va_D (fun _ => True) [(zo14irriiiiiirriirrrrlriiii m0 th aS aI im ac sp en wg op aB aT se dn aG aO aN aD bv aY rn kd nu tv), (zaI aS cS 901 fS)])) (va_Qi (fun (r : Int32) (u : Nat → Int32) => match u with | fS9 => r = bkR n kb x ∧ fS9 3 = nI (bkN n kb x) ∧ (∀ i, i < 12 → ∃ j : Nat, j < 8 ∧ fS9 (79 + i) = nI j) ∧ ∀ i, i ≠ 3 → ¬ (79 ≤ i ∧ i < 91) → fS9 i = fS i) (fun (u : Nat → Int32) (t : State) => match u with | fS9 => va_P (dC, dI) vwCl [(zo14irriiiiiirriirrrrlriiii m0 th aS aI im ac sp en wg op aB aT se dn aG aO aN aD bv aY rn kd nu tv), (zaI aS cS 901 fS9)] t.heap ∧ va_K (dC, dI) vwCl [(cS, .int)] t ∧ va_D (va_A [(zo14irriiiiiirriirrrrlriiii m0 th aS aI im ac sp en wg op aB aT se dn aG aO aN aD bv aY rn kd nu tv), (zaI aS cS 901 fS)] sz) [(zo14irriiiiiirriirrrrlriiii m0 th aS aI im ac sp en wg op aB aT se dn aG aO aN aD bv aY rn kd nu tv), (zaI aS cS 901 fS9)]) (va_A [(zo14irriiiiiirriirrrrlriiii m0 th aS aI im ac sp en wg op aB aT se dn aG aO aN aD bv aY rn kd nu tv), (zaI aS cS 901 fS)] sz)) 0 0 (va_A [(zo14irriiiiiirriirrrrlriiii m0 th aS aI im ac sp en wg op aB aT se dn aG aO aN aD bv aY rn kd nu tv), (zaI aS cS 901 fS)] sz) := by
  refine met_ofQ (cc := cX12_book) (maxL := 2) (ret := (some .int)) (by decide) rfl ?_
  intro p e s m args below meth c s₁ Q B hml hv hQ
  obtain ⟨rfl, hsz, hP, hK, hD0⟩ := hv
  have hx := B.exec
  have hb := B.bytes
  have hr := B.returns
  have hts := atoms_spec (ws := wsX12_book) B.pre
  have hown : s.vm.findClass RX12 = some m.cls := findClass_of_methodNamed B.named
  have hlocks := B.notSynchronized
  subst hsz
  have hD := hD0.self (sz := s.heap.size)
  generalize hAe : va_A [(zo14irriiiiiirriirrrrlriiii m0 th aS aI im ac sp en wg op aB aT se dn aG aO aN aD bv aY rn kd nu tv), (zaI aS cS 901 fS)] s.heap.size = A at hD hQ ⊢
  have hA : ∀ q : Nat, s.heap.size ≤ q → A q := fun q h => by rw [← hAe]; exact Or.inr h
  have hS : va_S A s.heap s.heap [] := va_S.rf
  have hl := lv_entry [.ref m0, .int x] (n := 2) (Nat.le_of_ble_eq_true rfl)
  rw [lg_entry_eq]
  generalize (lg_sl [.ref m0, .int x] ++ List.replicate (2 - (lg_sl [.ref m0, .int x]).length) Slot.unset).toArray = ls at hl ⊢
  generalize hag : ([.ref m0, .int x] : List Value).toArray = args at hts hQ ⊢
  have hl : lv_has ls 2 [(0, .ref m0), (1, .int x)] := hl
  obtain ⟨H, hH⟩ : ∃ H : Heap, H = s.heap := ⟨_, rfl⟩
  rw [← hH] at hP
  rw [← hH]
  have hS : va_S A s.heap H [] := by rw [hH]; exact hS
  obtain ⟨locs, hlo⟩ : ∃ L : List Loc, L = [] := ⟨_, rfl⟩
  rw [← hlo] at hS
  rw [← hlo]
  clear hH hlo
  refine lv_iload_n hx hb dX12_book_0 rfl (lv_at hl 1 rfl) ?_
  refine lv_iconst (v := (-1)) hx hb dX12_book_1 (by decide) ?_
  refine lv_icmp_ne (tgt := 14) hx hb dX12_book_2 (by decide) (fun c_1 => ?_) (fun c_1 => ?_)
  · skip
    refine lv_aload_n hx hb dX12_book_14 rfl (lv_at hl 0 rfl) ?_
    refine lv_iload_n hx hb dX12_book_15 rfl (lv_at hl 1 rfl) ?_
    have hPc := hP.sub (ws' := [(zo14irriiiiiirriirrrrlriiii m0 th aS aI im ac sp en wg op aB aT se dn aG aO aN aD bv aY rn kd nu tv), (zaI aS cS 901 fS)]) [0, 1] rfl
    have hKc := hK.sub (tys' := [(cS, .int)]) [0] rfl
    refine vp_callSi (va_runV (As := [.int x]) (rest := []) ⟨hx, hb, hml, hown, hts⟩ (c_isHeap l dC dI m0 aS aI aB aT aG aO aN aD aY th im ac sp en wg op se dn rn kd nu tv bv cS fS n x (zn) (hn)) (cwV 1 hts gX12_book_X12_isHeap rfl rfl rfl hd_yX12_isHeap ⟨Nat.le_of_ble_eq_true rfl, Nat.le_of_ble_eq_true rfl⟩) ⟨fun a U g mk q => by obtain ⟨q0, qP, qK⟩ := q; exact ⟨q0, qP, va_K.moved (u := U) (U := U.calling g mk a) (Vm.Alike.refl U.vm) qK⟩, va_recv hK hP (ci := 14) (q := (RX12, TX12, 23)) (q0 := 0) rfl rfl, fun U hU hW => ⟨rfl, by rw [hU]; exact hPc, va_K.moved hW.alike hKc⟩⟩ rfl rfl hl.1 rfl (lv_room (Nat.le_of_ble_eq_true rfl)) dX12_book_16 ⟨Nat.le_of_ble_eq_true rfl, Nat.le_of_ble_eq_true rfl⟩).run (fun r_2 hw_3 => ?_)
    rcases hw_3 with ⟨rfl, j_4, hj_5, rfl⟩ | ⟨rfl, h_6⟩
    · skip
      refine lv_if_ne (tgt := 24) hx hb dX12_book_19 (by decide) (fun _ => ?_) (fun c_7 => absurd c_7 (by decide))
      refine lv_aload_n hx hb dX12_book_24 rfl (lv_at hl 0 rfl) ?_
      refine va_get (D := (dC, dI)) (ci := 14) (v := .ref aS) (C := RX12) (T := TX12) (N := 23) hx hb hts kc_mBook_0 hown hK hP 0 rfl rfl 1 (by decide) (hts (.fieldLink RX12 9 "MistHeapsModel" "s" "[I") kc_mBook_1) (fun _ h9 => h9) rfl dX12_book_25 ?_
      refine lv_iconst (v := 3) hx hb dX12_book_28 (by decide) ?_
      refine va_iald hx hb hK hP 1 0 rfl rfl (vp_in_nI (n := 3) (N := 901) (by omega) (by omega)) dX12_book_29 ?_
      refine qi_as (y := nI kb) ((show fS (3 : Int32).toNatClampNeg = fS 3 from rfl).trans (zk)) ?_
      refine lv_bipush (v := 12) hx hb dX12_book_30 (by decide) ?_
      refine lv_icmp_ne (tgt := 38) hx hb dX12_book_32 (by decide) (fun c_8 => ?_) (fun c_8 => ?_)
      · skip
        have c_8 : ¬ kb = 12 := fun q => c_8 ((nI_eq (a := kb) (b := 12) (by omega) (by omega)).mpr q)
        refine lv_aload_n hx hb dX12_book_38 rfl (lv_at hl 0 rfl) ?_
        refine va_get (D := (dC, dI)) (ci := 14) (v := .ref aS) (C := RX12) (T := TX12) (N := 23) hx hb hts kc_mBook_0 hown hK hP 0 rfl rfl 1 (by decide) (hts (.fieldLink RX12 9 "MistHeapsModel" "s" "[I") kc_mBook_1) (fun _ h9 => h9) rfl dX12_book_39 ?_
        refine lv_bipush (v := 79) hx hb dX12_book_42 (by decide) ?_
        refine lv_aload_n hx hb dX12_book_44 rfl (lv_at hl 0 rfl) ?_
        refine va_get (D := (dC, dI)) (ci := 14) (v := .ref aS) (C := RX12) (T := TX12) (N := 23) hx hb hts kc_mBook_0 hown hK hP 0 rfl rfl 1 (by decide) (hts (.fieldLink RX12 9 "MistHeapsModel" "s" "[I") kc_mBook_1) (fun _ h9 => h9) rfl dX12_book_45 ?_
        refine lv_iconst (v := 3) hx hb dX12_book_48 (by decide) ?_
        refine va_iald hx hb hK hP 1 0 rfl rfl (vp_in_nI (n := 3) (N := 901) (by omega) (by omega)) dX12_book_49 ?_
        refine qi_as (y := nI kb) ((show fS (3 : Int32).toNatClampNeg = fS 3 from rfl).trans (zk)) ?_
        refine lv_iadd hx hb dX12_book_50 ?_
        refine qi_as (y := nI (79 + kb)) (nI_add 79 kb) ?_
        refine lv_iload_n hx hb dX12_book_51 rfl (lv_at hl 1 rfl) ?_
        refine va_iast hx hb hK hP hD hS 1 0 rfl rfl (vp_in_nI (n := 79 + kb) (N := 901) (by omega) (by omega)) dX12_book_52 (fun H locs hP hD hS => ?_)
        rw [nI_clamp (n := 79 + kb) (by omega)] at hP hD
        have hP : va_P (dC, dI) vwCl [(zo14irriiiiiirriirrrrlriiii m0 th aS aI im ac sp en wg op aB aT se dn aG aO aN aD bv aY rn kd nu tv), (zaI aS cS 901 (upd fS (79 + kb) (nI j_4)))] H := hP
        have hD : va_D A [(zo14irriiiiiirriirrrrlriiii m0 th aS aI im ac sp en wg op aB aT se dn aG aO aN aD bv aY rn kd nu tv), (zaI aS cS 901 (upd fS (79 + kb) (nI j_4)))] := hD
        refine lv_aload_n hx hb dX12_book_53 rfl (lv_at hl 0 rfl) ?_
        refine va_get (D := (dC, dI)) (ci := 14) (v := .ref aS) (C := RX12) (T := TX12) (N := 23) hx hb hts kc_mBook_0 hown hK hP 0 rfl rfl 1 (by decide) (hts (.fieldLink RX12 9 "MistHeapsModel" "s" "[I") kc_mBook_1) (fun _ h9 => h9) rfl dX12_book_54 ?_
        refine lv_iconst (v := 3) hx hb dX12_book_57 (by decide) ?_
        refine lv_dup2_11 hx hb dX12_book_58 rfl rfl ?_
        refine va_iald hx hb hK hP 1 0 rfl rfl (vp_in_nI (n := 3) (N := 901) (by omega) (by omega)) dX12_book_59 ?_
        refine qi_as (y := nI kb) ((show (upd fS (79 + kb) (nI j_4)) (3 : Int32).toNatClampNeg = (upd fS (79 + kb) (nI j_4)) 3 from rfl).trans ((pk_un (by omega)).trans zk)) ?_
        refine lv_iconst (v := 1) hx hb dX12_book_60 (by decide) ?_
        refine lv_iadd hx hb dX12_book_61 ?_
        refine qi_as (y := nI (kb + 1)) (nI_add kb 1) ?_
        refine va_iast hx hb hK hP hD hS 1 0 rfl rfl (vp_in_nI (n := 3) (N := 901) (by omega) (by omega)) dX12_book_62 (fun H locs hP hD hS => ?_)
        have hP : va_P (dC, dI) vwCl [(zo14irriiiiiirriirrrrlriiii m0 th aS aI im ac sp en wg op aB aT se dn aG aO aN aD bv aY rn kd nu tv), (zaI aS cS 901 (upd (upd fS (79 + kb) (nI j_4)) 3 (nI (kb + 1))))] H := hP
        have hD : va_D A [(zo14irriiiiiirriirrrrlriiii m0 th aS aI im ac sp en wg op aB aT se dn aG aO aN aD bv aY rn kd nu tv), (zaI aS cS 901 (upd (upd fS (79 + kb) (nI j_4)) 3 (nI (kb + 1))))] := hD
        refine lv_aload_n hx hb dX12_book_63 rfl (lv_at hl 0 rfl) ?_
        refine va_get (D := (dC, dI)) (ci := 14) (v := .ref aS) (C := RX12) (T := TX12) (N := 23) hx hb hts kc_mBook_0 hown hK hP 0 rfl rfl 1 (by decide) (hts (.fieldLink RX12 9 "MistHeapsModel" "s" "[I") kc_mBook_1) (fun _ h9 => h9) rfl dX12_book_64 ?_
        refine lv_iconst (v := 3) hx hb dX12_book_67 (by decide) ?_
        refine va_iald hx hb hK hP 1 0 rfl rfl (vp_in_nI (n := 3) (N := 901) (by omega) (by omega)) dX12_book_68 ?_
        refine qi_as (y := nI (kb + 1)) (rfl) ?_
        rw [hQ]
        have hP9 := hP.sub (ws' := [(zo14irriiiiiirriirrrrlriiii m0 th aS aI im ac sp en wg op aB aT se dn aG aO aN aD bv aY rn kd nu tv), (zaI aS cS 901 (upd (upd fS (79 + kb) (nI j_4)) 3 (nI (kb + 1))))]) [0, 1] rfl
        have hD9 := hD.sub (ws' := [(zo14irriiiiiirriirrrrlriiii m0 th aS aI im ac sp en wg op aB aT se dn aG aO aN aD bv aY rn kd nu tv), (zaI aS cS 901 (upd (upd fS (79 + kb) (nI j_4)) 3 (nI (kb + 1))))]) [0, 1] (by decide) rfl
        have hK9 := hK.sub (tys' := [(cS, .int)]) [0] rfl
        exact W.iret (v := nI (kb + 1)) hx hb hr (fun tQ htQ hWQ => ⟨⟨(nI (kb + 1)), (upd (upd fS (79 + kb) (nI j_4)) 3 (nI (kb + 1))), rfl, ⟨(bo_one (n := n) (bz := kb) (j := j_4) hn (by omega) (by omega)).1, by rw [← (bo_one (n := n) (bz := kb) (j := j_4) hn (by omega) (by omega)).2]; exact pk_us, (by refine bk_up zb ?_; omega), fun i h1 h2 => by first | rfl | exact pk_un h1 | rw [pk_un h1, pk_un (by omega)]⟩, by rw [htQ]; exact hP9, va_K.moved hWQ.alike hK9, hD9⟩, hS.F htQ⟩) hS.2.2 dX12_book_69
      · skip
        have c_8 : kb = 12 := (nI_eq (a := kb) (b := 12) (by omega) (by omega)).mp c_8
        refine lv_bipush (v := (-4)) hx hb dX12_book_35 (by decide) ?_
        rw [hQ]
        have hP9 := hP.sub (ws' := [(zo14irriiiiiirriirrrrlriiii m0 th aS aI im ac sp en wg op aB aT se dn aG aO aN aD bv aY rn kd nu tv), (zaI aS cS 901 fS)]) [0, 1] rfl
        have hD9 := hD.sub (ws' := [(zo14irriiiiiirriirrrrlriiii m0 th aS aI im ac sp en wg op aB aT se dn aG aO aN aD bv aY rn kd nu tv), (zaI aS cS 901 fS)]) [0, 1] (by decide) rfl
        have hK9 := hK.sub (tys' := [(cS, .int)]) [0] rfl
        exact W.iret (v := (-4)) hx hb hr (fun tQ htQ hWQ => ⟨⟨(-4), fS, rfl, ⟨(bo_full (n := n) (bz := kb) (j := j_4) hn (by omega) (by omega)).1, by rw [← (bo_full (n := n) (bz := kb) (j := j_4) hn (by omega) (by omega)).2]; exact zk, zb, fun i h1 h2 => by first | rfl | exact pk_un h1 | rw [pk_un h1, pk_un (by omega)]⟩, by rw [htQ]; exact hP9, va_K.moved hWQ.alike hK9, hD9⟩, hS.F htQ⟩) hS.2.2 dX12_book_37
    · skip
      refine lv_if_ne (tgt := 24) hx hb dX12_book_19 (by decide) (fun c_9 => absurd c_9 (by decide)) (fun _ => ?_)
      refine lv_iconst (v := (-1)) hx hb dX12_book_22 (by decide) ?_
      rw [hQ]
      have hP9 := hP.sub (ws' := [(zo14irriiiiiirriirrrrlriiii m0 th aS aI im ac sp en wg op aB aT se dn aG aO aN aD bv aY rn kd nu tv), (zaI aS cS 901 fS)]) [0, 1] rfl
      have hD9 := hD.sub (ws' := [(zo14irriiiiiirriirrrrlriiii m0 th aS aI im ac sp en wg op aB aT se dn aG aO aN aD bv aY rn kd nu tv), (zaI aS cS 901 fS)]) [0, 1] (by decide) rfl
      have hK9 := hK.sub (tys' := [(cS, .int)]) [0] rfl
      exact W.iret (v := (-1)) hx hb hr (fun tQ htQ hWQ => ⟨⟨(-1), fS, rfl, ⟨(bo_none (n := n) (bz := kb) (x := x) (by assumption) (by assumption)).1, by rw [← (bo_none (n := n) (bz := kb) (x := x) (by assumption) (by assumption)).2]; exact zk, zb, fun i h1 h2 => by first | rfl | exact pk_un h1 | rw [pk_un h1, pk_un (by omega)]⟩, by rw [htQ]; exact hP9, va_K.moved hWQ.alike hK9, hD9⟩, hS.F htQ⟩) hS.2.2 dX12_book_23
  · skip
    refine lv_aload_n hx hb dX12_book_5 rfl (lv_at hl 0 rfl) ?_
    refine va_get (D := (dC, dI)) (ci := 14) (v := .ref aS) (C := RX12) (T := TX12) (N := 23) hx hb hts kc_mBook_0 hown hK hP 0 rfl rfl 1 (by decide) (hts (.fieldLink RX12 9 "MistHeapsModel" "s" "[I") kc_mBook_1) (fun _ h9 => h9) rfl dX12_book_6 ?_
    refine lv_iconst (v := 3) hx hb dX12_book_9 (by decide) ?_
    refine lv_iconst (v := 0) hx hb dX12_book_10 (by decide) ?_
    refine va_iast hx hb hK hP hD hS 1 0 rfl rfl (vp_in_nI (n := 3) (N := 901) (by omega) (by omega)) dX12_book_11 (fun H locs hP hD hS => ?_)
    have hP : va_P (dC, dI) vwCl [(zo14irriiiiiirriirrrrlriiii m0 th aS aI im ac sp en wg op aB aT se dn aG aO aN aD bv aY rn kd nu tv), (zaI aS cS 901 (upd fS 3 0))] H := hP
    have hD : va_D A [(zo14irriiiiiirriirrrrlriiii m0 th aS aI im ac sp en wg op aB aT se dn aG aO aN aD bv aY rn kd nu tv), (zaI aS cS 901 (upd fS 3 0))] := hD
    refine lv_iconst (v := 0) hx hb dX12_book_12 (by decide) ?_
    rw [hQ]
    have hP9 := hP.sub (ws' := [(zo14irriiiiiirriirrrrlriiii m0 th aS aI im ac sp en wg op aB aT se dn aG aO aN aD bv aY rn kd nu tv), (zaI aS cS 901 (upd fS 3 0))]) [0, 1] rfl
    have hD9 := hD.sub (ws' := [(zo14irriiiiiirriirrrrlriiii m0 th aS aI im ac sp en wg op aB aT se dn aG aO aN aD bv aY rn kd nu tv), (zaI aS cS 901 (upd fS 3 0))]) [0, 1] (by decide) rfl
    have hK9 := hK.sub (tys' := [(cS, .int)]) [0] rfl
    exact W.iret (v := 0) hx hb hr (fun tQ htQ hWQ => ⟨⟨0, (upd fS 3 0), rfl, ⟨(bo_clear (n := n) (bz := kb) (x := x) (by assumption)).1, by rw [← (bo_clear (n := n) (bz := kb) (x := x) (by assumption)).2]; exact pk_us, bk_0 zb, fun i h1 h2 => by first | rfl | exact pk_un h1 | rw [pk_un h1, pk_un (by omega)]⟩, by rw [htQ]; exact hP9, va_K.moved hWQ.alike hK9, hD9⟩, hS.F htQ⟩) hS.2.2 dX12_book_13

noncomputable def stR (mi sn x y : Int32) : Int32 := if x < 0 then -1 else if 1 < x then -1 else if y < 0 then -2 else if 9 < y then -2 else if x = 0 then mi else sn
noncomputable def stM (mi x y : Int32) : Int32 := if x < 0 then mi else if 1 < x then mi else if y < 0 then mi else if 9 < y then mi else if x = 0 then y else mi
noncomputable def stN (sn x y : Int32) : Int32 := if x < 0 then sn else if 1 < x then sn else if y < 0 then sn else if 9 < y then sn else if x = 0 then sn else y
theorem st_none {mi sn x y : Int32} (h : x < 0 ∨ 1 < x) : -1 = stR mi sn x y ∧ mi = stM mi x y ∧ sn = stN sn x y := by
  rcases h with h | h <;> exact ⟨by simp [stR, h], by simp [stM, h], by simp [stN, h]⟩
theorem st_bad {mi sn x y : Int32} (h1 : ¬ x < 0) (h2 : ¬ 1 < x) (h : y < 0 ∨ 9 < y) : -2 = stR mi sn x y ∧ mi = stM mi x y ∧ sn = stN sn x y := by
  rcases h with h | h <;> exact ⟨by simp [stR, h1, h2, h], by simp [stM, h], by simp [stN, h]⟩
theorem st_0 {mi sn y : Int32} (h1 : ¬ y < 0) (h2 : ¬ 9 < y) : mi = stR mi sn 0 y ∧ y = stM mi 0 y ∧ sn = stN sn 0 y := by
  refine ⟨?_, ?_, ?_⟩
  · rw [stR, if_neg (by decide), if_neg (by decide), if_neg h1, if_neg h2, if_pos rfl]
  · rw [stM, if_neg (by decide), if_neg (by decide), if_neg h1, if_neg h2, if_pos rfl]
  · rw [stN, if_neg (by decide), if_neg (by decide), if_neg h1, if_neg h2, if_pos rfl]
theorem st_1 {mi sn y : Int32} (h1 : ¬ y < 0) (h2 : ¬ 9 < y) : sn = stR mi sn 1 y ∧ mi = stM mi 1 y ∧ y = stN sn 1 y := by
  refine ⟨?_, ?_, ?_⟩
  · rw [stR, if_neg (by decide), if_neg (by decide), if_neg h1, if_neg h2, if_neg (by decide)]
  · rw [stM, if_neg (by decide), if_neg (by decide), if_neg h1, if_neg h2, if_neg (by decide)]
  · rw [stN, if_neg (by decide), if_neg (by decide), if_neg h1, if_neg h2, if_neg (by decide)]
theorem st_badj {mi sn y : Int32} {j : Nat} (hj : j ≤ 1) (h : y < 0 ∨ 9 < y) : -2 = stR mi sn (nI j) y ∧ mi = stM mi (nI j) y ∧ sn = stN sn (nI j) y := by
  have e : j = 0 ∨ j = 1 := by omega
  rcases e with rfl | rfl
  · exact st_bad (by decide) (by decide) h
  · exact st_bad (by decide) (by decide) h
theorem st_set {f : Nat → Int32} {j : Nat} {y : Int32} (hj : j ≤ 1) (h1 : ¬ y < 0) (h2 : ¬ 9 < y) : f (6 + j) = stR (f 6) (f 7) (nI j) y ∧ upd f (6 + j) y 6 = stM (f 6) (nI j) y ∧ upd f (6 + j) y 7 = stN (f 7) (nI j) y := by
  have e : j = 0 ∨ j = 1 := by omega
  rcases e with rfl | rfl
  · exact ⟨(st_0 (mi := f 6) (sn := f 7) h1 h2).1, pk_us.trans (st_0 (mi := f 6) (sn := f 7) h1 h2).2.1, (pk_un (by omega)).trans (st_0 (mi := f 6) (sn := f 7) h1 h2).2.2⟩
  · exact ⟨(st_1 (mi := f 6) (sn := f 7) h1 h2).1, (pk_un (by omega)).trans (st_1 (mi := f 6) (sn := f 7) h1 h2).2.1, pk_us.trans (st_1 (mi := f 6) (sn := f 7) h1 h2).2.2⟩
theorem two01 {x : Int32} (h1 : ¬ x < 0) (h2 : ¬ 1 < x) : x = 0 ∨ x = 1 := by
  obtain ⟨j, hj, rfl⟩ := nI_of2 (n := 1) (M := 1) rfl h1 (Int32.not_lt.mp h2)
  have e : j = 0 ∨ j = 1 := by omega
  rcases e with rfl | rfl
  · exact Or.inl rfl
  · exact Or.inr rfl

theorem kc_mSet_0 : ∀ w ∈ wsX120, w ∈ wsX12_set := fun w h => List.mem_cons_of_mem _ (gin_wsX120 w h)
theorem kc_mSet_1 : (.fieldLink RX12 9 "MistHeapsModel" "s" "[I" : Cond) ∈ wsX12_set := kc_of 1141 rfl rfl rfl
set_option maxHeartbeats 4000000 in
set_option maxRecDepth 100000 in
theorem c_mSet (l : Launch) (dC : Nat → ClassId) (dI : Nat → Nat → Nat) (m0 aS aI aB aT aG aO aN aD aY : Nat) (th im ac sp en wg op se dn rn kd nu tv : Int32) (bv : Int64) (cS : ClassId) (fS : Nat → Int32) (x y : Int32) (sz : Nat) : Met l yX12_set wsX12_set ({ frames := 1, cells := 0, slots := 0, locals := 22 } : Room) (va_Pc [.ref m0, .int x, .int y] (fun U => U.heap.size = sz ∧ va_P (dC, dI) vwCl [(zo14irriiiiiirriirrrrlriiii m0 th aS aI im ac sp en wg op aB aT se dn aG aO aN aD bv aY rn kd nu tv), (zaI aS cS 901 fS)] U.heap ∧ va_K (dC, dI) vwCl [(cS, .int)] U ∧ va_D (fun _ => True) [(zo14irriiiiiirriirrrrlriiii m0 th aS aI im ac sp en wg op aB aT se dn aG aO aN aD bv aY rn kd nu tv), (zaI aS cS 901 fS)])) (va_Qi (fun (r : Int32) (u : Nat → Int32) => match u with | fS9 => (r = stR (fS 6) (fS 7) x y ∧ fS9 6 = stM (fS 6) x y ∧ fS9 7 = stN (fS 7) x y) ∧ ∀ i, i ≠ 6 → i ≠ 7 → fS9 i = fS i) (fun (u : Nat → Int32) (t : State) => match u with | fS9 => va_P (dC, dI) vwCl [(zo14irriiiiiirriirrrrlriiii m0 th aS aI im ac sp en wg op aB aT se dn aG aO aN aD bv aY rn kd nu tv), (zaI aS cS 901 fS9)] t.heap ∧ va_K (dC, dI) vwCl [(cS, .int)] t ∧ va_D (va_A [(zo14irriiiiiirriirrrrlriiii m0 th aS aI im ac sp en wg op aB aT se dn aG aO aN aD bv aY rn kd nu tv), (zaI aS cS 901 fS)] sz) [(zo14irriiiiiirriirrrrlriiii m0 th aS aI im ac sp en wg op aB aT se dn aG aO aN aD bv aY rn kd nu tv), (zaI aS cS 901 fS9)]) (va_A [(zo14irriiiiiirriirrrrlriiii m0 th aS aI im ac sp en wg op aB aT se dn aG aO aN aD bv aY rn kd nu tv), (zaI aS cS 901 fS)] sz)) 0 0 (va_A [(zo14irriiiiiirriirrrrlriiii m0 th aS aI im ac sp en wg op aB aT se dn aG aO aN aD bv aY rn kd nu tv), (zaI aS cS 901 fS)] sz) := by
  refine met_ofQ (cc := cX12_set) (maxL := 4) (ret := (some .int)) (by decide) rfl ?_
  intro p e s m args below meth c s₁ Q B hml hv hQ
  obtain ⟨rfl, hsz, hP, hK, hD0⟩ := hv
  have hx := B.exec
  have hb := B.bytes
  have hr := B.returns
  have hts := atoms_spec (ws := wsX12_set) B.pre
  have hown : s.vm.findClass RX12 = some m.cls := findClass_of_methodNamed B.named
  have hlocks := B.notSynchronized
  subst hsz
  have hD := hD0.self (sz := s.heap.size)
  generalize hAe : va_A [(zo14irriiiiiirriirrrrlriiii m0 th aS aI im ac sp en wg op aB aT se dn aG aO aN aD bv aY rn kd nu tv), (zaI aS cS 901 fS)] s.heap.size = A at hD hQ ⊢
  have hA : ∀ q : Nat, s.heap.size ≤ q → A q := fun q h => by rw [← hAe]; exact Or.inr h
  have hS : va_S A s.heap s.heap [] := va_S.rf
  have hl := lv_entry [.ref m0, .int x, .int y] (n := 4) (Nat.le_of_ble_eq_true rfl)
  rw [lg_entry_eq]
  generalize (lg_sl [.ref m0, .int x, .int y] ++ List.replicate (4 - (lg_sl [.ref m0, .int x, .int y]).length) Slot.unset).toArray = ls at hl ⊢
  generalize hag : ([.ref m0, .int x, .int y] : List Value).toArray = args at hts hQ ⊢
  have hl : lv_has ls 4 [(0, .ref m0), (1, .int x), (2, .int y)] := hl
  obtain ⟨H, hH⟩ : ∃ H : Heap, H = s.heap := ⟨_, rfl⟩
  rw [← hH] at hP
  rw [← hH]
  have hS : va_S A s.heap H [] := by rw [hH]; exact hS
  obtain ⟨locs, hlo⟩ : ∃ L : List Loc, L = [] := ⟨_, rfl⟩
  rw [← hlo] at hS
  rw [← hlo]
  clear hH hlo
  refine lv_iload_n hx hb dX12_set_0 rfl (lv_at hl 1 rfl) ?_
  refine lv_iconst (v := 0) hx hb dX12_set_1 (by decide) ?_
  refine lv_iconst (v := 1) hx hb dX12_set_2 (by decide) ?_
  refine vp_callSi (va_runS (As := [.int x, .int 0, .int 1]) (rest := []) ⟨hx, hb, hml, hown, hts⟩ (c_in l dC dI x 0 1) (va_cwS 3 hts gX12_set_X12_in rfl rfl rfl hd_yX12_in.2 ⟨Nat.le_of_ble_eq_true rfl, Nat.le_of_ble_eq_true rfl⟩) ⟨fun a U g mk q => ⟨q.1, trivial⟩, fun U hU hW => ⟨rfl, trivial⟩⟩ rfl rfl hl.1 rfl (lv_room (Nat.le_of_ble_eq_true rfl)) dX12_set_3 ⟨Nat.le_of_ble_eq_true rfl, Nat.le_of_ble_eq_true rfl⟩).run (fun r_1 hw_2 => ?_)
  rcases hw_2 with ⟨rfl, h_3, h_4⟩ | ⟨rfl, h_5⟩
  · skip
    obtain ⟨j_6, hj_7, rfl⟩ := nI_of2 (n := 1) (M := 1) rfl h_3 (Int32.not_lt.mp h_4)
    refine lv_if_ne (tgt := 11) hx hb dX12_set_6 (by decide) (fun _ => ?_) (fun c_8 => absurd c_8 (by decide))
    refine lv_iload_n hx hb dX12_set_11 rfl (lv_at hl 2 rfl) ?_
    refine lv_iconst (v := 0) hx hb dX12_set_12 (by decide) ?_
    refine lv_bipush (v := 9) hx hb dX12_set_13 (by decide) ?_
    refine vp_callSi (va_runS (As := [.int y, .int 0, .int 9]) (rest := []) ⟨hx, hb, hml, hown, hts⟩ (c_in l dC dI y 0 9) (va_cwS 3 hts gX12_set_X12_in rfl rfl rfl hd_yX12_in.2 ⟨Nat.le_of_ble_eq_true rfl, Nat.le_of_ble_eq_true rfl⟩) ⟨fun a U g mk q => ⟨q.1, trivial⟩, fun U hU hW => ⟨rfl, trivial⟩⟩ rfl rfl hl.1 rfl (lv_room (Nat.le_of_ble_eq_true rfl)) dX12_set_15 ⟨Nat.le_of_ble_eq_true rfl, Nat.le_of_ble_eq_true rfl⟩).run (fun r_9 hw_10 => ?_)
    rcases hw_10 with ⟨rfl, h_11, h_12⟩ | ⟨rfl, h_13⟩
    · skip
      refine lv_if_ne (tgt := 24) hx hb dX12_set_18 (by decide) (fun _ => ?_) (fun c_14 => absurd c_14 (by decide))
      refine lv_aload_n hx hb dX12_set_24 rfl (lv_at hl 0 rfl) ?_
      refine va_get (D := (dC, dI)) (ci := 14) (v := .ref aS) (C := RX12) (T := TX12) (N := 23) hx hb hts kc_mSet_0 hown hK hP 0 rfl rfl 1 (by decide) (hts (.fieldLink RX12 9 "MistHeapsModel" "s" "[I") kc_mSet_1) (fun _ h9 => h9) rfl dX12_set_25 ?_
      refine lv_bipush (v := 6) hx hb dX12_set_28 (by decide) ?_
      refine lv_iload_n hx hb dX12_set_30 rfl (lv_at hl 1 rfl) ?_
      refine lv_iadd hx hb dX12_set_31 ?_
      refine qi_as (y := nI (6 + j_6)) (nI_add 6 j_6) ?_
      refine va_iald hx hb hK hP 1 0 rfl rfl (vp_in_nI (n := 6 + j_6) (N := 901) (by omega) (by omega)) dX12_set_32 ?_
      refine qi_as (y := fS (6 + j_6)) (by rw [nI_clamp (by omega)]) ?_
      refine lv_istore_n (lv' := [(3, .int (fS (6 + j_6))), (0, .ref m0), (1, .int (nI j_6)), (2, .int y)]) hx hb dX12_set_33 rfl hl (by decide) rfl (fun ls hl => ?_)
      refine lv_aload_n hx hb dX12_set_34 rfl (lv_at hl 1 rfl) ?_
      refine va_get (D := (dC, dI)) (ci := 14) (v := .ref aS) (C := RX12) (T := TX12) (N := 23) hx hb hts kc_mSet_0 hown hK hP 0 rfl rfl 1 (by decide) (hts (.fieldLink RX12 9 "MistHeapsModel" "s" "[I") kc_mSet_1) (fun _ h9 => h9) rfl dX12_set_35 ?_
      refine lv_bipush (v := 6) hx hb dX12_set_38 (by decide) ?_
      refine lv_iload_n hx hb dX12_set_40 rfl (lv_at hl 2 rfl) ?_
      refine lv_iadd hx hb dX12_set_41 ?_
      refine qi_as (y := nI (6 + j_6)) (nI_add 6 j_6) ?_
      refine lv_iload_n hx hb dX12_set_42 rfl (lv_at hl 3 rfl) ?_
      refine va_iast hx hb hK hP hD hS 1 0 rfl rfl (vp_in_nI (n := 6 + j_6) (N := 901) (by omega) (by omega)) dX12_set_43 (fun H locs hP hD hS => ?_)
      rw [nI_clamp (n := 6 + j_6) (by omega)] at hP hD
      have hP : va_P (dC, dI) vwCl [(zo14irriiiiiirriirrrrlriiii m0 th aS aI im ac sp en wg op aB aT se dn aG aO aN aD bv aY rn kd nu tv), (zaI aS cS 901 (upd fS (6 + j_6) y))] H := hP
      have hD : va_D A [(zo14irriiiiiirriirrrrlriiii m0 th aS aI im ac sp en wg op aB aT se dn aG aO aN aD bv aY rn kd nu tv), (zaI aS cS 901 (upd fS (6 + j_6) y))] := hD
      refine lv_iload_n hx hb dX12_set_44 rfl (lv_at hl 0 rfl) ?_
      rw [hQ]
      have hP9 := hP.sub (ws' := [(zo14irriiiiiirriirrrrlriiii m0 th aS aI im ac sp en wg op aB aT se dn aG aO aN aD bv aY rn kd nu tv), (zaI aS cS 901 (upd fS (6 + j_6) y))]) [0, 1] rfl
      have hD9 := hD.sub (ws' := [(zo14irriiiiiirriirrrrlriiii m0 th aS aI im ac sp en wg op aB aT se dn aG aO aN aD bv aY rn kd nu tv), (zaI aS cS 901 (upd fS (6 + j_6) y))]) [0, 1] (by decide) rfl
      have hK9 := hK.sub (tys' := [(cS, .int)]) [0] rfl
      exact W.iret (v := fS (6 + j_6)) hx hb hr (fun tQ htQ hWQ => ⟨⟨(fS (6 + j_6)), (upd fS (6 + j_6) y), rfl, ⟨st_set (by omega) (by assumption) (by assumption), fun i h1 h2 => pk_un (by omega)⟩, by rw [htQ]; exact hP9, va_K.moved hWQ.alike hK9, hD9⟩, hS.F htQ⟩) hS.2.2 dX12_set_45
    · skip
      refine lv_if_ne (tgt := 24) hx hb dX12_set_18 (by decide) (fun c_15 => absurd c_15 (by decide)) (fun _ => ?_)
      refine lv_bipush (v := (-2)) hx hb dX12_set_21 (by decide) ?_
      rw [hQ]
      have hP9 := hP.sub (ws' := [(zo14irriiiiiirriirrrrlriiii m0 th aS aI im ac sp en wg op aB aT se dn aG aO aN aD bv aY rn kd nu tv), (zaI aS cS 901 fS)]) [0, 1] rfl
      have hD9 := hD.sub (ws' := [(zo14irriiiiiirriirrrrlriiii m0 th aS aI im ac sp en wg op aB aT se dn aG aO aN aD bv aY rn kd nu tv), (zaI aS cS 901 fS)]) [0, 1] (by decide) rfl
      have hK9 := hK.sub (tys' := [(cS, .int)]) [0] rfl
      exact W.iret (v := (-2)) hx hb hr (fun tQ htQ hWQ => ⟨⟨(-2), fS, rfl, ⟨st_badj (by omega) (by assumption), fun i h1 h2 => rfl⟩, by rw [htQ]; exact hP9, va_K.moved hWQ.alike hK9, hD9⟩, hS.F htQ⟩) hS.2.2 dX12_set_23
  · skip
    refine lv_if_ne (tgt := 11) hx hb dX12_set_6 (by decide) (fun c_16 => absurd c_16 (by decide)) (fun _ => ?_)
    refine lv_iconst (v := (-1)) hx hb dX12_set_9 (by decide) ?_
    rw [hQ]
    have hP9 := hP.sub (ws' := [(zo14irriiiiiirriirrrrlriiii m0 th aS aI im ac sp en wg op aB aT se dn aG aO aN aD bv aY rn kd nu tv), (zaI aS cS 901 fS)]) [0, 1] rfl
    have hD9 := hD.sub (ws' := [(zo14irriiiiiirriirrrrlriiii m0 th aS aI im ac sp en wg op aB aT se dn aG aO aN aD bv aY rn kd nu tv), (zaI aS cS 901 fS)]) [0, 1] (by decide) rfl
    have hK9 := hK.sub (tys' := [(cS, .int)]) [0] rfl
    exact W.iret (v := (-1)) hx hb hr (fun tQ htQ hWQ => ⟨⟨(-1), fS, rfl, ⟨st_none (by assumption), fun i h1 h2 => rfl⟩, by rw [htQ]; exact hP9, va_K.moved hWQ.alike hK9, hD9⟩, hS.F htQ⟩) hS.2.2 dX12_set_10

theorem kc_edgesMany_0 : ∀ w ∈ wsX120, w ∈ wsX12_edgesMany := fun w h => List.mem_cons_of_mem _ (gin_wsX120 w h)
theorem kc_edgesMany_1 : (.fieldLink RX12 9 "MistHeapsModel" "s" "[I" : Cond) ∈ wsX12_edgesMany := kc_of 1141 rfl rfl rfl
set_option maxHeartbeats 4000000 in
set_option maxRecDepth 100000 in
theorem c_edgesMany (l : Launch) (dC : Nat → ClassId) (dI : Nat → Nat → Nat) (m0 aS aI aB aT aG aO aN aD aY : Nat) (th im ac sp en wg op se dn rn kd nu tv : Int32) (bv : Int64) (cS : ClassId) (fS : Nat → Int32) (ee : Nat) (zee : ∀ k, k < 36 → fS (37 + k) = nI (ee / 2 ^ k % 2)) : Met l yX12_edgesMany wsX12_edgesMany ({ frames := 0, cells := 0, slots := 0, locals := 0 } : Room) (va_Pc [.ref m0] (fun U => va_P (dC, dI) vwCl [(zo14irriiiiiirriirrrrlriiii m0 th aS aI im ac sp en wg op aB aT se dn aG aO aN aD bv aY rn kd nu tv), (zaI aS cS 901 fS)] U.heap ∧ va_K (dC, dI) vwCl [(cS, .int)] U)) (vp_Si (fun r => r = nI (bsum 36 ee))) 0 0 (fun _ => False) := by
  refine met_ofQ (cc := cX12_edgesMany) (maxL := 3) (ret := (some .int)) (by decide) rfl ?_
  intro p e s m args below meth c s₁ Q B hml hv hQ
  obtain ⟨rfl, hP, hK⟩ := hv
  have hx := B.exec
  have hb := B.bytes
  have hr := B.returns
  have hts := atoms_spec (ws := wsX12_edgesMany) B.pre
  have hown : s.vm.findClass RX12 = some m.cls := findClass_of_methodNamed B.named
  have hlocks := B.notSynchronized
  obtain ⟨A, hAe⟩ : ∃ A : Nat → Prop, A = fun _ => False := ⟨_, rfl⟩
  rw [← hAe] at hQ
  have hS : va_S A s.heap s.heap [] := va_S.rf
  have hl := lv_entry [.ref m0] (n := 3) (Nat.le_of_ble_eq_true rfl)
  rw [lg_entry_eq]
  generalize (lg_sl [.ref m0] ++ List.replicate (3 - (lg_sl [.ref m0]).length) Slot.unset).toArray = ls at hl ⊢
  generalize hag : ([.ref m0] : List Value).toArray = args at hts hQ ⊢
  have hl : lv_has ls 3 [(0, .ref m0)] := hl
  refine lv_iconst (v := 0) hx hb dX12_edgesMany_0 (by decide) ?_
  refine lv_istore_n (lv' := [(1, .int 0), (0, .ref m0)]) hx hb dX12_edgesMany_1 rfl hl (by decide) rfl (fun ls hl => ?_)
  refine lv_iconst (v := 0) hx hb dX12_edgesMany_2 (by decide) ?_
  refine lv_istore_n (lv' := [(2, .int 0), (1, .int 0), (0, .ref m0)]) hx hb dX12_edgesMany_3 rfl hl (by decide) rfl (fun ls hl => ?_)
  have L4 : ∀ (nF : Nat) (i : Nat), 36 - i < nF → (i ≤ 36) → ∀ (ls : Array Slot), lv_has ls 3 [(0, .ref m0), (1, .int (nI (bsum i ee))), (2, .int (nI i))] → W p l e ({ frames := 0, cells := 0, slots := 0, locals := 0 } : Room) s m args below meth c s.heap [] 0 0 Q (F0 m 4 ls []) := by
    intro nF
    induction nF with
    | zero => intro i hm; exact absurd hm (Nat.not_lt_zero _)
    | succ nF ih4 =>
      intro i hm hi ls hl
      refine lv_iload_n hx hb dX12_edgesMany_4 rfl (lv_at hl 2 rfl) ?_
      refine lv_bipush (v := 36) hx hb dX12_edgesMany_5 (by decide) ?_
      refine lv_icmp_ge (tgt := 28) hx hb dX12_edgesMany_7 (by decide) (fun c_1 => ?_) (fun c_1 => ?_)
      · skip
        have c_1 : 36 ≤ i := (nI_leI (a := 36) (b := i) (by omega) (by omega)).mp c_1
        refine lv_iload_n hx hb dX12_edgesMany_28 rfl (lv_at hl 1 rfl) ?_
        rw [hQ]
        exact W.iret (v := nI (bsum i ee)) hx hb hr (fun tQ htQ hWQ => ⟨nI (bsum i ee), rfl, by rw [show i = 36 by omega], by rw [htQ]⟩) (fun q hq => absurd hq List.not_mem_nil) dX12_edgesMany_29
      · skip
        have c_1 : ¬ 36 ≤ i := fun q => c_1 ((nI_leI (a := 36) (b := i) (by omega) (by omega)).mpr q)
        refine lv_iload_n hx hb dX12_edgesMany_10 rfl (lv_at hl 1 rfl) ?_
        refine lv_aload_n hx hb dX12_edgesMany_11 rfl (lv_at hl 0 rfl) ?_
        refine va_get (D := (dC, dI)) (ci := 14) (v := .ref aS) (C := RX12) (T := TX12) (N := 23) hx hb hts kc_edgesMany_0 hown hK hP 0 rfl rfl 1 (by decide) (hts (.fieldLink RX12 9 "MistHeapsModel" "s" "[I") kc_edgesMany_1) (fun _ h9 => h9) rfl dX12_edgesMany_12 ?_
        refine lv_bipush (v := 37) hx hb dX12_edgesMany_15 (by decide) ?_
        refine lv_iload_n hx hb dX12_edgesMany_17 rfl (lv_at hl 2 rfl) ?_
        refine lv_iadd hx hb dX12_edgesMany_18 ?_
        refine qi_as (y := nI (37 + i)) (nI_add 37 i) ?_
        refine va_iald hx hb hK hP 1 0 rfl rfl (vp_in_nI (n := 37 + i) (N := 901) (by omega) (by omega)) dX12_edgesMany_19 ?_
        refine qi_as (y := nI (ee / 2 ^ i % 2)) ((show fS (nI (37 + i) : Int32).toNatClampNeg = fS (37 + i) from by rw [nI_clamp (by omega)]).trans (zee i (by omega))) ?_
        refine lv_iadd hx hb dX12_edgesMany_20 ?_
        refine qi_as (y := nI ((bsum i ee) + (ee / 2 ^ i % 2))) (nI_add (bsum i ee) (ee / 2 ^ i % 2)) ?_
        refine qi_as (y := nI (bsum (i + 1) ee)) (congrArg nI (bs_s i ee).symm) ?_
        refine lv_istore_n (lv' := [(1, .int (nI (bsum (i + 1) ee))), (0, .ref m0), (2, .int (nI i))]) hx hb dX12_edgesMany_21 rfl hl (by decide) rfl (fun ls hl => ?_)
        refine lv_iinc (v := nI (i + 1)) (lv' := [(2, .int (nI (i + 1))), (1, .int (nI (bsum (i + 1) ee))), (0, .ref m0)]) hx hb dX12_edgesMany_22 hl (k := 2) rfl (nI_add i 1) (by decide) rfl (fun ls hl => ?_)
        refine lv_goto (tgt := 4) hx hb dX12_edgesMany_25 (by decide) ?_
        exact ih4 (i + 1) (by omega) (by omega) ls (lv_sub hl [2, 1, 0] rfl)
  exact L4 _ (0) (Nat.lt_succ_self _) (by omega) ls (lv_sub hl [2, 1, 0] rfl)

theorem kc_mEdges_0 : ∀ w ∈ wsX120, w ∈ wsX12_edges := fun w h => List.mem_cons_of_mem _ (gin_wsX120 w h)
theorem kc_mEdges_1 : (.fieldLink RX12 9 "MistHeapsModel" "s" "[I" : Cond) ∈ wsX12_edges := kc_of 1141 rfl rfl rfl
set_option maxHeartbeats 4000000 in
set_option maxRecDepth 100000 in
theorem c_mEdges (l : Launch) (dC : Nat → ClassId) (dI : Nat → Nat → Nat) (m0 aS aI aB aT aG aO aN aD aY : Nat) (th im ac sp en wg op se dn rn kd nu tv : Int32) (bv : Int64) (cS : ClassId) (fS : Nat → Int32) (ee : Nat) (x : Int64) (sz : Nat) (zee : ∀ k, k < 36 → fS (37 + k) = nI (ee / 2 ^ k % 2)) : Met l yX12_edges wsX12_edges ({ frames := 1, cells := 0, slots := 0, locals := 22 } : Room) (va_Pc [.ref m0, .long x] (fun U => U.heap.size = sz ∧ va_P (dC, dI) vwCl [(zo14irriiiiiirriirrrrlriiii m0 th aS aI im ac sp en wg op aB aT se dn aG aO aN aD bv aY rn kd nu tv), (zaI aS cS 901 fS)] U.heap ∧ va_K (dC, dI) vwCl [(cS, .int)] U ∧ va_D (fun _ => True) [(zo14irriiiiiirriirrrrlriiii m0 th aS aI im ac sp en wg op aB aT se dn aG aO aN aD bv aY rn kd nu tv), (zaI aS cS 901 fS)])) (va_Qi (fun (r : Int32) (u : Nat → Int32) => match u with | fS9 => r = edR ee x ∧ ((¬ edK x ∧ fS9 = fS) ∨ (edK x ∧ ∃ e : Nat, e < 2 ^ 36 ∧ x = lN e ∧ (∀ k, k < 36 → fS9 (37 + k) = nI (e / 2 ^ k % 2)) ∧ ∀ i, ¬ (37 ≤ i ∧ i < 73) → fS9 i = fS i))) (fun (u : Nat → Int32) (t : State) => match u with | fS9 => va_P (dC, dI) vwCl [(zo14irriiiiiirriirrrrlriiii m0 th aS aI im ac sp en wg op aB aT se dn aG aO aN aD bv aY rn kd nu tv), (zaI aS cS 901 fS9)] t.heap ∧ va_K (dC, dI) vwCl [(cS, .int)] t ∧ va_D (va_A [(zo14irriiiiiirriirrrrlriiii m0 th aS aI im ac sp en wg op aB aT se dn aG aO aN aD bv aY rn kd nu tv), (zaI aS cS 901 fS)] sz) [(zo14irriiiiiirriirrrrlriiii m0 th aS aI im ac sp en wg op aB aT se dn aG aO aN aD bv aY rn kd nu tv), (zaI aS cS 901 fS9)]) (va_A [(zo14irriiiiiirriirrrrlriiii m0 th aS aI im ac sp en wg op aB aT se dn aG aO aN aD bv aY rn kd nu tv), (zaI aS cS 901 fS)] sz)) 0 0 (va_A [(zo14irriiiiiirriirrrrlriiii m0 th aS aI im ac sp en wg op aB aT se dn aG aO aN aD bv aY rn kd nu tv), (zaI aS cS 901 fS)] sz) := by
  refine met_ofQ (cc := cX12_edges) (maxL := 5) (ret := (some .int)) (by decide) rfl ?_
  intro p e s m args below meth c s₁ Q B hml hv hQ
  obtain ⟨rfl, hsz, hP, hK, hD0⟩ := hv
  have hx := B.exec
  have hb := B.bytes
  have hr := B.returns
  have hts := atoms_spec (ws := wsX12_edges) B.pre
  have hown : s.vm.findClass RX12 = some m.cls := findClass_of_methodNamed B.named
  have hlocks := B.notSynchronized
  subst hsz
  have hD := hD0.self (sz := s.heap.size)
  generalize hAe : va_A [(zo14irriiiiiirriirrrrlriiii m0 th aS aI im ac sp en wg op aB aT se dn aG aO aN aD bv aY rn kd nu tv), (zaI aS cS 901 fS)] s.heap.size = A at hD hQ ⊢
  have hA : ∀ q : Nat, s.heap.size ≤ q → A q := fun q h => by rw [← hAe]; exact Or.inr h
  have hS : va_S A s.heap s.heap [] := va_S.rf
  have hl := lv_entry [.ref m0, .long x] (n := 5) (Nat.le_of_ble_eq_true rfl)
  rw [lg_entry_eq]
  generalize (lg_sl [.ref m0, .long x] ++ List.replicate (5 - (lg_sl [.ref m0, .long x]).length) Slot.unset).toArray = ls at hl ⊢
  generalize hag : ([.ref m0, .long x] : List Value).toArray = args at hts hQ ⊢
  have hl : lv_has ls 5 [(0, .ref m0), (1, .long x)] := hl
  obtain ⟨H, hH⟩ : ∃ H : Heap, H = s.heap := ⟨_, rfl⟩
  rw [← hH] at hP
  rw [← hH]
  have hS : va_S A s.heap H [] := by rw [hH]; exact hS
  obtain ⟨locs, hlo⟩ : ∃ L : List Loc, L = [] := ⟨_, rfl⟩
  rw [← hlo] at hS
  rw [← hlo]
  clear hH hlo
  refine lv_lload_n hx hb dX12_edges_0 rfl (lv_at hl 1 rfl) ?_
  refine lv_lconst (v := 0) hx hb dX12_edges_1 (by decide) ?_
  refine W.lcmp hx hb dX12_edges_2 ?_
  refine lv_if_lt (tgt := 15) hx hb dX12_edges_3 (by decide) (fun c_1 => ?_) (fun c_1 => ?_)
  · skip
    have hx0 : x < 0 := (lg_cmp_lt x 0).mp c_1
    refine lv_bipush (v := (-2)) hx hb dX12_edges_15 (by decide) ?_
    rw [hQ]
    have hP9 := hP.sub (ws' := [(zo14irriiiiiirriirrrrlriiii m0 th aS aI im ac sp en wg op aB aT se dn aG aO aN aD bv aY rn kd nu tv), (zaI aS cS 901 fS)]) [0, 1] rfl
    have hD9 := hD.sub (ws' := [(zo14irriiiiiirriirrrrlriiii m0 th aS aI im ac sp en wg op aB aT se dn aG aO aN aD bv aY rn kd nu tv), (zaI aS cS 901 fS)]) [0, 1] (by decide) rfl
    have hK9 := hK.sub (tys' := [(cS, .int)]) [0] rfl
    exact W.iret (v := (-2)) hx hb hr (fun tQ htQ hWQ => ⟨⟨(-2), fS, rfl, by first | exact ⟨ed_no (fun z => ((ed_mask x).mp z).1 hx0), Or.inl ⟨fun z => ((ed_mask x).mp z).1 hx0, rfl⟩⟩ | exact ⟨ed_no (fun z => hx1 ((ed_mask x).mp z).2), Or.inl ⟨fun z => hx1 ((ed_mask x).mp z).2, rfl⟩⟩, by rw [htQ]; exact hP9, va_K.moved hWQ.alike hK9, hD9⟩, hS.F htQ⟩) hS.2.2 dX12_edges_17
  · skip
    have hx0 : ¬ x < 0 := fun z => c_1 ((lg_cmp_lt x 0).mpr z)
    refine lv_lload_n hx hb dX12_edges_6 rfl (lv_at hl 1 rfl) ?_
    refine lv_bipush (v := 36) hx hb dX12_edges_7 (by decide) ?_
    refine lv_lshr (v := x >>> ((36 : Int32).toInt64 &&& 63)) hx hb dX12_edges_9 (rfl) ?_
    refine lv_lconst (v := 0) hx hb dX12_edges_10 (by decide) ?_
    refine W.lcmp hx hb dX12_edges_11 ?_
    refine lv_if_eq (tgt := 18) hx hb dX12_edges_12 (by decide) (fun c_2 => ?_) (fun c_2 => ?_)
    · skip
      have hx1 := (lg_cmp_eq _ _).mp c_2
      have hk9 : edK x := (ed_mask x).mpr ⟨hx0, hx1⟩
      obtain ⟨eg, heg, rfl⟩ := ed_of hk9
      refine lv_aload_n hx hb dX12_edges_18 rfl (lv_at hl 0 rfl) ?_
      have hPc := hP.sub (ws' := [(zo14irriiiiiirriirrrrlriiii m0 th aS aI im ac sp en wg op aB aT se dn aG aO aN aD bv aY rn kd nu tv), (zaI aS cS 901 fS)]) [0, 1] rfl
      have hKc := hK.sub (tys' := [(cS, .int)]) [0] rfl
      refine vp_callSi (va_runV (As := []) (rest := []) ⟨hx, hb, hml, hown, hts⟩ (c_edgesMany l dC dI m0 aS aI aB aT aG aO aN aD aY th im ac sp en wg op se dn rn kd nu tv bv cS fS ee (zee)) (cwV 0 hts gX12_edges_X12_edgesMany rfl rfl rfl hd_yX12_edgesMany ⟨Nat.le_of_ble_eq_true rfl, Nat.le_of_ble_eq_true rfl⟩) ⟨fun a U g mk q => by obtain ⟨q0, qP, qK⟩ := q; exact ⟨q0, qP, va_K.moved (u := U) (U := U.calling g mk a) (Vm.Alike.refl U.vm) qK⟩, va_recv hK hP (ci := 14) (q := (RX12, TX12, 23)) (q0 := 0) rfl rfl, fun U hU hW => ⟨rfl, by rw [hU]; exact hPc, va_K.moved hW.alike hKc⟩⟩ rfl rfl hl.1 rfl (lv_room (Nat.le_of_ble_eq_true rfl)) dX12_edges_19 ⟨Nat.le_of_ble_eq_true rfl, Nat.le_of_ble_eq_true rfl⟩).run (fun r_3 hw_4 => ?_)
      obtain rfl := hw_4
      refine lv_istore_n (lv' := [(3, .int (nI (bsum 36 ee))), (0, .ref m0), (1, .long (lN eg))]) hx hb dX12_edges_22 rfl hl (by decide) rfl (fun ls hl => ?_)
      refine lv_iconst (v := 0) hx hb dX12_edges_23 (by decide) ?_
      refine lv_istore (lv' := [(4, .int 0), (3, .int (nI (bsum 36 ee))), (0, .ref m0), (1, .long (lN eg))]) hx hb dX12_edges_24 hl (by decide) rfl (fun ls hl => ?_)
      have L26 : ∀ (nF : Nat) (i : Nat) (f : Nat → Int32), 36 - i < nF → (i ≤ 36) → ((∀ k, k < i → f (37 + k) = nI (eg / 2 ^ k % 2)) ∧ ∀ k, ¬ (37 ≤ k ∧ k < 73) → f k = fS k) → ∀ (H : Heap) (locs : List Loc), va_K (dC, dI) vwCl [(cS, .int)] s → va_P (dC, dI) vwCl [(zo14irriiiiiirriirrrrlriiii m0 th aS aI im ac sp en wg op aB aT se dn aG aO aN aD bv aY rn kd nu tv), (zaI aS cS 901 f)] H → va_D A [(zo14irriiiiiirriirrrrlriiii m0 th aS aI im ac sp en wg op aB aT se dn aG aO aN aD bv aY rn kd nu tv), (zaI aS cS 901 f)] → va_S A s.heap H locs → ∀ (ls : Array Slot), lv_has ls 5 [(0, .ref m0), (1, .long (lN eg)), (3, .int (nI (bsum 36 ee))), (4, .int (nI i))] → W p l e ({ frames := 1, cells := 0, slots := 0, locals := 22 } : Room) s m args below meth c H locs 0 0 Q (F0 m 26 ls []) := by
        intro nF
        induction nF with
        | zero => intro i f hm; exact absurd hm (Nat.not_lt_zero _)
        | succ nF ih26 =>
          intro i f hm hi zf H locs hK hP hD hS ls hl
          refine lv_iload hx hb dX12_edges_26 (lv_at hl 3 rfl) ?_
          refine lv_bipush (v := 36) hx hb dX12_edges_28 (by decide) ?_
          refine lv_icmp_ge (tgt := 56) hx hb dX12_edges_30 (by decide) (fun c_5 => ?_) (fun c_5 => ?_)
          · skip
            have c_5 : 36 ≤ i := (nI_leI (a := 36) (b := i) (by omega) (by omega)).mp c_5
            refine lv_iload_n hx hb dX12_edges_56 rfl (lv_at hl 2 rfl) ?_
            rw [hQ]
            have hP9 := hP.sub (ws' := [(zo14irriiiiiirriirrrrlriiii m0 th aS aI im ac sp en wg op aB aT se dn aG aO aN aD bv aY rn kd nu tv), (zaI aS cS 901 f)]) [0, 1] rfl
            have hD9 := hD.sub (ws' := [(zo14irriiiiiirriirrrrlriiii m0 th aS aI im ac sp en wg op aB aT se dn aG aO aN aD bv aY rn kd nu tv), (zaI aS cS 901 f)]) [0, 1] (by decide) rfl
            have hK9 := hK.sub (tys' := [(cS, .int)]) [0] rfl
            exact W.iret (v := nI (bsum 36 ee)) hx hb hr (fun tQ htQ hWQ => ⟨⟨(nI (bsum 36 ee)), f, rfl, ⟨ed_yes hk9, Or.inr ⟨hk9, eg, heg, rfl, fun k hk => zf.1 k (by omega), zf.2⟩⟩, by rw [htQ]; exact hP9, va_K.moved hWQ.alike hK9, hD9⟩, hS.F htQ⟩) hS.2.2 dX12_edges_57
          · skip
            have c_5 : ¬ 36 ≤ i := fun q => c_5 ((nI_leI (a := 36) (b := i) (by omega) (by omega)).mpr q)
            refine lv_aload_n hx hb dX12_edges_33 rfl (lv_at hl 0 rfl) ?_
            refine va_get (D := (dC, dI)) (ci := 14) (v := .ref aS) (C := RX12) (T := TX12) (N := 23) hx hb hts kc_mEdges_0 hown hK hP 0 rfl rfl 1 (by decide) (hts (.fieldLink RX12 9 "MistHeapsModel" "s" "[I") kc_mEdges_1) (fun _ h9 => h9) rfl dX12_edges_34 ?_
            refine lv_bipush (v := 37) hx hb dX12_edges_37 (by decide) ?_
            refine lv_iload hx hb dX12_edges_39 (lv_at hl 3 rfl) ?_
            refine lv_iadd hx hb dX12_edges_41 ?_
            refine qi_as (y := nI (37 + i)) (nI_add 37 i) ?_
            refine lv_lload_n hx hb dX12_edges_42 rfl (lv_at hl 1 rfl) ?_
            refine lv_iload hx hb dX12_edges_43 (lv_at hl 3 rfl) ?_
            refine lv_lshr (v := lN (eg / 2 ^ i)) hx hb dX12_edges_45 (lsr_i heg (by omega)) ?_
            refine lv_lconst (v := 1) hx hb dX12_edges_46 (by decide) ?_
            refine lv_land hx hb dX12_edges_47 ?_
            refine ql_as (y := lN (eg / 2 ^ i % 2)) (wb_a1 (Nat.lt_of_le_of_lt (Nat.div_le_self _ _) (by omega))) ?_
            refine lv_l2i (v := nI (eg / 2 ^ i % 2)) hx hb dX12_edges_48 (lN_i _) ?_
            refine va_iast hx hb hK hP hD hS 1 0 rfl rfl (vp_in_nI (n := 37 + i) (N := 901) (by omega) (by omega)) dX12_edges_49 (fun H locs hP hD hS => ?_)
            rw [nI_clamp (n := 37 + i) (by omega)] at hP hD
            have hP : va_P (dC, dI) vwCl [(zo14irriiiiiirriirrrrlriiii m0 th aS aI im ac sp en wg op aB aT se dn aG aO aN aD bv aY rn kd nu tv), (zaI aS cS 901 (upd f (37 + i) (nI (eg / 2 ^ i % 2))))] H := hP
            have hD : va_D A [(zo14irriiiiiirriirrrrlriiii m0 th aS aI im ac sp en wg op aB aT se dn aG aO aN aD bv aY rn kd nu tv), (zaI aS cS 901 (upd f (37 + i) (nI (eg / 2 ^ i % 2))))] := hD
            refine lv_iinc (v := nI (i + 1)) (lv' := [(4, .int (nI (i + 1))), (0, .ref m0), (1, .long (lN eg)), (3, .int (nI (bsum 36 ee)))]) hx hb dX12_edges_50 hl (k := 3) rfl (nI_add i 1) (by decide) rfl (fun ls hl => ?_)
            refine lv_goto (tgt := 26) hx hb dX12_edges_53 (by decide) ?_
            exact ih26 (i + 1) _ (by omega) (by omega) (ed_step (by omega) zf) _ _ (hK.sub [0] rfl) (hP.sub [0, 1] rfl) (hD.sub [0, 1] (by decide) rfl) hS ls (lv_sub hl [1, 2, 3, 0] rfl)
      exact L26 _ (0) _ (Nat.lt_succ_self _) (by omega) (⟨fun k hk => absurd hk (Nat.not_lt_zero k), fun _ _ => rfl⟩) _ _ (hK.sub [0] rfl) (hP.sub [0, 1] rfl) (hD.sub [0, 1] (by decide) rfl) hS ls (lv_sub hl [2, 3, 1, 0] rfl)
    · skip
      have hx1 : ¬ x >>> ((36 : Int32).toInt64 &&& 63) = 0 := fun z => c_2 ((lg_cmp_eq _ _).mpr z)
      refine lv_bipush (v := (-2)) hx hb dX12_edges_15 (by decide) ?_
      rw [hQ]
      have hP9 := hP.sub (ws' := [(zo14irriiiiiirriirrrrlriiii m0 th aS aI im ac sp en wg op aB aT se dn aG aO aN aD bv aY rn kd nu tv), (zaI aS cS 901 fS)]) [0, 1] rfl
      have hD9 := hD.sub (ws' := [(zo14irriiiiiirriirrrrlriiii m0 th aS aI im ac sp en wg op aB aT se dn aG aO aN aD bv aY rn kd nu tv), (zaI aS cS 901 fS)]) [0, 1] (by decide) rfl
      have hK9 := hK.sub (tys' := [(cS, .int)]) [0] rfl
      exact W.iret (v := (-2)) hx hb hr (fun tQ htQ hWQ => ⟨⟨(-2), fS, rfl, by first | exact ⟨ed_no (fun z => ((ed_mask x).mp z).1 hx0), Or.inl ⟨fun z => ((ed_mask x).mp z).1 hx0, rfl⟩⟩ | exact ⟨ed_no (fun z => hx1 ((ed_mask x).mp z).2), Or.inl ⟨fun z => hx1 ((ed_mask x).mp z).2, rfl⟩⟩, by rw [htQ]; exact hP9, va_K.moved hWQ.alike hK9, hD9⟩, hS.F htQ⟩) hS.2.2 dX12_edges_17

theorem kc_sightX_0 : ∀ w ∈ wsX120, w ∈ wsX12_sight := fun w h => List.mem_cons_of_mem _ (gin_wsX120 w h)
theorem kc_sightX_1 : (.fieldLink RX12 9 "MistHeapsModel" "s" "[I" : Cond) ∈ wsX12_sight := kc_of 1141 rfl rfl rfl
set_option maxHeartbeats 4000000 in
set_option maxRecDepth 100000 in
theorem c_sightX (l : Launch) (dC : Nat → ClassId) (dI : Nat → Nat → Nat) (m0 aS aI aB aT aG aO aN aD aY : Nat) (th im ac sp en wg op se dn rn kd nu tv : Int32) (bv : Int64) (cS : ClassId) (fS : Nat → Int32) (sg : Nat) (zsg : (fS 5 = -1 ∧ sg = 3) ∨ ∃ h : Nat, h < 5 ∧ fS 5 = nI h ∧ fS (191 + h) = nI sg) : Met l yX12_sight wsX12_sight ({ frames := 0, cells := 0, slots := 0, locals := 0 } : Room) (va_Pc [.ref m0] (fun U => va_P (dC, dI) vwCl [(zo14irriiiiiirriirrrrlriiii m0 th aS aI im ac sp en wg op aB aT se dn aG aO aN aD bv aY rn kd nu tv), (zaI aS cS 901 fS)] U.heap ∧ va_K (dC, dI) vwCl [(cS, .int)] U)) (vp_Si (fun r => r = nI sg)) 0 0 (fun _ => False) := by
  refine met_ofQ (cc := cX12_sight) (maxL := 1) (ret := (some .int)) (by decide) rfl ?_
  intro p e s m args below meth c s₁ Q B hml hv hQ
  obtain ⟨rfl, hP, hK⟩ := hv
  have hx := B.exec
  have hb := B.bytes
  have hr := B.returns
  have hts := atoms_spec (ws := wsX12_sight) B.pre
  have hown : s.vm.findClass RX12 = some m.cls := findClass_of_methodNamed B.named
  have hlocks := B.notSynchronized
  obtain ⟨A, hAe⟩ : ∃ A : Nat → Prop, A = fun _ => False := ⟨_, rfl⟩
  rw [← hAe] at hQ
  have hS : va_S A s.heap s.heap [] := va_S.rf
  have hl := lv_entry [.ref m0] (n := 1) (Nat.le_of_ble_eq_true rfl)
  rw [lg_entry_eq]
  generalize (lg_sl [.ref m0] ++ List.replicate (1 - (lg_sl [.ref m0]).length) Slot.unset).toArray = ls at hl ⊢
  generalize hag : ([.ref m0] : List Value).toArray = args at hts hQ ⊢
  have hl : lv_has ls 1 [(0, .ref m0)] := hl
  rcases zsg with ⟨zh, rfl⟩ | ⟨h, hh, zh, zsg⟩
  · skip
    refine lv_aload_n hx hb dX12_sight_0 rfl (lv_at hl 0 rfl) ?_
    refine va_get (D := (dC, dI)) (ci := 14) (v := .ref aS) (C := RX12) (T := TX12) (N := 23) hx hb hts kc_sightX_0 hown hK hP 0 rfl rfl 1 (by decide) (hts (.fieldLink RX12 9 "MistHeapsModel" "s" "[I") kc_sightX_1) (fun _ h9 => h9) rfl dX12_sight_1 ?_
    refine lv_iconst (v := 5) hx hb dX12_sight_4 (by decide) ?_
    refine va_iald hx hb hK hP 1 0 rfl rfl (vp_in_nI (n := 5) (N := 901) (by omega) (by omega)) dX12_sight_5 ?_
    refine qi_as (y := (-1)) ((show fS (5 : Int32).toNatClampNeg = fS 5 from rfl).trans (zh)) ?_
    refine lv_iconst (v := (-1)) hx hb dX12_sight_6 (by decide) ?_
    refine lv_icmp_ne (tgt := 14) hx hb dX12_sight_7 (by decide) (fun c_1 => absurd c_1 (by decide)) (fun _ => ?_)
    refine lv_iconst (v := 3) hx hb dX12_sight_10 (by decide) ?_
    refine lv_goto (tgt := 29) hx hb dX12_sight_11 (by decide) ?_
    rw [hQ]
    exact W.iret (v := 3) hx hb hr (fun tQ htQ hWQ => ⟨3, rfl, rfl, by rw [htQ]⟩) (fun q hq => absurd hq List.not_mem_nil) dX12_sight_29
  · skip
    refine lv_aload_n hx hb dX12_sight_0 rfl (lv_at hl 0 rfl) ?_
    refine va_get (D := (dC, dI)) (ci := 14) (v := .ref aS) (C := RX12) (T := TX12) (N := 23) hx hb hts kc_sightX_0 hown hK hP 0 rfl rfl 1 (by decide) (hts (.fieldLink RX12 9 "MistHeapsModel" "s" "[I") kc_sightX_1) (fun _ h9 => h9) rfl dX12_sight_1 ?_
    refine lv_iconst (v := 5) hx hb dX12_sight_4 (by decide) ?_
    refine va_iald hx hb hK hP 1 0 rfl rfl (vp_in_nI (n := 5) (N := 901) (by omega) (by omega)) dX12_sight_5 ?_
    refine qi_as (y := nI h) ((show fS (5 : Int32).toNatClampNeg = fS 5 from rfl).trans (zh)) ?_
    refine lv_iconst (v := (-1)) hx hb dX12_sight_6 (by decide) ?_
    refine lv_icmp_ne (tgt := 14) hx hb dX12_sight_7 (by decide) (fun c_2 => ?_) (fun c_2 => absurd c_2 (nI_nm1 (by omega)))
    refine lv_aload_n hx hb dX12_sight_14 rfl (lv_at hl 0 rfl) ?_
    refine va_get (D := (dC, dI)) (ci := 14) (v := .ref aS) (C := RX12) (T := TX12) (N := 23) hx hb hts kc_sightX_0 hown hK hP 0 rfl rfl 1 (by decide) (hts (.fieldLink RX12 9 "MistHeapsModel" "s" "[I") kc_sightX_1) (fun _ h9 => h9) rfl dX12_sight_15 ?_
    refine lv_sipush (v := 191) hx hb dX12_sight_18 (by decide) ?_
    refine lv_aload_n hx hb dX12_sight_21 rfl (lv_at hl 0 rfl) ?_
    refine va_get (D := (dC, dI)) (ci := 14) (v := .ref aS) (C := RX12) (T := TX12) (N := 23) hx hb hts kc_sightX_0 hown hK hP 0 rfl rfl 1 (by decide) (hts (.fieldLink RX12 9 "MistHeapsModel" "s" "[I") kc_sightX_1) (fun _ h9 => h9) rfl dX12_sight_22 ?_
    refine lv_iconst (v := 5) hx hb dX12_sight_25 (by decide) ?_
    refine va_iald hx hb hK hP 1 0 rfl rfl (vp_in_nI (n := 5) (N := 901) (by omega) (by omega)) dX12_sight_26 ?_
    refine qi_as (y := nI h) ((show fS (5 : Int32).toNatClampNeg = fS 5 from rfl).trans (zh)) ?_
    refine lv_iadd hx hb dX12_sight_27 ?_
    refine qi_as (y := nI (191 + h)) (nI_add 191 h) ?_
    refine va_iald hx hb hK hP 1 0 rfl rfl (vp_in_nI (n := 191 + h) (N := 901) (by omega) (by omega)) dX12_sight_28 ?_
    refine qi_as (y := nI sg) ((show fS (nI (191 + h) : Int32).toNatClampNeg = fS (191 + h) from by rw [nI_clamp (by omega)]).trans (zsg)) ?_
    rw [hQ]
    exact W.iret (v := nI sg) hx hb hr (fun tQ htQ hWQ => ⟨nI sg, rfl, rfl, by rw [htQ]⟩) (fun q hq => absurd hq List.not_mem_nil) dX12_sight_29

theorem kc_mTold_0 : ∀ w ∈ wsX120, w ∈ wsX12_told := fun w h => List.mem_cons_of_mem _ (gin_wsX120 w h)
theorem kc_mTold_1 : (.fieldLink RX12 9 "MistHeapsModel" "s" "[I" : Cond) ∈ wsX12_told := kc_of 1141 rfl rfl rfl
set_option maxHeartbeats 4000000 in
set_option maxRecDepth 100000 in
theorem c_mTold (l : Launch) (dC : Nat → ClassId) (dI : Nat → Nat → Nat) (m0 aS aI aB aT aG aO aN aD aY : Nat) (th im ac sp en wg op se dn rn kd nu tv : Int32) (bv : Int64) (cS : ClassId) (fS : Nat → Int32) (ee sg : Nat) (x : Int32) (cz : List pCla) (zh : hol fS cz) (zee : ∀ k, k < 36 → fS (37 + k) = nI (ee / 2 ^ k % 2)) (zsg : (fS 5 = -1 ∧ sg = 3) ∨ ∃ h : Nat, h < 5 ∧ fS 5 = nI h ∧ fS (191 + h) = nI sg) : Met l yX12_told wsX12_told ({ frames := 1, cells := 0, slots := 0, locals := 22 } : Room) (va_Pc [.ref m0, .int x] (fun U => va_P (dC, dI) vwCl [(zo14irriiiiiirriirrrrlriiii m0 th aS aI im ac sp en wg op aB aT se dn aG aO aN aD bv aY rn kd nu tv), (zaI aS cS 901 fS)] U.heap ∧ va_K (dC, dI) vwCl [(cS, .int)] U)) (vp_Si (fun r => r = tdR (fS 6) (fS 7) sg ee x)) 0 0 (fun _ => False) := by
  refine met_ofQ (cc := cX12_told) (maxL := 2) (ret := (some .int)) (by decide) rfl ?_
  intro p e s m args below meth c s₁ Q B hml hv hQ
  obtain ⟨rfl, hP, hK⟩ := hv
  have hx := B.exec
  have hb := B.bytes
  have hr := B.returns
  have hts := atoms_spec (ws := wsX12_told) B.pre
  have hown : s.vm.findClass RX12 = some m.cls := findClass_of_methodNamed B.named
  have hlocks := B.notSynchronized
  obtain ⟨A, hAe⟩ : ∃ A : Nat → Prop, A = fun _ => False := ⟨_, rfl⟩
  rw [← hAe] at hQ
  have hS : va_S A s.heap s.heap [] := va_S.rf
  have hl := lv_entry [.ref m0, .int x] (n := 2) (Nat.le_of_ble_eq_true rfl)
  rw [lg_entry_eq]
  generalize (lg_sl [.ref m0, .int x] ++ List.replicate (2 - (lg_sl [.ref m0, .int x]).length) Slot.unset).toArray = ls at hl ⊢
  generalize hag : ([.ref m0, .int x] : List Value).toArray = args at hts hQ ⊢
  have hl : lv_has ls 2 [(0, .ref m0), (1, .int x)] := hl
  refine lv_iload_n hx hb dX12_told_0 rfl (lv_at hl 1 rfl) ?_
  by_cases c_1_0 : x = 0
  · skip
    refine lv_tableIn (tgt := 32) hx hb dX12_told_1 (by rw [c_1_0]; decide) (by rw [c_1_0]; decide) (by rw [c_1_0]; rfl) (by decide) ?_
    refine lv_aload_n hx hb dX12_told_32 rfl (lv_at hl 0 rfl) ?_
    refine va_get (D := (dC, dI)) (ci := 14) (v := .ref aS) (C := RX12) (T := TX12) (N := 23) hx hb hts kc_mTold_0 hown hK hP 0 rfl rfl 1 (by decide) (hts (.fieldLink RX12 9 "MistHeapsModel" "s" "[I") kc_mTold_1) (fun _ h9 => h9) rfl dX12_told_33 ?_
    refine lv_bipush (v := 6) hx hb dX12_told_36 (by decide) ?_
    refine va_iald hx hb hK hP 1 0 rfl rfl (vp_in_nI (n := 6) (N := 901) (by omega) (by omega)) dX12_told_38 ?_
    refine qi_as (y := fS 6) (rfl) ?_
    rw [hQ]
    exact W.iret (v := fS 6) hx hb hr (fun tQ htQ hWQ => ⟨fS 6, rfl, td_0 (by assumption), by rw [htQ]⟩) (fun q hq => absurd hq List.not_mem_nil) dX12_told_39
  by_cases c_1_1 : x = 1
  · skip
    refine lv_tableIn (tgt := 40) hx hb dX12_told_1 (by rw [c_1_1]; decide) (by rw [c_1_1]; decide) (by rw [c_1_1]; rfl) (by decide) ?_
    refine lv_aload_n hx hb dX12_told_40 rfl (lv_at hl 0 rfl) ?_
    refine va_get (D := (dC, dI)) (ci := 14) (v := .ref aS) (C := RX12) (T := TX12) (N := 23) hx hb hts kc_mTold_0 hown hK hP 0 rfl rfl 1 (by decide) (hts (.fieldLink RX12 9 "MistHeapsModel" "s" "[I") kc_mTold_1) (fun _ h9 => h9) rfl dX12_told_41 ?_
    refine lv_bipush (v := 7) hx hb dX12_told_44 (by decide) ?_
    refine va_iald hx hb hK hP 1 0 rfl rfl (vp_in_nI (n := 7) (N := 901) (by omega) (by omega)) dX12_told_46 ?_
    refine qi_as (y := fS 7) (rfl) ?_
    rw [hQ]
    exact W.iret (v := fS 7) hx hb hr (fun tQ htQ hWQ => ⟨fS 7, rfl, td_1 (by assumption), by rw [htQ]⟩) (fun q hq => absurd hq List.not_mem_nil) dX12_told_47
  by_cases c_1_2 : x = 2
  · skip
    refine lv_tableIn (tgt := 48) hx hb dX12_told_1 (by rw [c_1_2]; decide) (by rw [c_1_2]; decide) (by rw [c_1_2]; rfl) (by decide) ?_
    refine lv_aload_n hx hb dX12_told_48 rfl (lv_at hl 0 rfl) ?_
    have hPc := hP.sub (ws' := [(zo14irriiiiiirriirrrrlriiii m0 th aS aI im ac sp en wg op aB aT se dn aG aO aN aD bv aY rn kd nu tv), (zaI aS cS 901 fS)]) [0, 1] rfl
    have hKc := hK.sub (tys' := [(cS, .int)]) [0] rfl
    refine vp_callSi (va_runV (As := []) (rest := []) ⟨hx, hb, hml, hown, hts⟩ (c_sightX l dC dI m0 aS aI aB aT aG aO aN aD aY th im ac sp en wg op se dn rn kd nu tv bv cS fS sg (zsg)) (cwV 0 hts gX12_told_X12_sight rfl rfl rfl hd_yX12_sight ⟨Nat.le_of_ble_eq_true rfl, Nat.le_of_ble_eq_true rfl⟩) ⟨fun a U g mk q => by obtain ⟨q0, qP, qK⟩ := q; exact ⟨q0, qP, va_K.moved (u := U) (U := U.calling g mk a) (Vm.Alike.refl U.vm) qK⟩, va_recv hK hP (ci := 14) (q := (RX12, TX12, 23)) (q0 := 0) rfl rfl, fun U hU hW => ⟨rfl, by rw [hU]; exact hPc, va_K.moved hW.alike hKc⟩⟩ rfl rfl hl.1 rfl (lv_room (Nat.le_of_ble_eq_true rfl)) dX12_told_49 ⟨Nat.le_of_ble_eq_true rfl, Nat.le_of_ble_eq_true rfl⟩).run (fun r_2 hw_3 => ?_)
    obtain rfl := hw_3
    rw [hQ]
    exact W.iret (v := nI sg) hx hb hr (fun tQ htQ hWQ => ⟨nI sg, rfl, td_2 (by assumption), by rw [htQ]⟩) (fun q hq => absurd hq List.not_mem_nil) dX12_told_52
  by_cases c_1_3 : x = 3
  · skip
    refine lv_tableIn (tgt := 53) hx hb dX12_told_1 (by rw [c_1_3]; decide) (by rw [c_1_3]; decide) (by rw [c_1_3]; rfl) (by decide) ?_
    refine lv_aload_n hx hb dX12_told_53 rfl (lv_at hl 0 rfl) ?_
    have hPc := hP.sub (ws' := [(zo14irriiiiiirriirrrrlriiii m0 th aS aI im ac sp en wg op aB aT se dn aG aO aN aD bv aY rn kd nu tv), (zaI aS cS 901 fS)]) [0, 1] rfl
    have hKc := hK.sub (tys' := [(cS, .int)]) [0] rfl
    refine vp_callSi (va_runV (As := []) (rest := []) ⟨hx, hb, hml, hown, hts⟩ (c_edgesMany l dC dI m0 aS aI aB aT aG aO aN aD aY th im ac sp en wg op se dn rn kd nu tv bv cS fS ee (zee)) (cwV 0 hts gX12_told_X12_edgesMany rfl rfl rfl hd_yX12_edgesMany ⟨Nat.le_of_ble_eq_true rfl, Nat.le_of_ble_eq_true rfl⟩) ⟨fun a U g mk q => by obtain ⟨q0, qP, qK⟩ := q; exact ⟨q0, qP, va_K.moved (u := U) (U := U.calling g mk a) (Vm.Alike.refl U.vm) qK⟩, va_recv hK hP (ci := 14) (q := (RX12, TX12, 23)) (q0 := 0) rfl rfl, fun U hU hW => ⟨rfl, by rw [hU]; exact hPc, va_K.moved hW.alike hKc⟩⟩ rfl rfl hl.1 rfl (lv_room (Nat.le_of_ble_eq_true rfl)) dX12_told_54 ⟨Nat.le_of_ble_eq_true rfl, Nat.le_of_ble_eq_true rfl⟩).run (fun r_4 hw_5 => ?_)
    obtain rfl := hw_5
    rw [hQ]
    exact W.iret (v := nI (bsum 36 ee)) hx hb hr (fun tQ htQ hWQ => ⟨nI (bsum 36 ee), rfl, td_3 (by assumption), by rw [htQ]⟩) (fun q hq => absurd hq List.not_mem_nil) dX12_told_57
  refine lv_tableOut (tgt := 58) hx hb dX12_told_1 (sw_out 0 3 x (fun k hk => by
    match k, hk with
    | 0, _ => exact c_1_0
    | 1, _ => exact c_1_1
    | 2, _ => exact c_1_2
    | 3, _ => exact c_1_3
    | k + 4, hk => exact absurd hk (by omega))) (by decide) ?_
  refine lv_iconst (v := (-1)) hx hb dX12_told_58 (by decide) ?_
  rw [hQ]
  exact W.iret (v := (-1)) hx hb hr (fun tQ htQ hWQ => ⟨(-1), rfl, td_n (by assumption) (by assumption) (by assumption) (by assumption), by rw [htQ]⟩) (fun q hq => absurd hq List.not_mem_nil) dX12_told_59

theorem kc_mHeap_0 : ∀ w ∈ wsX120, w ∈ wsX12_heap := fun w h => List.mem_cons_of_mem _ (gin_wsX120 w h)
theorem kc_mHeap_1 : (.fieldLink RX12 9 "MistHeapsModel" "s" "[I" : Cond) ∈ wsX12_heap := kc_of 1141 rfl rfl rfl
set_option maxHeartbeats 4000000 in
set_option maxRecDepth 100000 in
theorem c_mHeap (l : Launch) (dC : Nat → ClassId) (dI : Nat → Nat → Nat) (m0 aS aI aB aT aG aO aN aD aY : Nat) (th im ac sp en wg op se dn rn kd nu tv : Int32) (bv : Int64) (cS : ClassId) (fS : Nat → Int32) (n : Nat) (yc : Nat → Int32) (x y z : Int32) (sz : Nat) (zn : fS 0 = nI n) (hn : n ≤ 8) (zc : ∀ k, k < n → fS (28 + k) = yc k) : Met l yX12_heap wsX12_heap ({ frames := 2, cells := 0, slots := 0, locals := 42 } : Room) (va_Pc [.ref m0, .int x, .int y, .int z] (fun U => U.heap.size = sz ∧ va_P (dC, dI) vwCl [(zo14irriiiiiirriirrrrlriiii m0 th aS aI im ac sp en wg op aB aT se dn aG aO aN aD bv aY rn kd nu tv), (zaI aS cS 901 fS)] U.heap ∧ va_K (dC, dI) vwCl [(cS, .int)] U ∧ va_D (fun _ => True) [(zo14irriiiiiirriirrrrlriiii m0 th aS aI im ac sp en wg op aB aT se dn aG aO aN aD bv aY rn kd nu tv), (zaI aS cS 901 fS)])) (va_Qi (fun (r : Int32) (u : Nat → Int32) => match u with | fS9 => r = hpR n yc x y z ∧ ((r < 0 ∧ fS9 = fS) ∨ (¬ r < 0 ∧ n < 8 ∧ fS9 = upd (upd (upd (upd fS (10 + n) x) (19 + n) y) (28 + n) z) 0 (nI (n + 1))))) (fun (u : Nat → Int32) (t : State) => match u with | fS9 => va_P (dC, dI) vwCl [(zo14irriiiiiirriirrrrlriiii m0 th aS aI im ac sp en wg op aB aT se dn aG aO aN aD bv aY rn kd nu tv), (zaI aS cS 901 fS9)] t.heap ∧ va_K (dC, dI) vwCl [(cS, .int)] t ∧ va_D (va_A [(zo14irriiiiiirriirrrrlriiii m0 th aS aI im ac sp en wg op aB aT se dn aG aO aN aD bv aY rn kd nu tv), (zaI aS cS 901 fS)] sz) [(zo14irriiiiiirriirrrrlriiii m0 th aS aI im ac sp en wg op aB aT se dn aG aO aN aD bv aY rn kd nu tv), (zaI aS cS 901 fS9)]) (va_A [(zo14irriiiiiirriirrrrlriiii m0 th aS aI im ac sp en wg op aB aT se dn aG aO aN aD bv aY rn kd nu tv), (zaI aS cS 901 fS)] sz)) 0 0 (va_A [(zo14irriiiiiirriirrrrlriiii m0 th aS aI im ac sp en wg op aB aT se dn aG aO aN aD bv aY rn kd nu tv), (zaI aS cS 901 fS)] sz) := by
  refine met_ofQ (cc := cX12_heap) (maxL := 4) (ret := (some .int)) (by decide) rfl ?_
  intro p e s m args below meth c s₁ Q B hml hv hQ
  obtain ⟨rfl, hsz, hP, hK, hD0⟩ := hv
  have hx := B.exec
  have hb := B.bytes
  have hr := B.returns
  have hts := atoms_spec (ws := wsX12_heap) B.pre
  have hown : s.vm.findClass RX12 = some m.cls := findClass_of_methodNamed B.named
  have hlocks := B.notSynchronized
  subst hsz
  have hD := hD0.self (sz := s.heap.size)
  generalize hAe : va_A [(zo14irriiiiiirriirrrrlriiii m0 th aS aI im ac sp en wg op aB aT se dn aG aO aN aD bv aY rn kd nu tv), (zaI aS cS 901 fS)] s.heap.size = A at hD hQ ⊢
  have hA : ∀ q : Nat, s.heap.size ≤ q → A q := fun q h => by rw [← hAe]; exact Or.inr h
  have hS : va_S A s.heap s.heap [] := va_S.rf
  have hl := lv_entry [.ref m0, .int x, .int y, .int z] (n := 4) (Nat.le_of_ble_eq_true rfl)
  rw [lg_entry_eq]
  generalize (lg_sl [.ref m0, .int x, .int y, .int z] ++ List.replicate (4 - (lg_sl [.ref m0, .int x, .int y, .int z]).length) Slot.unset).toArray = ls at hl ⊢
  generalize hag : ([.ref m0, .int x, .int y, .int z] : List Value).toArray = args at hts hQ ⊢
  have hl : lv_has ls 4 [(0, .ref m0), (1, .int x), (2, .int y), (3, .int z)] := hl
  obtain ⟨H, hH⟩ : ∃ H : Heap, H = s.heap := ⟨_, rfl⟩
  rw [← hH] at hP
  rw [← hH]
  have hS : va_S A s.heap H [] := by rw [hH]; exact hS
  obtain ⟨locs, hlo⟩ : ∃ L : List Loc, L = [] := ⟨_, rfl⟩
  rw [← hlo] at hS
  rw [← hlo]
  clear hH hlo
  refine lv_iload_n hx hb dX12_heap_0 rfl (lv_at hl 1 rfl) ?_
  refine lv_iconst (v := 0) hx hb dX12_heap_1 (by decide) ?_
  refine lv_bipush (v := 6) hx hb dX12_heap_2 (by decide) ?_
  refine vp_callSi (va_runS (As := [.int x, .int 0, .int 6]) (rest := []) ⟨hx, hb, hml, hown, hts⟩ (c_in l dC dI x 0 6) (va_cwS 3 hts gX12_heap_X12_in rfl rfl rfl hd_yX12_in.2 ⟨Nat.le_of_ble_eq_true rfl, Nat.le_of_ble_eq_true rfl⟩) ⟨fun a U g mk q => ⟨q.1, trivial⟩, fun U hU hW => ⟨rfl, trivial⟩⟩ rfl rfl hl.1 rfl (lv_room (Nat.le_of_ble_eq_true rfl)) dX12_heap_4 ⟨Nat.le_of_ble_eq_true rfl, Nat.le_of_ble_eq_true rfl⟩).run (fun r_1 hw_2 => ?_)
  rcases hw_2 with ⟨rfl, h_3, h_4⟩ | ⟨rfl, h_5⟩
  · skip
    refine lv_if_eq (tgt := 17) hx hb dX12_heap_7 (by decide) (fun c_6 => absurd c_6 (by decide)) (fun _ => ?_)
    refine lv_iload_n hx hb dX12_heap_10 rfl (lv_at hl 3 rfl) ?_
    refine vp_callSi (va_runS (As := [.int z]) (rest := []) ⟨hx, hb, hml, hown, hts⟩ (c_mCell l dC dI z) (va_cwS 1 hts gX12_heap_X12_isCell rfl rfl rfl hd_yX12_isCell.2 ⟨Nat.le_of_ble_eq_true rfl, Nat.le_of_ble_eq_true rfl⟩) ⟨fun a U g mk q => ⟨q.1, trivial⟩, fun U hU hW => ⟨rfl, trivial⟩⟩ rfl rfl hl.1 rfl (lv_room (Nat.le_of_ble_eq_true rfl)) dX12_heap_11 ⟨Nat.le_of_ble_eq_true rfl, Nat.le_of_ble_eq_true rfl⟩).run (fun r_7 hw_8 => ?_)
    rcases hw_8 with ⟨rfl, h_9, h_10⟩ | ⟨rfl, h_11⟩
    · skip
      refine lv_if_ne (tgt := 19) hx hb dX12_heap_14 (by decide) (fun _ => ?_) (fun c_12 => absurd c_12 (by decide))
      refine lv_iload_n hx hb dX12_heap_19 rfl (lv_at hl 2 rfl) ?_
      refine lv_iconst (v := 0) hx hb dX12_heap_20 (by decide) ?_
      refine lv_bipush (v := 9) hx hb dX12_heap_21 (by decide) ?_
      refine vp_callSi (va_runS (As := [.int y, .int 0, .int 9]) (rest := []) ⟨hx, hb, hml, hown, hts⟩ (c_in l dC dI y 0 9) (va_cwS 3 hts gX12_heap_X12_in rfl rfl rfl hd_yX12_in.2 ⟨Nat.le_of_ble_eq_true rfl, Nat.le_of_ble_eq_true rfl⟩) ⟨fun a U g mk q => ⟨q.1, trivial⟩, fun U hU hW => ⟨rfl, trivial⟩⟩ rfl rfl hl.1 rfl (lv_room (Nat.le_of_ble_eq_true rfl)) dX12_heap_23 ⟨Nat.le_of_ble_eq_true rfl, Nat.le_of_ble_eq_true rfl⟩).run (fun r_13 hw_14 => ?_)
      rcases hw_14 with ⟨rfl, h_15, h_16⟩ | ⟨rfl, h_17⟩
      · skip
        refine lv_if_ne (tgt := 32) hx hb dX12_heap_26 (by decide) (fun _ => ?_) (fun c_18 => absurd c_18 (by decide))
        refine lv_aload_n hx hb dX12_heap_32 rfl (lv_at hl 0 rfl) ?_
        refine lv_iload_n hx hb dX12_heap_33 rfl (lv_at hl 3 rfl) ?_
        have hPc := hP.sub (ws' := [(zo14irriiiiiirriirrrrlriiii m0 th aS aI im ac sp en wg op aB aT se dn aG aO aN aD bv aY rn kd nu tv), (zaI aS cS 901 fS)]) [0, 1] rfl
        have hKc := hK.sub (tys' := [(cS, .int)]) [0] rfl
        refine vp_callSi (va_runV (As := [.int z]) (rest := []) ⟨hx, hb, hml, hown, hts⟩ (c_heapOn l dC dI m0 aS aI aB aT aG aO aN aD aY th im ac sp en wg op se dn rn kd nu tv bv cS fS n yc z (zn) (hn) (zc)) (cwV 1 hts gX12_heap_X12_heapOn rfl rfl rfl hd_yX12_heapOn ⟨Nat.le_of_ble_eq_true rfl, Nat.le_of_ble_eq_true rfl⟩) ⟨fun a U g mk q => by obtain ⟨q0, qP, qK⟩ := q; exact ⟨q0, qP, va_K.moved (u := U) (U := U.calling g mk a) (Vm.Alike.refl U.vm) qK⟩, va_recv hK hP (ci := 14) (q := (RX12, TX12, 23)) (q0 := 0) rfl rfl, fun U hU hW => ⟨rfl, by rw [hU]; exact hPc, va_K.moved hW.alike hKc⟩⟩ rfl rfl hl.1 rfl (lv_room (Nat.le_of_ble_eq_true rfl)) dX12_heap_34 ⟨Nat.le_of_ble_eq_true rfl, Nat.le_of_ble_eq_true rfl⟩).run (fun r_19 hw_20 => ?_)
        rcases hw_20 with ⟨rfl, hT9⟩ | ⟨hT8, hT9⟩
        · skip
          refine lv_iconst (v := (-1)) hx hb dX12_heap_37 (by decide) ?_
          refine lv_icmp_eq (tgt := 44) hx hb dX12_heap_38 (by decide) (fun _ => ?_) (fun c_21 => absurd c_21 (by decide))
          refine lv_aload_n hx hb dX12_heap_44 rfl (lv_at hl 0 rfl) ?_
          refine va_get (D := (dC, dI)) (ci := 14) (v := .ref aS) (C := RX12) (T := TX12) (N := 23) hx hb hts kc_mHeap_0 hown hK hP 0 rfl rfl 1 (by decide) (hts (.fieldLink RX12 9 "MistHeapsModel" "s" "[I") kc_mHeap_1) (fun _ h9 => h9) rfl dX12_heap_45 ?_
          refine lv_iconst (v := 0) hx hb dX12_heap_48 (by decide) ?_
          refine va_iald hx hb hK hP 1 0 rfl rfl (vp_in_nI (n := 0) (N := 901) (by omega) (by omega)) dX12_heap_49 ?_
          refine qi_as (y := nI n) ((show fS (0 : Int32).toNatClampNeg = fS 0 from rfl).trans (zn)) ?_
          refine lv_bipush (v := 8) hx hb dX12_heap_50 (by decide) ?_
          refine lv_icmp_ne (tgt := 58) hx hb dX12_heap_52 (by decide) (fun c_22 => ?_) (fun c_22 => ?_)
          · skip
            have c_22 : ¬ n = 8 := fun q => c_22 ((nI_eq (a := n) (b := 8) (by omega) (by omega)).mpr q)
            refine lv_aload_n hx hb dX12_heap_58 rfl (lv_at hl 0 rfl) ?_
            refine lv_iload_n hx hb dX12_heap_59 rfl (lv_at hl 1 rfl) ?_
            refine lv_iload_n hx hb dX12_heap_60 rfl (lv_at hl 2 rfl) ?_
            refine lv_iload_n hx hb dX12_heap_61 rfl (lv_at hl 3 rfl) ?_
            have hPc := hP.sub (ws' := [(zo14irriiiiiirriirrrrlriiii m0 th aS aI im ac sp en wg op aB aT se dn aG aO aN aD bv aY rn kd nu tv), (zaI aS cS 901 fS)]) [0, 1] rfl
            have hDc := hD.sub (ws' := [(zo14irriiiiiirriirrrrlriiii m0 th aS aI im ac sp en wg op aB aT se dn aG aO aN aD bv aY rn kd nu tv), (zaI aS cS 901 fS)]) [0, 1] (by decide) rfl
            have hKc := hK.sub (tys' := [(cS, .int)]) [0] rfl
            have hFc := va_free (wc := [(zo14irriiiiiirriirrrrlriiii m0 th aS aI im ac sp en wg op aB aT se dn aG aO aN aD bv aY rn kd nu tv), (zaI aS cS 901 fS)]) hD hS hA [0, 1] rfl
            refine va_calli (va_runV (As := [.int x, .int y, .int z]) (rest := []) ⟨hx, hb, hml, hown, hts⟩ (c_puts l dC dI m0 aS aI aB aT aG aO aN aD aY th im ac sp en wg op se dn rn kd nu tv bv cS fS n x y z H.size (zn) (hn)) (cwV 3 hts gX12_heap_X12_puts rfl rfl rfl hd_yX12_puts ⟨Nat.le_of_ble_eq_true rfl, Nat.le_of_ble_eq_true rfl⟩) ⟨fun a U g mk q => by obtain ⟨q0, q1, qP, qK, qD⟩ := q; exact ⟨q0, q1, qP, va_K.moved (u := U) (U := U.calling g mk a) (Vm.Alike.refl U.vm) qK, qD⟩, va_recv hK hP (ci := 14) (q := (RX12, TX12, 23)) (q0 := 0) rfl rfl, fun U hU hW => ⟨rfl, by rw [hU], by rw [hU]; exact hPc, va_K.moved hW.alike hKc, hDc.weaken (fun _ _ _ _ => trivial)⟩⟩ rfl rfl hl.1 rfl (lv_room (Nat.le_of_ble_eq_true rfl)) dX12_heap_62 ⟨Nat.le_of_ble_eq_true rfl, Nat.le_of_ble_eq_true rfl⟩) hS (fun q _ h => hFc q h) hFc (fun r_23 u tC H1 locs htC hvm hw_24 hB hz1 hk1 hS => ?_)
            obtain ⟨fS9_25, rfl⟩ : ∃ z, z = u := ⟨_, rfl⟩
            try dsimp only at hw_24 hB
            obtain ⟨hP1, hK1, hD1⟩ := hB
            rw [htC] at hP1
            have hK1 := va_K.moved hvm.symm hK1
            obtain ⟨hP, hD⟩ := va_join (wr := []) (w1 := [(zo14irriiiiiirriirrrrlriiii m0 th aS aI im ac sp en wg op aB aT se dn aG aO aN aD bv aY rn kd nu tv), (zaI aS cS 901 fS9_25)]) hP hD [0, 1] [] rfl rfl (by decide) (by decide) hk1 hFc hP1 hD1
            have hK := (hK.sub (tys' := []) [] rfl).app hK1
            generalize H1 = H at hP hS ⊢
            have hP : va_P (dC, dI) vwCl [(zo14irriiiiiirriirrrrlriiii m0 th aS aI im ac sp en wg op aB aT se dn aG aO aN aD bv aY rn kd nu tv), (zaI aS cS 901 fS9_25)] H := hP
            have hD : va_D A [(zo14irriiiiiirriirrrrlriiii m0 th aS aI im ac sp en wg op aB aT se dn aG aO aN aD bv aY rn kd nu tv), (zaI aS cS 901 fS9_25)] := hD
            have hK : va_K (dC, dI) vwCl [(cS, .int)] s := hK
            obtain ⟨er, e9⟩ := hw_24
            subst e9
            subst er
            rw [hQ]
            have hP9 := hP.sub (ws' := [(zo14irriiiiiirriirrrrlriiii m0 th aS aI im ac sp en wg op aB aT se dn aG aO aN aD bv aY rn kd nu tv), (zaI aS cS 901 (upd (upd (upd (upd fS (10 + n) x) (19 + n) y) (28 + n) z) 0 (nI (n + 1))))]) [0, 1] rfl
            have hD9 := hD.sub (ws' := [(zo14irriiiiiirriirrrrlriiii m0 th aS aI im ac sp en wg op aB aT se dn aG aO aN aD bv aY rn kd nu tv), (zaI aS cS 901 (upd (upd (upd (upd fS (10 + n) x) (19 + n) y) (28 + n) z) 0 (nI (n + 1))))]) [0, 1] (by decide) rfl
            have hK9 := hK.sub (tys' := [(cS, .int)]) [0] rfl
            exact W.iret (v := nI n) hx hb hr (fun tQ htQ hWQ => ⟨⟨(nI n), (upd (upd (upd (upd fS (10 + n) x) (19 + n) y) (28 + n) z) 0 (nI (n + 1))), rfl, ⟨hp_ok (by assumption) (by assumption) (by assumption) (by assumption) (by assumption) (by assumption) hT9 (by omega), Or.inr ⟨nI_pos (by omega), by omega, rfl⟩⟩, by rw [htQ]; exact hP9, va_K.moved hWQ.alike hK9, hD9⟩, hS.F htQ⟩) hS.2.2 dX12_heap_65
          · skip
            have c_22 : n = 8 := (nI_eq (a := n) (b := 8) (by omega) (by omega)).mp c_22
            refine lv_bipush (v := (-4)) hx hb dX12_heap_55 (by decide) ?_
            rw [hQ]
            have hP9 := hP.sub (ws' := [(zo14irriiiiiirriirrrrlriiii m0 th aS aI im ac sp en wg op aB aT se dn aG aO aN aD bv aY rn kd nu tv), (zaI aS cS 901 fS)]) [0, 1] rfl
            have hD9 := hD.sub (ws' := [(zo14irriiiiiirriirrrrlriiii m0 th aS aI im ac sp en wg op aB aT se dn aG aO aN aD bv aY rn kd nu tv), (zaI aS cS 901 fS)]) [0, 1] (by decide) rfl
            have hK9 := hK.sub (tys' := [(cS, .int)]) [0] rfl
            exact W.iret (v := (-4)) hx hb hr (fun tQ htQ hWQ => ⟨⟨(-4), fS, rfl, ⟨hp_full (by assumption) (by assumption) (by assumption) (by assumption) (by assumption) (by assumption) hT9 (by omega), Or.inl ⟨by decide, rfl⟩⟩, by rw [htQ]; exact hP9, va_K.moved hWQ.alike hK9, hD9⟩, hS.F htQ⟩) hS.2.2 dX12_heap_57
        · skip
          refine lv_iconst (v := (-1)) hx hb dX12_heap_37 (by decide) ?_
          refine lv_icmp_eq (tgt := 44) hx hb dX12_heap_38 (by decide) (fun c_26 => absurd c_26 (hT8)) (fun c_26 => ?_)
          refine lv_bipush (v := (-3)) hx hb dX12_heap_41 (by decide) ?_
          rw [hQ]
          have hP9 := hP.sub (ws' := [(zo14irriiiiiirriirrrrlriiii m0 th aS aI im ac sp en wg op aB aT se dn aG aO aN aD bv aY rn kd nu tv), (zaI aS cS 901 fS)]) [0, 1] rfl
          have hD9 := hD.sub (ws' := [(zo14irriiiiiirriirrrrlriiii m0 th aS aI im ac sp en wg op aB aT se dn aG aO aN aD bv aY rn kd nu tv), (zaI aS cS 901 fS)]) [0, 1] (by decide) rfl
          have hK9 := hK.sub (tys' := [(cS, .int)]) [0] rfl
          exact W.iret (v := (-3)) hx hb hr (fun tQ htQ hWQ => ⟨⟨(-3), fS, rfl, ⟨hp_state (by assumption) (by assumption) (by assumption) (by assumption) (by assumption) (by assumption) hT9, Or.inl ⟨by decide, rfl⟩⟩, by rw [htQ]; exact hP9, va_K.moved hWQ.alike hK9, hD9⟩, hS.F htQ⟩) hS.2.2 dX12_heap_43
      · skip
        refine lv_if_ne (tgt := 32) hx hb dX12_heap_26 (by decide) (fun c_27 => absurd c_27 (by decide)) (fun _ => ?_)
        refine lv_bipush (v := (-2)) hx hb dX12_heap_29 (by decide) ?_
        rw [hQ]
        have hP9 := hP.sub (ws' := [(zo14irriiiiiirriirrrrlriiii m0 th aS aI im ac sp en wg op aB aT se dn aG aO aN aD bv aY rn kd nu tv), (zaI aS cS 901 fS)]) [0, 1] rfl
        have hD9 := hD.sub (ws' := [(zo14irriiiiiirriirrrrlriiii m0 th aS aI im ac sp en wg op aB aT se dn aG aO aN aD bv aY rn kd nu tv), (zaI aS cS 901 fS)]) [0, 1] (by decide) rfl
        have hK9 := hK.sub (tys' := [(cS, .int)]) [0] rfl
        exact W.iret (v := (-2)) hx hb hr (fun tQ htQ hWQ => ⟨⟨(-2), fS, rfl, ⟨hp_bad (by assumption) (by assumption) (by assumption) (by assumption) (by assumption), Or.inl ⟨by decide, rfl⟩⟩, by rw [htQ]; exact hP9, va_K.moved hWQ.alike hK9, hD9⟩, hS.F htQ⟩) hS.2.2 dX12_heap_31
    · skip
      refine lv_if_ne (tgt := 19) hx hb dX12_heap_14 (by decide) (fun c_28 => absurd c_28 (by decide)) (fun _ => ?_)
      refine lv_iconst (v := (-1)) hx hb dX12_heap_17 (by decide) ?_
      rw [hQ]
      have hP9 := hP.sub (ws' := [(zo14irriiiiiirriirrrrlriiii m0 th aS aI im ac sp en wg op aB aT se dn aG aO aN aD bv aY rn kd nu tv), (zaI aS cS 901 fS)]) [0, 1] rfl
      have hD9 := hD.sub (ws' := [(zo14irriiiiiirriirrrrlriiii m0 th aS aI im ac sp en wg op aB aT se dn aG aO aN aD bv aY rn kd nu tv), (zaI aS cS 901 fS)]) [0, 1] (by decide) rfl
      have hK9 := hK.sub (tys' := [(cS, .int)]) [0] rfl
      exact W.iret (v := (-1)) hx hb hr (fun tQ htQ hWQ => ⟨⟨(-1), fS, rfl, ⟨hp_none (by first | exact Or.inl (by assumption) | exact Or.inr (by assumption)), Or.inl ⟨by decide, rfl⟩⟩, by rw [htQ]; exact hP9, va_K.moved hWQ.alike hK9, hD9⟩, hS.F htQ⟩) hS.2.2 dX12_heap_18
  · skip
    refine lv_if_eq (tgt := 17) hx hb dX12_heap_7 (by decide) (fun _ => ?_) (fun c_29 => absurd c_29 (by decide))
    refine lv_iconst (v := (-1)) hx hb dX12_heap_17 (by decide) ?_
    rw [hQ]
    have hP9 := hP.sub (ws' := [(zo14irriiiiiirriirrrrlriiii m0 th aS aI im ac sp en wg op aB aT se dn aG aO aN aD bv aY rn kd nu tv), (zaI aS cS 901 fS)]) [0, 1] rfl
    have hD9 := hD.sub (ws' := [(zo14irriiiiiirriirrrrlriiii m0 th aS aI im ac sp en wg op aB aT se dn aG aO aN aD bv aY rn kd nu tv), (zaI aS cS 901 fS)]) [0, 1] (by decide) rfl
    have hK9 := hK.sub (tys' := [(cS, .int)]) [0] rfl
    exact W.iret (v := (-1)) hx hb hr (fun tQ htQ hWQ => ⟨⟨(-1), fS, rfl, ⟨hp_none (by first | exact Or.inl (by assumption) | exact Or.inr (by assumption)), Or.inl ⟨by decide, rfl⟩⟩, by rw [htQ]; exact hP9, va_K.moved hWQ.alike hK9, hD9⟩, hS.F htQ⟩) hS.2.2 dX12_heap_18

theorem cp_step {f g : Nat → Int32} {i : Nat} (h : ∀ k, k < i → g k = f k) : ∀ k, k < i + 1 → upd g i (f i) k = f k := by
  intro k hk
  by_cases q : k = i
  · subst q; exact pk_us
  · rw [pk_un q]; exact h k (by omega)

theorem kc_mImage_0 : ∀ w ∈ wsX120, w ∈ wsX12_image := fun w h => List.mem_cons_of_mem _ (gin_wsX120 w h)
theorem kc_mImage_1 : (.fieldLink RX12 282 "MistHeapsModel" "hasImage" "Z" : Cond) ∈ wsX12_image := kc_of 1143 rfl rfl rfl
theorem kc_mImage_2 : (.fieldLink RX12 9 "MistHeapsModel" "s" "[I" : Cond) ∈ wsX12_image := kc_of 1141 rfl rfl rfl
theorem kc_mImage_3 : (.fieldLink RX12 15 "MistHeapsModel" "image" "[I" : Cond) ∈ wsX12_image := kc_of 1142 rfl rfl rfl
set_option maxHeartbeats 4000000 in
set_option maxRecDepth 100000 in
theorem c_mImage (l : Launch) (dC : Nat → ClassId) (dI : Nat → Nat → Nat) (m0 aS aI aB aT aG aO aN aD aY : Nat) (th im ac sp en wg op se dn rn kd nu tv : Int32) (bv : Int64) (cS cI : ClassId) (fS : Nat → Int32) (fI : Nat → Int32) (sz : Nat) : Met l yX12_image wsX12_image ({ frames := 0, cells := 0, slots := 0, locals := 0 } : Room) (va_Pc [.ref m0] (fun U => U.heap.size = sz ∧ va_P (dC, dI) vwCl [(zo14irriiiiiirriirrrrlriiii m0 th aS aI im ac sp en wg op aB aT se dn aG aO aN aD bv aY rn kd nu tv), (zaI aS cS 901 fS), (zaI aI cI 901 fI)] U.heap ∧ va_K (dC, dI) vwCl [(cS, .int), (cI, .int)] U ∧ va_D (fun _ => True) [(zo14irriiiiiirriirrrrlriiii m0 th aS aI im ac sp en wg op aB aT se dn aG aO aN aD bv aY rn kd nu tv), (zaI aS cS 901 fS), (zaI aI cI 901 fI)])) (va_Qi (fun (r : Int32) (u : (Nat → Int32) × (Int32)) => match u with | (fI9, im9) => r = fS 0 ∧ im9 = 1 ∧ ∀ k, k < 901 → fI9 k = fS k) (fun (u : (Nat → Int32) × (Int32)) (t : State) => match u with | (fI9, im9) => va_P (dC, dI) vwCl [(zo14irriiiiiirriirrrrlriiii m0 th aS aI im9 ac sp en wg op aB aT se dn aG aO aN aD bv aY rn kd nu tv), (zaI aS cS 901 fS), (zaI aI cI 901 fI9)] t.heap ∧ va_K (dC, dI) vwCl [(cS, .int), (cI, .int)] t ∧ va_D (va_A [(zo14irriiiiiirriirrrrlriiii m0 th aS aI im ac sp en wg op aB aT se dn aG aO aN aD bv aY rn kd nu tv), (zaI aS cS 901 fS), (zaI aI cI 901 fI)] sz) [(zo14irriiiiiirriirrrrlriiii m0 th aS aI im9 ac sp en wg op aB aT se dn aG aO aN aD bv aY rn kd nu tv), (zaI aS cS 901 fS), (zaI aI cI 901 fI9)]) (va_A [(zo14irriiiiiirriirrrrlriiii m0 th aS aI im ac sp en wg op aB aT se dn aG aO aN aD bv aY rn kd nu tv), (zaI aS cS 901 fS), (zaI aI cI 901 fI)] sz)) 0 0 (va_A [(zo14irriiiiiirriirrrrlriiii m0 th aS aI im ac sp en wg op aB aT se dn aG aO aN aD bv aY rn kd nu tv), (zaI aS cS 901 fS), (zaI aI cI 901 fI)] sz) := by
  refine met_ofQ (cc := cX12_image) (maxL := 2) (ret := (some .int)) (by decide) rfl ?_
  intro p e s m args below meth c s₁ Q B hml hv hQ
  obtain ⟨rfl, hsz, hP, hK, hD0⟩ := hv
  have hx := B.exec
  have hb := B.bytes
  have hr := B.returns
  have hts := atoms_spec (ws := wsX12_image) B.pre
  have hown : s.vm.findClass RX12 = some m.cls := findClass_of_methodNamed B.named
  have hlocks := B.notSynchronized
  subst hsz
  have hD := hD0.self (sz := s.heap.size)
  generalize hAe : va_A [(zo14irriiiiiirriirrrrlriiii m0 th aS aI im ac sp en wg op aB aT se dn aG aO aN aD bv aY rn kd nu tv), (zaI aS cS 901 fS), (zaI aI cI 901 fI)] s.heap.size = A at hD hQ ⊢
  have hA : ∀ q : Nat, s.heap.size ≤ q → A q := fun q h => by rw [← hAe]; exact Or.inr h
  have hS : va_S A s.heap s.heap [] := va_S.rf
  have hl := lv_entry [.ref m0] (n := 2) (Nat.le_of_ble_eq_true rfl)
  rw [lg_entry_eq]
  generalize (lg_sl [.ref m0] ++ List.replicate (2 - (lg_sl [.ref m0]).length) Slot.unset).toArray = ls at hl ⊢
  generalize hag : ([.ref m0] : List Value).toArray = args at hts hQ ⊢
  have hl : lv_has ls 2 [(0, .ref m0)] := hl
  obtain ⟨H, hH⟩ : ∃ H : Heap, H = s.heap := ⟨_, rfl⟩
  rw [← hH] at hP
  rw [← hH]
  have hS : va_S A s.heap H [] := by rw [hH]; exact hS
  obtain ⟨locs, hlo⟩ : ∃ L : List Loc, L = [] := ⟨_, rfl⟩
  rw [← hlo] at hS
  rw [← hlo]
  clear hH hlo
  refine lv_iconst (v := 0) hx hb dX12_image_0 (by decide) ?_
  refine lv_istore_n (lv' := [(1, .int 0), (0, .ref m0)]) hx hb dX12_image_1 rfl hl (by decide) rfl (fun ls hl => ?_)
  have L2 : ∀ (nF : Nat) (i : Nat) (g : Nat → Int32), 901 - i < nF → (i ≤ 901) → (∀ k, k < i → g k = fS k) → ∀ (H : Heap) (locs : List Loc), va_K (dC, dI) vwCl [(cS, .int), (cI, .int)] s → va_P (dC, dI) vwCl [(zo14irriiiiiirriirrrrlriiii m0 th aS aI im ac sp en wg op aB aT se dn aG aO aN aD bv aY rn kd nu tv), (zaI aS cS 901 fS), (zaI aI cI 901 g)] H → va_D A [(zo14irriiiiiirriirrrrlriiii m0 th aS aI im ac sp en wg op aB aT se dn aG aO aN aD bv aY rn kd nu tv), (zaI aS cS 901 fS), (zaI aI cI 901 g)] → va_S A s.heap H locs → ∀ (ls : Array Slot), lv_has ls 2 [(0, .ref m0), (1, .int (nI i))] → W p l e ({ frames := 0, cells := 0, slots := 0, locals := 0 } : Room) s m args below meth c H locs 0 0 Q (F0 m 2 ls []) := by
    intro nF
    induction nF with
    | zero => intro i g hm; exact absurd hm (Nat.not_lt_zero _)
    | succ nF ih2 =>
      intro i g hm hi zg H locs hK hP hD hS ls hl
      refine lv_iload_n hx hb dX12_image_2 rfl (lv_at hl 1 rfl) ?_
      refine lv_sipush (v := 901) hx hb dX12_image_3 (by decide) ?_
      refine lv_icmp_ge (tgt := 27) hx hb dX12_image_6 (by decide) (fun c_1 => ?_) (fun c_1 => ?_)
      · skip
        have c_1 : 901 ≤ i := (nI_leI (a := 901) (b := i) (by omega) (by omega)).mp c_1
        refine lv_aload_n hx hb dX12_image_27 rfl (lv_at hl 0 rfl) ?_
        refine lv_iconst (v := 1) hx hb dX12_image_28 (by decide) ?_
        refine va_put (D := (dC, dI)) (ci := 14) (v := .int 1) (ty := .boolean) (C := RX12) (T := TX12) (N := 23) hx hb hts kc_mImage_0 tyX12 tyX12_ok nmX12 hown hK hP hD hS 0 rfl rfl 3 (by decide) (hts (.fieldLink RX12 282 "MistHeapsModel" "hasImage" "Z") kc_mImage_1) (fun _ h9 => h9) rfl (by decide +kernel) rfl rfl (Nat.le_of_ble_eq_true rfl) dX12_image_29 (fun H locs hP hD hS => ?_)
        have hP : va_P (dC, dI) vwCl [(zo14irriiiiiirriirrrrlriiii m0 th aS aI 1 ac sp en wg op aB aT se dn aG aO aN aD bv aY rn kd nu tv), (zaI aS cS 901 fS), (zaI aI cI 901 g)] H := hP
        have hD : va_D A [(zo14irriiiiiirriirrrrlriiii m0 th aS aI 1 ac sp en wg op aB aT se dn aG aO aN aD bv aY rn kd nu tv), (zaI aS cS 901 fS), (zaI aI cI 901 g)] := hD
        refine lv_aload_n hx hb dX12_image_32 rfl (lv_at hl 0 rfl) ?_
        refine va_get (D := (dC, dI)) (ci := 14) (v := .ref aS) (C := RX12) (T := TX12) (N := 23) hx hb hts kc_mImage_0 hown hK hP 0 rfl rfl 1 (by decide) (hts (.fieldLink RX12 9 "MistHeapsModel" "s" "[I") kc_mImage_2) (fun _ h9 => h9) rfl dX12_image_33 ?_
        refine lv_iconst (v := 0) hx hb dX12_image_36 (by decide) ?_
        refine va_iald hx hb hK hP 1 0 rfl rfl (vp_in_nI (n := 0) (N := 901) (by omega) (by omega)) dX12_image_37 ?_
        refine qi_as (y := fS 0) (rfl) ?_
        rw [hQ]
        have hP9 := hP.sub (ws' := [(zo14irriiiiiirriirrrrlriiii m0 th aS aI 1 ac sp en wg op aB aT se dn aG aO aN aD bv aY rn kd nu tv), (zaI aS cS 901 fS), (zaI aI cI 901 g)]) [0, 1, 2] rfl
        have hD9 := hD.sub (ws' := [(zo14irriiiiiirriirrrrlriiii m0 th aS aI 1 ac sp en wg op aB aT se dn aG aO aN aD bv aY rn kd nu tv), (zaI aS cS 901 fS), (zaI aI cI 901 g)]) [0, 1, 2] (by decide) rfl
        have hK9 := hK.sub (tys' := [(cS, .int), (cI, .int)]) [0, 1] rfl
        exact W.iret (v := fS 0) hx hb hr (fun tQ htQ hWQ => ⟨⟨(fS 0), (g, 1), rfl, ⟨rfl, rfl, fun k hk => zg k (by omega)⟩, by rw [htQ]; exact hP9, va_K.moved hWQ.alike hK9, hD9⟩, hS.F htQ⟩) hS.2.2 dX12_image_38
      · skip
        have c_1 : ¬ 901 ≤ i := fun q => c_1 ((nI_leI (a := 901) (b := i) (by omega) (by omega)).mpr q)
        refine lv_aload_n hx hb dX12_image_9 rfl (lv_at hl 0 rfl) ?_
        refine va_get (D := (dC, dI)) (ci := 14) (v := .ref aI) (C := RX12) (T := TX12) (N := 23) hx hb hts kc_mImage_0 hown hK hP 0 rfl rfl 2 (by decide) (hts (.fieldLink RX12 15 "MistHeapsModel" "image" "[I") kc_mImage_3) (fun _ h9 => h9) rfl dX12_image_10 ?_
        refine lv_iload_n hx hb dX12_image_13 rfl (lv_at hl 1 rfl) ?_
        refine lv_aload_n hx hb dX12_image_14 rfl (lv_at hl 0 rfl) ?_
        refine va_get (D := (dC, dI)) (ci := 14) (v := .ref aS) (C := RX12) (T := TX12) (N := 23) hx hb hts kc_mImage_0 hown hK hP 0 rfl rfl 1 (by decide) (hts (.fieldLink RX12 9 "MistHeapsModel" "s" "[I") kc_mImage_2) (fun _ h9 => h9) rfl dX12_image_15 ?_
        refine lv_iload_n hx hb dX12_image_18 rfl (lv_at hl 1 rfl) ?_
        refine va_iald hx hb hK hP 1 0 rfl rfl (vp_in_nI (n := i) (N := 901) (by omega) (by omega)) dX12_image_19 ?_
        refine qi_as (y := fS i) (by rw [nI_clamp (by omega)]) ?_
        refine va_iast hx hb hK hP hD hS 2 1 rfl rfl (vp_in_nI (n := i) (N := 901) (by omega) (by omega)) dX12_image_20 (fun H locs hP hD hS => ?_)
        rw [nI_clamp (n := i) (by omega)] at hP hD
        have hP : va_P (dC, dI) vwCl [(zo14irriiiiiirriirrrrlriiii m0 th aS aI im ac sp en wg op aB aT se dn aG aO aN aD bv aY rn kd nu tv), (zaI aS cS 901 fS), (zaI aI cI 901 (upd g i (fS i)))] H := hP
        have hD : va_D A [(zo14irriiiiiirriirrrrlriiii m0 th aS aI im ac sp en wg op aB aT se dn aG aO aN aD bv aY rn kd nu tv), (zaI aS cS 901 fS), (zaI aI cI 901 (upd g i (fS i)))] := hD
        refine lv_iinc (v := nI (i + 1)) (lv' := [(1, .int (nI (i + 1))), (0, .ref m0)]) hx hb dX12_image_21 hl (k := 1) rfl (nI_add i 1) (by decide) rfl (fun ls hl => ?_)
        refine lv_goto (tgt := 2) hx hb dX12_image_24 (by decide) ?_
        exact ih2 (i + 1) _ (by omega) (by omega) (cp_step zg) _ _ (hK.sub [0, 1] rfl) (hP.sub [0, 1, 2] rfl) (hD.sub [0, 1, 2] (by decide) rfl) hS ls (lv_sub hl [1, 0] rfl)
  exact L2 _ (0) _ (Nat.lt_succ_self _) (by omega) (fun _ h => absurd h (Nat.not_lt_zero _)) _ _ (hK.sub [0, 1] rfl) (hP.sub [0, 1, 2] rfl) (hD.sub [0, 1, 2] (by decide) rfl) hS ls (lv_sub hl [1, 0] rfl)

theorem kc_mUndo_0 : ∀ w ∈ wsX120, w ∈ wsX12_undo := fun w h => List.mem_cons_of_mem _ (gin_wsX120 w h)
theorem kc_mUndo_1 : (.fieldLink RX12 282 "MistHeapsModel" "hasImage" "Z" : Cond) ∈ wsX12_undo := kc_of 1143 rfl rfl rfl
theorem kc_mUndo_2 : (.fieldLink RX12 9 "MistHeapsModel" "s" "[I" : Cond) ∈ wsX12_undo := kc_of 1141 rfl rfl rfl
theorem kc_mUndo_3 : (.fieldLink RX12 15 "MistHeapsModel" "image" "[I" : Cond) ∈ wsX12_undo := kc_of 1142 rfl rfl rfl
set_option maxHeartbeats 4000000 in
set_option maxRecDepth 100000 in
theorem c_mUndo (l : Launch) (dC : Nat → ClassId) (dI : Nat → Nat → Nat) (m0 aS aI aB aT aG aO aN aD aY : Nat) (th im ac sp en wg op se dn rn kd nu tv : Int32) (bv : Int64) (cS cI : ClassId) (fS : Nat → Int32) (fI : Nat → Int32) (sz : Nat) : Met l yX12_undo wsX12_undo ({ frames := 0, cells := 0, slots := 0, locals := 0 } : Room) (va_Pc [.ref m0] (fun U => U.heap.size = sz ∧ va_P (dC, dI) vwCl [(zo14irriiiiiirriirrrrlriiii m0 th aS aI im ac sp en wg op aB aT se dn aG aO aN aD bv aY rn kd nu tv), (zaI aS cS 901 fS), (zaI aI cI 901 fI)] U.heap ∧ va_K (dC, dI) vwCl [(cS, .int), (cI, .int)] U ∧ va_D (fun _ => True) [(zo14irriiiiiirriirrrrlriiii m0 th aS aI im ac sp en wg op aB aT se dn aG aO aN aD bv aY rn kd nu tv), (zaI aS cS 901 fS), (zaI aI cI 901 fI)])) (va_Qi (fun (r : Int32) (u : Nat → Int32) => match u with | fS9 => (im = 0 ∧ r = -3 ∧ fS9 = fS) ∨ (¬ im = 0 ∧ r = fI 0 ∧ ∀ k, k < 901 → fS9 k = fI k)) (fun (u : Nat → Int32) (t : State) => match u with | fS9 => va_P (dC, dI) vwCl [(zo14irriiiiiirriirrrrlriiii m0 th aS aI im ac sp en wg op aB aT se dn aG aO aN aD bv aY rn kd nu tv), (zaI aS cS 901 fS9), (zaI aI cI 901 fI)] t.heap ∧ va_K (dC, dI) vwCl [(cS, .int), (cI, .int)] t ∧ va_D (va_A [(zo14irriiiiiirriirrrrlriiii m0 th aS aI im ac sp en wg op aB aT se dn aG aO aN aD bv aY rn kd nu tv), (zaI aS cS 901 fS), (zaI aI cI 901 fI)] sz) [(zo14irriiiiiirriirrrrlriiii m0 th aS aI im ac sp en wg op aB aT se dn aG aO aN aD bv aY rn kd nu tv), (zaI aS cS 901 fS9), (zaI aI cI 901 fI)]) (va_A [(zo14irriiiiiirriirrrrlriiii m0 th aS aI im ac sp en wg op aB aT se dn aG aO aN aD bv aY rn kd nu tv), (zaI aS cS 901 fS), (zaI aI cI 901 fI)] sz)) 0 0 (va_A [(zo14irriiiiiirriirrrrlriiii m0 th aS aI im ac sp en wg op aB aT se dn aG aO aN aD bv aY rn kd nu tv), (zaI aS cS 901 fS), (zaI aI cI 901 fI)] sz) := by
  refine met_ofQ (cc := cX12_undo) (maxL := 2) (ret := (some .int)) (by decide) rfl ?_
  intro p e s m args below meth c s₁ Q B hml hv hQ
  obtain ⟨rfl, hsz, hP, hK, hD0⟩ := hv
  have hx := B.exec
  have hb := B.bytes
  have hr := B.returns
  have hts := atoms_spec (ws := wsX12_undo) B.pre
  have hown : s.vm.findClass RX12 = some m.cls := findClass_of_methodNamed B.named
  have hlocks := B.notSynchronized
  subst hsz
  have hD := hD0.self (sz := s.heap.size)
  generalize hAe : va_A [(zo14irriiiiiirriirrrrlriiii m0 th aS aI im ac sp en wg op aB aT se dn aG aO aN aD bv aY rn kd nu tv), (zaI aS cS 901 fS), (zaI aI cI 901 fI)] s.heap.size = A at hD hQ ⊢
  have hA : ∀ q : Nat, s.heap.size ≤ q → A q := fun q h => by rw [← hAe]; exact Or.inr h
  have hS : va_S A s.heap s.heap [] := va_S.rf
  have hl := lv_entry [.ref m0] (n := 2) (Nat.le_of_ble_eq_true rfl)
  rw [lg_entry_eq]
  generalize (lg_sl [.ref m0] ++ List.replicate (2 - (lg_sl [.ref m0]).length) Slot.unset).toArray = ls at hl ⊢
  generalize hag : ([.ref m0] : List Value).toArray = args at hts hQ ⊢
  have hl : lv_has ls 2 [(0, .ref m0)] := hl
  obtain ⟨H, hH⟩ : ∃ H : Heap, H = s.heap := ⟨_, rfl⟩
  rw [← hH] at hP
  rw [← hH]
  have hS : va_S A s.heap H [] := by rw [hH]; exact hS
  obtain ⟨locs, hlo⟩ : ∃ L : List Loc, L = [] := ⟨_, rfl⟩
  rw [← hlo] at hS
  rw [← hlo]
  clear hH hlo
  refine lv_aload_n hx hb dX12_undo_0 rfl (lv_at hl 0 rfl) ?_
  refine va_get (D := (dC, dI)) (ci := 14) (v := .int im) (C := RX12) (T := TX12) (N := 23) hx hb hts kc_mUndo_0 hown hK hP 0 rfl rfl 3 (by decide) (hts (.fieldLink RX12 282 "MistHeapsModel" "hasImage" "Z") kc_mUndo_1) (fun _ h9 => h9) rfl dX12_undo_1 ?_
  refine lv_if_ne (tgt := 10) hx hb dX12_undo_4 (by decide) (fun c_1 => ?_) (fun c_1 => ?_)
  · skip
    refine lv_iconst (v := 0) hx hb dX12_undo_10 (by decide) ?_
    refine lv_istore_n (lv' := [(1, .int 0), (0, .ref m0)]) hx hb dX12_undo_11 rfl hl (by decide) rfl (fun ls hl => ?_)
    have L12 : ∀ (nF : Nat) (i : Nat) (g : Nat → Int32), 901 - i < nF → (i ≤ 901) → (∀ k, k < i → g k = fI k) → ∀ (H : Heap) (locs : List Loc), va_K (dC, dI) vwCl [(cS, .int), (cI, .int)] s → va_P (dC, dI) vwCl [(zo14irriiiiiirriirrrrlriiii m0 th aS aI im ac sp en wg op aB aT se dn aG aO aN aD bv aY rn kd nu tv), (zaI aS cS 901 g), (zaI aI cI 901 fI)] H → va_D A [(zo14irriiiiiirriirrrrlriiii m0 th aS aI im ac sp en wg op aB aT se dn aG aO aN aD bv aY rn kd nu tv), (zaI aS cS 901 g), (zaI aI cI 901 fI)] → va_S A s.heap H locs → ∀ (ls : Array Slot), lv_has ls 2 [(0, .ref m0), (1, .int (nI i))] → W p l e ({ frames := 0, cells := 0, slots := 0, locals := 0 } : Room) s m args below meth c H locs 0 0 Q (F0 m 12 ls []) := by
      intro nF
      induction nF with
      | zero => intro i g hm; exact absurd hm (Nat.not_lt_zero _)
      | succ nF ih12 =>
        intro i g hm hi zg H locs hK hP hD hS ls hl
        refine lv_iload_n hx hb dX12_undo_12 rfl (lv_at hl 1 rfl) ?_
        refine lv_sipush (v := 901) hx hb dX12_undo_13 (by decide) ?_
        refine lv_icmp_ge (tgt := 37) hx hb dX12_undo_16 (by decide) (fun c_2 => ?_) (fun c_2 => ?_)
        · skip
          have c_2 : 901 ≤ i := (nI_leI (a := 901) (b := i) (by omega) (by omega)).mp c_2
          refine lv_aload_n hx hb dX12_undo_37 rfl (lv_at hl 0 rfl) ?_
          refine va_get (D := (dC, dI)) (ci := 14) (v := .ref aS) (C := RX12) (T := TX12) (N := 23) hx hb hts kc_mUndo_0 hown hK hP 0 rfl rfl 1 (by decide) (hts (.fieldLink RX12 9 "MistHeapsModel" "s" "[I") kc_mUndo_2) (fun _ h9 => h9) rfl dX12_undo_38 ?_
          refine lv_iconst (v := 0) hx hb dX12_undo_41 (by decide) ?_
          refine va_iald hx hb hK hP 1 0 rfl rfl (vp_in_nI (n := 0) (N := 901) (by omega) (by omega)) dX12_undo_42 ?_
          refine qi_as (y := g 0) (rfl) ?_
          rw [hQ]
          have hP9 := hP.sub (ws' := [(zo14irriiiiiirriirrrrlriiii m0 th aS aI im ac sp en wg op aB aT se dn aG aO aN aD bv aY rn kd nu tv), (zaI aS cS 901 g), (zaI aI cI 901 fI)]) [0, 1, 2] rfl
          have hD9 := hD.sub (ws' := [(zo14irriiiiiirriirrrrlriiii m0 th aS aI im ac sp en wg op aB aT se dn aG aO aN aD bv aY rn kd nu tv), (zaI aS cS 901 g), (zaI aI cI 901 fI)]) [0, 1, 2] (by decide) rfl
          have hK9 := hK.sub (tys' := [(cS, .int), (cI, .int)]) [0, 1] rfl
          exact W.iret (v := g 0) hx hb hr (fun tQ htQ hWQ => ⟨⟨(g 0), g, rfl, by first | exact Or.inl ⟨by assumption, rfl, rfl⟩ | exact Or.inr ⟨by assumption, zg 0 (by omega), fun k hk => zg k (by omega)⟩, by rw [htQ]; exact hP9, va_K.moved hWQ.alike hK9, hD9⟩, hS.F htQ⟩) hS.2.2 dX12_undo_43
        · skip
          have c_2 : ¬ 901 ≤ i := fun q => c_2 ((nI_leI (a := 901) (b := i) (by omega) (by omega)).mpr q)
          refine lv_aload_n hx hb dX12_undo_19 rfl (lv_at hl 0 rfl) ?_
          refine va_get (D := (dC, dI)) (ci := 14) (v := .ref aS) (C := RX12) (T := TX12) (N := 23) hx hb hts kc_mUndo_0 hown hK hP 0 rfl rfl 1 (by decide) (hts (.fieldLink RX12 9 "MistHeapsModel" "s" "[I") kc_mUndo_2) (fun _ h9 => h9) rfl dX12_undo_20 ?_
          refine lv_iload_n hx hb dX12_undo_23 rfl (lv_at hl 1 rfl) ?_
          refine lv_aload_n hx hb dX12_undo_24 rfl (lv_at hl 0 rfl) ?_
          refine va_get (D := (dC, dI)) (ci := 14) (v := .ref aI) (C := RX12) (T := TX12) (N := 23) hx hb hts kc_mUndo_0 hown hK hP 0 rfl rfl 2 (by decide) (hts (.fieldLink RX12 15 "MistHeapsModel" "image" "[I") kc_mUndo_3) (fun _ h9 => h9) rfl dX12_undo_25 ?_
          refine lv_iload_n hx hb dX12_undo_28 rfl (lv_at hl 1 rfl) ?_
          refine va_iald hx hb hK hP 2 1 rfl rfl (vp_in_nI (n := i) (N := 901) (by omega) (by omega)) dX12_undo_29 ?_
          refine qi_as (y := fI i) (by rw [nI_clamp (by omega)]) ?_
          refine va_iast hx hb hK hP hD hS 1 0 rfl rfl (vp_in_nI (n := i) (N := 901) (by omega) (by omega)) dX12_undo_30 (fun H locs hP hD hS => ?_)
          rw [nI_clamp (n := i) (by omega)] at hP hD
          have hP : va_P (dC, dI) vwCl [(zo14irriiiiiirriirrrrlriiii m0 th aS aI im ac sp en wg op aB aT se dn aG aO aN aD bv aY rn kd nu tv), (zaI aS cS 901 (upd g i (fI i))), (zaI aI cI 901 fI)] H := hP
          have hD : va_D A [(zo14irriiiiiirriirrrrlriiii m0 th aS aI im ac sp en wg op aB aT se dn aG aO aN aD bv aY rn kd nu tv), (zaI aS cS 901 (upd g i (fI i))), (zaI aI cI 901 fI)] := hD
          refine lv_iinc (v := nI (i + 1)) (lv' := [(1, .int (nI (i + 1))), (0, .ref m0)]) hx hb dX12_undo_31 hl (k := 1) rfl (nI_add i 1) (by decide) rfl (fun ls hl => ?_)
          refine lv_goto (tgt := 12) hx hb dX12_undo_34 (by decide) ?_
          exact ih12 (i + 1) _ (by omega) (by omega) (cp_step zg) _ _ (hK.sub [0, 1] rfl) (hP.sub [0, 1, 2] rfl) (hD.sub [0, 1, 2] (by decide) rfl) hS ls (lv_sub hl [1, 0] rfl)
    exact L12 _ (0) _ (Nat.lt_succ_self _) (by omega) (fun _ h => absurd h (Nat.not_lt_zero _)) _ _ (hK.sub [0, 1] rfl) (hP.sub [0, 1, 2] rfl) (hD.sub [0, 1, 2] (by decide) rfl) hS ls (lv_sub hl [1, 0] rfl)
  · skip
    refine lv_bipush (v := (-3)) hx hb dX12_undo_7 (by decide) ?_
    rw [hQ]
    have hP9 := hP.sub (ws' := [(zo14irriiiiiirriirrrrlriiii m0 th aS aI im ac sp en wg op aB aT se dn aG aO aN aD bv aY rn kd nu tv), (zaI aS cS 901 fS), (zaI aI cI 901 fI)]) [0, 1, 2] rfl
    have hD9 := hD.sub (ws' := [(zo14irriiiiiirriirrrrlriiii m0 th aS aI im ac sp en wg op aB aT se dn aG aO aN aD bv aY rn kd nu tv), (zaI aS cS 901 fS), (zaI aI cI 901 fI)]) [0, 1, 2] (by decide) rfl
    have hK9 := hK.sub (tys' := [(cS, .int), (cI, .int)]) [0, 1] rfl
    exact W.iret (v := (-3)) hx hb hr (fun tQ htQ hWQ => ⟨⟨(-3), fS, rfl, by first | exact Or.inl ⟨by assumption, rfl, rfl⟩ | exact Or.inr ⟨by assumption, zg 0 (by omega), fun k hk => zg k (by omega)⟩, by rw [htQ]; exact hP9, va_K.moved hWQ.alike hK9, hD9⟩, hS.F htQ⟩) hS.2.2 dX12_undo_9

theorem kc_mCount_0 : ∀ w ∈ wsX120, w ∈ wsX12_count := fun w h => List.mem_cons_of_mem _ (gin_wsX120 w h)
theorem kc_mCount_1 : (.fieldLink RX12 9 "MistHeapsModel" "s" "[I" : Cond) ∈ wsX12_count := kc_of 1141 rfl rfl rfl
theorem kc_mCount_2 : (.fieldLink RX12 246 "MistHeapsModel" "ran" "I" : Cond) ∈ wsX12_count := kc_of 1159 rfl rfl rfl
set_option maxHeartbeats 4000000 in
set_option maxRecDepth 100000 in
theorem c_mCount (l : Launch) (dC : Nat → ClassId) (dI : Nat → Nat → Nat) (m0 aS aI aB aT aG aO aN aD aY : Nat) (th im ac sp en wg op se dn rn kd nu tv : Int32) (bv : Int64) (cS : ClassId) (fS : Nat → Int32) (n nl wk kb tp : Nat) (tl : List Nat) (x : Int32) (zn : fS 0 = nI n) (z1 : fS 1 = nI nl) (zw : fS 2 = nI wk) (zk : fS 3 = nI kb) (zt : fS 4 = nI tp) : Met l yX12_count wsX12_count ({ frames := 0, cells := 0, slots := 0, locals := 0 } : Room) (va_Pc [.ref m0, .int x] (fun U => va_P (dC, dI) vwCl [(zo14irriiiiiirriirrrrlriiii m0 th aS aI im ac sp en wg op aB aT se dn aG aO aN aD bv aY (nI tl.length) kd nu tv), (zaI aS cS 901 fS)] U.heap ∧ va_K (dC, dI) vwCl [(cS, .int)] U)) (vp_Si (fun r => r = ctR n nl wk kb tp tl x)) 0 0 (fun _ => False) := by
  refine met_ofQ (cc := cX12_count) (maxL := 2) (ret := (some .int)) (by decide) rfl ?_
  intro p e s m args below meth c s₁ Q B hml hv hQ
  obtain ⟨rfl, hP, hK⟩ := hv
  have hx := B.exec
  have hb := B.bytes
  have hr := B.returns
  have hts := atoms_spec (ws := wsX12_count) B.pre
  have hown : s.vm.findClass RX12 = some m.cls := findClass_of_methodNamed B.named
  have hlocks := B.notSynchronized
  obtain ⟨A, hAe⟩ : ∃ A : Nat → Prop, A = fun _ => False := ⟨_, rfl⟩
  rw [← hAe] at hQ
  have hS : va_S A s.heap s.heap [] := va_S.rf
  have hl := lv_entry [.ref m0, .int x] (n := 2) (Nat.le_of_ble_eq_true rfl)
  rw [lg_entry_eq]
  generalize (lg_sl [.ref m0, .int x] ++ List.replicate (2 - (lg_sl [.ref m0, .int x]).length) Slot.unset).toArray = ls at hl ⊢
  generalize hag : ([.ref m0, .int x] : List Value).toArray = args at hts hQ ⊢
  have hl : lv_has ls 2 [(0, .ref m0), (1, .int x)] := hl
  refine lv_iload_n hx hb dX12_count_0 rfl (lv_at hl 1 rfl) ?_
  by_cases c_1_0 : x = 0
  · skip
    refine lv_tableIn (tgt := 40) hx hb dX12_count_1 (by rw [c_1_0]; decide) (by rw [c_1_0]; decide) (by rw [c_1_0]; rfl) (by decide) ?_
    refine lv_aload_n hx hb dX12_count_40 rfl (lv_at hl 0 rfl) ?_
    refine va_get (D := (dC, dI)) (ci := 14) (v := .ref aS) (C := RX12) (T := TX12) (N := 23) hx hb hts kc_mCount_0 hown hK hP 0 rfl rfl 1 (by decide) (hts (.fieldLink RX12 9 "MistHeapsModel" "s" "[I") kc_mCount_1) (fun _ h9 => h9) rfl dX12_count_41 ?_
    refine lv_iconst (v := 0) hx hb dX12_count_44 (by decide) ?_
    refine va_iald hx hb hK hP 1 0 rfl rfl (vp_in_nI (n := 0) (N := 901) (by omega) (by omega)) dX12_count_45 ?_
    refine qi_as (y := nI n) ((show fS (0 : Int32).toNatClampNeg = fS 0 from rfl).trans (zn)) ?_
    rw [hQ]
    exact W.iret (v := nI n) hx hb hr (fun tQ htQ hWQ => ⟨nI n, rfl, ct_0 (by assumption), by rw [htQ]⟩) (fun q hq => absurd hq List.not_mem_nil) dX12_count_46
  by_cases c_1_1 : x = 1
  · skip
    refine lv_tableIn (tgt := 47) hx hb dX12_count_1 (by rw [c_1_1]; decide) (by rw [c_1_1]; decide) (by rw [c_1_1]; rfl) (by decide) ?_
    refine lv_aload_n hx hb dX12_count_47 rfl (lv_at hl 0 rfl) ?_
    refine va_get (D := (dC, dI)) (ci := 14) (v := .ref aS) (C := RX12) (T := TX12) (N := 23) hx hb hts kc_mCount_0 hown hK hP 0 rfl rfl 1 (by decide) (hts (.fieldLink RX12 9 "MistHeapsModel" "s" "[I") kc_mCount_1) (fun _ h9 => h9) rfl dX12_count_48 ?_
    refine lv_iconst (v := 1) hx hb dX12_count_51 (by decide) ?_
    refine va_iald hx hb hK hP 1 0 rfl rfl (vp_in_nI (n := 1) (N := 901) (by omega) (by omega)) dX12_count_52 ?_
    refine qi_as (y := nI nl) ((show fS (1 : Int32).toNatClampNeg = fS 1 from rfl).trans (z1)) ?_
    rw [hQ]
    exact W.iret (v := nI nl) hx hb hr (fun tQ htQ hWQ => ⟨nI nl, rfl, ct_1 (by assumption), by rw [htQ]⟩) (fun q hq => absurd hq List.not_mem_nil) dX12_count_53
  by_cases c_1_2 : x = 2
  · skip
    refine lv_tableIn (tgt := 54) hx hb dX12_count_1 (by rw [c_1_2]; decide) (by rw [c_1_2]; decide) (by rw [c_1_2]; rfl) (by decide) ?_
    refine lv_aload_n hx hb dX12_count_54 rfl (lv_at hl 0 rfl) ?_
    refine va_get (D := (dC, dI)) (ci := 14) (v := .ref aS) (C := RX12) (T := TX12) (N := 23) hx hb hts kc_mCount_0 hown hK hP 0 rfl rfl 1 (by decide) (hts (.fieldLink RX12 9 "MistHeapsModel" "s" "[I") kc_mCount_1) (fun _ h9 => h9) rfl dX12_count_55 ?_
    refine lv_iconst (v := 2) hx hb dX12_count_58 (by decide) ?_
    refine va_iald hx hb hK hP 1 0 rfl rfl (vp_in_nI (n := 2) (N := 901) (by omega) (by omega)) dX12_count_59 ?_
    refine qi_as (y := nI wk) ((show fS (2 : Int32).toNatClampNeg = fS 2 from rfl).trans (zw)) ?_
    rw [hQ]
    exact W.iret (v := nI wk) hx hb hr (fun tQ htQ hWQ => ⟨nI wk, rfl, ct_2 (by assumption), by rw [htQ]⟩) (fun q hq => absurd hq List.not_mem_nil) dX12_count_60
  by_cases c_1_3 : x = 3
  · skip
    refine lv_tableIn (tgt := 61) hx hb dX12_count_1 (by rw [c_1_3]; decide) (by rw [c_1_3]; decide) (by rw [c_1_3]; rfl) (by decide) ?_
    refine lv_aload_n hx hb dX12_count_61 rfl (lv_at hl 0 rfl) ?_
    refine va_get (D := (dC, dI)) (ci := 14) (v := .ref aS) (C := RX12) (T := TX12) (N := 23) hx hb hts kc_mCount_0 hown hK hP 0 rfl rfl 1 (by decide) (hts (.fieldLink RX12 9 "MistHeapsModel" "s" "[I") kc_mCount_1) (fun _ h9 => h9) rfl dX12_count_62 ?_
    refine lv_iconst (v := 3) hx hb dX12_count_65 (by decide) ?_
    refine va_iald hx hb hK hP 1 0 rfl rfl (vp_in_nI (n := 3) (N := 901) (by omega) (by omega)) dX12_count_66 ?_
    refine qi_as (y := nI kb) ((show fS (3 : Int32).toNatClampNeg = fS 3 from rfl).trans (zk)) ?_
    rw [hQ]
    exact W.iret (v := nI kb) hx hb hr (fun tQ htQ hWQ => ⟨nI kb, rfl, ct_3 (by assumption), by rw [htQ]⟩) (fun q hq => absurd hq List.not_mem_nil) dX12_count_67
  by_cases c_1_4 : x = 4
  · skip
    refine lv_tableIn (tgt := 68) hx hb dX12_count_1 (by rw [c_1_4]; decide) (by rw [c_1_4]; decide) (by rw [c_1_4]; rfl) (by decide) ?_
    refine lv_aload_n hx hb dX12_count_68 rfl (lv_at hl 0 rfl) ?_
    refine va_get (D := (dC, dI)) (ci := 14) (v := .ref aS) (C := RX12) (T := TX12) (N := 23) hx hb hts kc_mCount_0 hown hK hP 0 rfl rfl 1 (by decide) (hts (.fieldLink RX12 9 "MistHeapsModel" "s" "[I") kc_mCount_1) (fun _ h9 => h9) rfl dX12_count_69 ?_
    refine lv_iconst (v := 4) hx hb dX12_count_72 (by decide) ?_
    refine va_iald hx hb hK hP 1 0 rfl rfl (vp_in_nI (n := 4) (N := 901) (by omega) (by omega)) dX12_count_73 ?_
    refine qi_as (y := nI tp) ((show fS (4 : Int32).toNatClampNeg = fS 4 from rfl).trans (zt)) ?_
    rw [hQ]
    exact W.iret (v := nI tp) hx hb hr (fun tQ htQ hWQ => ⟨nI tp, rfl, ct_4 (by assumption), by rw [htQ]⟩) (fun q hq => absurd hq List.not_mem_nil) dX12_count_74
  by_cases c_1_5 : x = 5
  · skip
    refine lv_tableIn (tgt := 75) hx hb dX12_count_1 (by rw [c_1_5]; decide) (by rw [c_1_5]; decide) (by rw [c_1_5]; rfl) (by decide) ?_
    refine lv_aload_n hx hb dX12_count_75 rfl (lv_at hl 0 rfl) ?_
    refine va_get (D := (dC, dI)) (ci := 14) (v := .int (nI tl.length)) (C := RX12) (T := TX12) (N := 23) hx hb hts kc_mCount_0 hown hK hP 0 rfl rfl 19 (by decide) (hts (.fieldLink RX12 246 "MistHeapsModel" "ran" "I") kc_mCount_2) (fun _ h9 => h9) rfl dX12_count_76 ?_
    rw [hQ]
    exact W.iret (v := nI tl.length) hx hb hr (fun tQ htQ hWQ => ⟨nI tl.length, rfl, ct_5 (by assumption), by rw [htQ]⟩) (fun q hq => absurd hq List.not_mem_nil) dX12_count_79
  refine lv_tableOut (tgt := 80) hx hb dX12_count_1 (sw_out 0 5 x (fun k hk => by
    match k, hk with
    | 0, _ => exact c_1_0
    | 1, _ => exact c_1_1
    | 2, _ => exact c_1_2
    | 3, _ => exact c_1_3
    | 4, _ => exact c_1_4
    | 5, _ => exact c_1_5
    | k + 6, hk => exact absurd hk (by omega))) (by decide) ?_
  refine lv_iconst (v := (-1)) hx hb dX12_count_80 (by decide) ?_
  rw [hQ]
  exact W.iret (v := (-1)) hx hb hr (fun tQ htQ hWQ => ⟨(-1), rfl, ct_n (by assumption) (by assumption) (by assumption) (by assumption) (by assumption) (by assumption), by rw [htQ]⟩) (fun q hq => absurd hq List.not_mem_nil) dX12_count_81
