theorem ggX11_edges_J13_bitCount_95d88 : GoodIn wsX11_edges wsJ13_bitCount_95d88 := gga_of 530 rfl rfl rfl
theorem gX11_edges_J13_bitCount_95d88 : GoodIn wsX11_edges (va_wsS RX11 77 yJ13_bitCount_95d88 wsJ13_bitCount_95d88) := goodIn_app (ggh_of [528, 529, 80] rfl rfl rfl) ggX11_edges_J13_bitCount_95d88
theorem ggX11_told_J13_bitCount_95d88 : GoodIn wsX11_told wsJ13_bitCount_95d88 := gga_of 530 rfl rfl rfl
theorem gX11_told_J13_bitCount_95d88 : GoodIn wsX11_told (va_wsS RX11 77 yJ13_bitCount_95d88 wsJ13_bitCount_95d88) := goodIn_app (ggh_of [528, 529, 80] rfl rfl rfl) ggX11_told_J13_bitCount_95d88
theorem ggX11_set_X11_told : GoodIn wsX11_set wsX11_told := gga_of 541 rfl rfl rfl
theorem gX11_set_X11_told : GoodIn wsX11_set (wsV RX11 81 RX11 yX11_told wsX11_told) := goodIn_app (ggh_of [538, 539, 540, 63] rfl rfl rfl) ggX11_set_X11_told
theorem ggX11_book_X8_heapAt : GoodIn wsX11_book wsX8_heapAt := gga_of 632 rfl rfl rfl
theorem gX11_book_X8_heapAt : GoodIn wsX11_book (wsV RX11 112 RX8 yX8_heapAt wsX8_heapAt) := goodIn_app (ggh_of [629, 630, 631, 64] rfl rfl rfl) ggX11_book_X8_heapAt
theorem ggX11_of_X8_heapAt : GoodIn wsX11_of wsX8_heapAt := gga_of 632 rfl rfl rfl
theorem gX11_of_X8_heapAt : GoodIn wsX11_of (wsV RX11 112 RX8 yX8_heapAt wsX8_heapAt) := goodIn_app (ggh_of [629, 630, 631, 64] rfl rfl rfl) ggX11_of_X8_heapAt
theorem ggX11_of_X8_reachOf : GoodIn wsX11_of wsX8_reachOf := gga_of 636 rfl rfl rfl
theorem gX11_of_X8_reachOf : GoodIn wsX11_of (wsV RX11 127 RX8 yX8_reachOf wsX8_reachOf) := goodIn_app (ggh_of [633, 634, 635, 64] rfl rfl rfl) ggX11_of_X8_reachOf
theorem ggX11_sees_X11_isCell : GoodIn wsX11_sees wsX11_isCell := gga_of 549 rfl rfl rfl
theorem gX11_sees_X11_isCell : GoodIn wsX11_sees (va_wsS RX11 94 yX11_isCell wsX11_isCell) := goodIn_app (ggh_of [547, 548, 63] rfl rfl rfl) ggX11_sees_X11_isCell
theorem ggX11_sees_X2_measure : GoodIn wsX11_sees wsX2_measure := gga_of 692 rfl rfl rfl
theorem gX11_sees_X2_measure : GoodIn wsX11_sees (wsV RX11 131 RX2 yX2_measure wsX2_measure) := goodIn_app (ggh_of [689, 690, 691, 66] rfl rfl rfl) ggX11_sees_X2_measure
theorem ggX11_sees_X2_seenFrom : GoodIn wsX11_sees wsX2_seenFrom := gga_of 697 rfl rfl rfl
theorem gX11_sees_X2_seenFrom : GoodIn wsX11_sees (wsV RX11 135 RX2 yX2_seenFrom wsX2_seenFrom) := goodIn_app (ggh_of [694, 695, 696, 66] rfl rfl rfl) ggX11_sees_X2_seenFrom
theorem ggX11_where_X2_measure : GoodIn wsX11_where wsX2_measure := gga_of 692 rfl rfl rfl
theorem gX11_where_X2_measure : GoodIn wsX11_where (wsV RX11 131 RX2 yX2_measure wsX2_measure) := goodIn_app (ggh_of [689, 690, 691, 66] rfl rfl rfl) ggX11_where_X2_measure
theorem ggX11_where_X2_seenFrom : GoodIn wsX11_where wsX2_seenFrom := gga_of 697 rfl rfl rfl
theorem gX11_where_X2_seenFrom : GoodIn wsX11_where (wsV RX11 135 RX2 yX2_seenFrom wsX2_seenFrom) := goodIn_app (ggh_of [694, 695, 696, 66] rfl rfl rfl) ggX11_where_X2_seenFrom
theorem ggX11_steps_X8_areHeaps : GoodIn wsX11_steps wsX8_areHeaps := gga_of 719 rfl rfl rfl
theorem gX11_steps_X8_areHeaps : GoodIn wsX11_steps (wsV RX11 141 RX8 yX8_areHeaps wsX8_areHeaps) := goodIn_app (ggh_of [716, 717, 718, 64] rfl rfl rfl) ggX11_steps_X8_areHeaps
theorem ggX11_steps_X2_link : GoodIn wsX11_steps wsX2_link := gga_of 724 rfl rfl rfl
theorem gX11_steps_X2_link : GoodIn wsX11_steps (wsV RX11 145 RX2 yX2_link wsX2_link) := goodIn_app (ggh_of [721, 722, 723, 66] rfl rfl rfl) ggX11_steps_X2_link
theorem ggX11_steps_X2_fewest : GoodIn wsX11_steps wsX2_fewest := gga_of 757 rfl rfl rfl
theorem gX11_steps_X2_fewest : GoodIn wsX11_steps (wsV RX11 148 RX2 yX2_fewest wsX2_fewest) := goodIn_app (ggh_of [754, 755, 756, 66] rfl rfl rfl) ggX11_steps_X2_fewest
theorem ggX11_via_X8_areHeaps : GoodIn wsX11_via wsX8_areHeaps := gga_of 719 rfl rfl rfl
theorem gX11_via_X8_areHeaps : GoodIn wsX11_via (wsV RX11 141 RX8 yX8_areHeaps wsX8_areHeaps) := goodIn_app (ggh_of [716, 717, 718, 64] rfl rfl rfl) ggX11_via_X8_areHeaps
theorem ggX11_via_X2_link : GoodIn wsX11_via wsX2_link := gga_of 724 rfl rfl rfl
theorem gX11_via_X2_link : GoodIn wsX11_via (wsV RX11 145 RX2 yX2_link wsX2_link) := goodIn_app (ggh_of [721, 722, 723, 66] rfl rfl rfl) ggX11_via_X2_link
theorem ggX11_via_X2_first : GoodIn wsX11_via wsX2_first := gga_of 769 rfl rfl rfl
theorem gX11_via_X2_first : GoodIn wsX11_via (wsV RX11 152 RX2 yX2_first wsX2_first) := goodIn_app (ggh_of [766, 767, 768, 66] rfl rfl rfl) ggX11_via_X2_first
theorem ggX11_cuts_X8_areHeaps : GoodIn wsX11_cuts wsX8_areHeaps := gga_of 719 rfl rfl rfl
theorem gX11_cuts_X8_areHeaps : GoodIn wsX11_cuts (wsV RX11 141 RX8 yX8_areHeaps wsX8_areHeaps) := goodIn_app (ggh_of [716, 717, 718, 64] rfl rfl rfl) ggX11_cuts_X8_areHeaps
theorem ggX11_cuts_X2_link : GoodIn wsX11_cuts wsX2_link := gga_of 724 rfl rfl rfl
theorem gX11_cuts_X2_link : GoodIn wsX11_cuts (wsV RX11 145 RX2 yX2_link wsX2_link) := goodIn_app (ggh_of [721, 722, 723, 66] rfl rfl rfl) ggX11_cuts_X2_link
theorem ggX11_cuts_X2_breaks : GoodIn wsX11_cuts wsX2_breaks := gga_of 782 rfl rfl rfl
theorem gX11_cuts_X2_breaks : GoodIn wsX11_cuts (wsV RX11 156 RX2 yX2_breaks wsX2_breaks) := goodIn_app (ggh_of [779, 780, 781, 66] rfl rfl rfl) ggX11_cuts_X2_breaks
noncomputable def dk18bpub_cX11_feed_0 : List (Nat × Instr × Nat) := [(0, .iload_n 1, 1), (1, .ifCond .lt 9, 3), (10, .bipush (-2), 2), (12, .ireturn, 1), (4, .iload_n 1, 1), (5, .bipush 127, 2), (7, .if_icmp .le 6, 3), (13, .aload_n 0, 1), (14, .getfield 14, 3), (17, .getfield 53, 3), (20, .bipush 100, 2), (22, .if_icmp .lt 6, 3), (28, .aload_n 0, 1), (29, .getfield 14, 3), (32, .getfield 57, 3), (35, .aload_n 0, 1), (36, .getfield 14, 3), (39, .getfield 53, 3), (42, .iload_n 1, 1), (43, .iastore, 1), (44, .aload_n 0, 1), (45, .getfield 14, 3), (48, .dup, 1), (49, .getfield 53, 3), (52, .iconst 1, 1), (53, .iadd, 1), (54, .putfield 53, 3), (57, .aload_n 0, 1), (58, .getfield 14, 3), (61, .getfield 53, 3), (64, .ireturn, 1), (25, .bipush (-4), 2), (27, .ireturn, 1)]
set_option maxRecDepth 100000 in
theorem dk18bpub_cX11_feed_0_a : dkA cX11_feed dk18bpub_cX11_feed_0 = true := by decide +kernel
theorem dX11_feed_0 : decode cX11_feed 0 = .ok (.iload_n 1, 1) := dkAt dk18bpub_cX11_feed_0_a 0 rfl
theorem dX11_feed_1 : decode cX11_feed 1 = .ok (.ifCond .lt 9, 3) := dkAt dk18bpub_cX11_feed_0_a 1 rfl
theorem dX11_feed_10 : decode cX11_feed 10 = .ok (.bipush (-2), 2) := dkAt dk18bpub_cX11_feed_0_a 2 rfl
theorem dX11_feed_12 : decode cX11_feed 12 = .ok (.ireturn, 1) := dkAt dk18bpub_cX11_feed_0_a 3 rfl
theorem dX11_feed_4 : decode cX11_feed 4 = .ok (.iload_n 1, 1) := dkAt dk18bpub_cX11_feed_0_a 4 rfl
theorem dX11_feed_5 : decode cX11_feed 5 = .ok (.bipush 127, 2) := dkAt dk18bpub_cX11_feed_0_a 5 rfl
theorem dX11_feed_7 : decode cX11_feed 7 = .ok (.if_icmp .le 6, 3) := dkAt dk18bpub_cX11_feed_0_a 6 rfl
theorem dX11_feed_13 : decode cX11_feed 13 = .ok (.aload_n 0, 1) := dkAt dk18bpub_cX11_feed_0_a 7 rfl
theorem dX11_feed_14 : decode cX11_feed 14 = .ok (.getfield 14, 3) := dkAt dk18bpub_cX11_feed_0_a 8 rfl
theorem dX11_feed_17 : decode cX11_feed 17 = .ok (.getfield 53, 3) := dkAt dk18bpub_cX11_feed_0_a 9 rfl
theorem dX11_feed_20 : decode cX11_feed 20 = .ok (.bipush 100, 2) := dkAt dk18bpub_cX11_feed_0_a 10 rfl
theorem dX11_feed_22 : decode cX11_feed 22 = .ok (.if_icmp .lt 6, 3) := dkAt dk18bpub_cX11_feed_0_a 11 rfl
theorem dX11_feed_28 : decode cX11_feed 28 = .ok (.aload_n 0, 1) := dkAt dk18bpub_cX11_feed_0_a 12 rfl
theorem dX11_feed_29 : decode cX11_feed 29 = .ok (.getfield 14, 3) := dkAt dk18bpub_cX11_feed_0_a 13 rfl
theorem dX11_feed_32 : decode cX11_feed 32 = .ok (.getfield 57, 3) := dkAt dk18bpub_cX11_feed_0_a 14 rfl
theorem dX11_feed_35 : decode cX11_feed 35 = .ok (.aload_n 0, 1) := dkAt dk18bpub_cX11_feed_0_a 15 rfl
theorem dX11_feed_36 : decode cX11_feed 36 = .ok (.getfield 14, 3) := dkAt dk18bpub_cX11_feed_0_a 16 rfl
theorem dX11_feed_39 : decode cX11_feed 39 = .ok (.getfield 53, 3) := dkAt dk18bpub_cX11_feed_0_a 17 rfl
theorem dX11_feed_42 : decode cX11_feed 42 = .ok (.iload_n 1, 1) := dkAt dk18bpub_cX11_feed_0_a 18 rfl
theorem dX11_feed_43 : decode cX11_feed 43 = .ok (.iastore, 1) := dkAt dk18bpub_cX11_feed_0_a 19 rfl
theorem dX11_feed_44 : decode cX11_feed 44 = .ok (.aload_n 0, 1) := dkAt dk18bpub_cX11_feed_0_a 20 rfl
theorem dX11_feed_45 : decode cX11_feed 45 = .ok (.getfield 14, 3) := dkAt dk18bpub_cX11_feed_0_a 21 rfl
theorem dX11_feed_48 : decode cX11_feed 48 = .ok (.dup, 1) := dkAt dk18bpub_cX11_feed_0_a 22 rfl
theorem dX11_feed_49 : decode cX11_feed 49 = .ok (.getfield 53, 3) := dkAt dk18bpub_cX11_feed_0_a 23 rfl
theorem dX11_feed_52 : decode cX11_feed 52 = .ok (.iconst 1, 1) := dkAt dk18bpub_cX11_feed_0_a 24 rfl
theorem dX11_feed_53 : decode cX11_feed 53 = .ok (.iadd, 1) := dkAt dk18bpub_cX11_feed_0_a 25 rfl
theorem dX11_feed_54 : decode cX11_feed 54 = .ok (.putfield 53, 3) := dkAt dk18bpub_cX11_feed_0_a 26 rfl
theorem dX11_feed_57 : decode cX11_feed 57 = .ok (.aload_n 0, 1) := dkAt dk18bpub_cX11_feed_0_a 27 rfl
theorem dX11_feed_58 : decode cX11_feed 58 = .ok (.getfield 14, 3) := dkAt dk18bpub_cX11_feed_0_a 28 rfl
theorem dX11_feed_61 : decode cX11_feed 61 = .ok (.getfield 53, 3) := dkAt dk18bpub_cX11_feed_0_a 29 rfl
theorem dX11_feed_64 : decode cX11_feed 64 = .ok (.ireturn, 1) := dkAt dk18bpub_cX11_feed_0_a 30 rfl
theorem dX11_feed_25 : decode cX11_feed 25 = .ok (.bipush (-4), 2) := dkAt dk18bpub_cX11_feed_0_a 31 rfl
theorem dX11_feed_27 : decode cX11_feed 27 = .ok (.ireturn, 1) := dkAt dk18bpub_cX11_feed_0_a 32 rfl
noncomputable def dk18bpub_cJ13_bitCount_95d88_0 : List (Nat × Instr × Nat) := [(0, .lload_n 0, 1), (1, .lload_n 0, 1), (2, .iconst 1, 1), (3, .lushr, 1), (4, .ldc2_w 314, 3), (7, .land, 1), (8, .lsub, 1), (9, .lstore_n 0, 1), (10, .lload_n 0, 1), (11, .ldc2_w 316, 3), (14, .land, 1), (15, .lload_n 0, 1), (16, .iconst 2, 1), (17, .lushr, 1), (18, .ldc2_w 316, 3), (21, .land, 1), (22, .ladd, 1), (23, .lstore_n 0, 1), (24, .lload_n 0, 1), (25, .lload_n 0, 1), (26, .iconst 4, 1), (27, .lushr, 1), (28, .ladd, 1), (29, .ldc2_w 318, 3), (32, .land, 1), (33, .lstore_n 0, 1), (34, .lload_n 0, 1), (35, .lload_n 0, 1), (36, .bipush 8, 2), (38, .lushr, 1), (39, .ladd, 1), (40, .lstore_n 0, 1), (41, .lload_n 0, 1), (42, .lload_n 0, 1), (43, .bipush 16, 2), (45, .lushr, 1), (46, .ladd, 1), (47, .lstore_n 0, 1), (48, .lload_n 0, 1), (49, .lload_n 0, 1)]
set_option maxRecDepth 100000 in
theorem dk18bpub_cJ13_bitCount_95d88_0_a : dkA cJ13_bitCount_95d88 dk18bpub_cJ13_bitCount_95d88_0 = true := by decide +kernel
theorem dJ13_bitCount_95d88_0 : decode cJ13_bitCount_95d88 0 = .ok (.lload_n 0, 1) := dkAt dk18bpub_cJ13_bitCount_95d88_0_a 0 rfl
theorem dJ13_bitCount_95d88_1 : decode cJ13_bitCount_95d88 1 = .ok (.lload_n 0, 1) := dkAt dk18bpub_cJ13_bitCount_95d88_0_a 1 rfl
theorem dJ13_bitCount_95d88_2 : decode cJ13_bitCount_95d88 2 = .ok (.iconst 1, 1) := dkAt dk18bpub_cJ13_bitCount_95d88_0_a 2 rfl
theorem dJ13_bitCount_95d88_3 : decode cJ13_bitCount_95d88 3 = .ok (.lushr, 1) := dkAt dk18bpub_cJ13_bitCount_95d88_0_a 3 rfl
theorem dJ13_bitCount_95d88_4 : decode cJ13_bitCount_95d88 4 = .ok (.ldc2_w 314, 3) := dkAt dk18bpub_cJ13_bitCount_95d88_0_a 4 rfl
theorem dJ13_bitCount_95d88_7 : decode cJ13_bitCount_95d88 7 = .ok (.land, 1) := dkAt dk18bpub_cJ13_bitCount_95d88_0_a 5 rfl
theorem dJ13_bitCount_95d88_8 : decode cJ13_bitCount_95d88 8 = .ok (.lsub, 1) := dkAt dk18bpub_cJ13_bitCount_95d88_0_a 6 rfl
theorem dJ13_bitCount_95d88_9 : decode cJ13_bitCount_95d88 9 = .ok (.lstore_n 0, 1) := dkAt dk18bpub_cJ13_bitCount_95d88_0_a 7 rfl
theorem dJ13_bitCount_95d88_10 : decode cJ13_bitCount_95d88 10 = .ok (.lload_n 0, 1) := dkAt dk18bpub_cJ13_bitCount_95d88_0_a 8 rfl
theorem dJ13_bitCount_95d88_11 : decode cJ13_bitCount_95d88 11 = .ok (.ldc2_w 316, 3) := dkAt dk18bpub_cJ13_bitCount_95d88_0_a 9 rfl
theorem dJ13_bitCount_95d88_14 : decode cJ13_bitCount_95d88 14 = .ok (.land, 1) := dkAt dk18bpub_cJ13_bitCount_95d88_0_a 10 rfl
theorem dJ13_bitCount_95d88_15 : decode cJ13_bitCount_95d88 15 = .ok (.lload_n 0, 1) := dkAt dk18bpub_cJ13_bitCount_95d88_0_a 11 rfl
theorem dJ13_bitCount_95d88_16 : decode cJ13_bitCount_95d88 16 = .ok (.iconst 2, 1) := dkAt dk18bpub_cJ13_bitCount_95d88_0_a 12 rfl
theorem dJ13_bitCount_95d88_17 : decode cJ13_bitCount_95d88 17 = .ok (.lushr, 1) := dkAt dk18bpub_cJ13_bitCount_95d88_0_a 13 rfl
theorem dJ13_bitCount_95d88_18 : decode cJ13_bitCount_95d88 18 = .ok (.ldc2_w 316, 3) := dkAt dk18bpub_cJ13_bitCount_95d88_0_a 14 rfl
theorem dJ13_bitCount_95d88_21 : decode cJ13_bitCount_95d88 21 = .ok (.land, 1) := dkAt dk18bpub_cJ13_bitCount_95d88_0_a 15 rfl
theorem dJ13_bitCount_95d88_22 : decode cJ13_bitCount_95d88 22 = .ok (.ladd, 1) := dkAt dk18bpub_cJ13_bitCount_95d88_0_a 16 rfl
theorem dJ13_bitCount_95d88_23 : decode cJ13_bitCount_95d88 23 = .ok (.lstore_n 0, 1) := dkAt dk18bpub_cJ13_bitCount_95d88_0_a 17 rfl
theorem dJ13_bitCount_95d88_24 : decode cJ13_bitCount_95d88 24 = .ok (.lload_n 0, 1) := dkAt dk18bpub_cJ13_bitCount_95d88_0_a 18 rfl
theorem dJ13_bitCount_95d88_25 : decode cJ13_bitCount_95d88 25 = .ok (.lload_n 0, 1) := dkAt dk18bpub_cJ13_bitCount_95d88_0_a 19 rfl
theorem dJ13_bitCount_95d88_26 : decode cJ13_bitCount_95d88 26 = .ok (.iconst 4, 1) := dkAt dk18bpub_cJ13_bitCount_95d88_0_a 20 rfl
theorem dJ13_bitCount_95d88_27 : decode cJ13_bitCount_95d88 27 = .ok (.lushr, 1) := dkAt dk18bpub_cJ13_bitCount_95d88_0_a 21 rfl
theorem dJ13_bitCount_95d88_28 : decode cJ13_bitCount_95d88 28 = .ok (.ladd, 1) := dkAt dk18bpub_cJ13_bitCount_95d88_0_a 22 rfl
theorem dJ13_bitCount_95d88_29 : decode cJ13_bitCount_95d88 29 = .ok (.ldc2_w 318, 3) := dkAt dk18bpub_cJ13_bitCount_95d88_0_a 23 rfl
theorem dJ13_bitCount_95d88_32 : decode cJ13_bitCount_95d88 32 = .ok (.land, 1) := dkAt dk18bpub_cJ13_bitCount_95d88_0_a 24 rfl
theorem dJ13_bitCount_95d88_33 : decode cJ13_bitCount_95d88 33 = .ok (.lstore_n 0, 1) := dkAt dk18bpub_cJ13_bitCount_95d88_0_a 25 rfl
theorem dJ13_bitCount_95d88_34 : decode cJ13_bitCount_95d88 34 = .ok (.lload_n 0, 1) := dkAt dk18bpub_cJ13_bitCount_95d88_0_a 26 rfl
theorem dJ13_bitCount_95d88_35 : decode cJ13_bitCount_95d88 35 = .ok (.lload_n 0, 1) := dkAt dk18bpub_cJ13_bitCount_95d88_0_a 27 rfl
theorem dJ13_bitCount_95d88_36 : decode cJ13_bitCount_95d88 36 = .ok (.bipush 8, 2) := dkAt dk18bpub_cJ13_bitCount_95d88_0_a 28 rfl
theorem dJ13_bitCount_95d88_38 : decode cJ13_bitCount_95d88 38 = .ok (.lushr, 1) := dkAt dk18bpub_cJ13_bitCount_95d88_0_a 29 rfl
theorem dJ13_bitCount_95d88_39 : decode cJ13_bitCount_95d88 39 = .ok (.ladd, 1) := dkAt dk18bpub_cJ13_bitCount_95d88_0_a 30 rfl
theorem dJ13_bitCount_95d88_40 : decode cJ13_bitCount_95d88 40 = .ok (.lstore_n 0, 1) := dkAt dk18bpub_cJ13_bitCount_95d88_0_a 31 rfl
theorem dJ13_bitCount_95d88_41 : decode cJ13_bitCount_95d88 41 = .ok (.lload_n 0, 1) := dkAt dk18bpub_cJ13_bitCount_95d88_0_a 32 rfl
theorem dJ13_bitCount_95d88_42 : decode cJ13_bitCount_95d88 42 = .ok (.lload_n 0, 1) := dkAt dk18bpub_cJ13_bitCount_95d88_0_a 33 rfl
theorem dJ13_bitCount_95d88_43 : decode cJ13_bitCount_95d88 43 = .ok (.bipush 16, 2) := dkAt dk18bpub_cJ13_bitCount_95d88_0_a 34 rfl
theorem dJ13_bitCount_95d88_45 : decode cJ13_bitCount_95d88 45 = .ok (.lushr, 1) := dkAt dk18bpub_cJ13_bitCount_95d88_0_a 35 rfl
theorem dJ13_bitCount_95d88_46 : decode cJ13_bitCount_95d88 46 = .ok (.ladd, 1) := dkAt dk18bpub_cJ13_bitCount_95d88_0_a 36 rfl
theorem dJ13_bitCount_95d88_47 : decode cJ13_bitCount_95d88 47 = .ok (.lstore_n 0, 1) := dkAt dk18bpub_cJ13_bitCount_95d88_0_a 37 rfl
theorem dJ13_bitCount_95d88_48 : decode cJ13_bitCount_95d88 48 = .ok (.lload_n 0, 1) := dkAt dk18bpub_cJ13_bitCount_95d88_0_a 38 rfl
theorem dJ13_bitCount_95d88_49 : decode cJ13_bitCount_95d88 49 = .ok (.lload_n 0, 1) := dkAt dk18bpub_cJ13_bitCount_95d88_0_a 39 rfl
noncomputable def dk18bpub_cJ13_bitCount_95d88_40 : List (Nat × Instr × Nat) := [(50, .bipush 32, 2), (52, .lushr, 1), (53, .ladd, 1), (54, .lstore_n 0, 1), (55, .lload_n 0, 1), (56, .l2i, 1), (57, .bipush 127, 2), (59, .iand, 1), (60, .ireturn, 1)]
set_option maxRecDepth 100000 in
theorem dk18bpub_cJ13_bitCount_95d88_40_a : dkA cJ13_bitCount_95d88 dk18bpub_cJ13_bitCount_95d88_40 = true := by decide +kernel
theorem dJ13_bitCount_95d88_50 : decode cJ13_bitCount_95d88 50 = .ok (.bipush 32, 2) := dkAt dk18bpub_cJ13_bitCount_95d88_40_a 0 rfl
theorem dJ13_bitCount_95d88_52 : decode cJ13_bitCount_95d88 52 = .ok (.lushr, 1) := dkAt dk18bpub_cJ13_bitCount_95d88_40_a 1 rfl
theorem dJ13_bitCount_95d88_53 : decode cJ13_bitCount_95d88 53 = .ok (.ladd, 1) := dkAt dk18bpub_cJ13_bitCount_95d88_40_a 2 rfl
theorem dJ13_bitCount_95d88_54 : decode cJ13_bitCount_95d88 54 = .ok (.lstore_n 0, 1) := dkAt dk18bpub_cJ13_bitCount_95d88_40_a 3 rfl
theorem dJ13_bitCount_95d88_55 : decode cJ13_bitCount_95d88 55 = .ok (.lload_n 0, 1) := dkAt dk18bpub_cJ13_bitCount_95d88_40_a 4 rfl
theorem dJ13_bitCount_95d88_56 : decode cJ13_bitCount_95d88 56 = .ok (.l2i, 1) := dkAt dk18bpub_cJ13_bitCount_95d88_40_a 5 rfl
theorem dJ13_bitCount_95d88_57 : decode cJ13_bitCount_95d88 57 = .ok (.bipush 127, 2) := dkAt dk18bpub_cJ13_bitCount_95d88_40_a 6 rfl
theorem dJ13_bitCount_95d88_59 : decode cJ13_bitCount_95d88 59 = .ok (.iand, 1) := dkAt dk18bpub_cJ13_bitCount_95d88_40_a 7 rfl
theorem dJ13_bitCount_95d88_60 : decode cJ13_bitCount_95d88 60 = .ok (.ireturn, 1) := dkAt dk18bpub_cJ13_bitCount_95d88_40_a 8 rfl
noncomputable def dk18bpub_cX11_edges_0 : List (Nat × Instr × Nat) := [(0, .lload_n 1, 1), (1, .ldc2_w 71, 3), (4, .land, 1), (5, .lconst 0, 1), (6, .lcmp, 1), (7, .ifCond .eq 6, 3), (13, .aload_n 0, 1), (14, .getfield 14, 3), (17, .getfield 73, 3), (20, .invokestatic 77, 3), (23, .istore_n 3, 1), (24, .aload_n 0, 1), (25, .getfield 14, 3), (28, .lload_n 1, 1), (29, .putfield 73, 3), (32, .iload_n 3, 1), (33, .ireturn, 1), (10, .bipush (-2), 2), (12, .ireturn, 1)]
set_option maxRecDepth 100000 in
theorem dk18bpub_cX11_edges_0_a : dkA cX11_edges dk18bpub_cX11_edges_0 = true := by decide +kernel
theorem dX11_edges_0 : decode cX11_edges 0 = .ok (.lload_n 1, 1) := dkAt dk18bpub_cX11_edges_0_a 0 rfl
theorem dX11_edges_1 : decode cX11_edges 1 = .ok (.ldc2_w 71, 3) := dkAt dk18bpub_cX11_edges_0_a 1 rfl
theorem dX11_edges_4 : decode cX11_edges 4 = .ok (.land, 1) := dkAt dk18bpub_cX11_edges_0_a 2 rfl
theorem dX11_edges_5 : decode cX11_edges 5 = .ok (.lconst 0, 1) := dkAt dk18bpub_cX11_edges_0_a 3 rfl
theorem dX11_edges_6 : decode cX11_edges 6 = .ok (.lcmp, 1) := dkAt dk18bpub_cX11_edges_0_a 4 rfl
theorem dX11_edges_7 : decode cX11_edges 7 = .ok (.ifCond .eq 6, 3) := dkAt dk18bpub_cX11_edges_0_a 5 rfl
theorem dX11_edges_13 : decode cX11_edges 13 = .ok (.aload_n 0, 1) := dkAt dk18bpub_cX11_edges_0_a 6 rfl
theorem dX11_edges_14 : decode cX11_edges 14 = .ok (.getfield 14, 3) := dkAt dk18bpub_cX11_edges_0_a 7 rfl
theorem dX11_edges_17 : decode cX11_edges 17 = .ok (.getfield 73, 3) := dkAt dk18bpub_cX11_edges_0_a 8 rfl
theorem dX11_edges_20 : decode cX11_edges 20 = .ok (.invokestatic 77, 3) := dkAt dk18bpub_cX11_edges_0_a 9 rfl
theorem dX11_edges_23 : decode cX11_edges 23 = .ok (.istore_n 3, 1) := dkAt dk18bpub_cX11_edges_0_a 10 rfl
theorem dX11_edges_24 : decode cX11_edges 24 = .ok (.aload_n 0, 1) := dkAt dk18bpub_cX11_edges_0_a 11 rfl
theorem dX11_edges_25 : decode cX11_edges 25 = .ok (.getfield 14, 3) := dkAt dk18bpub_cX11_edges_0_a 12 rfl
theorem dX11_edges_28 : decode cX11_edges 28 = .ok (.lload_n 1, 1) := dkAt dk18bpub_cX11_edges_0_a 13 rfl
theorem dX11_edges_29 : decode cX11_edges 29 = .ok (.putfield 73, 3) := dkAt dk18bpub_cX11_edges_0_a 14 rfl
theorem dX11_edges_32 : decode cX11_edges 32 = .ok (.iload_n 3, 1) := dkAt dk18bpub_cX11_edges_0_a 15 rfl
theorem dX11_edges_33 : decode cX11_edges 33 = .ok (.ireturn, 1) := dkAt dk18bpub_cX11_edges_0_a 16 rfl
theorem dX11_edges_10 : decode cX11_edges 10 = .ok (.bipush (-2), 2) := dkAt dk18bpub_cX11_edges_0_a 17 rfl
theorem dX11_edges_12 : decode cX11_edges 12 = .ok (.ireturn, 1) := dkAt dk18bpub_cX11_edges_0_a 18 rfl
noncomputable def dk18bpub_cX11_told_0 : List (Nat × Instr × Nat) := [(0, .iload_n 1, 1), (1, .tableswitch 69 0 3 #[31, 39, 47, 58], 31), (32, .aload_n 0, 1), (33, .getfield 14, 3), (36, .getfield 85, 3), (39, .ireturn, 1), (40, .aload_n 0, 1), (41, .getfield 14, 3), (44, .getfield 88, 3), (47, .ireturn, 1), (48, .aload_n 0, 1), (49, .getfield 14, 3), (52, .getfield 68, 3), (55, .getfield 91, 3), (58, .ireturn, 1), (59, .aload_n 0, 1), (60, .getfield 14, 3), (63, .getfield 73, 3), (66, .invokestatic 77, 3), (69, .ireturn, 1), (70, .iconst (-1), 1), (71, .ireturn, 1)]
set_option maxRecDepth 100000 in
theorem dk18bpub_cX11_told_0_a : dkA cX11_told dk18bpub_cX11_told_0 = true := by decide +kernel
theorem dX11_told_0 : decode cX11_told 0 = .ok (.iload_n 1, 1) := dkAt dk18bpub_cX11_told_0_a 0 rfl
theorem dX11_told_1 : decode cX11_told 1 = .ok (.tableswitch 69 0 3 #[31, 39, 47, 58], 31) := dkAt dk18bpub_cX11_told_0_a 1 rfl
theorem dX11_told_32 : decode cX11_told 32 = .ok (.aload_n 0, 1) := dkAt dk18bpub_cX11_told_0_a 2 rfl
theorem dX11_told_33 : decode cX11_told 33 = .ok (.getfield 14, 3) := dkAt dk18bpub_cX11_told_0_a 3 rfl
theorem dX11_told_36 : decode cX11_told 36 = .ok (.getfield 85, 3) := dkAt dk18bpub_cX11_told_0_a 4 rfl
theorem dX11_told_39 : decode cX11_told 39 = .ok (.ireturn, 1) := dkAt dk18bpub_cX11_told_0_a 5 rfl
theorem dX11_told_40 : decode cX11_told 40 = .ok (.aload_n 0, 1) := dkAt dk18bpub_cX11_told_0_a 6 rfl
theorem dX11_told_41 : decode cX11_told 41 = .ok (.getfield 14, 3) := dkAt dk18bpub_cX11_told_0_a 7 rfl
theorem dX11_told_44 : decode cX11_told 44 = .ok (.getfield 88, 3) := dkAt dk18bpub_cX11_told_0_a 8 rfl
theorem dX11_told_47 : decode cX11_told 47 = .ok (.ireturn, 1) := dkAt dk18bpub_cX11_told_0_a 9 rfl
theorem dX11_told_48 : decode cX11_told 48 = .ok (.aload_n 0, 1) := dkAt dk18bpub_cX11_told_0_a 10 rfl
theorem dX11_told_49 : decode cX11_told 49 = .ok (.getfield 14, 3) := dkAt dk18bpub_cX11_told_0_a 11 rfl
theorem dX11_told_52 : decode cX11_told 52 = .ok (.getfield 68, 3) := dkAt dk18bpub_cX11_told_0_a 12 rfl
theorem dX11_told_55 : decode cX11_told 55 = .ok (.getfield 91, 3) := dkAt dk18bpub_cX11_told_0_a 13 rfl
theorem dX11_told_58 : decode cX11_told 58 = .ok (.ireturn, 1) := dkAt dk18bpub_cX11_told_0_a 14 rfl
theorem dX11_told_59 : decode cX11_told 59 = .ok (.aload_n 0, 1) := dkAt dk18bpub_cX11_told_0_a 15 rfl
theorem dX11_told_60 : decode cX11_told 60 = .ok (.getfield 14, 3) := dkAt dk18bpub_cX11_told_0_a 16 rfl
theorem dX11_told_63 : decode cX11_told 63 = .ok (.getfield 73, 3) := dkAt dk18bpub_cX11_told_0_a 17 rfl
theorem dX11_told_66 : decode cX11_told 66 = .ok (.invokestatic 77, 3) := dkAt dk18bpub_cX11_told_0_a 18 rfl
theorem dX11_told_69 : decode cX11_told 69 = .ok (.ireturn, 1) := dkAt dk18bpub_cX11_told_0_a 19 rfl
theorem dX11_told_70 : decode cX11_told 70 = .ok (.iconst (-1), 1) := dkAt dk18bpub_cX11_told_0_a 20 rfl
theorem dX11_told_71 : decode cX11_told 71 = .ok (.ireturn, 1) := dkAt dk18bpub_cX11_told_0_a 21 rfl
noncomputable def dk18bpub_cX11_set_0 : List (Nat × Instr × Nat) := [(0, .iload_n 1, 1), (1, .ifCond .lt 8, 3), (9, .iconst (-1), 1), (10, .ireturn, 1), (4, .iload_n 1, 1), (5, .iconst 1, 1), (6, .if_icmp .le 5, 3), (11, .iload_n 2, 1), (12, .ifCond .lt 9, 3), (21, .bipush (-2), 2), (23, .ireturn, 1), (15, .iload_n 2, 1), (16, .bipush 9, 2), (18, .if_icmp .le 6, 3), (24, .aload_n 0, 1), (25, .iload_n 1, 1), (26, .invokevirtual 81, 3), (29, .istore_n 3, 1), (30, .iload_n 1, 1), (31, .ifCond .ne 14, 3), (34, .aload_n 0, 1), (35, .getfield 14, 3), (38, .iload_n 2, 1), (39, .putfield 85, 3), (42, .goto 11, 3), (53, .iload_n 3, 1), (54, .ireturn, 1), (45, .aload_n 0, 1), (46, .getfield 14, 3), (49, .iload_n 2, 1), (50, .putfield 88, 3)]
set_option maxRecDepth 100000 in
theorem dk18bpub_cX11_set_0_a : dkA cX11_set dk18bpub_cX11_set_0 = true := by decide +kernel
theorem dX11_set_0 : decode cX11_set 0 = .ok (.iload_n 1, 1) := dkAt dk18bpub_cX11_set_0_a 0 rfl
theorem dX11_set_1 : decode cX11_set 1 = .ok (.ifCond .lt 8, 3) := dkAt dk18bpub_cX11_set_0_a 1 rfl
theorem dX11_set_9 : decode cX11_set 9 = .ok (.iconst (-1), 1) := dkAt dk18bpub_cX11_set_0_a 2 rfl
theorem dX11_set_10 : decode cX11_set 10 = .ok (.ireturn, 1) := dkAt dk18bpub_cX11_set_0_a 3 rfl
theorem dX11_set_4 : decode cX11_set 4 = .ok (.iload_n 1, 1) := dkAt dk18bpub_cX11_set_0_a 4 rfl
theorem dX11_set_5 : decode cX11_set 5 = .ok (.iconst 1, 1) := dkAt dk18bpub_cX11_set_0_a 5 rfl
theorem dX11_set_6 : decode cX11_set 6 = .ok (.if_icmp .le 5, 3) := dkAt dk18bpub_cX11_set_0_a 6 rfl
theorem dX11_set_11 : decode cX11_set 11 = .ok (.iload_n 2, 1) := dkAt dk18bpub_cX11_set_0_a 7 rfl
theorem dX11_set_12 : decode cX11_set 12 = .ok (.ifCond .lt 9, 3) := dkAt dk18bpub_cX11_set_0_a 8 rfl
theorem dX11_set_21 : decode cX11_set 21 = .ok (.bipush (-2), 2) := dkAt dk18bpub_cX11_set_0_a 9 rfl
theorem dX11_set_23 : decode cX11_set 23 = .ok (.ireturn, 1) := dkAt dk18bpub_cX11_set_0_a 10 rfl
theorem dX11_set_15 : decode cX11_set 15 = .ok (.iload_n 2, 1) := dkAt dk18bpub_cX11_set_0_a 11 rfl
theorem dX11_set_16 : decode cX11_set 16 = .ok (.bipush 9, 2) := dkAt dk18bpub_cX11_set_0_a 12 rfl
theorem dX11_set_18 : decode cX11_set 18 = .ok (.if_icmp .le 6, 3) := dkAt dk18bpub_cX11_set_0_a 13 rfl
theorem dX11_set_24 : decode cX11_set 24 = .ok (.aload_n 0, 1) := dkAt dk18bpub_cX11_set_0_a 14 rfl
theorem dX11_set_25 : decode cX11_set 25 = .ok (.iload_n 1, 1) := dkAt dk18bpub_cX11_set_0_a 15 rfl
theorem dX11_set_26 : decode cX11_set 26 = .ok (.invokevirtual 81, 3) := dkAt dk18bpub_cX11_set_0_a 16 rfl
theorem dX11_set_29 : decode cX11_set 29 = .ok (.istore_n 3, 1) := dkAt dk18bpub_cX11_set_0_a 17 rfl
theorem dX11_set_30 : decode cX11_set 30 = .ok (.iload_n 1, 1) := dkAt dk18bpub_cX11_set_0_a 18 rfl
theorem dX11_set_31 : decode cX11_set 31 = .ok (.ifCond .ne 14, 3) := dkAt dk18bpub_cX11_set_0_a 19 rfl
theorem dX11_set_34 : decode cX11_set 34 = .ok (.aload_n 0, 1) := dkAt dk18bpub_cX11_set_0_a 20 rfl
theorem dX11_set_35 : decode cX11_set 35 = .ok (.getfield 14, 3) := dkAt dk18bpub_cX11_set_0_a 21 rfl
theorem dX11_set_38 : decode cX11_set 38 = .ok (.iload_n 2, 1) := dkAt dk18bpub_cX11_set_0_a 22 rfl
theorem dX11_set_39 : decode cX11_set 39 = .ok (.putfield 85, 3) := dkAt dk18bpub_cX11_set_0_a 23 rfl
theorem dX11_set_42 : decode cX11_set 42 = .ok (.goto 11, 3) := dkAt dk18bpub_cX11_set_0_a 24 rfl
theorem dX11_set_53 : decode cX11_set 53 = .ok (.iload_n 3, 1) := dkAt dk18bpub_cX11_set_0_a 25 rfl
theorem dX11_set_54 : decode cX11_set 54 = .ok (.ireturn, 1) := dkAt dk18bpub_cX11_set_0_a 26 rfl
theorem dX11_set_45 : decode cX11_set 45 = .ok (.aload_n 0, 1) := dkAt dk18bpub_cX11_set_0_a 27 rfl
theorem dX11_set_46 : decode cX11_set 46 = .ok (.getfield 14, 3) := dkAt dk18bpub_cX11_set_0_a 28 rfl
theorem dX11_set_49 : decode cX11_set 49 = .ok (.iload_n 2, 1) := dkAt dk18bpub_cX11_set_0_a 29 rfl
theorem dX11_set_50 : decode cX11_set 50 = .ok (.putfield 88, 3) := dkAt dk18bpub_cX11_set_0_a 30 rfl
noncomputable def dk18bpub_cX11_walk_0 : List (Nat × Instr × Nat) := [(0, .iload_n 1, 1), (1, .iconst (-1), 1), (2, .if_icmp .ne 13, 3), (15, .iload_n 1, 1), (16, .ifCond .lt 9, 3), (25, .iconst (-1), 1), (26, .ireturn, 1), (19, .iload_n 1, 1), (20, .bipush 8, 2), (22, .if_icmp .lt 5, 3), (27, .aload_n 0, 1), (28, .getfield 14, 3), (31, .getfield 169, 3), (34, .bipush 6, 2), (36, .if_icmp .lt 6, 3), (42, .aload_n 0, 1), (43, .getfield 14, 3), (46, .getfield 172, 3), (49, .aload_n 0, 1), (50, .getfield 14, 3), (53, .getfield 169, 3), (56, .iload_n 1, 1), (57, .iastore, 1), (58, .aload_n 0, 1), (59, .getfield 14, 3), (62, .dup, 1), (63, .getfield 169, 3), (66, .iconst 1, 1), (67, .iadd, 1), (68, .putfield 169, 3), (71, .aload_n 0, 1), (72, .getfield 14, 3), (75, .getfield 169, 3), (78, .ireturn, 1), (39, .bipush (-4), 2), (41, .ireturn, 1), (5, .aload_n 0, 1), (6, .getfield 14, 3), (9, .iconst 0, 1), (10, .putfield 169, 3)]
set_option maxRecDepth 100000 in
theorem dk18bpub_cX11_walk_0_a : dkA cX11_walk dk18bpub_cX11_walk_0 = true := by decide +kernel
theorem dX11_walk_0 : decode cX11_walk 0 = .ok (.iload_n 1, 1) := dkAt dk18bpub_cX11_walk_0_a 0 rfl
theorem dX11_walk_1 : decode cX11_walk 1 = .ok (.iconst (-1), 1) := dkAt dk18bpub_cX11_walk_0_a 1 rfl
theorem dX11_walk_2 : decode cX11_walk 2 = .ok (.if_icmp .ne 13, 3) := dkAt dk18bpub_cX11_walk_0_a 2 rfl
theorem dX11_walk_15 : decode cX11_walk 15 = .ok (.iload_n 1, 1) := dkAt dk18bpub_cX11_walk_0_a 3 rfl
theorem dX11_walk_16 : decode cX11_walk 16 = .ok (.ifCond .lt 9, 3) := dkAt dk18bpub_cX11_walk_0_a 4 rfl
theorem dX11_walk_25 : decode cX11_walk 25 = .ok (.iconst (-1), 1) := dkAt dk18bpub_cX11_walk_0_a 5 rfl
theorem dX11_walk_26 : decode cX11_walk 26 = .ok (.ireturn, 1) := dkAt dk18bpub_cX11_walk_0_a 6 rfl
theorem dX11_walk_19 : decode cX11_walk 19 = .ok (.iload_n 1, 1) := dkAt dk18bpub_cX11_walk_0_a 7 rfl
theorem dX11_walk_20 : decode cX11_walk 20 = .ok (.bipush 8, 2) := dkAt dk18bpub_cX11_walk_0_a 8 rfl
theorem dX11_walk_22 : decode cX11_walk 22 = .ok (.if_icmp .lt 5, 3) := dkAt dk18bpub_cX11_walk_0_a 9 rfl
theorem dX11_walk_27 : decode cX11_walk 27 = .ok (.aload_n 0, 1) := dkAt dk18bpub_cX11_walk_0_a 10 rfl
theorem dX11_walk_28 : decode cX11_walk 28 = .ok (.getfield 14, 3) := dkAt dk18bpub_cX11_walk_0_a 11 rfl
theorem dX11_walk_31 : decode cX11_walk 31 = .ok (.getfield 169, 3) := dkAt dk18bpub_cX11_walk_0_a 12 rfl
theorem dX11_walk_34 : decode cX11_walk 34 = .ok (.bipush 6, 2) := dkAt dk18bpub_cX11_walk_0_a 13 rfl
theorem dX11_walk_36 : decode cX11_walk 36 = .ok (.if_icmp .lt 6, 3) := dkAt dk18bpub_cX11_walk_0_a 14 rfl
theorem dX11_walk_42 : decode cX11_walk 42 = .ok (.aload_n 0, 1) := dkAt dk18bpub_cX11_walk_0_a 15 rfl
theorem dX11_walk_43 : decode cX11_walk 43 = .ok (.getfield 14, 3) := dkAt dk18bpub_cX11_walk_0_a 16 rfl
theorem dX11_walk_46 : decode cX11_walk 46 = .ok (.getfield 172, 3) := dkAt dk18bpub_cX11_walk_0_a 17 rfl
theorem dX11_walk_49 : decode cX11_walk 49 = .ok (.aload_n 0, 1) := dkAt dk18bpub_cX11_walk_0_a 18 rfl
theorem dX11_walk_50 : decode cX11_walk 50 = .ok (.getfield 14, 3) := dkAt dk18bpub_cX11_walk_0_a 19 rfl
theorem dX11_walk_53 : decode cX11_walk 53 = .ok (.getfield 169, 3) := dkAt dk18bpub_cX11_walk_0_a 20 rfl
theorem dX11_walk_56 : decode cX11_walk 56 = .ok (.iload_n 1, 1) := dkAt dk18bpub_cX11_walk_0_a 21 rfl
theorem dX11_walk_57 : decode cX11_walk 57 = .ok (.iastore, 1) := dkAt dk18bpub_cX11_walk_0_a 22 rfl
theorem dX11_walk_58 : decode cX11_walk 58 = .ok (.aload_n 0, 1) := dkAt dk18bpub_cX11_walk_0_a 23 rfl
theorem dX11_walk_59 : decode cX11_walk 59 = .ok (.getfield 14, 3) := dkAt dk18bpub_cX11_walk_0_a 24 rfl
theorem dX11_walk_62 : decode cX11_walk 62 = .ok (.dup, 1) := dkAt dk18bpub_cX11_walk_0_a 25 rfl
theorem dX11_walk_63 : decode cX11_walk 63 = .ok (.getfield 169, 3) := dkAt dk18bpub_cX11_walk_0_a 26 rfl
theorem dX11_walk_66 : decode cX11_walk 66 = .ok (.iconst 1, 1) := dkAt dk18bpub_cX11_walk_0_a 27 rfl
theorem dX11_walk_67 : decode cX11_walk 67 = .ok (.iadd, 1) := dkAt dk18bpub_cX11_walk_0_a 28 rfl
theorem dX11_walk_68 : decode cX11_walk 68 = .ok (.putfield 169, 3) := dkAt dk18bpub_cX11_walk_0_a 29 rfl
theorem dX11_walk_71 : decode cX11_walk 71 = .ok (.aload_n 0, 1) := dkAt dk18bpub_cX11_walk_0_a 30 rfl
theorem dX11_walk_72 : decode cX11_walk 72 = .ok (.getfield 14, 3) := dkAt dk18bpub_cX11_walk_0_a 31 rfl
theorem dX11_walk_75 : decode cX11_walk 75 = .ok (.getfield 169, 3) := dkAt dk18bpub_cX11_walk_0_a 32 rfl
theorem dX11_walk_78 : decode cX11_walk 78 = .ok (.ireturn, 1) := dkAt dk18bpub_cX11_walk_0_a 33 rfl
theorem dX11_walk_39 : decode cX11_walk 39 = .ok (.bipush (-4), 2) := dkAt dk18bpub_cX11_walk_0_a 34 rfl
theorem dX11_walk_41 : decode cX11_walk 41 = .ok (.ireturn, 1) := dkAt dk18bpub_cX11_walk_0_a 35 rfl
theorem dX11_walk_5 : decode cX11_walk 5 = .ok (.aload_n 0, 1) := dkAt dk18bpub_cX11_walk_0_a 36 rfl
theorem dX11_walk_6 : decode cX11_walk 6 = .ok (.getfield 14, 3) := dkAt dk18bpub_cX11_walk_0_a 37 rfl
theorem dX11_walk_9 : decode cX11_walk 9 = .ok (.iconst 0, 1) := dkAt dk18bpub_cX11_walk_0_a 38 rfl
theorem dX11_walk_10 : decode cX11_walk 10 = .ok (.putfield 169, 3) := dkAt dk18bpub_cX11_walk_0_a 39 rfl
noncomputable def dk18bpub_cX11_walk_40 : List (Nat × Instr × Nat) := [(13, .iconst 0, 1), (14, .ireturn, 1)]
set_option maxRecDepth 100000 in
theorem dk18bpub_cX11_walk_40_a : dkA cX11_walk dk18bpub_cX11_walk_40 = true := by decide +kernel
theorem dX11_walk_13 : decode cX11_walk 13 = .ok (.iconst 0, 1) := dkAt dk18bpub_cX11_walk_40_a 0 rfl
theorem dX11_walk_14 : decode cX11_walk 14 = .ok (.ireturn, 1) := dkAt dk18bpub_cX11_walk_40_a 1 rfl
noncomputable def dk18bpub_cX11_book_0 : List (Nat × Instr × Nat) := [(0, .iload_n 1, 1), (1, .iconst (-1), 1), (2, .if_icmp .ne 13, 3), (15, .aload_n 0, 1), (16, .getfield 14, 3), (19, .iload_n 1, 1), (20, .invokevirtual 112, 3), (23, .ifnonnull 5, 3), (28, .aload_n 0, 1), (29, .getfield 14, 3), (32, .getfield 221, 3), (35, .bipush 12, 2), (37, .if_icmp .lt 6, 3), (43, .aload_n 0, 1), (44, .getfield 14, 3), (47, .getfield 224, 3), (50, .aload_n 0, 1), (51, .getfield 14, 3), (54, .getfield 221, 3), (57, .iload_n 1, 1), (58, .iastore, 1), (59, .aload_n 0, 1), (60, .getfield 14, 3), (63, .dup, 1), (64, .getfield 221, 3), (67, .iconst 1, 1), (68, .iadd, 1), (69, .putfield 221, 3), (72, .aload_n 0, 1), (73, .getfield 14, 3), (76, .getfield 221, 3), (79, .ireturn, 1), (40, .bipush (-4), 2), (42, .ireturn, 1), (26, .iconst (-1), 1), (27, .ireturn, 1), (5, .aload_n 0, 1), (6, .getfield 14, 3), (9, .iconst 0, 1), (10, .putfield 221, 3)]
set_option maxRecDepth 100000 in
theorem dk18bpub_cX11_book_0_a : dkA cX11_book dk18bpub_cX11_book_0 = true := by decide +kernel
theorem dX11_book_0 : decode cX11_book 0 = .ok (.iload_n 1, 1) := dkAt dk18bpub_cX11_book_0_a 0 rfl
theorem dX11_book_1 : decode cX11_book 1 = .ok (.iconst (-1), 1) := dkAt dk18bpub_cX11_book_0_a 1 rfl
theorem dX11_book_2 : decode cX11_book 2 = .ok (.if_icmp .ne 13, 3) := dkAt dk18bpub_cX11_book_0_a 2 rfl
theorem dX11_book_15 : decode cX11_book 15 = .ok (.aload_n 0, 1) := dkAt dk18bpub_cX11_book_0_a 3 rfl
theorem dX11_book_16 : decode cX11_book 16 = .ok (.getfield 14, 3) := dkAt dk18bpub_cX11_book_0_a 4 rfl
theorem dX11_book_19 : decode cX11_book 19 = .ok (.iload_n 1, 1) := dkAt dk18bpub_cX11_book_0_a 5 rfl
theorem dX11_book_20 : decode cX11_book 20 = .ok (.invokevirtual 112, 3) := dkAt dk18bpub_cX11_book_0_a 6 rfl
theorem dX11_book_23 : decode cX11_book 23 = .ok (.ifnonnull 5, 3) := dkAt dk18bpub_cX11_book_0_a 7 rfl
theorem dX11_book_28 : decode cX11_book 28 = .ok (.aload_n 0, 1) := dkAt dk18bpub_cX11_book_0_a 8 rfl
theorem dX11_book_29 : decode cX11_book 29 = .ok (.getfield 14, 3) := dkAt dk18bpub_cX11_book_0_a 9 rfl
theorem dX11_book_32 : decode cX11_book 32 = .ok (.getfield 221, 3) := dkAt dk18bpub_cX11_book_0_a 10 rfl
theorem dX11_book_35 : decode cX11_book 35 = .ok (.bipush 12, 2) := dkAt dk18bpub_cX11_book_0_a 11 rfl
theorem dX11_book_37 : decode cX11_book 37 = .ok (.if_icmp .lt 6, 3) := dkAt dk18bpub_cX11_book_0_a 12 rfl
theorem dX11_book_43 : decode cX11_book 43 = .ok (.aload_n 0, 1) := dkAt dk18bpub_cX11_book_0_a 13 rfl
theorem dX11_book_44 : decode cX11_book 44 = .ok (.getfield 14, 3) := dkAt dk18bpub_cX11_book_0_a 14 rfl
theorem dX11_book_47 : decode cX11_book 47 = .ok (.getfield 224, 3) := dkAt dk18bpub_cX11_book_0_a 15 rfl
theorem dX11_book_50 : decode cX11_book 50 = .ok (.aload_n 0, 1) := dkAt dk18bpub_cX11_book_0_a 16 rfl
theorem dX11_book_51 : decode cX11_book 51 = .ok (.getfield 14, 3) := dkAt dk18bpub_cX11_book_0_a 17 rfl
theorem dX11_book_54 : decode cX11_book 54 = .ok (.getfield 221, 3) := dkAt dk18bpub_cX11_book_0_a 18 rfl
theorem dX11_book_57 : decode cX11_book 57 = .ok (.iload_n 1, 1) := dkAt dk18bpub_cX11_book_0_a 19 rfl
theorem dX11_book_58 : decode cX11_book 58 = .ok (.iastore, 1) := dkAt dk18bpub_cX11_book_0_a 20 rfl
theorem dX11_book_59 : decode cX11_book 59 = .ok (.aload_n 0, 1) := dkAt dk18bpub_cX11_book_0_a 21 rfl
theorem dX11_book_60 : decode cX11_book 60 = .ok (.getfield 14, 3) := dkAt dk18bpub_cX11_book_0_a 22 rfl
theorem dX11_book_63 : decode cX11_book 63 = .ok (.dup, 1) := dkAt dk18bpub_cX11_book_0_a 23 rfl
theorem dX11_book_64 : decode cX11_book 64 = .ok (.getfield 221, 3) := dkAt dk18bpub_cX11_book_0_a 24 rfl
theorem dX11_book_67 : decode cX11_book 67 = .ok (.iconst 1, 1) := dkAt dk18bpub_cX11_book_0_a 25 rfl
theorem dX11_book_68 : decode cX11_book 68 = .ok (.iadd, 1) := dkAt dk18bpub_cX11_book_0_a 26 rfl
theorem dX11_book_69 : decode cX11_book 69 = .ok (.putfield 221, 3) := dkAt dk18bpub_cX11_book_0_a 27 rfl
theorem dX11_book_72 : decode cX11_book 72 = .ok (.aload_n 0, 1) := dkAt dk18bpub_cX11_book_0_a 28 rfl
theorem dX11_book_73 : decode cX11_book 73 = .ok (.getfield 14, 3) := dkAt dk18bpub_cX11_book_0_a 29 rfl
theorem dX11_book_76 : decode cX11_book 76 = .ok (.getfield 221, 3) := dkAt dk18bpub_cX11_book_0_a 30 rfl
theorem dX11_book_79 : decode cX11_book 79 = .ok (.ireturn, 1) := dkAt dk18bpub_cX11_book_0_a 31 rfl
theorem dX11_book_40 : decode cX11_book 40 = .ok (.bipush (-4), 2) := dkAt dk18bpub_cX11_book_0_a 32 rfl
theorem dX11_book_42 : decode cX11_book 42 = .ok (.ireturn, 1) := dkAt dk18bpub_cX11_book_0_a 33 rfl
theorem dX11_book_26 : decode cX11_book 26 = .ok (.iconst (-1), 1) := dkAt dk18bpub_cX11_book_0_a 34 rfl
theorem dX11_book_27 : decode cX11_book 27 = .ok (.ireturn, 1) := dkAt dk18bpub_cX11_book_0_a 35 rfl
theorem dX11_book_5 : decode cX11_book 5 = .ok (.aload_n 0, 1) := dkAt dk18bpub_cX11_book_0_a 36 rfl
theorem dX11_book_6 : decode cX11_book 6 = .ok (.getfield 14, 3) := dkAt dk18bpub_cX11_book_0_a 37 rfl
theorem dX11_book_9 : decode cX11_book 9 = .ok (.iconst 0, 1) := dkAt dk18bpub_cX11_book_0_a 38 rfl
theorem dX11_book_10 : decode cX11_book 10 = .ok (.putfield 221, 3) := dkAt dk18bpub_cX11_book_0_a 39 rfl
noncomputable def dk18bpub_cX11_book_40 : List (Nat × Instr × Nat) := [(13, .iconst 0, 1), (14, .ireturn, 1)]
set_option maxRecDepth 100000 in
theorem dk18bpub_cX11_book_40_a : dkA cX11_book dk18bpub_cX11_book_40 = true := by decide +kernel
theorem dX11_book_13 : decode cX11_book 13 = .ok (.iconst 0, 1) := dkAt dk18bpub_cX11_book_40_a 0 rfl
theorem dX11_book_14 : decode cX11_book 14 = .ok (.ireturn, 1) := dkAt dk18bpub_cX11_book_40_a 1 rfl
noncomputable def dk18bpub_cX11_of_0 : List (Nat × Instr × Nat) := [(0, .aload_n 0, 1), (1, .getfield 14, 3), (4, .iload_n 1, 1), (5, .invokevirtual 112, 3), (8, .astore_n 3, 1), (9, .aload_n 3, 1), (10, .ifnonnull 5, 3), (15, .iload_n 2, 1), (16, .tableswitch 63 0 3 #[32, 37, 42, 47], 32), (48, .aload_n 3, 1), (49, .getfield 116, 3), (52, .ireturn, 1), (53, .aload_n 3, 1), (54, .getfield 121, 3), (57, .ireturn, 1), (58, .aload_n 3, 1), (59, .getfield 124, 3), (62, .ireturn, 1), (63, .aload_n 0, 1), (64, .getfield 14, 3), (67, .aload_n 3, 1), (68, .aload_n 0, 1), (69, .getfield 14, 3), (72, .getfield 88, 3), (75, .invokevirtual 127, 3), (78, .ireturn, 1), (79, .iconst (-1), 1), (80, .ireturn, 1), (13, .iconst (-1), 1), (14, .ireturn, 1)]
set_option maxRecDepth 100000 in
theorem dk18bpub_cX11_of_0_a : dkA cX11_of dk18bpub_cX11_of_0 = true := by decide +kernel
theorem dX11_of_0 : decode cX11_of 0 = .ok (.aload_n 0, 1) := dkAt dk18bpub_cX11_of_0_a 0 rfl
theorem dX11_of_1 : decode cX11_of 1 = .ok (.getfield 14, 3) := dkAt dk18bpub_cX11_of_0_a 1 rfl
theorem dX11_of_4 : decode cX11_of 4 = .ok (.iload_n 1, 1) := dkAt dk18bpub_cX11_of_0_a 2 rfl
theorem dX11_of_5 : decode cX11_of 5 = .ok (.invokevirtual 112, 3) := dkAt dk18bpub_cX11_of_0_a 3 rfl
theorem dX11_of_8 : decode cX11_of 8 = .ok (.astore_n 3, 1) := dkAt dk18bpub_cX11_of_0_a 4 rfl
theorem dX11_of_9 : decode cX11_of 9 = .ok (.aload_n 3, 1) := dkAt dk18bpub_cX11_of_0_a 5 rfl
theorem dX11_of_10 : decode cX11_of 10 = .ok (.ifnonnull 5, 3) := dkAt dk18bpub_cX11_of_0_a 6 rfl
theorem dX11_of_15 : decode cX11_of 15 = .ok (.iload_n 2, 1) := dkAt dk18bpub_cX11_of_0_a 7 rfl
theorem dX11_of_16 : decode cX11_of 16 = .ok (.tableswitch 63 0 3 #[32, 37, 42, 47], 32) := dkAt dk18bpub_cX11_of_0_a 8 rfl
theorem dX11_of_48 : decode cX11_of 48 = .ok (.aload_n 3, 1) := dkAt dk18bpub_cX11_of_0_a 9 rfl
theorem dX11_of_49 : decode cX11_of 49 = .ok (.getfield 116, 3) := dkAt dk18bpub_cX11_of_0_a 10 rfl
theorem dX11_of_52 : decode cX11_of 52 = .ok (.ireturn, 1) := dkAt dk18bpub_cX11_of_0_a 11 rfl
theorem dX11_of_53 : decode cX11_of 53 = .ok (.aload_n 3, 1) := dkAt dk18bpub_cX11_of_0_a 12 rfl
theorem dX11_of_54 : decode cX11_of 54 = .ok (.getfield 121, 3) := dkAt dk18bpub_cX11_of_0_a 13 rfl
theorem dX11_of_57 : decode cX11_of 57 = .ok (.ireturn, 1) := dkAt dk18bpub_cX11_of_0_a 14 rfl
theorem dX11_of_58 : decode cX11_of 58 = .ok (.aload_n 3, 1) := dkAt dk18bpub_cX11_of_0_a 15 rfl
theorem dX11_of_59 : decode cX11_of 59 = .ok (.getfield 124, 3) := dkAt dk18bpub_cX11_of_0_a 16 rfl
theorem dX11_of_62 : decode cX11_of 62 = .ok (.ireturn, 1) := dkAt dk18bpub_cX11_of_0_a 17 rfl
theorem dX11_of_63 : decode cX11_of 63 = .ok (.aload_n 0, 1) := dkAt dk18bpub_cX11_of_0_a 18 rfl
theorem dX11_of_64 : decode cX11_of 64 = .ok (.getfield 14, 3) := dkAt dk18bpub_cX11_of_0_a 19 rfl
theorem dX11_of_67 : decode cX11_of 67 = .ok (.aload_n 3, 1) := dkAt dk18bpub_cX11_of_0_a 20 rfl
theorem dX11_of_68 : decode cX11_of 68 = .ok (.aload_n 0, 1) := dkAt dk18bpub_cX11_of_0_a 21 rfl
theorem dX11_of_69 : decode cX11_of 69 = .ok (.getfield 14, 3) := dkAt dk18bpub_cX11_of_0_a 22 rfl
theorem dX11_of_72 : decode cX11_of 72 = .ok (.getfield 88, 3) := dkAt dk18bpub_cX11_of_0_a 23 rfl
theorem dX11_of_75 : decode cX11_of 75 = .ok (.invokevirtual 127, 3) := dkAt dk18bpub_cX11_of_0_a 24 rfl
theorem dX11_of_78 : decode cX11_of 78 = .ok (.ireturn, 1) := dkAt dk18bpub_cX11_of_0_a 25 rfl
theorem dX11_of_79 : decode cX11_of 79 = .ok (.iconst (-1), 1) := dkAt dk18bpub_cX11_of_0_a 26 rfl
theorem dX11_of_80 : decode cX11_of 80 = .ok (.ireturn, 1) := dkAt dk18bpub_cX11_of_0_a 27 rfl
theorem dX11_of_13 : decode cX11_of 13 = .ok (.iconst (-1), 1) := dkAt dk18bpub_cX11_of_0_a 28 rfl
theorem dX11_of_14 : decode cX11_of 14 = .ok (.ireturn, 1) := dkAt dk18bpub_cX11_of_0_a 29 rfl
noncomputable def dk18bpub_cX11_sees_0 : List (Nat × Instr × Nat) := [(0, .iload_n 1, 1), (1, .invokestatic 94, 3), (4, .ifCond .ne 5, 3), (9, .aload_n 0, 1), (10, .getfield 35, 3), (13, .aload_n 0, 1), (14, .getfield 14, 3), (17, .aload_n 0, 1), (18, .getfield 14, 3), (21, .getfield 88, 3), (24, .invokevirtual 131, 3), (27, .aload_n 0, 1), (28, .getfield 35, 3), (31, .aload_n 0, 1), (32, .getfield 14, 3), (35, .iload_n 1, 1), (36, .invokevirtual 135, 3), (39, .ireturn, 1), (7, .iconst (-1), 1), (8, .ireturn, 1)]
set_option maxRecDepth 100000 in
theorem dk18bpub_cX11_sees_0_a : dkA cX11_sees dk18bpub_cX11_sees_0 = true := by decide +kernel
theorem dX11_sees_0 : decode cX11_sees 0 = .ok (.iload_n 1, 1) := dkAt dk18bpub_cX11_sees_0_a 0 rfl
theorem dX11_sees_1 : decode cX11_sees 1 = .ok (.invokestatic 94, 3) := dkAt dk18bpub_cX11_sees_0_a 1 rfl
theorem dX11_sees_4 : decode cX11_sees 4 = .ok (.ifCond .ne 5, 3) := dkAt dk18bpub_cX11_sees_0_a 2 rfl
theorem dX11_sees_9 : decode cX11_sees 9 = .ok (.aload_n 0, 1) := dkAt dk18bpub_cX11_sees_0_a 3 rfl
theorem dX11_sees_10 : decode cX11_sees 10 = .ok (.getfield 35, 3) := dkAt dk18bpub_cX11_sees_0_a 4 rfl
theorem dX11_sees_13 : decode cX11_sees 13 = .ok (.aload_n 0, 1) := dkAt dk18bpub_cX11_sees_0_a 5 rfl
theorem dX11_sees_14 : decode cX11_sees 14 = .ok (.getfield 14, 3) := dkAt dk18bpub_cX11_sees_0_a 6 rfl
theorem dX11_sees_17 : decode cX11_sees 17 = .ok (.aload_n 0, 1) := dkAt dk18bpub_cX11_sees_0_a 7 rfl
theorem dX11_sees_18 : decode cX11_sees 18 = .ok (.getfield 14, 3) := dkAt dk18bpub_cX11_sees_0_a 8 rfl
theorem dX11_sees_21 : decode cX11_sees 21 = .ok (.getfield 88, 3) := dkAt dk18bpub_cX11_sees_0_a 9 rfl
theorem dX11_sees_24 : decode cX11_sees 24 = .ok (.invokevirtual 131, 3) := dkAt dk18bpub_cX11_sees_0_a 10 rfl
theorem dX11_sees_27 : decode cX11_sees 27 = .ok (.aload_n 0, 1) := dkAt dk18bpub_cX11_sees_0_a 11 rfl
theorem dX11_sees_28 : decode cX11_sees 28 = .ok (.getfield 35, 3) := dkAt dk18bpub_cX11_sees_0_a 12 rfl
theorem dX11_sees_31 : decode cX11_sees 31 = .ok (.aload_n 0, 1) := dkAt dk18bpub_cX11_sees_0_a 13 rfl
theorem dX11_sees_32 : decode cX11_sees 32 = .ok (.getfield 14, 3) := dkAt dk18bpub_cX11_sees_0_a 14 rfl
theorem dX11_sees_35 : decode cX11_sees 35 = .ok (.iload_n 1, 1) := dkAt dk18bpub_cX11_sees_0_a 15 rfl
theorem dX11_sees_36 : decode cX11_sees 36 = .ok (.invokevirtual 135, 3) := dkAt dk18bpub_cX11_sees_0_a 16 rfl
theorem dX11_sees_39 : decode cX11_sees 39 = .ok (.ireturn, 1) := dkAt dk18bpub_cX11_sees_0_a 17 rfl
theorem dX11_sees_7 : decode cX11_sees 7 = .ok (.iconst (-1), 1) := dkAt dk18bpub_cX11_sees_0_a 18 rfl
theorem dX11_sees_8 : decode cX11_sees 8 = .ok (.ireturn, 1) := dkAt dk18bpub_cX11_sees_0_a 19 rfl
noncomputable def dk18bpub_cX11_where_0 : List (Nat × Instr × Nat) := [(0, .iload_n 1, 1), (1, .ifCond .lt 16, 3), (17, .ldc2_w 139, 3), (20, .lreturn, 1), (4, .iload_n 1, 1), (5, .iconst 1, 1), (6, .aload_n 0, 1), (7, .getfield 14, 3), (10, .getfield 101, 3), (13, .ishl, 1), (14, .if_icmp .lt 7, 3), (21, .aload_n 0, 1), (22, .getfield 35, 3), (25, .aload_n 0, 1), (26, .getfield 14, 3), (29, .aload_n 0, 1), (30, .getfield 14, 3), (33, .getfield 88, 3), (36, .invokevirtual 131, 3), (39, .lconst 0, 1), (40, .lstore_n 2, 1), (41, .iconst 0, 1), (42, .istore 4, 2), (44, .iload 4, 2), (46, .bipush 36, 2), (48, .if_icmp .ge 33, 3), (81, .lload_n 2, 1), (82, .lreturn, 1), (51, .aload_n 0, 1), (52, .getfield 35, 3), (55, .aload_n 0, 1), (56, .getfield 14, 3), (59, .iload 4, 2), (61, .invokevirtual 135, 3), (64, .iload_n 1, 1), (65, .if_icmp .ne 10, 3), (75, .iinc 4 1, 3), (78, .goto (-34), 3), (68, .lload_n 2, 1), (69, .lconst 1, 1)]
set_option maxRecDepth 100000 in
theorem dk18bpub_cX11_where_0_a : dkA cX11_where dk18bpub_cX11_where_0 = true := by decide +kernel
theorem dX11_where_0 : decode cX11_where 0 = .ok (.iload_n 1, 1) := dkAt dk18bpub_cX11_where_0_a 0 rfl
theorem dX11_where_1 : decode cX11_where 1 = .ok (.ifCond .lt 16, 3) := dkAt dk18bpub_cX11_where_0_a 1 rfl
theorem dX11_where_17 : decode cX11_where 17 = .ok (.ldc2_w 139, 3) := dkAt dk18bpub_cX11_where_0_a 2 rfl
theorem dX11_where_20 : decode cX11_where 20 = .ok (.lreturn, 1) := dkAt dk18bpub_cX11_where_0_a 3 rfl
theorem dX11_where_4 : decode cX11_where 4 = .ok (.iload_n 1, 1) := dkAt dk18bpub_cX11_where_0_a 4 rfl
theorem dX11_where_5 : decode cX11_where 5 = .ok (.iconst 1, 1) := dkAt dk18bpub_cX11_where_0_a 5 rfl
theorem dX11_where_6 : decode cX11_where 6 = .ok (.aload_n 0, 1) := dkAt dk18bpub_cX11_where_0_a 6 rfl
theorem dX11_where_7 : decode cX11_where 7 = .ok (.getfield 14, 3) := dkAt dk18bpub_cX11_where_0_a 7 rfl
theorem dX11_where_10 : decode cX11_where 10 = .ok (.getfield 101, 3) := dkAt dk18bpub_cX11_where_0_a 8 rfl
theorem dX11_where_13 : decode cX11_where 13 = .ok (.ishl, 1) := dkAt dk18bpub_cX11_where_0_a 9 rfl
theorem dX11_where_14 : decode cX11_where 14 = .ok (.if_icmp .lt 7, 3) := dkAt dk18bpub_cX11_where_0_a 10 rfl
theorem dX11_where_21 : decode cX11_where 21 = .ok (.aload_n 0, 1) := dkAt dk18bpub_cX11_where_0_a 11 rfl
theorem dX11_where_22 : decode cX11_where 22 = .ok (.getfield 35, 3) := dkAt dk18bpub_cX11_where_0_a 12 rfl
theorem dX11_where_25 : decode cX11_where 25 = .ok (.aload_n 0, 1) := dkAt dk18bpub_cX11_where_0_a 13 rfl
theorem dX11_where_26 : decode cX11_where 26 = .ok (.getfield 14, 3) := dkAt dk18bpub_cX11_where_0_a 14 rfl
theorem dX11_where_29 : decode cX11_where 29 = .ok (.aload_n 0, 1) := dkAt dk18bpub_cX11_where_0_a 15 rfl
theorem dX11_where_30 : decode cX11_where 30 = .ok (.getfield 14, 3) := dkAt dk18bpub_cX11_where_0_a 16 rfl
theorem dX11_where_33 : decode cX11_where 33 = .ok (.getfield 88, 3) := dkAt dk18bpub_cX11_where_0_a 17 rfl
theorem dX11_where_36 : decode cX11_where 36 = .ok (.invokevirtual 131, 3) := dkAt dk18bpub_cX11_where_0_a 18 rfl
theorem dX11_where_39 : decode cX11_where 39 = .ok (.lconst 0, 1) := dkAt dk18bpub_cX11_where_0_a 19 rfl
theorem dX11_where_40 : decode cX11_where 40 = .ok (.lstore_n 2, 1) := dkAt dk18bpub_cX11_where_0_a 20 rfl
theorem dX11_where_41 : decode cX11_where 41 = .ok (.iconst 0, 1) := dkAt dk18bpub_cX11_where_0_a 21 rfl
theorem dX11_where_42 : decode cX11_where 42 = .ok (.istore 4, 2) := dkAt dk18bpub_cX11_where_0_a 22 rfl
theorem dX11_where_44 : decode cX11_where 44 = .ok (.iload 4, 2) := dkAt dk18bpub_cX11_where_0_a 23 rfl
theorem dX11_where_46 : decode cX11_where 46 = .ok (.bipush 36, 2) := dkAt dk18bpub_cX11_where_0_a 24 rfl
theorem dX11_where_48 : decode cX11_where 48 = .ok (.if_icmp .ge 33, 3) := dkAt dk18bpub_cX11_where_0_a 25 rfl
theorem dX11_where_81 : decode cX11_where 81 = .ok (.lload_n 2, 1) := dkAt dk18bpub_cX11_where_0_a 26 rfl
theorem dX11_where_82 : decode cX11_where 82 = .ok (.lreturn, 1) := dkAt dk18bpub_cX11_where_0_a 27 rfl
theorem dX11_where_51 : decode cX11_where 51 = .ok (.aload_n 0, 1) := dkAt dk18bpub_cX11_where_0_a 28 rfl
theorem dX11_where_52 : decode cX11_where 52 = .ok (.getfield 35, 3) := dkAt dk18bpub_cX11_where_0_a 29 rfl
theorem dX11_where_55 : decode cX11_where 55 = .ok (.aload_n 0, 1) := dkAt dk18bpub_cX11_where_0_a 30 rfl
theorem dX11_where_56 : decode cX11_where 56 = .ok (.getfield 14, 3) := dkAt dk18bpub_cX11_where_0_a 31 rfl
theorem dX11_where_59 : decode cX11_where 59 = .ok (.iload 4, 2) := dkAt dk18bpub_cX11_where_0_a 32 rfl
theorem dX11_where_61 : decode cX11_where 61 = .ok (.invokevirtual 135, 3) := dkAt dk18bpub_cX11_where_0_a 33 rfl
theorem dX11_where_64 : decode cX11_where 64 = .ok (.iload_n 1, 1) := dkAt dk18bpub_cX11_where_0_a 34 rfl
theorem dX11_where_65 : decode cX11_where 65 = .ok (.if_icmp .ne 10, 3) := dkAt dk18bpub_cX11_where_0_a 35 rfl
theorem dX11_where_75 : decode cX11_where 75 = .ok (.iinc 4 1, 3) := dkAt dk18bpub_cX11_where_0_a 36 rfl
theorem dX11_where_78 : decode cX11_where 78 = .ok (.goto (-34), 3) := dkAt dk18bpub_cX11_where_0_a 37 rfl
theorem dX11_where_68 : decode cX11_where 68 = .ok (.lload_n 2, 1) := dkAt dk18bpub_cX11_where_0_a 38 rfl
theorem dX11_where_69 : decode cX11_where 69 = .ok (.lconst 1, 1) := dkAt dk18bpub_cX11_where_0_a 39 rfl
noncomputable def dk18bpub_cX11_where_40 : List (Nat × Instr × Nat) := [(70, .iload 4, 2), (72, .lshl, 1), (73, .lor, 1), (74, .lstore_n 2, 1)]
set_option maxRecDepth 100000 in
theorem dk18bpub_cX11_where_40_a : dkA cX11_where dk18bpub_cX11_where_40 = true := by decide +kernel
theorem dX11_where_70 : decode cX11_where 70 = .ok (.iload 4, 2) := dkAt dk18bpub_cX11_where_40_a 0 rfl
theorem dX11_where_72 : decode cX11_where 72 = .ok (.lshl, 1) := dkAt dk18bpub_cX11_where_40_a 1 rfl
theorem dX11_where_73 : decode cX11_where 73 = .ok (.lor, 1) := dkAt dk18bpub_cX11_where_40_a 2 rfl
theorem dX11_where_74 : decode cX11_where 74 = .ok (.lstore_n 2, 1) := dkAt dk18bpub_cX11_where_40_a 3 rfl
noncomputable def dk18bpub_cX11_steps_0 : List (Nat × Instr × Nat) := [(0, .aload_n 0, 1), (1, .getfield 14, 3), (4, .iload_n 1, 1), (5, .iload_n 2, 1), (6, .invokevirtual 141, 3), (9, .ifCond .ne 5, 3), (14, .aload_n 0, 1), (15, .getfield 35, 3), (18, .aload_n 0, 1), (19, .getfield 14, 3), (22, .aload_n 0, 1), (23, .getfield 14, 3), (26, .getfield 88, 3), (29, .invokevirtual 145, 3), (32, .aload_n 0, 1), (33, .getfield 35, 3), (36, .iload_n 1, 1), (37, .iload_n 2, 1), (38, .iconst 0, 1), (39, .invokevirtual 148, 3), (42, .ireturn, 1), (12, .iconst (-1), 1), (13, .ireturn, 1)]
set_option maxRecDepth 100000 in
theorem dk18bpub_cX11_steps_0_a : dkA cX11_steps dk18bpub_cX11_steps_0 = true := by decide +kernel
theorem dX11_steps_0 : decode cX11_steps 0 = .ok (.aload_n 0, 1) := dkAt dk18bpub_cX11_steps_0_a 0 rfl
theorem dX11_steps_1 : decode cX11_steps 1 = .ok (.getfield 14, 3) := dkAt dk18bpub_cX11_steps_0_a 1 rfl
theorem dX11_steps_4 : decode cX11_steps 4 = .ok (.iload_n 1, 1) := dkAt dk18bpub_cX11_steps_0_a 2 rfl
theorem dX11_steps_5 : decode cX11_steps 5 = .ok (.iload_n 2, 1) := dkAt dk18bpub_cX11_steps_0_a 3 rfl
theorem dX11_steps_6 : decode cX11_steps 6 = .ok (.invokevirtual 141, 3) := dkAt dk18bpub_cX11_steps_0_a 4 rfl
theorem dX11_steps_9 : decode cX11_steps 9 = .ok (.ifCond .ne 5, 3) := dkAt dk18bpub_cX11_steps_0_a 5 rfl
theorem dX11_steps_14 : decode cX11_steps 14 = .ok (.aload_n 0, 1) := dkAt dk18bpub_cX11_steps_0_a 6 rfl
theorem dX11_steps_15 : decode cX11_steps 15 = .ok (.getfield 35, 3) := dkAt dk18bpub_cX11_steps_0_a 7 rfl
theorem dX11_steps_18 : decode cX11_steps 18 = .ok (.aload_n 0, 1) := dkAt dk18bpub_cX11_steps_0_a 8 rfl
theorem dX11_steps_19 : decode cX11_steps 19 = .ok (.getfield 14, 3) := dkAt dk18bpub_cX11_steps_0_a 9 rfl
theorem dX11_steps_22 : decode cX11_steps 22 = .ok (.aload_n 0, 1) := dkAt dk18bpub_cX11_steps_0_a 10 rfl
theorem dX11_steps_23 : decode cX11_steps 23 = .ok (.getfield 14, 3) := dkAt dk18bpub_cX11_steps_0_a 11 rfl
theorem dX11_steps_26 : decode cX11_steps 26 = .ok (.getfield 88, 3) := dkAt dk18bpub_cX11_steps_0_a 12 rfl
theorem dX11_steps_29 : decode cX11_steps 29 = .ok (.invokevirtual 145, 3) := dkAt dk18bpub_cX11_steps_0_a 13 rfl
theorem dX11_steps_32 : decode cX11_steps 32 = .ok (.aload_n 0, 1) := dkAt dk18bpub_cX11_steps_0_a 14 rfl
theorem dX11_steps_33 : decode cX11_steps 33 = .ok (.getfield 35, 3) := dkAt dk18bpub_cX11_steps_0_a 15 rfl
theorem dX11_steps_36 : decode cX11_steps 36 = .ok (.iload_n 1, 1) := dkAt dk18bpub_cX11_steps_0_a 16 rfl
theorem dX11_steps_37 : decode cX11_steps 37 = .ok (.iload_n 2, 1) := dkAt dk18bpub_cX11_steps_0_a 17 rfl
theorem dX11_steps_38 : decode cX11_steps 38 = .ok (.iconst 0, 1) := dkAt dk18bpub_cX11_steps_0_a 18 rfl
theorem dX11_steps_39 : decode cX11_steps 39 = .ok (.invokevirtual 148, 3) := dkAt dk18bpub_cX11_steps_0_a 19 rfl
theorem dX11_steps_42 : decode cX11_steps 42 = .ok (.ireturn, 1) := dkAt dk18bpub_cX11_steps_0_a 20 rfl
theorem dX11_steps_12 : decode cX11_steps 12 = .ok (.iconst (-1), 1) := dkAt dk18bpub_cX11_steps_0_a 21 rfl
theorem dX11_steps_13 : decode cX11_steps 13 = .ok (.ireturn, 1) := dkAt dk18bpub_cX11_steps_0_a 22 rfl
noncomputable def dk18bpub_cX11_via_0 : List (Nat × Instr × Nat) := [(0, .aload_n 0, 1), (1, .getfield 14, 3), (4, .iload_n 1, 1), (5, .iload_n 2, 1), (6, .invokevirtual 141, 3), (9, .ifCond .ne 5, 3), (14, .aload_n 0, 1), (15, .getfield 35, 3), (18, .aload_n 0, 1), (19, .getfield 14, 3), (22, .aload_n 0, 1), (23, .getfield 14, 3), (26, .getfield 88, 3), (29, .invokevirtual 145, 3), (32, .aload_n 0, 1), (33, .getfield 35, 3), (36, .iload_n 1, 1), (37, .iload_n 2, 1), (38, .invokevirtual 152, 3), (41, .ireturn, 1), (12, .iconst (-1), 1), (13, .ireturn, 1)]
set_option maxRecDepth 100000 in
theorem dk18bpub_cX11_via_0_a : dkA cX11_via dk18bpub_cX11_via_0 = true := by decide +kernel
theorem dX11_via_0 : decode cX11_via 0 = .ok (.aload_n 0, 1) := dkAt dk18bpub_cX11_via_0_a 0 rfl
theorem dX11_via_1 : decode cX11_via 1 = .ok (.getfield 14, 3) := dkAt dk18bpub_cX11_via_0_a 1 rfl
theorem dX11_via_4 : decode cX11_via 4 = .ok (.iload_n 1, 1) := dkAt dk18bpub_cX11_via_0_a 2 rfl
theorem dX11_via_5 : decode cX11_via 5 = .ok (.iload_n 2, 1) := dkAt dk18bpub_cX11_via_0_a 3 rfl
theorem dX11_via_6 : decode cX11_via 6 = .ok (.invokevirtual 141, 3) := dkAt dk18bpub_cX11_via_0_a 4 rfl
theorem dX11_via_9 : decode cX11_via 9 = .ok (.ifCond .ne 5, 3) := dkAt dk18bpub_cX11_via_0_a 5 rfl
theorem dX11_via_14 : decode cX11_via 14 = .ok (.aload_n 0, 1) := dkAt dk18bpub_cX11_via_0_a 6 rfl
theorem dX11_via_15 : decode cX11_via 15 = .ok (.getfield 35, 3) := dkAt dk18bpub_cX11_via_0_a 7 rfl
theorem dX11_via_18 : decode cX11_via 18 = .ok (.aload_n 0, 1) := dkAt dk18bpub_cX11_via_0_a 8 rfl
theorem dX11_via_19 : decode cX11_via 19 = .ok (.getfield 14, 3) := dkAt dk18bpub_cX11_via_0_a 9 rfl
theorem dX11_via_22 : decode cX11_via 22 = .ok (.aload_n 0, 1) := dkAt dk18bpub_cX11_via_0_a 10 rfl
theorem dX11_via_23 : decode cX11_via 23 = .ok (.getfield 14, 3) := dkAt dk18bpub_cX11_via_0_a 11 rfl
theorem dX11_via_26 : decode cX11_via 26 = .ok (.getfield 88, 3) := dkAt dk18bpub_cX11_via_0_a 12 rfl
theorem dX11_via_29 : decode cX11_via 29 = .ok (.invokevirtual 145, 3) := dkAt dk18bpub_cX11_via_0_a 13 rfl
theorem dX11_via_32 : decode cX11_via 32 = .ok (.aload_n 0, 1) := dkAt dk18bpub_cX11_via_0_a 14 rfl
theorem dX11_via_33 : decode cX11_via 33 = .ok (.getfield 35, 3) := dkAt dk18bpub_cX11_via_0_a 15 rfl
theorem dX11_via_36 : decode cX11_via 36 = .ok (.iload_n 1, 1) := dkAt dk18bpub_cX11_via_0_a 16 rfl
theorem dX11_via_37 : decode cX11_via 37 = .ok (.iload_n 2, 1) := dkAt dk18bpub_cX11_via_0_a 17 rfl
theorem dX11_via_38 : decode cX11_via 38 = .ok (.invokevirtual 152, 3) := dkAt dk18bpub_cX11_via_0_a 18 rfl
theorem dX11_via_41 : decode cX11_via 41 = .ok (.ireturn, 1) := dkAt dk18bpub_cX11_via_0_a 19 rfl
theorem dX11_via_12 : decode cX11_via 12 = .ok (.iconst (-1), 1) := dkAt dk18bpub_cX11_via_0_a 20 rfl
theorem dX11_via_13 : decode cX11_via 13 = .ok (.ireturn, 1) := dkAt dk18bpub_cX11_via_0_a 21 rfl
noncomputable def dk18bpub_cX11_cuts_0 : List (Nat × Instr × Nat) := [(0, .aload_n 0, 1), (1, .getfield 14, 3), (4, .iload_n 1, 1), (5, .iload_n 2, 1), (6, .invokevirtual 141, 3), (9, .ifCond .ne 5, 3), (14, .aload_n 0, 1), (15, .getfield 35, 3), (18, .aload_n 0, 1), (19, .getfield 14, 3), (22, .aload_n 0, 1), (23, .getfield 14, 3), (26, .getfield 88, 3), (29, .invokevirtual 145, 3), (32, .aload_n 0, 1), (33, .getfield 35, 3), (36, .iload_n 1, 1), (37, .iload_n 2, 1), (38, .invokevirtual 156, 3), (41, .ireturn, 1), (12, .iconst (-1), 1), (13, .ireturn, 1)]
set_option maxRecDepth 100000 in
theorem dk18bpub_cX11_cuts_0_a : dkA cX11_cuts dk18bpub_cX11_cuts_0 = true := by decide +kernel
theorem dX11_cuts_0 : decode cX11_cuts 0 = .ok (.aload_n 0, 1) := dkAt dk18bpub_cX11_cuts_0_a 0 rfl
theorem dX11_cuts_1 : decode cX11_cuts 1 = .ok (.getfield 14, 3) := dkAt dk18bpub_cX11_cuts_0_a 1 rfl
theorem dX11_cuts_4 : decode cX11_cuts 4 = .ok (.iload_n 1, 1) := dkAt dk18bpub_cX11_cuts_0_a 2 rfl
theorem dX11_cuts_5 : decode cX11_cuts 5 = .ok (.iload_n 2, 1) := dkAt dk18bpub_cX11_cuts_0_a 3 rfl
theorem dX11_cuts_6 : decode cX11_cuts 6 = .ok (.invokevirtual 141, 3) := dkAt dk18bpub_cX11_cuts_0_a 4 rfl
theorem dX11_cuts_9 : decode cX11_cuts 9 = .ok (.ifCond .ne 5, 3) := dkAt dk18bpub_cX11_cuts_0_a 5 rfl
theorem dX11_cuts_14 : decode cX11_cuts 14 = .ok (.aload_n 0, 1) := dkAt dk18bpub_cX11_cuts_0_a 6 rfl
theorem dX11_cuts_15 : decode cX11_cuts 15 = .ok (.getfield 35, 3) := dkAt dk18bpub_cX11_cuts_0_a 7 rfl
theorem dX11_cuts_18 : decode cX11_cuts 18 = .ok (.aload_n 0, 1) := dkAt dk18bpub_cX11_cuts_0_a 8 rfl
theorem dX11_cuts_19 : decode cX11_cuts 19 = .ok (.getfield 14, 3) := dkAt dk18bpub_cX11_cuts_0_a 9 rfl
theorem dX11_cuts_22 : decode cX11_cuts 22 = .ok (.aload_n 0, 1) := dkAt dk18bpub_cX11_cuts_0_a 10 rfl
theorem dX11_cuts_23 : decode cX11_cuts 23 = .ok (.getfield 14, 3) := dkAt dk18bpub_cX11_cuts_0_a 11 rfl
theorem dX11_cuts_26 : decode cX11_cuts 26 = .ok (.getfield 88, 3) := dkAt dk18bpub_cX11_cuts_0_a 12 rfl
theorem dX11_cuts_29 : decode cX11_cuts 29 = .ok (.invokevirtual 145, 3) := dkAt dk18bpub_cX11_cuts_0_a 13 rfl
theorem dX11_cuts_32 : decode cX11_cuts 32 = .ok (.aload_n 0, 1) := dkAt dk18bpub_cX11_cuts_0_a 14 rfl
theorem dX11_cuts_33 : decode cX11_cuts 33 = .ok (.getfield 35, 3) := dkAt dk18bpub_cX11_cuts_0_a 15 rfl
theorem dX11_cuts_36 : decode cX11_cuts 36 = .ok (.iload_n 1, 1) := dkAt dk18bpub_cX11_cuts_0_a 16 rfl
theorem dX11_cuts_37 : decode cX11_cuts 37 = .ok (.iload_n 2, 1) := dkAt dk18bpub_cX11_cuts_0_a 17 rfl
theorem dX11_cuts_38 : decode cX11_cuts 38 = .ok (.invokevirtual 156, 3) := dkAt dk18bpub_cX11_cuts_0_a 18 rfl
theorem dX11_cuts_41 : decode cX11_cuts 41 = .ok (.ireturn, 1) := dkAt dk18bpub_cX11_cuts_0_a 19 rfl
theorem dX11_cuts_12 : decode cX11_cuts 12 = .ok (.iconst (-1), 1) := dkAt dk18bpub_cX11_cuts_0_a 20 rfl
theorem dX11_cuts_13 : decode cX11_cuts 13 = .ok (.ireturn, 1) := dkAt dk18bpub_cX11_cuts_0_a 21 rfl
noncomputable def hpT (ci : Nat) (k : Int32) : Prop := (ci = 5 ∧ k = 0) ∨ (ci = 6 ∧ k = 1) ∨ (ci = 8 ∧ k = 2) ∨ (ci = 3 ∧ k = 3) ∨ (ci = 12 ∧ k = 4) ∨ (ci = 11 ∧ k = 5) ∨ (ci = 9 ∧ k = 6)
theorem hpT_0 : hpT 5 (0 : Int32) := Or.inl ⟨rfl, rfl⟩
theorem hpT_k0 {ci : Nat} {k : Int32} (h : hpT ci k) (e : ci = 5) : k = 0 := by
  rcases h with ⟨h1, h2⟩ | ⟨h1, h2⟩ | ⟨h1, h2⟩ | ⟨h1, h2⟩ | ⟨h1, h2⟩ | ⟨h1, h2⟩ | ⟨h1, h2⟩
  · exact h2
  · exact absurd (h1.symm.trans e) (by decide)
  · exact absurd (h1.symm.trans e) (by decide)
  · exact absurd (h1.symm.trans e) (by decide)
  · exact absurd (h1.symm.trans e) (by decide)
  · exact absurd (h1.symm.trans e) (by decide)
  · exact absurd (h1.symm.trans e) (by decide)
theorem hpT_1 : hpT 6 (1 : Int32) := Or.inr (Or.inl ⟨rfl, rfl⟩)
theorem hpT_k1 {ci : Nat} {k : Int32} (h : hpT ci k) (e : ci = 6) : k = 1 := by
  rcases h with ⟨h1, h2⟩ | ⟨h1, h2⟩ | ⟨h1, h2⟩ | ⟨h1, h2⟩ | ⟨h1, h2⟩ | ⟨h1, h2⟩ | ⟨h1, h2⟩
  · exact absurd (h1.symm.trans e) (by decide)
  · exact h2
  · exact absurd (h1.symm.trans e) (by decide)
  · exact absurd (h1.symm.trans e) (by decide)
  · exact absurd (h1.symm.trans e) (by decide)
  · exact absurd (h1.symm.trans e) (by decide)
  · exact absurd (h1.symm.trans e) (by decide)
theorem hpT_2 : hpT 8 (2 : Int32) := Or.inr (Or.inr (Or.inl ⟨rfl, rfl⟩))
theorem hpT_k2 {ci : Nat} {k : Int32} (h : hpT ci k) (e : ci = 8) : k = 2 := by
  rcases h with ⟨h1, h2⟩ | ⟨h1, h2⟩ | ⟨h1, h2⟩ | ⟨h1, h2⟩ | ⟨h1, h2⟩ | ⟨h1, h2⟩ | ⟨h1, h2⟩
  · exact absurd (h1.symm.trans e) (by decide)
  · exact absurd (h1.symm.trans e) (by decide)
  · exact h2
  · exact absurd (h1.symm.trans e) (by decide)
  · exact absurd (h1.symm.trans e) (by decide)
  · exact absurd (h1.symm.trans e) (by decide)
  · exact absurd (h1.symm.trans e) (by decide)
theorem hpT_3 : hpT 3 (3 : Int32) := Or.inr (Or.inr (Or.inr (Or.inl ⟨rfl, rfl⟩)))
theorem hpT_k3 {ci : Nat} {k : Int32} (h : hpT ci k) (e : ci = 3) : k = 3 := by
  rcases h with ⟨h1, h2⟩ | ⟨h1, h2⟩ | ⟨h1, h2⟩ | ⟨h1, h2⟩ | ⟨h1, h2⟩ | ⟨h1, h2⟩ | ⟨h1, h2⟩
  · exact absurd (h1.symm.trans e) (by decide)
  · exact absurd (h1.symm.trans e) (by decide)
  · exact absurd (h1.symm.trans e) (by decide)
  · exact h2
  · exact absurd (h1.symm.trans e) (by decide)
  · exact absurd (h1.symm.trans e) (by decide)
  · exact absurd (h1.symm.trans e) (by decide)
theorem hpT_4 : hpT 12 (4 : Int32) := Or.inr (Or.inr (Or.inr (Or.inr (Or.inl ⟨rfl, rfl⟩))))
theorem hpT_k4 {ci : Nat} {k : Int32} (h : hpT ci k) (e : ci = 12) : k = 4 := by
  rcases h with ⟨h1, h2⟩ | ⟨h1, h2⟩ | ⟨h1, h2⟩ | ⟨h1, h2⟩ | ⟨h1, h2⟩ | ⟨h1, h2⟩ | ⟨h1, h2⟩
  · exact absurd (h1.symm.trans e) (by decide)
  · exact absurd (h1.symm.trans e) (by decide)
  · exact absurd (h1.symm.trans e) (by decide)
  · exact absurd (h1.symm.trans e) (by decide)
  · exact h2
  · exact absurd (h1.symm.trans e) (by decide)
  · exact absurd (h1.symm.trans e) (by decide)
theorem hpT_5 : hpT 11 (5 : Int32) := Or.inr (Or.inr (Or.inr (Or.inr (Or.inr (Or.inl ⟨rfl, rfl⟩)))))
theorem hpT_k5 {ci : Nat} {k : Int32} (h : hpT ci k) (e : ci = 11) : k = 5 := by
  rcases h with ⟨h1, h2⟩ | ⟨h1, h2⟩ | ⟨h1, h2⟩ | ⟨h1, h2⟩ | ⟨h1, h2⟩ | ⟨h1, h2⟩ | ⟨h1, h2⟩
  · exact absurd (h1.symm.trans e) (by decide)
  · exact absurd (h1.symm.trans e) (by decide)
  · exact absurd (h1.symm.trans e) (by decide)
  · exact absurd (h1.symm.trans e) (by decide)
  · exact absurd (h1.symm.trans e) (by decide)
  · exact h2
  · exact absurd (h1.symm.trans e) (by decide)
theorem hpT_6 : hpT 9 (6 : Int32) := Or.inr (Or.inr (Or.inr (Or.inr (Or.inr (Or.inr (⟨rfl, rfl⟩))))))
theorem hpT_k6 {ci : Nat} {k : Int32} (h : hpT ci k) (e : ci = 9) : k = 6 := by
  rcases h with ⟨h1, h2⟩ | ⟨h1, h2⟩ | ⟨h1, h2⟩ | ⟨h1, h2⟩ | ⟨h1, h2⟩ | ⟨h1, h2⟩ | ⟨h1, h2⟩
  · exact absurd (h1.symm.trans e) (by decide)
  · exact absurd (h1.symm.trans e) (by decide)
  · exact absurd (h1.symm.trans e) (by decide)
  · exact absurd (h1.symm.trans e) (by decide)
  · exact absurd (h1.symm.trans e) (by decide)
  · exact absurd (h1.symm.trans e) (by decide)
  · exact h2
theorem kS0 {k m v x : Int32} (h : k = 0) : x + m = acS k m v x ∧ btS k = [1] := by
  subst h
  exact ⟨acS_0 (by decide) (by decide), btS_0 (by decide) (by decide)⟩
theorem kG0 {k m v x : Int32} (h : k = 0) : (x + m) - v = acG k m v x ∧ btG k = [2, 1] := by
  have q := kS0 (k := k) (m := m) (v := v) (x := x) h
  rw [q.1]
  subst h
  exact ⟨acG_0 (by decide) (by decide), by rw [btG_0 (by decide) (by decide), q.2]⟩
theorem kL0 {k m v x : Int32} (h : k = 0) : ((x + m) - v) * 2 = acL k m v x ∧ btL k = [3, 2, 1] := by
  have q := kG0 (k := k) (m := m) (v := v) (x := x) h
  rw [q.1]
  subst h
  exact ⟨acL_0 (by decide) (by decide), by rw [btL_0 (by decide) (by decide), q.2]⟩
theorem kS1 {k m v x : Int32} (h : k = 1) : x * 3 + m = acS k m v x ∧ btS k = [11, 1] := by
  subst h
  exact ⟨acS_1 (by decide), btS_1 (by decide)⟩
theorem kG1 {k m v x : Int32} (h : k = 1) : (x * 3 + m) - v = acG k m v x ∧ btG k = [2, 11, 1] := by
  have q := kS1 (k := k) (m := m) (v := v) (x := x) h
  rw [q.1]
  subst h
  exact ⟨acG_0 (by decide) (by decide), by rw [btG_0 (by decide) (by decide), q.2]⟩
theorem kL1 {k m v x : Int32} (h : k = 1) : ((x * 3 + m) - v) * 2 = acL k m v x ∧ btL k = [3, 2, 11, 1] := by
  have q := kG1 (k := k) (m := m) (v := v) (x := x) h
  rw [q.1]
  subst h
  exact ⟨acL_0 (by decide) (by decide), by rw [btL_0 (by decide) (by decide), q.2]⟩
theorem kS2 {k m v x : Int32} (h : k = 2) : x + m = acS k m v x ∧ btS k = [1] := by
  subst h
  exact ⟨acS_0 (by decide) (by decide), btS_0 (by decide) (by decide)⟩
theorem kG2 {k m v x : Int32} (h : k = 2) : -((x + m) - v) = acG k m v x ∧ btG k = [21, 2, 1] := by
  have q := kS2 (k := k) (m := m) (v := v) (x := x) h
  rw [q.1]
  subst h
  exact ⟨acG_2 (by decide), by rw [btG_2 (by decide), q.2]⟩
theorem kL2 {k m v x : Int32} (h : k = 2) : (-((x + m) - v)) * 2 = acL k m v x ∧ btL k = [3, 21, 2, 1] := by
  have q := kG2 (k := k) (m := m) (v := v) (x := x) h
  rw [q.1]
  subst h
  exact ⟨acL_0 (by decide) (by decide), by rw [btL_0 (by decide) (by decide), q.2]⟩
theorem kS3 {k m v x : Int32} (h : k = 3) : x + m = acS k m v x ∧ btS k = [1] := by
  subst h
  exact ⟨acS_0 (by decide) (by decide), btS_0 (by decide) (by decide)⟩
theorem kG3 {k m v x : Int32} (h : k = 3) : (x + m) - v = acG k m v x ∧ btG k = [2, 1] := by
  have q := kS3 (k := k) (m := m) (v := v) (x := x) h
  rw [q.1]
  subst h
  exact ⟨acG_0 (by decide) (by decide), by rw [btG_0 (by decide) (by decide), q.2]⟩
theorem kL3 {k m v x : Int32} (h : k = 3) : (((x + m) - v) * 2) ^^^ 7 = acL k m v x ∧ btL k = [31, 3, 2, 1] := by
  have q := kG3 (k := k) (m := m) (v := v) (x := x) h
  rw [q.1]
  subst h
  exact ⟨acL_3 (by decide), by rw [btL_3 (by decide), q.2]⟩
theorem kS4 {k m v x : Int32} (h : k = 4) : x * 3 + m = acS k m v x ∧ btS k = [11, 1] := by
  subst h
  exact ⟨acS_1 (by decide), btS_1 (by decide)⟩
theorem kG4 {k m v x : Int32} (h : k = 4) : (x * 3 + m) - v = acG k m v x ∧ btG k = [2, 11, 1] := by
  have q := kS4 (k := k) (m := m) (v := v) (x := x) h
  rw [q.1]
  subst h
  exact ⟨acG_0 (by decide) (by decide), by rw [btG_0 (by decide) (by decide), q.2]⟩
theorem kL4 {k m v x : Int32} (h : k = 4) : ((((x - 1) * 3 + m) - v) * 2) + (2 * 3 + m) = acL k m v x ∧ btL k = [41, 3, 2, 11, 1, 11, 1] := by
  have q := kG4 (k := k) (m := m) (v := v) (x := x - 1) h
  have q2 := kS4 (k := k) (m := m) (v := v) (x := 2) h
  rw [q.1, q2.1]
  subst h
  exact ⟨acL_4 (by decide) (by decide), by rw [btL_4 (by decide) (by decide), q.2, q2.2]; rfl⟩
theorem kS5 {k m v x : Int32} (h : k = 5) : (x + m) ^^^ m = acS k m v x ∧ btS k = [51, 1] := by
  subst h
  exact ⟨acS_5 (by decide) (by decide), btS_5 (by decide) (by decide)⟩
theorem kG5 {k m v x : Int32} (h : k = 5) : -(((x + m) ^^^ m) - v) = acG k m v x ∧ btG k = [21, 2, 51, 1] := by
  have q := kS5 (k := k) (m := m) (v := v) (x := x) h
  rw [q.1]
  subst h
  exact ⟨acG_2 (by decide), by rw [btG_2 (by decide), q.2]⟩
theorem kL5 {k m v x : Int32} (h : k = 5) : (-(((x + m) ^^^ m) - v)) * 2 = acL k m v x ∧ btL k = [3, 21, 2, 51, 1] := by
  have q := kG5 (k := k) (m := m) (v := v) (x := x) h
  rw [q.1]
  subst h
  exact ⟨acL_0 (by decide) (by decide), by rw [btL_0 (by decide) (by decide), q.2]⟩
theorem kS6 {k m v x : Int32} (h : k = 6) : x + m = acS k m v x ∧ btS k = [1] := by
  subst h
  exact ⟨acS_0 (by decide) (by decide), btS_0 (by decide) (by decide)⟩
theorem kG6 {k m v x : Int32} (h : k = 6) : ((x + m) - v) + v = acG k m v x ∧ btG k = [61, 2, 1] := by
  have q := kS6 (k := k) (m := m) (v := v) (x := x) h
  rw [q.1]
  subst h
  exact ⟨acG_6 (by decide) (by decide), by rw [btG_6 (by decide) (by decide), q.2]⟩
theorem kL6 {k m v x : Int32} (h : k = 6) : ((((x + m) - v) + v) * 2) ^^^ 7 = acL k m v x ∧ btL k = [31, 3, 61, 2, 1] := by
  have q := kG6 (k := k) (m := m) (v := v) (x := x) h
  rw [q.1]
  subst h
  exact ⟨acL_3 (by decide), by rw [btL_3 (by decide), q.2]⟩

theorem kc_xFeed_0 : ∀ w ∈ wsX110, w ∈ wsX11_feed := fun w h => List.mem_cons_of_mem _ (gin_wsX110 w h)
theorem kc_xFeed_1 : (.fieldLink RX11 14 "MistHeaps" "scene" "LMistHeaps$Scene;" : Cond) ∈ wsX11_feed := kc_of 328 rfl rfl rfl
theorem kc_xFeed_2 : ∀ w ∈ wsX80, w ∈ wsX11_feed := fun w h => List.mem_cons_of_mem _ (gin_wsX80 w h)
theorem kc_xFeed_3 : (.fieldLink RX11 53 "MistHeaps$Scene" "tapeSize" "I" : Cond) ∈ wsX11_feed := kc_of 154 rfl rfl rfl
theorem kc_xFeed_4 : (.fieldLink RX11 57 "MistHeaps$Scene" "tape" "[I" : Cond) ∈ wsX11_feed := kc_of 153 rfl rfl rfl
set_option maxHeartbeats 4000000 in
set_option maxRecDepth 100000 in
theorem c_xFeed (l : Launch) (dC : Nat → ClassId) (dI : Nat → Nat → Nat) (h0 : Nat) (sc : Nat) (kp : Nat) (bl : Nat) (go : Nat) (ch : Nat) (bo : Nat) (aTp : Nat) (aHl : Nat) (aHs : Nat) (aWk : Nat) (aBk : Nat) (aFc : Nat) (ts : Nat) (nh : Nat) (n : Nat) (wz : Nat) (bz : Nat) (mi : Int32) (sn : Int32) (ik : Int32) (x : Int32) (ed : Int64) (cTp : ClassId) (fTp : Nat → Int32) (sz : Nat) (hts0 : ts ≤ 100) : Met l yX11_feed wsX11_feed ({ frames := 0, cells := 0, slots := 0, locals := 0 } : Room) (va_Pc [.ref h0, .int x] (fun U => U.heap.size = sz ∧ va_P (dC, dI) vwCl [(zo13rrirrrr h0 sc kp ik bl go ch bo), (zo10ririliiriririr sc aTp (nI ts) aHl (nI nh) ed mi sn aHs (nI n) aWk (nI wz) aBk (nI bz) aFc), (zaI aTp cTp 100 fTp)] U.heap ∧ va_K (dC, dI) vwCl [(cTp, .int)] U ∧ va_D (fun _ => True) [(zo13rrirrrr h0 sc kp ik bl go ch bo), (zo10ririliiriririr sc aTp (nI ts) aHl (nI nh) ed mi sn aHs (nI n) aWk (nI wz) aBk (nI bz) aFc), (zaI aTp cTp 100 fTp)])) (va_Qi (fun (r : Int32) (u : (Nat) × (Nat → Int32)) => match u with | (ts9, fTp9) => ts9 ≤ 100) (fun (u : (Nat) × (Nat → Int32)) (t : State) => match u with | (ts9, fTp9) => va_P (dC, dI) vwCl [(zo13rrirrrr h0 sc kp ik bl go ch bo), (zo10ririliiriririr sc aTp (nI ts9) aHl (nI nh) ed mi sn aHs (nI n) aWk (nI wz) aBk (nI bz) aFc), (zaI aTp cTp 100 fTp9)] t.heap ∧ va_K (dC, dI) vwCl [(cTp, .int)] t ∧ va_D (va_A [(zo13rrirrrr h0 sc kp ik bl go ch bo), (zo10ririliiriririr sc aTp (nI ts) aHl (nI nh) ed mi sn aHs (nI n) aWk (nI wz) aBk (nI bz) aFc), (zaI aTp cTp 100 fTp)] sz) [(zo13rrirrrr h0 sc kp ik bl go ch bo), (zo10ririliiriririr sc aTp (nI ts9) aHl (nI nh) ed mi sn aHs (nI n) aWk (nI wz) aBk (nI bz) aFc), (zaI aTp cTp 100 fTp9)]) (va_A [(zo13rrirrrr h0 sc kp ik bl go ch bo), (zo10ririliiriririr sc aTp (nI ts) aHl (nI nh) ed mi sn aHs (nI n) aWk (nI wz) aBk (nI bz) aFc), (zaI aTp cTp 100 fTp)] sz)) 0 0 (va_A [(zo13rrirrrr h0 sc kp ik bl go ch bo), (zo10ririliiriririr sc aTp (nI ts) aHl (nI nh) ed mi sn aHs (nI n) aWk (nI wz) aBk (nI bz) aFc), (zaI aTp cTp 100 fTp)] sz) := by
  refine met_ofQ (cc := cX11_feed) (maxL := 2) (ret := (some .int)) (by decide) rfl ?_
  intro p e s m args below meth c s₁ Q B hml hv hQ
  obtain ⟨rfl, hsz, hP, hK, hD0⟩ := hv
  have hx := B.exec
  have hb := B.bytes
  have hr := B.returns
  have hts := atoms_spec (ws := wsX11_feed) B.pre
  have hown : s.vm.findClass RX11 = some m.cls := findClass_of_methodNamed B.named
  have hlocks := B.notSynchronized
  subst hsz
  have hD := hD0.self (sz := s.heap.size)
  generalize hAe : va_A [(zo13rrirrrr h0 sc kp ik bl go ch bo), (zo10ririliiriririr sc aTp (nI ts) aHl (nI nh) ed mi sn aHs (nI n) aWk (nI wz) aBk (nI bz) aFc), (zaI aTp cTp 100 fTp)] s.heap.size = A at hD hQ ⊢
  have hA : ∀ q : Nat, s.heap.size ≤ q → A q := fun q h => by rw [← hAe]; exact Or.inr h
  have hS : va_S A s.heap s.heap [] := va_S.rf
  have hl := lv_entry [.ref h0, .int x] (n := 2) (Nat.le_of_ble_eq_true rfl)
  rw [lg_entry_eq]
  generalize (lg_sl [.ref h0, .int x] ++ List.replicate (2 - (lg_sl [.ref h0, .int x]).length) Slot.unset).toArray = ls at hl ⊢
  generalize hag : ([.ref h0, .int x] : List Value).toArray = args at hts hQ ⊢
  have hl : lv_has ls 2 [(0, .ref h0), (1, .int x)] := hl
  obtain ⟨H, hH⟩ : ∃ H : Heap, H = s.heap := ⟨_, rfl⟩
  rw [← hH] at hP
  rw [← hH]
  have hS : va_S A s.heap H [] := by rw [hH]; exact hS
  obtain ⟨locs, hlo⟩ : ∃ L : List Loc, L = [] := ⟨_, rfl⟩
  rw [← hlo] at hS
  rw [← hlo]
  clear hH hlo
  refine lv_iload_n hx hb dX11_feed_0 rfl (lv_at hl 1 rfl) ?_
  refine lv_if_lt (tgt := 10) hx hb dX11_feed_1 (by decide) (fun c_1 => ?_) (fun c_1 => ?_)
  · skip
    refine lv_bipush (v := (-2)) hx hb dX11_feed_10 (by decide) ?_
    rw [hQ]
    have hP9 := hP.sub (ws' := [(zo13rrirrrr h0 sc kp ik bl go ch bo), (zo10ririliiriririr sc aTp (nI ts) aHl (nI nh) ed mi sn aHs (nI n) aWk (nI wz) aBk (nI bz) aFc), (zaI aTp cTp 100 fTp)]) [0, 1, 2] rfl
    have hD9 := hD.sub (ws' := [(zo13rrirrrr h0 sc kp ik bl go ch bo), (zo10ririliiriririr sc aTp (nI ts) aHl (nI nh) ed mi sn aHs (nI n) aWk (nI wz) aBk (nI bz) aFc), (zaI aTp cTp 100 fTp)]) [0, 1, 2] (by decide) rfl
    have hK9 := hK.sub (tys' := [(cTp, .int)]) [0] rfl
    exact W.iret (v := (-2)) hx hb hr (fun tQ htQ hWQ => ⟨⟨(-2), (ts, fTp), rfl, by omega, by rw [htQ]; exact hP9, va_K.moved hWQ.alike hK9, hD9⟩, hS.F htQ⟩) hS.2.2 dX11_feed_12
  · skip
    refine lv_iload_n hx hb dX11_feed_4 rfl (lv_at hl 1 rfl) ?_
    refine lv_bipush (v := 127) hx hb dX11_feed_5 (by decide) ?_
    refine lv_icmp_le (tgt := 13) hx hb dX11_feed_7 (by decide) (fun c_2 => ?_) (fun c_2 => ?_)
    · skip
      refine lv_aload_n hx hb dX11_feed_13 rfl (lv_at hl 0 rfl) ?_
      refine va_get (D := (dC, dI)) (ci := 13) (v := .ref sc) (C := RX11) (T := TX11) (N := 7) hx hb hts kc_xFeed_0 hown hK hP 0 rfl rfl 0 (by decide) (hts (.fieldLink RX11 14 "MistHeaps" "scene" "LMistHeaps$Scene;") kc_xFeed_1) (fun _ h9 => h9) rfl dX11_feed_14 ?_
      refine va_get (D := (dC, dI)) (ci := 10) (v := .int (nI ts)) (C := RX8) (T := TX8) (N := 14) hx hb hts kc_xFeed_2 hown hK hP 1 rfl rfl 1 (by decide) (hts (.fieldLink RX11 53 "MistHeaps$Scene" "tapeSize" "I") kc_xFeed_3) (fun _ h9 => h9) rfl dX11_feed_17 ?_
      refine lv_bipush (v := 100) hx hb dX11_feed_20 (by decide) ?_
      refine lv_icmp_lt (tgt := 28) hx hb dX11_feed_22 (by decide) (fun c_3 => ?_) (fun c_3 => ?_)
      · skip
        have c_3 : ts < 100 := (nI_ltI (a := ts) (b := 100) (by omega) (by omega)).mp c_3
        refine lv_aload_n hx hb dX11_feed_28 rfl (lv_at hl 0 rfl) ?_
        refine va_get (D := (dC, dI)) (ci := 13) (v := .ref sc) (C := RX11) (T := TX11) (N := 7) hx hb hts kc_xFeed_0 hown hK hP 0 rfl rfl 0 (by decide) (hts (.fieldLink RX11 14 "MistHeaps" "scene" "LMistHeaps$Scene;") kc_xFeed_1) (fun _ h9 => h9) rfl dX11_feed_29 ?_
        refine va_get (D := (dC, dI)) (ci := 10) (v := .ref aTp) (C := RX8) (T := TX8) (N := 14) hx hb hts kc_xFeed_2 hown hK hP 1 rfl rfl 0 (by decide) (hts (.fieldLink RX11 57 "MistHeaps$Scene" "tape" "[I") kc_xFeed_4) (fun _ h9 => h9) rfl dX11_feed_32 ?_
        refine lv_aload_n hx hb dX11_feed_35 rfl (lv_at hl 0 rfl) ?_
        refine va_get (D := (dC, dI)) (ci := 13) (v := .ref sc) (C := RX11) (T := TX11) (N := 7) hx hb hts kc_xFeed_0 hown hK hP 0 rfl rfl 0 (by decide) (hts (.fieldLink RX11 14 "MistHeaps" "scene" "LMistHeaps$Scene;") kc_xFeed_1) (fun _ h9 => h9) rfl dX11_feed_36 ?_
        refine va_get (D := (dC, dI)) (ci := 10) (v := .int (nI ts)) (C := RX8) (T := TX8) (N := 14) hx hb hts kc_xFeed_2 hown hK hP 1 rfl rfl 1 (by decide) (hts (.fieldLink RX11 53 "MistHeaps$Scene" "tapeSize" "I") kc_xFeed_3) (fun _ h9 => h9) rfl dX11_feed_39 ?_
        refine lv_iload_n hx hb dX11_feed_42 rfl (lv_at hl 1 rfl) ?_
        refine va_iast hx hb hK hP hD hS 2 0 rfl rfl (vp_in_nI (n := ts) (N := 100) (by omega) (by omega)) dX11_feed_43 (fun H locs hP hD hS => ?_)
        rw [nI_clamp (n := ts) (by omega)] at hP hD
        have hP : va_P (dC, dI) vwCl [(zo13rrirrrr h0 sc kp ik bl go ch bo), (zo10ririliiriririr sc aTp (nI ts) aHl (nI nh) ed mi sn aHs (nI n) aWk (nI wz) aBk (nI bz) aFc), (zaI aTp cTp 100 (upd fTp ts x))] H := hP
        have hD : va_D A [(zo13rrirrrr h0 sc kp ik bl go ch bo), (zo10ririliiriririr sc aTp (nI ts) aHl (nI nh) ed mi sn aHs (nI n) aWk (nI wz) aBk (nI bz) aFc), (zaI aTp cTp 100 (upd fTp ts x))] := hD
        refine lv_aload_n hx hb dX11_feed_44 rfl (lv_at hl 0 rfl) ?_
        refine va_get (D := (dC, dI)) (ci := 13) (v := .ref sc) (C := RX11) (T := TX11) (N := 7) hx hb hts kc_xFeed_0 hown hK hP 0 rfl rfl 0 (by decide) (hts (.fieldLink RX11 14 "MistHeaps" "scene" "LMistHeaps$Scene;") kc_xFeed_1) (fun _ h9 => h9) rfl dX11_feed_45 ?_
        refine lv_dup hx hb dX11_feed_48 rfl ?_
        refine va_get (D := (dC, dI)) (ci := 10) (v := .int (nI ts)) (C := RX8) (T := TX8) (N := 14) hx hb hts kc_xFeed_2 hown hK hP 1 rfl rfl 1 (by decide) (hts (.fieldLink RX11 53 "MistHeaps$Scene" "tapeSize" "I") kc_xFeed_3) (fun _ h9 => h9) rfl dX11_feed_49 ?_
        refine lv_iconst (v := 1) hx hb dX11_feed_52 (by decide) ?_
        refine lv_iadd hx hb dX11_feed_53 ?_
        refine qi_as (y := nI (ts + 1)) (nI_add ts 1) ?_
        refine va_put (D := (dC, dI)) (ci := 10) (v := .int (nI (ts + 1))) (ty := .int) (C := RX8) (T := TX8) (N := 14) hx hb hts kc_xFeed_2 tyX8 tyX8_ok nmX8 hown hK hP hD hS 1 rfl rfl 1 (by decide) (hts (.fieldLink RX11 53 "MistHeaps$Scene" "tapeSize" "I") kc_xFeed_3) (fun _ h9 => h9) rfl (by decide +kernel) rfl rfl (Nat.le_of_ble_eq_true rfl) dX11_feed_54 (fun H locs hP hD hS => ?_)
        have hP : va_P (dC, dI) vwCl [(zo13rrirrrr h0 sc kp ik bl go ch bo), (zo10ririliiriririr sc aTp (nI (ts + 1)) aHl (nI nh) ed mi sn aHs (nI n) aWk (nI wz) aBk (nI bz) aFc), (zaI aTp cTp 100 (upd fTp ts x))] H := hP
        have hD : va_D A [(zo13rrirrrr h0 sc kp ik bl go ch bo), (zo10ririliiriririr sc aTp (nI (ts + 1)) aHl (nI nh) ed mi sn aHs (nI n) aWk (nI wz) aBk (nI bz) aFc), (zaI aTp cTp 100 (upd fTp ts x))] := hD
        refine lv_aload_n hx hb dX11_feed_57 rfl (lv_at hl 0 rfl) ?_
        refine va_get (D := (dC, dI)) (ci := 13) (v := .ref sc) (C := RX11) (T := TX11) (N := 7) hx hb hts kc_xFeed_0 hown hK hP 0 rfl rfl 0 (by decide) (hts (.fieldLink RX11 14 "MistHeaps" "scene" "LMistHeaps$Scene;") kc_xFeed_1) (fun _ h9 => h9) rfl dX11_feed_58 ?_
        refine va_get (D := (dC, dI)) (ci := 10) (v := .int (nI (ts + 1))) (C := RX8) (T := TX8) (N := 14) hx hb hts kc_xFeed_2 hown hK hP 1 rfl rfl 1 (by decide) (hts (.fieldLink RX11 53 "MistHeaps$Scene" "tapeSize" "I") kc_xFeed_3) (fun _ h9 => h9) rfl dX11_feed_61 ?_
        rw [hQ]
        have hP9 := hP.sub (ws' := [(zo13rrirrrr h0 sc kp ik bl go ch bo), (zo10ririliiriririr sc aTp (nI (ts + 1)) aHl (nI nh) ed mi sn aHs (nI n) aWk (nI wz) aBk (nI bz) aFc), (zaI aTp cTp 100 (upd fTp ts x))]) [0, 1, 2] rfl
        have hD9 := hD.sub (ws' := [(zo13rrirrrr h0 sc kp ik bl go ch bo), (zo10ririliiriririr sc aTp (nI (ts + 1)) aHl (nI nh) ed mi sn aHs (nI n) aWk (nI wz) aBk (nI bz) aFc), (zaI aTp cTp 100 (upd fTp ts x))]) [0, 1, 2] (by decide) rfl
        have hK9 := hK.sub (tys' := [(cTp, .int)]) [0] rfl
        exact W.iret (v := nI (ts + 1)) hx hb hr (fun tQ htQ hWQ => ⟨⟨(nI (ts + 1)), ((ts + 1), (upd fTp ts x)), rfl, by omega, by rw [htQ]; exact hP9, va_K.moved hWQ.alike hK9, hD9⟩, hS.F htQ⟩) hS.2.2 dX11_feed_64
      · skip
        have c_3 : ¬ ts < 100 := fun q => c_3 ((nI_ltI (a := ts) (b := 100) (by omega) (by omega)).mpr q)
        refine lv_bipush (v := (-4)) hx hb dX11_feed_25 (by decide) ?_
        rw [hQ]
        have hP9 := hP.sub (ws' := [(zo13rrirrrr h0 sc kp ik bl go ch bo), (zo10ririliiriririr sc aTp (nI ts) aHl (nI nh) ed mi sn aHs (nI n) aWk (nI wz) aBk (nI bz) aFc), (zaI aTp cTp 100 fTp)]) [0, 1, 2] rfl
        have hD9 := hD.sub (ws' := [(zo13rrirrrr h0 sc kp ik bl go ch bo), (zo10ririliiriririr sc aTp (nI ts) aHl (nI nh) ed mi sn aHs (nI n) aWk (nI wz) aBk (nI bz) aFc), (zaI aTp cTp 100 fTp)]) [0, 1, 2] (by decide) rfl
        have hK9 := hK.sub (tys' := [(cTp, .int)]) [0] rfl
        exact W.iret (v := (-4)) hx hb hr (fun tQ htQ hWQ => ⟨⟨(-4), (ts, fTp), rfl, by omega, by rw [htQ]; exact hP9, va_K.moved hWQ.alike hK9, hD9⟩, hS.F htQ⟩) hS.2.2 dX11_feed_27
    · skip
      refine lv_bipush (v := (-2)) hx hb dX11_feed_10 (by decide) ?_
      rw [hQ]
      have hP9 := hP.sub (ws' := [(zo13rrirrrr h0 sc kp ik bl go ch bo), (zo10ririliiriririr sc aTp (nI ts) aHl (nI nh) ed mi sn aHs (nI n) aWk (nI wz) aBk (nI bz) aFc), (zaI aTp cTp 100 fTp)]) [0, 1, 2] rfl
      have hD9 := hD.sub (ws' := [(zo13rrirrrr h0 sc kp ik bl go ch bo), (zo10ririliiriririr sc aTp (nI ts) aHl (nI nh) ed mi sn aHs (nI n) aWk (nI wz) aBk (nI bz) aFc), (zaI aTp cTp 100 fTp)]) [0, 1, 2] (by decide) rfl
      have hK9 := hK.sub (tys' := [(cTp, .int)]) [0] rfl
      exact W.iret (v := (-2)) hx hb hr (fun tQ htQ hWQ => ⟨⟨(-2), (ts, fTp), rfl, by omega, by rw [htQ]; exact hP9, va_K.moved hWQ.alike hK9, hD9⟩, hS.F htQ⟩) hS.2.2 dX11_feed_12

theorem kc_bits_0 : (.constantLong RJ13 314 (6148914691236517205) : Cond) ∈ wsJ13_bitCount_95d88 := kc_of 531 rfl rfl rfl
theorem kc_bits_1 : (.constantLong RJ13 316 (3689348814741910323) : Cond) ∈ wsJ13_bitCount_95d88 := kc_of 532 rfl rfl rfl
theorem kc_bits_2 : (.constantLong RJ13 318 (1085102592571150095) : Cond) ∈ wsJ13_bitCount_95d88 := kc_of 533 rfl rfl rfl
set_option maxHeartbeats 4000000 in
set_option maxRecDepth 100000 in
theorem c_bits (l : Launch) (dC : Nat → ClassId) (dI : Nat → Nat → Nat) (x : Int64) : Met l yJ13_bitCount_95d88 wsJ13_bitCount_95d88 ({ frames := 0, cells := 0, slots := 0, locals := 0 } : Room) (va_Pc [.long x] (fun U => True)) (vp_Si (fun r => True)) 0 0 (fun _ => False) := by
  refine met_ofQ (cc := cJ13_bitCount_95d88) (maxL := 2) (ret := (some .int)) (by decide) rfl ?_
  intro p e s m args below meth c s₁ Q B hml hv hQ
  obtain ⟨rfl, -⟩ := hv
  have hx := B.exec
  have hb := B.bytes
  have hr := B.returns
  have hts := atoms_spec (ws := wsJ13_bitCount_95d88) B.pre
  have hown : s.vm.findClass RJ13 = some m.cls := findClass_of_methodNamed B.named
  have hlocks := B.notSynchronized
  obtain ⟨A, hAe⟩ : ∃ A : Nat → Prop, A = fun _ => False := ⟨_, rfl⟩
  rw [← hAe] at hQ
  have hS : va_S A s.heap s.heap [] := va_S.rf
  have hl := lv_entry [.long x] (n := 2) (Nat.le_of_ble_eq_true rfl)
  rw [lg_entry_eq]
  generalize (lg_sl [.long x] ++ List.replicate (2 - (lg_sl [.long x]).length) Slot.unset).toArray = ls at hl ⊢
  generalize hag : ([.long x] : List Value).toArray = args at hts hQ ⊢
  have hl : lv_has ls 2 [(0, .long x)] := hl
  refine lv_lload_n hx hb dJ13_bitCount_95d88_0 rfl (lv_at hl 0 rfl) ?_
  refine lv_lload_n hx hb dJ13_bitCount_95d88_1 rfl (lv_at hl 0 rfl) ?_
  refine lv_iconst (v := 1) hx hb dJ13_bitCount_95d88_2 (by decide) ?_
  refine lv_lushr (v := (x.toUInt64 >>> ((1 : Int32).toInt64.toUInt64 &&& Int64.toUInt64 63)).toInt64) hx hb dJ13_bitCount_95d88_3 (rfl) ?_
  refine lv_ldc2 (v := 6148914691236517205) hx hb hown (hts (.constantLong RJ13 314 (6148914691236517205)) kc_bits_0) dJ13_bitCount_95d88_4 ?_
  refine lv_land hx hb dJ13_bitCount_95d88_7 ?_
  refine lv_lsub hx hb dJ13_bitCount_95d88_8 ?_
  refine lv_lstore_n (lv' := [(0, .long (x - (((x.toUInt64 >>> ((1 : Int32).toInt64.toUInt64 &&& Int64.toUInt64 63)).toInt64) &&& 6148914691236517205)))]) hx hb dJ13_bitCount_95d88_9 rfl hl (by decide) rfl (fun ls hl => ?_)
  refine lv_lload_n hx hb dJ13_bitCount_95d88_10 rfl (lv_at hl 0 rfl) ?_
  refine lv_ldc2 (v := 3689348814741910323) hx hb hown (hts (.constantLong RJ13 316 (3689348814741910323)) kc_bits_1) dJ13_bitCount_95d88_11 ?_
  refine lv_land hx hb dJ13_bitCount_95d88_14 ?_
  refine lv_lload_n hx hb dJ13_bitCount_95d88_15 rfl (lv_at hl 0 rfl) ?_
  refine lv_iconst (v := 2) hx hb dJ13_bitCount_95d88_16 (by decide) ?_
  refine lv_lushr (v := ((x - (((x.toUInt64 >>> ((1 : Int32).toInt64.toUInt64 &&& Int64.toUInt64 63)).toInt64) &&& 6148914691236517205)).toUInt64 >>> ((2 : Int32).toInt64.toUInt64 &&& Int64.toUInt64 63)).toInt64) hx hb dJ13_bitCount_95d88_17 (rfl) ?_
  refine lv_ldc2 (v := 3689348814741910323) hx hb hown (hts (.constantLong RJ13 316 (3689348814741910323)) kc_bits_1) dJ13_bitCount_95d88_18 ?_
  refine lv_land hx hb dJ13_bitCount_95d88_21 ?_
  refine lv_ladd hx hb dJ13_bitCount_95d88_22 ?_
  refine lv_lstore_n (lv' := [(0, .long (((x - (((x.toUInt64 >>> ((1 : Int32).toInt64.toUInt64 &&& Int64.toUInt64 63)).toInt64) &&& 6148914691236517205)) &&& 3689348814741910323) + ((((x - (((x.toUInt64 >>> ((1 : Int32).toInt64.toUInt64 &&& Int64.toUInt64 63)).toInt64) &&& 6148914691236517205)).toUInt64 >>> ((2 : Int32).toInt64.toUInt64 &&& Int64.toUInt64 63)).toInt64) &&& 3689348814741910323)))]) hx hb dJ13_bitCount_95d88_23 rfl hl (by decide) rfl (fun ls hl => ?_)
  refine lv_lload_n hx hb dJ13_bitCount_95d88_24 rfl (lv_at hl 0 rfl) ?_
  refine lv_lload_n hx hb dJ13_bitCount_95d88_25 rfl (lv_at hl 0 rfl) ?_
  refine lv_iconst (v := 4) hx hb dJ13_bitCount_95d88_26 (by decide) ?_
  refine lv_lushr (v := ((((x - (((x.toUInt64 >>> ((1 : Int32).toInt64.toUInt64 &&& Int64.toUInt64 63)).toInt64) &&& 6148914691236517205)) &&& 3689348814741910323) + ((((x - (((x.toUInt64 >>> ((1 : Int32).toInt64.toUInt64 &&& Int64.toUInt64 63)).toInt64) &&& 6148914691236517205)).toUInt64 >>> ((2 : Int32).toInt64.toUInt64 &&& Int64.toUInt64 63)).toInt64) &&& 3689348814741910323)).toUInt64 >>> ((4 : Int32).toInt64.toUInt64 &&& Int64.toUInt64 63)).toInt64) hx hb dJ13_bitCount_95d88_27 (rfl) ?_
  refine lv_ladd hx hb dJ13_bitCount_95d88_28 ?_
  refine lv_ldc2 (v := 1085102592571150095) hx hb hown (hts (.constantLong RJ13 318 (1085102592571150095)) kc_bits_2) dJ13_bitCount_95d88_29 ?_
  refine lv_land hx hb dJ13_bitCount_95d88_32 ?_
  refine lv_lstore_n (lv' := [(0, .long (((((x - (((x.toUInt64 >>> ((1 : Int32).toInt64.toUInt64 &&& Int64.toUInt64 63)).toInt64) &&& 6148914691236517205)) &&& 3689348814741910323) + ((((x - (((x.toUInt64 >>> ((1 : Int32).toInt64.toUInt64 &&& Int64.toUInt64 63)).toInt64) &&& 6148914691236517205)).toUInt64 >>> ((2 : Int32).toInt64.toUInt64 &&& Int64.toUInt64 63)).toInt64) &&& 3689348814741910323)) + (((((x - (((x.toUInt64 >>> ((1 : Int32).toInt64.toUInt64 &&& Int64.toUInt64 63)).toInt64) &&& 6148914691236517205)) &&& 3689348814741910323) + ((((x - (((x.toUInt64 >>> ((1 : Int32).toInt64.toUInt64 &&& Int64.toUInt64 63)).toInt64) &&& 6148914691236517205)).toUInt64 >>> ((2 : Int32).toInt64.toUInt64 &&& Int64.toUInt64 63)).toInt64) &&& 3689348814741910323)).toUInt64 >>> ((4 : Int32).toInt64.toUInt64 &&& Int64.toUInt64 63)).toInt64)) &&& 1085102592571150095))]) hx hb dJ13_bitCount_95d88_33 rfl hl (by decide) rfl (fun ls hl => ?_)
  refine lv_lload_n hx hb dJ13_bitCount_95d88_34 rfl (lv_at hl 0 rfl) ?_
  refine lv_lload_n hx hb dJ13_bitCount_95d88_35 rfl (lv_at hl 0 rfl) ?_
  refine lv_bipush (v := 8) hx hb dJ13_bitCount_95d88_36 (by decide) ?_
  refine lv_lushr (v := ((((((x - (((x.toUInt64 >>> ((1 : Int32).toInt64.toUInt64 &&& Int64.toUInt64 63)).toInt64) &&& 6148914691236517205)) &&& 3689348814741910323) + ((((x - (((x.toUInt64 >>> ((1 : Int32).toInt64.toUInt64 &&& Int64.toUInt64 63)).toInt64) &&& 6148914691236517205)).toUInt64 >>> ((2 : Int32).toInt64.toUInt64 &&& Int64.toUInt64 63)).toInt64) &&& 3689348814741910323)) + (((((x - (((x.toUInt64 >>> ((1 : Int32).toInt64.toUInt64 &&& Int64.toUInt64 63)).toInt64) &&& 6148914691236517205)) &&& 3689348814741910323) + ((((x - (((x.toUInt64 >>> ((1 : Int32).toInt64.toUInt64 &&& Int64.toUInt64 63)).toInt64) &&& 6148914691236517205)).toUInt64 >>> ((2 : Int32).toInt64.toUInt64 &&& Int64.toUInt64 63)).toInt64) &&& 3689348814741910323)).toUInt64 >>> ((4 : Int32).toInt64.toUInt64 &&& Int64.toUInt64 63)).toInt64)) &&& 1085102592571150095).toUInt64 >>> ((8 : Int32).toInt64.toUInt64 &&& Int64.toUInt64 63)).toInt64) hx hb dJ13_bitCount_95d88_38 (rfl) ?_
  refine lv_ladd hx hb dJ13_bitCount_95d88_39 ?_
  refine lv_lstore_n (lv' := [(0, .long ((((((x - (((x.toUInt64 >>> ((1 : Int32).toInt64.toUInt64 &&& Int64.toUInt64 63)).toInt64) &&& 6148914691236517205)) &&& 3689348814741910323) + ((((x - (((x.toUInt64 >>> ((1 : Int32).toInt64.toUInt64 &&& Int64.toUInt64 63)).toInt64) &&& 6148914691236517205)).toUInt64 >>> ((2 : Int32).toInt64.toUInt64 &&& Int64.toUInt64 63)).toInt64) &&& 3689348814741910323)) + (((((x - (((x.toUInt64 >>> ((1 : Int32).toInt64.toUInt64 &&& Int64.toUInt64 63)).toInt64) &&& 6148914691236517205)) &&& 3689348814741910323) + ((((x - (((x.toUInt64 >>> ((1 : Int32).toInt64.toUInt64 &&& Int64.toUInt64 63)).toInt64) &&& 6148914691236517205)).toUInt64 >>> ((2 : Int32).toInt64.toUInt64 &&& Int64.toUInt64 63)).toInt64) &&& 3689348814741910323)).toUInt64 >>> ((4 : Int32).toInt64.toUInt64 &&& Int64.toUInt64 63)).toInt64)) &&& 1085102592571150095) + (((((((x - (((x.toUInt64 >>> ((1 : Int32).toInt64.toUInt64 &&& Int64.toUInt64 63)).toInt64) &&& 6148914691236517205)) &&& 3689348814741910323) + ((((x - (((x.toUInt64 >>> ((1 : Int32).toInt64.toUInt64 &&& Int64.toUInt64 63)).toInt64) &&& 6148914691236517205)).toUInt64 >>> ((2 : Int32).toInt64.toUInt64 &&& Int64.toUInt64 63)).toInt64) &&& 3689348814741910323)) + (((((x - (((x.toUInt64 >>> ((1 : Int32).toInt64.toUInt64 &&& Int64.toUInt64 63)).toInt64) &&& 6148914691236517205)) &&& 3689348814741910323) + ((((x - (((x.toUInt64 >>> ((1 : Int32).toInt64.toUInt64 &&& Int64.toUInt64 63)).toInt64) &&& 6148914691236517205)).toUInt64 >>> ((2 : Int32).toInt64.toUInt64 &&& Int64.toUInt64 63)).toInt64) &&& 3689348814741910323)).toUInt64 >>> ((4 : Int32).toInt64.toUInt64 &&& Int64.toUInt64 63)).toInt64)) &&& 1085102592571150095).toUInt64 >>> ((8 : Int32).toInt64.toUInt64 &&& Int64.toUInt64 63)).toInt64)))]) hx hb dJ13_bitCount_95d88_40 rfl hl (by decide) rfl (fun ls hl => ?_)
  refine lv_lload_n hx hb dJ13_bitCount_95d88_41 rfl (lv_at hl 0 rfl) ?_
  refine lv_lload_n hx hb dJ13_bitCount_95d88_42 rfl (lv_at hl 0 rfl) ?_
  refine lv_bipush (v := 16) hx hb dJ13_bitCount_95d88_43 (by decide) ?_
  refine lv_lushr (v := (((((((x - (((x.toUInt64 >>> ((1 : Int32).toInt64.toUInt64 &&& Int64.toUInt64 63)).toInt64) &&& 6148914691236517205)) &&& 3689348814741910323) + ((((x - (((x.toUInt64 >>> ((1 : Int32).toInt64.toUInt64 &&& Int64.toUInt64 63)).toInt64) &&& 6148914691236517205)).toUInt64 >>> ((2 : Int32).toInt64.toUInt64 &&& Int64.toUInt64 63)).toInt64) &&& 3689348814741910323)) + (((((x - (((x.toUInt64 >>> ((1 : Int32).toInt64.toUInt64 &&& Int64.toUInt64 63)).toInt64) &&& 6148914691236517205)) &&& 3689348814741910323) + ((((x - (((x.toUInt64 >>> ((1 : Int32).toInt64.toUInt64 &&& Int64.toUInt64 63)).toInt64) &&& 6148914691236517205)).toUInt64 >>> ((2 : Int32).toInt64.toUInt64 &&& Int64.toUInt64 63)).toInt64) &&& 3689348814741910323)).toUInt64 >>> ((4 : Int32).toInt64.toUInt64 &&& Int64.toUInt64 63)).toInt64)) &&& 1085102592571150095) + (((((((x - (((x.toUInt64 >>> ((1 : Int32).toInt64.toUInt64 &&& Int64.toUInt64 63)).toInt64) &&& 6148914691236517205)) &&& 3689348814741910323) + ((((x - (((x.toUInt64 >>> ((1 : Int32).toInt64.toUInt64 &&& Int64.toUInt64 63)).toInt64) &&& 6148914691236517205)).toUInt64 >>> ((2 : Int32).toInt64.toUInt64 &&& Int64.toUInt64 63)).toInt64) &&& 3689348814741910323)) + (((((x - (((x.toUInt64 >>> ((1 : Int32).toInt64.toUInt64 &&& Int64.toUInt64 63)).toInt64) &&& 6148914691236517205)) &&& 3689348814741910323) + ((((x - (((x.toUInt64 >>> ((1 : Int32).toInt64.toUInt64 &&& Int64.toUInt64 63)).toInt64) &&& 6148914691236517205)).toUInt64 >>> ((2 : Int32).toInt64.toUInt64 &&& Int64.toUInt64 63)).toInt64) &&& 3689348814741910323)).toUInt64 >>> ((4 : Int32).toInt64.toUInt64 &&& Int64.toUInt64 63)).toInt64)) &&& 1085102592571150095).toUInt64 >>> ((8 : Int32).toInt64.toUInt64 &&& Int64.toUInt64 63)).toInt64)).toUInt64 >>> ((16 : Int32).toInt64.toUInt64 &&& Int64.toUInt64 63)).toInt64) hx hb dJ13_bitCount_95d88_45 (rfl) ?_
  refine lv_ladd hx hb dJ13_bitCount_95d88_46 ?_
  refine lv_lstore_n (lv' := [(0, .long (((((((x - (((x.toUInt64 >>> ((1 : Int32).toInt64.toUInt64 &&& Int64.toUInt64 63)).toInt64) &&& 6148914691236517205)) &&& 3689348814741910323) + ((((x - (((x.toUInt64 >>> ((1 : Int32).toInt64.toUInt64 &&& Int64.toUInt64 63)).toInt64) &&& 6148914691236517205)).toUInt64 >>> ((2 : Int32).toInt64.toUInt64 &&& Int64.toUInt64 63)).toInt64) &&& 3689348814741910323)) + (((((x - (((x.toUInt64 >>> ((1 : Int32).toInt64.toUInt64 &&& Int64.toUInt64 63)).toInt64) &&& 6148914691236517205)) &&& 3689348814741910323) + ((((x - (((x.toUInt64 >>> ((1 : Int32).toInt64.toUInt64 &&& Int64.toUInt64 63)).toInt64) &&& 6148914691236517205)).toUInt64 >>> ((2 : Int32).toInt64.toUInt64 &&& Int64.toUInt64 63)).toInt64) &&& 3689348814741910323)).toUInt64 >>> ((4 : Int32).toInt64.toUInt64 &&& Int64.toUInt64 63)).toInt64)) &&& 1085102592571150095) + (((((((x - (((x.toUInt64 >>> ((1 : Int32).toInt64.toUInt64 &&& Int64.toUInt64 63)).toInt64) &&& 6148914691236517205)) &&& 3689348814741910323) + ((((x - (((x.toUInt64 >>> ((1 : Int32).toInt64.toUInt64 &&& Int64.toUInt64 63)).toInt64) &&& 6148914691236517205)).toUInt64 >>> ((2 : Int32).toInt64.toUInt64 &&& Int64.toUInt64 63)).toInt64) &&& 3689348814741910323)) + (((((x - (((x.toUInt64 >>> ((1 : Int32).toInt64.toUInt64 &&& Int64.toUInt64 63)).toInt64) &&& 6148914691236517205)) &&& 3689348814741910323) + ((((x - (((x.toUInt64 >>> ((1 : Int32).toInt64.toUInt64 &&& Int64.toUInt64 63)).toInt64) &&& 6148914691236517205)).toUInt64 >>> ((2 : Int32).toInt64.toUInt64 &&& Int64.toUInt64 63)).toInt64) &&& 3689348814741910323)).toUInt64 >>> ((4 : Int32).toInt64.toUInt64 &&& Int64.toUInt64 63)).toInt64)) &&& 1085102592571150095).toUInt64 >>> ((8 : Int32).toInt64.toUInt64 &&& Int64.toUInt64 63)).toInt64)) + ((((((((x - (((x.toUInt64 >>> ((1 : Int32).toInt64.toUInt64 &&& Int64.toUInt64 63)).toInt64) &&& 6148914691236517205)) &&& 3689348814741910323) + ((((x - (((x.toUInt64 >>> ((1 : Int32).toInt64.toUInt64 &&& Int64.toUInt64 63)).toInt64) &&& 6148914691236517205)).toUInt64 >>> ((2 : Int32).toInt64.toUInt64 &&& Int64.toUInt64 63)).toInt64) &&& 3689348814741910323)) + (((((x - (((x.toUInt64 >>> ((1 : Int32).toInt64.toUInt64 &&& Int64.toUInt64 63)).toInt64) &&& 6148914691236517205)) &&& 3689348814741910323) + ((((x - (((x.toUInt64 >>> ((1 : Int32).toInt64.toUInt64 &&& Int64.toUInt64 63)).toInt64) &&& 6148914691236517205)).toUInt64 >>> ((2 : Int32).toInt64.toUInt64 &&& Int64.toUInt64 63)).toInt64) &&& 3689348814741910323)).toUInt64 >>> ((4 : Int32).toInt64.toUInt64 &&& Int64.toUInt64 63)).toInt64)) &&& 1085102592571150095) + (((((((x - (((x.toUInt64 >>> ((1 : Int32).toInt64.toUInt64 &&& Int64.toUInt64 63)).toInt64) &&& 6148914691236517205)) &&& 3689348814741910323) + ((((x - (((x.toUInt64 >>> ((1 : Int32).toInt64.toUInt64 &&& Int64.toUInt64 63)).toInt64) &&& 6148914691236517205)).toUInt64 >>> ((2 : Int32).toInt64.toUInt64 &&& Int64.toUInt64 63)).toInt64) &&& 3689348814741910323)) + (((((x - (((x.toUInt64 >>> ((1 : Int32).toInt64.toUInt64 &&& Int64.toUInt64 63)).toInt64) &&& 6148914691236517205)) &&& 3689348814741910323) + ((((x - (((x.toUInt64 >>> ((1 : Int32).toInt64.toUInt64 &&& Int64.toUInt64 63)).toInt64) &&& 6148914691236517205)).toUInt64 >>> ((2 : Int32).toInt64.toUInt64 &&& Int64.toUInt64 63)).toInt64) &&& 3689348814741910323)).toUInt64 >>> ((4 : Int32).toInt64.toUInt64 &&& Int64.toUInt64 63)).toInt64)) &&& 1085102592571150095).toUInt64 >>> ((8 : Int32).toInt64.toUInt64 &&& Int64.toUInt64 63)).toInt64)).toUInt64 >>> ((16 : Int32).toInt64.toUInt64 &&& Int64.toUInt64 63)).toInt64)))]) hx hb dJ13_bitCount_95d88_47 rfl hl (by decide) rfl (fun ls hl => ?_)
  refine lv_lload_n hx hb dJ13_bitCount_95d88_48 rfl (lv_at hl 0 rfl) ?_
  refine lv_lload_n hx hb dJ13_bitCount_95d88_49 rfl (lv_at hl 0 rfl) ?_
  refine lv_bipush (v := 32) hx hb dJ13_bitCount_95d88_50 (by decide) ?_
  refine lv_lushr (v := ((((((((x - (((x.toUInt64 >>> ((1 : Int32).toInt64.toUInt64 &&& Int64.toUInt64 63)).toInt64) &&& 6148914691236517205)) &&& 3689348814741910323) + ((((x - (((x.toUInt64 >>> ((1 : Int32).toInt64.toUInt64 &&& Int64.toUInt64 63)).toInt64) &&& 6148914691236517205)).toUInt64 >>> ((2 : Int32).toInt64.toUInt64 &&& Int64.toUInt64 63)).toInt64) &&& 3689348814741910323)) + (((((x - (((x.toUInt64 >>> ((1 : Int32).toInt64.toUInt64 &&& Int64.toUInt64 63)).toInt64) &&& 6148914691236517205)) &&& 3689348814741910323) + ((((x - (((x.toUInt64 >>> ((1 : Int32).toInt64.toUInt64 &&& Int64.toUInt64 63)).toInt64) &&& 6148914691236517205)).toUInt64 >>> ((2 : Int32).toInt64.toUInt64 &&& Int64.toUInt64 63)).toInt64) &&& 3689348814741910323)).toUInt64 >>> ((4 : Int32).toInt64.toUInt64 &&& Int64.toUInt64 63)).toInt64)) &&& 1085102592571150095) + (((((((x - (((x.toUInt64 >>> ((1 : Int32).toInt64.toUInt64 &&& Int64.toUInt64 63)).toInt64) &&& 6148914691236517205)) &&& 3689348814741910323) + ((((x - (((x.toUInt64 >>> ((1 : Int32).toInt64.toUInt64 &&& Int64.toUInt64 63)).toInt64) &&& 6148914691236517205)).toUInt64 >>> ((2 : Int32).toInt64.toUInt64 &&& Int64.toUInt64 63)).toInt64) &&& 3689348814741910323)) + (((((x - (((x.toUInt64 >>> ((1 : Int32).toInt64.toUInt64 &&& Int64.toUInt64 63)).toInt64) &&& 6148914691236517205)) &&& 3689348814741910323) + ((((x - (((x.toUInt64 >>> ((1 : Int32).toInt64.toUInt64 &&& Int64.toUInt64 63)).toInt64) &&& 6148914691236517205)).toUInt64 >>> ((2 : Int32).toInt64.toUInt64 &&& Int64.toUInt64 63)).toInt64) &&& 3689348814741910323)).toUInt64 >>> ((4 : Int32).toInt64.toUInt64 &&& Int64.toUInt64 63)).toInt64)) &&& 1085102592571150095).toUInt64 >>> ((8 : Int32).toInt64.toUInt64 &&& Int64.toUInt64 63)).toInt64)) + ((((((((x - (((x.toUInt64 >>> ((1 : Int32).toInt64.toUInt64 &&& Int64.toUInt64 63)).toInt64) &&& 6148914691236517205)) &&& 3689348814741910323) + ((((x - (((x.toUInt64 >>> ((1 : Int32).toInt64.toUInt64 &&& Int64.toUInt64 63)).toInt64) &&& 6148914691236517205)).toUInt64 >>> ((2 : Int32).toInt64.toUInt64 &&& Int64.toUInt64 63)).toInt64) &&& 3689348814741910323)) + (((((x - (((x.toUInt64 >>> ((1 : Int32).toInt64.toUInt64 &&& Int64.toUInt64 63)).toInt64) &&& 6148914691236517205)) &&& 3689348814741910323) + ((((x - (((x.toUInt64 >>> ((1 : Int32).toInt64.toUInt64 &&& Int64.toUInt64 63)).toInt64) &&& 6148914691236517205)).toUInt64 >>> ((2 : Int32).toInt64.toUInt64 &&& Int64.toUInt64 63)).toInt64) &&& 3689348814741910323)).toUInt64 >>> ((4 : Int32).toInt64.toUInt64 &&& Int64.toUInt64 63)).toInt64)) &&& 1085102592571150095) + (((((((x - (((x.toUInt64 >>> ((1 : Int32).toInt64.toUInt64 &&& Int64.toUInt64 63)).toInt64) &&& 6148914691236517205)) &&& 3689348814741910323) + ((((x - (((x.toUInt64 >>> ((1 : Int32).toInt64.toUInt64 &&& Int64.toUInt64 63)).toInt64) &&& 6148914691236517205)).toUInt64 >>> ((2 : Int32).toInt64.toUInt64 &&& Int64.toUInt64 63)).toInt64) &&& 3689348814741910323)) + (((((x - (((x.toUInt64 >>> ((1 : Int32).toInt64.toUInt64 &&& Int64.toUInt64 63)).toInt64) &&& 6148914691236517205)) &&& 3689348814741910323) + ((((x - (((x.toUInt64 >>> ((1 : Int32).toInt64.toUInt64 &&& Int64.toUInt64 63)).toInt64) &&& 6148914691236517205)).toUInt64 >>> ((2 : Int32).toInt64.toUInt64 &&& Int64.toUInt64 63)).toInt64) &&& 3689348814741910323)).toUInt64 >>> ((4 : Int32).toInt64.toUInt64 &&& Int64.toUInt64 63)).toInt64)) &&& 1085102592571150095).toUInt64 >>> ((8 : Int32).toInt64.toUInt64 &&& Int64.toUInt64 63)).toInt64)).toUInt64 >>> ((16 : Int32).toInt64.toUInt64 &&& Int64.toUInt64 63)).toInt64)).toUInt64 >>> ((32 : Int32).toInt64.toUInt64 &&& Int64.toUInt64 63)).toInt64) hx hb dJ13_bitCount_95d88_52 (rfl) ?_
  refine lv_ladd hx hb dJ13_bitCount_95d88_53 ?_
  refine lv_lstore_n (lv' := [(0, .long ((((((((x - (((x.toUInt64 >>> ((1 : Int32).toInt64.toUInt64 &&& Int64.toUInt64 63)).toInt64) &&& 6148914691236517205)) &&& 3689348814741910323) + ((((x - (((x.toUInt64 >>> ((1 : Int32).toInt64.toUInt64 &&& Int64.toUInt64 63)).toInt64) &&& 6148914691236517205)).toUInt64 >>> ((2 : Int32).toInt64.toUInt64 &&& Int64.toUInt64 63)).toInt64) &&& 3689348814741910323)) + (((((x - (((x.toUInt64 >>> ((1 : Int32).toInt64.toUInt64 &&& Int64.toUInt64 63)).toInt64) &&& 6148914691236517205)) &&& 3689348814741910323) + ((((x - (((x.toUInt64 >>> ((1 : Int32).toInt64.toUInt64 &&& Int64.toUInt64 63)).toInt64) &&& 6148914691236517205)).toUInt64 >>> ((2 : Int32).toInt64.toUInt64 &&& Int64.toUInt64 63)).toInt64) &&& 3689348814741910323)).toUInt64 >>> ((4 : Int32).toInt64.toUInt64 &&& Int64.toUInt64 63)).toInt64)) &&& 1085102592571150095) + (((((((x - (((x.toUInt64 >>> ((1 : Int32).toInt64.toUInt64 &&& Int64.toUInt64 63)).toInt64) &&& 6148914691236517205)) &&& 3689348814741910323) + ((((x - (((x.toUInt64 >>> ((1 : Int32).toInt64.toUInt64 &&& Int64.toUInt64 63)).toInt64) &&& 6148914691236517205)).toUInt64 >>> ((2 : Int32).toInt64.toUInt64 &&& Int64.toUInt64 63)).toInt64) &&& 3689348814741910323)) + (((((x - (((x.toUInt64 >>> ((1 : Int32).toInt64.toUInt64 &&& Int64.toUInt64 63)).toInt64) &&& 6148914691236517205)) &&& 3689348814741910323) + ((((x - (((x.toUInt64 >>> ((1 : Int32).toInt64.toUInt64 &&& Int64.toUInt64 63)).toInt64) &&& 6148914691236517205)).toUInt64 >>> ((2 : Int32).toInt64.toUInt64 &&& Int64.toUInt64 63)).toInt64) &&& 3689348814741910323)).toUInt64 >>> ((4 : Int32).toInt64.toUInt64 &&& Int64.toUInt64 63)).toInt64)) &&& 1085102592571150095).toUInt64 >>> ((8 : Int32).toInt64.toUInt64 &&& Int64.toUInt64 63)).toInt64)) + ((((((((x - (((x.toUInt64 >>> ((1 : Int32).toInt64.toUInt64 &&& Int64.toUInt64 63)).toInt64) &&& 6148914691236517205)) &&& 3689348814741910323) + ((((x - (((x.toUInt64 >>> ((1 : Int32).toInt64.toUInt64 &&& Int64.toUInt64 63)).toInt64) &&& 6148914691236517205)).toUInt64 >>> ((2 : Int32).toInt64.toUInt64 &&& Int64.toUInt64 63)).toInt64) &&& 3689348814741910323)) + (((((x - (((x.toUInt64 >>> ((1 : Int32).toInt64.toUInt64 &&& Int64.toUInt64 63)).toInt64) &&& 6148914691236517205)) &&& 3689348814741910323) + ((((x - (((x.toUInt64 >>> ((1 : Int32).toInt64.toUInt64 &&& Int64.toUInt64 63)).toInt64) &&& 6148914691236517205)).toUInt64 >>> ((2 : Int32).toInt64.toUInt64 &&& Int64.toUInt64 63)).toInt64) &&& 3689348814741910323)).toUInt64 >>> ((4 : Int32).toInt64.toUInt64 &&& Int64.toUInt64 63)).toInt64)) &&& 1085102592571150095) + (((((((x - (((x.toUInt64 >>> ((1 : Int32).toInt64.toUInt64 &&& Int64.toUInt64 63)).toInt64) &&& 6148914691236517205)) &&& 3689348814741910323) + ((((x - (((x.toUInt64 >>> ((1 : Int32).toInt64.toUInt64 &&& Int64.toUInt64 63)).toInt64) &&& 6148914691236517205)).toUInt64 >>> ((2 : Int32).toInt64.toUInt64 &&& Int64.toUInt64 63)).toInt64) &&& 3689348814741910323)) + (((((x - (((x.toUInt64 >>> ((1 : Int32).toInt64.toUInt64 &&& Int64.toUInt64 63)).toInt64) &&& 6148914691236517205)) &&& 3689348814741910323) + ((((x - (((x.toUInt64 >>> ((1 : Int32).toInt64.toUInt64 &&& Int64.toUInt64 63)).toInt64) &&& 6148914691236517205)).toUInt64 >>> ((2 : Int32).toInt64.toUInt64 &&& Int64.toUInt64 63)).toInt64) &&& 3689348814741910323)).toUInt64 >>> ((4 : Int32).toInt64.toUInt64 &&& Int64.toUInt64 63)).toInt64)) &&& 1085102592571150095).toUInt64 >>> ((8 : Int32).toInt64.toUInt64 &&& Int64.toUInt64 63)).toInt64)).toUInt64 >>> ((16 : Int32).toInt64.toUInt64 &&& Int64.toUInt64 63)).toInt64)) + (((((((((x - (((x.toUInt64 >>> ((1 : Int32).toInt64.toUInt64 &&& Int64.toUInt64 63)).toInt64) &&& 6148914691236517205)) &&& 3689348814741910323) + ((((x - (((x.toUInt64 >>> ((1 : Int32).toInt64.toUInt64 &&& Int64.toUInt64 63)).toInt64) &&& 6148914691236517205)).toUInt64 >>> ((2 : Int32).toInt64.toUInt64 &&& Int64.toUInt64 63)).toInt64) &&& 3689348814741910323)) + (((((x - (((x.toUInt64 >>> ((1 : Int32).toInt64.toUInt64 &&& Int64.toUInt64 63)).toInt64) &&& 6148914691236517205)) &&& 3689348814741910323) + ((((x - (((x.toUInt64 >>> ((1 : Int32).toInt64.toUInt64 &&& Int64.toUInt64 63)).toInt64) &&& 6148914691236517205)).toUInt64 >>> ((2 : Int32).toInt64.toUInt64 &&& Int64.toUInt64 63)).toInt64) &&& 3689348814741910323)).toUInt64 >>> ((4 : Int32).toInt64.toUInt64 &&& Int64.toUInt64 63)).toInt64)) &&& 1085102592571150095) + (((((((x - (((x.toUInt64 >>> ((1 : Int32).toInt64.toUInt64 &&& Int64.toUInt64 63)).toInt64) &&& 6148914691236517205)) &&& 3689348814741910323) + ((((x - (((x.toUInt64 >>> ((1 : Int32).toInt64.toUInt64 &&& Int64.toUInt64 63)).toInt64) &&& 6148914691236517205)).toUInt64 >>> ((2 : Int32).toInt64.toUInt64 &&& Int64.toUInt64 63)).toInt64) &&& 3689348814741910323)) + (((((x - (((x.toUInt64 >>> ((1 : Int32).toInt64.toUInt64 &&& Int64.toUInt64 63)).toInt64) &&& 6148914691236517205)) &&& 3689348814741910323) + ((((x - (((x.toUInt64 >>> ((1 : Int32).toInt64.toUInt64 &&& Int64.toUInt64 63)).toInt64) &&& 6148914691236517205)).toUInt64 >>> ((2 : Int32).toInt64.toUInt64 &&& Int64.toUInt64 63)).toInt64) &&& 3689348814741910323)).toUInt64 >>> ((4 : Int32).toInt64.toUInt64 &&& Int64.toUInt64 63)).toInt64)) &&& 1085102592571150095).toUInt64 >>> ((8 : Int32).toInt64.toUInt64 &&& Int64.toUInt64 63)).toInt64)) + ((((((((x - (((x.toUInt64 >>> ((1 : Int32).toInt64.toUInt64 &&& Int64.toUInt64 63)).toInt64) &&& 6148914691236517205)) &&& 3689348814741910323) + ((((x - (((x.toUInt64 >>> ((1 : Int32).toInt64.toUInt64 &&& Int64.toUInt64 63)).toInt64) &&& 6148914691236517205)).toUInt64 >>> ((2 : Int32).toInt64.toUInt64 &&& Int64.toUInt64 63)).toInt64) &&& 3689348814741910323)) + (((((x - (((x.toUInt64 >>> ((1 : Int32).toInt64.toUInt64 &&& Int64.toUInt64 63)).toInt64) &&& 6148914691236517205)) &&& 3689348814741910323) + ((((x - (((x.toUInt64 >>> ((1 : Int32).toInt64.toUInt64 &&& Int64.toUInt64 63)).toInt64) &&& 6148914691236517205)).toUInt64 >>> ((2 : Int32).toInt64.toUInt64 &&& Int64.toUInt64 63)).toInt64) &&& 3689348814741910323)).toUInt64 >>> ((4 : Int32).toInt64.toUInt64 &&& Int64.toUInt64 63)).toInt64)) &&& 1085102592571150095) + (((((((x - (((x.toUInt64 >>> ((1 : Int32).toInt64.toUInt64 &&& Int64.toUInt64 63)).toInt64) &&& 6148914691236517205)) &&& 3689348814741910323) + ((((x - (((x.toUInt64 >>> ((1 : Int32).toInt64.toUInt64 &&& Int64.toUInt64 63)).toInt64) &&& 6148914691236517205)).toUInt64 >>> ((2 : Int32).toInt64.toUInt64 &&& Int64.toUInt64 63)).toInt64) &&& 3689348814741910323)) + (((((x - (((x.toUInt64 >>> ((1 : Int32).toInt64.toUInt64 &&& Int64.toUInt64 63)).toInt64) &&& 6148914691236517205)) &&& 3689348814741910323) + ((((x - (((x.toUInt64 >>> ((1 : Int32).toInt64.toUInt64 &&& Int64.toUInt64 63)).toInt64) &&& 6148914691236517205)).toUInt64 >>> ((2 : Int32).toInt64.toUInt64 &&& Int64.toUInt64 63)).toInt64) &&& 3689348814741910323)).toUInt64 >>> ((4 : Int32).toInt64.toUInt64 &&& Int64.toUInt64 63)).toInt64)) &&& 1085102592571150095).toUInt64 >>> ((8 : Int32).toInt64.toUInt64 &&& Int64.toUInt64 63)).toInt64)).toUInt64 >>> ((16 : Int32).toInt64.toUInt64 &&& Int64.toUInt64 63)).toInt64)).toUInt64 >>> ((32 : Int32).toInt64.toUInt64 &&& Int64.toUInt64 63)).toInt64)))]) hx hb dJ13_bitCount_95d88_54 rfl hl (by decide) rfl (fun ls hl => ?_)
  refine lv_lload_n hx hb dJ13_bitCount_95d88_55 rfl (lv_at hl 0 rfl) ?_
  refine lv_l2i (v := ((((((((x - (((x.toUInt64 >>> ((1 : Int32).toInt64.toUInt64 &&& Int64.toUInt64 63)).toInt64) &&& 6148914691236517205)) &&& 3689348814741910323) + ((((x - (((x.toUInt64 >>> ((1 : Int32).toInt64.toUInt64 &&& Int64.toUInt64 63)).toInt64) &&& 6148914691236517205)).toUInt64 >>> ((2 : Int32).toInt64.toUInt64 &&& Int64.toUInt64 63)).toInt64) &&& 3689348814741910323)) + (((((x - (((x.toUInt64 >>> ((1 : Int32).toInt64.toUInt64 &&& Int64.toUInt64 63)).toInt64) &&& 6148914691236517205)) &&& 3689348814741910323) + ((((x - (((x.toUInt64 >>> ((1 : Int32).toInt64.toUInt64 &&& Int64.toUInt64 63)).toInt64) &&& 6148914691236517205)).toUInt64 >>> ((2 : Int32).toInt64.toUInt64 &&& Int64.toUInt64 63)).toInt64) &&& 3689348814741910323)).toUInt64 >>> ((4 : Int32).toInt64.toUInt64 &&& Int64.toUInt64 63)).toInt64)) &&& 1085102592571150095) + (((((((x - (((x.toUInt64 >>> ((1 : Int32).toInt64.toUInt64 &&& Int64.toUInt64 63)).toInt64) &&& 6148914691236517205)) &&& 3689348814741910323) + ((((x - (((x.toUInt64 >>> ((1 : Int32).toInt64.toUInt64 &&& Int64.toUInt64 63)).toInt64) &&& 6148914691236517205)).toUInt64 >>> ((2 : Int32).toInt64.toUInt64 &&& Int64.toUInt64 63)).toInt64) &&& 3689348814741910323)) + (((((x - (((x.toUInt64 >>> ((1 : Int32).toInt64.toUInt64 &&& Int64.toUInt64 63)).toInt64) &&& 6148914691236517205)) &&& 3689348814741910323) + ((((x - (((x.toUInt64 >>> ((1 : Int32).toInt64.toUInt64 &&& Int64.toUInt64 63)).toInt64) &&& 6148914691236517205)).toUInt64 >>> ((2 : Int32).toInt64.toUInt64 &&& Int64.toUInt64 63)).toInt64) &&& 3689348814741910323)).toUInt64 >>> ((4 : Int32).toInt64.toUInt64 &&& Int64.toUInt64 63)).toInt64)) &&& 1085102592571150095).toUInt64 >>> ((8 : Int32).toInt64.toUInt64 &&& Int64.toUInt64 63)).toInt64)) + ((((((((x - (((x.toUInt64 >>> ((1 : Int32).toInt64.toUInt64 &&& Int64.toUInt64 63)).toInt64) &&& 6148914691236517205)) &&& 3689348814741910323) + ((((x - (((x.toUInt64 >>> ((1 : Int32).toInt64.toUInt64 &&& Int64.toUInt64 63)).toInt64) &&& 6148914691236517205)).toUInt64 >>> ((2 : Int32).toInt64.toUInt64 &&& Int64.toUInt64 63)).toInt64) &&& 3689348814741910323)) + (((((x - (((x.toUInt64 >>> ((1 : Int32).toInt64.toUInt64 &&& Int64.toUInt64 63)).toInt64) &&& 6148914691236517205)) &&& 3689348814741910323) + ((((x - (((x.toUInt64 >>> ((1 : Int32).toInt64.toUInt64 &&& Int64.toUInt64 63)).toInt64) &&& 6148914691236517205)).toUInt64 >>> ((2 : Int32).toInt64.toUInt64 &&& Int64.toUInt64 63)).toInt64) &&& 3689348814741910323)).toUInt64 >>> ((4 : Int32).toInt64.toUInt64 &&& Int64.toUInt64 63)).toInt64)) &&& 1085102592571150095) + (((((((x - (((x.toUInt64 >>> ((1 : Int32).toInt64.toUInt64 &&& Int64.toUInt64 63)).toInt64) &&& 6148914691236517205)) &&& 3689348814741910323) + ((((x - (((x.toUInt64 >>> ((1 : Int32).toInt64.toUInt64 &&& Int64.toUInt64 63)).toInt64) &&& 6148914691236517205)).toUInt64 >>> ((2 : Int32).toInt64.toUInt64 &&& Int64.toUInt64 63)).toInt64) &&& 3689348814741910323)) + (((((x - (((x.toUInt64 >>> ((1 : Int32).toInt64.toUInt64 &&& Int64.toUInt64 63)).toInt64) &&& 6148914691236517205)) &&& 3689348814741910323) + ((((x - (((x.toUInt64 >>> ((1 : Int32).toInt64.toUInt64 &&& Int64.toUInt64 63)).toInt64) &&& 6148914691236517205)).toUInt64 >>> ((2 : Int32).toInt64.toUInt64 &&& Int64.toUInt64 63)).toInt64) &&& 3689348814741910323)).toUInt64 >>> ((4 : Int32).toInt64.toUInt64 &&& Int64.toUInt64 63)).toInt64)) &&& 1085102592571150095).toUInt64 >>> ((8 : Int32).toInt64.toUInt64 &&& Int64.toUInt64 63)).toInt64)).toUInt64 >>> ((16 : Int32).toInt64.toUInt64 &&& Int64.toUInt64 63)).toInt64)) + (((((((((x - (((x.toUInt64 >>> ((1 : Int32).toInt64.toUInt64 &&& Int64.toUInt64 63)).toInt64) &&& 6148914691236517205)) &&& 3689348814741910323) + ((((x - (((x.toUInt64 >>> ((1 : Int32).toInt64.toUInt64 &&& Int64.toUInt64 63)).toInt64) &&& 6148914691236517205)).toUInt64 >>> ((2 : Int32).toInt64.toUInt64 &&& Int64.toUInt64 63)).toInt64) &&& 3689348814741910323)) + (((((x - (((x.toUInt64 >>> ((1 : Int32).toInt64.toUInt64 &&& Int64.toUInt64 63)).toInt64) &&& 6148914691236517205)) &&& 3689348814741910323) + ((((x - (((x.toUInt64 >>> ((1 : Int32).toInt64.toUInt64 &&& Int64.toUInt64 63)).toInt64) &&& 6148914691236517205)).toUInt64 >>> ((2 : Int32).toInt64.toUInt64 &&& Int64.toUInt64 63)).toInt64) &&& 3689348814741910323)).toUInt64 >>> ((4 : Int32).toInt64.toUInt64 &&& Int64.toUInt64 63)).toInt64)) &&& 1085102592571150095) + (((((((x - (((x.toUInt64 >>> ((1 : Int32).toInt64.toUInt64 &&& Int64.toUInt64 63)).toInt64) &&& 6148914691236517205)) &&& 3689348814741910323) + ((((x - (((x.toUInt64 >>> ((1 : Int32).toInt64.toUInt64 &&& Int64.toUInt64 63)).toInt64) &&& 6148914691236517205)).toUInt64 >>> ((2 : Int32).toInt64.toUInt64 &&& Int64.toUInt64 63)).toInt64) &&& 3689348814741910323)) + (((((x - (((x.toUInt64 >>> ((1 : Int32).toInt64.toUInt64 &&& Int64.toUInt64 63)).toInt64) &&& 6148914691236517205)) &&& 3689348814741910323) + ((((x - (((x.toUInt64 >>> ((1 : Int32).toInt64.toUInt64 &&& Int64.toUInt64 63)).toInt64) &&& 6148914691236517205)).toUInt64 >>> ((2 : Int32).toInt64.toUInt64 &&& Int64.toUInt64 63)).toInt64) &&& 3689348814741910323)).toUInt64 >>> ((4 : Int32).toInt64.toUInt64 &&& Int64.toUInt64 63)).toInt64)) &&& 1085102592571150095).toUInt64 >>> ((8 : Int32).toInt64.toUInt64 &&& Int64.toUInt64 63)).toInt64)) + ((((((((x - (((x.toUInt64 >>> ((1 : Int32).toInt64.toUInt64 &&& Int64.toUInt64 63)).toInt64) &&& 6148914691236517205)) &&& 3689348814741910323) + ((((x - (((x.toUInt64 >>> ((1 : Int32).toInt64.toUInt64 &&& Int64.toUInt64 63)).toInt64) &&& 6148914691236517205)).toUInt64 >>> ((2 : Int32).toInt64.toUInt64 &&& Int64.toUInt64 63)).toInt64) &&& 3689348814741910323)) + (((((x - (((x.toUInt64 >>> ((1 : Int32).toInt64.toUInt64 &&& Int64.toUInt64 63)).toInt64) &&& 6148914691236517205)) &&& 3689348814741910323) + ((((x - (((x.toUInt64 >>> ((1 : Int32).toInt64.toUInt64 &&& Int64.toUInt64 63)).toInt64) &&& 6148914691236517205)).toUInt64 >>> ((2 : Int32).toInt64.toUInt64 &&& Int64.toUInt64 63)).toInt64) &&& 3689348814741910323)).toUInt64 >>> ((4 : Int32).toInt64.toUInt64 &&& Int64.toUInt64 63)).toInt64)) &&& 1085102592571150095) + (((((((x - (((x.toUInt64 >>> ((1 : Int32).toInt64.toUInt64 &&& Int64.toUInt64 63)).toInt64) &&& 6148914691236517205)) &&& 3689348814741910323) + ((((x - (((x.toUInt64 >>> ((1 : Int32).toInt64.toUInt64 &&& Int64.toUInt64 63)).toInt64) &&& 6148914691236517205)).toUInt64 >>> ((2 : Int32).toInt64.toUInt64 &&& Int64.toUInt64 63)).toInt64) &&& 3689348814741910323)) + (((((x - (((x.toUInt64 >>> ((1 : Int32).toInt64.toUInt64 &&& Int64.toUInt64 63)).toInt64) &&& 6148914691236517205)) &&& 3689348814741910323) + ((((x - (((x.toUInt64 >>> ((1 : Int32).toInt64.toUInt64 &&& Int64.toUInt64 63)).toInt64) &&& 6148914691236517205)).toUInt64 >>> ((2 : Int32).toInt64.toUInt64 &&& Int64.toUInt64 63)).toInt64) &&& 3689348814741910323)).toUInt64 >>> ((4 : Int32).toInt64.toUInt64 &&& Int64.toUInt64 63)).toInt64)) &&& 1085102592571150095).toUInt64 >>> ((8 : Int32).toInt64.toUInt64 &&& Int64.toUInt64 63)).toInt64)).toUInt64 >>> ((16 : Int32).toInt64.toUInt64 &&& Int64.toUInt64 63)).toInt64)).toUInt64 >>> ((32 : Int32).toInt64.toUInt64 &&& Int64.toUInt64 63)).toInt64)).toInt32) hx hb dJ13_bitCount_95d88_56 (rfl) ?_
  refine lv_bipush (v := 127) hx hb dJ13_bitCount_95d88_57 (by decide) ?_
  refine lv_iand hx hb dJ13_bitCount_95d88_59 ?_
  rw [hQ]
  exact W.iret (v := (((((((((x - (((x.toUInt64 >>> ((1 : Int32).toInt64.toUInt64 &&& Int64.toUInt64 63)).toInt64) &&& 6148914691236517205)) &&& 3689348814741910323) + ((((x - (((x.toUInt64 >>> ((1 : Int32).toInt64.toUInt64 &&& Int64.toUInt64 63)).toInt64) &&& 6148914691236517205)).toUInt64 >>> ((2 : Int32).toInt64.toUInt64 &&& Int64.toUInt64 63)).toInt64) &&& 3689348814741910323)) + (((((x - (((x.toUInt64 >>> ((1 : Int32).toInt64.toUInt64 &&& Int64.toUInt64 63)).toInt64) &&& 6148914691236517205)) &&& 3689348814741910323) + ((((x - (((x.toUInt64 >>> ((1 : Int32).toInt64.toUInt64 &&& Int64.toUInt64 63)).toInt64) &&& 6148914691236517205)).toUInt64 >>> ((2 : Int32).toInt64.toUInt64 &&& Int64.toUInt64 63)).toInt64) &&& 3689348814741910323)).toUInt64 >>> ((4 : Int32).toInt64.toUInt64 &&& Int64.toUInt64 63)).toInt64)) &&& 1085102592571150095) + (((((((x - (((x.toUInt64 >>> ((1 : Int32).toInt64.toUInt64 &&& Int64.toUInt64 63)).toInt64) &&& 6148914691236517205)) &&& 3689348814741910323) + ((((x - (((x.toUInt64 >>> ((1 : Int32).toInt64.toUInt64 &&& Int64.toUInt64 63)).toInt64) &&& 6148914691236517205)).toUInt64 >>> ((2 : Int32).toInt64.toUInt64 &&& Int64.toUInt64 63)).toInt64) &&& 3689348814741910323)) + (((((x - (((x.toUInt64 >>> ((1 : Int32).toInt64.toUInt64 &&& Int64.toUInt64 63)).toInt64) &&& 6148914691236517205)) &&& 3689348814741910323) + ((((x - (((x.toUInt64 >>> ((1 : Int32).toInt64.toUInt64 &&& Int64.toUInt64 63)).toInt64) &&& 6148914691236517205)).toUInt64 >>> ((2 : Int32).toInt64.toUInt64 &&& Int64.toUInt64 63)).toInt64) &&& 3689348814741910323)).toUInt64 >>> ((4 : Int32).toInt64.toUInt64 &&& Int64.toUInt64 63)).toInt64)) &&& 1085102592571150095).toUInt64 >>> ((8 : Int32).toInt64.toUInt64 &&& Int64.toUInt64 63)).toInt64)) + ((((((((x - (((x.toUInt64 >>> ((1 : Int32).toInt64.toUInt64 &&& Int64.toUInt64 63)).toInt64) &&& 6148914691236517205)) &&& 3689348814741910323) + ((((x - (((x.toUInt64 >>> ((1 : Int32).toInt64.toUInt64 &&& Int64.toUInt64 63)).toInt64) &&& 6148914691236517205)).toUInt64 >>> ((2 : Int32).toInt64.toUInt64 &&& Int64.toUInt64 63)).toInt64) &&& 3689348814741910323)) + (((((x - (((x.toUInt64 >>> ((1 : Int32).toInt64.toUInt64 &&& Int64.toUInt64 63)).toInt64) &&& 6148914691236517205)) &&& 3689348814741910323) + ((((x - (((x.toUInt64 >>> ((1 : Int32).toInt64.toUInt64 &&& Int64.toUInt64 63)).toInt64) &&& 6148914691236517205)).toUInt64 >>> ((2 : Int32).toInt64.toUInt64 &&& Int64.toUInt64 63)).toInt64) &&& 3689348814741910323)).toUInt64 >>> ((4 : Int32).toInt64.toUInt64 &&& Int64.toUInt64 63)).toInt64)) &&& 1085102592571150095) + (((((((x - (((x.toUInt64 >>> ((1 : Int32).toInt64.toUInt64 &&& Int64.toUInt64 63)).toInt64) &&& 6148914691236517205)) &&& 3689348814741910323) + ((((x - (((x.toUInt64 >>> ((1 : Int32).toInt64.toUInt64 &&& Int64.toUInt64 63)).toInt64) &&& 6148914691236517205)).toUInt64 >>> ((2 : Int32).toInt64.toUInt64 &&& Int64.toUInt64 63)).toInt64) &&& 3689348814741910323)) + (((((x - (((x.toUInt64 >>> ((1 : Int32).toInt64.toUInt64 &&& Int64.toUInt64 63)).toInt64) &&& 6148914691236517205)) &&& 3689348814741910323) + ((((x - (((x.toUInt64 >>> ((1 : Int32).toInt64.toUInt64 &&& Int64.toUInt64 63)).toInt64) &&& 6148914691236517205)).toUInt64 >>> ((2 : Int32).toInt64.toUInt64 &&& Int64.toUInt64 63)).toInt64) &&& 3689348814741910323)).toUInt64 >>> ((4 : Int32).toInt64.toUInt64 &&& Int64.toUInt64 63)).toInt64)) &&& 1085102592571150095).toUInt64 >>> ((8 : Int32).toInt64.toUInt64 &&& Int64.toUInt64 63)).toInt64)).toUInt64 >>> ((16 : Int32).toInt64.toUInt64 &&& Int64.toUInt64 63)).toInt64)) + (((((((((x - (((x.toUInt64 >>> ((1 : Int32).toInt64.toUInt64 &&& Int64.toUInt64 63)).toInt64) &&& 6148914691236517205)) &&& 3689348814741910323) + ((((x - (((x.toUInt64 >>> ((1 : Int32).toInt64.toUInt64 &&& Int64.toUInt64 63)).toInt64) &&& 6148914691236517205)).toUInt64 >>> ((2 : Int32).toInt64.toUInt64 &&& Int64.toUInt64 63)).toInt64) &&& 3689348814741910323)) + (((((x - (((x.toUInt64 >>> ((1 : Int32).toInt64.toUInt64 &&& Int64.toUInt64 63)).toInt64) &&& 6148914691236517205)) &&& 3689348814741910323) + ((((x - (((x.toUInt64 >>> ((1 : Int32).toInt64.toUInt64 &&& Int64.toUInt64 63)).toInt64) &&& 6148914691236517205)).toUInt64 >>> ((2 : Int32).toInt64.toUInt64 &&& Int64.toUInt64 63)).toInt64) &&& 3689348814741910323)).toUInt64 >>> ((4 : Int32).toInt64.toUInt64 &&& Int64.toUInt64 63)).toInt64)) &&& 1085102592571150095) + (((((((x - (((x.toUInt64 >>> ((1 : Int32).toInt64.toUInt64 &&& Int64.toUInt64 63)).toInt64) &&& 6148914691236517205)) &&& 3689348814741910323) + ((((x - (((x.toUInt64 >>> ((1 : Int32).toInt64.toUInt64 &&& Int64.toUInt64 63)).toInt64) &&& 6148914691236517205)).toUInt64 >>> ((2 : Int32).toInt64.toUInt64 &&& Int64.toUInt64 63)).toInt64) &&& 3689348814741910323)) + (((((x - (((x.toUInt64 >>> ((1 : Int32).toInt64.toUInt64 &&& Int64.toUInt64 63)).toInt64) &&& 6148914691236517205)) &&& 3689348814741910323) + ((((x - (((x.toUInt64 >>> ((1 : Int32).toInt64.toUInt64 &&& Int64.toUInt64 63)).toInt64) &&& 6148914691236517205)).toUInt64 >>> ((2 : Int32).toInt64.toUInt64 &&& Int64.toUInt64 63)).toInt64) &&& 3689348814741910323)).toUInt64 >>> ((4 : Int32).toInt64.toUInt64 &&& Int64.toUInt64 63)).toInt64)) &&& 1085102592571150095).toUInt64 >>> ((8 : Int32).toInt64.toUInt64 &&& Int64.toUInt64 63)).toInt64)) + ((((((((x - (((x.toUInt64 >>> ((1 : Int32).toInt64.toUInt64 &&& Int64.toUInt64 63)).toInt64) &&& 6148914691236517205)) &&& 3689348814741910323) + ((((x - (((x.toUInt64 >>> ((1 : Int32).toInt64.toUInt64 &&& Int64.toUInt64 63)).toInt64) &&& 6148914691236517205)).toUInt64 >>> ((2 : Int32).toInt64.toUInt64 &&& Int64.toUInt64 63)).toInt64) &&& 3689348814741910323)) + (((((x - (((x.toUInt64 >>> ((1 : Int32).toInt64.toUInt64 &&& Int64.toUInt64 63)).toInt64) &&& 6148914691236517205)) &&& 3689348814741910323) + ((((x - (((x.toUInt64 >>> ((1 : Int32).toInt64.toUInt64 &&& Int64.toUInt64 63)).toInt64) &&& 6148914691236517205)).toUInt64 >>> ((2 : Int32).toInt64.toUInt64 &&& Int64.toUInt64 63)).toInt64) &&& 3689348814741910323)).toUInt64 >>> ((4 : Int32).toInt64.toUInt64 &&& Int64.toUInt64 63)).toInt64)) &&& 1085102592571150095) + (((((((x - (((x.toUInt64 >>> ((1 : Int32).toInt64.toUInt64 &&& Int64.toUInt64 63)).toInt64) &&& 6148914691236517205)) &&& 3689348814741910323) + ((((x - (((x.toUInt64 >>> ((1 : Int32).toInt64.toUInt64 &&& Int64.toUInt64 63)).toInt64) &&& 6148914691236517205)).toUInt64 >>> ((2 : Int32).toInt64.toUInt64 &&& Int64.toUInt64 63)).toInt64) &&& 3689348814741910323)) + (((((x - (((x.toUInt64 >>> ((1 : Int32).toInt64.toUInt64 &&& Int64.toUInt64 63)).toInt64) &&& 6148914691236517205)) &&& 3689348814741910323) + ((((x - (((x.toUInt64 >>> ((1 : Int32).toInt64.toUInt64 &&& Int64.toUInt64 63)).toInt64) &&& 6148914691236517205)).toUInt64 >>> ((2 : Int32).toInt64.toUInt64 &&& Int64.toUInt64 63)).toInt64) &&& 3689348814741910323)).toUInt64 >>> ((4 : Int32).toInt64.toUInt64 &&& Int64.toUInt64 63)).toInt64)) &&& 1085102592571150095).toUInt64 >>> ((8 : Int32).toInt64.toUInt64 &&& Int64.toUInt64 63)).toInt64)).toUInt64 >>> ((16 : Int32).toInt64.toUInt64 &&& Int64.toUInt64 63)).toInt64)).toUInt64 >>> ((32 : Int32).toInt64.toUInt64 &&& Int64.toUInt64 63)).toInt64)).toInt32) &&& 127) hx hb hr (fun tQ htQ hWQ => ⟨(((((((((x - (((x.toUInt64 >>> ((1 : Int32).toInt64.toUInt64 &&& Int64.toUInt64 63)).toInt64) &&& 6148914691236517205)) &&& 3689348814741910323) + ((((x - (((x.toUInt64 >>> ((1 : Int32).toInt64.toUInt64 &&& Int64.toUInt64 63)).toInt64) &&& 6148914691236517205)).toUInt64 >>> ((2 : Int32).toInt64.toUInt64 &&& Int64.toUInt64 63)).toInt64) &&& 3689348814741910323)) + (((((x - (((x.toUInt64 >>> ((1 : Int32).toInt64.toUInt64 &&& Int64.toUInt64 63)).toInt64) &&& 6148914691236517205)) &&& 3689348814741910323) + ((((x - (((x.toUInt64 >>> ((1 : Int32).toInt64.toUInt64 &&& Int64.toUInt64 63)).toInt64) &&& 6148914691236517205)).toUInt64 >>> ((2 : Int32).toInt64.toUInt64 &&& Int64.toUInt64 63)).toInt64) &&& 3689348814741910323)).toUInt64 >>> ((4 : Int32).toInt64.toUInt64 &&& Int64.toUInt64 63)).toInt64)) &&& 1085102592571150095) + (((((((x - (((x.toUInt64 >>> ((1 : Int32).toInt64.toUInt64 &&& Int64.toUInt64 63)).toInt64) &&& 6148914691236517205)) &&& 3689348814741910323) + ((((x - (((x.toUInt64 >>> ((1 : Int32).toInt64.toUInt64 &&& Int64.toUInt64 63)).toInt64) &&& 6148914691236517205)).toUInt64 >>> ((2 : Int32).toInt64.toUInt64 &&& Int64.toUInt64 63)).toInt64) &&& 3689348814741910323)) + (((((x - (((x.toUInt64 >>> ((1 : Int32).toInt64.toUInt64 &&& Int64.toUInt64 63)).toInt64) &&& 6148914691236517205)) &&& 3689348814741910323) + ((((x - (((x.toUInt64 >>> ((1 : Int32).toInt64.toUInt64 &&& Int64.toUInt64 63)).toInt64) &&& 6148914691236517205)).toUInt64 >>> ((2 : Int32).toInt64.toUInt64 &&& Int64.toUInt64 63)).toInt64) &&& 3689348814741910323)).toUInt64 >>> ((4 : Int32).toInt64.toUInt64 &&& Int64.toUInt64 63)).toInt64)) &&& 1085102592571150095).toUInt64 >>> ((8 : Int32).toInt64.toUInt64 &&& Int64.toUInt64 63)).toInt64)) + ((((((((x - (((x.toUInt64 >>> ((1 : Int32).toInt64.toUInt64 &&& Int64.toUInt64 63)).toInt64) &&& 6148914691236517205)) &&& 3689348814741910323) + ((((x - (((x.toUInt64 >>> ((1 : Int32).toInt64.toUInt64 &&& Int64.toUInt64 63)).toInt64) &&& 6148914691236517205)).toUInt64 >>> ((2 : Int32).toInt64.toUInt64 &&& Int64.toUInt64 63)).toInt64) &&& 3689348814741910323)) + (((((x - (((x.toUInt64 >>> ((1 : Int32).toInt64.toUInt64 &&& Int64.toUInt64 63)).toInt64) &&& 6148914691236517205)) &&& 3689348814741910323) + ((((x - (((x.toUInt64 >>> ((1 : Int32).toInt64.toUInt64 &&& Int64.toUInt64 63)).toInt64) &&& 6148914691236517205)).toUInt64 >>> ((2 : Int32).toInt64.toUInt64 &&& Int64.toUInt64 63)).toInt64) &&& 3689348814741910323)).toUInt64 >>> ((4 : Int32).toInt64.toUInt64 &&& Int64.toUInt64 63)).toInt64)) &&& 1085102592571150095) + (((((((x - (((x.toUInt64 >>> ((1 : Int32).toInt64.toUInt64 &&& Int64.toUInt64 63)).toInt64) &&& 6148914691236517205)) &&& 3689348814741910323) + ((((x - (((x.toUInt64 >>> ((1 : Int32).toInt64.toUInt64 &&& Int64.toUInt64 63)).toInt64) &&& 6148914691236517205)).toUInt64 >>> ((2 : Int32).toInt64.toUInt64 &&& Int64.toUInt64 63)).toInt64) &&& 3689348814741910323)) + (((((x - (((x.toUInt64 >>> ((1 : Int32).toInt64.toUInt64 &&& Int64.toUInt64 63)).toInt64) &&& 6148914691236517205)) &&& 3689348814741910323) + ((((x - (((x.toUInt64 >>> ((1 : Int32).toInt64.toUInt64 &&& Int64.toUInt64 63)).toInt64) &&& 6148914691236517205)).toUInt64 >>> ((2 : Int32).toInt64.toUInt64 &&& Int64.toUInt64 63)).toInt64) &&& 3689348814741910323)).toUInt64 >>> ((4 : Int32).toInt64.toUInt64 &&& Int64.toUInt64 63)).toInt64)) &&& 1085102592571150095).toUInt64 >>> ((8 : Int32).toInt64.toUInt64 &&& Int64.toUInt64 63)).toInt64)).toUInt64 >>> ((16 : Int32).toInt64.toUInt64 &&& Int64.toUInt64 63)).toInt64)) + (((((((((x - (((x.toUInt64 >>> ((1 : Int32).toInt64.toUInt64 &&& Int64.toUInt64 63)).toInt64) &&& 6148914691236517205)) &&& 3689348814741910323) + ((((x - (((x.toUInt64 >>> ((1 : Int32).toInt64.toUInt64 &&& Int64.toUInt64 63)).toInt64) &&& 6148914691236517205)).toUInt64 >>> ((2 : Int32).toInt64.toUInt64 &&& Int64.toUInt64 63)).toInt64) &&& 3689348814741910323)) + (((((x - (((x.toUInt64 >>> ((1 : Int32).toInt64.toUInt64 &&& Int64.toUInt64 63)).toInt64) &&& 6148914691236517205)) &&& 3689348814741910323) + ((((x - (((x.toUInt64 >>> ((1 : Int32).toInt64.toUInt64 &&& Int64.toUInt64 63)).toInt64) &&& 6148914691236517205)).toUInt64 >>> ((2 : Int32).toInt64.toUInt64 &&& Int64.toUInt64 63)).toInt64) &&& 3689348814741910323)).toUInt64 >>> ((4 : Int32).toInt64.toUInt64 &&& Int64.toUInt64 63)).toInt64)) &&& 1085102592571150095) + (((((((x - (((x.toUInt64 >>> ((1 : Int32).toInt64.toUInt64 &&& Int64.toUInt64 63)).toInt64) &&& 6148914691236517205)) &&& 3689348814741910323) + ((((x - (((x.toUInt64 >>> ((1 : Int32).toInt64.toUInt64 &&& Int64.toUInt64 63)).toInt64) &&& 6148914691236517205)).toUInt64 >>> ((2 : Int32).toInt64.toUInt64 &&& Int64.toUInt64 63)).toInt64) &&& 3689348814741910323)) + (((((x - (((x.toUInt64 >>> ((1 : Int32).toInt64.toUInt64 &&& Int64.toUInt64 63)).toInt64) &&& 6148914691236517205)) &&& 3689348814741910323) + ((((x - (((x.toUInt64 >>> ((1 : Int32).toInt64.toUInt64 &&& Int64.toUInt64 63)).toInt64) &&& 6148914691236517205)).toUInt64 >>> ((2 : Int32).toInt64.toUInt64 &&& Int64.toUInt64 63)).toInt64) &&& 3689348814741910323)).toUInt64 >>> ((4 : Int32).toInt64.toUInt64 &&& Int64.toUInt64 63)).toInt64)) &&& 1085102592571150095).toUInt64 >>> ((8 : Int32).toInt64.toUInt64 &&& Int64.toUInt64 63)).toInt64)) + ((((((((x - (((x.toUInt64 >>> ((1 : Int32).toInt64.toUInt64 &&& Int64.toUInt64 63)).toInt64) &&& 6148914691236517205)) &&& 3689348814741910323) + ((((x - (((x.toUInt64 >>> ((1 : Int32).toInt64.toUInt64 &&& Int64.toUInt64 63)).toInt64) &&& 6148914691236517205)).toUInt64 >>> ((2 : Int32).toInt64.toUInt64 &&& Int64.toUInt64 63)).toInt64) &&& 3689348814741910323)) + (((((x - (((x.toUInt64 >>> ((1 : Int32).toInt64.toUInt64 &&& Int64.toUInt64 63)).toInt64) &&& 6148914691236517205)) &&& 3689348814741910323) + ((((x - (((x.toUInt64 >>> ((1 : Int32).toInt64.toUInt64 &&& Int64.toUInt64 63)).toInt64) &&& 6148914691236517205)).toUInt64 >>> ((2 : Int32).toInt64.toUInt64 &&& Int64.toUInt64 63)).toInt64) &&& 3689348814741910323)).toUInt64 >>> ((4 : Int32).toInt64.toUInt64 &&& Int64.toUInt64 63)).toInt64)) &&& 1085102592571150095) + (((((((x - (((x.toUInt64 >>> ((1 : Int32).toInt64.toUInt64 &&& Int64.toUInt64 63)).toInt64) &&& 6148914691236517205)) &&& 3689348814741910323) + ((((x - (((x.toUInt64 >>> ((1 : Int32).toInt64.toUInt64 &&& Int64.toUInt64 63)).toInt64) &&& 6148914691236517205)).toUInt64 >>> ((2 : Int32).toInt64.toUInt64 &&& Int64.toUInt64 63)).toInt64) &&& 3689348814741910323)) + (((((x - (((x.toUInt64 >>> ((1 : Int32).toInt64.toUInt64 &&& Int64.toUInt64 63)).toInt64) &&& 6148914691236517205)) &&& 3689348814741910323) + ((((x - (((x.toUInt64 >>> ((1 : Int32).toInt64.toUInt64 &&& Int64.toUInt64 63)).toInt64) &&& 6148914691236517205)).toUInt64 >>> ((2 : Int32).toInt64.toUInt64 &&& Int64.toUInt64 63)).toInt64) &&& 3689348814741910323)).toUInt64 >>> ((4 : Int32).toInt64.toUInt64 &&& Int64.toUInt64 63)).toInt64)) &&& 1085102592571150095).toUInt64 >>> ((8 : Int32).toInt64.toUInt64 &&& Int64.toUInt64 63)).toInt64)).toUInt64 >>> ((16 : Int32).toInt64.toUInt64 &&& Int64.toUInt64 63)).toInt64)).toUInt64 >>> ((32 : Int32).toInt64.toUInt64 &&& Int64.toUInt64 63)).toInt64)).toInt32) &&& 127, rfl, trivial, by rw [htQ]⟩) (fun q hq => absurd hq List.not_mem_nil) dJ13_bitCount_95d88_60

theorem kc_xEdges_0 : (.constantLong RX11 71 (-68719476736) : Cond) ∈ wsX11_edges := kc_of 527 rfl rfl rfl
theorem kc_xEdges_1 : ∀ w ∈ wsX110, w ∈ wsX11_edges := fun w h => List.mem_cons_of_mem _ (gin_wsX110 w h)
theorem kc_xEdges_2 : (.fieldLink RX11 14 "MistHeaps" "scene" "LMistHeaps$Scene;" : Cond) ∈ wsX11_edges := kc_of 328 rfl rfl rfl
theorem kc_xEdges_3 : ∀ w ∈ wsX80, w ∈ wsX11_edges := fun w h => List.mem_cons_of_mem _ (gin_wsX80 w h)
theorem kc_xEdges_4 : (.fieldLink RX11 73 "MistHeaps$Scene" "edges" "J" : Cond) ∈ wsX11_edges := kc_of 161 rfl rfl rfl
set_option maxHeartbeats 4000000 in
set_option maxRecDepth 100000 in
theorem c_xEdges (l : Launch) (dC : Nat → ClassId) (dI : Nat → Nat → Nat) (h0 : Nat) (sc : Nat) (kp : Nat) (bl : Nat) (go : Nat) (ch : Nat) (bo : Nat) (aTp : Nat) (aHl : Nat) (aHs : Nat) (aWk : Nat) (aBk : Nat) (aFc : Nat) (ts : Nat) (nh : Nat) (n : Nat) (wz : Nat) (bz : Nat) (mi : Int32) (sn : Int32) (ik : Int32) (ed : Int64) (mk : Int64) (sz : Nat) : Met l yX11_edges wsX11_edges ({ frames := 1, cells := 0, slots := 0, locals := 21 } : Room) (va_Pc [.ref h0, .long mk] (fun U => U.heap.size = sz ∧ va_P (dC, dI) vwCl [(zo13rrirrrr h0 sc kp ik bl go ch bo), (zo10ririliiriririr sc aTp (nI ts) aHl (nI nh) ed mi sn aHs (nI n) aWk (nI wz) aBk (nI bz) aFc)] U.heap ∧ va_K (dC, dI) vwCl [] U ∧ va_D (fun _ => True) [(zo13rrirrrr h0 sc kp ik bl go ch bo), (zo10ririliiriririr sc aTp (nI ts) aHl (nI nh) ed mi sn aHs (nI n) aWk (nI wz) aBk (nI bz) aFc)])) (va_Qi (fun (r : Int32) (u : Int64) => match u with | ed9 => True) (fun (u : Int64) (t : State) => match u with | ed9 => va_P (dC, dI) vwCl [(zo13rrirrrr h0 sc kp ik bl go ch bo), (zo10ririliiriririr sc aTp (nI ts) aHl (nI nh) ed9 mi sn aHs (nI n) aWk (nI wz) aBk (nI bz) aFc)] t.heap ∧ va_K (dC, dI) vwCl [] t ∧ va_D (va_A [(zo13rrirrrr h0 sc kp ik bl go ch bo), (zo10ririliiriririr sc aTp (nI ts) aHl (nI nh) ed mi sn aHs (nI n) aWk (nI wz) aBk (nI bz) aFc)] sz) [(zo13rrirrrr h0 sc kp ik bl go ch bo), (zo10ririliiriririr sc aTp (nI ts) aHl (nI nh) ed9 mi sn aHs (nI n) aWk (nI wz) aBk (nI bz) aFc)]) (va_A [(zo13rrirrrr h0 sc kp ik bl go ch bo), (zo10ririliiriririr sc aTp (nI ts) aHl (nI nh) ed mi sn aHs (nI n) aWk (nI wz) aBk (nI bz) aFc)] sz)) 0 0 (va_A [(zo13rrirrrr h0 sc kp ik bl go ch bo), (zo10ririliiriririr sc aTp (nI ts) aHl (nI nh) ed mi sn aHs (nI n) aWk (nI wz) aBk (nI bz) aFc)] sz) := by
  refine met_ofQ (cc := cX11_edges) (maxL := 4) (ret := (some .int)) (by decide) rfl ?_
  intro p e s m args below meth c s₁ Q B hml hv hQ
  obtain ⟨rfl, hsz, hP, hK, hD0⟩ := hv
  have hx := B.exec
  have hb := B.bytes
  have hr := B.returns
  have hts := atoms_spec (ws := wsX11_edges) B.pre
  have hown : s.vm.findClass RX11 = some m.cls := findClass_of_methodNamed B.named
  have hlocks := B.notSynchronized
  subst hsz
  have hD := hD0.self (sz := s.heap.size)
  generalize hAe : va_A [(zo13rrirrrr h0 sc kp ik bl go ch bo), (zo10ririliiriririr sc aTp (nI ts) aHl (nI nh) ed mi sn aHs (nI n) aWk (nI wz) aBk (nI bz) aFc)] s.heap.size = A at hD hQ ⊢
  have hA : ∀ q : Nat, s.heap.size ≤ q → A q := fun q h => by rw [← hAe]; exact Or.inr h
  have hS : va_S A s.heap s.heap [] := va_S.rf
  have hl := lv_entry [.ref h0, .long mk] (n := 4) (Nat.le_of_ble_eq_true rfl)
  rw [lg_entry_eq]
  generalize (lg_sl [.ref h0, .long mk] ++ List.replicate (4 - (lg_sl [.ref h0, .long mk]).length) Slot.unset).toArray = ls at hl ⊢
  generalize hag : ([.ref h0, .long mk] : List Value).toArray = args at hts hQ ⊢
  have hl : lv_has ls 4 [(0, .ref h0), (1, .long mk)] := hl
  obtain ⟨H, hH⟩ : ∃ H : Heap, H = s.heap := ⟨_, rfl⟩
  rw [← hH] at hP
  rw [← hH]
  have hS : va_S A s.heap H [] := by rw [hH]; exact hS
  obtain ⟨locs, hlo⟩ : ∃ L : List Loc, L = [] := ⟨_, rfl⟩
  rw [← hlo] at hS
  rw [← hlo]
  clear hH hlo
  refine lv_lload_n hx hb dX11_edges_0 rfl (lv_at hl 1 rfl) ?_
  refine lv_ldc2 (v := (-68719476736)) hx hb hown (hts (.constantLong RX11 71 (-68719476736)) kc_xEdges_0) dX11_edges_1 ?_
  refine lv_land hx hb dX11_edges_4 ?_
  refine lv_lconst (v := 0) hx hb dX11_edges_5 (by decide) ?_
  refine W.lcmp hx hb dX11_edges_6 ?_
  refine lv_if_eq (tgt := 13) hx hb dX11_edges_7 (by decide) (fun c_1 => ?_) (fun c_1 => ?_)
  · skip
    refine lv_aload_n hx hb dX11_edges_13 rfl (lv_at hl 0 rfl) ?_
    refine va_get (D := (dC, dI)) (ci := 13) (v := .ref sc) (C := RX11) (T := TX11) (N := 7) hx hb hts kc_xEdges_1 hown hK hP 0 rfl rfl 0 (by decide) (hts (.fieldLink RX11 14 "MistHeaps" "scene" "LMistHeaps$Scene;") kc_xEdges_2) (fun _ h9 => h9) rfl dX11_edges_14 ?_
    refine va_get (D := (dC, dI)) (ci := 10) (v := .long ed) (C := RX8) (T := TX8) (N := 14) hx hb hts kc_xEdges_3 hown hK hP 1 rfl rfl 4 (by decide) (hts (.fieldLink RX11 73 "MistHeaps$Scene" "edges" "J") kc_xEdges_4) (fun _ h9 => h9) rfl dX11_edges_17 ?_
    refine vp_callSi (va_runS (As := [.long ed]) (rest := []) ⟨hx, hb, hml, hown, hts⟩ (c_bits l dC dI ed) (va_cwS 1 hts gX11_edges_J13_bitCount_95d88 rfl rfl rfl hd_yJ13_bitCount_95d88.2 ⟨Nat.le_of_ble_eq_true rfl, Nat.le_of_ble_eq_true rfl⟩) ⟨fun a U g mk q => ⟨q.1, trivial⟩, fun U hU hW => ⟨rfl, trivial⟩⟩ rfl rfl hl.1 rfl (lv_room (Nat.le_of_ble_eq_true rfl)) dX11_edges_20 ⟨Nat.le_of_ble_eq_true rfl, Nat.le_of_ble_eq_true rfl⟩).run (fun r_2 hw_3 => ?_)
    refine lv_istore_n (lv' := [(3, .int r_2), (0, .ref h0), (1, .long mk)]) hx hb dX11_edges_23 rfl hl (by decide) rfl (fun ls hl => ?_)
    refine lv_aload_n hx hb dX11_edges_24 rfl (lv_at hl 1 rfl) ?_
    refine va_get (D := (dC, dI)) (ci := 13) (v := .ref sc) (C := RX11) (T := TX11) (N := 7) hx hb hts kc_xEdges_1 hown hK hP 0 rfl rfl 0 (by decide) (hts (.fieldLink RX11 14 "MistHeaps" "scene" "LMistHeaps$Scene;") kc_xEdges_2) (fun _ h9 => h9) rfl dX11_edges_25 ?_
    refine lv_lload_n hx hb dX11_edges_28 rfl (lv_at hl 2 rfl) ?_
    refine va_put (D := (dC, dI)) (ci := 10) (v := .long mk) (ty := .long) (C := RX8) (T := TX8) (N := 14) hx hb hts kc_xEdges_3 tyX8 tyX8_ok nmX8 hown hK hP hD hS 1 rfl rfl 4 (by decide) (hts (.fieldLink RX11 73 "MistHeaps$Scene" "edges" "J") kc_xEdges_4) (fun _ h9 => h9) rfl (by decide +kernel) rfl rfl (Nat.le_of_ble_eq_true rfl) dX11_edges_29 (fun H locs hP hD hS => ?_)
    have hP : va_P (dC, dI) vwCl [(zo13rrirrrr h0 sc kp ik bl go ch bo), (zo10ririliiriririr sc aTp (nI ts) aHl (nI nh) mk mi sn aHs (nI n) aWk (nI wz) aBk (nI bz) aFc)] H := hP
    have hD : va_D A [(zo13rrirrrr h0 sc kp ik bl go ch bo), (zo10ririliiriririr sc aTp (nI ts) aHl (nI nh) mk mi sn aHs (nI n) aWk (nI wz) aBk (nI bz) aFc)] := hD
    refine lv_iload_n hx hb dX11_edges_32 rfl (lv_at hl 0 rfl) ?_
    rw [hQ]
    have hP9 := hP.sub (ws' := [(zo13rrirrrr h0 sc kp ik bl go ch bo), (zo10ririliiriririr sc aTp (nI ts) aHl (nI nh) mk mi sn aHs (nI n) aWk (nI wz) aBk (nI bz) aFc)]) [0, 1] rfl
    have hD9 := hD.sub (ws' := [(zo13rrirrrr h0 sc kp ik bl go ch bo), (zo10ririliiriririr sc aTp (nI ts) aHl (nI nh) mk mi sn aHs (nI n) aWk (nI wz) aBk (nI bz) aFc)]) [0, 1] (by decide) rfl
    have hK9 := hK.sub (tys' := []) [] rfl
    exact W.iret (v := r_2) hx hb hr (fun tQ htQ hWQ => ⟨⟨r_2, mk, rfl, trivial, by rw [htQ]; exact hP9, va_K.moved hWQ.alike hK9, hD9⟩, hS.F htQ⟩) hS.2.2 dX11_edges_33
  · skip
    refine lv_bipush (v := (-2)) hx hb dX11_edges_10 (by decide) ?_
    rw [hQ]
    have hP9 := hP.sub (ws' := [(zo13rrirrrr h0 sc kp ik bl go ch bo), (zo10ririliiriririr sc aTp (nI ts) aHl (nI nh) ed mi sn aHs (nI n) aWk (nI wz) aBk (nI bz) aFc)]) [0, 1] rfl
    have hD9 := hD.sub (ws' := [(zo13rrirrrr h0 sc kp ik bl go ch bo), (zo10ririliiriririr sc aTp (nI ts) aHl (nI nh) ed mi sn aHs (nI n) aWk (nI wz) aBk (nI bz) aFc)]) [0, 1] (by decide) rfl
    have hK9 := hK.sub (tys' := []) [] rfl
    exact W.iret (v := (-2)) hx hb hr (fun tQ htQ hWQ => ⟨⟨(-2), ed, rfl, trivial, by rw [htQ]; exact hP9, va_K.moved hWQ.alike hK9, hD9⟩, hS.F htQ⟩) hS.2.2 dX11_edges_12

theorem kc_xTold_0 : ∀ w ∈ wsX110, w ∈ wsX11_told := fun w h => List.mem_cons_of_mem _ (gin_wsX110 w h)
theorem kc_xTold_1 : (.fieldLink RX11 14 "MistHeaps" "scene" "LMistHeaps$Scene;" : Cond) ∈ wsX11_told := kc_of 328 rfl rfl rfl
theorem kc_xTold_2 : ∀ w ∈ wsX80, w ∈ wsX11_told := fun w h => List.mem_cons_of_mem _ (gin_wsX80 w h)
theorem kc_xTold_3 : (.fieldLink RX11 85 "MistHeaps$Scene" "mist" "I" : Cond) ∈ wsX11_told := kc_of 164 rfl rfl rfl
theorem kc_xTold_4 : (.fieldLink RX11 88 "MistHeaps$Scene" "snow" "I" : Cond) ∈ wsX11_told := kc_of 166 rfl rfl rfl
theorem kc_xTold_5 : (.fieldLink RX11 68 "MistHeaps$Scene" "hill" "LMistHeaps$Hill;" : Cond) ∈ wsX11_told := kc_of 157 rfl rfl rfl
theorem kc_xTold_6 : (.fieldLink RX11 91 "MistHeaps$Hill" "sight" "I" : Cond) ∈ wsX11_told := kc_of 115 rfl rfl rfl
theorem kc_xTold_7 : ∀ w ∈ wsX50, w ∈ wsX11_told := fun w h => List.mem_cons_of_mem _ (gin_wsX50 w h)
theorem kc_xTold_8 : (.fieldLink RX11 73 "MistHeaps$Scene" "edges" "J" : Cond) ∈ wsX11_told := kc_of 161 rfl rfl rfl
set_option maxHeartbeats 4000000 in
set_option maxRecDepth 100000 in
theorem c_xTold (l : Launch) (dC : Nat → ClassId) (dI : Nat → Nat → Nat)  (h0 : Nat) (sc : Nat) (kp : Nat) (bl : Nat) (go : Nat) (ch : Nat) (bo : Nat) (aTp : Nat) (aHl : Nat) (aHs : Nat) (aWk : Nat) (aBk : Nat) (aFc : Nat) (bW : Nat) (bA : Nat) (bE : Nat) (bC : Nat) (ts : Nat) (nh : Nat) (n : Nat) (wz : Nat) (bz : Nat) (cl : Nat) (mi : Int32) (sn : Int32) (sg : Int32) (cdd : Int32) (szz : Int32) (att : Int32) (nmb : Int32) (ik : Int32) (x : Int32) (ed : Int64) (cbW : ClassId) (cbA : ClassId) (cbE : ClassId) (cbC : ClassId) (fbW : Nat → Int32) (fbA : Nat → Int32) (fbE : Nat → Int32) (fbC : Nat → Int32) (tpv : Value) : Met l yX11_told wsX11_told ({ frames := 1, cells := 0, slots := 0, locals := 21 } : Room) (va_Pc [.ref h0, .int x] (fun U => va_P (dC, dI) vwCl [(zo13rrirrrr h0 sc kp ik bl go ch bo), (zo10ririliiriririr sc aTp (nI ts) aHl (nI nh) ed mi sn aHs (nI n) aWk (nI wz) aBk (nI bz) aFc)] U.heap ∧ va_K (dC, dI) vwCl [] U ∧ Fz dC dI [(zo7iirrrriviii aHl sg (nI cl) bW bA bE bC cdd tpv szz att nmb), (zaI bW cbW 10 fbW), (zaI bA cbA 10 fbA), (zaI bE cbE 10 fbE), (zaI bC cbC 100 fbC)] [(cbW, .int), (cbA, .int), (cbE, .int), (cbC, .int)] (fun _ => False) U)) (vp_Si (fun r => (x = 0 → r = mi) ∧ (x = 1 → r = sn))) 0 0 (fun _ => False) := by
  refine met_ofQ (cc := cX11_told) (maxL := 2) (ret := (some .int)) (by decide) rfl ?_
  intro p e s m args below meth c s₁ Q B hml hv hQ
  obtain ⟨rfl, hP, hK, hZ⟩ := hv
  have hx := B.exec
  have hb := B.bytes
  have hr := B.returns
  have hts := atoms_spec (ws := wsX11_told) B.pre
  have hown : s.vm.findClass RX11 = some m.cls := findClass_of_methodNamed B.named
  have hlocks := B.notSynchronized
  obtain ⟨A, hAe⟩ : ∃ A : Nat → Prop, A = fun _ => False := ⟨_, rfl⟩
  rw [← hAe] at hQ hZ
  have hS : va_S A s.heap s.heap [] := va_S.rf
  have hl := lv_entry [.ref h0, .int x] (n := 2) (Nat.le_of_ble_eq_true rfl)
  rw [lg_entry_eq]
  generalize (lg_sl [.ref h0, .int x] ++ List.replicate (2 - (lg_sl [.ref h0, .int x]).length) Slot.unset).toArray = ls at hl ⊢
  generalize hag : ([.ref h0, .int x] : List Value).toArray = args at hts hQ ⊢
  have hl : lv_has ls 2 [(0, .ref h0), (1, .int x)] := hl
  refine lv_iload_n hx hb dX11_told_0 rfl (lv_at hl 1 rfl) ?_
  by_cases c_1_0 : x = 0
  · skip
    refine lv_tableIn (tgt := 32) hx hb dX11_told_1 (by rw [c_1_0]; decide) (by rw [c_1_0]; decide) (by rw [c_1_0]; rfl) (by decide) ?_
    refine lv_aload_n hx hb dX11_told_32 rfl (lv_at hl 0 rfl) ?_
    refine va_get (D := (dC, dI)) (ci := 13) (v := .ref sc) (C := RX11) (T := TX11) (N := 7) hx hb hts kc_xTold_0 hown hK hP 0 rfl rfl 0 (by decide) (hts (.fieldLink RX11 14 "MistHeaps" "scene" "LMistHeaps$Scene;") kc_xTold_1) (fun _ h9 => h9) rfl dX11_told_33 ?_
    refine va_get (D := (dC, dI)) (ci := 10) (v := .int mi) (C := RX8) (T := TX8) (N := 14) hx hb hts kc_xTold_2 hown hK hP 1 rfl rfl 5 (by decide) (hts (.fieldLink RX11 85 "MistHeaps$Scene" "mist" "I") kc_xTold_3) (fun _ h9 => h9) rfl dX11_told_36 ?_
    rw [hQ]
    exact W.iret (v := mi) hx hb hr (fun tQ htQ hWQ => ⟨mi, rfl, ⟨fun e9 => by first | rfl | exact absurd e9 c_1_0, fun e9 => by first | rfl | exact absurd e9 c_1_1 | exact absurd (c_1_0.symm.trans e9) (by decide)⟩, by rw [htQ]⟩) (fun q hq => absurd hq List.not_mem_nil) dX11_told_39
  by_cases c_1_1 : x = 1
  · skip
    refine lv_tableIn (tgt := 40) hx hb dX11_told_1 (by rw [c_1_1]; decide) (by rw [c_1_1]; decide) (by rw [c_1_1]; rfl) (by decide) ?_
    refine lv_aload_n hx hb dX11_told_40 rfl (lv_at hl 0 rfl) ?_
    refine va_get (D := (dC, dI)) (ci := 13) (v := .ref sc) (C := RX11) (T := TX11) (N := 7) hx hb hts kc_xTold_0 hown hK hP 0 rfl rfl 0 (by decide) (hts (.fieldLink RX11 14 "MistHeaps" "scene" "LMistHeaps$Scene;") kc_xTold_1) (fun _ h9 => h9) rfl dX11_told_41 ?_
    refine va_get (D := (dC, dI)) (ci := 10) (v := .int sn) (C := RX8) (T := TX8) (N := 14) hx hb hts kc_xTold_2 hown hK hP 1 rfl rfl 6 (by decide) (hts (.fieldLink RX11 88 "MistHeaps$Scene" "snow" "I") kc_xTold_4) (fun _ h9 => h9) rfl dX11_told_44 ?_
    rw [hQ]
    exact W.iret (v := sn) hx hb hr (fun tQ htQ hWQ => ⟨sn, rfl, ⟨fun e9 => by first | rfl | exact absurd e9 c_1_0, fun e9 => by first | rfl | exact absurd e9 c_1_1 | exact absurd (c_1_0.symm.trans e9) (by decide)⟩, by rw [htQ]⟩) (fun q hq => absurd hq List.not_mem_nil) dX11_told_47
  by_cases c_1_2 : x = 2
  · skip
    refine lv_tableIn (tgt := 48) hx hb dX11_told_1 (by rw [c_1_2]; decide) (by rw [c_1_2]; decide) (by rw [c_1_2]; rfl) (by decide) ?_
    refine lv_aload_n hx hb dX11_told_48 rfl (lv_at hl 0 rfl) ?_
    refine va_get (D := (dC, dI)) (ci := 13) (v := .ref sc) (C := RX11) (T := TX11) (N := 7) hx hb hts kc_xTold_0 hown hK hP 0 rfl rfl 0 (by decide) (hts (.fieldLink RX11 14 "MistHeaps" "scene" "LMistHeaps$Scene;") kc_xTold_1) (fun _ h9 => h9) rfl dX11_told_49 ?_
    refine va_get (D := (dC, dI)) (ci := 10) (v := .ref aHl) (C := RX8) (T := TX8) (N := 14) hx hb hts kc_xTold_2 hown hK hP 1 rfl rfl 2 (by decide) (hts (.fieldLink RX11 68 "MistHeaps$Scene" "hill" "LMistHeaps$Hill;") kc_xTold_5) (fun _ h9 => h9) rfl dX11_told_52 ?_
    refine va_get (D := (dC, dI)) (ci := 7) (v := .int sg) (C := RX5) (T := TX5) (N := 11) hx hb hts kc_xTold_7 hown hZ.2.1 (hZ.P hS) 0 rfl rfl 0 (by decide) (hts (.fieldLink RX11 91 "MistHeaps$Hill" "sight" "I") kc_xTold_6) (fun _ h9 => h9) rfl dX11_told_55 ?_
    rw [hQ]
    exact W.iret (v := sg) hx hb hr (fun tQ htQ hWQ => ⟨sg, rfl, ⟨fun e9 => by first | rfl | exact absurd e9 c_1_0, fun e9 => by first | rfl | exact absurd e9 c_1_1 | exact absurd (c_1_0.symm.trans e9) (by decide)⟩, by rw [htQ]⟩) (fun q hq => absurd hq List.not_mem_nil) dX11_told_58
  by_cases c_1_3 : x = 3
  · skip
    refine lv_tableIn (tgt := 59) hx hb dX11_told_1 (by rw [c_1_3]; decide) (by rw [c_1_3]; decide) (by rw [c_1_3]; rfl) (by decide) ?_
    refine lv_aload_n hx hb dX11_told_59 rfl (lv_at hl 0 rfl) ?_
    refine va_get (D := (dC, dI)) (ci := 13) (v := .ref sc) (C := RX11) (T := TX11) (N := 7) hx hb hts kc_xTold_0 hown hK hP 0 rfl rfl 0 (by decide) (hts (.fieldLink RX11 14 "MistHeaps" "scene" "LMistHeaps$Scene;") kc_xTold_1) (fun _ h9 => h9) rfl dX11_told_60 ?_
    refine va_get (D := (dC, dI)) (ci := 10) (v := .long ed) (C := RX8) (T := TX8) (N := 14) hx hb hts kc_xTold_2 hown hK hP 1 rfl rfl 4 (by decide) (hts (.fieldLink RX11 73 "MistHeaps$Scene" "edges" "J") kc_xTold_8) (fun _ h9 => h9) rfl dX11_told_63 ?_
    refine vp_callSi (va_runS (As := [.long ed]) (rest := []) ⟨hx, hb, hml, hown, hts⟩ (c_bits l dC dI ed) (va_cwS 1 hts gX11_told_J13_bitCount_95d88 rfl rfl rfl hd_yJ13_bitCount_95d88.2 ⟨Nat.le_of_ble_eq_true rfl, Nat.le_of_ble_eq_true rfl⟩) ⟨fun a U g mk q => ⟨q.1, trivial⟩, fun U hU hW => ⟨rfl, trivial⟩⟩ rfl rfl hl.1 rfl (lv_room (Nat.le_of_ble_eq_true rfl)) dX11_told_66 ⟨Nat.le_of_ble_eq_true rfl, Nat.le_of_ble_eq_true rfl⟩).run (fun r_2 hw_3 => ?_)
    rw [hQ]
    exact W.iret (v := r_2) hx hb hr (fun tQ htQ hWQ => ⟨r_2, rfl, ⟨fun e9 => by first | rfl | exact absurd e9 c_1_0, fun e9 => by first | rfl | exact absurd e9 c_1_1 | exact absurd (c_1_0.symm.trans e9) (by decide)⟩, by rw [htQ]⟩) (fun q hq => absurd hq List.not_mem_nil) dX11_told_69
  refine lv_tableOut (tgt := 70) hx hb dX11_told_1 (sw_out 0 3 x (fun k hk => by
    match k, hk with
    | 0, _ => exact c_1_0
    | 1, _ => exact c_1_1
    | 2, _ => exact c_1_2
    | 3, _ => exact c_1_3
    | k + 4, hk => exact absurd hk (by omega))) (by decide) ?_
  refine lv_iconst (v := (-1)) hx hb dX11_told_70 (by decide) ?_
  rw [hQ]
  exact W.iret (v := (-1)) hx hb hr (fun tQ htQ hWQ => ⟨(-1), rfl, ⟨fun e9 => by first | rfl | exact absurd e9 c_1_0, fun e9 => by first | rfl | exact absurd e9 c_1_1 | exact absurd (c_1_0.symm.trans e9) (by decide)⟩, by rw [htQ]⟩) (fun q hq => absurd hq List.not_mem_nil) dX11_told_71

theorem kc_xSet_0 : ∀ w ∈ wsX110, w ∈ wsX11_set := fun w h => List.mem_cons_of_mem _ (gin_wsX110 w h)
theorem kc_xSet_1 : (.fieldLink RX11 14 "MistHeaps" "scene" "LMistHeaps$Scene;" : Cond) ∈ wsX11_set := kc_of 328 rfl rfl rfl
theorem kc_xSet_2 : ∀ w ∈ wsX80, w ∈ wsX11_set := fun w h => List.mem_cons_of_mem _ (gin_wsX80 w h)
theorem kc_xSet_3 : (.fieldLink RX11 85 "MistHeaps$Scene" "mist" "I" : Cond) ∈ wsX11_set := kc_of 164 rfl rfl rfl
theorem kc_xSet_4 : (.fieldLink RX11 88 "MistHeaps$Scene" "snow" "I" : Cond) ∈ wsX11_set := kc_of 166 rfl rfl rfl
set_option maxHeartbeats 4000000 in
set_option maxRecDepth 100000 in
theorem c_xSet (l : Launch) (dC : Nat → ClassId) (dI : Nat → Nat → Nat)  (h0 : Nat) (sc : Nat) (kp : Nat) (bl : Nat) (go : Nat) (ch : Nat) (bo : Nat) (aTp : Nat) (aHl : Nat) (aHs : Nat) (aWk : Nat) (aBk : Nat) (aFc : Nat) (bW : Nat) (bA : Nat) (bE : Nat) (bC : Nat) (ts : Nat) (nh : Nat) (n : Nat) (wz : Nat) (bz : Nat) (cl : Nat) (mi : Int32) (sn : Int32) (sg : Int32) (cdd : Int32) (szz : Int32) (att : Int32) (nmb : Int32) (ik : Int32) (x : Int32) (y : Int32) (ed : Int64) (cbW : ClassId) (cbA : ClassId) (cbE : ClassId) (cbC : ClassId) (fbW : Nat → Int32) (fbA : Nat → Int32) (fbE : Nat → Int32) (fbC : Nat → Int32) (tpv : Value) (sz : Nat) : Met l yX11_set wsX11_set ({ frames := 2, cells := 0, slots := 0, locals := 42 } : Room) (va_Pc [.ref h0, .int x, .int y] (fun U => U.heap.size = sz ∧ va_P (dC, dI) vwCl [(zo13rrirrrr h0 sc kp ik bl go ch bo), (zo10ririliiriririr sc aTp (nI ts) aHl (nI nh) ed mi sn aHs (nI n) aWk (nI wz) aBk (nI bz) aFc)] U.heap ∧ va_K (dC, dI) vwCl [] U ∧ va_D (fun _ => True) [(zo13rrirrrr h0 sc kp ik bl go ch bo), (zo10ririliiriririr sc aTp (nI ts) aHl (nI nh) ed mi sn aHs (nI n) aWk (nI wz) aBk (nI bz) aFc)] ∧ Fz dC dI [(zo7iirrrriviii aHl sg (nI cl) bW bA bE bC cdd tpv szz att nmb), (zaI bW cbW 10 fbW), (zaI bA cbA 10 fbA), (zaI bE cbE 10 fbE), (zaI bC cbC 100 fbC)] [(cbW, .int), (cbA, .int), (cbE, .int), (cbC, .int)] (va_A [(zo13rrirrrr h0 sc kp ik bl go ch bo), (zo10ririliiriririr sc aTp (nI ts) aHl (nI nh) ed mi sn aHs (nI n) aWk (nI wz) aBk (nI bz) aFc)] sz) U)) (va_Qi (fun (r : Int32) (u : (Int32) × (Int32)) => match u with | (mi9, sn9) => r = stR mi sn x y ∧ mi9 = stM mi x y ∧ sn9 = stN sn x y) (fun (u : (Int32) × (Int32)) (t : State) => match u with | (mi9, sn9) => va_P (dC, dI) vwCl [(zo13rrirrrr h0 sc kp ik bl go ch bo), (zo10ririliiriririr sc aTp (nI ts) aHl (nI nh) ed mi9 sn9 aHs (nI n) aWk (nI wz) aBk (nI bz) aFc)] t.heap ∧ va_K (dC, dI) vwCl [] t ∧ va_D (va_A [(zo13rrirrrr h0 sc kp ik bl go ch bo), (zo10ririliiriririr sc aTp (nI ts) aHl (nI nh) ed mi sn aHs (nI n) aWk (nI wz) aBk (nI bz) aFc)] sz) [(zo13rrirrrr h0 sc kp ik bl go ch bo), (zo10ririliiriririr sc aTp (nI ts) aHl (nI nh) ed mi9 sn9 aHs (nI n) aWk (nI wz) aBk (nI bz) aFc)]) (va_A [(zo13rrirrrr h0 sc kp ik bl go ch bo), (zo10ririliiriririr sc aTp (nI ts) aHl (nI nh) ed mi sn aHs (nI n) aWk (nI wz) aBk (nI bz) aFc)] sz)) 0 0 (va_A [(zo13rrirrrr h0 sc kp ik bl go ch bo), (zo10ririliiriririr sc aTp (nI ts) aHl (nI nh) ed mi sn aHs (nI n) aWk (nI wz) aBk (nI bz) aFc)] sz) := by
  refine met_ofQ (cc := cX11_set) (maxL := 4) (ret := (some .int)) (by decide) rfl ?_
  intro p e s m args below meth c s₁ Q B hml hv hQ
  obtain ⟨rfl, hsz, hP, hK, hD0, hZ⟩ := hv
  have hx := B.exec
  have hb := B.bytes
  have hr := B.returns
  have hts := atoms_spec (ws := wsX11_set) B.pre
  have hown : s.vm.findClass RX11 = some m.cls := findClass_of_methodNamed B.named
  have hlocks := B.notSynchronized
  subst hsz
  have hD := hD0.self (sz := s.heap.size)
  generalize hAe : va_A [(zo13rrirrrr h0 sc kp ik bl go ch bo), (zo10ririliiriririr sc aTp (nI ts) aHl (nI nh) ed mi sn aHs (nI n) aWk (nI wz) aBk (nI bz) aFc)] s.heap.size = A at hD hQ hZ ⊢
  have hA : ∀ q : Nat, s.heap.size ≤ q → A q := fun q h => by rw [← hAe]; exact Or.inr h
  have hS : va_S A s.heap s.heap [] := va_S.rf
  have hl := lv_entry [.ref h0, .int x, .int y] (n := 4) (Nat.le_of_ble_eq_true rfl)
  rw [lg_entry_eq]
  generalize (lg_sl [.ref h0, .int x, .int y] ++ List.replicate (4 - (lg_sl [.ref h0, .int x, .int y]).length) Slot.unset).toArray = ls at hl ⊢
  generalize hag : ([.ref h0, .int x, .int y] : List Value).toArray = args at hts hQ ⊢
  have hl : lv_has ls 4 [(0, .ref h0), (1, .int x), (2, .int y)] := hl
  obtain ⟨H, hH⟩ : ∃ H : Heap, H = s.heap := ⟨_, rfl⟩
  rw [← hH] at hP
  rw [← hH]
  have hS : va_S A s.heap H [] := by rw [hH]; exact hS
  obtain ⟨locs, hlo⟩ : ∃ L : List Loc, L = [] := ⟨_, rfl⟩
  rw [← hlo] at hS
  rw [← hlo]
  clear hH hlo
  refine lv_iload_n hx hb dX11_set_0 rfl (lv_at hl 1 rfl) ?_
  refine lv_if_lt (tgt := 9) hx hb dX11_set_1 (by decide) (fun c_1 => ?_) (fun c_1 => ?_)
  · skip
    refine lv_iconst (v := (-1)) hx hb dX11_set_9 (by decide) ?_
    rw [hQ]
    have hP9 := hP.sub (ws' := [(zo13rrirrrr h0 sc kp ik bl go ch bo), (zo10ririliiriririr sc aTp (nI ts) aHl (nI nh) ed mi sn aHs (nI n) aWk (nI wz) aBk (nI bz) aFc)]) [0, 1] rfl
    have hD9 := hD.sub (ws' := [(zo13rrirrrr h0 sc kp ik bl go ch bo), (zo10ririliiriririr sc aTp (nI ts) aHl (nI nh) ed mi sn aHs (nI n) aWk (nI wz) aBk (nI bz) aFc)]) [0, 1] (by decide) rfl
    have hK9 := hK.sub (tys' := []) [] rfl
    exact W.iret (v := (-1)) hx hb hr (fun tQ htQ hWQ => ⟨⟨(-1), (mi, sn), rfl, st_none (by first | exact Or.inl (by assumption) | exact Or.inr (Int32.not_le.mp (by assumption))), by rw [htQ]; exact hP9, va_K.moved hWQ.alike hK9, hD9⟩, hS.F htQ⟩) hS.2.2 dX11_set_10
  · skip
    refine lv_iload_n hx hb dX11_set_4 rfl (lv_at hl 1 rfl) ?_
    refine lv_iconst (v := 1) hx hb dX11_set_5 (by decide) ?_
    refine lv_icmp_le (tgt := 11) hx hb dX11_set_6 (by decide) (fun c_2 => ?_) (fun c_2 => ?_)
    · skip
      refine lv_iload_n hx hb dX11_set_11 rfl (lv_at hl 2 rfl) ?_
      refine lv_if_lt (tgt := 21) hx hb dX11_set_12 (by decide) (fun c_3 => ?_) (fun c_3 => ?_)
      · skip
        refine lv_bipush (v := (-2)) hx hb dX11_set_21 (by decide) ?_
        rw [hQ]
        have hP9 := hP.sub (ws' := [(zo13rrirrrr h0 sc kp ik bl go ch bo), (zo10ririliiriririr sc aTp (nI ts) aHl (nI nh) ed mi sn aHs (nI n) aWk (nI wz) aBk (nI bz) aFc)]) [0, 1] rfl
        have hD9 := hD.sub (ws' := [(zo13rrirrrr h0 sc kp ik bl go ch bo), (zo10ririliiriririr sc aTp (nI ts) aHl (nI nh) ed mi sn aHs (nI n) aWk (nI wz) aBk (nI bz) aFc)]) [0, 1] (by decide) rfl
        have hK9 := hK.sub (tys' := []) [] rfl
        exact W.iret (v := (-2)) hx hb hr (fun tQ htQ hWQ => ⟨⟨(-2), (mi, sn), rfl, st_bad (by assumption) (Int32.not_lt.mpr (by assumption)) (by first | exact Or.inl (by assumption) | exact Or.inr (Int32.not_le.mp (by assumption))), by rw [htQ]; exact hP9, va_K.moved hWQ.alike hK9, hD9⟩, hS.F htQ⟩) hS.2.2 dX11_set_23
      · skip
        refine lv_iload_n hx hb dX11_set_15 rfl (lv_at hl 2 rfl) ?_
        refine lv_bipush (v := 9) hx hb dX11_set_16 (by decide) ?_
        refine lv_icmp_le (tgt := 24) hx hb dX11_set_18 (by decide) (fun c_4 => ?_) (fun c_4 => ?_)
        · skip
          rcases two01 (x := x) (by assumption) (Int32.not_lt.mpr (by assumption)) with rfl | rfl
          · skip
            refine lv_aload_n hx hb dX11_set_24 rfl (lv_at hl 0 rfl) ?_
            refine lv_iload_n hx hb dX11_set_25 rfl (lv_at hl 1 rfl) ?_
            have hPc := hP.sub (ws' := [(zo13rrirrrr h0 sc kp ik bl go ch bo), (zo10ririliiriririr sc aTp (nI ts) aHl (nI nh) ed mi sn aHs (nI n) aWk (nI wz) aBk (nI bz) aFc)]) [0, 1] rfl
            have hKc := hK.sub (tys' := []) [] rfl
            refine vp_callSi (va_runV (As := [.int 0]) (rest := []) ⟨hx, hb, hml, hown, hts⟩ (c_xTold l dC dI  h0 sc kp bl go ch bo aTp aHl aHs aWk aBk aFc bW bA bE bC ts nh n wz bz cl mi sn sg cdd szz att nmb ik 0 ed cbW cbA cbE cbC fbW fbA fbE fbC tpv) (cwV 1 hts gX11_set_X11_told rfl rfl rfl hd_yX11_told ⟨Nat.le_of_ble_eq_true rfl, Nat.le_of_ble_eq_true rfl⟩) ⟨fun a U g mk q => by obtain ⟨q0, qP, qK, qhZ⟩ := q; exact ⟨q0, qP, va_K.moved (u := U) (U := U.calling g mk a) (Vm.Alike.refl U.vm) qK, qhZ.same rfl rfl⟩, va_recv hK hP (ci := 13) (q := (RX11, TX11, 7)) (q0 := 0) rfl rfl, fun U hU hW => ⟨rfl, by rw [hU]; exact hPc, va_K.moved hW.alike hKc, (hZ.sub [0, 1, 2, 3, 4] [0, 1, 2, 3] rfl rfl).callF hS hU hW⟩⟩ rfl rfl hl.1 rfl (lv_room (Nat.le_of_ble_eq_true rfl)) dX11_set_26 ⟨Nat.le_of_ble_eq_true rfl, Nat.le_of_ble_eq_true rfl⟩).run (fun r_5 hw_6 => ?_)
            refine qi_as (y := mi) (hw_6.1 rfl) ?_
            refine lv_istore_n (lv' := [(3, .int mi), (0, .ref h0), (1, .int 0), (2, .int y)]) hx hb dX11_set_29 rfl hl (by decide) rfl (fun ls hl => ?_)
            refine lv_iload_n hx hb dX11_set_30 rfl (lv_at hl 2 rfl) ?_
            refine lv_if_ne (tgt := 45) hx hb dX11_set_31 (by decide) (fun c_7 => absurd c_7 (by decide)) (fun _ => ?_)
            refine lv_aload_n hx hb dX11_set_34 rfl (lv_at hl 1 rfl) ?_
            refine va_get (D := (dC, dI)) (ci := 13) (v := .ref sc) (C := RX11) (T := TX11) (N := 7) hx hb hts kc_xSet_0 hown hK hP 0 rfl rfl 0 (by decide) (hts (.fieldLink RX11 14 "MistHeaps" "scene" "LMistHeaps$Scene;") kc_xSet_1) (fun _ h9 => h9) rfl dX11_set_35 ?_
            refine lv_iload_n hx hb dX11_set_38 rfl (lv_at hl 3 rfl) ?_
            refine va_put (D := (dC, dI)) (ci := 10) (v := .int y) (ty := .int) (C := RX8) (T := TX8) (N := 14) hx hb hts kc_xSet_2 tyX8 tyX8_ok nmX8 hown hK hP hD hS 1 rfl rfl 5 (by decide) (hts (.fieldLink RX11 85 "MistHeaps$Scene" "mist" "I") kc_xSet_3) (fun _ h9 => h9) rfl (by decide +kernel) rfl rfl (Nat.le_of_ble_eq_true rfl) dX11_set_39 (fun H locs hP hD hS => ?_)
            have hP : va_P (dC, dI) vwCl [(zo13rrirrrr h0 sc kp ik bl go ch bo), (zo10ririliiriririr sc aTp (nI ts) aHl (nI nh) ed y sn aHs (nI n) aWk (nI wz) aBk (nI bz) aFc)] H := hP
            have hD : va_D A [(zo13rrirrrr h0 sc kp ik bl go ch bo), (zo10ririliiriririr sc aTp (nI ts) aHl (nI nh) ed y sn aHs (nI n) aWk (nI wz) aBk (nI bz) aFc)] := hD
            refine lv_goto (tgt := 53) hx hb dX11_set_42 (by decide) ?_
            refine lv_iload_n hx hb dX11_set_53 rfl (lv_at hl 0 rfl) ?_
            rw [hQ]
            have hP9 := hP.sub (ws' := [(zo13rrirrrr h0 sc kp ik bl go ch bo), (zo10ririliiriririr sc aTp (nI ts) aHl (nI nh) ed y sn aHs (nI n) aWk (nI wz) aBk (nI bz) aFc)]) [0, 1] rfl
            have hD9 := hD.sub (ws' := [(zo13rrirrrr h0 sc kp ik bl go ch bo), (zo10ririliiriririr sc aTp (nI ts) aHl (nI nh) ed y sn aHs (nI n) aWk (nI wz) aBk (nI bz) aFc)]) [0, 1] (by decide) rfl
            have hK9 := hK.sub (tys' := []) [] rfl
            exact W.iret (v := mi) hx hb hr (fun tQ htQ hWQ => ⟨⟨mi, (y, sn), rfl, st_0 (by assumption) (Int32.not_lt.mpr (by assumption)), by rw [htQ]; exact hP9, va_K.moved hWQ.alike hK9, hD9⟩, hS.F htQ⟩) hS.2.2 dX11_set_54
          · skip
            refine lv_aload_n hx hb dX11_set_24 rfl (lv_at hl 0 rfl) ?_
            refine lv_iload_n hx hb dX11_set_25 rfl (lv_at hl 1 rfl) ?_
            have hPc := hP.sub (ws' := [(zo13rrirrrr h0 sc kp ik bl go ch bo), (zo10ririliiriririr sc aTp (nI ts) aHl (nI nh) ed mi sn aHs (nI n) aWk (nI wz) aBk (nI bz) aFc)]) [0, 1] rfl
            have hKc := hK.sub (tys' := []) [] rfl
            refine vp_callSi (va_runV (As := [.int 1]) (rest := []) ⟨hx, hb, hml, hown, hts⟩ (c_xTold l dC dI  h0 sc kp bl go ch bo aTp aHl aHs aWk aBk aFc bW bA bE bC ts nh n wz bz cl mi sn sg cdd szz att nmb ik 1 ed cbW cbA cbE cbC fbW fbA fbE fbC tpv) (cwV 1 hts gX11_set_X11_told rfl rfl rfl hd_yX11_told ⟨Nat.le_of_ble_eq_true rfl, Nat.le_of_ble_eq_true rfl⟩) ⟨fun a U g mk q => by obtain ⟨q0, qP, qK, qhZ⟩ := q; exact ⟨q0, qP, va_K.moved (u := U) (U := U.calling g mk a) (Vm.Alike.refl U.vm) qK, qhZ.same rfl rfl⟩, va_recv hK hP (ci := 13) (q := (RX11, TX11, 7)) (q0 := 0) rfl rfl, fun U hU hW => ⟨rfl, by rw [hU]; exact hPc, va_K.moved hW.alike hKc, (hZ.sub [0, 1, 2, 3, 4] [0, 1, 2, 3] rfl rfl).callF hS hU hW⟩⟩ rfl rfl hl.1 rfl (lv_room (Nat.le_of_ble_eq_true rfl)) dX11_set_26 ⟨Nat.le_of_ble_eq_true rfl, Nat.le_of_ble_eq_true rfl⟩).run (fun r_8 hw_9 => ?_)
            refine qi_as (y := sn) (hw_9.2 rfl) ?_
            refine lv_istore_n (lv' := [(3, .int sn), (0, .ref h0), (1, .int 1), (2, .int y)]) hx hb dX11_set_29 rfl hl (by decide) rfl (fun ls hl => ?_)
            refine lv_iload_n hx hb dX11_set_30 rfl (lv_at hl 2 rfl) ?_
            refine lv_if_ne (tgt := 45) hx hb dX11_set_31 (by decide) (fun _ => ?_) (fun c_10 => absurd c_10 (by decide))
            refine lv_aload_n hx hb dX11_set_45 rfl (lv_at hl 1 rfl) ?_
            refine va_get (D := (dC, dI)) (ci := 13) (v := .ref sc) (C := RX11) (T := TX11) (N := 7) hx hb hts kc_xSet_0 hown hK hP 0 rfl rfl 0 (by decide) (hts (.fieldLink RX11 14 "MistHeaps" "scene" "LMistHeaps$Scene;") kc_xSet_1) (fun _ h9 => h9) rfl dX11_set_46 ?_
            refine lv_iload_n hx hb dX11_set_49 rfl (lv_at hl 3 rfl) ?_
            refine va_put (D := (dC, dI)) (ci := 10) (v := .int y) (ty := .int) (C := RX8) (T := TX8) (N := 14) hx hb hts kc_xSet_2 tyX8 tyX8_ok nmX8 hown hK hP hD hS 1 rfl rfl 6 (by decide) (hts (.fieldLink RX11 88 "MistHeaps$Scene" "snow" "I") kc_xSet_4) (fun _ h9 => h9) rfl (by decide +kernel) rfl rfl (Nat.le_of_ble_eq_true rfl) dX11_set_50 (fun H locs hP hD hS => ?_)
            have hP : va_P (dC, dI) vwCl [(zo13rrirrrr h0 sc kp ik bl go ch bo), (zo10ririliiriririr sc aTp (nI ts) aHl (nI nh) ed mi y aHs (nI n) aWk (nI wz) aBk (nI bz) aFc)] H := hP
            have hD : va_D A [(zo13rrirrrr h0 sc kp ik bl go ch bo), (zo10ririliiriririr sc aTp (nI ts) aHl (nI nh) ed mi y aHs (nI n) aWk (nI wz) aBk (nI bz) aFc)] := hD
            refine lv_iload_n hx hb dX11_set_53 rfl (lv_at hl 0 rfl) ?_
            rw [hQ]
            have hP9 := hP.sub (ws' := [(zo13rrirrrr h0 sc kp ik bl go ch bo), (zo10ririliiriririr sc aTp (nI ts) aHl (nI nh) ed mi y aHs (nI n) aWk (nI wz) aBk (nI bz) aFc)]) [0, 1] rfl
            have hD9 := hD.sub (ws' := [(zo13rrirrrr h0 sc kp ik bl go ch bo), (zo10ririliiriririr sc aTp (nI ts) aHl (nI nh) ed mi y aHs (nI n) aWk (nI wz) aBk (nI bz) aFc)]) [0, 1] (by decide) rfl
            have hK9 := hK.sub (tys' := []) [] rfl
            exact W.iret (v := sn) hx hb hr (fun tQ htQ hWQ => ⟨⟨sn, (mi, y), rfl, st_1 (by assumption) (Int32.not_lt.mpr (by assumption)), by rw [htQ]; exact hP9, va_K.moved hWQ.alike hK9, hD9⟩, hS.F htQ⟩) hS.2.2 dX11_set_54
        · skip
          refine lv_bipush (v := (-2)) hx hb dX11_set_21 (by decide) ?_
          rw [hQ]
          have hP9 := hP.sub (ws' := [(zo13rrirrrr h0 sc kp ik bl go ch bo), (zo10ririliiriririr sc aTp (nI ts) aHl (nI nh) ed mi sn aHs (nI n) aWk (nI wz) aBk (nI bz) aFc)]) [0, 1] rfl
          have hD9 := hD.sub (ws' := [(zo13rrirrrr h0 sc kp ik bl go ch bo), (zo10ririliiriririr sc aTp (nI ts) aHl (nI nh) ed mi sn aHs (nI n) aWk (nI wz) aBk (nI bz) aFc)]) [0, 1] (by decide) rfl
          have hK9 := hK.sub (tys' := []) [] rfl
          exact W.iret (v := (-2)) hx hb hr (fun tQ htQ hWQ => ⟨⟨(-2), (mi, sn), rfl, st_bad (by assumption) (Int32.not_lt.mpr (by assumption)) (by first | exact Or.inl (by assumption) | exact Or.inr (Int32.not_le.mp (by assumption))), by rw [htQ]; exact hP9, va_K.moved hWQ.alike hK9, hD9⟩, hS.F htQ⟩) hS.2.2 dX11_set_23
    · skip
      refine lv_iconst (v := (-1)) hx hb dX11_set_9 (by decide) ?_
      rw [hQ]
      have hP9 := hP.sub (ws' := [(zo13rrirrrr h0 sc kp ik bl go ch bo), (zo10ririliiriririr sc aTp (nI ts) aHl (nI nh) ed mi sn aHs (nI n) aWk (nI wz) aBk (nI bz) aFc)]) [0, 1] rfl
      have hD9 := hD.sub (ws' := [(zo13rrirrrr h0 sc kp ik bl go ch bo), (zo10ririliiriririr sc aTp (nI ts) aHl (nI nh) ed mi sn aHs (nI n) aWk (nI wz) aBk (nI bz) aFc)]) [0, 1] (by decide) rfl
      have hK9 := hK.sub (tys' := []) [] rfl
      exact W.iret (v := (-1)) hx hb hr (fun tQ htQ hWQ => ⟨⟨(-1), (mi, sn), rfl, st_none (by first | exact Or.inl (by assumption) | exact Or.inr (Int32.not_le.mp (by assumption))), by rw [htQ]; exact hP9, va_K.moved hWQ.alike hK9, hD9⟩, hS.F htQ⟩) hS.2.2 dX11_set_10

theorem kc_xWalk_0 : ∀ w ∈ wsX110, w ∈ wsX11_walk := fun w h => List.mem_cons_of_mem _ (gin_wsX110 w h)
theorem kc_xWalk_1 : (.fieldLink RX11 14 "MistHeaps" "scene" "LMistHeaps$Scene;" : Cond) ∈ wsX11_walk := kc_of 328 rfl rfl rfl
theorem kc_xWalk_2 : ∀ w ∈ wsX80, w ∈ wsX11_walk := fun w h => List.mem_cons_of_mem _ (gin_wsX80 w h)
theorem kc_xWalk_3 : (.fieldLink RX11 169 "MistHeaps$Scene" "walkSize" "I" : Cond) ∈ wsX11_walk := kc_of 179 rfl rfl rfl
theorem kc_xWalk_4 : (.fieldLink RX11 172 "MistHeaps$Scene" "walk" "[I" : Cond) ∈ wsX11_walk := kc_of 176 rfl rfl rfl
set_option maxHeartbeats 4000000 in
set_option maxRecDepth 100000 in
theorem c_xWalk (l : Launch) (dC : Nat → ClassId) (dI : Nat → Nat → Nat) (h0 : Nat) (sc : Nat) (kp : Nat) (bl : Nat) (go : Nat) (ch : Nat) (bo : Nat) (aTp : Nat) (aHl : Nat) (aHs : Nat) (aWk : Nat) (aBk : Nat) (aFc : Nat) (ts : Nat) (nh : Nat) (n : Nat) (wz : Nat) (bz : Nat) (mi : Int32) (sn : Int32) (ik : Int32) (x : Int32) (ed : Int64) (cWk : ClassId) (fWk : Nat → Int32) (sz : Nat) (hwz : wz ≤ 6) (zwk : ∀ k0, k0 < 6 → ∃ w0 : Nat, w0 < 8 ∧ fWk k0 = nI w0) : Met l yX11_walk wsX11_walk ({ frames := 0, cells := 0, slots := 0, locals := 0 } : Room) (va_Pc [.ref h0, .int x] (fun U => U.heap.size = sz ∧ va_P (dC, dI) vwCl [(zo13rrirrrr h0 sc kp ik bl go ch bo), (zo10ririliiriririr sc aTp (nI ts) aHl (nI nh) ed mi sn aHs (nI n) aWk (nI wz) aBk (nI bz) aFc), (zaI aWk cWk 6 fWk)] U.heap ∧ va_K (dC, dI) vwCl [(cWk, .int)] U ∧ va_D (fun _ => True) [(zo13rrirrrr h0 sc kp ik bl go ch bo), (zo10ririliiriririr sc aTp (nI ts) aHl (nI nh) ed mi sn aHs (nI n) aWk (nI wz) aBk (nI bz) aFc), (zaI aWk cWk 6 fWk)])) (va_Qi (fun (r : Int32) (u : (Nat) × (Nat → Int32)) => match u with | (wz9, fWk9) => wz9 ≤ 6 ∧ (∀ k0, k0 < 6 → ∃ w0 : Nat, w0 < 8 ∧ fWk9 k0 = nI w0) ∧ r = wkR wz x ∧ wz9 = wkN wz x) (fun (u : (Nat) × (Nat → Int32)) (t : State) => match u with | (wz9, fWk9) => va_P (dC, dI) vwCl [(zo13rrirrrr h0 sc kp ik bl go ch bo), (zo10ririliiriririr sc aTp (nI ts) aHl (nI nh) ed mi sn aHs (nI n) aWk (nI wz9) aBk (nI bz) aFc), (zaI aWk cWk 6 fWk9)] t.heap ∧ va_K (dC, dI) vwCl [(cWk, .int)] t ∧ va_D (va_A [(zo13rrirrrr h0 sc kp ik bl go ch bo), (zo10ririliiriririr sc aTp (nI ts) aHl (nI nh) ed mi sn aHs (nI n) aWk (nI wz) aBk (nI bz) aFc), (zaI aWk cWk 6 fWk)] sz) [(zo13rrirrrr h0 sc kp ik bl go ch bo), (zo10ririliiriririr sc aTp (nI ts) aHl (nI nh) ed mi sn aHs (nI n) aWk (nI wz9) aBk (nI bz) aFc), (zaI aWk cWk 6 fWk9)]) (va_A [(zo13rrirrrr h0 sc kp ik bl go ch bo), (zo10ririliiriririr sc aTp (nI ts) aHl (nI nh) ed mi sn aHs (nI n) aWk (nI wz) aBk (nI bz) aFc), (zaI aWk cWk 6 fWk)] sz)) 0 0 (va_A [(zo13rrirrrr h0 sc kp ik bl go ch bo), (zo10ririliiriririr sc aTp (nI ts) aHl (nI nh) ed mi sn aHs (nI n) aWk (nI wz) aBk (nI bz) aFc), (zaI aWk cWk 6 fWk)] sz) := by
  refine met_ofQ (cc := cX11_walk) (maxL := 2) (ret := (some .int)) (by decide) rfl ?_
  intro p e s m args below meth c s₁ Q B hml hv hQ
  obtain ⟨rfl, hsz, hP, hK, hD0⟩ := hv
  have hx := B.exec
  have hb := B.bytes
  have hr := B.returns
  have hts := atoms_spec (ws := wsX11_walk) B.pre
  have hown : s.vm.findClass RX11 = some m.cls := findClass_of_methodNamed B.named
  have hlocks := B.notSynchronized
  subst hsz
  have hD := hD0.self (sz := s.heap.size)
  generalize hAe : va_A [(zo13rrirrrr h0 sc kp ik bl go ch bo), (zo10ririliiriririr sc aTp (nI ts) aHl (nI nh) ed mi sn aHs (nI n) aWk (nI wz) aBk (nI bz) aFc), (zaI aWk cWk 6 fWk)] s.heap.size = A at hD hQ ⊢
  have hA : ∀ q : Nat, s.heap.size ≤ q → A q := fun q h => by rw [← hAe]; exact Or.inr h
  have hS : va_S A s.heap s.heap [] := va_S.rf
  have hl := lv_entry [.ref h0, .int x] (n := 2) (Nat.le_of_ble_eq_true rfl)
  rw [lg_entry_eq]
  generalize (lg_sl [.ref h0, .int x] ++ List.replicate (2 - (lg_sl [.ref h0, .int x]).length) Slot.unset).toArray = ls at hl ⊢
  generalize hag : ([.ref h0, .int x] : List Value).toArray = args at hts hQ ⊢
  have hl : lv_has ls 2 [(0, .ref h0), (1, .int x)] := hl
  obtain ⟨H, hH⟩ : ∃ H : Heap, H = s.heap := ⟨_, rfl⟩
  rw [← hH] at hP
  rw [← hH]
  have hS : va_S A s.heap H [] := by rw [hH]; exact hS
  obtain ⟨locs, hlo⟩ : ∃ L : List Loc, L = [] := ⟨_, rfl⟩
  rw [← hlo] at hS
  rw [← hlo]
  clear hH hlo
  refine lv_iload_n hx hb dX11_walk_0 rfl (lv_at hl 1 rfl) ?_
  refine lv_iconst (v := (-1)) hx hb dX11_walk_1 (by decide) ?_
  refine lv_icmp_ne (tgt := 15) hx hb dX11_walk_2 (by decide) (fun c_1 => ?_) (fun c_1 => ?_)
  · skip
    have c1_ : ¬ x = -1 := c_1
    refine lv_iload_n hx hb dX11_walk_15 rfl (lv_at hl 1 rfl) ?_
    refine lv_if_lt (tgt := 25) hx hb dX11_walk_16 (by decide) (fun c_2 => ?_) (fun c_2 => ?_)
    · skip
      refine lv_iconst (v := (-1)) hx hb dX11_walk_25 (by decide) ?_
      rw [hQ]
      have hP9 := hP.sub (ws' := [(zo13rrirrrr h0 sc kp ik bl go ch bo), (zo10ririliiriririr sc aTp (nI ts) aHl (nI nh) ed mi sn aHs (nI n) aWk (nI wz) aBk (nI bz) aFc), (zaI aWk cWk 6 fWk)]) [0, 1, 2] rfl
      have hD9 := hD.sub (ws' := [(zo13rrirrrr h0 sc kp ik bl go ch bo), (zo10ririliiriririr sc aTp (nI ts) aHl (nI nh) ed mi sn aHs (nI n) aWk (nI wz) aBk (nI bz) aFc), (zaI aWk cWk 6 fWk)]) [0, 1, 2] (by decide) rfl
      have hK9 := hK.sub (tys' := [(cWk, .int)]) [0] rfl
      exact W.iret (v := (-1)) hx hb hr (fun tQ htQ hWQ => ⟨⟨(-1), (wz, fWk), rfl, ⟨hwz, zwk, (wk_none c1_ (by first | exact Or.inl (by assumption) | exact Or.inr (by assumption))).1, (wk_none c1_ (by first | exact Or.inl (by assumption) | exact Or.inr (by assumption))).2⟩, by rw [htQ]; exact hP9, va_K.moved hWQ.alike hK9, hD9⟩, hS.F htQ⟩) hS.2.2 dX11_walk_26
    · skip
      refine lv_iload_n hx hb dX11_walk_19 rfl (lv_at hl 1 rfl) ?_
      refine lv_bipush (v := 8) hx hb dX11_walk_20 (by decide) ?_
      refine lv_icmp_lt (tgt := 27) hx hb dX11_walk_22 (by decide) (fun c_3 => ?_) (fun c_3 => ?_)
      · skip
        obtain ⟨j8, hj8, rfl⟩ := lt_of (x := x) (n := 8) (by omega) (by assumption) (Int32.not_le.mpr c_3)
        refine lv_aload_n hx hb dX11_walk_27 rfl (lv_at hl 0 rfl) ?_
        refine va_get (D := (dC, dI)) (ci := 13) (v := .ref sc) (C := RX11) (T := TX11) (N := 7) hx hb hts kc_xWalk_0 hown hK hP 0 rfl rfl 0 (by decide) (hts (.fieldLink RX11 14 "MistHeaps" "scene" "LMistHeaps$Scene;") kc_xWalk_1) (fun _ h9 => h9) rfl dX11_walk_28 ?_
        refine va_get (D := (dC, dI)) (ci := 10) (v := .int (nI wz)) (C := RX8) (T := TX8) (N := 14) hx hb hts kc_xWalk_2 hown hK hP 1 rfl rfl 10 (by decide) (hts (.fieldLink RX11 169 "MistHeaps$Scene" "walkSize" "I") kc_xWalk_3) (fun _ h9 => h9) rfl dX11_walk_31 ?_
        refine lv_bipush (v := 6) hx hb dX11_walk_34 (by decide) ?_
        refine lv_icmp_lt (tgt := 42) hx hb dX11_walk_36 (by decide) (fun c_4 => ?_) (fun c_4 => ?_)
        · skip
          have c_4 : wz < 6 := (nI_ltI (a := wz) (b := 6) (by omega) (by omega)).mp c_4
          refine lv_aload_n hx hb dX11_walk_42 rfl (lv_at hl 0 rfl) ?_
          refine va_get (D := (dC, dI)) (ci := 13) (v := .ref sc) (C := RX11) (T := TX11) (N := 7) hx hb hts kc_xWalk_0 hown hK hP 0 rfl rfl 0 (by decide) (hts (.fieldLink RX11 14 "MistHeaps" "scene" "LMistHeaps$Scene;") kc_xWalk_1) (fun _ h9 => h9) rfl dX11_walk_43 ?_
          refine va_get (D := (dC, dI)) (ci := 10) (v := .ref aWk) (C := RX8) (T := TX8) (N := 14) hx hb hts kc_xWalk_2 hown hK hP 1 rfl rfl 9 (by decide) (hts (.fieldLink RX11 172 "MistHeaps$Scene" "walk" "[I") kc_xWalk_4) (fun _ h9 => h9) rfl dX11_walk_46 ?_
          refine lv_aload_n hx hb dX11_walk_49 rfl (lv_at hl 0 rfl) ?_
          refine va_get (D := (dC, dI)) (ci := 13) (v := .ref sc) (C := RX11) (T := TX11) (N := 7) hx hb hts kc_xWalk_0 hown hK hP 0 rfl rfl 0 (by decide) (hts (.fieldLink RX11 14 "MistHeaps" "scene" "LMistHeaps$Scene;") kc_xWalk_1) (fun _ h9 => h9) rfl dX11_walk_50 ?_
          refine va_get (D := (dC, dI)) (ci := 10) (v := .int (nI wz)) (C := RX8) (T := TX8) (N := 14) hx hb hts kc_xWalk_2 hown hK hP 1 rfl rfl 10 (by decide) (hts (.fieldLink RX11 169 "MistHeaps$Scene" "walkSize" "I") kc_xWalk_3) (fun _ h9 => h9) rfl dX11_walk_53 ?_
          refine lv_iload_n hx hb dX11_walk_56 rfl (lv_at hl 1 rfl) ?_
          refine va_iast hx hb hK hP hD hS 2 0 rfl rfl (vp_in_nI (n := wz) (N := 6) (by omega) (by omega)) dX11_walk_57 (fun H locs hP hD hS => ?_)
          rw [nI_clamp (n := wz) (by omega)] at hP hD
          have hP : va_P (dC, dI) vwCl [(zo13rrirrrr h0 sc kp ik bl go ch bo), (zo10ririliiriririr sc aTp (nI ts) aHl (nI nh) ed mi sn aHs (nI n) aWk (nI wz) aBk (nI bz) aFc), (zaI aWk cWk 6 (upd fWk wz (nI j8)))] H := hP
          have hD : va_D A [(zo13rrirrrr h0 sc kp ik bl go ch bo), (zo10ririliiriririr sc aTp (nI ts) aHl (nI nh) ed mi sn aHs (nI n) aWk (nI wz) aBk (nI bz) aFc), (zaI aWk cWk 6 (upd fWk wz (nI j8)))] := hD
          refine lv_aload_n hx hb dX11_walk_58 rfl (lv_at hl 0 rfl) ?_
          refine va_get (D := (dC, dI)) (ci := 13) (v := .ref sc) (C := RX11) (T := TX11) (N := 7) hx hb hts kc_xWalk_0 hown hK hP 0 rfl rfl 0 (by decide) (hts (.fieldLink RX11 14 "MistHeaps" "scene" "LMistHeaps$Scene;") kc_xWalk_1) (fun _ h9 => h9) rfl dX11_walk_59 ?_
          refine lv_dup hx hb dX11_walk_62 rfl ?_
          refine va_get (D := (dC, dI)) (ci := 10) (v := .int (nI wz)) (C := RX8) (T := TX8) (N := 14) hx hb hts kc_xWalk_2 hown hK hP 1 rfl rfl 10 (by decide) (hts (.fieldLink RX11 169 "MistHeaps$Scene" "walkSize" "I") kc_xWalk_3) (fun _ h9 => h9) rfl dX11_walk_63 ?_
          refine lv_iconst (v := 1) hx hb dX11_walk_66 (by decide) ?_
          refine lv_iadd hx hb dX11_walk_67 ?_
          refine qi_as (y := nI (wz + 1)) (nI_add wz 1) ?_
          refine va_put (D := (dC, dI)) (ci := 10) (v := .int (nI (wz + 1))) (ty := .int) (C := RX8) (T := TX8) (N := 14) hx hb hts kc_xWalk_2 tyX8 tyX8_ok nmX8 hown hK hP hD hS 1 rfl rfl 10 (by decide) (hts (.fieldLink RX11 169 "MistHeaps$Scene" "walkSize" "I") kc_xWalk_3) (fun _ h9 => h9) rfl (by decide +kernel) rfl rfl (Nat.le_of_ble_eq_true rfl) dX11_walk_68 (fun H locs hP hD hS => ?_)
          have hP : va_P (dC, dI) vwCl [(zo13rrirrrr h0 sc kp ik bl go ch bo), (zo10ririliiriririr sc aTp (nI ts) aHl (nI nh) ed mi sn aHs (nI n) aWk (nI (wz + 1)) aBk (nI bz) aFc), (zaI aWk cWk 6 (upd fWk wz (nI j8)))] H := hP
          have hD : va_D A [(zo13rrirrrr h0 sc kp ik bl go ch bo), (zo10ririliiriririr sc aTp (nI ts) aHl (nI nh) ed mi sn aHs (nI n) aWk (nI (wz + 1)) aBk (nI bz) aFc), (zaI aWk cWk 6 (upd fWk wz (nI j8)))] := hD
          refine lv_aload_n hx hb dX11_walk_71 rfl (lv_at hl 0 rfl) ?_
          refine va_get (D := (dC, dI)) (ci := 13) (v := .ref sc) (C := RX11) (T := TX11) (N := 7) hx hb hts kc_xWalk_0 hown hK hP 0 rfl rfl 0 (by decide) (hts (.fieldLink RX11 14 "MistHeaps" "scene" "LMistHeaps$Scene;") kc_xWalk_1) (fun _ h9 => h9) rfl dX11_walk_72 ?_
          refine va_get (D := (dC, dI)) (ci := 10) (v := .int (nI (wz + 1))) (C := RX8) (T := TX8) (N := 14) hx hb hts kc_xWalk_2 hown hK hP 1 rfl rfl 10 (by decide) (hts (.fieldLink RX11 169 "MistHeaps$Scene" "walkSize" "I") kc_xWalk_3) (fun _ h9 => h9) rfl dX11_walk_75 ?_
          rw [hQ]
          have hP9 := hP.sub (ws' := [(zo13rrirrrr h0 sc kp ik bl go ch bo), (zo10ririliiriririr sc aTp (nI ts) aHl (nI nh) ed mi sn aHs (nI n) aWk (nI (wz + 1)) aBk (nI bz) aFc), (zaI aWk cWk 6 (upd fWk wz (nI j8)))]) [0, 1, 2] rfl
          have hD9 := hD.sub (ws' := [(zo13rrirrrr h0 sc kp ik bl go ch bo), (zo10ririliiriririr sc aTp (nI ts) aHl (nI nh) ed mi sn aHs (nI n) aWk (nI (wz + 1)) aBk (nI bz) aFc), (zaI aWk cWk 6 (upd fWk wz (nI j8)))]) [0, 1, 2] (by decide) rfl
          have hK9 := hK.sub (tys' := [(cWk, .int)]) [0] rfl
          exact W.iret (v := nI (wz + 1)) hx hb hr (fun tQ htQ hWQ => ⟨⟨(nI (wz + 1)), ((wz + 1), (upd fWk wz (nI j8))), rfl, ⟨by omega, wk_up zwk hj8, (wk_ans hj8 (by omega)).1, (wk_ans hj8 (by omega)).2⟩, by rw [htQ]; exact hP9, va_K.moved hWQ.alike hK9, hD9⟩, hS.F htQ⟩) hS.2.2 dX11_walk_78
        · skip
          have c_4 : ¬ wz < 6 := fun q => c_4 ((nI_ltI (a := wz) (b := 6) (by omega) (by omega)).mpr q)
          refine lv_bipush (v := (-4)) hx hb dX11_walk_39 (by decide) ?_
          rw [hQ]
          have hP9 := hP.sub (ws' := [(zo13rrirrrr h0 sc kp ik bl go ch bo), (zo10ririliiriririr sc aTp (nI ts) aHl (nI nh) ed mi sn aHs (nI n) aWk (nI wz) aBk (nI bz) aFc), (zaI aWk cWk 6 fWk)]) [0, 1, 2] rfl
          have hD9 := hD.sub (ws' := [(zo13rrirrrr h0 sc kp ik bl go ch bo), (zo10ririliiriririr sc aTp (nI ts) aHl (nI nh) ed mi sn aHs (nI n) aWk (nI wz) aBk (nI bz) aFc), (zaI aWk cWk 6 fWk)]) [0, 1, 2] (by decide) rfl
          have hK9 := hK.sub (tys' := [(cWk, .int)]) [0] rfl
          exact W.iret (v := (-4)) hx hb hr (fun tQ htQ hWQ => ⟨⟨(-4), (wz, fWk), rfl, ⟨hwz, zwk, (wk_full hj8 (by omega)).1, (wk_full hj8 (by omega)).2⟩, by rw [htQ]; exact hP9, va_K.moved hWQ.alike hK9, hD9⟩, hS.F htQ⟩) hS.2.2 dX11_walk_41
      · skip
        refine lv_iconst (v := (-1)) hx hb dX11_walk_25 (by decide) ?_
        rw [hQ]
        have hP9 := hP.sub (ws' := [(zo13rrirrrr h0 sc kp ik bl go ch bo), (zo10ririliiriririr sc aTp (nI ts) aHl (nI nh) ed mi sn aHs (nI n) aWk (nI wz) aBk (nI bz) aFc), (zaI aWk cWk 6 fWk)]) [0, 1, 2] rfl
        have hD9 := hD.sub (ws' := [(zo13rrirrrr h0 sc kp ik bl go ch bo), (zo10ririliiriririr sc aTp (nI ts) aHl (nI nh) ed mi sn aHs (nI n) aWk (nI wz) aBk (nI bz) aFc), (zaI aWk cWk 6 fWk)]) [0, 1, 2] (by decide) rfl
        have hK9 := hK.sub (tys' := [(cWk, .int)]) [0] rfl
        exact W.iret (v := (-1)) hx hb hr (fun tQ htQ hWQ => ⟨⟨(-1), (wz, fWk), rfl, ⟨hwz, zwk, (wk_none c1_ (by first | exact Or.inl (by assumption) | exact Or.inr (by assumption))).1, (wk_none c1_ (by first | exact Or.inl (by assumption) | exact Or.inr (by assumption))).2⟩, by rw [htQ]; exact hP9, va_K.moved hWQ.alike hK9, hD9⟩, hS.F htQ⟩) hS.2.2 dX11_walk_26
  · skip
    have c1_ : x = -1 := c_1
    refine lv_aload_n hx hb dX11_walk_5 rfl (lv_at hl 0 rfl) ?_
    refine va_get (D := (dC, dI)) (ci := 13) (v := .ref sc) (C := RX11) (T := TX11) (N := 7) hx hb hts kc_xWalk_0 hown hK hP 0 rfl rfl 0 (by decide) (hts (.fieldLink RX11 14 "MistHeaps" "scene" "LMistHeaps$Scene;") kc_xWalk_1) (fun _ h9 => h9) rfl dX11_walk_6 ?_
    refine lv_iconst (v := 0) hx hb dX11_walk_9 (by decide) ?_
    refine va_put (D := (dC, dI)) (ci := 10) (v := .int 0) (ty := .int) (C := RX8) (T := TX8) (N := 14) hx hb hts kc_xWalk_2 tyX8 tyX8_ok nmX8 hown hK hP hD hS 1 rfl rfl 10 (by decide) (hts (.fieldLink RX11 169 "MistHeaps$Scene" "walkSize" "I") kc_xWalk_3) (fun _ h9 => h9) rfl (by decide +kernel) rfl rfl (Nat.le_of_ble_eq_true rfl) dX11_walk_10 (fun H locs hP hD hS => ?_)
    have hP : va_P (dC, dI) vwCl [(zo13rrirrrr h0 sc kp ik bl go ch bo), (zo10ririliiriririr sc aTp (nI ts) aHl (nI nh) ed mi sn aHs (nI n) aWk 0 aBk (nI bz) aFc), (zaI aWk cWk 6 fWk)] H := hP
    have hD : va_D A [(zo13rrirrrr h0 sc kp ik bl go ch bo), (zo10ririliiriririr sc aTp (nI ts) aHl (nI nh) ed mi sn aHs (nI n) aWk 0 aBk (nI bz) aFc), (zaI aWk cWk 6 fWk)] := hD
    refine lv_iconst (v := 0) hx hb dX11_walk_13 (by decide) ?_
    rw [hQ]
    have hP9 := hP.sub (ws' := [(zo13rrirrrr h0 sc kp ik bl go ch bo), (zo10ririliiriririr sc aTp (nI ts) aHl (nI nh) ed mi sn aHs (nI n) aWk 0 aBk (nI bz) aFc), (zaI aWk cWk 6 fWk)]) [0, 1, 2] rfl
    have hD9 := hD.sub (ws' := [(zo13rrirrrr h0 sc kp ik bl go ch bo), (zo10ririliiriririr sc aTp (nI ts) aHl (nI nh) ed mi sn aHs (nI n) aWk 0 aBk (nI bz) aFc), (zaI aWk cWk 6 fWk)]) [0, 1, 2] (by decide) rfl
    have hK9 := hK.sub (tys' := [(cWk, .int)]) [0] rfl
    exact W.iret (v := 0) hx hb hr (fun tQ htQ hWQ => ⟨⟨0, (0, fWk), rfl, ⟨by omega, zwk, by rw [wkR, if_pos c1_], by rw [wkN, if_pos c1_]⟩, by rw [htQ]; exact hP9, va_K.moved hWQ.alike hK9, hD9⟩, hS.F htQ⟩) hS.2.2 dX11_walk_14

theorem kc_xBook_0 : ∀ w ∈ wsX110, w ∈ wsX11_book := fun w h => List.mem_cons_of_mem _ (gin_wsX110 w h)
theorem kc_xBook_1 : (.fieldLink RX11 14 "MistHeaps" "scene" "LMistHeaps$Scene;" : Cond) ∈ wsX11_book := kc_of 328 rfl rfl rfl
theorem kc_xBook_2 : ∀ w ∈ wsX80, w ∈ wsX11_book := fun w h => List.mem_cons_of_mem _ (gin_wsX80 w h)
theorem kc_xBook_3 : (.fieldLink RX11 221 "MistHeaps$Scene" "bookSize" "I" : Cond) ∈ wsX11_book := kc_of 183 rfl rfl rfl
theorem kc_xBook_4 : (.fieldLink RX11 224 "MistHeaps$Scene" "book" "[I" : Cond) ∈ wsX11_book := kc_of 181 rfl rfl rfl
set_option maxHeartbeats 4000000 in
set_option maxRecDepth 100000 in
theorem c_xBook (l : Launch) (dC : Nat → ClassId) (dI : Nat → Nat → Nat) (h0 : Nat) (sc : Nat) (kp : Nat) (bl : Nat) (go : Nat) (ch : Nat) (bo : Nat) (aTp : Nat) (aHl : Nat) (aHs : Nat) (aWk : Nat) (aBk : Nat) (aFc : Nat) (ts : Nat) (nh : Nat) (n : Nat) (wz : Nat) (bz : Nat) (mi : Int32) (sn : Int32) (ik : Int32) (x : Int32) (ed : Int64) (cHs : ClassId) (cBk : ClassId) (fBk : Nat → Int32) (fHs : Nat → Option Nat) (ya : Nat → Nat) (sz : Nat) (zhs : ∀ k0, k0 < n → fHs k0 = some (ya k0)) (hn8 : n ≤ 8) (hbz : bz ≤ 12) (zbk : ∀ k0, k0 < 12 → ∃ w0 : Nat, w0 < 8 ∧ fBk k0 = nI w0) : Met l yX11_book wsX11_book ({ frames := 1, cells := 0, slots := 0, locals := 21 } : Room) (va_Pc [.ref h0, .int x] (fun U => U.heap.size = sz ∧ va_P (dC, dI) vwCl [(zo13rrirrrr h0 sc kp ik bl go ch bo), (zo10ririliiriririr sc aTp (nI ts) aHl (nI nh) ed mi sn aHs (nI n) aWk (nI wz) aBk (nI bz) aFc), (zaR aHs cHs 8 fHs), (zaI aBk cBk 12 fBk)] U.heap ∧ va_K (dC, dI) vwCl [(cHs, .object "MistHeaps$Heap"), (cBk, .int)] U ∧ va_D (fun _ => True) [(zo13rrirrrr h0 sc kp ik bl go ch bo), (zo10ririliiriririr sc aTp (nI ts) aHl (nI nh) ed mi sn aHs (nI n) aWk (nI wz) aBk (nI bz) aFc), (zaR aHs cHs 8 fHs), (zaI aBk cBk 12 fBk)])) (va_Qi (fun (r : Int32) (u : (Nat) × (Nat → Int32)) => match u with | (bz9, fBk9) => bz9 ≤ 12 ∧ (∀ k0, k0 < 12 → ∃ w0 : Nat, w0 < 8 ∧ fBk9 k0 = nI w0) ∧ r = bkR n bz x ∧ bz9 = bkN n bz x) (fun (u : (Nat) × (Nat → Int32)) (t : State) => match u with | (bz9, fBk9) => va_P (dC, dI) vwCl [(zo13rrirrrr h0 sc kp ik bl go ch bo), (zo10ririliiriririr sc aTp (nI ts) aHl (nI nh) ed mi sn aHs (nI n) aWk (nI wz) aBk (nI bz9) aFc), (zaR aHs cHs 8 fHs), (zaI aBk cBk 12 fBk9)] t.heap ∧ va_K (dC, dI) vwCl [(cHs, .object "MistHeaps$Heap"), (cBk, .int)] t ∧ va_D (va_A [(zo13rrirrrr h0 sc kp ik bl go ch bo), (zo10ririliiriririr sc aTp (nI ts) aHl (nI nh) ed mi sn aHs (nI n) aWk (nI wz) aBk (nI bz) aFc), (zaR aHs cHs 8 fHs), (zaI aBk cBk 12 fBk)] sz) [(zo13rrirrrr h0 sc kp ik bl go ch bo), (zo10ririliiriririr sc aTp (nI ts) aHl (nI nh) ed mi sn aHs (nI n) aWk (nI wz) aBk (nI bz9) aFc), (zaR aHs cHs 8 fHs), (zaI aBk cBk 12 fBk9)]) (va_A [(zo13rrirrrr h0 sc kp ik bl go ch bo), (zo10ririliiriririr sc aTp (nI ts) aHl (nI nh) ed mi sn aHs (nI n) aWk (nI wz) aBk (nI bz) aFc), (zaR aHs cHs 8 fHs), (zaI aBk cBk 12 fBk)] sz)) 0 0 (va_A [(zo13rrirrrr h0 sc kp ik bl go ch bo), (zo10ririliiriririr sc aTp (nI ts) aHl (nI nh) ed mi sn aHs (nI n) aWk (nI wz) aBk (nI bz) aFc), (zaR aHs cHs 8 fHs), (zaI aBk cBk 12 fBk)] sz) := by
  refine met_ofQ (cc := cX11_book) (maxL := 2) (ret := (some .int)) (by decide) rfl ?_
  intro p e s m args below meth c s₁ Q B hml hv hQ
  obtain ⟨rfl, hsz, hP, hK, hD0⟩ := hv
  have hx := B.exec
  have hb := B.bytes
  have hr := B.returns
  have hts := atoms_spec (ws := wsX11_book) B.pre
  have hown : s.vm.findClass RX11 = some m.cls := findClass_of_methodNamed B.named
  have hlocks := B.notSynchronized
  subst hsz
  have hD := hD0.self (sz := s.heap.size)
  generalize hAe : va_A [(zo13rrirrrr h0 sc kp ik bl go ch bo), (zo10ririliiriririr sc aTp (nI ts) aHl (nI nh) ed mi sn aHs (nI n) aWk (nI wz) aBk (nI bz) aFc), (zaR aHs cHs 8 fHs), (zaI aBk cBk 12 fBk)] s.heap.size = A at hD hQ ⊢
  have hA : ∀ q : Nat, s.heap.size ≤ q → A q := fun q h => by rw [← hAe]; exact Or.inr h
  have hS : va_S A s.heap s.heap [] := va_S.rf
  have hl := lv_entry [.ref h0, .int x] (n := 2) (Nat.le_of_ble_eq_true rfl)
  rw [lg_entry_eq]
  generalize (lg_sl [.ref h0, .int x] ++ List.replicate (2 - (lg_sl [.ref h0, .int x]).length) Slot.unset).toArray = ls at hl ⊢
  generalize hag : ([.ref h0, .int x] : List Value).toArray = args at hts hQ ⊢
  have hl : lv_has ls 2 [(0, .ref h0), (1, .int x)] := hl
  obtain ⟨H, hH⟩ : ∃ H : Heap, H = s.heap := ⟨_, rfl⟩
  rw [← hH] at hP
  rw [← hH]
  have hS : va_S A s.heap H [] := by rw [hH]; exact hS
  obtain ⟨locs, hlo⟩ : ∃ L : List Loc, L = [] := ⟨_, rfl⟩
  rw [← hlo] at hS
  rw [← hlo]
  clear hH hlo
  refine lv_iload_n hx hb dX11_book_0 rfl (lv_at hl 1 rfl) ?_
  refine lv_iconst (v := (-1)) hx hb dX11_book_1 (by decide) ?_
  refine lv_icmp_ne (tgt := 15) hx hb dX11_book_2 (by decide) (fun c_1 => ?_) (fun c_1 => ?_)
  · skip
    have c1_ : ¬ x = -1 := c_1
    refine lv_aload_n hx hb dX11_book_15 rfl (lv_at hl 0 rfl) ?_
    refine va_get (D := (dC, dI)) (ci := 13) (v := .ref sc) (C := RX11) (T := TX11) (N := 7) hx hb hts kc_xBook_0 hown hK hP 0 rfl rfl 0 (by decide) (hts (.fieldLink RX11 14 "MistHeaps" "scene" "LMistHeaps$Scene;") kc_xBook_1) (fun _ h9 => h9) rfl dX11_book_16 ?_
    refine lv_iload_n hx hb dX11_book_19 rfl (lv_at hl 1 rfl) ?_
    have hPc := hP.sub (ws' := [(zo10ririliiriririr sc aTp (nI ts) aHl (nI nh) ed mi sn aHs (nI n) aWk (nI wz) aBk (nI bz) aFc), (zaR aHs cHs 8 fHs)]) [1, 2] rfl
    have hKc := hK.sub (tys' := [(cHs, .object "MistHeaps$Heap")]) [0] rfl
    refine va_csq (va_runV (As := [.int x]) (rest := []) ⟨hx, hb, hml, hown, hts⟩ (c_heapAt l dC dI sc aTp aHl aHs aWk aBk aFc ts nh n wz bz mi sn x ed cHs fHs ya (zhs) (hn8)) (cwV 1 hts gX11_book_X8_heapAt rfl rfl rfl hd_yX8_heapAt ⟨Nat.le_of_ble_eq_true rfl, Nat.le_of_ble_eq_true rfl⟩) ⟨fun a U g mk q => by obtain ⟨q0, qP, qK⟩ := q; exact ⟨q0, qP, va_K.moved (u := U) (U := U.calling g mk a) (Vm.Alike.refl U.vm) qK⟩, va_recv hK hP (ci := 10) (q := (RX8, TX8, 14)) (q0 := 1) rfl rfl, fun U hU hW => ⟨rfl, by rw [hU]; exact hPc, va_K.moved hW.alike hKc⟩⟩ rfl rfl hl.1 rfl (lv_room (Nat.le_of_ble_eq_true rfl)) dX11_book_20 ⟨Nat.le_of_ble_eq_true rfl, Nat.le_of_ble_eq_true rfl⟩).run (fun r_2 hw_3 => ?_)
    rcases hw_3 with ⟨j_4, hj_5, rfl, rfl⟩ | ⟨rfl, h_7⟩
    · skip
      refine qq_as (v := .ref (ya j_4)) rfl ?_
      refine lv_ifnonnull (tgt := 28) hx hb dX11_book_23 (by decide) ?_
      refine lv_aload_n hx hb dX11_book_28 rfl (lv_at hl 0 rfl) ?_
      refine va_get (D := (dC, dI)) (ci := 13) (v := .ref sc) (C := RX11) (T := TX11) (N := 7) hx hb hts kc_xBook_0 hown hK hP 0 rfl rfl 0 (by decide) (hts (.fieldLink RX11 14 "MistHeaps" "scene" "LMistHeaps$Scene;") kc_xBook_1) (fun _ h9 => h9) rfl dX11_book_29 ?_
      refine va_get (D := (dC, dI)) (ci := 10) (v := .int (nI bz)) (C := RX8) (T := TX8) (N := 14) hx hb hts kc_xBook_2 hown hK hP 1 rfl rfl 12 (by decide) (hts (.fieldLink RX11 221 "MistHeaps$Scene" "bookSize" "I") kc_xBook_3) (fun _ h9 => h9) rfl dX11_book_32 ?_
      refine lv_bipush (v := 12) hx hb dX11_book_35 (by decide) ?_
      refine lv_icmp_lt (tgt := 43) hx hb dX11_book_37 (by decide) (fun c_8 => ?_) (fun c_8 => ?_)
      · skip
        have c_8 : bz < 12 := (nI_ltI (a := bz) (b := 12) (by omega) (by omega)).mp c_8
        refine lv_aload_n hx hb dX11_book_43 rfl (lv_at hl 0 rfl) ?_
        refine va_get (D := (dC, dI)) (ci := 13) (v := .ref sc) (C := RX11) (T := TX11) (N := 7) hx hb hts kc_xBook_0 hown hK hP 0 rfl rfl 0 (by decide) (hts (.fieldLink RX11 14 "MistHeaps" "scene" "LMistHeaps$Scene;") kc_xBook_1) (fun _ h9 => h9) rfl dX11_book_44 ?_
        refine va_get (D := (dC, dI)) (ci := 10) (v := .ref aBk) (C := RX8) (T := TX8) (N := 14) hx hb hts kc_xBook_2 hown hK hP 1 rfl rfl 11 (by decide) (hts (.fieldLink RX11 224 "MistHeaps$Scene" "book" "[I") kc_xBook_4) (fun _ h9 => h9) rfl dX11_book_47 ?_
        refine lv_aload_n hx hb dX11_book_50 rfl (lv_at hl 0 rfl) ?_
        refine va_get (D := (dC, dI)) (ci := 13) (v := .ref sc) (C := RX11) (T := TX11) (N := 7) hx hb hts kc_xBook_0 hown hK hP 0 rfl rfl 0 (by decide) (hts (.fieldLink RX11 14 "MistHeaps" "scene" "LMistHeaps$Scene;") kc_xBook_1) (fun _ h9 => h9) rfl dX11_book_51 ?_
        refine va_get (D := (dC, dI)) (ci := 10) (v := .int (nI bz)) (C := RX8) (T := TX8) (N := 14) hx hb hts kc_xBook_2 hown hK hP 1 rfl rfl 12 (by decide) (hts (.fieldLink RX11 221 "MistHeaps$Scene" "bookSize" "I") kc_xBook_3) (fun _ h9 => h9) rfl dX11_book_54 ?_
        refine lv_iload_n hx hb dX11_book_57 rfl (lv_at hl 1 rfl) ?_
        refine va_iast hx hb hK hP hD hS 3 1 rfl rfl (vp_in_nI (n := bz) (N := 12) (by omega) (by omega)) dX11_book_58 (fun H locs hP hD hS => ?_)
        rw [nI_clamp (n := bz) (by omega)] at hP hD
        have hP : va_P (dC, dI) vwCl [(zo13rrirrrr h0 sc kp ik bl go ch bo), (zo10ririliiriririr sc aTp (nI ts) aHl (nI nh) ed mi sn aHs (nI n) aWk (nI wz) aBk (nI bz) aFc), (zaR aHs cHs 8 fHs), (zaI aBk cBk 12 (upd fBk bz (nI j_4)))] H := hP
        have hD : va_D A [(zo13rrirrrr h0 sc kp ik bl go ch bo), (zo10ririliiriririr sc aTp (nI ts) aHl (nI nh) ed mi sn aHs (nI n) aWk (nI wz) aBk (nI bz) aFc), (zaR aHs cHs 8 fHs), (zaI aBk cBk 12 (upd fBk bz (nI j_4)))] := hD
        refine lv_aload_n hx hb dX11_book_59 rfl (lv_at hl 0 rfl) ?_
        refine va_get (D := (dC, dI)) (ci := 13) (v := .ref sc) (C := RX11) (T := TX11) (N := 7) hx hb hts kc_xBook_0 hown hK hP 0 rfl rfl 0 (by decide) (hts (.fieldLink RX11 14 "MistHeaps" "scene" "LMistHeaps$Scene;") kc_xBook_1) (fun _ h9 => h9) rfl dX11_book_60 ?_
        refine lv_dup hx hb dX11_book_63 rfl ?_
        refine va_get (D := (dC, dI)) (ci := 10) (v := .int (nI bz)) (C := RX8) (T := TX8) (N := 14) hx hb hts kc_xBook_2 hown hK hP 1 rfl rfl 12 (by decide) (hts (.fieldLink RX11 221 "MistHeaps$Scene" "bookSize" "I") kc_xBook_3) (fun _ h9 => h9) rfl dX11_book_64 ?_
        refine lv_iconst (v := 1) hx hb dX11_book_67 (by decide) ?_
        refine lv_iadd hx hb dX11_book_68 ?_
        refine qi_as (y := nI (bz + 1)) (nI_add bz 1) ?_
        refine va_put (D := (dC, dI)) (ci := 10) (v := .int (nI (bz + 1))) (ty := .int) (C := RX8) (T := TX8) (N := 14) hx hb hts kc_xBook_2 tyX8 tyX8_ok nmX8 hown hK hP hD hS 1 rfl rfl 12 (by decide) (hts (.fieldLink RX11 221 "MistHeaps$Scene" "bookSize" "I") kc_xBook_3) (fun _ h9 => h9) rfl (by decide +kernel) rfl rfl (Nat.le_of_ble_eq_true rfl) dX11_book_69 (fun H locs hP hD hS => ?_)
        have hP : va_P (dC, dI) vwCl [(zo13rrirrrr h0 sc kp ik bl go ch bo), (zo10ririliiriririr sc aTp (nI ts) aHl (nI nh) ed mi sn aHs (nI n) aWk (nI wz) aBk (nI (bz + 1)) aFc), (zaR aHs cHs 8 fHs), (zaI aBk cBk 12 (upd fBk bz (nI j_4)))] H := hP
        have hD : va_D A [(zo13rrirrrr h0 sc kp ik bl go ch bo), (zo10ririliiriririr sc aTp (nI ts) aHl (nI nh) ed mi sn aHs (nI n) aWk (nI wz) aBk (nI (bz + 1)) aFc), (zaR aHs cHs 8 fHs), (zaI aBk cBk 12 (upd fBk bz (nI j_4)))] := hD
        refine lv_aload_n hx hb dX11_book_72 rfl (lv_at hl 0 rfl) ?_
        refine va_get (D := (dC, dI)) (ci := 13) (v := .ref sc) (C := RX11) (T := TX11) (N := 7) hx hb hts kc_xBook_0 hown hK hP 0 rfl rfl 0 (by decide) (hts (.fieldLink RX11 14 "MistHeaps" "scene" "LMistHeaps$Scene;") kc_xBook_1) (fun _ h9 => h9) rfl dX11_book_73 ?_
        refine va_get (D := (dC, dI)) (ci := 10) (v := .int (nI (bz + 1))) (C := RX8) (T := TX8) (N := 14) hx hb hts kc_xBook_2 hown hK hP 1 rfl rfl 12 (by decide) (hts (.fieldLink RX11 221 "MistHeaps$Scene" "bookSize" "I") kc_xBook_3) (fun _ h9 => h9) rfl dX11_book_76 ?_
        rw [hQ]
        have hP9 := hP.sub (ws' := [(zo13rrirrrr h0 sc kp ik bl go ch bo), (zo10ririliiriririr sc aTp (nI ts) aHl (nI nh) ed mi sn aHs (nI n) aWk (nI wz) aBk (nI (bz + 1)) aFc), (zaR aHs cHs 8 fHs), (zaI aBk cBk 12 (upd fBk bz (nI j_4)))]) [0, 1, 2, 3] rfl
        have hD9 := hD.sub (ws' := [(zo13rrirrrr h0 sc kp ik bl go ch bo), (zo10ririliiriririr sc aTp (nI ts) aHl (nI nh) ed mi sn aHs (nI n) aWk (nI wz) aBk (nI (bz + 1)) aFc), (zaR aHs cHs 8 fHs), (zaI aBk cBk 12 (upd fBk bz (nI j_4)))]) [0, 1, 2, 3] (by decide) rfl
        have hK9 := hK.sub (tys' := [(cHs, .object "MistHeaps$Heap"), (cBk, .int)]) [0, 1] rfl
        exact W.iret (v := nI (bz + 1)) hx hb hr (fun tQ htQ hWQ => ⟨⟨(nI (bz + 1)), ((bz + 1), (upd fBk bz (nI j_4))), rfl, ⟨by omega, bk_up2 zbk (by omega), (bo_one (n := n) (bz := bz) (j := j_4) hn8 (by omega) (by omega)).1, (bo_one (n := n) (bz := bz) (j := j_4) hn8 (by omega) (by omega)).2⟩, by rw [htQ]; exact hP9, va_K.moved hWQ.alike hK9, hD9⟩, hS.F htQ⟩) hS.2.2 dX11_book_79
      · skip
        have c_8 : ¬ bz < 12 := fun q => c_8 ((nI_ltI (a := bz) (b := 12) (by omega) (by omega)).mpr q)
        refine lv_bipush (v := (-4)) hx hb dX11_book_40 (by decide) ?_
        rw [hQ]
        have hP9 := hP.sub (ws' := [(zo13rrirrrr h0 sc kp ik bl go ch bo), (zo10ririliiriririr sc aTp (nI ts) aHl (nI nh) ed mi sn aHs (nI n) aWk (nI wz) aBk (nI bz) aFc), (zaR aHs cHs 8 fHs), (zaI aBk cBk 12 fBk)]) [0, 1, 2, 3] rfl
        have hD9 := hD.sub (ws' := [(zo13rrirrrr h0 sc kp ik bl go ch bo), (zo10ririliiriririr sc aTp (nI ts) aHl (nI nh) ed mi sn aHs (nI n) aWk (nI wz) aBk (nI bz) aFc), (zaR aHs cHs 8 fHs), (zaI aBk cBk 12 fBk)]) [0, 1, 2, 3] (by decide) rfl
        have hK9 := hK.sub (tys' := [(cHs, .object "MistHeaps$Heap"), (cBk, .int)]) [0, 1] rfl
        exact W.iret (v := (-4)) hx hb hr (fun tQ htQ hWQ => ⟨⟨(-4), (bz, fBk), rfl, ⟨by omega, zbk, (bo_full (n := n) (bz := bz) (j := j_4) hn8 (by omega) (by omega)).1, (bo_full (n := n) (bz := bz) (j := j_4) hn8 (by omega) (by omega)).2⟩, by rw [htQ]; exact hP9, va_K.moved hWQ.alike hK9, hD9⟩, hS.F htQ⟩) hS.2.2 dX11_book_42
    · skip
      refine qq_as (v := .null) rfl ?_
      refine lv_ifnonnullN hx hb dX11_book_23 ?_
      refine lv_iconst (v := (-1)) hx hb dX11_book_26 (by decide) ?_
      rw [hQ]
      have hP9 := hP.sub (ws' := [(zo13rrirrrr h0 sc kp ik bl go ch bo), (zo10ririliiriririr sc aTp (nI ts) aHl (nI nh) ed mi sn aHs (nI n) aWk (nI wz) aBk (nI bz) aFc), (zaR aHs cHs 8 fHs), (zaI aBk cBk 12 fBk)]) [0, 1, 2, 3] rfl
      have hD9 := hD.sub (ws' := [(zo13rrirrrr h0 sc kp ik bl go ch bo), (zo10ririliiriririr sc aTp (nI ts) aHl (nI nh) ed mi sn aHs (nI n) aWk (nI wz) aBk (nI bz) aFc), (zaR aHs cHs 8 fHs), (zaI aBk cBk 12 fBk)]) [0, 1, 2, 3] (by decide) rfl
      have hK9 := hK.sub (tys' := [(cHs, .object "MistHeaps$Heap"), (cBk, .int)]) [0, 1] rfl
      exact W.iret (v := (-1)) hx hb hr (fun tQ htQ hWQ => ⟨⟨(-1), (bz, fBk), rfl, ⟨by omega, zbk, (bo_none (n := n) (bz := bz) (x := x) c1_ (by assumption)).1, (bo_none (n := n) (bz := bz) (x := x) c1_ (by assumption)).2⟩, by rw [htQ]; exact hP9, va_K.moved hWQ.alike hK9, hD9⟩, hS.F htQ⟩) hS.2.2 dX11_book_27
  · skip
    have c1_ : x = -1 := c_1
    refine lv_aload_n hx hb dX11_book_5 rfl (lv_at hl 0 rfl) ?_
    refine va_get (D := (dC, dI)) (ci := 13) (v := .ref sc) (C := RX11) (T := TX11) (N := 7) hx hb hts kc_xBook_0 hown hK hP 0 rfl rfl 0 (by decide) (hts (.fieldLink RX11 14 "MistHeaps" "scene" "LMistHeaps$Scene;") kc_xBook_1) (fun _ h9 => h9) rfl dX11_book_6 ?_
    refine lv_iconst (v := 0) hx hb dX11_book_9 (by decide) ?_
    refine va_put (D := (dC, dI)) (ci := 10) (v := .int 0) (ty := .int) (C := RX8) (T := TX8) (N := 14) hx hb hts kc_xBook_2 tyX8 tyX8_ok nmX8 hown hK hP hD hS 1 rfl rfl 12 (by decide) (hts (.fieldLink RX11 221 "MistHeaps$Scene" "bookSize" "I") kc_xBook_3) (fun _ h9 => h9) rfl (by decide +kernel) rfl rfl (Nat.le_of_ble_eq_true rfl) dX11_book_10 (fun H locs hP hD hS => ?_)
    have hP : va_P (dC, dI) vwCl [(zo13rrirrrr h0 sc kp ik bl go ch bo), (zo10ririliiriririr sc aTp (nI ts) aHl (nI nh) ed mi sn aHs (nI n) aWk (nI wz) aBk 0 aFc), (zaR aHs cHs 8 fHs), (zaI aBk cBk 12 fBk)] H := hP
    have hD : va_D A [(zo13rrirrrr h0 sc kp ik bl go ch bo), (zo10ririliiriririr sc aTp (nI ts) aHl (nI nh) ed mi sn aHs (nI n) aWk (nI wz) aBk 0 aFc), (zaR aHs cHs 8 fHs), (zaI aBk cBk 12 fBk)] := hD
    refine lv_iconst (v := 0) hx hb dX11_book_13 (by decide) ?_
    rw [hQ]
    have hP9 := hP.sub (ws' := [(zo13rrirrrr h0 sc kp ik bl go ch bo), (zo10ririliiriririr sc aTp (nI ts) aHl (nI nh) ed mi sn aHs (nI n) aWk (nI wz) aBk 0 aFc), (zaR aHs cHs 8 fHs), (zaI aBk cBk 12 fBk)]) [0, 1, 2, 3] rfl
    have hD9 := hD.sub (ws' := [(zo13rrirrrr h0 sc kp ik bl go ch bo), (zo10ririliiriririr sc aTp (nI ts) aHl (nI nh) ed mi sn aHs (nI n) aWk (nI wz) aBk 0 aFc), (zaR aHs cHs 8 fHs), (zaI aBk cBk 12 fBk)]) [0, 1, 2, 3] (by decide) rfl
    have hK9 := hK.sub (tys' := [(cHs, .object "MistHeaps$Heap"), (cBk, .int)]) [0, 1] rfl
    exact W.iret (v := 0) hx hb hr (fun tQ htQ hWQ => ⟨⟨0, (0, fBk), rfl, ⟨by omega, zbk, (bo_clear (n := n) (bz := bz) (x := x) c1_).1, (bo_clear (n := n) (bz := bz) (x := x) c1_).2⟩, by rw [htQ]; exact hP9, va_K.moved hWQ.alike hK9, hD9⟩, hS.F htQ⟩) hS.2.2 dX11_book_14

theorem kc_xOf_0 : ∀ w ∈ wsX110, w ∈ wsX11_of := fun w h => List.mem_cons_of_mem _ (gin_wsX110 w h)
theorem kc_xOf_1 : (.fieldLink RX11 14 "MistHeaps" "scene" "LMistHeaps$Scene;" : Cond) ∈ wsX11_of := kc_of 328 rfl rfl rfl
theorem kc_xOf_2 : (.fieldLink RX11 116 "MistHeaps$Heap" "kind" "I" : Cond) ∈ wsX11_of := kc_of 230 rfl rfl rfl
theorem kc_xOf_4 : (.fieldLink RX11 121 "MistHeaps$Heap" "v" "I" : Cond) ∈ wsX11_of := kc_of 245 rfl rfl rfl
theorem kc_xOf_5 : (.fieldLink RX11 124 "MistHeaps$Heap" "cell" "I" : Cond) ∈ wsX11_of := kc_of 251 rfl rfl rfl
theorem kc_xOf_6 : ∀ w ∈ wsX80, w ∈ wsX11_of := fun w h => List.mem_cons_of_mem _ (gin_wsX80 w h)
theorem kc_xOf_7 : (.fieldLink RX11 88 "MistHeaps$Scene" "snow" "I" : Cond) ∈ wsX11_of := kc_of 166 rfl rfl rfl
theorem kc_xOf_3 : ∀ C ∈ hpC, ∀ w ∈ u_ws C.1 C.2.1 C.2.2, w ∈ wsX11_of := by decide +kernel
set_option maxHeartbeats 4000000 in
set_option maxRecDepth 100000 in
theorem c_xOf (l : Launch) (dC : Nat → ClassId) (dI : Nat → Nat → Nat) (gd : Nat → Nat)    (h0 : Nat) (sc : Nat) (kp : Nat) (bl : Nat) (go : Nat) (ch : Nat) (bo : Nat) (aTp : Nat) (aHl : Nat) (aHs : Nat) (aWk : Nat) (aBk : Nat) (aFc : Nat) (bW : Nat) (bA : Nat) (bE : Nat) (bC : Nat) (ts : Nat) (nh : Nat) (n : Nat) (wz : Nat) (bz : Nat) (cl : Nat) (mi : Int32) (sn : Int32) (sg : Int32) (cdd : Int32) (szz : Int32) (att : Int32) (nmb : Int32) (ik : Int32) (x : Int32) (y : Int32) (ed : Int64) (cHs : ClassId) (cFc : ClassId) (cbW : ClassId) (cbA : ClassId) (cbE : ClassId) (cbC : ClassId) (fFc : Nat → Int32) (fbW : Nat → Int32) (fbA : Nat → Int32) (fbE : Nat → Int32) (fbC : Nat → Int32) (yk : Nat → Int32) (yv : Nat → Int32) (yc : Nat → Int32) (fHs : Nat → Option Nat) (yi : Nat → Nat) (ya : Nat → Nat) (tpv : Value) (sz : Nat) (zhs : ∀ k0, k0 < n → fHs k0 = some (ya k0)) (hn8 : n ≤ 8) (zcl : cl ≤ 10) (zE : ∀ k0, k0 < 10 → ∃ e0 : Nat, e0 ≤ 100 ∧ fbE k0 = nI e0) (zC : ∀ k0, k0 < 100 → okC (fbC k0)) : Met l yX11_of wsX11_of ({ frames := 5, cells := 0, slots := 0, locals := 102 } : Room) (va_Pc [.ref h0, .int x, .int y] (fun U => U.heap.size = sz ∧ va_P (dC, dI) vwCl [(zo13rrirrrr h0 sc kp ik bl go ch bo), (zo10ririliiriririr sc aTp (nI ts) aHl (nI nh) ed mi sn aHs (nI n) aWk (nI wz) aBk (nI bz) aFc), (zaR aHs cHs 8 fHs), (zaI aFc cFc 6 fFc)] U.heap ∧ va_K (dC, dI) vwCl [(cHs, .object "MistHeaps$Heap"), (cFc, .int)] U ∧ va_D (fun _ => True) [(zo13rrirrrr h0 sc kp ik bl go ch bo), (zo10ririliiriririr sc aTp (nI ts) aHl (nI nh) ed mi sn aHs (nI n) aWk (nI wz) aBk (nI bz) aFc), (zaR aHs cHs 8 fHs), (zaI aFc cFc 6 fFc)] ∧ Gl gd (va_A [(zo13rrirrrr h0 sc kp ik bl go ch bo), (zo10ririliiriririr sc aTp (nI ts) aHl (nI nh) ed mi sn aHs (nI n) aWk (nI wz) aBk (nI bz) aFc), (zaR aHs cHs 8 fHs), (zaI aFc cFc 6 fFc)] sz) U ∧ Gw (va_A [(zo13rrirrrr h0 sc kp ik bl go ch bo), (zo10ririliiriririr sc aTp (nI ts) aHl (nI nh) ed mi sn aHs (nI n) aWk (nI wz) aBk (nI bz) aFc), (zaR aHs cHs 8 fHs), (zaI aFc cFc 6 fFc)] sz) U ∧ Fz dC dI [(zo7iirrrriviii aHl sg (nI cl) bW bA bE bC cdd tpv szz att nmb), (zaI bW cbW 10 fbW), (zaI bA cbA 10 fbA), (zaI bE cbE 10 fbE), (zaI bC cbC 100 fbC)] [(cbW, .int), (cbA, .int), (cbE, .int), (cbC, .int)] (va_A [(zo13rrirrrr h0 sc kp ik bl go ch bo), (zo10ririliiriririr sc aTp (nI ts) aHl (nI nh) ed mi sn aHs (nI n) aWk (nI wz) aBk (nI bz) aFc), (zaR aHs cHs 8 fHs), (zaI aFc cFc 6 fFc)] sz) U ∧ Hs dC dI n yi ya yk yv yc (va_A [(zo13rrirrrr h0 sc kp ik bl go ch bo), (zo10ririliiriririr sc aTp (nI ts) aHl (nI nh) ed mi sn aHs (nI n) aWk (nI wz) aBk (nI bz) aFc), (zaR aHs cHs 8 fHs), (zaI aFc cFc 6 fFc)] sz) U)) (va_Qi (fun (r : Int32) (u : Nat → Int32) => match u with | fFc9 => True) (fun (u : Nat → Int32) (t : State) => match u with | fFc9 => va_P (dC, dI) vwCl [(zo13rrirrrr h0 sc kp ik bl go ch bo), (zo10ririliiriririr sc aTp (nI ts) aHl (nI nh) ed mi sn aHs (nI n) aWk (nI wz) aBk (nI bz) aFc), (zaR aHs cHs 8 fHs), (zaI aFc cFc 6 fFc9)] t.heap ∧ va_K (dC, dI) vwCl [(cHs, .object "MistHeaps$Heap"), (cFc, .int)] t ∧ va_D (va_A [(zo13rrirrrr h0 sc kp ik bl go ch bo), (zo10ririliiriririr sc aTp (nI ts) aHl (nI nh) ed mi sn aHs (nI n) aWk (nI wz) aBk (nI bz) aFc), (zaR aHs cHs 8 fHs), (zaI aFc cFc 6 fFc)] sz) [(zo13rrirrrr h0 sc kp ik bl go ch bo), (zo10ririliiriririr sc aTp (nI ts) aHl (nI nh) ed mi sn aHs (nI n) aWk (nI wz) aBk (nI bz) aFc), (zaR aHs cHs 8 fHs), (zaI aFc cFc 6 fFc9)]) (va_A [(zo13rrirrrr h0 sc kp ik bl go ch bo), (zo10ririliiriririr sc aTp (nI ts) aHl (nI nh) ed mi sn aHs (nI n) aWk (nI wz) aBk (nI bz) aFc), (zaR aHs cHs 8 fHs), (zaI aFc cFc 6 fFc)] sz)) 0 0 (va_A [(zo13rrirrrr h0 sc kp ik bl go ch bo), (zo10ririliiriririr sc aTp (nI ts) aHl (nI nh) ed mi sn aHs (nI n) aWk (nI wz) aBk (nI bz) aFc), (zaR aHs cHs 8 fHs), (zaI aFc cFc 6 fFc)] sz) := by
  refine met_ofQ (cc := cX11_of) (maxL := 4) (ret := (some .int)) (by decide) rfl ?_
  intro p e s m args below meth c s₁ Q B hml hv hQ
  obtain ⟨rfl, hsz, hP, hK, hD0, hG, hW_, hZ, hH_⟩ := hv
  have hx := B.exec
  have hb := B.bytes
  have hr := B.returns
  have hts := atoms_spec (ws := wsX11_of) B.pre
  have hown : s.vm.findClass RX11 = some m.cls := findClass_of_methodNamed B.named
  have hlocks := B.notSynchronized
  subst hsz
  have hD := hD0.self (sz := s.heap.size)
  generalize hAe : va_A [(zo13rrirrrr h0 sc kp ik bl go ch bo), (zo10ririliiriririr sc aTp (nI ts) aHl (nI nh) ed mi sn aHs (nI n) aWk (nI wz) aBk (nI bz) aFc), (zaR aHs cHs 8 fHs), (zaI aFc cFc 6 fFc)] s.heap.size = A at hD hQ hG hW_ hZ hH_ ⊢
  have hA : ∀ q : Nat, s.heap.size ≤ q → A q := fun q h => by rw [← hAe]; exact Or.inr h
  have hS : va_S A s.heap s.heap [] := va_S.rf
  have hl := lv_entry [.ref h0, .int x, .int y] (n := 4) (Nat.le_of_ble_eq_true rfl)
  rw [lg_entry_eq]
  generalize (lg_sl [.ref h0, .int x, .int y] ++ List.replicate (4 - (lg_sl [.ref h0, .int x, .int y]).length) Slot.unset).toArray = ls at hl ⊢
  generalize hag : ([.ref h0, .int x, .int y] : List Value).toArray = args at hts hQ ⊢
  have hl : lv_has ls 4 [(0, .ref h0), (1, .int x), (2, .int y)] := hl
  obtain ⟨H, hH⟩ : ∃ H : Heap, H = s.heap := ⟨_, rfl⟩
  rw [← hH] at hP
  rw [← hH]
  have hS : va_S A s.heap H [] := by rw [hH]; exact hS
  obtain ⟨locs, hlo⟩ : ∃ L : List Loc, L = [] := ⟨_, rfl⟩
  rw [← hlo] at hS
  rw [← hlo]
  clear hH hlo
  refine lv_aload_n hx hb dX11_of_0 rfl (lv_at hl 0 rfl) ?_
  refine va_get (D := (dC, dI)) (ci := 13) (v := .ref sc) (C := RX11) (T := TX11) (N := 7) hx hb hts kc_xOf_0 hown hK hP 0 rfl rfl 0 (by decide) (hts (.fieldLink RX11 14 "MistHeaps" "scene" "LMistHeaps$Scene;") kc_xOf_1) (fun _ h9 => h9) rfl dX11_of_1 ?_
  refine lv_iload_n hx hb dX11_of_4 rfl (lv_at hl 1 rfl) ?_
  have hPc := hP.sub (ws' := [(zo10ririliiriririr sc aTp (nI ts) aHl (nI nh) ed mi sn aHs (nI n) aWk (nI wz) aBk (nI bz) aFc), (zaR aHs cHs 8 fHs)]) [1, 2] rfl
  have hKc := hK.sub (tys' := [(cHs, .object "MistHeaps$Heap")]) [0] rfl
  refine va_csq (va_runV (As := [.int x]) (rest := []) ⟨hx, hb, hml, hown, hts⟩ (c_heapAt l dC dI sc aTp aHl aHs aWk aBk aFc ts nh n wz bz mi sn x ed cHs fHs ya (zhs) (hn8)) (cwV 1 hts gX11_of_X8_heapAt rfl rfl rfl hd_yX8_heapAt ⟨Nat.le_of_ble_eq_true rfl, Nat.le_of_ble_eq_true rfl⟩) ⟨fun a U g mk q => by obtain ⟨q0, qP, qK⟩ := q; exact ⟨q0, qP, va_K.moved (u := U) (U := U.calling g mk a) (Vm.Alike.refl U.vm) qK⟩, va_recv hK hP (ci := 10) (q := (RX8, TX8, 14)) (q0 := 1) rfl rfl, fun U hU hW => ⟨rfl, by rw [hU]; exact hPc, va_K.moved hW.alike hKc⟩⟩ rfl rfl hl.1 rfl (lv_room (Nat.le_of_ble_eq_true rfl)) dX11_of_5 ⟨Nat.le_of_ble_eq_true rfl, Nat.le_of_ble_eq_true rfl⟩).run (fun r_1 hw_2 => ?_)
  rcases hw_2 with ⟨j_3, hj_4, rfl, rfl⟩ | ⟨rfl, h_6⟩
  · skip
    refine qq_as (v := .ref (ya j_3)) rfl ?_
    refine lv_astore_n (lv' := [(3, .ref (ya j_3)), (0, .ref h0), (1, .int (nI j_3)), (2, .int y)]) hx hb dX11_of_8 rfl hl (by decide) rfl (fun ls hl => ?_)
    refine lv_aload_n hx hb dX11_of_9 rfl (lv_at hl 0 rfl) ?_
    refine lv_ifnonnull (tgt := 15) hx hb dX11_of_10 (by decide) ?_
    refine lv_iload_n hx hb dX11_of_15 rfl (lv_at hl 3 rfl) ?_
    by_cases c_7_0 : y = 0
    · skip
      refine lv_tableIn (tgt := 48) hx hb dX11_of_16 (by rw [c_7_0]; decide) (by rw [c_7_0]; decide) (by rw [c_7_0]; rfl) (by decide) ?_
      refine lv_aload_n hx hb dX11_of_48 rfl (lv_at hl 0 rfl) ?_
      refine va_hget0 (v := .int (yk j_3)) hx hb hts kc_xOf_3 hown (hH_ j_3 (by omega)).1 (hH_ j_3 (by omega)).2 hS (hts (.fieldLink RX11 116 "MistHeaps$Heap" "kind" "I") kc_xOf_2) dX11_of_49 rfl ?_
      rw [hQ]
      have hP9 := hP.sub (ws' := [(zo13rrirrrr h0 sc kp ik bl go ch bo), (zo10ririliiriririr sc aTp (nI ts) aHl (nI nh) ed mi sn aHs (nI n) aWk (nI wz) aBk (nI bz) aFc), (zaR aHs cHs 8 fHs), (zaI aFc cFc 6 fFc)]) [0, 1, 2, 3] rfl
      have hD9 := hD.sub (ws' := [(zo13rrirrrr h0 sc kp ik bl go ch bo), (zo10ririliiriririr sc aTp (nI ts) aHl (nI nh) ed mi sn aHs (nI n) aWk (nI wz) aBk (nI bz) aFc), (zaR aHs cHs 8 fHs), (zaI aFc cFc 6 fFc)]) [0, 1, 2, 3] (by decide) rfl
      have hK9 := hK.sub (tys' := [(cHs, .object "MistHeaps$Heap"), (cFc, .int)]) [0, 1] rfl
      exact W.iret (v := yk j_3) hx hb hr (fun tQ htQ hWQ => ⟨⟨(yk j_3), fFc, rfl, trivial, by rw [htQ]; exact hP9, va_K.moved hWQ.alike hK9, hD9⟩, hS.F htQ⟩) hS.2.2 dX11_of_52
    by_cases c_7_1 : y = 1
    · skip
      refine lv_tableIn (tgt := 53) hx hb dX11_of_16 (by rw [c_7_1]; decide) (by rw [c_7_1]; decide) (by rw [c_7_1]; rfl) (by decide) ?_
      refine lv_aload_n hx hb dX11_of_53 rfl (lv_at hl 0 rfl) ?_
      refine va_hget2 (v := .int (yv j_3)) hx hb hts kc_xOf_3 hown (hH_ j_3 (by omega)).1 (hH_ j_3 (by omega)).2 hS (hts (.fieldLink RX11 121 "MistHeaps$Heap" "v" "I") kc_xOf_4) dX11_of_54 rfl ?_
      rw [hQ]
      have hP9 := hP.sub (ws' := [(zo13rrirrrr h0 sc kp ik bl go ch bo), (zo10ririliiriririr sc aTp (nI ts) aHl (nI nh) ed mi sn aHs (nI n) aWk (nI wz) aBk (nI bz) aFc), (zaR aHs cHs 8 fHs), (zaI aFc cFc 6 fFc)]) [0, 1, 2, 3] rfl
      have hD9 := hD.sub (ws' := [(zo13rrirrrr h0 sc kp ik bl go ch bo), (zo10ririliiriririr sc aTp (nI ts) aHl (nI nh) ed mi sn aHs (nI n) aWk (nI wz) aBk (nI bz) aFc), (zaR aHs cHs 8 fHs), (zaI aFc cFc 6 fFc)]) [0, 1, 2, 3] (by decide) rfl
      have hK9 := hK.sub (tys' := [(cHs, .object "MistHeaps$Heap"), (cFc, .int)]) [0, 1] rfl
      exact W.iret (v := yv j_3) hx hb hr (fun tQ htQ hWQ => ⟨⟨(yv j_3), fFc, rfl, trivial, by rw [htQ]; exact hP9, va_K.moved hWQ.alike hK9, hD9⟩, hS.F htQ⟩) hS.2.2 dX11_of_57
    by_cases c_7_2 : y = 2
    · skip
      refine lv_tableIn (tgt := 58) hx hb dX11_of_16 (by rw [c_7_2]; decide) (by rw [c_7_2]; decide) (by rw [c_7_2]; rfl) (by decide) ?_
      refine lv_aload_n hx hb dX11_of_58 rfl (lv_at hl 0 rfl) ?_
      refine va_hget3 (v := .int (yc j_3)) hx hb hts kc_xOf_3 hown (hH_ j_3 (by omega)).1 (hH_ j_3 (by omega)).2 hS (hts (.fieldLink RX11 124 "MistHeaps$Heap" "cell" "I") kc_xOf_5) dX11_of_59 rfl ?_
      rw [hQ]
      have hP9 := hP.sub (ws' := [(zo13rrirrrr h0 sc kp ik bl go ch bo), (zo10ririliiriririr sc aTp (nI ts) aHl (nI nh) ed mi sn aHs (nI n) aWk (nI wz) aBk (nI bz) aFc), (zaR aHs cHs 8 fHs), (zaI aFc cFc 6 fFc)]) [0, 1, 2, 3] rfl
      have hD9 := hD.sub (ws' := [(zo13rrirrrr h0 sc kp ik bl go ch bo), (zo10ririliiriririr sc aTp (nI ts) aHl (nI nh) ed mi sn aHs (nI n) aWk (nI wz) aBk (nI bz) aFc), (zaR aHs cHs 8 fHs), (zaI aFc cFc 6 fFc)]) [0, 1, 2, 3] (by decide) rfl
      have hK9 := hK.sub (tys' := [(cHs, .object "MistHeaps$Heap"), (cFc, .int)]) [0, 1] rfl
      exact W.iret (v := yc j_3) hx hb hr (fun tQ htQ hWQ => ⟨⟨(yc j_3), fFc, rfl, trivial, by rw [htQ]; exact hP9, va_K.moved hWQ.alike hK9, hD9⟩, hS.F htQ⟩) hS.2.2 dX11_of_62
    by_cases c_7_3 : y = 3
    · skip
      refine lv_tableIn (tgt := 63) hx hb dX11_of_16 (by rw [c_7_3]; decide) (by rw [c_7_3]; decide) (by rw [c_7_3]; rfl) (by decide) ?_
      refine lv_aload_n hx hb dX11_of_63 rfl (lv_at hl 1 rfl) ?_
      refine va_get (D := (dC, dI)) (ci := 13) (v := .ref sc) (C := RX11) (T := TX11) (N := 7) hx hb hts kc_xOf_0 hown hK hP 0 rfl rfl 0 (by decide) (hts (.fieldLink RX11 14 "MistHeaps" "scene" "LMistHeaps$Scene;") kc_xOf_1) (fun _ h9 => h9) rfl dX11_of_64 ?_
      refine lv_aload_n hx hb dX11_of_67 rfl (lv_at hl 0 rfl) ?_
      refine lv_aload_n hx hb dX11_of_68 rfl (lv_at hl 1 rfl) ?_
      refine va_get (D := (dC, dI)) (ci := 13) (v := .ref sc) (C := RX11) (T := TX11) (N := 7) hx hb hts kc_xOf_0 hown hK hP 0 rfl rfl 0 (by decide) (hts (.fieldLink RX11 14 "MistHeaps" "scene" "LMistHeaps$Scene;") kc_xOf_1) (fun _ h9 => h9) rfl dX11_of_69 ?_
      refine va_get (D := (dC, dI)) (ci := 10) (v := .int sn) (C := RX8) (T := TX8) (N := 14) hx hb hts kc_xOf_6 hown hK hP 1 rfl rfl 6 (by decide) (hts (.fieldLink RX11 88 "MistHeaps$Scene" "snow" "I") kc_xOf_7) (fun _ h9 => h9) rfl dX11_of_72 ?_
      have hPc := hP.sub (ws' := [(zo10ririliiriririr sc aTp (nI ts) aHl (nI nh) ed mi sn aHs (nI n) aWk (nI wz) aBk (nI bz) aFc), (zaI aFc cFc 6 fFc)]) [1, 3] rfl
      have hDc := hD.sub (ws' := [(zo10ririliiriririr sc aTp (nI ts) aHl (nI nh) ed mi sn aHs (nI n) aWk (nI wz) aBk (nI bz) aFc), (zaI aFc cFc 6 fFc)]) [1, 3] (by decide) rfl
      have hKc := hK.sub (tys' := [(cFc, .int)]) [1] rfl
      have hFc := va_free (wc := [(zo10ririliiriririr sc aTp (nI ts) aHl (nI nh) ed mi sn aHs (nI n) aWk (nI wz) aBk (nI bz) aFc), (zaI aFc cFc 6 fFc)]) hD hS hA [1, 3] rfl
      refine va_calli (va_runV (As := [.ref (ya j_3), .int sn]) (rest := []) ⟨hx, hb, hml, hown, hts⟩ (c_xReach l dC dI gd    sc aTp aHl aHs aWk aBk aFc bW bA bE bC ts nh n wz bz cl j_3 mi sn sg cdd szz att nmb sn ed cFc cbW cbA cbE cbC fFc fbW fbA fbE fbC yk yv yc yi ya tpv H.size (by omega) (zcl) (zE) (zC)) (cwV 2 hts gX11_of_X8_reachOf rfl rfl rfl hd_yX8_reachOf ⟨Nat.le_of_ble_eq_true rfl, Nat.le_of_ble_eq_true rfl⟩) ⟨fun a U g mk q => by obtain ⟨q0, q1, qP, qK, qD, qhG, qhW_, qhZ, qhH_⟩ := q; exact ⟨q0, q1, qP, va_K.moved (u := U) (U := U.calling g mk a) (Vm.Alike.refl U.vm) qK, qD, qhG.same rfl rfl, qhW_.same rfl rfl, qhZ.same rfl rfl, qhH_.same rfl rfl⟩, va_recv hK hP (ci := 10) (q := (RX8, TX8, 14)) (q0 := 1) rfl rfl, fun U hU hW => ⟨rfl, by rw [hU], by rw [hU]; exact hPc, va_K.moved hW.alike hKc, hDc.weaken (fun _ _ _ _ => trivial), hG.call hS hU hW (fun q h => hFc q h), hW_.call hS hU hW (fun q h => hFc q h), (hZ.sub [0, 1, 2, 3, 4] [0, 1, 2, 3] rfl rfl).call hS hU hW (fun q h => hFc q h), hH_.call hS hU hW (fun q h => hFc q h)⟩⟩ rfl rfl hl.1 rfl (lv_room (Nat.le_of_ble_eq_true rfl)) dX11_of_75 ⟨Nat.le_of_ble_eq_true rfl, Nat.le_of_ble_eq_true rfl⟩) hS (fun q _ h => hFc q h) hFc (fun r_8 u tC H1 locs htC hvm hw_9 hB hz1 hk1 hS => ?_)
      obtain ⟨fFc9_10, rfl⟩ : ∃ z, z = u := ⟨_, rfl⟩
      try dsimp only at hw_9 hB
      obtain ⟨hP1, hK1, hD1⟩ := hB
      rw [htC] at hP1
      have hK1 := va_K.moved hvm.symm hK1
      obtain ⟨hP, hD⟩ := va_join (wr := [(zo13rrirrrr h0 sc kp ik bl go ch bo), (zaR aHs cHs 8 fHs)]) (w1 := [(zo10ririliiriririr sc aTp (nI ts) aHl (nI nh) ed mi sn aHs (nI n) aWk (nI wz) aBk (nI bz) aFc), (zaI aFc cFc 6 fFc9_10)]) hP hD [1, 3] [0, 2] rfl rfl (by decide) (by decide) hk1 hFc hP1 hD1
      have hK := (hK.sub (tys' := [(cHs, .object "MistHeaps$Heap")]) [0] rfl).app hK1
      generalize H1 = H at hP hS ⊢
      have hP : va_P (dC, dI) vwCl [(zo13rrirrrr h0 sc kp ik bl go ch bo), (zaR aHs cHs 8 fHs), (zo10ririliiriririr sc aTp (nI ts) aHl (nI nh) ed mi sn aHs (nI n) aWk (nI wz) aBk (nI bz) aFc), (zaI aFc cFc 6 fFc9_10)] H := hP
      have hD : va_D A [(zo13rrirrrr h0 sc kp ik bl go ch bo), (zaR aHs cHs 8 fHs), (zo10ririliiriririr sc aTp (nI ts) aHl (nI nh) ed mi sn aHs (nI n) aWk (nI wz) aBk (nI bz) aFc), (zaI aFc cFc 6 fFc9_10)] := hD
      have hK : va_K (dC, dI) vwCl [(cHs, .object "MistHeaps$Heap"), (cFc, .int)] s := hK
      rw [hQ]
      have hP9 := hP.sub (ws' := [(zo13rrirrrr h0 sc kp ik bl go ch bo), (zo10ririliiriririr sc aTp (nI ts) aHl (nI nh) ed mi sn aHs (nI n) aWk (nI wz) aBk (nI bz) aFc), (zaR aHs cHs 8 fHs), (zaI aFc cFc 6 fFc9_10)]) [0, 2, 1, 3] rfl
      have hD9 := hD.sub (ws' := [(zo13rrirrrr h0 sc kp ik bl go ch bo), (zo10ririliiriririr sc aTp (nI ts) aHl (nI nh) ed mi sn aHs (nI n) aWk (nI wz) aBk (nI bz) aFc), (zaR aHs cHs 8 fHs), (zaI aFc cFc 6 fFc9_10)]) [0, 2, 1, 3] (by decide) rfl
      have hK9 := hK.sub (tys' := [(cHs, .object "MistHeaps$Heap"), (cFc, .int)]) [0, 1] rfl
      exact W.iret (v := r_8) hx hb hr (fun tQ htQ hWQ => ⟨⟨r_8, fFc9_10, rfl, trivial, by rw [htQ]; exact hP9, va_K.moved hWQ.alike hK9, hD9⟩, hS.F htQ⟩) hS.2.2 dX11_of_78
    refine lv_tableOut (tgt := 79) hx hb dX11_of_16 (sw_out 0 3 y (fun k hk => by
      match k, hk with
      | 0, _ => exact c_7_0
      | 1, _ => exact c_7_1
      | 2, _ => exact c_7_2
      | 3, _ => exact c_7_3
      | k + 4, hk => exact absurd hk (by omega))) (by decide) ?_
    refine lv_iconst (v := (-1)) hx hb dX11_of_79 (by decide) ?_
    rw [hQ]
    have hP9 := hP.sub (ws' := [(zo13rrirrrr h0 sc kp ik bl go ch bo), (zo10ririliiriririr sc aTp (nI ts) aHl (nI nh) ed mi sn aHs (nI n) aWk (nI wz) aBk (nI bz) aFc), (zaR aHs cHs 8 fHs), (zaI aFc cFc 6 fFc)]) [0, 1, 2, 3] rfl
    have hD9 := hD.sub (ws' := [(zo13rrirrrr h0 sc kp ik bl go ch bo), (zo10ririliiriririr sc aTp (nI ts) aHl (nI nh) ed mi sn aHs (nI n) aWk (nI wz) aBk (nI bz) aFc), (zaR aHs cHs 8 fHs), (zaI aFc cFc 6 fFc)]) [0, 1, 2, 3] (by decide) rfl
    have hK9 := hK.sub (tys' := [(cHs, .object "MistHeaps$Heap"), (cFc, .int)]) [0, 1] rfl
    exact W.iret (v := (-1)) hx hb hr (fun tQ htQ hWQ => ⟨⟨(-1), fFc, rfl, trivial, by rw [htQ]; exact hP9, va_K.moved hWQ.alike hK9, hD9⟩, hS.F htQ⟩) hS.2.2 dX11_of_80
  · skip
    refine qq_as (v := .null) rfl ?_
    refine lv_astore_nN (lv' := [(3, .null), (0, .ref h0), (1, .int x), (2, .int y)]) hx hb dX11_of_8 rfl hl (by decide) rfl (fun ls hl => ?_)
    refine lv_aload_nN hx hb dX11_of_9 rfl (lv_at hl 0 rfl) ?_
    refine lv_ifnonnullN hx hb dX11_of_10 ?_
    refine lv_iconst (v := (-1)) hx hb dX11_of_13 (by decide) ?_
    rw [hQ]
    have hP9 := hP.sub (ws' := [(zo13rrirrrr h0 sc kp ik bl go ch bo), (zo10ririliiriririr sc aTp (nI ts) aHl (nI nh) ed mi sn aHs (nI n) aWk (nI wz) aBk (nI bz) aFc), (zaR aHs cHs 8 fHs), (zaI aFc cFc 6 fFc)]) [0, 1, 2, 3] rfl
    have hD9 := hD.sub (ws' := [(zo13rrirrrr h0 sc kp ik bl go ch bo), (zo10ririliiriririr sc aTp (nI ts) aHl (nI nh) ed mi sn aHs (nI n) aWk (nI wz) aBk (nI bz) aFc), (zaR aHs cHs 8 fHs), (zaI aFc cFc 6 fFc)]) [0, 1, 2, 3] (by decide) rfl
    have hK9 := hK.sub (tys' := [(cHs, .object "MistHeaps$Heap"), (cFc, .int)]) [0, 1] rfl
    exact W.iret (v := (-1)) hx hb hr (fun tQ htQ hWQ => ⟨⟨(-1), fFc, rfl, trivial, by rw [htQ]; exact hP9, va_K.moved hWQ.alike hK9, hD9⟩, hS.F htQ⟩) hS.2.2 dX11_of_14

theorem kc_xSees_0 : ∀ w ∈ wsX110, w ∈ wsX11_sees := fun w h => List.mem_cons_of_mem _ (gin_wsX110 w h)
theorem kc_xSees_1 : (.fieldLink RX11 35 "MistHeaps" "goings" "LMistHeaps$Goings;" : Cond) ∈ wsX11_sees := kc_of 332 rfl rfl rfl
theorem kc_xSees_2 : (.fieldLink RX11 14 "MistHeaps" "scene" "LMistHeaps$Scene;" : Cond) ∈ wsX11_sees := kc_of 328 rfl rfl rfl
theorem kc_xSees_3 : ∀ w ∈ wsX80, w ∈ wsX11_sees := fun w h => List.mem_cons_of_mem _ (gin_wsX80 w h)
theorem kc_xSees_4 : (.fieldLink RX11 88 "MistHeaps$Scene" "snow" "I" : Cond) ∈ wsX11_sees := kc_of 166 rfl rfl rfl
set_option maxHeartbeats 4000000 in
set_option maxRecDepth 100000 in
theorem c_xSees (l : Launch) (dC : Nat → ClassId) (dI : Nat → Nat → Nat) (gd : Nat → Nat)    (h0 : Nat) (sc : Nat) (kp : Nat) (bl : Nat) (go : Nat) (ch : Nat) (bo : Nat) (aTp : Nat) (aHl : Nat) (aHs : Nat) (aWk : Nat) (aBk : Nat) (aFc : Nat) (bW : Nat) (bA : Nat) (bE : Nat) (bC : Nat) (gR : Nat) (gO : Nat) (gS : Nat) (ts : Nat) (nh : Nat) (n : Nat) (wz : Nat) (bz : Nat) (lk : Nat) (cl : Nat) (mi : Int32) (sn : Int32) (sg : Int32) (cdd : Int32) (szz : Int32) (att : Int32) (nmb : Int32) (ik : Int32) (x : Int32) (ed : Int64) (cHs : ClassId) (cFc : ClassId) (cbW : ClassId) (cbA : ClassId) (cbE : ClassId) (cbC : ClassId) (cR : ClassId) (fFc : Nat → Int32) (fbW : Nat → Int32) (fbA : Nat → Int32) (fbE : Nat → Int32) (fbC : Nat → Int32) (fR : Nat → Int32) (yk : Nat → Int32) (yv : Nat → Int32) (yc : Nat → Int32) (fHs : Nat → Option Nat) (yi : Nat → Nat) (ya : Nat → Nat) (tpv : Value) (sz : Nat) (zhs : ∀ k0, k0 < n → fHs k0 = some (ya k0)) (hn8 : n ≤ 8) (zcl : cl ≤ 10) (zE : ∀ k0, k0 < 10 → ∃ e0 : Nat, e0 ≤ 100 ∧ fbE k0 = nI e0) (zC : ∀ k0, k0 < 100 → okC (fbC k0)) : Met l yX11_sees wsX11_sees ({ frames := 6, cells := 0, slots := 0, locals := 125 } : Room) (va_Pc [.ref h0, .int x] (fun U => U.heap.size = sz ∧ va_P (dC, dI) vwCl [(zo13rrirrrr h0 sc kp ik bl go ch bo), (zo4rrir go gR gO (nI lk) gS), (zaI gR cR 8 fR), (zo10ririliiriririr sc aTp (nI ts) aHl (nI nh) ed mi sn aHs (nI n) aWk (nI wz) aBk (nI bz) aFc), (zaR aHs cHs 8 fHs), (zaI aFc cFc 6 fFc)] U.heap ∧ va_K (dC, dI) vwCl [(cR, .int), (cHs, .object "MistHeaps$Heap"), (cFc, .int)] U ∧ va_D (fun _ => True) [(zo13rrirrrr h0 sc kp ik bl go ch bo), (zo4rrir go gR gO (nI lk) gS), (zaI gR cR 8 fR), (zo10ririliiriririr sc aTp (nI ts) aHl (nI nh) ed mi sn aHs (nI n) aWk (nI wz) aBk (nI bz) aFc), (zaR aHs cHs 8 fHs), (zaI aFc cFc 6 fFc)] ∧ Gl gd (va_A [(zo13rrirrrr h0 sc kp ik bl go ch bo), (zo4rrir go gR gO (nI lk) gS), (zaI gR cR 8 fR), (zo10ririliiriririr sc aTp (nI ts) aHl (nI nh) ed mi sn aHs (nI n) aWk (nI wz) aBk (nI bz) aFc), (zaR aHs cHs 8 fHs), (zaI aFc cFc 6 fFc)] sz) U ∧ Gw (va_A [(zo13rrirrrr h0 sc kp ik bl go ch bo), (zo4rrir go gR gO (nI lk) gS), (zaI gR cR 8 fR), (zo10ririliiriririr sc aTp (nI ts) aHl (nI nh) ed mi sn aHs (nI n) aWk (nI wz) aBk (nI bz) aFc), (zaR aHs cHs 8 fHs), (zaI aFc cFc 6 fFc)] sz) U ∧ Fz dC dI [(zo7iirrrriviii aHl sg (nI cl) bW bA bE bC cdd tpv szz att nmb), (zaI bW cbW 10 fbW), (zaI bA cbA 10 fbA), (zaI bE cbE 10 fbE), (zaI bC cbC 100 fbC)] [(cbW, .int), (cbA, .int), (cbE, .int), (cbC, .int)] (va_A [(zo13rrirrrr h0 sc kp ik bl go ch bo), (zo4rrir go gR gO (nI lk) gS), (zaI gR cR 8 fR), (zo10ririliiriririr sc aTp (nI ts) aHl (nI nh) ed mi sn aHs (nI n) aWk (nI wz) aBk (nI bz) aFc), (zaR aHs cHs 8 fHs), (zaI aFc cFc 6 fFc)] sz) U ∧ Hs dC dI n yi ya yk yv yc (va_A [(zo13rrirrrr h0 sc kp ik bl go ch bo), (zo4rrir go gR gO (nI lk) gS), (zaI gR cR 8 fR), (zo10ririliiriririr sc aTp (nI ts) aHl (nI nh) ed mi sn aHs (nI n) aWk (nI wz) aBk (nI bz) aFc), (zaR aHs cHs 8 fHs), (zaI aFc cFc 6 fFc)] sz) U)) (va_Qi (fun (r : Int32) (u : (Nat → Int32) × (Nat → Int32)) => match u with | (fR9, fFc9) => True) (fun (u : (Nat → Int32) × (Nat → Int32)) (t : State) => match u with | (fR9, fFc9) => va_P (dC, dI) vwCl [(zo13rrirrrr h0 sc kp ik bl go ch bo), (zo4rrir go gR gO (nI lk) gS), (zaI gR cR 8 fR9), (zo10ririliiriririr sc aTp (nI ts) aHl (nI nh) ed mi sn aHs (nI n) aWk (nI wz) aBk (nI bz) aFc), (zaR aHs cHs 8 fHs), (zaI aFc cFc 6 fFc9)] t.heap ∧ va_K (dC, dI) vwCl [(cR, .int), (cHs, .object "MistHeaps$Heap"), (cFc, .int)] t ∧ va_D (va_A [(zo13rrirrrr h0 sc kp ik bl go ch bo), (zo4rrir go gR gO (nI lk) gS), (zaI gR cR 8 fR), (zo10ririliiriririr sc aTp (nI ts) aHl (nI nh) ed mi sn aHs (nI n) aWk (nI wz) aBk (nI bz) aFc), (zaR aHs cHs 8 fHs), (zaI aFc cFc 6 fFc)] sz) [(zo13rrirrrr h0 sc kp ik bl go ch bo), (zo4rrir go gR gO (nI lk) gS), (zaI gR cR 8 fR9), (zo10ririliiriririr sc aTp (nI ts) aHl (nI nh) ed mi sn aHs (nI n) aWk (nI wz) aBk (nI bz) aFc), (zaR aHs cHs 8 fHs), (zaI aFc cFc 6 fFc9)]) (va_A [(zo13rrirrrr h0 sc kp ik bl go ch bo), (zo4rrir go gR gO (nI lk) gS), (zaI gR cR 8 fR), (zo10ririliiriririr sc aTp (nI ts) aHl (nI nh) ed mi sn aHs (nI n) aWk (nI wz) aBk (nI bz) aFc), (zaR aHs cHs 8 fHs), (zaI aFc cFc 6 fFc)] sz)) 0 0 (va_A [(zo13rrirrrr h0 sc kp ik bl go ch bo), (zo4rrir go gR gO (nI lk) gS), (zaI gR cR 8 fR), (zo10ririliiriririr sc aTp (nI ts) aHl (nI nh) ed mi sn aHs (nI n) aWk (nI wz) aBk (nI bz) aFc), (zaR aHs cHs 8 fHs), (zaI aFc cFc 6 fFc)] sz) := by
  refine met_ofQ (cc := cX11_sees) (maxL := 2) (ret := (some .int)) (by decide) rfl ?_
  intro p e s m args below meth c s₁ Q B hml hv hQ
  obtain ⟨rfl, hsz, hP, hK, hD0, hG, hW_, hZ, hH_⟩ := hv
  have hx := B.exec
  have hb := B.bytes
  have hr := B.returns
  have hts := atoms_spec (ws := wsX11_sees) B.pre
  have hown : s.vm.findClass RX11 = some m.cls := findClass_of_methodNamed B.named
  have hlocks := B.notSynchronized
  subst hsz
  have hD := hD0.self (sz := s.heap.size)
  generalize hAe : va_A [(zo13rrirrrr h0 sc kp ik bl go ch bo), (zo4rrir go gR gO (nI lk) gS), (zaI gR cR 8 fR), (zo10ririliiriririr sc aTp (nI ts) aHl (nI nh) ed mi sn aHs (nI n) aWk (nI wz) aBk (nI bz) aFc), (zaR aHs cHs 8 fHs), (zaI aFc cFc 6 fFc)] s.heap.size = A at hD hQ hG hW_ hZ hH_ ⊢
  have hA : ∀ q : Nat, s.heap.size ≤ q → A q := fun q h => by rw [← hAe]; exact Or.inr h
  have hS : va_S A s.heap s.heap [] := va_S.rf
  have hl := lv_entry [.ref h0, .int x] (n := 2) (Nat.le_of_ble_eq_true rfl)
  rw [lg_entry_eq]
  generalize (lg_sl [.ref h0, .int x] ++ List.replicate (2 - (lg_sl [.ref h0, .int x]).length) Slot.unset).toArray = ls at hl ⊢
  generalize hag : ([.ref h0, .int x] : List Value).toArray = args at hts hQ ⊢
  have hl : lv_has ls 2 [(0, .ref h0), (1, .int x)] := hl
  obtain ⟨H, hH⟩ : ∃ H : Heap, H = s.heap := ⟨_, rfl⟩
  rw [← hH] at hP
  rw [← hH]
  have hS : va_S A s.heap H [] := by rw [hH]; exact hS
  obtain ⟨locs, hlo⟩ : ∃ L : List Loc, L = [] := ⟨_, rfl⟩
  rw [← hlo] at hS
  rw [← hlo]
  clear hH hlo
  refine lv_iload_n hx hb dX11_sees_0 rfl (lv_at hl 1 rfl) ?_
  refine vp_callSi (va_runS (As := [.int x]) (rest := []) ⟨hx, hb, hml, hown, hts⟩ (c_xCell l dC dI x) (va_cwS 1 hts gX11_sees_X11_isCell rfl rfl rfl hd_yX11_isCell.2 ⟨Nat.le_of_ble_eq_true rfl, Nat.le_of_ble_eq_true rfl⟩) ⟨fun a U g mk q => ⟨q.1, trivial⟩, fun U hU hW => ⟨rfl, trivial⟩⟩ rfl rfl hl.1 rfl (lv_room (Nat.le_of_ble_eq_true rfl)) dX11_sees_1 ⟨Nat.le_of_ble_eq_true rfl, Nat.le_of_ble_eq_true rfl⟩).run (fun r_1 hw_2 => ?_)
  rcases hw_2 with ⟨rfl, j_3, hj_4, rfl⟩ | ⟨rfl, h_5⟩
  · skip
    refine lv_if_ne (tgt := 9) hx hb dX11_sees_4 (by decide) (fun _ => ?_) (fun c_6 => absurd c_6 (by decide))
    refine lv_aload_n hx hb dX11_sees_9 rfl (lv_at hl 0 rfl) ?_
    refine va_get (D := (dC, dI)) (ci := 13) (v := .ref go) (C := RX11) (T := TX11) (N := 7) hx hb hts kc_xSees_0 hown hK hP 0 rfl rfl 4 (by decide) (hts (.fieldLink RX11 35 "MistHeaps" "goings" "LMistHeaps$Goings;") kc_xSees_1) (fun _ h9 => h9) rfl dX11_sees_10 ?_
    refine lv_aload_n hx hb dX11_sees_13 rfl (lv_at hl 0 rfl) ?_
    refine va_get (D := (dC, dI)) (ci := 13) (v := .ref sc) (C := RX11) (T := TX11) (N := 7) hx hb hts kc_xSees_0 hown hK hP 0 rfl rfl 0 (by decide) (hts (.fieldLink RX11 14 "MistHeaps" "scene" "LMistHeaps$Scene;") kc_xSees_2) (fun _ h9 => h9) rfl dX11_sees_14 ?_
    refine lv_aload_n hx hb dX11_sees_17 rfl (lv_at hl 0 rfl) ?_
    refine va_get (D := (dC, dI)) (ci := 13) (v := .ref sc) (C := RX11) (T := TX11) (N := 7) hx hb hts kc_xSees_0 hown hK hP 0 rfl rfl 0 (by decide) (hts (.fieldLink RX11 14 "MistHeaps" "scene" "LMistHeaps$Scene;") kc_xSees_2) (fun _ h9 => h9) rfl dX11_sees_18 ?_
    refine va_get (D := (dC, dI)) (ci := 10) (v := .int sn) (C := RX8) (T := TX8) (N := 14) hx hb hts kc_xSees_3 hown hK hP 3 rfl rfl 6 (by decide) (hts (.fieldLink RX11 88 "MistHeaps$Scene" "snow" "I") kc_xSees_4) (fun _ h9 => h9) rfl dX11_sees_21 ?_
    have hPc := hP.sub (ws' := [(zo4rrir go gR gO (nI lk) gS), (zaI gR cR 8 fR), (zo10ririliiriririr sc aTp (nI ts) aHl (nI nh) ed mi sn aHs (nI n) aWk (nI wz) aBk (nI bz) aFc), (zaR aHs cHs 8 fHs), (zaI aFc cFc 6 fFc)]) [1, 2, 3, 4, 5] rfl
    have hDc := hD.sub (ws' := [(zo4rrir go gR gO (nI lk) gS), (zaI gR cR 8 fR), (zo10ririliiriririr sc aTp (nI ts) aHl (nI nh) ed mi sn aHs (nI n) aWk (nI wz) aBk (nI bz) aFc), (zaR aHs cHs 8 fHs), (zaI aFc cFc 6 fFc)]) [1, 2, 3, 4, 5] (by decide) rfl
    have hKc := hK.sub (tys' := [(cR, .int), (cHs, .object "MistHeaps$Heap"), (cFc, .int)]) [0, 1, 2] rfl
    have hFc := va_free (wc := [(zo4rrir go gR gO (nI lk) gS), (zaI gR cR 8 fR), (zo10ririliiriririr sc aTp (nI ts) aHl (nI nh) ed mi sn aHs (nI n) aWk (nI wz) aBk (nI bz) aFc), (zaR aHs cHs 8 fHs), (zaI aFc cFc 6 fFc)]) hD hS hA [1, 2, 3, 4, 5] rfl
    refine va_callv (va_runV (As := [.ref sc, .int sn]) (rest := []) ⟨hx, hb, hml, hown, hts⟩ (c_measure l dC dI gd    sc go aTp aHl aHs aWk aBk aFc bW bA bE bC gR gO gS ts nh n wz bz lk cl mi sn sg cdd szz att nmb sn ed cHs cFc cbW cbA cbE cbC cR fFc fbW fbA fbE fbC fR yk yv yc fHs yi ya tpv H.size (zhs) (hn8) (zcl) (zE) (zC)) (cwV 2 hts gX11_sees_X2_measure rfl rfl rfl hd_yX2_measure ⟨Nat.le_of_ble_eq_true rfl, Nat.le_of_ble_eq_true rfl⟩) ⟨fun a U g mk q => by obtain ⟨q0, q1, qP, qK, qD, qhG, qhW_, qhZ, qhH_⟩ := q; exact ⟨q0, q1, qP, va_K.moved (u := U) (U := U.calling g mk a) (Vm.Alike.refl U.vm) qK, qD, qhG.same rfl rfl, qhW_.same rfl rfl, qhZ.same rfl rfl, qhH_.same rfl rfl⟩, va_recv hK hP (ci := 4) (q := (RX2, TX2, 4)) (q0 := 1) rfl rfl, fun U hU hW => ⟨rfl, by rw [hU], by rw [hU]; exact hPc, va_K.moved hW.alike hKc, hDc.weaken (fun _ _ _ _ => trivial), hG.call hS hU hW (fun q h => hFc q h), hW_.call hS hU hW (fun q h => hFc q h), (hZ.sub [0, 1, 2, 3, 4] [0, 1, 2, 3] rfl rfl).call hS hU hW (fun q h => hFc q h), hH_.call hS hU hW (fun q h => hFc q h)⟩⟩ rfl rfl hl.1 rfl (lv_room (Nat.le_of_ble_eq_true rfl)) dX11_sees_24 ⟨Nat.le_of_ble_eq_true rfl, Nat.le_of_ble_eq_true rfl⟩) hS (fun q _ h => hFc q h) hFc (fun u tC H1 locs htC hvm hw_8 hB hz1 hk1 hS => ?_)
    obtain ⟨fR9_9, fFc9_10⟩ := u
    try dsimp only at hw_8 hB
    obtain ⟨hP1, hK1, hD1⟩ := hB
    rw [htC] at hP1
    have hK1 := va_K.moved hvm.symm hK1
    obtain ⟨hP, hD⟩ := va_join (wr := [(zo13rrirrrr h0 sc kp ik bl go ch bo)]) (w1 := [(zo4rrir go gR gO (nI lk) gS), (zaI gR cR 8 fR9_9), (zo10ririliiriririr sc aTp (nI ts) aHl (nI nh) ed mi sn aHs (nI n) aWk (nI wz) aBk (nI bz) aFc), (zaR aHs cHs 8 fHs), (zaI aFc cFc 6 fFc9_10)]) hP hD [1, 2, 3, 4, 5] [0] rfl rfl (by decide) (by decide) hk1 hFc hP1 hD1
    have hK := (hK.sub (tys' := []) [] rfl).app hK1
    generalize H1 = H at hP hS ⊢
    have hP : va_P (dC, dI) vwCl [(zo13rrirrrr h0 sc kp ik bl go ch bo), (zo4rrir go gR gO (nI lk) gS), (zaI gR cR 8 fR9_9), (zo10ririliiriririr sc aTp (nI ts) aHl (nI nh) ed mi sn aHs (nI n) aWk (nI wz) aBk (nI bz) aFc), (zaR aHs cHs 8 fHs), (zaI aFc cFc 6 fFc9_10)] H := hP
    have hD : va_D A [(zo13rrirrrr h0 sc kp ik bl go ch bo), (zo4rrir go gR gO (nI lk) gS), (zaI gR cR 8 fR9_9), (zo10ririliiriririr sc aTp (nI ts) aHl (nI nh) ed mi sn aHs (nI n) aWk (nI wz) aBk (nI bz) aFc), (zaR aHs cHs 8 fHs), (zaI aFc cFc 6 fFc9_10)] := hD
    have hK : va_K (dC, dI) vwCl [(cR, .int), (cHs, .object "MistHeaps$Heap"), (cFc, .int)] s := hK
    refine lv_aload_n hx hb dX11_sees_27 rfl (lv_at hl 0 rfl) ?_
    refine va_get (D := (dC, dI)) (ci := 13) (v := .ref go) (C := RX11) (T := TX11) (N := 7) hx hb hts kc_xSees_0 hown hK hP 0 rfl rfl 4 (by decide) (hts (.fieldLink RX11 35 "MistHeaps" "goings" "LMistHeaps$Goings;") kc_xSees_1) (fun _ h9 => h9) rfl dX11_sees_28 ?_
    refine lv_aload_n hx hb dX11_sees_31 rfl (lv_at hl 0 rfl) ?_
    refine va_get (D := (dC, dI)) (ci := 13) (v := .ref sc) (C := RX11) (T := TX11) (N := 7) hx hb hts kc_xSees_0 hown hK hP 0 rfl rfl 0 (by decide) (hts (.fieldLink RX11 14 "MistHeaps" "scene" "LMistHeaps$Scene;") kc_xSees_2) (fun _ h9 => h9) rfl dX11_sees_32 ?_
    refine lv_iload_n hx hb dX11_sees_35 rfl (lv_at hl 1 rfl) ?_
    have hPc := hP.sub (ws' := [(zo4rrir go gR gO (nI lk) gS), (zaI gR cR 8 fR9_9), (zo10ririliiriririr sc aTp (nI ts) aHl (nI nh) ed mi sn aHs (nI n) aWk (nI wz) aBk (nI bz) aFc), (zaR aHs cHs 8 fHs)]) [1, 2, 3, 4] rfl
    have hKc := hK.sub (tys' := [(cR, .int), (cHs, .object "MistHeaps$Heap")]) [0, 1] rfl
    refine vp_callSi (va_runV (As := [.ref sc, .int (nI j_3)]) (rest := []) ⟨hx, hb, hml, hown, hts⟩ (c_seenFrom l dC dI gd  sc go aTp aHl aHs aWk aBk aFc gR gO gS ts nh n wz bz lk mi sn (nI j_3) ed cHs cR fR9_9 yk yv yc fHs yi ya (zhs) (hn8)) (cwV 2 hts gX11_sees_X2_seenFrom rfl rfl rfl hd_yX2_seenFrom ⟨Nat.le_of_ble_eq_true rfl, Nat.le_of_ble_eq_true rfl⟩) ⟨fun a U g mk q => by obtain ⟨q0, qP, qK, qhG, qhH_⟩ := q; exact ⟨q0, qP, va_K.moved (u := U) (U := U.calling g mk a) (Vm.Alike.refl U.vm) qK, qhG.same rfl rfl, qhH_.same rfl rfl⟩, va_recv hK hP (ci := 4) (q := (RX2, TX2, 4)) (q0 := 1) rfl rfl, fun U hU hW => ⟨rfl, by rw [hU]; exact hPc, va_K.moved hW.alike hKc, hG.callF hS hU hW, hH_.callF hS hU hW⟩⟩ rfl rfl hl.1 rfl (lv_room (Nat.le_of_ble_eq_true rfl)) dX11_sees_36 ⟨Nat.le_of_ble_eq_true rfl, Nat.le_of_ble_eq_true rfl⟩).run (fun r_11 hw_12 => ?_)
    rw [hQ]
    have hP9 := hP.sub (ws' := [(zo13rrirrrr h0 sc kp ik bl go ch bo), (zo4rrir go gR gO (nI lk) gS), (zaI gR cR 8 fR9_9), (zo10ririliiriririr sc aTp (nI ts) aHl (nI nh) ed mi sn aHs (nI n) aWk (nI wz) aBk (nI bz) aFc), (zaR aHs cHs 8 fHs), (zaI aFc cFc 6 fFc9_10)]) [0, 1, 2, 3, 4, 5] rfl
    have hD9 := hD.sub (ws' := [(zo13rrirrrr h0 sc kp ik bl go ch bo), (zo4rrir go gR gO (nI lk) gS), (zaI gR cR 8 fR9_9), (zo10ririliiriririr sc aTp (nI ts) aHl (nI nh) ed mi sn aHs (nI n) aWk (nI wz) aBk (nI bz) aFc), (zaR aHs cHs 8 fHs), (zaI aFc cFc 6 fFc9_10)]) [0, 1, 2, 3, 4, 5] (by decide) rfl
    have hK9 := hK.sub (tys' := [(cR, .int), (cHs, .object "MistHeaps$Heap"), (cFc, .int)]) [0, 1, 2] rfl
    exact W.iret (v := r_11) hx hb hr (fun tQ htQ hWQ => ⟨⟨r_11, (fR9_9, fFc9_10), rfl, trivial, by rw [htQ]; exact hP9, va_K.moved hWQ.alike hK9, hD9⟩, hS.F htQ⟩) hS.2.2 dX11_sees_39
  · skip
    refine lv_if_ne (tgt := 9) hx hb dX11_sees_4 (by decide) (fun c_13 => absurd c_13 (by decide)) (fun _ => ?_)
    refine lv_iconst (v := (-1)) hx hb dX11_sees_7 (by decide) ?_
    rw [hQ]
    have hP9 := hP.sub (ws' := [(zo13rrirrrr h0 sc kp ik bl go ch bo), (zo4rrir go gR gO (nI lk) gS), (zaI gR cR 8 fR), (zo10ririliiriririr sc aTp (nI ts) aHl (nI nh) ed mi sn aHs (nI n) aWk (nI wz) aBk (nI bz) aFc), (zaR aHs cHs 8 fHs), (zaI aFc cFc 6 fFc)]) [0, 1, 2, 3, 4, 5] rfl
    have hD9 := hD.sub (ws' := [(zo13rrirrrr h0 sc kp ik bl go ch bo), (zo4rrir go gR gO (nI lk) gS), (zaI gR cR 8 fR), (zo10ririliiriririr sc aTp (nI ts) aHl (nI nh) ed mi sn aHs (nI n) aWk (nI wz) aBk (nI bz) aFc), (zaR aHs cHs 8 fHs), (zaI aFc cFc 6 fFc)]) [0, 1, 2, 3, 4, 5] (by decide) rfl
    have hK9 := hK.sub (tys' := [(cR, .int), (cHs, .object "MistHeaps$Heap"), (cFc, .int)]) [0, 1, 2] rfl
    exact W.iret (v := (-1)) hx hb hr (fun tQ htQ hWQ => ⟨⟨(-1), (fR, fFc), rfl, trivial, by rw [htQ]; exact hP9, va_K.moved hWQ.alike hK9, hD9⟩, hS.F htQ⟩) hS.2.2 dX11_sees_8

theorem kc_xWhere_0 : (.constantLong RX11 139 (-9223372036854775808) : Cond) ∈ wsX11_where := kc_of 711 rfl rfl rfl
theorem kc_xWhere_1 : ∀ w ∈ wsX110, w ∈ wsX11_where := fun w h => List.mem_cons_of_mem _ (gin_wsX110 w h)
theorem kc_xWhere_2 : (.fieldLink RX11 14 "MistHeaps" "scene" "LMistHeaps$Scene;" : Cond) ∈ wsX11_where := kc_of 328 rfl rfl rfl
theorem kc_xWhere_3 : ∀ w ∈ wsX80, w ∈ wsX11_where := fun w h => List.mem_cons_of_mem _ (gin_wsX80 w h)
theorem kc_xWhere_4 : (.fieldLink RX11 101 "MistHeaps$Scene" "heapCount" "I" : Cond) ∈ wsX11_where := kc_of 173 rfl rfl rfl
theorem kc_xWhere_5 : (.fieldLink RX11 35 "MistHeaps" "goings" "LMistHeaps$Goings;" : Cond) ∈ wsX11_where := kc_of 332 rfl rfl rfl
theorem kc_xWhere_6 : (.fieldLink RX11 88 "MistHeaps$Scene" "snow" "I" : Cond) ∈ wsX11_where := kc_of 166 rfl rfl rfl
set_option maxHeartbeats 4000000 in
set_option maxRecDepth 100000 in
theorem c_xWhere (l : Launch) (dC : Nat → ClassId) (dI : Nat → Nat → Nat) (gd : Nat → Nat)    (h0 : Nat) (sc : Nat) (kp : Nat) (bl : Nat) (go : Nat) (ch : Nat) (bo : Nat) (aTp : Nat) (aHl : Nat) (aHs : Nat) (aWk : Nat) (aBk : Nat) (aFc : Nat) (bW : Nat) (bA : Nat) (bE : Nat) (bC : Nat) (gR : Nat) (gO : Nat) (gS : Nat) (ts : Nat) (nh : Nat) (n : Nat) (wz : Nat) (bz : Nat) (lk : Nat) (cl : Nat) (mi : Int32) (sn : Int32) (sg : Int32) (cdd : Int32) (szz : Int32) (att : Int32) (nmb : Int32) (ik : Int32) (x : Int32) (ed : Int64) (cHs : ClassId) (cFc : ClassId) (cbW : ClassId) (cbA : ClassId) (cbE : ClassId) (cbC : ClassId) (cR : ClassId) (fFc : Nat → Int32) (fbW : Nat → Int32) (fbA : Nat → Int32) (fbE : Nat → Int32) (fbC : Nat → Int32) (fR : Nat → Int32) (yk : Nat → Int32) (yv : Nat → Int32) (yc : Nat → Int32) (fHs : Nat → Option Nat) (yi : Nat → Nat) (ya : Nat → Nat) (tpv : Value) (sz : Nat) (zhs : ∀ k0, k0 < n → fHs k0 = some (ya k0)) (hn8 : n ≤ 8) (zcl : cl ≤ 10) (zE : ∀ k0, k0 < 10 → ∃ e0 : Nat, e0 ≤ 100 ∧ fbE k0 = nI e0) (zC : ∀ k0, k0 < 100 → okC (fbC k0)) : Met l yX11_where wsX11_where ({ frames := 6, cells := 0, slots := 0, locals := 125 } : Room) (va_Pc [.ref h0, .int x] (fun U => U.heap.size = sz ∧ va_P (dC, dI) vwCl [(zo13rrirrrr h0 sc kp ik bl go ch bo), (zo4rrir go gR gO (nI lk) gS), (zaI gR cR 8 fR), (zo10ririliiriririr sc aTp (nI ts) aHl (nI nh) ed mi sn aHs (nI n) aWk (nI wz) aBk (nI bz) aFc), (zaR aHs cHs 8 fHs), (zaI aFc cFc 6 fFc)] U.heap ∧ va_K (dC, dI) vwCl [(cR, .int), (cHs, .object "MistHeaps$Heap"), (cFc, .int)] U ∧ va_D (fun _ => True) [(zo13rrirrrr h0 sc kp ik bl go ch bo), (zo4rrir go gR gO (nI lk) gS), (zaI gR cR 8 fR), (zo10ririliiriririr sc aTp (nI ts) aHl (nI nh) ed mi sn aHs (nI n) aWk (nI wz) aBk (nI bz) aFc), (zaR aHs cHs 8 fHs), (zaI aFc cFc 6 fFc)] ∧ Gl gd (va_A [(zo13rrirrrr h0 sc kp ik bl go ch bo), (zo4rrir go gR gO (nI lk) gS), (zaI gR cR 8 fR), (zo10ririliiriririr sc aTp (nI ts) aHl (nI nh) ed mi sn aHs (nI n) aWk (nI wz) aBk (nI bz) aFc), (zaR aHs cHs 8 fHs), (zaI aFc cFc 6 fFc)] sz) U ∧ Gw (va_A [(zo13rrirrrr h0 sc kp ik bl go ch bo), (zo4rrir go gR gO (nI lk) gS), (zaI gR cR 8 fR), (zo10ririliiriririr sc aTp (nI ts) aHl (nI nh) ed mi sn aHs (nI n) aWk (nI wz) aBk (nI bz) aFc), (zaR aHs cHs 8 fHs), (zaI aFc cFc 6 fFc)] sz) U ∧ Fz dC dI [(zo7iirrrriviii aHl sg (nI cl) bW bA bE bC cdd tpv szz att nmb), (zaI bW cbW 10 fbW), (zaI bA cbA 10 fbA), (zaI bE cbE 10 fbE), (zaI bC cbC 100 fbC)] [(cbW, .int), (cbA, .int), (cbE, .int), (cbC, .int)] (va_A [(zo13rrirrrr h0 sc kp ik bl go ch bo), (zo4rrir go gR gO (nI lk) gS), (zaI gR cR 8 fR), (zo10ririliiriririr sc aTp (nI ts) aHl (nI nh) ed mi sn aHs (nI n) aWk (nI wz) aBk (nI bz) aFc), (zaR aHs cHs 8 fHs), (zaI aFc cFc 6 fFc)] sz) U ∧ Hs dC dI n yi ya yk yv yc (va_A [(zo13rrirrrr h0 sc kp ik bl go ch bo), (zo4rrir go gR gO (nI lk) gS), (zaI gR cR 8 fR), (zo10ririliiriririr sc aTp (nI ts) aHl (nI nh) ed mi sn aHs (nI n) aWk (nI wz) aBk (nI bz) aFc), (zaR aHs cHs 8 fHs), (zaI aFc cFc 6 fFc)] sz) U)) (va_Ql (fun (r : Int64) (u : (Nat → Int32) × (Nat → Int32)) => match u with | (fR9, fFc9) => True) (fun (u : (Nat → Int32) × (Nat → Int32)) (t : State) => match u with | (fR9, fFc9) => va_P (dC, dI) vwCl [(zo13rrirrrr h0 sc kp ik bl go ch bo), (zo4rrir go gR gO (nI lk) gS), (zaI gR cR 8 fR9), (zo10ririliiriririr sc aTp (nI ts) aHl (nI nh) ed mi sn aHs (nI n) aWk (nI wz) aBk (nI bz) aFc), (zaR aHs cHs 8 fHs), (zaI aFc cFc 6 fFc9)] t.heap ∧ va_K (dC, dI) vwCl [(cR, .int), (cHs, .object "MistHeaps$Heap"), (cFc, .int)] t ∧ va_D (va_A [(zo13rrirrrr h0 sc kp ik bl go ch bo), (zo4rrir go gR gO (nI lk) gS), (zaI gR cR 8 fR), (zo10ririliiriririr sc aTp (nI ts) aHl (nI nh) ed mi sn aHs (nI n) aWk (nI wz) aBk (nI bz) aFc), (zaR aHs cHs 8 fHs), (zaI aFc cFc 6 fFc)] sz) [(zo13rrirrrr h0 sc kp ik bl go ch bo), (zo4rrir go gR gO (nI lk) gS), (zaI gR cR 8 fR9), (zo10ririliiriririr sc aTp (nI ts) aHl (nI nh) ed mi sn aHs (nI n) aWk (nI wz) aBk (nI bz) aFc), (zaR aHs cHs 8 fHs), (zaI aFc cFc 6 fFc9)]) (va_A [(zo13rrirrrr h0 sc kp ik bl go ch bo), (zo4rrir go gR gO (nI lk) gS), (zaI gR cR 8 fR), (zo10ririliiriririr sc aTp (nI ts) aHl (nI nh) ed mi sn aHs (nI n) aWk (nI wz) aBk (nI bz) aFc), (zaR aHs cHs 8 fHs), (zaI aFc cFc 6 fFc)] sz)) 0 0 (va_A [(zo13rrirrrr h0 sc kp ik bl go ch bo), (zo4rrir go gR gO (nI lk) gS), (zaI gR cR 8 fR), (zo10ririliiriririr sc aTp (nI ts) aHl (nI nh) ed mi sn aHs (nI n) aWk (nI wz) aBk (nI bz) aFc), (zaR aHs cHs 8 fHs), (zaI aFc cFc 6 fFc)] sz) := by
  refine met_ofQ (cc := cX11_where) (maxL := 5) (ret := (some .long)) (by decide) rfl ?_
  intro p e s m args below meth c s₁ Q B hml hv hQ
  obtain ⟨rfl, hsz, hP, hK, hD0, hG, hW_, hZ, hH_⟩ := hv
  have hx := B.exec
  have hb := B.bytes
  have hr := B.returns
  have hts := atoms_spec (ws := wsX11_where) B.pre
  have hown : s.vm.findClass RX11 = some m.cls := findClass_of_methodNamed B.named
  have hlocks := B.notSynchronized
  subst hsz
  have hD := hD0.self (sz := s.heap.size)
  generalize hAe : va_A [(zo13rrirrrr h0 sc kp ik bl go ch bo), (zo4rrir go gR gO (nI lk) gS), (zaI gR cR 8 fR), (zo10ririliiriririr sc aTp (nI ts) aHl (nI nh) ed mi sn aHs (nI n) aWk (nI wz) aBk (nI bz) aFc), (zaR aHs cHs 8 fHs), (zaI aFc cFc 6 fFc)] s.heap.size = A at hD hQ hG hW_ hZ hH_ ⊢
  have hA : ∀ q : Nat, s.heap.size ≤ q → A q := fun q h => by rw [← hAe]; exact Or.inr h
  have hS : va_S A s.heap s.heap [] := va_S.rf
  have hl := lv_entry [.ref h0, .int x] (n := 5) (Nat.le_of_ble_eq_true rfl)
  rw [lg_entry_eq]
  generalize (lg_sl [.ref h0, .int x] ++ List.replicate (5 - (lg_sl [.ref h0, .int x]).length) Slot.unset).toArray = ls at hl ⊢
  generalize hag : ([.ref h0, .int x] : List Value).toArray = args at hts hQ ⊢
  have hl : lv_has ls 5 [(0, .ref h0), (1, .int x)] := hl
  obtain ⟨H, hH⟩ : ∃ H : Heap, H = s.heap := ⟨_, rfl⟩
  rw [← hH] at hP
  rw [← hH]
  have hS : va_S A s.heap H [] := by rw [hH]; exact hS
  obtain ⟨locs, hlo⟩ : ∃ L : List Loc, L = [] := ⟨_, rfl⟩
  rw [← hlo] at hS
  rw [← hlo]
  clear hH hlo
  refine lv_iload_n hx hb dX11_where_0 rfl (lv_at hl 1 rfl) ?_
  refine lv_if_lt (tgt := 17) hx hb dX11_where_1 (by decide) (fun c_1 => ?_) (fun c_1 => ?_)
  · skip
    refine lv_ldc2 (v := (-9223372036854775808)) hx hb hown (hts (.constantLong RX11 139 (-9223372036854775808)) kc_xWhere_0) dX11_where_17 ?_
    rw [hQ]
    have hP9 := hP.sub (ws' := [(zo13rrirrrr h0 sc kp ik bl go ch bo), (zo4rrir go gR gO (nI lk) gS), (zaI gR cR 8 fR), (zo10ririliiriririr sc aTp (nI ts) aHl (nI nh) ed mi sn aHs (nI n) aWk (nI wz) aBk (nI bz) aFc), (zaR aHs cHs 8 fHs), (zaI aFc cFc 6 fFc)]) [0, 1, 2, 3, 4, 5] rfl
    have hD9 := hD.sub (ws' := [(zo13rrirrrr h0 sc kp ik bl go ch bo), (zo4rrir go gR gO (nI lk) gS), (zaI gR cR 8 fR), (zo10ririliiriririr sc aTp (nI ts) aHl (nI nh) ed mi sn aHs (nI n) aWk (nI wz) aBk (nI bz) aFc), (zaR aHs cHs 8 fHs), (zaI aFc cFc 6 fFc)]) [0, 1, 2, 3, 4, 5] (by decide) rfl
    have hK9 := hK.sub (tys' := [(cR, .int), (cHs, .object "MistHeaps$Heap"), (cFc, .int)]) [0, 1, 2] rfl
    exact W.lret (v := (-9223372036854775808)) hx hb hr (fun tQ htQ hWQ => ⟨⟨(-9223372036854775808), (fR, fFc), rfl, trivial, by rw [htQ]; exact hP9, va_K.moved hWQ.alike hK9, hD9⟩, hS.F htQ⟩) hS.2.2 dX11_where_20
  · skip
    refine lv_iload_n hx hb dX11_where_4 rfl (lv_at hl 1 rfl) ?_
    refine lv_iconst (v := 1) hx hb dX11_where_5 (by decide) ?_
    refine lv_aload_n hx hb dX11_where_6 rfl (lv_at hl 0 rfl) ?_
    refine va_get (D := (dC, dI)) (ci := 13) (v := .ref sc) (C := RX11) (T := TX11) (N := 7) hx hb hts kc_xWhere_1 hown hK hP 0 rfl rfl 0 (by decide) (hts (.fieldLink RX11 14 "MistHeaps" "scene" "LMistHeaps$Scene;") kc_xWhere_2) (fun _ h9 => h9) rfl dX11_where_7 ?_
    refine va_get (D := (dC, dI)) (ci := 10) (v := .int (nI n)) (C := RX8) (T := TX8) (N := 14) hx hb hts kc_xWhere_3 hown hK hP 3 rfl rfl 8 (by decide) (hts (.fieldLink RX11 101 "MistHeaps$Scene" "heapCount" "I") kc_xWhere_4) (fun _ h9 => h9) rfl dX11_where_10 ?_
    refine lv_ishl hx hb dX11_where_13 ?_
    refine lv_icmp_lt (tgt := 21) hx hb dX11_where_14 (by decide) (fun c_2 => ?_) (fun c_2 => ?_)
    · skip
      refine lv_aload_n hx hb dX11_where_21 rfl (lv_at hl 0 rfl) ?_
      refine va_get (D := (dC, dI)) (ci := 13) (v := .ref go) (C := RX11) (T := TX11) (N := 7) hx hb hts kc_xWhere_1 hown hK hP 0 rfl rfl 4 (by decide) (hts (.fieldLink RX11 35 "MistHeaps" "goings" "LMistHeaps$Goings;") kc_xWhere_5) (fun _ h9 => h9) rfl dX11_where_22 ?_
      refine lv_aload_n hx hb dX11_where_25 rfl (lv_at hl 0 rfl) ?_
      refine va_get (D := (dC, dI)) (ci := 13) (v := .ref sc) (C := RX11) (T := TX11) (N := 7) hx hb hts kc_xWhere_1 hown hK hP 0 rfl rfl 0 (by decide) (hts (.fieldLink RX11 14 "MistHeaps" "scene" "LMistHeaps$Scene;") kc_xWhere_2) (fun _ h9 => h9) rfl dX11_where_26 ?_
      refine lv_aload_n hx hb dX11_where_29 rfl (lv_at hl 0 rfl) ?_
      refine va_get (D := (dC, dI)) (ci := 13) (v := .ref sc) (C := RX11) (T := TX11) (N := 7) hx hb hts kc_xWhere_1 hown hK hP 0 rfl rfl 0 (by decide) (hts (.fieldLink RX11 14 "MistHeaps" "scene" "LMistHeaps$Scene;") kc_xWhere_2) (fun _ h9 => h9) rfl dX11_where_30 ?_
      refine va_get (D := (dC, dI)) (ci := 10) (v := .int sn) (C := RX8) (T := TX8) (N := 14) hx hb hts kc_xWhere_3 hown hK hP 3 rfl rfl 6 (by decide) (hts (.fieldLink RX11 88 "MistHeaps$Scene" "snow" "I") kc_xWhere_6) (fun _ h9 => h9) rfl dX11_where_33 ?_
      have hPc := hP.sub (ws' := [(zo4rrir go gR gO (nI lk) gS), (zaI gR cR 8 fR), (zo10ririliiriririr sc aTp (nI ts) aHl (nI nh) ed mi sn aHs (nI n) aWk (nI wz) aBk (nI bz) aFc), (zaR aHs cHs 8 fHs), (zaI aFc cFc 6 fFc)]) [1, 2, 3, 4, 5] rfl
      have hDc := hD.sub (ws' := [(zo4rrir go gR gO (nI lk) gS), (zaI gR cR 8 fR), (zo10ririliiriririr sc aTp (nI ts) aHl (nI nh) ed mi sn aHs (nI n) aWk (nI wz) aBk (nI bz) aFc), (zaR aHs cHs 8 fHs), (zaI aFc cFc 6 fFc)]) [1, 2, 3, 4, 5] (by decide) rfl
      have hKc := hK.sub (tys' := [(cR, .int), (cHs, .object "MistHeaps$Heap"), (cFc, .int)]) [0, 1, 2] rfl
      have hFc := va_free (wc := [(zo4rrir go gR gO (nI lk) gS), (zaI gR cR 8 fR), (zo10ririliiriririr sc aTp (nI ts) aHl (nI nh) ed mi sn aHs (nI n) aWk (nI wz) aBk (nI bz) aFc), (zaR aHs cHs 8 fHs), (zaI aFc cFc 6 fFc)]) hD hS hA [1, 2, 3, 4, 5] rfl
      refine va_callv (va_runV (As := [.ref sc, .int sn]) (rest := []) ⟨hx, hb, hml, hown, hts⟩ (c_measure l dC dI gd    sc go aTp aHl aHs aWk aBk aFc bW bA bE bC gR gO gS ts nh n wz bz lk cl mi sn sg cdd szz att nmb sn ed cHs cFc cbW cbA cbE cbC cR fFc fbW fbA fbE fbC fR yk yv yc fHs yi ya tpv H.size (zhs) (hn8) (zcl) (zE) (zC)) (cwV 2 hts gX11_where_X2_measure rfl rfl rfl hd_yX2_measure ⟨Nat.le_of_ble_eq_true rfl, Nat.le_of_ble_eq_true rfl⟩) ⟨fun a U g mk q => by obtain ⟨q0, q1, qP, qK, qD, qhG, qhW_, qhZ, qhH_⟩ := q; exact ⟨q0, q1, qP, va_K.moved (u := U) (U := U.calling g mk a) (Vm.Alike.refl U.vm) qK, qD, qhG.same rfl rfl, qhW_.same rfl rfl, qhZ.same rfl rfl, qhH_.same rfl rfl⟩, va_recv hK hP (ci := 4) (q := (RX2, TX2, 4)) (q0 := 1) rfl rfl, fun U hU hW => ⟨rfl, by rw [hU], by rw [hU]; exact hPc, va_K.moved hW.alike hKc, hDc.weaken (fun _ _ _ _ => trivial), hG.call hS hU hW (fun q h => hFc q h), hW_.call hS hU hW (fun q h => hFc q h), (hZ.sub [0, 1, 2, 3, 4] [0, 1, 2, 3] rfl rfl).call hS hU hW (fun q h => hFc q h), hH_.call hS hU hW (fun q h => hFc q h)⟩⟩ rfl rfl hl.1 rfl (lv_room (Nat.le_of_ble_eq_true rfl)) dX11_where_36 ⟨Nat.le_of_ble_eq_true rfl, Nat.le_of_ble_eq_true rfl⟩) hS (fun q _ h => hFc q h) hFc (fun u tC H1 locs htC hvm hw_4 hB hz1 hk1 hS => ?_)
      obtain ⟨fR9_5, fFc9_6⟩ := u
      try dsimp only at hw_4 hB
      obtain ⟨hP1, hK1, hD1⟩ := hB
      rw [htC] at hP1
      have hK1 := va_K.moved hvm.symm hK1
      obtain ⟨hP, hD⟩ := va_join (wr := [(zo13rrirrrr h0 sc kp ik bl go ch bo)]) (w1 := [(zo4rrir go gR gO (nI lk) gS), (zaI gR cR 8 fR9_5), (zo10ririliiriririr sc aTp (nI ts) aHl (nI nh) ed mi sn aHs (nI n) aWk (nI wz) aBk (nI bz) aFc), (zaR aHs cHs 8 fHs), (zaI aFc cFc 6 fFc9_6)]) hP hD [1, 2, 3, 4, 5] [0] rfl rfl (by decide) (by decide) hk1 hFc hP1 hD1
      have hK := (hK.sub (tys' := []) [] rfl).app hK1
      generalize H1 = H at hP hS ⊢
      have hP : va_P (dC, dI) vwCl [(zo13rrirrrr h0 sc kp ik bl go ch bo), (zo4rrir go gR gO (nI lk) gS), (zaI gR cR 8 fR9_5), (zo10ririliiriririr sc aTp (nI ts) aHl (nI nh) ed mi sn aHs (nI n) aWk (nI wz) aBk (nI bz) aFc), (zaR aHs cHs 8 fHs), (zaI aFc cFc 6 fFc9_6)] H := hP
      have hD : va_D A [(zo13rrirrrr h0 sc kp ik bl go ch bo), (zo4rrir go gR gO (nI lk) gS), (zaI gR cR 8 fR9_5), (zo10ririliiriririr sc aTp (nI ts) aHl (nI nh) ed mi sn aHs (nI n) aWk (nI wz) aBk (nI bz) aFc), (zaR aHs cHs 8 fHs), (zaI aFc cFc 6 fFc9_6)] := hD
      have hK : va_K (dC, dI) vwCl [(cR, .int), (cHs, .object "MistHeaps$Heap"), (cFc, .int)] s := hK
      refine lv_lconst (v := 0) hx hb dX11_where_39 (by decide) ?_
      refine lv_lstore_n (lv' := [(2, .long 0), (0, .ref h0), (1, .int x)]) hx hb dX11_where_40 rfl hl (by decide) rfl (fun ls hl => ?_)
      refine lv_iconst (v := 0) hx hb dX11_where_41 (by decide) ?_
      refine lv_istore (lv' := [(4, .int 0), (2, .long 0), (0, .ref h0), (1, .int x)]) hx hb dX11_where_42 hl (by decide) rfl (fun ls hl => ?_)
      have L44 : ∀ (nF : Nat) (i : Nat) (fR2 : Nat → Int32) (fFc2 : Nat → Int32) (q : Int64), 36 - i < nF → (i ≤ 36) → ∀ (H : Heap) (locs : List Loc), va_K (dC, dI) vwCl [(cR, .int), (cHs, .object "MistHeaps$Heap"), (cFc, .int)] s → va_P (dC, dI) vwCl [(zo13rrirrrr h0 sc kp ik bl go ch bo), (zo4rrir go gR gO (nI lk) gS), (zaI gR cR 8 fR2), (zo10ririliiriririr sc aTp (nI ts) aHl (nI nh) ed mi sn aHs (nI n) aWk (nI wz) aBk (nI bz) aFc), (zaR aHs cHs 8 fHs), (zaI aFc cFc 6 fFc2)] H → va_D A [(zo13rrirrrr h0 sc kp ik bl go ch bo), (zo4rrir go gR gO (nI lk) gS), (zaI gR cR 8 fR2), (zo10ririliiriririr sc aTp (nI ts) aHl (nI nh) ed mi sn aHs (nI n) aWk (nI wz) aBk (nI bz) aFc), (zaR aHs cHs 8 fHs), (zaI aFc cFc 6 fFc2)] → va_S A s.heap H locs → ∀ (ls : Array Slot), lv_has ls 5 [(0, .ref h0), (1, .int x), (2, .long q), (4, .int (nI i))] → W p l e ({ frames := 6, cells := 0, slots := 0, locals := 125 } : Room) s m args below meth c H locs 0 0 Q (F0 m 44 ls []) := by
        intro nF
        induction nF with
        | zero => intro i fR2 fFc2 q hm; exact absurd hm (Nat.not_lt_zero _)
        | succ nF ih44 =>
          intro i fR2 fFc2 q hm hii H locs hK hP hD hS ls hl
          refine lv_iload hx hb dX11_where_44 (lv_at hl 3 rfl) ?_
          refine lv_bipush (v := 36) hx hb dX11_where_46 (by decide) ?_
          refine lv_icmp_ge (tgt := 81) hx hb dX11_where_48 (by decide) (fun c_7 => ?_) (fun c_7 => ?_)
          · skip
            have c_7 : 36 ≤ i := (nI_leI (a := 36) (b := i) (by omega) (by omega)).mp c_7
            refine lv_lload_n hx hb dX11_where_81 rfl (lv_at hl 2 rfl) ?_
            rw [hQ]
            have hP9 := hP.sub (ws' := [(zo13rrirrrr h0 sc kp ik bl go ch bo), (zo4rrir go gR gO (nI lk) gS), (zaI gR cR 8 fR2), (zo10ririliiriririr sc aTp (nI ts) aHl (nI nh) ed mi sn aHs (nI n) aWk (nI wz) aBk (nI bz) aFc), (zaR aHs cHs 8 fHs), (zaI aFc cFc 6 fFc2)]) [0, 1, 2, 3, 4, 5] rfl
            have hD9 := hD.sub (ws' := [(zo13rrirrrr h0 sc kp ik bl go ch bo), (zo4rrir go gR gO (nI lk) gS), (zaI gR cR 8 fR2), (zo10ririliiriririr sc aTp (nI ts) aHl (nI nh) ed mi sn aHs (nI n) aWk (nI wz) aBk (nI bz) aFc), (zaR aHs cHs 8 fHs), (zaI aFc cFc 6 fFc2)]) [0, 1, 2, 3, 4, 5] (by decide) rfl
            have hK9 := hK.sub (tys' := [(cR, .int), (cHs, .object "MistHeaps$Heap"), (cFc, .int)]) [0, 1, 2] rfl
            exact W.lret (v := q) hx hb hr (fun tQ htQ hWQ => ⟨⟨q, (fR2, fFc2), rfl, trivial, by rw [htQ]; exact hP9, va_K.moved hWQ.alike hK9, hD9⟩, hS.F htQ⟩) hS.2.2 dX11_where_82
          · skip
            have c_7 : ¬ 36 ≤ i := fun q => c_7 ((nI_leI (a := 36) (b := i) (by omega) (by omega)).mpr q)
            refine lv_aload_n hx hb dX11_where_51 rfl (lv_at hl 0 rfl) ?_
            refine va_get (D := (dC, dI)) (ci := 13) (v := .ref go) (C := RX11) (T := TX11) (N := 7) hx hb hts kc_xWhere_1 hown hK hP 0 rfl rfl 4 (by decide) (hts (.fieldLink RX11 35 "MistHeaps" "goings" "LMistHeaps$Goings;") kc_xWhere_5) (fun _ h9 => h9) rfl dX11_where_52 ?_
            refine lv_aload_n hx hb dX11_where_55 rfl (lv_at hl 0 rfl) ?_
            refine va_get (D := (dC, dI)) (ci := 13) (v := .ref sc) (C := RX11) (T := TX11) (N := 7) hx hb hts kc_xWhere_1 hown hK hP 0 rfl rfl 0 (by decide) (hts (.fieldLink RX11 14 "MistHeaps" "scene" "LMistHeaps$Scene;") kc_xWhere_2) (fun _ h9 => h9) rfl dX11_where_56 ?_
            refine lv_iload hx hb dX11_where_59 (lv_at hl 3 rfl) ?_
            have hPc := hP.sub (ws' := [(zo4rrir go gR gO (nI lk) gS), (zaI gR cR 8 fR2), (zo10ririliiriririr sc aTp (nI ts) aHl (nI nh) ed mi sn aHs (nI n) aWk (nI wz) aBk (nI bz) aFc), (zaR aHs cHs 8 fHs)]) [1, 2, 3, 4] rfl
            have hKc := hK.sub (tys' := [(cR, .int), (cHs, .object "MistHeaps$Heap")]) [0, 1] rfl
            refine vp_callSi (va_runV (As := [.ref sc, .int (nI i)]) (rest := []) ⟨hx, hb, hml, hown, hts⟩ (c_seenFrom l dC dI gd  sc go aTp aHl aHs aWk aBk aFc gR gO gS ts nh n wz bz lk mi sn (nI i) ed cHs cR fR2 yk yv yc fHs yi ya (zhs) (hn8)) (cwV 2 hts gX11_where_X2_seenFrom rfl rfl rfl hd_yX2_seenFrom ⟨Nat.le_of_ble_eq_true rfl, Nat.le_of_ble_eq_true rfl⟩) ⟨fun a U g mk q => by obtain ⟨q0, qP, qK, qhG, qhH_⟩ := q; exact ⟨q0, qP, va_K.moved (u := U) (U := U.calling g mk a) (Vm.Alike.refl U.vm) qK, qhG.same rfl rfl, qhH_.same rfl rfl⟩, va_recv hK hP (ci := 4) (q := (RX2, TX2, 4)) (q0 := 1) rfl rfl, fun U hU hW => ⟨rfl, by rw [hU]; exact hPc, va_K.moved hW.alike hKc, hG.callF hS hU hW, hH_.callF hS hU hW⟩⟩ rfl rfl hl.1 rfl (lv_room (Nat.le_of_ble_eq_true rfl)) dX11_where_61 ⟨Nat.le_of_ble_eq_true rfl, Nat.le_of_ble_eq_true rfl⟩).run (fun r_8 hw_9 => ?_)
            refine lv_iload_n hx hb dX11_where_64 rfl (lv_at hl 1 rfl) ?_
            refine lv_icmp_ne (tgt := 75) hx hb dX11_where_65 (by decide) (fun c_10 => ?_) (fun c_10 => ?_)
            · skip
              refine lv_iinc (v := nI (i + 1)) (lv' := [(4, .int (nI (i + 1))), (0, .ref h0), (1, .int x), (2, .long q)]) hx hb dX11_where_75 hl (k := 3) rfl (nI_add i 1) (by decide) rfl (fun ls hl => ?_)
              refine lv_goto (tgt := 44) hx hb dX11_where_78 (by decide) ?_
              exact ih44 (i + 1) _ _ _ (by omega) (by omega) _ _ (hK.sub [0, 1, 2] rfl) (hP.sub [0, 1, 2, 3, 4, 5] rfl) (hD.sub [0, 1, 2, 3, 4, 5] (by decide) rfl) hS ls (lv_sub hl [1, 2, 3, 0] rfl)
            · skip
              refine lv_lload_n hx hb dX11_where_68 rfl (lv_at hl 2 rfl) ?_
              refine lv_lconst (v := 1) hx hb dX11_where_69 (by decide) ?_
              refine lv_iload hx hb dX11_where_70 (lv_at hl 3 rfl) ?_
              refine lv_lshl (v := (1 : Int64) <<< ((nI i).toInt64 &&& 63)) hx hb dX11_where_72 (rfl) ?_
              refine lv_lor hx hb dX11_where_73 ?_
              refine lv_lstore_n (lv' := [(2, .long (q ||| ((1 : Int64) <<< ((nI i).toInt64 &&& 63)))), (0, .ref h0), (1, .int x), (4, .int (nI i))]) hx hb dX11_where_74 rfl hl (by decide) rfl (fun ls hl => ?_)
              refine lv_iinc (v := nI (i + 1)) (lv' := [(4, .int (nI (i + 1))), (2, .long (q ||| ((1 : Int64) <<< ((nI i).toInt64 &&& 63)))), (0, .ref h0), (1, .int x)]) hx hb dX11_where_75 hl (k := 3) rfl (nI_add i 1) (by decide) rfl (fun ls hl => ?_)
              refine lv_goto (tgt := 44) hx hb dX11_where_78 (by decide) ?_
              exact ih44 (i + 1) _ _ _ (by omega) (by omega) _ _ (hK.sub [0, 1, 2] rfl) (hP.sub [0, 1, 2, 3, 4, 5] rfl) (hD.sub [0, 1, 2, 3, 4, 5] (by decide) rfl) hS ls (lv_sub hl [2, 3, 1, 0] rfl)
      exact L44 _ (0) _ _ _ (Nat.lt_succ_self _) (by omega) _ _ (hK.sub [0, 1, 2] rfl) (hP.sub [0, 1, 2, 3, 4, 5] rfl) (hD.sub [0, 1, 2, 3, 4, 5] (by decide) rfl) hS ls (lv_sub hl [2, 3, 1, 0] rfl)
    · skip
      refine lv_ldc2 (v := (-9223372036854775808)) hx hb hown (hts (.constantLong RX11 139 (-9223372036854775808)) kc_xWhere_0) dX11_where_17 ?_
      rw [hQ]
      have hP9 := hP.sub (ws' := [(zo13rrirrrr h0 sc kp ik bl go ch bo), (zo4rrir go gR gO (nI lk) gS), (zaI gR cR 8 fR), (zo10ririliiriririr sc aTp (nI ts) aHl (nI nh) ed mi sn aHs (nI n) aWk (nI wz) aBk (nI bz) aFc), (zaR aHs cHs 8 fHs), (zaI aFc cFc 6 fFc)]) [0, 1, 2, 3, 4, 5] rfl
      have hD9 := hD.sub (ws' := [(zo13rrirrrr h0 sc kp ik bl go ch bo), (zo4rrir go gR gO (nI lk) gS), (zaI gR cR 8 fR), (zo10ririliiriririr sc aTp (nI ts) aHl (nI nh) ed mi sn aHs (nI n) aWk (nI wz) aBk (nI bz) aFc), (zaR aHs cHs 8 fHs), (zaI aFc cFc 6 fFc)]) [0, 1, 2, 3, 4, 5] (by decide) rfl
      have hK9 := hK.sub (tys' := [(cR, .int), (cHs, .object "MistHeaps$Heap"), (cFc, .int)]) [0, 1, 2] rfl
      exact W.lret (v := (-9223372036854775808)) hx hb hr (fun tQ htQ hWQ => ⟨⟨(-9223372036854775808), (fR, fFc), rfl, trivial, by rw [htQ]; exact hP9, va_K.moved hWQ.alike hK9, hD9⟩, hS.F htQ⟩) hS.2.2 dX11_where_20

theorem kc_xSteps_0 : ∀ w ∈ wsX110, w ∈ wsX11_steps := fun w h => List.mem_cons_of_mem _ (gin_wsX110 w h)
theorem kc_xSteps_1 : (.fieldLink RX11 14 "MistHeaps" "scene" "LMistHeaps$Scene;" : Cond) ∈ wsX11_steps := kc_of 328 rfl rfl rfl
theorem kc_xSteps_2 : (.fieldLink RX11 35 "MistHeaps" "goings" "LMistHeaps$Goings;" : Cond) ∈ wsX11_steps := kc_of 332 rfl rfl rfl
theorem kc_xSteps_3 : ∀ w ∈ wsX80, w ∈ wsX11_steps := fun w h => List.mem_cons_of_mem _ (gin_wsX80 w h)
theorem kc_xSteps_4 : (.fieldLink RX11 88 "MistHeaps$Scene" "snow" "I" : Cond) ∈ wsX11_steps := kc_of 166 rfl rfl rfl
set_option maxHeartbeats 4000000 in
set_option maxRecDepth 100000 in
theorem c_xSteps (l : Launch) (dC : Nat → ClassId) (dI : Nat → Nat → Nat) (gd : Nat → Nat)  (kA : Nat)   (h0 : Nat) (sc : Nat) (kp : Nat) (bl : Nat) (go : Nat) (ch : Nat) (bo : Nat) (aTp : Nat) (aHl : Nat) (aHs : Nat) (aWk : Nat) (aBk : Nat) (aFc : Nat) (bW : Nat) (bA : Nat) (bE : Nat) (bC : Nat) (gR : Nat) (gO : Nat) (gS : Nat) (ts : Nat) (nh : Nat) (n : Nat) (wz : Nat) (bz : Nat) (lk : Nat) (cl : Nat) (mi : Int32) (sn : Int32) (sg : Int32) (cdd : Int32) (szz : Int32) (att : Int32) (nmb : Int32) (ik : Int32) (x : Int32) (y : Int32) (ed : Int64) (cHs : ClassId) (cFc : ClassId) (cbW : ClassId) (cbA : ClassId) (cbE : ClassId) (cbC : ClassId) (cR : ClassId) (cO : ClassId) (fFc : Nat → Int32) (fbW : Nat → Int32) (fbA : Nat → Int32) (fbE : Nat → Int32) (fbC : Nat → Int32) (fR : Nat → Int32) (fO : Nat → Int32) (yk : Nat → Int32) (yv : Nat → Int32) (yc : Nat → Int32) (fHs : Nat → Option Nat) (yi : Nat → Nat) (ya : Nat → Nat) (tpv : Value) (sz : Nat) (zhs : ∀ k0, k0 < n → fHs k0 = some (ya k0)) (hn8 : n ≤ 8) (zcl : cl ≤ 10) (zE : ∀ k0, k0 < 10 → ∃ e0 : Nat, e0 ≤ 100 ∧ fbE k0 = nI e0) (zC : ∀ k0, k0 < 100 → okC (fbC k0)) (zyv : ∀ k0, k0 < n → ∃ v0 : Nat, v0 ≤ 9 ∧ yv k0 = nI v0) (hlk : lk ≤ 8) : Met l yX11_steps wsX11_steps ({ frames := 7, cells := 0, slots := 0, locals := 149 } : Room) (va_Pc [.ref h0, .int x, .int y] (fun U => U.heap.size = sz ∧ va_P (dC, dI) vwCl [(zo13rrirrrr h0 sc kp ik bl go ch bo), (zo4rrir go gR gO (nI lk) gS), (zaI gR cR 8 fR), (zaI gO cO 8 fO), (zo10ririliiriririr sc aTp (nI ts) aHl (nI nh) ed mi sn aHs (nI n) aWk (nI wz) aBk (nI bz) aFc), (zaR aHs cHs 8 fHs), (zaI aFc cFc 6 fFc)] U.heap ∧ va_K (dC, dI) vwCl [(cR, .int), (cO, .int), (cHs, .object "MistHeaps$Heap"), (cFc, .int)] U ∧ va_D (fun _ => True) [(zo13rrirrrr h0 sc kp ik bl go ch bo), (zo4rrir go gR gO (nI lk) gS), (zaI gR cR 8 fR), (zaI gO cO 8 fO), (zo10ririliiriririr sc aTp (nI ts) aHl (nI nh) ed mi sn aHs (nI n) aWk (nI wz) aBk (nI bz) aFc), (zaR aHs cHs 8 fHs), (zaI aFc cFc 6 fFc)] ∧ Gl gd (va_A [(zo13rrirrrr h0 sc kp ik bl go ch bo), (zo4rrir go gR gO (nI lk) gS), (zaI gR cR 8 fR), (zaI gO cO 8 fO), (zo10ririliiriririr sc aTp (nI ts) aHl (nI nh) ed mi sn aHs (nI n) aWk (nI wz) aBk (nI bz) aFc), (zaR aHs cHs 8 fHs), (zaI aFc cFc 6 fFc)] sz) U ∧ Gw (va_A [(zo13rrirrrr h0 sc kp ik bl go ch bo), (zo4rrir go gR gO (nI lk) gS), (zaI gR cR 8 fR), (zaI gO cO 8 fO), (zo10ririliiriririr sc aTp (nI ts) aHl (nI nh) ed mi sn aHs (nI n) aWk (nI wz) aBk (nI bz) aFc), (zaR aHs cHs 8 fHs), (zaI aFc cFc 6 fFc)] sz) U ∧ Gn kA (va_A [(zo13rrirrrr h0 sc kp ik bl go ch bo), (zo4rrir go gR gO (nI lk) gS), (zaI gR cR 8 fR), (zaI gO cO 8 fO), (zo10ririliiriririr sc aTp (nI ts) aHl (nI nh) ed mi sn aHs (nI n) aWk (nI wz) aBk (nI bz) aFc), (zaR aHs cHs 8 fHs), (zaI aFc cFc 6 fFc)] sz) U ∧ Fz dC dI [(zo7iirrrriviii aHl sg (nI cl) bW bA bE bC cdd tpv szz att nmb), (zaI bW cbW 10 fbW), (zaI bA cbA 10 fbA), (zaI bE cbE 10 fbE), (zaI bC cbC 100 fbC)] [(cbW, .int), (cbA, .int), (cbE, .int), (cbC, .int)] (va_A [(zo13rrirrrr h0 sc kp ik bl go ch bo), (zo4rrir go gR gO (nI lk) gS), (zaI gR cR 8 fR), (zaI gO cO 8 fO), (zo10ririliiriririr sc aTp (nI ts) aHl (nI nh) ed mi sn aHs (nI n) aWk (nI wz) aBk (nI bz) aFc), (zaR aHs cHs 8 fHs), (zaI aFc cFc 6 fFc)] sz) U ∧ Hs dC dI n yi ya yk yv yc (va_A [(zo13rrirrrr h0 sc kp ik bl go ch bo), (zo4rrir go gR gO (nI lk) gS), (zaI gR cR 8 fR), (zaI gO cO 8 fO), (zo10ririliiriririr sc aTp (nI ts) aHl (nI nh) ed mi sn aHs (nI n) aWk (nI wz) aBk (nI bz) aFc), (zaR aHs cHs 8 fHs), (zaI aFc cFc 6 fFc)] sz) U)) (va_Qi (fun (r : Int32) (u : (Nat) × (Nat → Int32) × (Nat → Int32) × (Nat → Int32)) => match u with | (lk9, fR9, fO9, fFc9) => lk9 ≤ 8) (fun (u : (Nat) × (Nat → Int32) × (Nat → Int32) × (Nat → Int32)) (t : State) => match u with | (lk9, fR9, fO9, fFc9) => va_P (dC, dI) vwCl [(zo13rrirrrr h0 sc kp ik bl go ch bo), (zo4rrir go gR gO (nI lk9) gS), (zaI gR cR 8 fR9), (zaI gO cO 8 fO9), (zo10ririliiriririr sc aTp (nI ts) aHl (nI nh) ed mi sn aHs (nI n) aWk (nI wz) aBk (nI bz) aFc), (zaR aHs cHs 8 fHs), (zaI aFc cFc 6 fFc9)] t.heap ∧ va_K (dC, dI) vwCl [(cR, .int), (cO, .int), (cHs, .object "MistHeaps$Heap"), (cFc, .int)] t ∧ va_D (va_A [(zo13rrirrrr h0 sc kp ik bl go ch bo), (zo4rrir go gR gO (nI lk) gS), (zaI gR cR 8 fR), (zaI gO cO 8 fO), (zo10ririliiriririr sc aTp (nI ts) aHl (nI nh) ed mi sn aHs (nI n) aWk (nI wz) aBk (nI bz) aFc), (zaR aHs cHs 8 fHs), (zaI aFc cFc 6 fFc)] sz) [(zo13rrirrrr h0 sc kp ik bl go ch bo), (zo4rrir go gR gO (nI lk9) gS), (zaI gR cR 8 fR9), (zaI gO cO 8 fO9), (zo10ririliiriririr sc aTp (nI ts) aHl (nI nh) ed mi sn aHs (nI n) aWk (nI wz) aBk (nI bz) aFc), (zaR aHs cHs 8 fHs), (zaI aFc cFc 6 fFc9)]) (va_A [(zo13rrirrrr h0 sc kp ik bl go ch bo), (zo4rrir go gR gO (nI lk) gS), (zaI gR cR 8 fR), (zaI gO cO 8 fO), (zo10ririliiriririr sc aTp (nI ts) aHl (nI nh) ed mi sn aHs (nI n) aWk (nI wz) aBk (nI bz) aFc), (zaR aHs cHs 8 fHs), (zaI aFc cFc 6 fFc)] sz)) 0 0 (va_A [(zo13rrirrrr h0 sc kp ik bl go ch bo), (zo4rrir go gR gO (nI lk) gS), (zaI gR cR 8 fR), (zaI gO cO 8 fO), (zo10ririliiriririr sc aTp (nI ts) aHl (nI nh) ed mi sn aHs (nI n) aWk (nI wz) aBk (nI bz) aFc), (zaR aHs cHs 8 fHs), (zaI aFc cFc 6 fFc)] sz) := by
  refine met_ofQ (cc := cX11_steps) (maxL := 3) (ret := (some .int)) (by decide) rfl ?_
  intro p e s m args below meth c s₁ Q B hml hv hQ
  obtain ⟨rfl, hsz, hP, hK, hD0, hG, hW_, hN_, hZ, hH_⟩ := hv
  have hx := B.exec
  have hb := B.bytes
  have hr := B.returns
  have hts := atoms_spec (ws := wsX11_steps) B.pre
  have hown : s.vm.findClass RX11 = some m.cls := findClass_of_methodNamed B.named
  have hlocks := B.notSynchronized
  subst hsz
  have hD := hD0.self (sz := s.heap.size)
  generalize hAe : va_A [(zo13rrirrrr h0 sc kp ik bl go ch bo), (zo4rrir go gR gO (nI lk) gS), (zaI gR cR 8 fR), (zaI gO cO 8 fO), (zo10ririliiriririr sc aTp (nI ts) aHl (nI nh) ed mi sn aHs (nI n) aWk (nI wz) aBk (nI bz) aFc), (zaR aHs cHs 8 fHs), (zaI aFc cFc 6 fFc)] s.heap.size = A at hD hQ hG hW_ hN_ hZ hH_ ⊢
  have hA : ∀ q : Nat, s.heap.size ≤ q → A q := fun q h => by rw [← hAe]; exact Or.inr h
  have hS : va_S A s.heap s.heap [] := va_S.rf
  have hl := lv_entry [.ref h0, .int x, .int y] (n := 3) (Nat.le_of_ble_eq_true rfl)
  rw [lg_entry_eq]
  generalize (lg_sl [.ref h0, .int x, .int y] ++ List.replicate (3 - (lg_sl [.ref h0, .int x, .int y]).length) Slot.unset).toArray = ls at hl ⊢
  generalize hag : ([.ref h0, .int x, .int y] : List Value).toArray = args at hts hQ ⊢
  have hl : lv_has ls 3 [(0, .ref h0), (1, .int x), (2, .int y)] := hl
  obtain ⟨H, hH⟩ : ∃ H : Heap, H = s.heap := ⟨_, rfl⟩
  rw [← hH] at hP
  rw [← hH]
  have hS : va_S A s.heap H [] := by rw [hH]; exact hS
  obtain ⟨locs, hlo⟩ : ∃ L : List Loc, L = [] := ⟨_, rfl⟩
  rw [← hlo] at hS
  rw [← hlo]
  clear hH hlo
  refine lv_aload_n hx hb dX11_steps_0 rfl (lv_at hl 0 rfl) ?_
  refine va_get (D := (dC, dI)) (ci := 13) (v := .ref sc) (C := RX11) (T := TX11) (N := 7) hx hb hts kc_xSteps_0 hown hK hP 0 rfl rfl 0 (by decide) (hts (.fieldLink RX11 14 "MistHeaps" "scene" "LMistHeaps$Scene;") kc_xSteps_1) (fun _ h9 => h9) rfl dX11_steps_1 ?_
  refine lv_iload_n hx hb dX11_steps_4 rfl (lv_at hl 1 rfl) ?_
  refine lv_iload_n hx hb dX11_steps_5 rfl (lv_at hl 2 rfl) ?_
  have hPc := hP.sub (ws' := [(zo10ririliiriririr sc aTp (nI ts) aHl (nI nh) ed mi sn aHs (nI n) aWk (nI wz) aBk (nI bz) aFc), (zaR aHs cHs 8 fHs)]) [4, 5] rfl
  have hKc := hK.sub (tys' := [(cHs, .object "MistHeaps$Heap")]) [2] rfl
  refine vp_callSi (va_runV (As := [.int x, .int y]) (rest := []) ⟨hx, hb, hml, hown, hts⟩ (c_areHeaps l dC dI sc aTp aHl aHs aWk aBk aFc ts nh n wz bz mi sn x y ed cHs fHs ya (zhs) (hn8)) (cwV 2 hts gX11_steps_X8_areHeaps rfl rfl rfl hd_yX8_areHeaps ⟨Nat.le_of_ble_eq_true rfl, Nat.le_of_ble_eq_true rfl⟩) ⟨fun a U g mk q => by obtain ⟨q0, qP, qK⟩ := q; exact ⟨q0, qP, va_K.moved (u := U) (U := U.calling g mk a) (Vm.Alike.refl U.vm) qK⟩, va_recv hK hP (ci := 10) (q := (RX8, TX8, 14)) (q0 := 4) rfl rfl, fun U hU hW => ⟨rfl, by rw [hU]; exact hPc, va_K.moved hW.alike hKc⟩⟩ rfl rfl hl.1 rfl (lv_room (Nat.le_of_ble_eq_true rfl)) dX11_steps_6 ⟨Nat.le_of_ble_eq_true rfl, Nat.le_of_ble_eq_true rfl⟩).run (fun r_1 hw_2 => ?_)
  rcases hw_2 with ⟨rfl, j1, j2, hj1, hj2, rfl, rfl⟩ | rfl
  · skip
    refine lv_if_ne (tgt := 14) hx hb dX11_steps_9 (by decide) (fun _ => ?_) (fun c_3 => absurd c_3 (by decide))
    refine lv_aload_n hx hb dX11_steps_14 rfl (lv_at hl 0 rfl) ?_
    refine va_get (D := (dC, dI)) (ci := 13) (v := .ref go) (C := RX11) (T := TX11) (N := 7) hx hb hts kc_xSteps_0 hown hK hP 0 rfl rfl 4 (by decide) (hts (.fieldLink RX11 35 "MistHeaps" "goings" "LMistHeaps$Goings;") kc_xSteps_2) (fun _ h9 => h9) rfl dX11_steps_15 ?_
    refine lv_aload_n hx hb dX11_steps_18 rfl (lv_at hl 0 rfl) ?_
    refine va_get (D := (dC, dI)) (ci := 13) (v := .ref sc) (C := RX11) (T := TX11) (N := 7) hx hb hts kc_xSteps_0 hown hK hP 0 rfl rfl 0 (by decide) (hts (.fieldLink RX11 14 "MistHeaps" "scene" "LMistHeaps$Scene;") kc_xSteps_1) (fun _ h9 => h9) rfl dX11_steps_19 ?_
    refine lv_aload_n hx hb dX11_steps_22 rfl (lv_at hl 0 rfl) ?_
    refine va_get (D := (dC, dI)) (ci := 13) (v := .ref sc) (C := RX11) (T := TX11) (N := 7) hx hb hts kc_xSteps_0 hown hK hP 0 rfl rfl 0 (by decide) (hts (.fieldLink RX11 14 "MistHeaps" "scene" "LMistHeaps$Scene;") kc_xSteps_1) (fun _ h9 => h9) rfl dX11_steps_23 ?_
    refine va_get (D := (dC, dI)) (ci := 10) (v := .int sn) (C := RX8) (T := TX8) (N := 14) hx hb hts kc_xSteps_3 hown hK hP 4 rfl rfl 6 (by decide) (hts (.fieldLink RX11 88 "MistHeaps$Scene" "snow" "I") kc_xSteps_4) (fun _ h9 => h9) rfl dX11_steps_26 ?_
    have hPc := hP.sub (ws' := [(zo4rrir go gR gO (nI lk) gS), (zaI gR cR 8 fR), (zaI gO cO 8 fO), (zo10ririliiriririr sc aTp (nI ts) aHl (nI nh) ed mi sn aHs (nI n) aWk (nI wz) aBk (nI bz) aFc), (zaR aHs cHs 8 fHs), (zaI aFc cFc 6 fFc)]) [1, 2, 3, 4, 5, 6] rfl
    have hDc := hD.sub (ws' := [(zo4rrir go gR gO (nI lk) gS), (zaI gR cR 8 fR), (zaI gO cO 8 fO), (zo10ririliiriririr sc aTp (nI ts) aHl (nI nh) ed mi sn aHs (nI n) aWk (nI wz) aBk (nI bz) aFc), (zaR aHs cHs 8 fHs), (zaI aFc cFc 6 fFc)]) [1, 2, 3, 4, 5, 6] (by decide) rfl
    have hKc := hK.sub (tys' := [(cR, .int), (cO, .int), (cHs, .object "MistHeaps$Heap"), (cFc, .int)]) [0, 1, 2, 3] rfl
    have hFc := va_free (wc := [(zo4rrir go gR gO (nI lk) gS), (zaI gR cR 8 fR), (zaI gO cO 8 fO), (zo10ririliiriririr sc aTp (nI ts) aHl (nI nh) ed mi sn aHs (nI n) aWk (nI wz) aBk (nI bz) aFc), (zaR aHs cHs 8 fHs), (zaI aFc cFc 6 fFc)]) hD hS hA [1, 2, 3, 4, 5, 6] rfl
    refine va_callv (va_runV (As := [.ref sc, .int sn]) (rest := []) ⟨hx, hb, hml, hown, hts⟩ (c_link l dC dI gd  kA   sc go aTp aHl aHs aWk aBk aFc bW bA bE bC gR gO gS ts nh n wz bz lk cl mi sn sg cdd szz att nmb sn ed cHs cFc cbW cbA cbE cbC cR cO fFc fbW fbA fbE fbC fR fO yk yv yc fHs yi ya tpv H.size (zhs) (hn8) (zcl) (zE) (zC) (zyv)) (cwV 2 hts gX11_steps_X2_link rfl rfl rfl hd_yX2_link ⟨Nat.le_of_ble_eq_true rfl, Nat.le_of_ble_eq_true rfl⟩) ⟨fun a U g mk q => by obtain ⟨q0, q1, qP, qK, qD, qhG, qhW_, qhN_, qhZ, qhH_⟩ := q; exact ⟨q0, q1, qP, va_K.moved (u := U) (U := U.calling g mk a) (Vm.Alike.refl U.vm) qK, qD, qhG.same rfl rfl, qhW_.same rfl rfl, qhN_.same rfl rfl, qhZ.same rfl rfl, qhH_.same rfl rfl⟩, va_recv hK hP (ci := 4) (q := (RX2, TX2, 4)) (q0 := 1) rfl rfl, fun U hU hW => ⟨rfl, by rw [hU], by rw [hU]; exact hPc, va_K.moved hW.alike hKc, hDc.weaken (fun _ _ _ _ => trivial), hG.call hS hU hW (fun q h => hFc q h), hW_.call hS hU hW (fun q h => hFc q h), hN_.call hS hU hW (fun q h => hFc q h), (hZ.sub [0, 1, 2, 3, 4] [0, 1, 2, 3] rfl rfl).call hS hU hW (fun q h => hFc q h), hH_.call hS hU hW (fun q h => hFc q h)⟩⟩ rfl rfl hl.1 rfl (lv_room (Nat.le_of_ble_eq_true rfl)) dX11_steps_29 ⟨Nat.le_of_ble_eq_true rfl, Nat.le_of_ble_eq_true rfl⟩) hS (fun q _ h => hFc q h) hFc (fun u tC H1 locs htC hvm hw_5 hB hz1 hk1 hS => ?_)
    obtain ⟨lk9_6, fR9_7, fO9_8, fFc9_9⟩ := u
    try dsimp only at hw_5 hB
    obtain ⟨hP1, hK1, hD1⟩ := hB
    rw [htC] at hP1
    have hK1 := va_K.moved hvm.symm hK1
    obtain ⟨hP, hD⟩ := va_join (wr := [(zo13rrirrrr h0 sc kp ik bl go ch bo)]) (w1 := [(zo4rrir go gR gO (nI lk9_6) gS), (zaI gR cR 8 fR9_7), (zaI gO cO 8 fO9_8), (zo10ririliiriririr sc aTp (nI ts) aHl (nI nh) ed mi sn aHs (nI n) aWk (nI wz) aBk (nI bz) aFc), (zaR aHs cHs 8 fHs), (zaI aFc cFc 6 fFc9_9)]) hP hD [1, 2, 3, 4, 5, 6] [0] rfl rfl (by decide) (by decide) hk1 hFc hP1 hD1
    have hK := (hK.sub (tys' := []) [] rfl).app hK1
    generalize H1 = H at hP hS ⊢
    have hP : va_P (dC, dI) vwCl [(zo13rrirrrr h0 sc kp ik bl go ch bo), (zo4rrir go gR gO (nI lk9_6) gS), (zaI gR cR 8 fR9_7), (zaI gO cO 8 fO9_8), (zo10ririliiriririr sc aTp (nI ts) aHl (nI nh) ed mi sn aHs (nI n) aWk (nI wz) aBk (nI bz) aFc), (zaR aHs cHs 8 fHs), (zaI aFc cFc 6 fFc9_9)] H := hP
    have hD : va_D A [(zo13rrirrrr h0 sc kp ik bl go ch bo), (zo4rrir go gR gO (nI lk9_6) gS), (zaI gR cR 8 fR9_7), (zaI gO cO 8 fO9_8), (zo10ririliiriririr sc aTp (nI ts) aHl (nI nh) ed mi sn aHs (nI n) aWk (nI wz) aBk (nI bz) aFc), (zaR aHs cHs 8 fHs), (zaI aFc cFc 6 fFc9_9)] := hD
    have hK : va_K (dC, dI) vwCl [(cR, .int), (cO, .int), (cHs, .object "MistHeaps$Heap"), (cFc, .int)] s := hK
    obtain rfl := (hw_5).symm
    refine lv_aload_n hx hb dX11_steps_32 rfl (lv_at hl 0 rfl) ?_
    refine va_get (D := (dC, dI)) (ci := 13) (v := .ref go) (C := RX11) (T := TX11) (N := 7) hx hb hts kc_xSteps_0 hown hK hP 0 rfl rfl 4 (by decide) (hts (.fieldLink RX11 35 "MistHeaps" "goings" "LMistHeaps$Goings;") kc_xSteps_2) (fun _ h9 => h9) rfl dX11_steps_33 ?_
    refine lv_iload_n hx hb dX11_steps_36 rfl (lv_at hl 1 rfl) ?_
    refine lv_iload_n hx hb dX11_steps_37 rfl (lv_at hl 2 rfl) ?_
    refine lv_iconst (v := 0) hx hb dX11_steps_38 (by decide) ?_
    have hPc := hP.sub (ws' := [(zo4rrir go gR gO (nI n) gS), (zaI gO cO 8 fO9_8)]) [1, 3] rfl
    have hKc := hK.sub (tys' := [(cO, .int)]) [1] rfl
    refine vp_callSi (va_runV (As := [.int (nI j1), .int (nI j2), .int 0]) (rest := []) ⟨hx, hb, hml, hown, hts⟩ (c_fewest l dC dI go gR gO gS n (nI j1) (nI j2) 0 cO fO9_8 (by omega)) (cwV 3 hts gX11_steps_X2_fewest rfl rfl rfl hd_yX2_fewest ⟨Nat.le_of_ble_eq_true rfl, Nat.le_of_ble_eq_true rfl⟩) ⟨fun a U g mk q => by obtain ⟨q0, qP, qK⟩ := q; exact ⟨q0, qP, va_K.moved (u := U) (U := U.calling g mk a) (Vm.Alike.refl U.vm) qK⟩, va_recv hK hP (ci := 4) (q := (RX2, TX2, 4)) (q0 := 1) rfl rfl, fun U hU hW => ⟨rfl, by rw [hU]; exact hPc, va_K.moved hW.alike hKc⟩⟩ rfl rfl hl.1 rfl (lv_room (Nat.le_of_ble_eq_true rfl)) dX11_steps_39 ⟨Nat.le_of_ble_eq_true rfl, Nat.le_of_ble_eq_true rfl⟩).run (fun r_10 hw_11 => ?_)
    rw [hQ]
    have hP9 := hP.sub (ws' := [(zo13rrirrrr h0 sc kp ik bl go ch bo), (zo4rrir go gR gO (nI n) gS), (zaI gR cR 8 fR9_7), (zaI gO cO 8 fO9_8), (zo10ririliiriririr sc aTp (nI ts) aHl (nI nh) ed mi sn aHs (nI n) aWk (nI wz) aBk (nI bz) aFc), (zaR aHs cHs 8 fHs), (zaI aFc cFc 6 fFc9_9)]) [0, 1, 2, 3, 4, 5, 6] rfl
    have hD9 := hD.sub (ws' := [(zo13rrirrrr h0 sc kp ik bl go ch bo), (zo4rrir go gR gO (nI n) gS), (zaI gR cR 8 fR9_7), (zaI gO cO 8 fO9_8), (zo10ririliiriririr sc aTp (nI ts) aHl (nI nh) ed mi sn aHs (nI n) aWk (nI wz) aBk (nI bz) aFc), (zaR aHs cHs 8 fHs), (zaI aFc cFc 6 fFc9_9)]) [0, 1, 2, 3, 4, 5, 6] (by decide) rfl
    have hK9 := hK.sub (tys' := [(cR, .int), (cO, .int), (cHs, .object "MistHeaps$Heap"), (cFc, .int)]) [0, 1, 2, 3] rfl
    exact W.iret (v := r_10) hx hb hr (fun tQ htQ hWQ => ⟨⟨r_10, (n, fR9_7, fO9_8, fFc9_9), rfl, by omega, by rw [htQ]; exact hP9, va_K.moved hWQ.alike hK9, hD9⟩, hS.F htQ⟩) hS.2.2 dX11_steps_42
  · skip
    refine lv_if_ne (tgt := 14) hx hb dX11_steps_9 (by decide) (fun c_12 => absurd c_12 (by decide)) (fun _ => ?_)
    refine lv_iconst (v := (-1)) hx hb dX11_steps_12 (by decide) ?_
    rw [hQ]
    have hP9 := hP.sub (ws' := [(zo13rrirrrr h0 sc kp ik bl go ch bo), (zo4rrir go gR gO (nI lk) gS), (zaI gR cR 8 fR), (zaI gO cO 8 fO), (zo10ririliiriririr sc aTp (nI ts) aHl (nI nh) ed mi sn aHs (nI n) aWk (nI wz) aBk (nI bz) aFc), (zaR aHs cHs 8 fHs), (zaI aFc cFc 6 fFc)]) [0, 1, 2, 3, 4, 5, 6] rfl
    have hD9 := hD.sub (ws' := [(zo13rrirrrr h0 sc kp ik bl go ch bo), (zo4rrir go gR gO (nI lk) gS), (zaI gR cR 8 fR), (zaI gO cO 8 fO), (zo10ririliiriririr sc aTp (nI ts) aHl (nI nh) ed mi sn aHs (nI n) aWk (nI wz) aBk (nI bz) aFc), (zaR aHs cHs 8 fHs), (zaI aFc cFc 6 fFc)]) [0, 1, 2, 3, 4, 5, 6] (by decide) rfl
    have hK9 := hK.sub (tys' := [(cR, .int), (cO, .int), (cHs, .object "MistHeaps$Heap"), (cFc, .int)]) [0, 1, 2, 3] rfl
    exact W.iret (v := (-1)) hx hb hr (fun tQ htQ hWQ => ⟨⟨(-1), (lk, fR, fO, fFc), rfl, by omega, by rw [htQ]; exact hP9, va_K.moved hWQ.alike hK9, hD9⟩, hS.F htQ⟩) hS.2.2 dX11_steps_13

theorem kc_xVia_0 : ∀ w ∈ wsX110, w ∈ wsX11_via := fun w h => List.mem_cons_of_mem _ (gin_wsX110 w h)
theorem kc_xVia_1 : (.fieldLink RX11 14 "MistHeaps" "scene" "LMistHeaps$Scene;" : Cond) ∈ wsX11_via := kc_of 328 rfl rfl rfl
theorem kc_xVia_2 : (.fieldLink RX11 35 "MistHeaps" "goings" "LMistHeaps$Goings;" : Cond) ∈ wsX11_via := kc_of 332 rfl rfl rfl
theorem kc_xVia_3 : ∀ w ∈ wsX80, w ∈ wsX11_via := fun w h => List.mem_cons_of_mem _ (gin_wsX80 w h)
theorem kc_xVia_4 : (.fieldLink RX11 88 "MistHeaps$Scene" "snow" "I" : Cond) ∈ wsX11_via := kc_of 166 rfl rfl rfl
set_option maxHeartbeats 4000000 in
set_option maxRecDepth 100000 in
theorem c_xVia (l : Launch) (dC : Nat → ClassId) (dI : Nat → Nat → Nat) (gd : Nat → Nat)  (kA : Nat)   (h0 : Nat) (sc : Nat) (kp : Nat) (bl : Nat) (go : Nat) (ch : Nat) (bo : Nat) (aTp : Nat) (aHl : Nat) (aHs : Nat) (aWk : Nat) (aBk : Nat) (aFc : Nat) (bW : Nat) (bA : Nat) (bE : Nat) (bC : Nat) (gR : Nat) (gO : Nat) (gS : Nat) (ts : Nat) (nh : Nat) (n : Nat) (wz : Nat) (bz : Nat) (lk : Nat) (cl : Nat) (mi : Int32) (sn : Int32) (sg : Int32) (cdd : Int32) (szz : Int32) (att : Int32) (nmb : Int32) (ik : Int32) (x : Int32) (y : Int32) (ed : Int64) (cHs : ClassId) (cFc : ClassId) (cbW : ClassId) (cbA : ClassId) (cbE : ClassId) (cbC : ClassId) (cR : ClassId) (cO : ClassId) (fFc : Nat → Int32) (fbW : Nat → Int32) (fbA : Nat → Int32) (fbE : Nat → Int32) (fbC : Nat → Int32) (fR : Nat → Int32) (fO : Nat → Int32) (yk : Nat → Int32) (yv : Nat → Int32) (yc : Nat → Int32) (fHs : Nat → Option Nat) (yi : Nat → Nat) (ya : Nat → Nat) (tpv : Value) (sz : Nat) (zhs : ∀ k0, k0 < n → fHs k0 = some (ya k0)) (hn8 : n ≤ 8) (zcl : cl ≤ 10) (zE : ∀ k0, k0 < 10 → ∃ e0 : Nat, e0 ≤ 100 ∧ fbE k0 = nI e0) (zC : ∀ k0, k0 < 100 → okC (fbC k0)) (zyv : ∀ k0, k0 < n → ∃ v0 : Nat, v0 ≤ 9 ∧ yv k0 = nI v0) (hlk : lk ≤ 8) : Met l yX11_via wsX11_via ({ frames := 7, cells := 0, slots := 0, locals := 149 } : Room) (va_Pc [.ref h0, .int x, .int y] (fun U => U.heap.size = sz ∧ va_P (dC, dI) vwCl [(zo13rrirrrr h0 sc kp ik bl go ch bo), (zo4rrir go gR gO (nI lk) gS), (zaI gR cR 8 fR), (zaI gO cO 8 fO), (zo10ririliiriririr sc aTp (nI ts) aHl (nI nh) ed mi sn aHs (nI n) aWk (nI wz) aBk (nI bz) aFc), (zaR aHs cHs 8 fHs), (zaI aFc cFc 6 fFc)] U.heap ∧ va_K (dC, dI) vwCl [(cR, .int), (cO, .int), (cHs, .object "MistHeaps$Heap"), (cFc, .int)] U ∧ va_D (fun _ => True) [(zo13rrirrrr h0 sc kp ik bl go ch bo), (zo4rrir go gR gO (nI lk) gS), (zaI gR cR 8 fR), (zaI gO cO 8 fO), (zo10ririliiriririr sc aTp (nI ts) aHl (nI nh) ed mi sn aHs (nI n) aWk (nI wz) aBk (nI bz) aFc), (zaR aHs cHs 8 fHs), (zaI aFc cFc 6 fFc)] ∧ Gl gd (va_A [(zo13rrirrrr h0 sc kp ik bl go ch bo), (zo4rrir go gR gO (nI lk) gS), (zaI gR cR 8 fR), (zaI gO cO 8 fO), (zo10ririliiriririr sc aTp (nI ts) aHl (nI nh) ed mi sn aHs (nI n) aWk (nI wz) aBk (nI bz) aFc), (zaR aHs cHs 8 fHs), (zaI aFc cFc 6 fFc)] sz) U ∧ Gw (va_A [(zo13rrirrrr h0 sc kp ik bl go ch bo), (zo4rrir go gR gO (nI lk) gS), (zaI gR cR 8 fR), (zaI gO cO 8 fO), (zo10ririliiriririr sc aTp (nI ts) aHl (nI nh) ed mi sn aHs (nI n) aWk (nI wz) aBk (nI bz) aFc), (zaR aHs cHs 8 fHs), (zaI aFc cFc 6 fFc)] sz) U ∧ Gn kA (va_A [(zo13rrirrrr h0 sc kp ik bl go ch bo), (zo4rrir go gR gO (nI lk) gS), (zaI gR cR 8 fR), (zaI gO cO 8 fO), (zo10ririliiriririr sc aTp (nI ts) aHl (nI nh) ed mi sn aHs (nI n) aWk (nI wz) aBk (nI bz) aFc), (zaR aHs cHs 8 fHs), (zaI aFc cFc 6 fFc)] sz) U ∧ Fz dC dI [(zo7iirrrriviii aHl sg (nI cl) bW bA bE bC cdd tpv szz att nmb), (zaI bW cbW 10 fbW), (zaI bA cbA 10 fbA), (zaI bE cbE 10 fbE), (zaI bC cbC 100 fbC)] [(cbW, .int), (cbA, .int), (cbE, .int), (cbC, .int)] (va_A [(zo13rrirrrr h0 sc kp ik bl go ch bo), (zo4rrir go gR gO (nI lk) gS), (zaI gR cR 8 fR), (zaI gO cO 8 fO), (zo10ririliiriririr sc aTp (nI ts) aHl (nI nh) ed mi sn aHs (nI n) aWk (nI wz) aBk (nI bz) aFc), (zaR aHs cHs 8 fHs), (zaI aFc cFc 6 fFc)] sz) U ∧ Hs dC dI n yi ya yk yv yc (va_A [(zo13rrirrrr h0 sc kp ik bl go ch bo), (zo4rrir go gR gO (nI lk) gS), (zaI gR cR 8 fR), (zaI gO cO 8 fO), (zo10ririliiriririr sc aTp (nI ts) aHl (nI nh) ed mi sn aHs (nI n) aWk (nI wz) aBk (nI bz) aFc), (zaR aHs cHs 8 fHs), (zaI aFc cFc 6 fFc)] sz) U)) (va_Qi (fun (r : Int32) (u : (Nat) × (Nat → Int32) × (Nat → Int32) × (Nat → Int32)) => match u with | (lk9, fR9, fO9, fFc9) => lk9 ≤ 8) (fun (u : (Nat) × (Nat → Int32) × (Nat → Int32) × (Nat → Int32)) (t : State) => match u with | (lk9, fR9, fO9, fFc9) => va_P (dC, dI) vwCl [(zo13rrirrrr h0 sc kp ik bl go ch bo), (zo4rrir go gR gO (nI lk9) gS), (zaI gR cR 8 fR9), (zaI gO cO 8 fO9), (zo10ririliiriririr sc aTp (nI ts) aHl (nI nh) ed mi sn aHs (nI n) aWk (nI wz) aBk (nI bz) aFc), (zaR aHs cHs 8 fHs), (zaI aFc cFc 6 fFc9)] t.heap ∧ va_K (dC, dI) vwCl [(cR, .int), (cO, .int), (cHs, .object "MistHeaps$Heap"), (cFc, .int)] t ∧ va_D (va_A [(zo13rrirrrr h0 sc kp ik bl go ch bo), (zo4rrir go gR gO (nI lk) gS), (zaI gR cR 8 fR), (zaI gO cO 8 fO), (zo10ririliiriririr sc aTp (nI ts) aHl (nI nh) ed mi sn aHs (nI n) aWk (nI wz) aBk (nI bz) aFc), (zaR aHs cHs 8 fHs), (zaI aFc cFc 6 fFc)] sz) [(zo13rrirrrr h0 sc kp ik bl go ch bo), (zo4rrir go gR gO (nI lk9) gS), (zaI gR cR 8 fR9), (zaI gO cO 8 fO9), (zo10ririliiriririr sc aTp (nI ts) aHl (nI nh) ed mi sn aHs (nI n) aWk (nI wz) aBk (nI bz) aFc), (zaR aHs cHs 8 fHs), (zaI aFc cFc 6 fFc9)]) (va_A [(zo13rrirrrr h0 sc kp ik bl go ch bo), (zo4rrir go gR gO (nI lk) gS), (zaI gR cR 8 fR), (zaI gO cO 8 fO), (zo10ririliiriririr sc aTp (nI ts) aHl (nI nh) ed mi sn aHs (nI n) aWk (nI wz) aBk (nI bz) aFc), (zaR aHs cHs 8 fHs), (zaI aFc cFc 6 fFc)] sz)) 0 0 (va_A [(zo13rrirrrr h0 sc kp ik bl go ch bo), (zo4rrir go gR gO (nI lk) gS), (zaI gR cR 8 fR), (zaI gO cO 8 fO), (zo10ririliiriririr sc aTp (nI ts) aHl (nI nh) ed mi sn aHs (nI n) aWk (nI wz) aBk (nI bz) aFc), (zaR aHs cHs 8 fHs), (zaI aFc cFc 6 fFc)] sz) := by
  refine met_ofQ (cc := cX11_via) (maxL := 3) (ret := (some .int)) (by decide) rfl ?_
  intro p e s m args below meth c s₁ Q B hml hv hQ
  obtain ⟨rfl, hsz, hP, hK, hD0, hG, hW_, hN_, hZ, hH_⟩ := hv
  have hx := B.exec
  have hb := B.bytes
  have hr := B.returns
  have hts := atoms_spec (ws := wsX11_via) B.pre
  have hown : s.vm.findClass RX11 = some m.cls := findClass_of_methodNamed B.named
  have hlocks := B.notSynchronized
  subst hsz
  have hD := hD0.self (sz := s.heap.size)
  generalize hAe : va_A [(zo13rrirrrr h0 sc kp ik bl go ch bo), (zo4rrir go gR gO (nI lk) gS), (zaI gR cR 8 fR), (zaI gO cO 8 fO), (zo10ririliiriririr sc aTp (nI ts) aHl (nI nh) ed mi sn aHs (nI n) aWk (nI wz) aBk (nI bz) aFc), (zaR aHs cHs 8 fHs), (zaI aFc cFc 6 fFc)] s.heap.size = A at hD hQ hG hW_ hN_ hZ hH_ ⊢
  have hA : ∀ q : Nat, s.heap.size ≤ q → A q := fun q h => by rw [← hAe]; exact Or.inr h
  have hS : va_S A s.heap s.heap [] := va_S.rf
  have hl := lv_entry [.ref h0, .int x, .int y] (n := 3) (Nat.le_of_ble_eq_true rfl)
  rw [lg_entry_eq]
  generalize (lg_sl [.ref h0, .int x, .int y] ++ List.replicate (3 - (lg_sl [.ref h0, .int x, .int y]).length) Slot.unset).toArray = ls at hl ⊢
  generalize hag : ([.ref h0, .int x, .int y] : List Value).toArray = args at hts hQ ⊢
  have hl : lv_has ls 3 [(0, .ref h0), (1, .int x), (2, .int y)] := hl
  obtain ⟨H, hH⟩ : ∃ H : Heap, H = s.heap := ⟨_, rfl⟩
  rw [← hH] at hP
  rw [← hH]
  have hS : va_S A s.heap H [] := by rw [hH]; exact hS
  obtain ⟨locs, hlo⟩ : ∃ L : List Loc, L = [] := ⟨_, rfl⟩
  rw [← hlo] at hS
  rw [← hlo]
  clear hH hlo
  refine lv_aload_n hx hb dX11_via_0 rfl (lv_at hl 0 rfl) ?_
  refine va_get (D := (dC, dI)) (ci := 13) (v := .ref sc) (C := RX11) (T := TX11) (N := 7) hx hb hts kc_xVia_0 hown hK hP 0 rfl rfl 0 (by decide) (hts (.fieldLink RX11 14 "MistHeaps" "scene" "LMistHeaps$Scene;") kc_xVia_1) (fun _ h9 => h9) rfl dX11_via_1 ?_
  refine lv_iload_n hx hb dX11_via_4 rfl (lv_at hl 1 rfl) ?_
  refine lv_iload_n hx hb dX11_via_5 rfl (lv_at hl 2 rfl) ?_
  have hPc := hP.sub (ws' := [(zo10ririliiriririr sc aTp (nI ts) aHl (nI nh) ed mi sn aHs (nI n) aWk (nI wz) aBk (nI bz) aFc), (zaR aHs cHs 8 fHs)]) [4, 5] rfl
  have hKc := hK.sub (tys' := [(cHs, .object "MistHeaps$Heap")]) [2] rfl
  refine vp_callSi (va_runV (As := [.int x, .int y]) (rest := []) ⟨hx, hb, hml, hown, hts⟩ (c_areHeaps l dC dI sc aTp aHl aHs aWk aBk aFc ts nh n wz bz mi sn x y ed cHs fHs ya (zhs) (hn8)) (cwV 2 hts gX11_via_X8_areHeaps rfl rfl rfl hd_yX8_areHeaps ⟨Nat.le_of_ble_eq_true rfl, Nat.le_of_ble_eq_true rfl⟩) ⟨fun a U g mk q => by obtain ⟨q0, qP, qK⟩ := q; exact ⟨q0, qP, va_K.moved (u := U) (U := U.calling g mk a) (Vm.Alike.refl U.vm) qK⟩, va_recv hK hP (ci := 10) (q := (RX8, TX8, 14)) (q0 := 4) rfl rfl, fun U hU hW => ⟨rfl, by rw [hU]; exact hPc, va_K.moved hW.alike hKc⟩⟩ rfl rfl hl.1 rfl (lv_room (Nat.le_of_ble_eq_true rfl)) dX11_via_6 ⟨Nat.le_of_ble_eq_true rfl, Nat.le_of_ble_eq_true rfl⟩).run (fun r_1 hw_2 => ?_)
  rcases hw_2 with ⟨rfl, j1, j2, hj1, hj2, rfl, rfl⟩ | rfl
  · skip
    refine lv_if_ne (tgt := 14) hx hb dX11_via_9 (by decide) (fun _ => ?_) (fun c_3 => absurd c_3 (by decide))
    refine lv_aload_n hx hb dX11_via_14 rfl (lv_at hl 0 rfl) ?_
    refine va_get (D := (dC, dI)) (ci := 13) (v := .ref go) (C := RX11) (T := TX11) (N := 7) hx hb hts kc_xVia_0 hown hK hP 0 rfl rfl 4 (by decide) (hts (.fieldLink RX11 35 "MistHeaps" "goings" "LMistHeaps$Goings;") kc_xVia_2) (fun _ h9 => h9) rfl dX11_via_15 ?_
    refine lv_aload_n hx hb dX11_via_18 rfl (lv_at hl 0 rfl) ?_
    refine va_get (D := (dC, dI)) (ci := 13) (v := .ref sc) (C := RX11) (T := TX11) (N := 7) hx hb hts kc_xVia_0 hown hK hP 0 rfl rfl 0 (by decide) (hts (.fieldLink RX11 14 "MistHeaps" "scene" "LMistHeaps$Scene;") kc_xVia_1) (fun _ h9 => h9) rfl dX11_via_19 ?_
    refine lv_aload_n hx hb dX11_via_22 rfl (lv_at hl 0 rfl) ?_
    refine va_get (D := (dC, dI)) (ci := 13) (v := .ref sc) (C := RX11) (T := TX11) (N := 7) hx hb hts kc_xVia_0 hown hK hP 0 rfl rfl 0 (by decide) (hts (.fieldLink RX11 14 "MistHeaps" "scene" "LMistHeaps$Scene;") kc_xVia_1) (fun _ h9 => h9) rfl dX11_via_23 ?_
    refine va_get (D := (dC, dI)) (ci := 10) (v := .int sn) (C := RX8) (T := TX8) (N := 14) hx hb hts kc_xVia_3 hown hK hP 4 rfl rfl 6 (by decide) (hts (.fieldLink RX11 88 "MistHeaps$Scene" "snow" "I") kc_xVia_4) (fun _ h9 => h9) rfl dX11_via_26 ?_
    have hPc := hP.sub (ws' := [(zo4rrir go gR gO (nI lk) gS), (zaI gR cR 8 fR), (zaI gO cO 8 fO), (zo10ririliiriririr sc aTp (nI ts) aHl (nI nh) ed mi sn aHs (nI n) aWk (nI wz) aBk (nI bz) aFc), (zaR aHs cHs 8 fHs), (zaI aFc cFc 6 fFc)]) [1, 2, 3, 4, 5, 6] rfl
    have hDc := hD.sub (ws' := [(zo4rrir go gR gO (nI lk) gS), (zaI gR cR 8 fR), (zaI gO cO 8 fO), (zo10ririliiriririr sc aTp (nI ts) aHl (nI nh) ed mi sn aHs (nI n) aWk (nI wz) aBk (nI bz) aFc), (zaR aHs cHs 8 fHs), (zaI aFc cFc 6 fFc)]) [1, 2, 3, 4, 5, 6] (by decide) rfl
    have hKc := hK.sub (tys' := [(cR, .int), (cO, .int), (cHs, .object "MistHeaps$Heap"), (cFc, .int)]) [0, 1, 2, 3] rfl
    have hFc := va_free (wc := [(zo4rrir go gR gO (nI lk) gS), (zaI gR cR 8 fR), (zaI gO cO 8 fO), (zo10ririliiriririr sc aTp (nI ts) aHl (nI nh) ed mi sn aHs (nI n) aWk (nI wz) aBk (nI bz) aFc), (zaR aHs cHs 8 fHs), (zaI aFc cFc 6 fFc)]) hD hS hA [1, 2, 3, 4, 5, 6] rfl
    refine va_callv (va_runV (As := [.ref sc, .int sn]) (rest := []) ⟨hx, hb, hml, hown, hts⟩ (c_link l dC dI gd  kA   sc go aTp aHl aHs aWk aBk aFc bW bA bE bC gR gO gS ts nh n wz bz lk cl mi sn sg cdd szz att nmb sn ed cHs cFc cbW cbA cbE cbC cR cO fFc fbW fbA fbE fbC fR fO yk yv yc fHs yi ya tpv H.size (zhs) (hn8) (zcl) (zE) (zC) (zyv)) (cwV 2 hts gX11_via_X2_link rfl rfl rfl hd_yX2_link ⟨Nat.le_of_ble_eq_true rfl, Nat.le_of_ble_eq_true rfl⟩) ⟨fun a U g mk q => by obtain ⟨q0, q1, qP, qK, qD, qhG, qhW_, qhN_, qhZ, qhH_⟩ := q; exact ⟨q0, q1, qP, va_K.moved (u := U) (U := U.calling g mk a) (Vm.Alike.refl U.vm) qK, qD, qhG.same rfl rfl, qhW_.same rfl rfl, qhN_.same rfl rfl, qhZ.same rfl rfl, qhH_.same rfl rfl⟩, va_recv hK hP (ci := 4) (q := (RX2, TX2, 4)) (q0 := 1) rfl rfl, fun U hU hW => ⟨rfl, by rw [hU], by rw [hU]; exact hPc, va_K.moved hW.alike hKc, hDc.weaken (fun _ _ _ _ => trivial), hG.call hS hU hW (fun q h => hFc q h), hW_.call hS hU hW (fun q h => hFc q h), hN_.call hS hU hW (fun q h => hFc q h), (hZ.sub [0, 1, 2, 3, 4] [0, 1, 2, 3] rfl rfl).call hS hU hW (fun q h => hFc q h), hH_.call hS hU hW (fun q h => hFc q h)⟩⟩ rfl rfl hl.1 rfl (lv_room (Nat.le_of_ble_eq_true rfl)) dX11_via_29 ⟨Nat.le_of_ble_eq_true rfl, Nat.le_of_ble_eq_true rfl⟩) hS (fun q _ h => hFc q h) hFc (fun u tC H1 locs htC hvm hw_5 hB hz1 hk1 hS => ?_)
    obtain ⟨lk9_6, fR9_7, fO9_8, fFc9_9⟩ := u
    try dsimp only at hw_5 hB
    obtain ⟨hP1, hK1, hD1⟩ := hB
    rw [htC] at hP1
    have hK1 := va_K.moved hvm.symm hK1
    obtain ⟨hP, hD⟩ := va_join (wr := [(zo13rrirrrr h0 sc kp ik bl go ch bo)]) (w1 := [(zo4rrir go gR gO (nI lk9_6) gS), (zaI gR cR 8 fR9_7), (zaI gO cO 8 fO9_8), (zo10ririliiriririr sc aTp (nI ts) aHl (nI nh) ed mi sn aHs (nI n) aWk (nI wz) aBk (nI bz) aFc), (zaR aHs cHs 8 fHs), (zaI aFc cFc 6 fFc9_9)]) hP hD [1, 2, 3, 4, 5, 6] [0] rfl rfl (by decide) (by decide) hk1 hFc hP1 hD1
    have hK := (hK.sub (tys' := []) [] rfl).app hK1
    generalize H1 = H at hP hS ⊢
    have hP : va_P (dC, dI) vwCl [(zo13rrirrrr h0 sc kp ik bl go ch bo), (zo4rrir go gR gO (nI lk9_6) gS), (zaI gR cR 8 fR9_7), (zaI gO cO 8 fO9_8), (zo10ririliiriririr sc aTp (nI ts) aHl (nI nh) ed mi sn aHs (nI n) aWk (nI wz) aBk (nI bz) aFc), (zaR aHs cHs 8 fHs), (zaI aFc cFc 6 fFc9_9)] H := hP
    have hD : va_D A [(zo13rrirrrr h0 sc kp ik bl go ch bo), (zo4rrir go gR gO (nI lk9_6) gS), (zaI gR cR 8 fR9_7), (zaI gO cO 8 fO9_8), (zo10ririliiriririr sc aTp (nI ts) aHl (nI nh) ed mi sn aHs (nI n) aWk (nI wz) aBk (nI bz) aFc), (zaR aHs cHs 8 fHs), (zaI aFc cFc 6 fFc9_9)] := hD
    have hK : va_K (dC, dI) vwCl [(cR, .int), (cO, .int), (cHs, .object "MistHeaps$Heap"), (cFc, .int)] s := hK
    obtain rfl := (hw_5).symm
    refine lv_aload_n hx hb dX11_via_32 rfl (lv_at hl 0 rfl) ?_
    refine va_get (D := (dC, dI)) (ci := 13) (v := .ref go) (C := RX11) (T := TX11) (N := 7) hx hb hts kc_xVia_0 hown hK hP 0 rfl rfl 4 (by decide) (hts (.fieldLink RX11 35 "MistHeaps" "goings" "LMistHeaps$Goings;") kc_xVia_2) (fun _ h9 => h9) rfl dX11_via_33 ?_
    refine lv_iload_n hx hb dX11_via_36 rfl (lv_at hl 1 rfl) ?_
    refine lv_iload_n hx hb dX11_via_37 rfl (lv_at hl 2 rfl) ?_
    have hPc := hP.sub (ws' := [(zo4rrir go gR gO (nI n) gS), (zaI gO cO 8 fO9_8)]) [1, 3] rfl
    have hKc := hK.sub (tys' := [(cO, .int)]) [1] rfl
    refine vp_callSi (va_runV (As := [.int (nI j1), .int (nI j2)]) (rest := []) ⟨hx, hb, hml, hown, hts⟩ (c_first l dC dI go gR gO gS n j1 (nI j2) cO fO9_8 (by omega) (by omega)) (cwV 2 hts gX11_via_X2_first rfl rfl rfl hd_yX2_first ⟨Nat.le_of_ble_eq_true rfl, Nat.le_of_ble_eq_true rfl⟩) ⟨fun a U g mk q => by obtain ⟨q0, qP, qK⟩ := q; exact ⟨q0, qP, va_K.moved (u := U) (U := U.calling g mk a) (Vm.Alike.refl U.vm) qK⟩, va_recv hK hP (ci := 4) (q := (RX2, TX2, 4)) (q0 := 1) rfl rfl, fun U hU hW => ⟨rfl, by rw [hU]; exact hPc, va_K.moved hW.alike hKc⟩⟩ rfl rfl hl.1 rfl (lv_room (Nat.le_of_ble_eq_true rfl)) dX11_via_38 ⟨Nat.le_of_ble_eq_true rfl, Nat.le_of_ble_eq_true rfl⟩).run (fun r_10 hw_11 => ?_)
    rw [hQ]
    have hP9 := hP.sub (ws' := [(zo13rrirrrr h0 sc kp ik bl go ch bo), (zo4rrir go gR gO (nI n) gS), (zaI gR cR 8 fR9_7), (zaI gO cO 8 fO9_8), (zo10ririliiriririr sc aTp (nI ts) aHl (nI nh) ed mi sn aHs (nI n) aWk (nI wz) aBk (nI bz) aFc), (zaR aHs cHs 8 fHs), (zaI aFc cFc 6 fFc9_9)]) [0, 1, 2, 3, 4, 5, 6] rfl
    have hD9 := hD.sub (ws' := [(zo13rrirrrr h0 sc kp ik bl go ch bo), (zo4rrir go gR gO (nI n) gS), (zaI gR cR 8 fR9_7), (zaI gO cO 8 fO9_8), (zo10ririliiriririr sc aTp (nI ts) aHl (nI nh) ed mi sn aHs (nI n) aWk (nI wz) aBk (nI bz) aFc), (zaR aHs cHs 8 fHs), (zaI aFc cFc 6 fFc9_9)]) [0, 1, 2, 3, 4, 5, 6] (by decide) rfl
    have hK9 := hK.sub (tys' := [(cR, .int), (cO, .int), (cHs, .object "MistHeaps$Heap"), (cFc, .int)]) [0, 1, 2, 3] rfl
    exact W.iret (v := r_10) hx hb hr (fun tQ htQ hWQ => ⟨⟨r_10, (n, fR9_7, fO9_8, fFc9_9), rfl, by omega, by rw [htQ]; exact hP9, va_K.moved hWQ.alike hK9, hD9⟩, hS.F htQ⟩) hS.2.2 dX11_via_41
  · skip
    refine lv_if_ne (tgt := 14) hx hb dX11_via_9 (by decide) (fun c_12 => absurd c_12 (by decide)) (fun _ => ?_)
    refine lv_iconst (v := (-1)) hx hb dX11_via_12 (by decide) ?_
    rw [hQ]
    have hP9 := hP.sub (ws' := [(zo13rrirrrr h0 sc kp ik bl go ch bo), (zo4rrir go gR gO (nI lk) gS), (zaI gR cR 8 fR), (zaI gO cO 8 fO), (zo10ririliiriririr sc aTp (nI ts) aHl (nI nh) ed mi sn aHs (nI n) aWk (nI wz) aBk (nI bz) aFc), (zaR aHs cHs 8 fHs), (zaI aFc cFc 6 fFc)]) [0, 1, 2, 3, 4, 5, 6] rfl
    have hD9 := hD.sub (ws' := [(zo13rrirrrr h0 sc kp ik bl go ch bo), (zo4rrir go gR gO (nI lk) gS), (zaI gR cR 8 fR), (zaI gO cO 8 fO), (zo10ririliiriririr sc aTp (nI ts) aHl (nI nh) ed mi sn aHs (nI n) aWk (nI wz) aBk (nI bz) aFc), (zaR aHs cHs 8 fHs), (zaI aFc cFc 6 fFc)]) [0, 1, 2, 3, 4, 5, 6] (by decide) rfl
    have hK9 := hK.sub (tys' := [(cR, .int), (cO, .int), (cHs, .object "MistHeaps$Heap"), (cFc, .int)]) [0, 1, 2, 3] rfl
    exact W.iret (v := (-1)) hx hb hr (fun tQ htQ hWQ => ⟨⟨(-1), (lk, fR, fO, fFc), rfl, by omega, by rw [htQ]; exact hP9, va_K.moved hWQ.alike hK9, hD9⟩, hS.F htQ⟩) hS.2.2 dX11_via_13

theorem kc_xCuts_0 : ∀ w ∈ wsX110, w ∈ wsX11_cuts := fun w h => List.mem_cons_of_mem _ (gin_wsX110 w h)
theorem kc_xCuts_1 : (.fieldLink RX11 14 "MistHeaps" "scene" "LMistHeaps$Scene;" : Cond) ∈ wsX11_cuts := kc_of 328 rfl rfl rfl
theorem kc_xCuts_2 : (.fieldLink RX11 35 "MistHeaps" "goings" "LMistHeaps$Goings;" : Cond) ∈ wsX11_cuts := kc_of 332 rfl rfl rfl
theorem kc_xCuts_3 : ∀ w ∈ wsX80, w ∈ wsX11_cuts := fun w h => List.mem_cons_of_mem _ (gin_wsX80 w h)
theorem kc_xCuts_4 : (.fieldLink RX11 88 "MistHeaps$Scene" "snow" "I" : Cond) ∈ wsX11_cuts := kc_of 166 rfl rfl rfl
set_option maxHeartbeats 4000000 in
set_option maxRecDepth 100000 in
theorem c_xCuts (l : Launch) (dC : Nat → ClassId) (dI : Nat → Nat → Nat) (gd : Nat → Nat)  (kA : Nat)   (h0 : Nat) (sc : Nat) (kp : Nat) (bl : Nat) (go : Nat) (ch : Nat) (bo : Nat) (aTp : Nat) (aHl : Nat) (aHs : Nat) (aWk : Nat) (aBk : Nat) (aFc : Nat) (bW : Nat) (bA : Nat) (bE : Nat) (bC : Nat) (gR : Nat) (gO : Nat) (gS : Nat) (ts : Nat) (nh : Nat) (n : Nat) (wz : Nat) (bz : Nat) (lk : Nat) (cl : Nat) (mi : Int32) (sn : Int32) (sg : Int32) (cdd : Int32) (szz : Int32) (att : Int32) (nmb : Int32) (ik : Int32) (x : Int32) (y : Int32) (ed : Int64) (cHs : ClassId) (cFc : ClassId) (cbW : ClassId) (cbA : ClassId) (cbE : ClassId) (cbC : ClassId) (cR : ClassId) (cO : ClassId) (fFc : Nat → Int32) (fbW : Nat → Int32) (fbA : Nat → Int32) (fbE : Nat → Int32) (fbC : Nat → Int32) (fR : Nat → Int32) (fO : Nat → Int32) (yk : Nat → Int32) (yv : Nat → Int32) (yc : Nat → Int32) (fHs : Nat → Option Nat) (yi : Nat → Nat) (ya : Nat → Nat) (tpv : Value) (sz : Nat) (zhs : ∀ k0, k0 < n → fHs k0 = some (ya k0)) (hn8 : n ≤ 8) (zcl : cl ≤ 10) (zE : ∀ k0, k0 < 10 → ∃ e0 : Nat, e0 ≤ 100 ∧ fbE k0 = nI e0) (zC : ∀ k0, k0 < 100 → okC (fbC k0)) (zyv : ∀ k0, k0 < n → ∃ v0 : Nat, v0 ≤ 9 ∧ yv k0 = nI v0) (hlk : lk ≤ 8) : Met l yX11_cuts wsX11_cuts ({ frames := 7, cells := 0, slots := 0, locals := 149 } : Room) (va_Pc [.ref h0, .int x, .int y] (fun U => U.heap.size = sz ∧ va_P (dC, dI) vwCl [(zo13rrirrrr h0 sc kp ik bl go ch bo), (zo4rrir go gR gO (nI lk) gS), (zaI gR cR 8 fR), (zaI gO cO 8 fO), (zo10ririliiriririr sc aTp (nI ts) aHl (nI nh) ed mi sn aHs (nI n) aWk (nI wz) aBk (nI bz) aFc), (zaR aHs cHs 8 fHs), (zaI aFc cFc 6 fFc)] U.heap ∧ va_K (dC, dI) vwCl [(cR, .int), (cO, .int), (cHs, .object "MistHeaps$Heap"), (cFc, .int)] U ∧ va_D (fun _ => True) [(zo13rrirrrr h0 sc kp ik bl go ch bo), (zo4rrir go gR gO (nI lk) gS), (zaI gR cR 8 fR), (zaI gO cO 8 fO), (zo10ririliiriririr sc aTp (nI ts) aHl (nI nh) ed mi sn aHs (nI n) aWk (nI wz) aBk (nI bz) aFc), (zaR aHs cHs 8 fHs), (zaI aFc cFc 6 fFc)] ∧ Gl gd (va_A [(zo13rrirrrr h0 sc kp ik bl go ch bo), (zo4rrir go gR gO (nI lk) gS), (zaI gR cR 8 fR), (zaI gO cO 8 fO), (zo10ririliiriririr sc aTp (nI ts) aHl (nI nh) ed mi sn aHs (nI n) aWk (nI wz) aBk (nI bz) aFc), (zaR aHs cHs 8 fHs), (zaI aFc cFc 6 fFc)] sz) U ∧ Gw (va_A [(zo13rrirrrr h0 sc kp ik bl go ch bo), (zo4rrir go gR gO (nI lk) gS), (zaI gR cR 8 fR), (zaI gO cO 8 fO), (zo10ririliiriririr sc aTp (nI ts) aHl (nI nh) ed mi sn aHs (nI n) aWk (nI wz) aBk (nI bz) aFc), (zaR aHs cHs 8 fHs), (zaI aFc cFc 6 fFc)] sz) U ∧ Gn kA (va_A [(zo13rrirrrr h0 sc kp ik bl go ch bo), (zo4rrir go gR gO (nI lk) gS), (zaI gR cR 8 fR), (zaI gO cO 8 fO), (zo10ririliiriririr sc aTp (nI ts) aHl (nI nh) ed mi sn aHs (nI n) aWk (nI wz) aBk (nI bz) aFc), (zaR aHs cHs 8 fHs), (zaI aFc cFc 6 fFc)] sz) U ∧ Fz dC dI [(zo7iirrrriviii aHl sg (nI cl) bW bA bE bC cdd tpv szz att nmb), (zaI bW cbW 10 fbW), (zaI bA cbA 10 fbA), (zaI bE cbE 10 fbE), (zaI bC cbC 100 fbC)] [(cbW, .int), (cbA, .int), (cbE, .int), (cbC, .int)] (va_A [(zo13rrirrrr h0 sc kp ik bl go ch bo), (zo4rrir go gR gO (nI lk) gS), (zaI gR cR 8 fR), (zaI gO cO 8 fO), (zo10ririliiriririr sc aTp (nI ts) aHl (nI nh) ed mi sn aHs (nI n) aWk (nI wz) aBk (nI bz) aFc), (zaR aHs cHs 8 fHs), (zaI aFc cFc 6 fFc)] sz) U ∧ Hs dC dI n yi ya yk yv yc (va_A [(zo13rrirrrr h0 sc kp ik bl go ch bo), (zo4rrir go gR gO (nI lk) gS), (zaI gR cR 8 fR), (zaI gO cO 8 fO), (zo10ririliiriririr sc aTp (nI ts) aHl (nI nh) ed mi sn aHs (nI n) aWk (nI wz) aBk (nI bz) aFc), (zaR aHs cHs 8 fHs), (zaI aFc cFc 6 fFc)] sz) U)) (va_Qi (fun (r : Int32) (u : (Nat) × (Nat → Int32) × (Nat → Int32) × (Nat → Int32)) => match u with | (lk9, fR9, fO9, fFc9) => lk9 ≤ 8) (fun (u : (Nat) × (Nat → Int32) × (Nat → Int32) × (Nat → Int32)) (t : State) => match u with | (lk9, fR9, fO9, fFc9) => va_P (dC, dI) vwCl [(zo13rrirrrr h0 sc kp ik bl go ch bo), (zo4rrir go gR gO (nI lk9) gS), (zaI gR cR 8 fR9), (zaI gO cO 8 fO9), (zo10ririliiriririr sc aTp (nI ts) aHl (nI nh) ed mi sn aHs (nI n) aWk (nI wz) aBk (nI bz) aFc), (zaR aHs cHs 8 fHs), (zaI aFc cFc 6 fFc9)] t.heap ∧ va_K (dC, dI) vwCl [(cR, .int), (cO, .int), (cHs, .object "MistHeaps$Heap"), (cFc, .int)] t ∧ va_D (va_A [(zo13rrirrrr h0 sc kp ik bl go ch bo), (zo4rrir go gR gO (nI lk) gS), (zaI gR cR 8 fR), (zaI gO cO 8 fO), (zo10ririliiriririr sc aTp (nI ts) aHl (nI nh) ed mi sn aHs (nI n) aWk (nI wz) aBk (nI bz) aFc), (zaR aHs cHs 8 fHs), (zaI aFc cFc 6 fFc)] sz) [(zo13rrirrrr h0 sc kp ik bl go ch bo), (zo4rrir go gR gO (nI lk9) gS), (zaI gR cR 8 fR9), (zaI gO cO 8 fO9), (zo10ririliiriririr sc aTp (nI ts) aHl (nI nh) ed mi sn aHs (nI n) aWk (nI wz) aBk (nI bz) aFc), (zaR aHs cHs 8 fHs), (zaI aFc cFc 6 fFc9)]) (va_A [(zo13rrirrrr h0 sc kp ik bl go ch bo), (zo4rrir go gR gO (nI lk) gS), (zaI gR cR 8 fR), (zaI gO cO 8 fO), (zo10ririliiriririr sc aTp (nI ts) aHl (nI nh) ed mi sn aHs (nI n) aWk (nI wz) aBk (nI bz) aFc), (zaR aHs cHs 8 fHs), (zaI aFc cFc 6 fFc)] sz)) 0 0 (va_A [(zo13rrirrrr h0 sc kp ik bl go ch bo), (zo4rrir go gR gO (nI lk) gS), (zaI gR cR 8 fR), (zaI gO cO 8 fO), (zo10ririliiriririr sc aTp (nI ts) aHl (nI nh) ed mi sn aHs (nI n) aWk (nI wz) aBk (nI bz) aFc), (zaR aHs cHs 8 fHs), (zaI aFc cFc 6 fFc)] sz) := by
  refine met_ofQ (cc := cX11_cuts) (maxL := 3) (ret := (some .int)) (by decide) rfl ?_
  intro p e s m args below meth c s₁ Q B hml hv hQ
  obtain ⟨rfl, hsz, hP, hK, hD0, hG, hW_, hN_, hZ, hH_⟩ := hv
  have hx := B.exec
  have hb := B.bytes
  have hr := B.returns
  have hts := atoms_spec (ws := wsX11_cuts) B.pre
  have hown : s.vm.findClass RX11 = some m.cls := findClass_of_methodNamed B.named
  have hlocks := B.notSynchronized
  subst hsz
  have hD := hD0.self (sz := s.heap.size)
  generalize hAe : va_A [(zo13rrirrrr h0 sc kp ik bl go ch bo), (zo4rrir go gR gO (nI lk) gS), (zaI gR cR 8 fR), (zaI gO cO 8 fO), (zo10ririliiriririr sc aTp (nI ts) aHl (nI nh) ed mi sn aHs (nI n) aWk (nI wz) aBk (nI bz) aFc), (zaR aHs cHs 8 fHs), (zaI aFc cFc 6 fFc)] s.heap.size = A at hD hQ hG hW_ hN_ hZ hH_ ⊢
  have hA : ∀ q : Nat, s.heap.size ≤ q → A q := fun q h => by rw [← hAe]; exact Or.inr h
  have hS : va_S A s.heap s.heap [] := va_S.rf
  have hl := lv_entry [.ref h0, .int x, .int y] (n := 3) (Nat.le_of_ble_eq_true rfl)
  rw [lg_entry_eq]
  generalize (lg_sl [.ref h0, .int x, .int y] ++ List.replicate (3 - (lg_sl [.ref h0, .int x, .int y]).length) Slot.unset).toArray = ls at hl ⊢
  generalize hag : ([.ref h0, .int x, .int y] : List Value).toArray = args at hts hQ ⊢
  have hl : lv_has ls 3 [(0, .ref h0), (1, .int x), (2, .int y)] := hl
  obtain ⟨H, hH⟩ : ∃ H : Heap, H = s.heap := ⟨_, rfl⟩
  rw [← hH] at hP
  rw [← hH]
  have hS : va_S A s.heap H [] := by rw [hH]; exact hS
  obtain ⟨locs, hlo⟩ : ∃ L : List Loc, L = [] := ⟨_, rfl⟩
  rw [← hlo] at hS
  rw [← hlo]
  clear hH hlo
  refine lv_aload_n hx hb dX11_cuts_0 rfl (lv_at hl 0 rfl) ?_
  refine va_get (D := (dC, dI)) (ci := 13) (v := .ref sc) (C := RX11) (T := TX11) (N := 7) hx hb hts kc_xCuts_0 hown hK hP 0 rfl rfl 0 (by decide) (hts (.fieldLink RX11 14 "MistHeaps" "scene" "LMistHeaps$Scene;") kc_xCuts_1) (fun _ h9 => h9) rfl dX11_cuts_1 ?_
  refine lv_iload_n hx hb dX11_cuts_4 rfl (lv_at hl 1 rfl) ?_
  refine lv_iload_n hx hb dX11_cuts_5 rfl (lv_at hl 2 rfl) ?_
  have hPc := hP.sub (ws' := [(zo10ririliiriririr sc aTp (nI ts) aHl (nI nh) ed mi sn aHs (nI n) aWk (nI wz) aBk (nI bz) aFc), (zaR aHs cHs 8 fHs)]) [4, 5] rfl
  have hKc := hK.sub (tys' := [(cHs, .object "MistHeaps$Heap")]) [2] rfl
  refine vp_callSi (va_runV (As := [.int x, .int y]) (rest := []) ⟨hx, hb, hml, hown, hts⟩ (c_areHeaps l dC dI sc aTp aHl aHs aWk aBk aFc ts nh n wz bz mi sn x y ed cHs fHs ya (zhs) (hn8)) (cwV 2 hts gX11_cuts_X8_areHeaps rfl rfl rfl hd_yX8_areHeaps ⟨Nat.le_of_ble_eq_true rfl, Nat.le_of_ble_eq_true rfl⟩) ⟨fun a U g mk q => by obtain ⟨q0, qP, qK⟩ := q; exact ⟨q0, qP, va_K.moved (u := U) (U := U.calling g mk a) (Vm.Alike.refl U.vm) qK⟩, va_recv hK hP (ci := 10) (q := (RX8, TX8, 14)) (q0 := 4) rfl rfl, fun U hU hW => ⟨rfl, by rw [hU]; exact hPc, va_K.moved hW.alike hKc⟩⟩ rfl rfl hl.1 rfl (lv_room (Nat.le_of_ble_eq_true rfl)) dX11_cuts_6 ⟨Nat.le_of_ble_eq_true rfl, Nat.le_of_ble_eq_true rfl⟩).run (fun r_1 hw_2 => ?_)
  rcases hw_2 with ⟨rfl, j1, j2, hj1, hj2, rfl, rfl⟩ | rfl
  · skip
    refine lv_if_ne (tgt := 14) hx hb dX11_cuts_9 (by decide) (fun _ => ?_) (fun c_3 => absurd c_3 (by decide))
    refine lv_aload_n hx hb dX11_cuts_14 rfl (lv_at hl 0 rfl) ?_
    refine va_get (D := (dC, dI)) (ci := 13) (v := .ref go) (C := RX11) (T := TX11) (N := 7) hx hb hts kc_xCuts_0 hown hK hP 0 rfl rfl 4 (by decide) (hts (.fieldLink RX11 35 "MistHeaps" "goings" "LMistHeaps$Goings;") kc_xCuts_2) (fun _ h9 => h9) rfl dX11_cuts_15 ?_
    refine lv_aload_n hx hb dX11_cuts_18 rfl (lv_at hl 0 rfl) ?_
    refine va_get (D := (dC, dI)) (ci := 13) (v := .ref sc) (C := RX11) (T := TX11) (N := 7) hx hb hts kc_xCuts_0 hown hK hP 0 rfl rfl 0 (by decide) (hts (.fieldLink RX11 14 "MistHeaps" "scene" "LMistHeaps$Scene;") kc_xCuts_1) (fun _ h9 => h9) rfl dX11_cuts_19 ?_
    refine lv_aload_n hx hb dX11_cuts_22 rfl (lv_at hl 0 rfl) ?_
    refine va_get (D := (dC, dI)) (ci := 13) (v := .ref sc) (C := RX11) (T := TX11) (N := 7) hx hb hts kc_xCuts_0 hown hK hP 0 rfl rfl 0 (by decide) (hts (.fieldLink RX11 14 "MistHeaps" "scene" "LMistHeaps$Scene;") kc_xCuts_1) (fun _ h9 => h9) rfl dX11_cuts_23 ?_
    refine va_get (D := (dC, dI)) (ci := 10) (v := .int sn) (C := RX8) (T := TX8) (N := 14) hx hb hts kc_xCuts_3 hown hK hP 4 rfl rfl 6 (by decide) (hts (.fieldLink RX11 88 "MistHeaps$Scene" "snow" "I") kc_xCuts_4) (fun _ h9 => h9) rfl dX11_cuts_26 ?_
    have hPc := hP.sub (ws' := [(zo4rrir go gR gO (nI lk) gS), (zaI gR cR 8 fR), (zaI gO cO 8 fO), (zo10ririliiriririr sc aTp (nI ts) aHl (nI nh) ed mi sn aHs (nI n) aWk (nI wz) aBk (nI bz) aFc), (zaR aHs cHs 8 fHs), (zaI aFc cFc 6 fFc)]) [1, 2, 3, 4, 5, 6] rfl
    have hDc := hD.sub (ws' := [(zo4rrir go gR gO (nI lk) gS), (zaI gR cR 8 fR), (zaI gO cO 8 fO), (zo10ririliiriririr sc aTp (nI ts) aHl (nI nh) ed mi sn aHs (nI n) aWk (nI wz) aBk (nI bz) aFc), (zaR aHs cHs 8 fHs), (zaI aFc cFc 6 fFc)]) [1, 2, 3, 4, 5, 6] (by decide) rfl
    have hKc := hK.sub (tys' := [(cR, .int), (cO, .int), (cHs, .object "MistHeaps$Heap"), (cFc, .int)]) [0, 1, 2, 3] rfl
    have hFc := va_free (wc := [(zo4rrir go gR gO (nI lk) gS), (zaI gR cR 8 fR), (zaI gO cO 8 fO), (zo10ririliiriririr sc aTp (nI ts) aHl (nI nh) ed mi sn aHs (nI n) aWk (nI wz) aBk (nI bz) aFc), (zaR aHs cHs 8 fHs), (zaI aFc cFc 6 fFc)]) hD hS hA [1, 2, 3, 4, 5, 6] rfl
    refine va_callv (va_runV (As := [.ref sc, .int sn]) (rest := []) ⟨hx, hb, hml, hown, hts⟩ (c_link l dC dI gd  kA   sc go aTp aHl aHs aWk aBk aFc bW bA bE bC gR gO gS ts nh n wz bz lk cl mi sn sg cdd szz att nmb sn ed cHs cFc cbW cbA cbE cbC cR cO fFc fbW fbA fbE fbC fR fO yk yv yc fHs yi ya tpv H.size (zhs) (hn8) (zcl) (zE) (zC) (zyv)) (cwV 2 hts gX11_cuts_X2_link rfl rfl rfl hd_yX2_link ⟨Nat.le_of_ble_eq_true rfl, Nat.le_of_ble_eq_true rfl⟩) ⟨fun a U g mk q => by obtain ⟨q0, q1, qP, qK, qD, qhG, qhW_, qhN_, qhZ, qhH_⟩ := q; exact ⟨q0, q1, qP, va_K.moved (u := U) (U := U.calling g mk a) (Vm.Alike.refl U.vm) qK, qD, qhG.same rfl rfl, qhW_.same rfl rfl, qhN_.same rfl rfl, qhZ.same rfl rfl, qhH_.same rfl rfl⟩, va_recv hK hP (ci := 4) (q := (RX2, TX2, 4)) (q0 := 1) rfl rfl, fun U hU hW => ⟨rfl, by rw [hU], by rw [hU]; exact hPc, va_K.moved hW.alike hKc, hDc.weaken (fun _ _ _ _ => trivial), hG.call hS hU hW (fun q h => hFc q h), hW_.call hS hU hW (fun q h => hFc q h), hN_.call hS hU hW (fun q h => hFc q h), (hZ.sub [0, 1, 2, 3, 4] [0, 1, 2, 3] rfl rfl).call hS hU hW (fun q h => hFc q h), hH_.call hS hU hW (fun q h => hFc q h)⟩⟩ rfl rfl hl.1 rfl (lv_room (Nat.le_of_ble_eq_true rfl)) dX11_cuts_29 ⟨Nat.le_of_ble_eq_true rfl, Nat.le_of_ble_eq_true rfl⟩) hS (fun q _ h => hFc q h) hFc (fun u tC H1 locs htC hvm hw_5 hB hz1 hk1 hS => ?_)
    obtain ⟨lk9_6, fR9_7, fO9_8, fFc9_9⟩ := u
    try dsimp only at hw_5 hB
    obtain ⟨hP1, hK1, hD1⟩ := hB
    rw [htC] at hP1
    have hK1 := va_K.moved hvm.symm hK1
    obtain ⟨hP, hD⟩ := va_join (wr := [(zo13rrirrrr h0 sc kp ik bl go ch bo)]) (w1 := [(zo4rrir go gR gO (nI lk9_6) gS), (zaI gR cR 8 fR9_7), (zaI gO cO 8 fO9_8), (zo10ririliiriririr sc aTp (nI ts) aHl (nI nh) ed mi sn aHs (nI n) aWk (nI wz) aBk (nI bz) aFc), (zaR aHs cHs 8 fHs), (zaI aFc cFc 6 fFc9_9)]) hP hD [1, 2, 3, 4, 5, 6] [0] rfl rfl (by decide) (by decide) hk1 hFc hP1 hD1
    have hK := (hK.sub (tys' := []) [] rfl).app hK1
    generalize H1 = H at hP hS ⊢
    have hP : va_P (dC, dI) vwCl [(zo13rrirrrr h0 sc kp ik bl go ch bo), (zo4rrir go gR gO (nI lk9_6) gS), (zaI gR cR 8 fR9_7), (zaI gO cO 8 fO9_8), (zo10ririliiriririr sc aTp (nI ts) aHl (nI nh) ed mi sn aHs (nI n) aWk (nI wz) aBk (nI bz) aFc), (zaR aHs cHs 8 fHs), (zaI aFc cFc 6 fFc9_9)] H := hP
    have hD : va_D A [(zo13rrirrrr h0 sc kp ik bl go ch bo), (zo4rrir go gR gO (nI lk9_6) gS), (zaI gR cR 8 fR9_7), (zaI gO cO 8 fO9_8), (zo10ririliiriririr sc aTp (nI ts) aHl (nI nh) ed mi sn aHs (nI n) aWk (nI wz) aBk (nI bz) aFc), (zaR aHs cHs 8 fHs), (zaI aFc cFc 6 fFc9_9)] := hD
    have hK : va_K (dC, dI) vwCl [(cR, .int), (cO, .int), (cHs, .object "MistHeaps$Heap"), (cFc, .int)] s := hK
    obtain rfl := (hw_5).symm
    refine lv_aload_n hx hb dX11_cuts_32 rfl (lv_at hl 0 rfl) ?_
    refine va_get (D := (dC, dI)) (ci := 13) (v := .ref go) (C := RX11) (T := TX11) (N := 7) hx hb hts kc_xCuts_0 hown hK hP 0 rfl rfl 4 (by decide) (hts (.fieldLink RX11 35 "MistHeaps" "goings" "LMistHeaps$Goings;") kc_xCuts_2) (fun _ h9 => h9) rfl dX11_cuts_33 ?_
    refine lv_iload_n hx hb dX11_cuts_36 rfl (lv_at hl 1 rfl) ?_
    refine lv_iload_n hx hb dX11_cuts_37 rfl (lv_at hl 2 rfl) ?_
    have hPc := hP.sub (ws' := [(zo4rrir go gR gO (nI n) gS), (zaI gO cO 8 fO9_8)]) [1, 3] rfl
    have hKc := hK.sub (tys' := [(cO, .int)]) [1] rfl
    refine vp_callSi (va_runV (As := [.int (nI j1), .int (nI j2)]) (rest := []) ⟨hx, hb, hml, hown, hts⟩ (c_breaks l dC dI go gR gO gS n (nI j1) (nI j2) cO fO9_8 (by omega)) (cwV 2 hts gX11_cuts_X2_breaks rfl rfl rfl hd_yX2_breaks ⟨Nat.le_of_ble_eq_true rfl, Nat.le_of_ble_eq_true rfl⟩) ⟨fun a U g mk q => by obtain ⟨q0, qP, qK⟩ := q; exact ⟨q0, qP, va_K.moved (u := U) (U := U.calling g mk a) (Vm.Alike.refl U.vm) qK⟩, va_recv hK hP (ci := 4) (q := (RX2, TX2, 4)) (q0 := 1) rfl rfl, fun U hU hW => ⟨rfl, by rw [hU]; exact hPc, va_K.moved hW.alike hKc⟩⟩ rfl rfl hl.1 rfl (lv_room (Nat.le_of_ble_eq_true rfl)) dX11_cuts_38 ⟨Nat.le_of_ble_eq_true rfl, Nat.le_of_ble_eq_true rfl⟩).run (fun r_10 hw_11 => ?_)
    rw [hQ]
    have hP9 := hP.sub (ws' := [(zo13rrirrrr h0 sc kp ik bl go ch bo), (zo4rrir go gR gO (nI n) gS), (zaI gR cR 8 fR9_7), (zaI gO cO 8 fO9_8), (zo10ririliiriririr sc aTp (nI ts) aHl (nI nh) ed mi sn aHs (nI n) aWk (nI wz) aBk (nI bz) aFc), (zaR aHs cHs 8 fHs), (zaI aFc cFc 6 fFc9_9)]) [0, 1, 2, 3, 4, 5, 6] rfl
    have hD9 := hD.sub (ws' := [(zo13rrirrrr h0 sc kp ik bl go ch bo), (zo4rrir go gR gO (nI n) gS), (zaI gR cR 8 fR9_7), (zaI gO cO 8 fO9_8), (zo10ririliiriririr sc aTp (nI ts) aHl (nI nh) ed mi sn aHs (nI n) aWk (nI wz) aBk (nI bz) aFc), (zaR aHs cHs 8 fHs), (zaI aFc cFc 6 fFc9_9)]) [0, 1, 2, 3, 4, 5, 6] (by decide) rfl
    have hK9 := hK.sub (tys' := [(cR, .int), (cO, .int), (cHs, .object "MistHeaps$Heap"), (cFc, .int)]) [0, 1, 2, 3] rfl
    exact W.iret (v := r_10) hx hb hr (fun tQ htQ hWQ => ⟨⟨r_10, (n, fR9_7, fO9_8, fFc9_9), rfl, by omega, by rw [htQ]; exact hP9, va_K.moved hWQ.alike hK9, hD9⟩, hS.F htQ⟩) hS.2.2 dX11_cuts_41
  · skip
    refine lv_if_ne (tgt := 14) hx hb dX11_cuts_9 (by decide) (fun c_12 => absurd c_12 (by decide)) (fun _ => ?_)
    refine lv_iconst (v := (-1)) hx hb dX11_cuts_12 (by decide) ?_
    rw [hQ]
    have hP9 := hP.sub (ws' := [(zo13rrirrrr h0 sc kp ik bl go ch bo), (zo4rrir go gR gO (nI lk) gS), (zaI gR cR 8 fR), (zaI gO cO 8 fO), (zo10ririliiriririr sc aTp (nI ts) aHl (nI nh) ed mi sn aHs (nI n) aWk (nI wz) aBk (nI bz) aFc), (zaR aHs cHs 8 fHs), (zaI aFc cFc 6 fFc)]) [0, 1, 2, 3, 4, 5, 6] rfl
    have hD9 := hD.sub (ws' := [(zo13rrirrrr h0 sc kp ik bl go ch bo), (zo4rrir go gR gO (nI lk) gS), (zaI gR cR 8 fR), (zaI gO cO 8 fO), (zo10ririliiriririr sc aTp (nI ts) aHl (nI nh) ed mi sn aHs (nI n) aWk (nI wz) aBk (nI bz) aFc), (zaR aHs cHs 8 fHs), (zaI aFc cFc 6 fFc)]) [0, 1, 2, 3, 4, 5, 6] (by decide) rfl
    have hK9 := hK.sub (tys' := [(cR, .int), (cO, .int), (cHs, .object "MistHeaps$Heap"), (cFc, .int)]) [0, 1, 2, 3] rfl
    exact W.iret (v := (-1)) hx hb hr (fun tQ htQ hWQ => ⟨⟨(-1), (lk, fR, fO, fFc), rfl, by omega, by rw [htQ]; exact hP9, va_K.moved hWQ.alike hK9, hD9⟩, hS.F htQ⟩) hS.2.2 dX11_cuts_13
