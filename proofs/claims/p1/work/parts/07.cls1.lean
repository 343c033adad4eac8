theorem dX11_isCell_0 : decode cX11_isCell 0 = .ok (.iload_n 0, 1) := by decide +kernel
theorem dX11_isCell_1 : decode cX11_isCell 1 = .ok (.ifCond .lt 13, 3) := by decide +kernel
theorem dX11_isCell_14 : decode cX11_isCell 14 = .ok (.iconst 0, 1) := by decide +kernel
theorem dX11_isCell_15 : decode cX11_isCell 15 = .ok (.ireturn, 1) := by decide +kernel
theorem dX11_isCell_4 : decode cX11_isCell 4 = .ok (.iload_n 0, 1) := by decide +kernel
theorem dX11_isCell_5 : decode cX11_isCell 5 = .ok (.bipush 36, 2) := by decide +kernel
theorem dX11_isCell_7 : decode cX11_isCell 7 = .ok (.if_icmp .ge 7, 3) := by decide +kernel
theorem dX11_isCell_10 : decode cX11_isCell 10 = .ok (.iconst 1, 1) := by decide +kernel
theorem dX11_isCell_11 : decode cX11_isCell 11 = .ok (.goto 4, 3) := by decide +kernel
theorem dX11_feed_0 : decode cX11_feed 0 = .ok (.iload_n 1, 1) := by decide +kernel
theorem dX11_feed_1 : decode cX11_feed 1 = .ok (.ifCond .lt 9, 3) := by decide +kernel
theorem dX11_feed_10 : decode cX11_feed 10 = .ok (.bipush (-2), 2) := by decide +kernel
theorem dX11_feed_12 : decode cX11_feed 12 = .ok (.ireturn, 1) := by decide +kernel
theorem dX11_feed_4 : decode cX11_feed 4 = .ok (.iload_n 1, 1) := by decide +kernel
theorem dX11_feed_5 : decode cX11_feed 5 = .ok (.bipush 127, 2) := by decide +kernel
theorem dX11_feed_7 : decode cX11_feed 7 = .ok (.if_icmp .le 6, 3) := by decide +kernel
theorem dX11_feed_13 : decode cX11_feed 13 = .ok (.aload_n 0, 1) := by decide +kernel
theorem dX11_feed_14 : decode cX11_feed 14 = .ok (.getfield 14, 3) := by decide +kernel
theorem dX11_feed_17 : decode cX11_feed 17 = .ok (.getfield 53, 3) := by decide +kernel
theorem dX11_feed_20 : decode cX11_feed 20 = .ok (.bipush 100, 2) := by decide +kernel
theorem dX11_feed_22 : decode cX11_feed 22 = .ok (.if_icmp .lt 6, 3) := by decide +kernel
theorem dX11_feed_28 : decode cX11_feed 28 = .ok (.aload_n 0, 1) := by decide +kernel
theorem dX11_feed_29 : decode cX11_feed 29 = .ok (.getfield 14, 3) := by decide +kernel
theorem dX11_feed_32 : decode cX11_feed 32 = .ok (.getfield 57, 3) := by decide +kernel
theorem dX11_feed_35 : decode cX11_feed 35 = .ok (.aload_n 0, 1) := by decide +kernel
theorem dX11_feed_36 : decode cX11_feed 36 = .ok (.getfield 14, 3) := by decide +kernel
theorem dX11_feed_39 : decode cX11_feed 39 = .ok (.getfield 53, 3) := by decide +kernel
theorem dX11_feed_42 : decode cX11_feed 42 = .ok (.iload_n 1, 1) := by decide +kernel
theorem dX11_feed_43 : decode cX11_feed 43 = .ok (.iastore, 1) := by decide +kernel
theorem dX11_feed_44 : decode cX11_feed 44 = .ok (.aload_n 0, 1) := by decide +kernel
theorem dX11_feed_45 : decode cX11_feed 45 = .ok (.getfield 14, 3) := by decide +kernel
theorem dX11_feed_48 : decode cX11_feed 48 = .ok (.dup, 1) := by decide +kernel
theorem dX11_feed_49 : decode cX11_feed 49 = .ok (.getfield 53, 3) := by decide +kernel
theorem dX11_feed_52 : decode cX11_feed 52 = .ok (.iconst 1, 1) := by decide +kernel
theorem dX11_feed_53 : decode cX11_feed 53 = .ok (.iadd, 1) := by decide +kernel
theorem dX11_feed_54 : decode cX11_feed 54 = .ok (.putfield 53, 3) := by decide +kernel
theorem dX11_feed_57 : decode cX11_feed 57 = .ok (.aload_n 0, 1) := by decide +kernel
theorem dX11_feed_58 : decode cX11_feed 58 = .ok (.getfield 14, 3) := by decide +kernel
theorem dX11_feed_61 : decode cX11_feed 61 = .ok (.getfield 53, 3) := by decide +kernel
theorem dX11_feed_64 : decode cX11_feed 64 = .ok (.ireturn, 1) := by decide +kernel
theorem dJ13_bitCount_95d88_0 : decode cJ13_bitCount_95d88 0 = .ok (.lload_n 0, 1) := by decide +kernel
theorem dJ13_bitCount_95d88_1 : decode cJ13_bitCount_95d88 1 = .ok (.lload_n 0, 1) := by decide +kernel
theorem dJ13_bitCount_95d88_2 : decode cJ13_bitCount_95d88 2 = .ok (.iconst 1, 1) := by decide +kernel
theorem dJ13_bitCount_95d88_3 : decode cJ13_bitCount_95d88 3 = .ok (.lushr, 1) := by decide +kernel
theorem dJ13_bitCount_95d88_4 : decode cJ13_bitCount_95d88 4 = .ok (.ldc2_w 314, 3) := by decide +kernel
theorem dJ13_bitCount_95d88_7 : decode cJ13_bitCount_95d88 7 = .ok (.land, 1) := by decide +kernel
theorem dJ13_bitCount_95d88_8 : decode cJ13_bitCount_95d88 8 = .ok (.lsub, 1) := by decide +kernel
theorem dJ13_bitCount_95d88_9 : decode cJ13_bitCount_95d88 9 = .ok (.lstore_n 0, 1) := by decide +kernel
theorem dJ13_bitCount_95d88_10 : decode cJ13_bitCount_95d88 10 = .ok (.lload_n 0, 1) := by decide +kernel
theorem dJ13_bitCount_95d88_11 : decode cJ13_bitCount_95d88 11 = .ok (.ldc2_w 316, 3) := by decide +kernel
theorem dJ13_bitCount_95d88_14 : decode cJ13_bitCount_95d88 14 = .ok (.land, 1) := by decide +kernel
theorem dJ13_bitCount_95d88_15 : decode cJ13_bitCount_95d88 15 = .ok (.lload_n 0, 1) := by decide +kernel
theorem dJ13_bitCount_95d88_16 : decode cJ13_bitCount_95d88 16 = .ok (.iconst 2, 1) := by decide +kernel
theorem dJ13_bitCount_95d88_17 : decode cJ13_bitCount_95d88 17 = .ok (.lushr, 1) := by decide +kernel
theorem dJ13_bitCount_95d88_18 : decode cJ13_bitCount_95d88 18 = .ok (.ldc2_w 316, 3) := by decide +kernel
theorem dJ13_bitCount_95d88_21 : decode cJ13_bitCount_95d88 21 = .ok (.land, 1) := by decide +kernel
theorem dJ13_bitCount_95d88_22 : decode cJ13_bitCount_95d88 22 = .ok (.ladd, 1) := by decide +kernel
theorem dJ13_bitCount_95d88_23 : decode cJ13_bitCount_95d88 23 = .ok (.lstore_n 0, 1) := by decide +kernel
theorem dJ13_bitCount_95d88_24 : decode cJ13_bitCount_95d88 24 = .ok (.lload_n 0, 1) := by decide +kernel
theorem dJ13_bitCount_95d88_25 : decode cJ13_bitCount_95d88 25 = .ok (.lload_n 0, 1) := by decide +kernel
theorem dJ13_bitCount_95d88_26 : decode cJ13_bitCount_95d88 26 = .ok (.iconst 4, 1) := by decide +kernel
theorem dJ13_bitCount_95d88_27 : decode cJ13_bitCount_95d88 27 = .ok (.lushr, 1) := by decide +kernel
theorem dJ13_bitCount_95d88_28 : decode cJ13_bitCount_95d88 28 = .ok (.ladd, 1) := by decide +kernel
theorem dJ13_bitCount_95d88_29 : decode cJ13_bitCount_95d88 29 = .ok (.ldc2_w 318, 3) := by decide +kernel
theorem dJ13_bitCount_95d88_32 : decode cJ13_bitCount_95d88 32 = .ok (.land, 1) := by decide +kernel
theorem dJ13_bitCount_95d88_33 : decode cJ13_bitCount_95d88 33 = .ok (.lstore_n 0, 1) := by decide +kernel
theorem dJ13_bitCount_95d88_34 : decode cJ13_bitCount_95d88 34 = .ok (.lload_n 0, 1) := by decide +kernel
theorem dJ13_bitCount_95d88_35 : decode cJ13_bitCount_95d88 35 = .ok (.lload_n 0, 1) := by decide +kernel
theorem dJ13_bitCount_95d88_36 : decode cJ13_bitCount_95d88 36 = .ok (.bipush 8, 2) := by decide +kernel
theorem dJ13_bitCount_95d88_38 : decode cJ13_bitCount_95d88 38 = .ok (.lushr, 1) := by decide +kernel
theorem dJ13_bitCount_95d88_39 : decode cJ13_bitCount_95d88 39 = .ok (.ladd, 1) := by decide +kernel
theorem dJ13_bitCount_95d88_40 : decode cJ13_bitCount_95d88 40 = .ok (.lstore_n 0, 1) := by decide +kernel
theorem dJ13_bitCount_95d88_41 : decode cJ13_bitCount_95d88 41 = .ok (.lload_n 0, 1) := by decide +kernel
theorem dJ13_bitCount_95d88_42 : decode cJ13_bitCount_95d88 42 = .ok (.lload_n 0, 1) := by decide +kernel
theorem dJ13_bitCount_95d88_43 : decode cJ13_bitCount_95d88 43 = .ok (.bipush 16, 2) := by decide +kernel
theorem dJ13_bitCount_95d88_45 : decode cJ13_bitCount_95d88 45 = .ok (.lushr, 1) := by decide +kernel
theorem dJ13_bitCount_95d88_46 : decode cJ13_bitCount_95d88 46 = .ok (.ladd, 1) := by decide +kernel
theorem dJ13_bitCount_95d88_47 : decode cJ13_bitCount_95d88 47 = .ok (.lstore_n 0, 1) := by decide +kernel
theorem dJ13_bitCount_95d88_48 : decode cJ13_bitCount_95d88 48 = .ok (.lload_n 0, 1) := by decide +kernel
theorem dJ13_bitCount_95d88_49 : decode cJ13_bitCount_95d88 49 = .ok (.lload_n 0, 1) := by decide +kernel
theorem dJ13_bitCount_95d88_50 : decode cJ13_bitCount_95d88 50 = .ok (.bipush 32, 2) := by decide +kernel
theorem dJ13_bitCount_95d88_52 : decode cJ13_bitCount_95d88 52 = .ok (.lushr, 1) := by decide +kernel
theorem dJ13_bitCount_95d88_53 : decode cJ13_bitCount_95d88 53 = .ok (.ladd, 1) := by decide +kernel
theorem dJ13_bitCount_95d88_54 : decode cJ13_bitCount_95d88 54 = .ok (.lstore_n 0, 1) := by decide +kernel
theorem dJ13_bitCount_95d88_55 : decode cJ13_bitCount_95d88 55 = .ok (.lload_n 0, 1) := by decide +kernel
theorem dJ13_bitCount_95d88_56 : decode cJ13_bitCount_95d88 56 = .ok (.l2i, 1) := by decide +kernel
theorem dJ13_bitCount_95d88_57 : decode cJ13_bitCount_95d88 57 = .ok (.bipush 127, 2) := by decide +kernel
theorem dJ13_bitCount_95d88_59 : decode cJ13_bitCount_95d88 59 = .ok (.iand, 1) := by decide +kernel
theorem dJ13_bitCount_95d88_60 : decode cJ13_bitCount_95d88 60 = .ok (.ireturn, 1) := by decide +kernel
theorem dX11_edges_0 : decode cX11_edges 0 = .ok (.lload_n 1, 1) := by decide +kernel
theorem dX11_edges_1 : decode cX11_edges 1 = .ok (.ldc2_w 71, 3) := by decide +kernel
theorem dX11_edges_4 : decode cX11_edges 4 = .ok (.land, 1) := by decide +kernel
theorem dX11_edges_5 : decode cX11_edges 5 = .ok (.lconst 0, 1) := by decide +kernel
theorem dX11_edges_6 : decode cX11_edges 6 = .ok (.lcmp, 1) := by decide +kernel
theorem dX11_edges_7 : decode cX11_edges 7 = .ok (.ifCond .eq 6, 3) := by decide +kernel
theorem dX11_edges_13 : decode cX11_edges 13 = .ok (.aload_n 0, 1) := by decide +kernel
theorem dX11_edges_14 : decode cX11_edges 14 = .ok (.getfield 14, 3) := by decide +kernel
theorem dX11_edges_17 : decode cX11_edges 17 = .ok (.getfield 73, 3) := by decide +kernel
set_option maxRecDepth 20000 in
theorem ggX11_edges_J13_bitCount_95d88 : GoodIn wsX11_edges wsJ13_bitCount_95d88 := goodIn_r _ [7, 8, 9, 10] (by decide +kernel) (by decide +kernel)
set_option maxRecDepth 20000 in
theorem gX11_edges_J13_bitCount_95d88 : GoodIn wsX11_edges (va_wsS RX11 77 yJ13_bitCount_95d88 wsJ13_bitCount_95d88) := goodIn_app (goodIn_of _ (by decide +kernel)) ggX11_edges_J13_bitCount_95d88
theorem dX11_edges_20 : decode cX11_edges 20 = .ok (.invokestatic 77, 3) := by decide +kernel
theorem dX11_edges_23 : decode cX11_edges 23 = .ok (.istore_n 3, 1) := by decide +kernel
theorem dX11_edges_24 : decode cX11_edges 24 = .ok (.aload_n 0, 1) := by decide +kernel
theorem dX11_edges_25 : decode cX11_edges 25 = .ok (.getfield 14, 3) := by decide +kernel
theorem dX11_edges_28 : decode cX11_edges 28 = .ok (.lload_n 1, 1) := by decide +kernel
theorem dX11_edges_29 : decode cX11_edges 29 = .ok (.putfield 73, 3) := by decide +kernel
theorem dX11_edges_32 : decode cX11_edges 32 = .ok (.iload_n 3, 1) := by decide +kernel
theorem dX11_edges_33 : decode cX11_edges 33 = .ok (.ireturn, 1) := by decide +kernel
theorem dX11_edges_10 : decode cX11_edges 10 = .ok (.bipush (-2), 2) := by decide +kernel
theorem dX11_edges_12 : decode cX11_edges 12 = .ok (.ireturn, 1) := by decide +kernel
theorem dX11_told_0 : decode cX11_told 0 = .ok (.iload_n 1, 1) := by decide +kernel
theorem dX11_told_1 : decode cX11_told 1 = .ok (.tableswitch 69 0 3 #[31, 39, 47, 58], 31) := by decide +kernel
theorem dX11_told_32 : decode cX11_told 32 = .ok (.aload_n 0, 1) := by decide +kernel
theorem dX11_told_33 : decode cX11_told 33 = .ok (.getfield 14, 3) := by decide +kernel
theorem dX11_told_36 : decode cX11_told 36 = .ok (.getfield 85, 3) := by decide +kernel
theorem dX11_told_39 : decode cX11_told 39 = .ok (.ireturn, 1) := by decide +kernel
theorem dX11_told_40 : decode cX11_told 40 = .ok (.aload_n 0, 1) := by decide +kernel
theorem dX11_told_41 : decode cX11_told 41 = .ok (.getfield 14, 3) := by decide +kernel
theorem dX11_told_44 : decode cX11_told 44 = .ok (.getfield 88, 3) := by decide +kernel
theorem dX11_told_47 : decode cX11_told 47 = .ok (.ireturn, 1) := by decide +kernel
theorem dX11_told_48 : decode cX11_told 48 = .ok (.aload_n 0, 1) := by decide +kernel
theorem dX11_told_49 : decode cX11_told 49 = .ok (.getfield 14, 3) := by decide +kernel
theorem dX11_told_52 : decode cX11_told 52 = .ok (.getfield 68, 3) := by decide +kernel
theorem dX11_told_55 : decode cX11_told 55 = .ok (.getfield 91, 3) := by decide +kernel
theorem dX11_told_58 : decode cX11_told 58 = .ok (.ireturn, 1) := by decide +kernel
theorem dX11_told_59 : decode cX11_told 59 = .ok (.aload_n 0, 1) := by decide +kernel
theorem dX11_told_60 : decode cX11_told 60 = .ok (.getfield 14, 3) := by decide +kernel
theorem dX11_told_63 : decode cX11_told 63 = .ok (.getfield 73, 3) := by decide +kernel
set_option maxRecDepth 20000 in
theorem ggX11_told_J13_bitCount_95d88 : GoodIn wsX11_told wsJ13_bitCount_95d88 := goodIn_r _ [10, 11, 12, 13] (by decide +kernel) (by decide +kernel)
set_option maxRecDepth 20000 in
theorem gX11_told_J13_bitCount_95d88 : GoodIn wsX11_told (va_wsS RX11 77 yJ13_bitCount_95d88 wsJ13_bitCount_95d88) := goodIn_app (goodIn_of _ (by decide +kernel)) ggX11_told_J13_bitCount_95d88
theorem dX11_told_66 : decode cX11_told 66 = .ok (.invokestatic 77, 3) := by decide +kernel
theorem dX11_told_69 : decode cX11_told 69 = .ok (.ireturn, 1) := by decide +kernel
theorem dX11_told_70 : decode cX11_told 70 = .ok (.iconst (-1), 1) := by decide +kernel
theorem dX11_told_71 : decode cX11_told 71 = .ok (.ireturn, 1) := by decide +kernel
theorem dX11_set_0 : decode cX11_set 0 = .ok (.iload_n 1, 1) := by decide +kernel
theorem dX11_set_1 : decode cX11_set 1 = .ok (.ifCond .lt 8, 3) := by decide +kernel
theorem dX11_set_9 : decode cX11_set 9 = .ok (.iconst (-1), 1) := by decide +kernel
theorem dX11_set_10 : decode cX11_set 10 = .ok (.ireturn, 1) := by decide +kernel
theorem dX11_set_4 : decode cX11_set 4 = .ok (.iload_n 1, 1) := by decide +kernel
theorem dX11_set_5 : decode cX11_set 5 = .ok (.iconst 1, 1) := by decide +kernel
theorem dX11_set_6 : decode cX11_set 6 = .ok (.if_icmp .le 5, 3) := by decide +kernel
theorem dX11_set_11 : decode cX11_set 11 = .ok (.iload_n 2, 1) := by decide +kernel
theorem dX11_set_12 : decode cX11_set 12 = .ok (.ifCond .lt 9, 3) := by decide +kernel
theorem dX11_set_21 : decode cX11_set 21 = .ok (.bipush (-2), 2) := by decide +kernel
theorem dX11_set_23 : decode cX11_set 23 = .ok (.ireturn, 1) := by decide +kernel
theorem dX11_set_15 : decode cX11_set 15 = .ok (.iload_n 2, 1) := by decide +kernel
theorem dX11_set_16 : decode cX11_set 16 = .ok (.bipush 9, 2) := by decide +kernel
theorem dX11_set_18 : decode cX11_set 18 = .ok (.if_icmp .le 6, 3) := by decide +kernel
theorem dX11_set_24 : decode cX11_set 24 = .ok (.aload_n 0, 1) := by decide +kernel
theorem dX11_set_25 : decode cX11_set 25 = .ok (.iload_n 1, 1) := by decide +kernel
set_option maxRecDepth 20000 in
theorem ggX11_set_X11_told : GoodIn wsX11_set wsX11_told := goodIn_r _ [8, 1, 2, 3, 9, 10, 11, 12, 13, 14, 15, 16, 17, 18, 19, 20, 21, 22, 23, 24, 25, 26, 27, 28, 29, 30, 31, 32, 33, 34, 35, 36, 37, 38, 39, 40, 41, 42, 43, 44, 45, 46, 47, 48, 49, 50] (by decide +kernel) (by decide +kernel)
set_option maxRecDepth 20000 in
theorem gX11_set_X11_told : GoodIn wsX11_set (wsV RX11 81 RX11 yX11_told wsX11_told) := goodIn_app (goodIn_of _ (by decide +kernel)) ggX11_set_X11_told
theorem dX11_set_26 : decode cX11_set 26 = .ok (.invokevirtual 81, 3) := by decide +kernel
theorem dX11_set_29 : decode cX11_set 29 = .ok (.istore_n 3, 1) := by decide +kernel
theorem dX11_set_30 : decode cX11_set 30 = .ok (.iload_n 1, 1) := by decide +kernel
theorem dX11_set_31 : decode cX11_set 31 = .ok (.ifCond .ne 14, 3) := by decide +kernel
theorem dX11_set_45 : decode cX11_set 45 = .ok (.aload_n 0, 1) := by decide +kernel
theorem dX11_set_46 : decode cX11_set 46 = .ok (.getfield 14, 3) := by decide +kernel
theorem dX11_set_49 : decode cX11_set 49 = .ok (.iload_n 2, 1) := by decide +kernel
theorem dX11_set_50 : decode cX11_set 50 = .ok (.putfield 88, 3) := by decide +kernel
theorem dX11_set_53 : decode cX11_set 53 = .ok (.iload_n 3, 1) := by decide +kernel
theorem dX11_set_54 : decode cX11_set 54 = .ok (.ireturn, 1) := by decide +kernel
theorem dX11_set_34 : decode cX11_set 34 = .ok (.aload_n 0, 1) := by decide +kernel
theorem dX11_set_35 : decode cX11_set 35 = .ok (.getfield 14, 3) := by decide +kernel
theorem dX11_set_38 : decode cX11_set 38 = .ok (.iload_n 2, 1) := by decide +kernel
theorem dX11_set_39 : decode cX11_set 39 = .ok (.putfield 85, 3) := by decide +kernel
theorem dX11_set_42 : decode cX11_set 42 = .ok (.goto 11, 3) := by decide +kernel
theorem dX8_heapAt_0 : decode cX8_heapAt 0 = .ok (.iload_n 1, 1) := by decide +kernel
theorem dX8_heapAt_1 : decode cX8_heapAt 1 = .ok (.ifCond .lt 20, 3) := by decide +kernel
theorem dX8_heapAt_21 : decode cX8_heapAt 21 = .ok (.aconst_null, 1) := by decide +kernel
theorem dX8_heapAt_22 : decode cX8_heapAt 22 = .ok (.areturn, 1) := by decide +kernel
theorem dX8_heapAt_4 : decode cX8_heapAt 4 = .ok (.iload_n 1, 1) := by decide +kernel
theorem dX8_heapAt_5 : decode cX8_heapAt 5 = .ok (.aload_n 0, 1) := by decide +kernel
theorem dX8_heapAt_6 : decode cX8_heapAt 6 = .ok (.getfield 60, 3) := by decide +kernel
theorem dX8_heapAt_9 : decode cX8_heapAt 9 = .ok (.if_icmp .ge 12, 3) := by decide +kernel
theorem dX8_areHeaps_0 : decode cX8_areHeaps 0 = .ok (.aload_n 0, 1) := by decide +kernel
theorem dX8_areHeaps_1 : decode cX8_areHeaps 1 = .ok (.iload_n 1, 1) := by decide +kernel
set_option maxRecDepth 20000 in
theorem ggX8_areHeaps_X8_heapAt : GoodIn wsX8_areHeaps wsX8_heapAt := goodIn_r _ [5, 6, 7, 8, 9, 10, 11, 12, 13, 14, 15, 16, 17, 18, 19, 20, 21] (by decide +kernel) (by decide +kernel)
set_option maxRecDepth 20000 in
theorem gX8_areHeaps_X8_heapAt : GoodIn wsX8_areHeaps (wsV RX8 69 RX8 yX8_heapAt wsX8_heapAt) := goodIn_app (goodIn_of _ (by decide +kernel)) ggX8_areHeaps_X8_heapAt
theorem dX8_areHeaps_2 : decode cX8_areHeaps 2 = .ok (.invokevirtual 69, 3) := by decide +kernel
theorem dX8_areHeaps_5 : decode cX8_areHeaps 5 = .ok (.ifnull 15, 3) := by decide +kernel
theorem dX8_areHeaps_20 : decode cX8_areHeaps 20 = .ok (.iconst 0, 1) := by decide +kernel
theorem dX8_areHeaps_21 : decode cX8_areHeaps 21 = .ok (.ireturn, 1) := by decide +kernel
theorem dX11_of_0 : decode cX11_of 0 = .ok (.aload_n 0, 1) := by decide +kernel
theorem dX11_of_1 : decode cX11_of 1 = .ok (.getfield 14, 3) := by decide +kernel
theorem dX11_of_4 : decode cX11_of 4 = .ok (.iload_n 1, 1) := by decide +kernel
set_option maxRecDepth 20000 in
theorem ggX11_of_X8_heapAt : GoodIn wsX11_of wsX8_heapAt := goodIn_r _ [10, 11, 12, 129, 130, 131, 132, 133, 134, 135, 136, 137, 138, 139, 140, 141, 142] (by decide +kernel) (by decide +kernel)
set_option maxRecDepth 20000 in
theorem gX11_of_X8_heapAt : GoodIn wsX11_of (wsV RX11 112 RX8 yX8_heapAt wsX8_heapAt) := goodIn_app (goodIn_of _ (by decide +kernel)) ggX11_of_X8_heapAt
theorem dX11_of_5 : decode cX11_of 5 = .ok (.invokevirtual 112, 3) := by decide +kernel
theorem dX11_of_8 : decode cX11_of 8 = .ok (.astore_n 3, 1) := by decide +kernel
theorem dX11_of_9 : decode cX11_of 9 = .ok (.aload_n 3, 1) := by decide +kernel
theorem dX11_of_10 : decode cX11_of 10 = .ok (.ifnonnull 5, 3) := by decide +kernel
theorem dX11_of_13 : decode cX11_of 13 = .ok (.iconst (-1), 1) := by decide +kernel
theorem dX11_of_14 : decode cX11_of 14 = .ok (.ireturn, 1) := by decide +kernel
theorem dX11_steps_0 : decode cX11_steps 0 = .ok (.aload_n 0, 1) := by decide +kernel
theorem dX11_steps_1 : decode cX11_steps 1 = .ok (.getfield 14, 3) := by decide +kernel
theorem dX11_steps_4 : decode cX11_steps 4 = .ok (.iload_n 1, 1) := by decide +kernel
theorem dX11_steps_5 : decode cX11_steps 5 = .ok (.iload_n 2, 1) := by decide +kernel
set_option maxRecDepth 20000 in
theorem ggX11_steps_X8_areHeaps : GoodIn wsX11_steps wsX8_areHeaps := goodIn_r _ [8, 9, 10, 11, 7, 12, 13, 14, 165, 166, 167, 168, 169, 170, 171, 172, 173, 174, 175, 176, 177, 178] (by decide +kernel) (by decide +kernel)
set_option maxRecDepth 20000 in
theorem gX11_steps_X8_areHeaps : GoodIn wsX11_steps (wsV RX11 141 RX8 yX8_areHeaps wsX8_areHeaps) := goodIn_app (goodIn_of _ (by decide +kernel)) ggX11_steps_X8_areHeaps
theorem dX11_steps_6 : decode cX11_steps 6 = .ok (.invokevirtual 141, 3) := by decide +kernel
theorem dX11_steps_9 : decode cX11_steps 9 = .ok (.ifCond .ne 5, 3) := by decide +kernel
theorem dX11_steps_12 : decode cX11_steps 12 = .ok (.iconst (-1), 1) := by decide +kernel
theorem dX11_steps_13 : decode cX11_steps 13 = .ok (.ireturn, 1) := by decide +kernel
theorem dX11_via_0 : decode cX11_via 0 = .ok (.aload_n 0, 1) := by decide +kernel
theorem dX11_via_1 : decode cX11_via 1 = .ok (.getfield 14, 3) := by decide +kernel
theorem dX11_via_4 : decode cX11_via 4 = .ok (.iload_n 1, 1) := by decide +kernel
theorem dX11_via_5 : decode cX11_via 5 = .ok (.iload_n 2, 1) := by decide +kernel
set_option maxRecDepth 20000 in
theorem ggX11_via_X8_areHeaps : GoodIn wsX11_via wsX8_areHeaps := goodIn_r _ [8, 9, 10, 11, 7, 12, 13, 14, 173, 174, 175, 176, 177, 178, 179, 180, 181, 182, 183, 184, 185, 186] (by decide +kernel) (by decide +kernel)
set_option maxRecDepth 20000 in
theorem gX11_via_X8_areHeaps : GoodIn wsX11_via (wsV RX11 141 RX8 yX8_areHeaps wsX8_areHeaps) := goodIn_app (goodIn_of _ (by decide +kernel)) ggX11_via_X8_areHeaps
theorem dX11_via_6 : decode cX11_via 6 = .ok (.invokevirtual 141, 3) := by decide +kernel
theorem dX11_via_9 : decode cX11_via 9 = .ok (.ifCond .ne 5, 3) := by decide +kernel
theorem dX11_via_12 : decode cX11_via 12 = .ok (.iconst (-1), 1) := by decide +kernel
theorem dX11_via_13 : decode cX11_via 13 = .ok (.ireturn, 1) := by decide +kernel
theorem dX11_cuts_0 : decode cX11_cuts 0 = .ok (.aload_n 0, 1) := by decide +kernel
theorem dX11_cuts_1 : decode cX11_cuts 1 = .ok (.getfield 14, 3) := by decide +kernel
theorem dX11_cuts_4 : decode cX11_cuts 4 = .ok (.iload_n 1, 1) := by decide +kernel
theorem dX11_cuts_5 : decode cX11_cuts 5 = .ok (.iload_n 2, 1) := by decide +kernel
set_option maxRecDepth 20000 in
theorem ggX11_cuts_X8_areHeaps : GoodIn wsX11_cuts wsX8_areHeaps := goodIn_r _ [8, 9, 10, 11, 7, 12, 13, 14, 169, 170, 171, 172, 173, 174, 175, 176, 177, 178, 179, 180, 181, 182] (by decide +kernel) (by decide +kernel)
set_option maxRecDepth 20000 in
theorem gX11_cuts_X8_areHeaps : GoodIn wsX11_cuts (wsV RX11 141 RX8 yX8_areHeaps wsX8_areHeaps) := goodIn_app (goodIn_of _ (by decide +kernel)) ggX11_cuts_X8_areHeaps
theorem dX11_cuts_6 : decode cX11_cuts 6 = .ok (.invokevirtual 141, 3) := by decide +kernel
theorem dX11_cuts_9 : decode cX11_cuts 9 = .ok (.ifCond .ne 5, 3) := by decide +kernel
theorem dX11_cuts_12 : decode cX11_cuts 12 = .ok (.iconst (-1), 1) := by decide +kernel
theorem dX11_cuts_13 : decode cX11_cuts 13 = .ok (.ireturn, 1) := by decide +kernel
theorem dX11_bears_0 : decode cX11_bears 0 = .ok (.aload_n 0, 1) := by decide +kernel
theorem dX11_bears_1 : decode cX11_bears 1 = .ok (.getfield 14, 3) := by decide +kernel
theorem dX11_bears_4 : decode cX11_bears 4 = .ok (.iload_n 1, 1) := by decide +kernel
theorem dX11_bears_5 : decode cX11_bears 5 = .ok (.iload_n 2, 1) := by decide +kernel
set_option maxRecDepth 20000 in
theorem ggX11_bears_X8_areHeaps : GoodIn wsX11_bears wsX8_areHeaps := goodIn_r _ [7, 8, 9, 10, 6, 11, 12, 13, 164, 165, 166, 167, 168, 169, 170, 171, 172, 173, 174, 175, 176, 177] (by decide +kernel) (by decide +kernel)
set_option maxRecDepth 20000 in
theorem gX11_bears_X8_areHeaps : GoodIn wsX11_bears (wsV RX11 141 RX8 yX8_areHeaps wsX8_areHeaps) := goodIn_app (goodIn_of _ (by decide +kernel)) ggX11_bears_X8_areHeaps
theorem dX11_bears_6 : decode cX11_bears 6 = .ok (.invokevirtual 141, 3) := by decide +kernel
theorem dX11_bears_9 : decode cX11_bears 9 = .ok (.ifCond .ne 5, 3) := by decide +kernel
theorem dX11_bears_12 : decode cX11_bears 12 = .ok (.iconst (-1), 1) := by decide +kernel
theorem dX11_bears_13 : decode cX11_bears 13 = .ok (.ireturn, 1) := by decide +kernel
theorem dX11_build_0 : decode cX11_build 0 = .ok (.aload_n 0, 1) := by decide +kernel
theorem dX11_build_1 : decode cX11_build 1 = .ok (.getfield 14, 3) := by decide +kernel
theorem dX11_build_4 : decode cX11_build 4 = .ok (.iload_n 1, 1) := by decide +kernel
theorem dX11_build_5 : decode cX11_build 5 = .ok (.iload_n 2, 1) := by decide +kernel
set_option maxRecDepth 20000 in
theorem ggX11_build_X8_areHeaps : GoodIn wsX11_build wsX8_areHeaps := goodIn_r _ [7, 8, 9, 10, 6, 11, 12, 13, 180, 181, 182, 183, 184, 185, 186, 187, 188, 189, 190, 191, 192, 193] (by decide +kernel) (by decide +kernel)
set_option maxRecDepth 20000 in
theorem gX11_build_X8_areHeaps : GoodIn wsX11_build (wsV RX11 141 RX8 yX8_areHeaps wsX8_areHeaps) := goodIn_app (goodIn_of _ (by decide +kernel)) ggX11_build_X8_areHeaps
theorem dX11_build_6 : decode cX11_build 6 = .ok (.invokevirtual 141, 3) := by decide +kernel
theorem dX11_build_9 : decode cX11_build 9 = .ok (.ifCond .eq 12, 3) := by decide +kernel
theorem dX11_build_21 : decode cX11_build 21 = .ok (.iconst (-1), 1) := by decide +kernel
theorem dX11_build_22 : decode cX11_build 22 = .ok (.ireturn, 1) := by decide +kernel
theorem dX11_line_0 : decode cX11_line 0 = .ok (.aload_n 0, 1) := by decide +kernel
theorem dX11_line_1 : decode cX11_line 1 = .ok (.getfield 14, 3) := by decide +kernel
theorem dX11_line_4 : decode cX11_line 4 = .ok (.iload_n 1, 1) := by decide +kernel
set_option maxRecDepth 20000 in
theorem ggX11_line_X8_heapAt : GoodIn wsX11_line wsX8_heapAt := goodIn_r _ [16, 17, 18, 39, 40, 41, 42, 43, 44, 45, 46, 47, 48, 49, 50, 51, 52] (by decide +kernel) (by decide +kernel)
set_option maxRecDepth 20000 in
theorem gX11_line_X8_heapAt : GoodIn wsX11_line (wsV RX11 112 RX8 yX8_heapAt wsX8_heapAt) := goodIn_app (goodIn_of _ (by decide +kernel)) ggX11_line_X8_heapAt
theorem dX11_line_5 : decode cX11_line 5 = .ok (.invokevirtual 112, 3) := by decide +kernel
theorem dX11_line_8 : decode cX11_line 8 = .ok (.astore_n 3, 1) := by decide +kernel
theorem dX11_line_9 : decode cX11_line 9 = .ok (.aload_n 3, 1) := by decide +kernel
theorem dX11_line_10 : decode cX11_line 10 = .ok (.ifnonnull 5, 3) := by decide +kernel
theorem dX11_line_13 : decode cX11_line 13 = .ok (.iconst (-1), 1) := by decide +kernel
theorem dX11_line_14 : decode cX11_line 14 = .ok (.ireturn, 1) := by decide +kernel
theorem dX11_next_0 : decode cX11_next 0 = .ok (.aload_n 0, 1) := by decide +kernel
theorem dX11_next_1 : decode cX11_next 1 = .ok (.getfield 14, 3) := by decide +kernel
theorem dX11_next_4 : decode cX11_next 4 = .ok (.iload_n 1, 1) := by decide +kernel
set_option maxRecDepth 20000 in
theorem ggX11_next_X8_heapAt : GoodIn wsX11_next wsX8_heapAt := goodIn_r _ [7, 8, 9, 55, 56, 57, 58, 59, 60, 61, 62, 63, 64, 65, 66, 67, 68] (by decide +kernel) (by decide +kernel)
set_option maxRecDepth 20000 in
theorem gX11_next_X8_heapAt : GoodIn wsX11_next (wsV RX11 112 RX8 yX8_heapAt wsX8_heapAt) := goodIn_app (goodIn_of _ (by decide +kernel)) ggX11_next_X8_heapAt
theorem dX11_next_5 : decode cX11_next 5 = .ok (.invokevirtual 112, 3) := by decide +kernel
theorem dX11_next_8 : decode cX11_next 8 = .ok (.astore 4, 2) := by decide +kernel
theorem dX11_next_10 : decode cX11_next 10 = .ok (.aload_n 0, 1) := by decide +kernel
theorem dX11_next_11 : decode cX11_next 11 = .ok (.getfield 14, 3) := by decide +kernel
theorem dX11_next_14 : decode cX11_next 14 = .ok (.iload_n 2, 1) := by decide +kernel
theorem dX11_next_15 : decode cX11_next 15 = .ok (.invokevirtual 112, 3) := by decide +kernel
theorem dX11_next_18 : decode cX11_next 18 = .ok (.astore 5, 2) := by decide +kernel
theorem dX11_next_20 : decode cX11_next 20 = .ok (.aload_n 0, 1) := by decide +kernel
theorem dX11_next_21 : decode cX11_next 21 = .ok (.getfield 14, 3) := by decide +kernel
theorem dX11_next_24 : decode cX11_next 24 = .ok (.iload_n 3, 1) := by decide +kernel
theorem dX11_next_25 : decode cX11_next 25 = .ok (.invokevirtual 112, 3) := by decide +kernel
theorem dX11_next_28 : decode cX11_next 28 = .ok (.astore 6, 2) := by decide +kernel
theorem dX11_next_30 : decode cX11_next 30 = .ok (.aload 4, 2) := by decide +kernel
theorem dX11_next_32 : decode cX11_next 32 = .ok (.ifnull 13, 3) := by decide +kernel
theorem dX11_next_45 : decode cX11_next 45 = .ok (.iconst (-1), 1) := by decide +kernel
theorem dX11_next_46 : decode cX11_next 46 = .ok (.ireturn, 1) := by decide +kernel
theorem dX11_as_0 : decode cX11_as 0 = .ok (.aload_n 0, 1) := by decide +kernel
theorem dX11_as_1 : decode cX11_as 1 = .ok (.getfield 14, 3) := by decide +kernel
theorem dX11_as_4 : decode cX11_as 4 = .ok (.iload_n 1, 1) := by decide +kernel
set_option maxRecDepth 20000 in
theorem ggX11_as_X8_heapAt : GoodIn wsX11_as wsX8_heapAt := goodIn_r _ [7, 8, 9, 59, 60, 61, 62, 63, 64, 65, 66, 67, 68, 69, 70, 71, 72] (by decide +kernel) (by decide +kernel)
set_option maxRecDepth 20000 in
theorem gX11_as_X8_heapAt : GoodIn wsX11_as (wsV RX11 112 RX8 yX8_heapAt wsX8_heapAt) := goodIn_app (goodIn_of _ (by decide +kernel)) ggX11_as_X8_heapAt
theorem dX11_as_5 : decode cX11_as 5 = .ok (.invokevirtual 112, 3) := by decide +kernel
theorem dX11_as_8 : decode cX11_as 8 = .ok (.astore_n 3, 1) := by decide +kernel
theorem dX11_as_9 : decode cX11_as 9 = .ok (.aload_n 3, 1) := by decide +kernel
theorem dX11_as_10 : decode cX11_as 10 = .ok (.ifnull 13, 3) := by decide +kernel
theorem dX11_as_23 : decode cX11_as 23 = .ok (.iconst (-1), 1) := by decide +kernel
theorem dX11_as_24 : decode cX11_as 24 = .ok (.ireturn, 1) := by decide +kernel
theorem dX11_undo_0 : decode cX11_undo 0 = .ok (.aload_n 0, 1) := by decide +kernel
theorem dX11_undo_1 : decode cX11_undo 1 = .ok (.getfield 21, 3) := by decide +kernel
theorem dX11_undo_4 : decode cX11_undo 4 = .ok (.ifCond .ne 6, 3) := by decide +kernel
theorem dX11_undo_7 : decode cX11_undo 7 = .ok (.bipush (-3), 2) := by decide +kernel
theorem dX11_undo_9 : decode cX11_undo 9 = .ok (.ireturn, 1) := by decide +kernel
theorem dJx4a65c_size_8abf5_0 : decode cJx4a65c_size_8abf5 0 = .ok (.aload_n 0, 1) := by decide +kernel
theorem dJx4a65c_size_8abf5_1 : decode cJx4a65c_size_8abf5 1 = .ok (.getfield 48, 3) := by decide +kernel
theorem dJx4a65c_size_8abf5_4 : decode cJx4a65c_size_8abf5 4 = .ok (.ireturn, 1) := by decide +kernel
theorem dX11_trace_0 : decode cX11_trace 0 = .ok (.iload_n 1, 1) := by decide +kernel
theorem dX11_trace_1 : decode cX11_trace 1 = .ok (.ifCond .lt 31, 3) := by decide +kernel
theorem dX11_trace_32 : decode cX11_trace 32 = .ok (.iconst (-1), 1) := by decide +kernel
theorem dX11_trace_33 : decode cX11_trace 33 = .ok (.ireturn, 1) := by decide +kernel
theorem dX11_trace_4 : decode cX11_trace 4 = .ok (.iload_n 1, 1) := by decide +kernel
theorem dX11_trace_5 : decode cX11_trace 5 = .ok (.aload_n 0, 1) := by decide +kernel
theorem dX11_trace_6 : decode cX11_trace 6 = .ok (.getfield 49, 3) := by decide +kernel
set_option maxRecDepth 20000 in
theorem ggX11_trace_Jx4a65c_size_8abf5 : GoodIn wsX11_trace wsJx4a65c_size_8abf5 := goodIn_r _ [7, 8, 39, 40, 41] (by decide +kernel) (by decide +kernel)
set_option maxRecDepth 20000 in
theorem gX11_trace_Jx4a65c_size_8abf5 : GoodIn wsX11_trace (wsV RX11 243 RJx4a65c yJx4a65c_size_8abf5 wsJx4a65c_size_8abf5) := goodIn_app (goodIn_of _ (by decide +kernel)) ggX11_trace_Jx4a65c_size_8abf5
theorem dX11_trace_9 : decode cX11_trace 9 = .ok (.invokevirtual 243, 3) := by decide +kernel
theorem dX11_trace_12 : decode cX11_trace 12 = .ok (.if_icmp .ge 20, 3) := by decide +kernel
theorem dX11_count_0 : decode cX11_count 0 = .ok (.iload_n 1, 1) := by decide +kernel
theorem dX11_count_1 : decode cX11_count 1 = .ok (.tableswitch 87 0 5 #[39, 47, 55, 63, 71, 79], 39) := by decide +kernel
theorem dX11_count_40 : decode cX11_count 40 = .ok (.aload_n 0, 1) := by decide +kernel
theorem dX11_count_41 : decode cX11_count 41 = .ok (.getfield 14, 3) := by decide +kernel
theorem dX11_count_44 : decode cX11_count 44 = .ok (.getfield 101, 3) := by decide +kernel
theorem dX11_count_47 : decode cX11_count 47 = .ok (.ireturn, 1) := by decide +kernel
theorem dX11_count_48 : decode cX11_count 48 = .ok (.aload_n 0, 1) := by decide +kernel
theorem dX11_count_49 : decode cX11_count 49 = .ok (.getfield 14, 3) := by decide +kernel
theorem dX11_count_52 : decode cX11_count 52 = .ok (.getfield 61, 3) := by decide +kernel
theorem dX11_count_55 : decode cX11_count 55 = .ok (.ireturn, 1) := by decide +kernel
theorem dX11_count_56 : decode cX11_count 56 = .ok (.aload_n 0, 1) := by decide +kernel
theorem dX11_count_57 : decode cX11_count 57 = .ok (.getfield 14, 3) := by decide +kernel
theorem dX11_count_60 : decode cX11_count 60 = .ok (.getfield 169, 3) := by decide +kernel
theorem dX11_count_63 : decode cX11_count 63 = .ok (.ireturn, 1) := by decide +kernel
theorem dX11_count_64 : decode cX11_count 64 = .ok (.aload_n 0, 1) := by decide +kernel
theorem dX11_count_65 : decode cX11_count 65 = .ok (.getfield 14, 3) := by decide +kernel
theorem dX11_count_68 : decode cX11_count 68 = .ok (.getfield 221, 3) := by decide +kernel
theorem dX11_count_71 : decode cX11_count 71 = .ok (.ireturn, 1) := by decide +kernel
theorem dX11_count_72 : decode cX11_count 72 = .ok (.aload_n 0, 1) := by decide +kernel
theorem dX11_count_73 : decode cX11_count 73 = .ok (.getfield 14, 3) := by decide +kernel
theorem dX11_count_76 : decode cX11_count 76 = .ok (.getfield 53, 3) := by decide +kernel
theorem dX11_count_79 : decode cX11_count 79 = .ok (.ireturn, 1) := by decide +kernel
theorem dX11_count_80 : decode cX11_count 80 = .ok (.aload_n 0, 1) := by decide +kernel
theorem dX11_count_81 : decode cX11_count 81 = .ok (.getfield 49, 3) := by decide +kernel
set_option maxRecDepth 20000 in
theorem ggX11_count_Jx4a65c_size_8abf5 : GoodIn wsX11_count wsJx4a65c_size_8abf5 := goodIn_r _ [12, 13, 35, 36, 37] (by decide +kernel) (by decide +kernel)
set_option maxRecDepth 20000 in
theorem gX11_count_Jx4a65c_size_8abf5 : GoodIn wsX11_count (wsV RX11 243 RJx4a65c yJx4a65c_size_8abf5 wsJx4a65c_size_8abf5) := goodIn_app (goodIn_of _ (by decide +kernel)) ggX11_count_Jx4a65c_size_8abf5
theorem dX11_count_84 : decode cX11_count 84 = .ok (.invokevirtual 243, 3) := by decide +kernel
theorem dX11_count_87 : decode cX11_count 87 = .ok (.ireturn, 1) := by decide +kernel
theorem dX11_count_88 : decode cX11_count 88 = .ok (.iconst (-1), 1) := by decide +kernel
theorem dX11_count_89 : decode cX11_count 89 = .ok (.ireturn, 1) := by decide +kernel
theorem dJx4a65c_clear_da8c8_0 : decode cJx4a65c_clear_da8c8 0 = .ok (.aload_n 0, 1) := by decide +kernel
theorem dJx4a65c_clear_da8c8_1 : decode cJx4a65c_clear_da8c8 1 = .ok (.dup, 1) := by decide +kernel
theorem dJx4a65c_clear_da8c8_2 : decode cJx4a65c_clear_da8c8 2 = .ok (.getfield 63, 3) := by decide +kernel
theorem dJx4a65c_clear_da8c8_5 : decode cJx4a65c_clear_da8c8 5 = .ok (.iconst 1, 1) := by decide +kernel
theorem dJx4a65c_clear_da8c8_6 : decode cJx4a65c_clear_da8c8 6 = .ok (.iadd, 1) := by decide +kernel
theorem dJx4a65c_clear_da8c8_7 : decode cJx4a65c_clear_da8c8 7 = .ok (.putfield 63, 3) := by decide +kernel
theorem dJx4a65c_clear_da8c8_10 : decode cJx4a65c_clear_da8c8 10 = .ok (.aload_n 0, 1) := by decide +kernel
theorem dJx4a65c_clear_da8c8_11 : decode cJx4a65c_clear_da8c8 11 = .ok (.getfield 9, 3) := by decide +kernel
theorem dJx4a65c_clear_da8c8_14 : decode cJx4a65c_clear_da8c8 14 = .ok (.astore_n 1, 1) := by decide +kernel
theorem dJx4a65c_clear_da8c8_15 : decode cJx4a65c_clear_da8c8 15 = .ok (.aload_n 0, 1) := by decide +kernel
theorem dJx4a65c_clear_da8c8_16 : decode cJx4a65c_clear_da8c8 16 = .ok (.getfield 48, 3) := by decide +kernel
theorem dJx4a65c_clear_da8c8_19 : decode cJx4a65c_clear_da8c8 19 = .ok (.istore_n 2, 1) := by decide +kernel
theorem dJx4a65c_clear_da8c8_20 : decode cJx4a65c_clear_da8c8 20 = .ok (.aload_n 0, 1) := by decide +kernel
theorem dJx4a65c_clear_da8c8_21 : decode cJx4a65c_clear_da8c8 21 = .ok (.iconst 0, 1) := by decide +kernel
theorem dJx4a65c_clear_da8c8_22 : decode cJx4a65c_clear_da8c8 22 = .ok (.dup_x1, 1) := by decide +kernel
theorem dJx4a65c_clear_da8c8_23 : decode cJx4a65c_clear_da8c8 23 = .ok (.putfield 48, 3) := by decide +kernel
theorem dJx4a65c_clear_da8c8_26 : decode cJx4a65c_clear_da8c8 26 = .ok (.istore_n 3, 1) := by decide +kernel
theorem dJx4a65c_clear_da8c8_27 : decode cJx4a65c_clear_da8c8 27 = .ok (.iload_n 3, 1) := by decide +kernel
theorem dJx4a65c_clear_da8c8_28 : decode cJx4a65c_clear_da8c8 28 = .ok (.iload_n 2, 1) := by decide +kernel
theorem dJx4a65c_clear_da8c8_29 : decode cJx4a65c_clear_da8c8 29 = .ok (.if_icmp .ge 13, 3) := by decide +kernel
theorem dJx4a65c_clear_da8c8_42 : decode cJx4a65c_clear_da8c8 42 = .ok (.return_, 1) := by decide +kernel
theorem dX11_act_0 : decode cX11_act 0 = .ok (.aload_n 0, 1) := by decide +kernel
theorem dX11_act_1 : decode cX11_act 1 = .ok (.getfield 49, 3) := by decide +kernel
set_option maxRecDepth 20000 in
theorem ggX11_act_Jx4a65c_clear_da8c8 : GoodIn wsX11_act wsJx4a65c_clear_da8c8 := goodIn_r _ [7, 8, 9, 10, 11, 180, 181, 182] (by decide +kernel) (by decide +kernel)
set_option maxRecDepth 20000 in
theorem gX11_act_Jx4a65c_clear_da8c8 : GoodIn wsX11_act (wsV RX11 230 RJx4a65c yJx4a65c_clear_da8c8 wsJx4a65c_clear_da8c8) := goodIn_app (goodIn_of _ (by decide +kernel)) ggX11_act_Jx4a65c_clear_da8c8
theorem dX11_act_4 : decode cX11_act 4 = .ok (.invokevirtual 230, 3) := by decide +kernel
theorem dX11_act_7 : decode cX11_act 7 = .ok (.aload_n 0, 1) := by decide +kernel
theorem dX11_act_8 : decode cX11_act 8 = .ok (.getfield 14, 3) := by decide +kernel
theorem dX11_act_11 : decode cX11_act 11 = .ok (.iload_n 1, 1) := by decide +kernel
set_option maxRecDepth 20000 in
theorem ggX11_act_X8_heapAt : GoodIn wsX11_act wsX8_heapAt := goodIn_r _ [16, 17, 18, 183, 184, 185, 186, 187, 188, 189, 190, 191, 192, 193, 194, 195, 196] (by decide +kernel) (by decide +kernel)
set_option maxRecDepth 20000 in
theorem gX11_act_X8_heapAt : GoodIn wsX11_act (wsV RX11 112 RX8 yX8_heapAt wsX8_heapAt) := goodIn_app (goodIn_of _ (by decide +kernel)) ggX11_act_X8_heapAt
theorem dX11_act_12 : decode cX11_act 12 = .ok (.invokevirtual 112, 3) := by decide +kernel
theorem dX11_act_15 : decode cX11_act 15 = .ok (.astore 4, 2) := by decide +kernel
theorem dX11_act_17 : decode cX11_act 17 = .ok (.aload 4, 2) := by decide +kernel
theorem dX11_act_19 : decode cX11_act 19 = .ok (.ifnonnull 5, 3) := by decide +kernel
theorem dX11_act_22 : decode cX11_act 22 = .ok (.iconst 0, 1) := by decide +kernel
theorem dX11_act_23 : decode cX11_act 23 = .ok (.ireturn, 1) := by decide +kernel
theorem dX11_book_0 : decode cX11_book 0 = .ok (.iload_n 1, 1) := by decide +kernel
theorem dX11_book_1 : decode cX11_book 1 = .ok (.iconst (-1), 1) := by decide +kernel
theorem dX11_book_2 : decode cX11_book 2 = .ok (.if_icmp .ne 13, 3) := by decide +kernel
theorem dX11_book_15 : decode cX11_book 15 = .ok (.aload_n 0, 1) := by decide +kernel
theorem dX11_book_16 : decode cX11_book 16 = .ok (.getfield 14, 3) := by decide +kernel
theorem dX11_book_19 : decode cX11_book 19 = .ok (.iload_n 1, 1) := by decide +kernel
set_option maxRecDepth 20000 in
theorem ggX11_book_X8_heapAt : GoodIn wsX11_book wsX8_heapAt := goodIn_r _ [8, 9, 10, 18, 19, 20, 21, 22, 23, 24, 25, 26, 27, 28, 29, 30, 31] (by decide +kernel) (by decide +kernel)
set_option maxRecDepth 20000 in
theorem gX11_book_X8_heapAt : GoodIn wsX11_book (wsV RX11 112 RX8 yX8_heapAt wsX8_heapAt) := goodIn_app (goodIn_of _ (by decide +kernel)) ggX11_book_X8_heapAt
theorem dX11_book_20 : decode cX11_book 20 = .ok (.invokevirtual 112, 3) := by decide +kernel
theorem dX11_book_23 : decode cX11_book 23 = .ok (.ifnonnull 5, 3) := by decide +kernel
theorem dX11_book_26 : decode cX11_book 26 = .ok (.iconst (-1), 1) := by decide +kernel
theorem dX11_book_27 : decode cX11_book 27 = .ok (.ireturn, 1) := by decide +kernel
theorem dX11_book_5 : decode cX11_book 5 = .ok (.aload_n 0, 1) := by decide +kernel
theorem dX11_book_6 : decode cX11_book 6 = .ok (.getfield 14, 3) := by decide +kernel
theorem dX11_book_9 : decode cX11_book 9 = .ok (.iconst 0, 1) := by decide +kernel
theorem dX11_book_10 : decode cX11_book 10 = .ok (.putfield 221, 3) := by decide +kernel
theorem dX11_book_13 : decode cX11_book 13 = .ok (.iconst 0, 1) := by decide +kernel
theorem dX11_book_14 : decode cX11_book 14 = .ok (.ireturn, 1) := by decide +kernel
theorem dX11_walk_0 : decode cX11_walk 0 = .ok (.iload_n 1, 1) := by decide +kernel
theorem dX11_walk_1 : decode cX11_walk 1 = .ok (.iconst (-1), 1) := by decide +kernel
theorem dX11_walk_2 : decode cX11_walk 2 = .ok (.if_icmp .ne 13, 3) := by decide +kernel
theorem dX11_walk_15 : decode cX11_walk 15 = .ok (.iload_n 1, 1) := by decide +kernel
theorem dX11_walk_16 : decode cX11_walk 16 = .ok (.ifCond .lt 9, 3) := by decide +kernel
theorem dX11_walk_25 : decode cX11_walk 25 = .ok (.iconst (-1), 1) := by decide +kernel
theorem dX11_walk_26 : decode cX11_walk 26 = .ok (.ireturn, 1) := by decide +kernel
theorem dX11_walk_19 : decode cX11_walk 19 = .ok (.iload_n 1, 1) := by decide +kernel
theorem dX11_walk_20 : decode cX11_walk 20 = .ok (.bipush 8, 2) := by decide +kernel
theorem dX11_walk_22 : decode cX11_walk 22 = .ok (.if_icmp .lt 5, 3) := by decide +kernel
theorem dX11_walk_27 : decode cX11_walk 27 = .ok (.aload_n 0, 1) := by decide +kernel
theorem dX11_walk_28 : decode cX11_walk 28 = .ok (.getfield 14, 3) := by decide +kernel
theorem dX11_walk_31 : decode cX11_walk 31 = .ok (.getfield 169, 3) := by decide +kernel
theorem dX11_walk_34 : decode cX11_walk 34 = .ok (.bipush 6, 2) := by decide +kernel
theorem dX11_walk_36 : decode cX11_walk 36 = .ok (.if_icmp .lt 6, 3) := by decide +kernel
theorem dX11_walk_42 : decode cX11_walk 42 = .ok (.aload_n 0, 1) := by decide +kernel
theorem dX11_walk_43 : decode cX11_walk 43 = .ok (.getfield 14, 3) := by decide +kernel
theorem dX11_walk_46 : decode cX11_walk 46 = .ok (.getfield 172, 3) := by decide +kernel
theorem dX11_walk_49 : decode cX11_walk 49 = .ok (.aload_n 0, 1) := by decide +kernel
theorem dX11_walk_50 : decode cX11_walk 50 = .ok (.getfield 14, 3) := by decide +kernel
theorem dX11_walk_53 : decode cX11_walk 53 = .ok (.getfield 169, 3) := by decide +kernel
theorem dX11_walk_56 : decode cX11_walk 56 = .ok (.iload_n 1, 1) := by decide +kernel
theorem dX11_walk_57 : decode cX11_walk 57 = .ok (.iastore, 1) := by decide +kernel
theorem dX11_walk_58 : decode cX11_walk 58 = .ok (.aload_n 0, 1) := by decide +kernel
theorem dX11_walk_59 : decode cX11_walk 59 = .ok (.getfield 14, 3) := by decide +kernel
theorem dX11_walk_62 : decode cX11_walk 62 = .ok (.dup, 1) := by decide +kernel
theorem dX11_walk_63 : decode cX11_walk 63 = .ok (.getfield 169, 3) := by decide +kernel
theorem dX11_walk_66 : decode cX11_walk 66 = .ok (.iconst 1, 1) := by decide +kernel
theorem dX11_walk_67 : decode cX11_walk 67 = .ok (.iadd, 1) := by decide +kernel
theorem dX11_walk_68 : decode cX11_walk 68 = .ok (.putfield 169, 3) := by decide +kernel
theorem dX11_walk_71 : decode cX11_walk 71 = .ok (.aload_n 0, 1) := by decide +kernel
theorem dX11_walk_72 : decode cX11_walk 72 = .ok (.getfield 14, 3) := by decide +kernel
theorem dX11_walk_75 : decode cX11_walk 75 = .ok (.getfield 169, 3) := by decide +kernel
theorem dX11_walk_78 : decode cX11_walk 78 = .ok (.ireturn, 1) := by decide +kernel
theorem dX11_walk_5 : decode cX11_walk 5 = .ok (.aload_n 0, 1) := by decide +kernel
theorem dX11_walk_6 : decode cX11_walk 6 = .ok (.getfield 14, 3) := by decide +kernel
theorem dX11_walk_9 : decode cX11_walk 9 = .ok (.iconst 0, 1) := by decide +kernel
theorem dX11_walk_10 : decode cX11_walk 10 = .ok (.putfield 169, 3) := by decide +kernel
theorem dX11_walk_13 : decode cX11_walk 13 = .ok (.iconst 0, 1) := by decide +kernel
theorem dX11_walk_14 : decode cX11_walk 14 = .ok (.ireturn, 1) := by decide +kernel
theorem dX2_measure_0 : decode cX2_measure 0 = .ok (.iconst 0, 1) := by decide +kernel
theorem dX2_measure_1 : decode cX2_measure 1 = .ok (.istore_n 3, 1) := by decide +kernel
theorem dX2_measure_2 : decode cX2_measure 2 = .ok (.iload_n 3, 1) := by decide +kernel
theorem dX2_measure_3 : decode cX2_measure 3 = .ok (.aload_n 1, 1) := by decide +kernel
theorem dX2_measure_4 : decode cX2_measure 4 = .ok (.getfield 27, 3) := by decide +kernel
theorem dX2_measure_7 : decode cX2_measure 7 = .ok (.if_icmp .ge 26, 3) := by decide +kernel
theorem dX2_measure_33 : decode cX2_measure 33 = .ok (.return_, 1) := by decide +kernel
theorem dX2_seenFrom_0 : decode cX2_seenFrom 0 = .ok (.iconst 0, 1) := by decide +kernel
theorem dX2_seenFrom_1 : decode cX2_seenFrom 1 = .ok (.istore_n 3, 1) := by decide +kernel
theorem dX2_seenFrom_2 : decode cX2_seenFrom 2 = .ok (.iconst 0, 1) := by decide +kernel
theorem dX2_seenFrom_3 : decode cX2_seenFrom 3 = .ok (.istore 4, 2) := by decide +kernel
theorem dX2_seenFrom_5 : decode cX2_seenFrom 5 = .ok (.iload 4, 2) := by decide +kernel
theorem dX2_seenFrom_7 : decode cX2_seenFrom 7 = .ok (.aload_n 1, 1) := by decide +kernel
theorem dX2_seenFrom_8 : decode cX2_seenFrom 8 = .ok (.getfield 27, 3) := by decide +kernel
theorem dX2_seenFrom_11 : decode cX2_seenFrom 11 = .ok (.if_icmp .ge 40, 3) := by decide +kernel
theorem dX2_seenFrom_51 : decode cX2_seenFrom 51 = .ok (.iload_n 3, 1) := by decide +kernel
theorem dX2_seenFrom_52 : decode cX2_seenFrom 52 = .ok (.ireturn, 1) := by decide +kernel
theorem dX11_sees_0 : decode cX11_sees 0 = .ok (.iload_n 1, 1) := by decide +kernel
set_option maxRecDepth 20000 in
theorem ggX11_sees_X11_isCell : GoodIn wsX11_sees wsX11_isCell := goodIn_r _ [7] (by decide +kernel) (by decide +kernel)
set_option maxRecDepth 20000 in
theorem gX11_sees_X11_isCell : GoodIn wsX11_sees (va_wsS RX11 94 yX11_isCell wsX11_isCell) := goodIn_app (goodIn_of _ (by decide +kernel)) ggX11_sees_X11_isCell
theorem dX11_sees_1 : decode cX11_sees 1 = .ok (.invokestatic 94, 3) := by decide +kernel
theorem dX11_sees_4 : decode cX11_sees 4 = .ok (.ifCond .ne 5, 3) := by decide +kernel
theorem dX11_sees_9 : decode cX11_sees 9 = .ok (.aload_n 0, 1) := by decide +kernel
theorem dX11_sees_10 : decode cX11_sees 10 = .ok (.getfield 35, 3) := by decide +kernel
theorem dX11_sees_13 : decode cX11_sees 13 = .ok (.aload_n 0, 1) := by decide +kernel
theorem dX11_sees_14 : decode cX11_sees 14 = .ok (.getfield 14, 3) := by decide +kernel
theorem dX11_sees_17 : decode cX11_sees 17 = .ok (.aload_n 0, 1) := by decide +kernel
theorem dX11_sees_18 : decode cX11_sees 18 = .ok (.getfield 14, 3) := by decide +kernel
theorem dX11_sees_21 : decode cX11_sees 21 = .ok (.getfield 88, 3) := by decide +kernel
set_option maxRecDepth 20000 in
theorem ggX11_sees_X2_measure : GoodIn wsX11_sees wsX2_measure := goodIn_r _ [12, 13, 14, 15, 16, 17, 18, 19, 20, 21, 22, 23, 24, 25, 26, 27, 28, 29, 30, 31, 32, 6, 33, 34, 35, 36, 37, 38, 39, 40, 41, 42, 43, 44, 45, 46, 47, 48, 49, 50, 51, 52, 53, 54, 55, 56, 57, 58, 59, 60, 61, 62, 63, 64, 65, 66, 67, 68, 69, 70, 71, 72, 73, 74, 75, 76, 77, 78, 79, 80, 81, 82, 83, 84, 85, 86, 87, 88, 89, 90, 91, 92, 93, 94, 95, 96, 117, 118, 119, 120, 121, 122, 123, 124, 125, 126, 127, 128, 129, 130, 131, 132, 133, 134, 135, 136, 137, 138, 139, 140, 141, 142, 143, 144, 145, 146, 147, 148, 149, 150, 151, 152, 153, 154, 155, 156, 157, 158, 159, 160, 161, 162, 163, 164, 165, 166, 167, 168, 169, 170, 171, 172, 173] (by decide +kernel) (by decide +kernel)
set_option maxRecDepth 20000 in
theorem gX11_sees_X2_measure : GoodIn wsX11_sees (wsV RX11 131 RX2 yX2_measure wsX2_measure) := goodIn_app (goodIn_of _ (by decide +kernel)) ggX11_sees_X2_measure
theorem dX11_sees_24 : decode cX11_sees 24 = .ok (.invokevirtual 131, 3) := by decide +kernel
theorem dX11_sees_27 : decode cX11_sees 27 = .ok (.aload_n 0, 1) := by decide +kernel
theorem dX11_sees_28 : decode cX11_sees 28 = .ok (.getfield 35, 3) := by decide +kernel
theorem dX11_sees_31 : decode cX11_sees 31 = .ok (.aload_n 0, 1) := by decide +kernel
theorem dX11_sees_32 : decode cX11_sees 32 = .ok (.getfield 14, 3) := by decide +kernel
theorem dX11_sees_35 : decode cX11_sees 35 = .ok (.iload_n 1, 1) := by decide +kernel
set_option maxRecDepth 20000 in
theorem ggX11_sees_X2_seenFrom : GoodIn wsX11_sees wsX2_seenFrom := goodIn_r _ [100, 13, 15, 101, 14, 102, 6, 103, 104, 105, 61, 106, 107, 60, 62, 108, 32, 33, 109, 34, 35, 117, 118, 119, 120, 121, 122, 123, 124, 125, 126, 127, 128, 129, 130, 135, 136, 137, 138, 139, 140, 141, 142, 143, 144, 145, 146, 147, 148, 149, 150, 151, 152, 153, 154, 155, 156, 157, 158, 159, 160, 161, 162, 131, 132, 133, 134] (by decide +kernel) (by decide +kernel)
set_option maxRecDepth 20000 in
theorem gX11_sees_X2_seenFrom : GoodIn wsX11_sees (wsV RX11 135 RX2 yX2_seenFrom wsX2_seenFrom) := goodIn_app (goodIn_of _ (by decide +kernel)) ggX11_sees_X2_seenFrom
theorem dX11_sees_36 : decode cX11_sees 36 = .ok (.invokevirtual 135, 3) := by decide +kernel
theorem dX11_sees_39 : decode cX11_sees 39 = .ok (.ireturn, 1) := by decide +kernel
theorem dX11_sees_7 : decode cX11_sees 7 = .ok (.iconst (-1), 1) := by decide +kernel
theorem dX11_sees_8 : decode cX11_sees 8 = .ok (.ireturn, 1) := by decide +kernel
theorem dX11_where_0 : decode cX11_where 0 = .ok (.iload_n 1, 1) := by decide +kernel
theorem dX11_where_1 : decode cX11_where 1 = .ok (.ifCond .lt 16, 3) := by decide +kernel
theorem dX11_where_17 : decode cX11_where 17 = .ok (.ldc2_w 139, 3) := by decide +kernel
theorem dX11_where_20 : decode cX11_where 20 = .ok (.lreturn, 1) := by decide +kernel
theorem dX11_where_4 : decode cX11_where 4 = .ok (.iload_n 1, 1) := by decide +kernel
theorem dX11_where_5 : decode cX11_where 5 = .ok (.iconst 1, 1) := by decide +kernel
theorem dX11_where_6 : decode cX11_where 6 = .ok (.aload_n 0, 1) := by decide +kernel
theorem dX11_where_7 : decode cX11_where 7 = .ok (.getfield 14, 3) := by decide +kernel
theorem dX11_where_10 : decode cX11_where 10 = .ok (.getfield 101, 3) := by decide +kernel
theorem dX11_where_13 : decode cX11_where 13 = .ok (.ishl, 1) := by decide +kernel
theorem dX11_where_14 : decode cX11_where 14 = .ok (.if_icmp .lt 7, 3) := by decide +kernel
theorem dX11_where_21 : decode cX11_where 21 = .ok (.aload_n 0, 1) := by decide +kernel
theorem dX11_where_22 : decode cX11_where 22 = .ok (.getfield 35, 3) := by decide +kernel
theorem dX11_where_25 : decode cX11_where 25 = .ok (.aload_n 0, 1) := by decide +kernel
theorem dX11_where_26 : decode cX11_where 26 = .ok (.getfield 14, 3) := by decide +kernel
theorem dX11_where_29 : decode cX11_where 29 = .ok (.aload_n 0, 1) := by decide +kernel
theorem dX11_where_30 : decode cX11_where 30 = .ok (.getfield 14, 3) := by decide +kernel
theorem dX11_where_33 : decode cX11_where 33 = .ok (.getfield 88, 3) := by decide +kernel
set_option maxRecDepth 20000 in
theorem ggX11_where_X2_measure : GoodIn wsX11_where wsX2_measure := goodIn_r _ [10, 11, 12, 13, 14, 15, 16, 17, 18, 19, 20, 21, 22, 23, 24, 25, 26, 27, 28, 29, 30, 31, 32, 33, 34, 35, 36, 37, 38, 39, 40, 41, 42, 43, 44, 45, 46, 47, 48, 49, 50, 51, 52, 53, 54, 55, 56, 57, 58, 59, 60, 61, 62, 63, 64, 65, 66, 67, 68, 69, 70, 71, 72, 73, 74, 75, 76, 77, 78, 79, 80, 81, 82, 83, 84, 85, 86, 87, 88, 89, 90, 91, 92, 93, 94, 95, 116, 117, 118, 119, 120, 121, 122, 123, 124, 125, 126, 127, 128, 129, 130, 131, 132, 133, 134, 135, 136, 137, 138, 139, 140, 141, 142, 143, 144, 145, 146, 147, 148, 149, 150, 151, 152, 153, 154, 155, 156, 157, 158, 159, 160, 161, 162, 163, 164, 165, 166, 167, 168, 169, 170, 171, 172] (by decide +kernel) (by decide +kernel)
set_option maxRecDepth 20000 in
theorem gX11_where_X2_measure : GoodIn wsX11_where (wsV RX11 131 RX2 yX2_measure wsX2_measure) := goodIn_app (goodIn_of _ (by decide +kernel)) ggX11_where_X2_measure
theorem dX11_where_36 : decode cX11_where 36 = .ok (.invokevirtual 131, 3) := by decide +kernel
theorem dX11_where_39 : decode cX11_where 39 = .ok (.lconst 0, 1) := by decide +kernel
theorem dX11_where_40 : decode cX11_where 40 = .ok (.lstore_n 2, 1) := by decide +kernel
theorem dX11_where_41 : decode cX11_where 41 = .ok (.iconst 0, 1) := by decide +kernel
theorem dX11_where_42 : decode cX11_where 42 = .ok (.istore 4, 2) := by decide +kernel
theorem dX11_where_44 : decode cX11_where 44 = .ok (.iload 4, 2) := by decide +kernel
theorem dX11_where_46 : decode cX11_where 46 = .ok (.bipush 36, 2) := by decide +kernel
theorem dX11_where_48 : decode cX11_where 48 = .ok (.if_icmp .ge 33, 3) := by decide +kernel
theorem dX11_where_81 : decode cX11_where 81 = .ok (.lload_n 2, 1) := by decide +kernel
theorem dX11_where_82 : decode cX11_where 82 = .ok (.lreturn, 1) := by decide +kernel
theorem dX11_where_51 : decode cX11_where 51 = .ok (.aload_n 0, 1) := by decide +kernel
theorem dX11_where_52 : decode cX11_where 52 = .ok (.getfield 35, 3) := by decide +kernel
theorem dX11_where_55 : decode cX11_where 55 = .ok (.aload_n 0, 1) := by decide +kernel
theorem dX11_where_56 : decode cX11_where 56 = .ok (.getfield 14, 3) := by decide +kernel
theorem dX11_where_59 : decode cX11_where 59 = .ok (.iload 4, 2) := by decide +kernel
set_option maxRecDepth 20000 in
theorem ggX11_where_X2_seenFrom : GoodIn wsX11_where wsX2_seenFrom := goodIn_r _ [99, 11, 13, 100, 12, 101, 31, 102, 103, 104, 60, 105, 106, 59, 61, 107, 30, 32, 108, 33, 34, 116, 117, 118, 119, 120, 121, 122, 123, 124, 125, 126, 127, 128, 129, 134, 135, 136, 137, 138, 139, 140, 141, 142, 143, 144, 145, 146, 147, 148, 149, 150, 151, 152, 153, 154, 155, 156, 157, 158, 159, 160, 161, 130, 131, 132, 133] (by decide +kernel) (by decide +kernel)
set_option maxRecDepth 20000 in
theorem gX11_where_X2_seenFrom : GoodIn wsX11_where (wsV RX11 135 RX2 yX2_seenFrom wsX2_seenFrom) := goodIn_app (goodIn_of _ (by decide +kernel)) ggX11_where_X2_seenFrom
theorem dX11_where_61 : decode cX11_where 61 = .ok (.invokevirtual 135, 3) := by decide +kernel
theorem dX11_where_64 : decode cX11_where 64 = .ok (.iload_n 1, 1) := by decide +kernel
theorem dX11_where_65 : decode cX11_where 65 = .ok (.if_icmp .ne 10, 3) := by decide +kernel
theorem dX11_where_68 : decode cX11_where 68 = .ok (.lload_n 2, 1) := by decide +kernel
theorem dX11_where_69 : decode cX11_where 69 = .ok (.lconst 1, 1) := by decide +kernel
theorem dX11_where_70 : decode cX11_where 70 = .ok (.iload 4, 2) := by decide +kernel
theorem dX11_where_72 : decode cX11_where 72 = .ok (.lshl, 1) := by decide +kernel
theorem dX11_where_73 : decode cX11_where 73 = .ok (.lor, 1) := by decide +kernel
theorem dX11_where_74 : decode cX11_where 74 = .ok (.lstore_n 2, 1) := by decide +kernel
theorem dX11_where_75 : decode cX11_where 75 = .ok (.iinc 4 1, 3) := by decide +kernel
theorem dX11_where_78 : decode cX11_where 78 = .ok (.goto (-34), 3) := by decide +kernel
theorem dX2_link_0 : decode cX2_link 0 = .ok (.aload_n 0, 1) := by decide +kernel
theorem dX2_link_1 : decode cX2_link 1 = .ok (.aload_n 1, 1) := by decide +kernel
theorem dX2_link_2 : decode cX2_link 2 = .ok (.iload_n 2, 1) := by decide +kernel
set_option maxRecDepth 20000 in
theorem ggX2_link_X2_measure : GoodIn wsX2_link wsX2_measure := goodIn_r _ [9, 1, 10, 4, 11, 12, 13, 14, 15, 16, 17, 18, 19, 20, 21, 22, 23, 24, 25, 26, 27, 28, 29, 30, 31, 32, 33, 34, 35, 36, 37, 38, 39, 40, 41, 42, 43, 44, 45, 46, 47, 48, 49, 50, 51, 52, 53, 54, 55, 56, 57, 58, 59, 60, 61, 62, 63, 64, 65, 66, 67, 68, 69, 70, 71, 72, 73, 74, 75, 76, 77, 78, 79, 80, 81, 82, 83, 84, 85, 86, 87, 88, 89, 90, 91, 92, 133, 134, 135, 136, 137, 138, 139, 140, 141, 142, 143, 144, 145, 146, 147, 148, 149, 150, 151, 152, 153, 154, 155, 156, 157, 158, 159, 160, 161, 162, 163, 164, 165, 166, 167, 168, 169, 170, 171, 172, 173, 174, 175, 176, 177, 178, 179, 180, 181, 182, 183, 184, 185, 186, 187, 188, 189] (by decide +kernel) (by decide +kernel)
set_option maxRecDepth 20000 in
theorem gX2_link_X2_measure : GoodIn wsX2_link (wsV RX2 48 RX2 yX2_measure wsX2_measure) := goodIn_app (goodIn_of _ (by decide +kernel)) ggX2_link_X2_measure
theorem dX2_link_3 : decode cX2_link 3 = .ok (.invokevirtual 48, 3) := by decide +kernel
theorem dX2_link_6 : decode cX2_link 6 = .ok (.aload_n 0, 1) := by decide +kernel
theorem dX2_link_7 : decode cX2_link 7 = .ok (.aload_n 1, 1) := by decide +kernel
theorem dX2_link_8 : decode cX2_link 8 = .ok (.getfield 27, 3) := by decide +kernel
theorem dX2_link_11 : decode cX2_link 11 = .ok (.putfield 52, 3) := by decide +kernel
theorem dX2_link_14 : decode cX2_link 14 = .ok (.iconst 0, 1) := by decide +kernel
theorem dX2_link_15 : decode cX2_link 15 = .ok (.istore_n 3, 1) := by decide +kernel
theorem dX2_link_16 : decode cX2_link 16 = .ok (.iload_n 3, 1) := by decide +kernel
theorem dX2_link_17 : decode cX2_link 17 = .ok (.aload_n 0, 1) := by decide +kernel
theorem dX2_link_18 : decode cX2_link 18 = .ok (.getfield 52, 3) := by decide +kernel
theorem dX2_link_21 : decode cX2_link 21 = .ok (.if_icmp .ge 51, 3) := by decide +kernel
theorem dX2_link_72 : decode cX2_link 72 = .ok (.return_, 1) := by decide +kernel
theorem dX11_looked_0 : decode cX11_looked 0 = .ok (.aload_n 0, 1) := by decide +kernel
theorem dX11_looked_1 : decode cX11_looked 1 = .ok (.getfield 35, 3) := by decide +kernel
theorem dX11_looked_4 : decode cX11_looked 4 = .ok (.aload_n 0, 1) := by decide +kernel
theorem dX11_looked_5 : decode cX11_looked 5 = .ok (.getfield 14, 3) := by decide +kernel
theorem dX11_looked_8 : decode cX11_looked 8 = .ok (.aload_n 0, 1) := by decide +kernel
theorem dX11_looked_9 : decode cX11_looked 9 = .ok (.getfield 14, 3) := by decide +kernel
theorem dX11_looked_12 : decode cX11_looked 12 = .ok (.getfield 88, 3) := by decide +kernel
set_option maxRecDepth 20000 in
theorem ggX11_looked_X2_link : GoodIn wsX11_looked wsX2_link := goodIn_r _ [10, 11, 12, 13, 14, 15, 16, 17, 9, 18, 19, 20, 21, 22, 23, 24, 25, 26, 27, 28, 29, 30, 31, 32, 33, 34, 35, 36, 37, 38, 39, 40, 41, 42, 43, 44, 45, 46, 47, 48, 49, 50, 51, 52, 53, 54, 55, 56, 57, 58, 59, 60, 61, 62, 63, 64, 65, 66, 67, 68, 69, 70, 71, 72, 73, 74, 75, 76, 77, 78, 79, 80, 81, 82, 83, 84, 85, 86, 87, 88, 89, 90, 91, 92, 93, 94, 95, 96, 97, 98, 99, 100, 101, 102, 103, 104, 105, 106, 107, 108, 109, 110, 111, 112, 113, 114, 115, 116, 117, 118, 119, 120, 121, 122, 123, 124, 125, 126, 127, 128, 129, 130, 131, 132, 133, 134, 135, 136, 137, 138, 139, 140, 141, 153, 154, 155, 156, 157, 158, 159, 160, 161, 162, 163, 164, 165, 166, 167, 168, 169, 170, 171, 172, 173, 174, 175, 176, 177, 178, 179, 180, 181, 182, 183, 184, 185, 186, 187, 188, 189, 190, 191, 192, 193, 194, 195, 196, 197, 198, 199, 200, 201, 202, 203, 204, 205, 206, 207, 208, 209] (by decide +kernel) (by decide +kernel)
set_option maxRecDepth 20000 in
theorem gX11_looked_X2_link : GoodIn wsX11_looked (wsV RX11 145 RX2 yX2_link wsX2_link) := goodIn_app (goodIn_of _ (by decide +kernel)) ggX11_looked_X2_link
theorem dX11_looked_15 : decode cX11_looked 15 = .ok (.invokevirtual 145, 3) := by decide +kernel
theorem dX11_looked_18 : decode cX11_looked 18 = .ok (.iconst 1, 1) := by decide +kernel
theorem dX11_looked_19 : decode cX11_looked 19 = .ok (.istore_n 1, 1) := by decide +kernel
theorem dX11_looked_20 : decode cX11_looked 20 = .ok (.iload_n 1, 1) := by decide +kernel
theorem dX11_looked_21 : decode cX11_looked 21 = .ok (.aload_n 0, 1) := by decide +kernel
theorem dX11_looked_22 : decode cX11_looked 22 = .ok (.getfield 14, 3) := by decide +kernel
theorem dX11_looked_25 : decode cX11_looked 25 = .ok (.getfield 221, 3) := by decide +kernel
theorem dX11_looked_28 : decode cX11_looked 28 = .ok (.if_icmp .ge 49, 3) := by decide +kernel
theorem dX11_looked_77 : decode cX11_looked 77 = .ok (.bipush (-5), 2) := by decide +kernel
theorem dX11_looked_79 : decode cX11_looked 79 = .ok (.ireturn, 1) := by decide +kernel
theorem le_lt {a b c : Int32} (h : a.toInt = b.toInt + 1) : a ≤ c ↔ b < c := by rw [i_le, i_lt]; omega
theorem lt_nlt {a b c : Int32} (h : a.toInt = b.toInt + 1) : c < a ↔ ¬ b < c := by rw [i_lt, i_lt]; omega
theorem told_01 {a : Int32} (h1 : ¬ a < 0) (h2 : a ≤ 1) : f_told a = 0 := by
  obtain ⟨j, hj, rfl⟩ := nI_of2 (M := 1) (n := 1) rfl h1 h2
  have : j = 0 ∨ j = 1 := by omega
  rcases this with rfl | rfl <;> decide
theorem lt1_0 {a : Int32} (h1 : ¬ a < 0) (h2 : a < 1) : a = 0 := by
  rw [i_lt] at h1 h2
  have e1 : (0 : Int32).toInt = 0 := rfl
  have e2 : (1 : Int32).toInt = 1 := rfl
  exact Int32.toInt_inj.mp (by omega)
theorem sw_fall {a : Int32} (h : a ≤ 1) (h1 : ¬ a < 0) (h2 : ¬ a = 0) : a = 1 := by
  obtain ⟨j, hj, rfl⟩ := nI_of2 (M := 1) (n := 1) rfl h1 h
  have : j = 0 ∨ j = 1 := by omega
  rcases this with rfl | rfl
  · exact absurd rfl h2
  · rfl

theorem cr_bits (W U M : BitVec 64) : ((W &&& U) &&& (U &&& (M ^^^ BitVec.allOnes 64))) = 0#64 ↔ (W &&& U) &&& M = W &&& U := by
  constructor
  · intro h
    apply BitVec.eq_of_getLsbD_eq
    intro i hi
    have e := congrArg (fun x => BitVec.getLsbD x i) h
    simp only [BitVec.getLsbD_and, BitVec.getLsbD_xor, BitVec.getLsbD_allOnes, BitVec.getLsbD_zero, hi, decide_true] at e ⊢
    revert e
    cases W.getLsbD i <;> cases U.getLsbD i <;> cases M.getLsbD i <;> decide
  · intro h
    apply BitVec.eq_of_getLsbD_eq
    intro i hi
    have e := congrArg (fun x => BitVec.getLsbD x i) h
    simp only [BitVec.getLsbD_and, BitVec.getLsbD_xor, BitVec.getLsbD_allOnes, BitVec.getLsbD_zero, hi, decide_true] at e ⊢
    revert e
    cases W.getLsbD i <;> cases U.getLsbD i <;> cases M.getLsbD i <;> decide
theorem cr_mask (w U m : Int64) (n : Nat) (hm : m.toBitVec.toNat = 2 ^ n - 1) : ((w &&& U) &&& (U &&& (m ^^^ (-1)))) = 0 ↔ (w &&& U).toBitVec.toNat < 2 ^ n := by
  have e0 : (-1 : Int64).toBitVec = BitVec.allOnes 64 := by decide
  have z0 : (0 : Int64).toBitVec = 0#64 := by decide
  rw [← Int64.toBitVec_inj, z0, Int64.toBitVec_and, Int64.toBitVec_and, Int64.toBitVec_and, Int64.toBitVec_xor, e0, cr_bits]
  generalize w.toBitVec &&& U.toBitVec = T
  rw [← BitVec.toNat_inj, BitVec.toNat_and, hm, Nat.and_two_pow_sub_one_eq_mod]
  constructor
  · intro h
    have t := Nat.mod_lt T.toNat (Nat.two_pow_pos n)
    rw [h] at t
    exact t
  · exact Nat.mod_eq_of_lt

theorem ed_mask (x : Int64) : (x &&& (-68719476736)) = 0 ↔ (¬ x < 0 ∧ x >>> ((36 : Int32).toInt64 &&& 63) = 0) := by
  have e0 : (-1 : Int64).toBitVec = BitVec.allOnes 64 := by decide
  have ea : x &&& (-1) = x := Int64.toBitVec_inj.mp (by rw [Int64.toBitVec_and, e0, BitVec.and_allOnes])
  have e1 : (x &&& (-68719476736)) = 0 ↔ x.toBitVec.toNat < 2 ^ 36 := by
    have h := cr_mask x (-1) 68719476735 36 (by decide)
    rw [show (-1 : Int64) &&& (68719476735 ^^^ (-1)) = -68719476736 by decide, ea] at h
    exact h
  have e2 : x < 0 ↔ x.toInt < 0 := Int64.lt_iff_toInt_lt
  have e3 : x >>> ((36 : Int32).toInt64 &&& 63) = 0 ↔ x.toInt / 2 ^ 36 = 0 := by
    rw [← Int64.toInt_inj]
    have : (x >>> ((36 : Int32).toInt64 &&& 63)).toInt = x.toInt >>> 36 := by
      show (x.toBitVec.sshiftRight (((36 : Int32).toInt64 &&& 63).toBitVec.smod 64).toNat).toInt = _
      rw [show (((36 : Int32).toInt64 &&& 63).toBitVec.smod 64).toNat = 36 by decide, BitVec.toInt_sshiftRight]
      rfl
    rw [this, Int.shiftRight_eq_div_pow]
    exact Iff.rfl
  have e4 : x.toInt = if 2 * x.toBitVec.toNat < 2 ^ 64 then (x.toBitVec.toNat : Int) else (x.toBitVec.toNat : Int) - ((2 ^ 64 : Nat) : Int) := BitVec.toInt_eq_toNat_cond x.toBitVec
  have e5 : x.toBitVec.toNat < 2 ^ 64 := x.toBitVec.isLt
  rw [e1, e2, e3]
  split at e4 <;> omega

set_option maxHeartbeats 4000000 in
set_option maxRecDepth 100000 in
theorem c_xCell (l : Launch) (dC : Nat → ClassId) (dI : Nat → Nat → Nat) (c0 : Int32) : Met l yX11_isCell wsX11_isCell ({ frames := 0, cells := 0, slots := 0, locals := 0 } : Room) (va_Pc [.int c0] (fun U => True)) (vp_Si (fun r => (r = 1 ∧ ¬ c0 < 0 ∧ ¬ 35 < c0) ∨ (r = 0 ∧ (c0 < 0 ∨ 35 < c0)))) 0 0 (fun _ => False) := by
  refine met_ofQ (cc := cX11_isCell) (maxL := 1) (ret := (some .boolean)) (by decide) rfl ?_
  intro p e s m args below meth c s₁ Q B hml hv hQ
  obtain ⟨rfl, -⟩ := hv
  have hx := B.exec
  have hb := B.bytes
  have hr := B.returns
  have hts := atoms_spec (ws := wsX11_isCell) B.pre
  have hown : s.vm.findClass RX11 = some m.cls := findClass_of_methodNamed B.named
  have hlocks := B.notSynchronized
  obtain ⟨A, hAe⟩ : ∃ A : Nat → Prop, A = fun _ => False := ⟨_, rfl⟩
  rw [← hAe] at hQ
  have hS : va_S A s.heap s.heap [] := va_S.rf
  have hl := lv_entry [.int c0] (n := 1) (Nat.le_of_ble_eq_true rfl)
  rw [lg_entry_eq]
  generalize (lg_sl [.int c0] ++ List.replicate (1 - (lg_sl [.int c0]).length) Slot.unset).toArray = ls at hl ⊢
  generalize hag : ([.int c0] : List Value).toArray = args at hts hQ ⊢
  have hl : lv_has ls 1 [(0, .int c0)] := hl
  refine lv_iload_n hx hb dX11_isCell_0 rfl (lv_at hl 0 rfl) ?_
  refine lv_if_lt (tgt := 14) hx hb dX11_isCell_1 (by decide) (fun c_1 => ?_) (fun c_1 => ?_)
  · skip
    refine lv_iconst (v := 0) hx hb dX11_isCell_14 (by decide) ?_
    rw [hQ]
    exact W.zret (v := 0) hx hb hr rfl (fun t ht hW => ⟨0, rfl, by simp_all, by rw [ht]⟩) (fun q hq => absurd hq List.not_mem_nil) dX11_isCell_15
  · skip
    refine lv_iload_n hx hb dX11_isCell_4 rfl (lv_at hl 0 rfl) ?_
    refine lv_bipush (v := 36) hx hb dX11_isCell_5 (by decide) ?_
    refine lv_icmp_ge (tgt := 14) hx hb dX11_isCell_7 (by decide) (fun c_2 => ?_) (fun c_2 => ?_)
    · skip
      rw [le_lt (b := 35) rfl] at c_2
      refine lv_iconst (v := 0) hx hb dX11_isCell_14 (by decide) ?_
      rw [hQ]
      exact W.zret (v := 0) hx hb hr rfl (fun t ht hW => ⟨0, rfl, by simp_all, by rw [ht]⟩) (fun q hq => absurd hq List.not_mem_nil) dX11_isCell_15
    · skip
      rw [le_lt (b := 35) rfl] at c_2
      refine lv_iconst (v := 1) hx hb dX11_isCell_10 (by decide) ?_
      refine lv_goto (tgt := 15) hx hb dX11_isCell_11 (by decide) ?_
      rw [hQ]
      exact W.zret (v := 1) hx hb hr rfl (fun t ht hW => ⟨1, rfl, by simp_all, by rw [ht]⟩) (fun q hq => absurd hq List.not_mem_nil) dX11_isCell_15

theorem kc_xFeed_0 : ∀ w ∈ wsX110, w ∈ wsX11_feed := by decide +kernel
theorem kc_xFeed_1 : (.fieldLink RX11 14 "MistHeaps" "scene" "LMistHeaps$Scene;" : Cond) ∈ wsX11_feed := by decide +kernel
theorem kc_xFeed_2 : ∀ w ∈ wsX80, w ∈ wsX11_feed := by decide +kernel
theorem kc_xFeed_3 : (.fieldLink RX11 53 "MistHeaps$Scene" "tapeSize" "I" : Cond) ∈ wsX11_feed := by decide +kernel
theorem kc_xFeed_4 : (.fieldLink RX11 57 "MistHeaps$Scene" "tape" "[I" : Cond) ∈ wsX11_feed := by decide +kernel
set_option maxHeartbeats 4000000 in
set_option maxRecDepth 100000 in
theorem c_xFeed (l : Launch) (dC : Nat → ClassId) (dI : Nat → Nat → Nat) (h0 sc kp bl go ch bo aTp aHl aHs aWk aBk aFc : Nat) (cT : ClassId) (fT : Nat → Int32) (x : Int32) (sz : Nat) : Met l yX11_feed wsX11_feed ({ frames := 0, cells := 0, slots := 0, locals := 0 } : Room) (va_Pc [.ref h0, .int x] (fun U => U.heap.size = sz ∧ va_P (dC, dI) vwCl [(h0, .inr (13, [.ref sc, .ref kp, .int 0, .ref bl, .ref go, .ref ch, .ref bo])), (sc, .inr (10, [.ref aTp, .int 0, .ref aHl, .int 0, .long 0, .int 0, .int 0, .ref aHs, .int 0, .ref aWk, .int 0, .ref aBk, .int 0, .ref aFc])), (aTp, .inl (cT, 100, .inl fT))] U.heap ∧ va_K (dC, dI) vwCl [(cT, .int)] U ∧ va_D (fun _ => True) [(h0, .inr (13, [.ref sc, .ref kp, .int 0, .ref bl, .ref go, .ref ch, .ref bo])), (sc, .inr (10, [.ref aTp, .int 0, .ref aHl, .int 0, .long 0, .int 0, .int 0, .ref aHs, .int 0, .ref aWk, .int 0, .ref aBk, .int 0, .ref aFc])), (aTp, .inl (cT, 100, .inl fT))])) (va_Qi (fun (r : Int32) (u : Unit) => match u with | () => r = f_feed x) (fun (u : Unit) (t : State) => match u with | () => True) (va_A [(h0, .inr (13, [.ref sc, .ref kp, .int 0, .ref bl, .ref go, .ref ch, .ref bo])), (sc, .inr (10, [.ref aTp, .int 0, .ref aHl, .int 0, .long 0, .int 0, .int 0, .ref aHs, .int 0, .ref aWk, .int 0, .ref aBk, .int 0, .ref aFc])), (aTp, .inl (cT, 100, .inl fT))] sz)) 0 0 (va_A [(h0, .inr (13, [.ref sc, .ref kp, .int 0, .ref bl, .ref go, .ref ch, .ref bo])), (sc, .inr (10, [.ref aTp, .int 0, .ref aHl, .int 0, .long 0, .int 0, .int 0, .ref aHs, .int 0, .ref aWk, .int 0, .ref aBk, .int 0, .ref aFc])), (aTp, .inl (cT, 100, .inl fT))] sz) := by
  refine met_ofQ (cc := cX11_feed) (maxL := 2) (ret := (some .int)) (by decide) rfl ?_
  intro p e s m args below meth c s₁ Q B hml hv hQ
  obtain ⟨rfl, hsz, hP, hK, hD0⟩ := hv
  have hx := B.exec
  have hb := B.bytes
  have hr := B.returns
  have hts := atoms_spec (ws := wsX11_feed) B.pre
  have hown : s.vm.findClass RX11 = some m.cls := findClass_of_methodNamed B.named
  have hlocks := B.notSynchronized
  subst hsz
  have hD := hD0.self (sz := s.heap.size)
  generalize hAe : va_A [(h0, .inr (13, [.ref sc, .ref kp, .int 0, .ref bl, .ref go, .ref ch, .ref bo])), (sc, .inr (10, [.ref aTp, .int 0, .ref aHl, .int 0, .long 0, .int 0, .int 0, .ref aHs, .int 0, .ref aWk, .int 0, .ref aBk, .int 0, .ref aFc])), (aTp, .inl (cT, 100, .inl fT))] s.heap.size = A at hD hQ ⊢
  have hA : ∀ q : Nat, s.heap.size ≤ q → A q := fun q h => by rw [← hAe]; exact Or.inr h
  have hS : va_S A s.heap s.heap [] := va_S.rf
  have hl := lv_entry [.ref h0, .int x] (n := 2) (Nat.le_of_ble_eq_true rfl)
  rw [lg_entry_eq]
  generalize (lg_sl [.ref h0, .int x] ++ List.replicate (2 - (lg_sl [.ref h0, .int x]).length) Slot.unset).toArray = ls at hl ⊢
  generalize hag : ([.ref h0, .int x] : List Value).toArray = args at hts hQ ⊢
  have hl : lv_has ls 2 [(0, .ref h0), (1, .int x)] := hl
  obtain ⟨H, hH⟩ : ∃ H : Heap, H = s.heap := ⟨_, rfl⟩
  rw [← hH] at hP
  rw [← hH]
  have hS : va_S A s.heap H [] := by rw [hH]; exact hS
  obtain ⟨locs, hlo⟩ : ∃ L : List Loc, L = [] := ⟨_, rfl⟩
  rw [← hlo] at hS
  rw [← hlo]
  clear hH hlo
  refine lv_iload_n hx hb dX11_feed_0 rfl (lv_at hl 1 rfl) ?_
  refine lv_if_lt (tgt := 10) hx hb dX11_feed_1 (by decide) (fun c_1 => ?_) (fun c_1 => ?_)
  · skip
    refine lv_bipush (v := (-2)) hx hb dX11_feed_10 (by decide) ?_
    rw [hQ]
    exact W.iret (v := (-2)) hx hb hr (fun t ht hW => ⟨⟨(-2), (), rfl, by simp only [f_feed]; (repeat' split) <;> first | (simp_all; done) | (simp only [← Int32.not_lt] at *; simp_all), trivial⟩, hS.F ht⟩) hS.2.2 dX11_feed_12
  · skip
    refine lv_iload_n hx hb dX11_feed_4 rfl (lv_at hl 1 rfl) ?_
    refine lv_bipush (v := 127) hx hb dX11_feed_5 (by decide) ?_
    refine lv_icmp_le (tgt := 13) hx hb dX11_feed_7 (by decide) (fun c_2 => ?_) (fun c_2 => ?_)
    · skip
      refine lv_aload_n hx hb dX11_feed_13 rfl (lv_at hl 0 rfl) ?_
      refine va_get (D := (dC, dI)) (ci := 13) (v := .ref sc) (C := RX11) (T := TX11) (N := 7) hx hb hts kc_xFeed_0 hown hK hP 0 rfl rfl 0 (by decide) (hts (.fieldLink RX11 14 "MistHeaps" "scene" "LMistHeaps$Scene;") kc_xFeed_1) (fun _ h9 => h9) rfl dX11_feed_14 ?_
      refine va_get (D := (dC, dI)) (ci := 10) (v := .int 0) (C := RX8) (T := TX8) (N := 14) hx hb hts kc_xFeed_2 hown hK hP 1 rfl rfl 1 (by decide) (hts (.fieldLink RX11 53 "MistHeaps$Scene" "tapeSize" "I") kc_xFeed_3) (fun _ h9 => h9) rfl dX11_feed_17 ?_
      refine lv_bipush (v := 100) hx hb dX11_feed_20 (by decide) ?_
      refine lv_icmp_lt (tgt := 28) hx hb dX11_feed_22 (by decide) (fun _ => ?_) (fun c_3 => absurd c_3 (by decide))
      refine lv_aload_n hx hb dX11_feed_28 rfl (lv_at hl 0 rfl) ?_
      refine va_get (D := (dC, dI)) (ci := 13) (v := .ref sc) (C := RX11) (T := TX11) (N := 7) hx hb hts kc_xFeed_0 hown hK hP 0 rfl rfl 0 (by decide) (hts (.fieldLink RX11 14 "MistHeaps" "scene" "LMistHeaps$Scene;") kc_xFeed_1) (fun _ h9 => h9) rfl dX11_feed_29 ?_
      refine va_get (D := (dC, dI)) (ci := 10) (v := .ref aTp) (C := RX8) (T := TX8) (N := 14) hx hb hts kc_xFeed_2 hown hK hP 1 rfl rfl 0 (by decide) (hts (.fieldLink RX11 57 "MistHeaps$Scene" "tape" "[I") kc_xFeed_4) (fun _ h9 => h9) rfl dX11_feed_32 ?_
      refine lv_aload_n hx hb dX11_feed_35 rfl (lv_at hl 0 rfl) ?_
      refine va_get (D := (dC, dI)) (ci := 13) (v := .ref sc) (C := RX11) (T := TX11) (N := 7) hx hb hts kc_xFeed_0 hown hK hP 0 rfl rfl 0 (by decide) (hts (.fieldLink RX11 14 "MistHeaps" "scene" "LMistHeaps$Scene;") kc_xFeed_1) (fun _ h9 => h9) rfl dX11_feed_36 ?_
      refine va_get (D := (dC, dI)) (ci := 10) (v := .int 0) (C := RX8) (T := TX8) (N := 14) hx hb hts kc_xFeed_2 hown hK hP 1 rfl rfl 1 (by decide) (hts (.fieldLink RX11 53 "MistHeaps$Scene" "tapeSize" "I") kc_xFeed_3) (fun _ h9 => h9) rfl dX11_feed_39 ?_
      refine lv_iload_n hx hb dX11_feed_42 rfl (lv_at hl 1 rfl) ?_
      refine va_iast hx hb hK hP hD hS 2 0 rfl rfl (vp_in_nI (n := 0) (N := 100) (by omega) (by omega)) dX11_feed_43 (fun H locs hP hD hS => ?_)
      have hP : va_P (dC, dI) vwCl [(h0, .inr (13, [.ref sc, .ref kp, .int 0, .ref bl, .ref go, .ref ch, .ref bo])), (sc, .inr (10, [.ref aTp, .int 0, .ref aHl, .int 0, .long 0, .int 0, .int 0, .ref aHs, .int 0, .ref aWk, .int 0, .ref aBk, .int 0, .ref aFc])), (aTp, .inl (cT, 100, .inl (upd fT 0 x)))] H := hP
      have hD : va_D A [(h0, .inr (13, [.ref sc, .ref kp, .int 0, .ref bl, .ref go, .ref ch, .ref bo])), (sc, .inr (10, [.ref aTp, .int 0, .ref aHl, .int 0, .long 0, .int 0, .int 0, .ref aHs, .int 0, .ref aWk, .int 0, .ref aBk, .int 0, .ref aFc])), (aTp, .inl (cT, 100, .inl (upd fT 0 x)))] := hD
      refine lv_aload_n hx hb dX11_feed_44 rfl (lv_at hl 0 rfl) ?_
      refine va_get (D := (dC, dI)) (ci := 13) (v := .ref sc) (C := RX11) (T := TX11) (N := 7) hx hb hts kc_xFeed_0 hown hK hP 0 rfl rfl 0 (by decide) (hts (.fieldLink RX11 14 "MistHeaps" "scene" "LMistHeaps$Scene;") kc_xFeed_1) (fun _ h9 => h9) rfl dX11_feed_45 ?_
      refine lv_dup hx hb dX11_feed_48 rfl ?_
      refine va_get (D := (dC, dI)) (ci := 10) (v := .int 0) (C := RX8) (T := TX8) (N := 14) hx hb hts kc_xFeed_2 hown hK hP 1 rfl rfl 1 (by decide) (hts (.fieldLink RX11 53 "MistHeaps$Scene" "tapeSize" "I") kc_xFeed_3) (fun _ h9 => h9) rfl dX11_feed_49 ?_
      refine lv_iconst (v := 1) hx hb dX11_feed_52 (by decide) ?_
      refine lv_iadd hx hb dX11_feed_53 ?_
      refine qi_as (y := 1) (by decide) ?_
      refine va_put (D := (dC, dI)) (ci := 10) (v := .int 1) (ty := .int) (C := RX8) (T := TX8) (N := 14) hx hb hts kc_xFeed_2 tyX8 tyX8_ok nmX8 hown hK hP hD hS 1 rfl rfl 1 (by decide) (hts (.fieldLink RX11 53 "MistHeaps$Scene" "tapeSize" "I") kc_xFeed_3) (fun _ h9 => h9) rfl (by decide +kernel) rfl rfl (Nat.le_of_ble_eq_true rfl) dX11_feed_54 (fun H locs hP hD hS => ?_)
      have hP : va_P (dC, dI) vwCl [(h0, .inr (13, [.ref sc, .ref kp, .int 0, .ref bl, .ref go, .ref ch, .ref bo])), (sc, .inr (10, [.ref aTp, .int 1, .ref aHl, .int 0, .long 0, .int 0, .int 0, .ref aHs, .int 0, .ref aWk, .int 0, .ref aBk, .int 0, .ref aFc])), (aTp, .inl (cT, 100, .inl (upd fT 0 x)))] H := hP
      have hD : va_D A [(h0, .inr (13, [.ref sc, .ref kp, .int 0, .ref bl, .ref go, .ref ch, .ref bo])), (sc, .inr (10, [.ref aTp, .int 1, .ref aHl, .int 0, .long 0, .int 0, .int 0, .ref aHs, .int 0, .ref aWk, .int 0, .ref aBk, .int 0, .ref aFc])), (aTp, .inl (cT, 100, .inl (upd fT 0 x)))] := hD
      refine lv_aload_n hx hb dX11_feed_57 rfl (lv_at hl 0 rfl) ?_
      refine va_get (D := (dC, dI)) (ci := 13) (v := .ref sc) (C := RX11) (T := TX11) (N := 7) hx hb hts kc_xFeed_0 hown hK hP 0 rfl rfl 0 (by decide) (hts (.fieldLink RX11 14 "MistHeaps" "scene" "LMistHeaps$Scene;") kc_xFeed_1) (fun _ h9 => h9) rfl dX11_feed_58 ?_
      refine va_get (D := (dC, dI)) (ci := 10) (v := .int 1) (C := RX8) (T := TX8) (N := 14) hx hb hts kc_xFeed_2 hown hK hP 1 rfl rfl 1 (by decide) (hts (.fieldLink RX11 53 "MistHeaps$Scene" "tapeSize" "I") kc_xFeed_3) (fun _ h9 => h9) rfl dX11_feed_61 ?_
      rw [hQ]
      exact W.iret (v := 1) hx hb hr (fun t ht hW => ⟨⟨1, (), rfl, by simp only [f_feed]; (repeat' split) <;> first | (simp_all; done) | (simp only [← Int32.not_lt] at *; simp_all), trivial⟩, hS.F ht⟩) hS.2.2 dX11_feed_64
    · skip
      refine lv_bipush (v := (-2)) hx hb dX11_feed_10 (by decide) ?_
      rw [hQ]
      exact W.iret (v := (-2)) hx hb hr (fun t ht hW => ⟨⟨(-2), (), rfl, by simp only [f_feed]; (repeat' split) <;> first | (simp_all; done) | (simp only [← Int32.not_lt] at *; simp_all), trivial⟩, hS.F ht⟩) hS.2.2 dX11_feed_12

theorem kc_bit0_0 : (.constantLong RJ13 314 (6148914691236517205) : Cond) ∈ wsJ13_bitCount_95d88 := by decide +kernel
theorem kc_bit0_1 : (.constantLong RJ13 316 (3689348814741910323) : Cond) ∈ wsJ13_bitCount_95d88 := by decide +kernel
theorem kc_bit0_2 : (.constantLong RJ13 318 (1085102592571150095) : Cond) ∈ wsJ13_bitCount_95d88 := by decide +kernel
set_option maxHeartbeats 4000000 in
set_option maxRecDepth 100000 in
theorem c_bit0 (l : Launch) (dC : Nat → ClassId) (dI : Nat → Nat → Nat) : Met l yJ13_bitCount_95d88 wsJ13_bitCount_95d88 ({ frames := 0, cells := 0, slots := 0, locals := 0 } : Room) (va_Pc [.long 0] (fun U => True)) (vp_Si (fun r => r = 0)) 0 0 (fun _ => False) := by
  refine met_ofQ (cc := cJ13_bitCount_95d88) (maxL := 2) (ret := (some .int)) (by decide) rfl ?_
  intro p e s m args below meth c s₁ Q B hml hv hQ
  obtain ⟨rfl, -⟩ := hv
  have hx := B.exec
  have hb := B.bytes
  have hr := B.returns
  have hts := atoms_spec (ws := wsJ13_bitCount_95d88) B.pre
  have hown : s.vm.findClass RJ13 = some m.cls := findClass_of_methodNamed B.named
  have hlocks := B.notSynchronized
  obtain ⟨A, hAe⟩ : ∃ A : Nat → Prop, A = fun _ => False := ⟨_, rfl⟩
  rw [← hAe] at hQ
  have hS : va_S A s.heap s.heap [] := va_S.rf
  have hl := lv_entry [.long 0] (n := 2) (Nat.le_of_ble_eq_true rfl)
  rw [lg_entry_eq]
  generalize (lg_sl [.long 0] ++ List.replicate (2 - (lg_sl [.long 0]).length) Slot.unset).toArray = ls at hl ⊢
  generalize hag : ([.long 0] : List Value).toArray = args at hts hQ ⊢
  have hl : lv_has ls 2 [(0, .long 0)] := hl
  refine lv_lload_n hx hb dJ13_bitCount_95d88_0 rfl (lv_at hl 0 rfl) ?_
  refine lv_lload_n hx hb dJ13_bitCount_95d88_1 rfl (lv_at hl 0 rfl) ?_
  refine lv_iconst (v := 1) hx hb dJ13_bitCount_95d88_2 (by decide) ?_
  refine lv_lushr (v := 0) hx hb dJ13_bitCount_95d88_3 (by decide) ?_
  refine lv_ldc2 (v := 6148914691236517205) hx hb hown (hts (.constantLong RJ13 314 (6148914691236517205)) kc_bit0_0) dJ13_bitCount_95d88_4 ?_
  refine lv_land hx hb dJ13_bitCount_95d88_7 ?_
  refine ql_as (y := 0) (by decide) ?_
  refine lv_lsub hx hb dJ13_bitCount_95d88_8 ?_
  refine ql_as (y := 0) (by decide) ?_
  refine lv_lstore_n (lv' := [(0, .long 0)]) hx hb dJ13_bitCount_95d88_9 rfl hl (by decide) rfl (fun ls hl => ?_)
  refine lv_lload_n hx hb dJ13_bitCount_95d88_10 rfl (lv_at hl 0 rfl) ?_
  refine lv_ldc2 (v := 3689348814741910323) hx hb hown (hts (.constantLong RJ13 316 (3689348814741910323)) kc_bit0_1) dJ13_bitCount_95d88_11 ?_
  refine lv_land hx hb dJ13_bitCount_95d88_14 ?_
  refine ql_as (y := 0) (by decide) ?_
  refine lv_lload_n hx hb dJ13_bitCount_95d88_15 rfl (lv_at hl 0 rfl) ?_
  refine lv_iconst (v := 2) hx hb dJ13_bitCount_95d88_16 (by decide) ?_
  refine lv_lushr (v := 0) hx hb dJ13_bitCount_95d88_17 (by decide) ?_
  refine lv_ldc2 (v := 3689348814741910323) hx hb hown (hts (.constantLong RJ13 316 (3689348814741910323)) kc_bit0_1) dJ13_bitCount_95d88_18 ?_
  refine lv_land hx hb dJ13_bitCount_95d88_21 ?_
  refine ql_as (y := 0) (by decide) ?_
  refine lv_ladd hx hb dJ13_bitCount_95d88_22 ?_
  refine ql_as (y := 0) (by decide) ?_
  refine lv_lstore_n (lv' := [(0, .long 0)]) hx hb dJ13_bitCount_95d88_23 rfl hl (by decide) rfl (fun ls hl => ?_)
  refine lv_lload_n hx hb dJ13_bitCount_95d88_24 rfl (lv_at hl 0 rfl) ?_
  refine lv_lload_n hx hb dJ13_bitCount_95d88_25 rfl (lv_at hl 0 rfl) ?_
  refine lv_iconst (v := 4) hx hb dJ13_bitCount_95d88_26 (by decide) ?_
  refine lv_lushr (v := 0) hx hb dJ13_bitCount_95d88_27 (by decide) ?_
  refine lv_ladd hx hb dJ13_bitCount_95d88_28 ?_
  refine ql_as (y := 0) (by decide) ?_
  refine lv_ldc2 (v := 1085102592571150095) hx hb hown (hts (.constantLong RJ13 318 (1085102592571150095)) kc_bit0_2) dJ13_bitCount_95d88_29 ?_
  refine lv_land hx hb dJ13_bitCount_95d88_32 ?_
  refine ql_as (y := 0) (by decide) ?_
  refine lv_lstore_n (lv' := [(0, .long 0)]) hx hb dJ13_bitCount_95d88_33 rfl hl (by decide) rfl (fun ls hl => ?_)
  refine lv_lload_n hx hb dJ13_bitCount_95d88_34 rfl (lv_at hl 0 rfl) ?_
  refine lv_lload_n hx hb dJ13_bitCount_95d88_35 rfl (lv_at hl 0 rfl) ?_
  refine lv_bipush (v := 8) hx hb dJ13_bitCount_95d88_36 (by decide) ?_
  refine lv_lushr (v := 0) hx hb dJ13_bitCount_95d88_38 (by decide) ?_
  refine lv_ladd hx hb dJ13_bitCount_95d88_39 ?_
  refine ql_as (y := 0) (by decide) ?_
  refine lv_lstore_n (lv' := [(0, .long 0)]) hx hb dJ13_bitCount_95d88_40 rfl hl (by decide) rfl (fun ls hl => ?_)
  refine lv_lload_n hx hb dJ13_bitCount_95d88_41 rfl (lv_at hl 0 rfl) ?_
  refine lv_lload_n hx hb dJ13_bitCount_95d88_42 rfl (lv_at hl 0 rfl) ?_
  refine lv_bipush (v := 16) hx hb dJ13_bitCount_95d88_43 (by decide) ?_
  refine lv_lushr (v := 0) hx hb dJ13_bitCount_95d88_45 (by decide) ?_
  refine lv_ladd hx hb dJ13_bitCount_95d88_46 ?_
  refine ql_as (y := 0) (by decide) ?_
  refine lv_lstore_n (lv' := [(0, .long 0)]) hx hb dJ13_bitCount_95d88_47 rfl hl (by decide) rfl (fun ls hl => ?_)
  refine lv_lload_n hx hb dJ13_bitCount_95d88_48 rfl (lv_at hl 0 rfl) ?_
  refine lv_lload_n hx hb dJ13_bitCount_95d88_49 rfl (lv_at hl 0 rfl) ?_
  refine lv_bipush (v := 32) hx hb dJ13_bitCount_95d88_50 (by decide) ?_
  refine lv_lushr (v := 0) hx hb dJ13_bitCount_95d88_52 (by decide) ?_
  refine lv_ladd hx hb dJ13_bitCount_95d88_53 ?_
  refine ql_as (y := 0) (by decide) ?_
  refine lv_lstore_n (lv' := [(0, .long 0)]) hx hb dJ13_bitCount_95d88_54 rfl hl (by decide) rfl (fun ls hl => ?_)
  refine lv_lload_n hx hb dJ13_bitCount_95d88_55 rfl (lv_at hl 0 rfl) ?_
  refine lv_l2i (v := 0) hx hb dJ13_bitCount_95d88_56 (by decide) ?_
  refine lv_bipush (v := 127) hx hb dJ13_bitCount_95d88_57 (by decide) ?_
  refine lv_iand hx hb dJ13_bitCount_95d88_59 ?_
  refine qi_as (y := 0) (by decide) ?_
  rw [hQ]
  exact W.iret (v := 0) hx hb hr (fun t ht hW => ⟨0, rfl, rfl, by rw [ht]⟩) (fun q hq => absurd hq List.not_mem_nil) dJ13_bitCount_95d88_60

theorem kc_xEdges_0 : (.constantLong RX11 71 (-68719476736) : Cond) ∈ wsX11_edges := by decide +kernel
theorem kc_xEdges_1 : ∀ w ∈ wsX110, w ∈ wsX11_edges := by decide +kernel
theorem kc_xEdges_2 : (.fieldLink RX11 14 "MistHeaps" "scene" "LMistHeaps$Scene;" : Cond) ∈ wsX11_edges := by decide +kernel
theorem kc_xEdges_3 : ∀ w ∈ wsX80, w ∈ wsX11_edges := by decide +kernel
theorem kc_xEdges_4 : (.fieldLink RX11 73 "MistHeaps$Scene" "edges" "J" : Cond) ∈ wsX11_edges := by decide +kernel
set_option maxHeartbeats 4000000 in
set_option maxRecDepth 100000 in
theorem c_xEdges (l : Launch) (dC : Nat → ClassId) (dI : Nat → Nat → Nat) (h0 sc kp bl go ch bo aTp aHl aHs aWk aBk aFc : Nat) (x : Int64) (sz : Nat) : Met l yX11_edges wsX11_edges ({ frames := 1, cells := 0, slots := 0, locals := 21 } : Room) (va_Pc [.ref h0, .long x] (fun U => U.heap.size = sz ∧ va_P (dC, dI) vwCl [(h0, .inr (13, [.ref sc, .ref kp, .int 0, .ref bl, .ref go, .ref ch, .ref bo])), (sc, .inr (10, [.ref aTp, .int 0, .ref aHl, .int 0, .long 0, .int 0, .int 0, .ref aHs, .int 0, .ref aWk, .int 0, .ref aBk, .int 0, .ref aFc]))] U.heap ∧ va_K (dC, dI) vwCl [] U ∧ va_D (fun _ => True) [(h0, .inr (13, [.ref sc, .ref kp, .int 0, .ref bl, .ref go, .ref ch, .ref bo])), (sc, .inr (10, [.ref aTp, .int 0, .ref aHl, .int 0, .long 0, .int 0, .int 0, .ref aHs, .int 0, .ref aWk, .int 0, .ref aBk, .int 0, .ref aFc]))])) (va_Qi (fun (r : Int32) (u : Unit) => match u with | () => r = f_edges x) (fun (u : Unit) (t : State) => match u with | () => True) (va_A [(h0, .inr (13, [.ref sc, .ref kp, .int 0, .ref bl, .ref go, .ref ch, .ref bo])), (sc, .inr (10, [.ref aTp, .int 0, .ref aHl, .int 0, .long 0, .int 0, .int 0, .ref aHs, .int 0, .ref aWk, .int 0, .ref aBk, .int 0, .ref aFc]))] sz)) 0 0 (va_A [(h0, .inr (13, [.ref sc, .ref kp, .int 0, .ref bl, .ref go, .ref ch, .ref bo])), (sc, .inr (10, [.ref aTp, .int 0, .ref aHl, .int 0, .long 0, .int 0, .int 0, .ref aHs, .int 0, .ref aWk, .int 0, .ref aBk, .int 0, .ref aFc]))] sz) := by
  refine met_ofQ (cc := cX11_edges) (maxL := 4) (ret := (some .int)) (by decide) rfl ?_
  intro p e s m args below meth c s₁ Q B hml hv hQ
  obtain ⟨rfl, hsz, hP, hK, hD0⟩ := hv
  have hx := B.exec
  have hb := B.bytes
  have hr := B.returns
  have hts := atoms_spec (ws := wsX11_edges) B.pre
  have hown : s.vm.findClass RX11 = some m.cls := findClass_of_methodNamed B.named
  have hlocks := B.notSynchronized
  subst hsz
  have hD := hD0.self (sz := s.heap.size)
  generalize hAe : va_A [(h0, .inr (13, [.ref sc, .ref kp, .int 0, .ref bl, .ref go, .ref ch, .ref bo])), (sc, .inr (10, [.ref aTp, .int 0, .ref aHl, .int 0, .long 0, .int 0, .int 0, .ref aHs, .int 0, .ref aWk, .int 0, .ref aBk, .int 0, .ref aFc]))] s.heap.size = A at hD hQ ⊢
  have hA : ∀ q : Nat, s.heap.size ≤ q → A q := fun q h => by rw [← hAe]; exact Or.inr h
  have hS : va_S A s.heap s.heap [] := va_S.rf
  have hl := lv_entry [.ref h0, .long x] (n := 4) (Nat.le_of_ble_eq_true rfl)
  rw [lg_entry_eq]
  generalize (lg_sl [.ref h0, .long x] ++ List.replicate (4 - (lg_sl [.ref h0, .long x]).length) Slot.unset).toArray = ls at hl ⊢
  generalize hag : ([.ref h0, .long x] : List Value).toArray = args at hts hQ ⊢
  have hl : lv_has ls 4 [(0, .ref h0), (1, .long x)] := hl
  obtain ⟨H, hH⟩ : ∃ H : Heap, H = s.heap := ⟨_, rfl⟩
  rw [← hH] at hP
  rw [← hH]
  have hS : va_S A s.heap H [] := by rw [hH]; exact hS
  obtain ⟨locs, hlo⟩ : ∃ L : List Loc, L = [] := ⟨_, rfl⟩
  rw [← hlo] at hS
  rw [← hlo]
  clear hH hlo
  refine lv_lload_n hx hb dX11_edges_0 rfl (lv_at hl 1 rfl) ?_
  refine lv_ldc2 (v := (-68719476736)) hx hb hown (hts (.constantLong RX11 71 (-68719476736)) kc_xEdges_0) dX11_edges_1 ?_
  refine lv_land hx hb dX11_edges_4 ?_
  refine lv_lconst (v := 0) hx hb dX11_edges_5 (by decide) ?_
  refine W.lcmp hx hb dX11_edges_6 ?_
  refine lv_if_eq (tgt := 13) hx hb dX11_edges_7 (by decide) (fun c_1 => ?_) (fun c_1 => ?_)
  · skip
    rw [lg_cmp_eq, ed_mask] at c_1
    refine lv_aload_n hx hb dX11_edges_13 rfl (lv_at hl 0 rfl) ?_
    refine va_get (D := (dC, dI)) (ci := 13) (v := .ref sc) (C := RX11) (T := TX11) (N := 7) hx hb hts kc_xEdges_1 hown hK hP 0 rfl rfl 0 (by decide) (hts (.fieldLink RX11 14 "MistHeaps" "scene" "LMistHeaps$Scene;") kc_xEdges_2) (fun _ h9 => h9) rfl dX11_edges_14 ?_
    refine va_get (D := (dC, dI)) (ci := 10) (v := .long 0) (C := RX8) (T := TX8) (N := 14) hx hb hts kc_xEdges_3 hown hK hP 1 rfl rfl 4 (by decide) (hts (.fieldLink RX11 73 "MistHeaps$Scene" "edges" "J") kc_xEdges_4) (fun _ h9 => h9) rfl dX11_edges_17 ?_
    refine vp_callSi (va_runS (As := [.long 0]) (rest := []) ⟨hx, hb, hml, hown, hts⟩ (c_bit0 l dC dI) (va_cwS 1 hts gX11_edges_J13_bitCount_95d88 rfl rfl rfl (by decide +kernel) ⟨Nat.le_of_ble_eq_true rfl, Nat.le_of_ble_eq_true rfl⟩) ⟨fun a U g mk q => ⟨q.1, trivial⟩, fun U hU hW => ⟨rfl, trivial⟩⟩ rfl rfl hl.1 rfl (lv_room (Nat.le_of_ble_eq_true rfl)) dX11_edges_20 ⟨Nat.le_of_ble_eq_true rfl, Nat.le_of_ble_eq_true rfl⟩).run (fun r_2 hw_3 => ?_)
    refine qi_as (y := 0) (hw_3) ?_
    refine lv_istore_n (lv' := [(3, .int 0), (0, .ref h0), (1, .long x)]) hx hb dX11_edges_23 rfl hl (by decide) rfl (fun ls hl => ?_)
    refine lv_aload_n hx hb dX11_edges_24 rfl (lv_at hl 1 rfl) ?_
    refine va_get (D := (dC, dI)) (ci := 13) (v := .ref sc) (C := RX11) (T := TX11) (N := 7) hx hb hts kc_xEdges_1 hown hK hP 0 rfl rfl 0 (by decide) (hts (.fieldLink RX11 14 "MistHeaps" "scene" "LMistHeaps$Scene;") kc_xEdges_2) (fun _ h9 => h9) rfl dX11_edges_25 ?_
    refine lv_lload_n hx hb dX11_edges_28 rfl (lv_at hl 2 rfl) ?_
    refine va_put (D := (dC, dI)) (ci := 10) (v := .long x) (ty := .long) (C := RX8) (T := TX8) (N := 14) hx hb hts kc_xEdges_3 tyX8 tyX8_ok nmX8 hown hK hP hD hS 1 rfl rfl 4 (by decide) (hts (.fieldLink RX11 73 "MistHeaps$Scene" "edges" "J") kc_xEdges_4) (fun _ h9 => h9) rfl (by decide +kernel) rfl rfl (Nat.le_of_ble_eq_true rfl) dX11_edges_29 (fun H locs hP hD hS => ?_)
    have hP : va_P (dC, dI) vwCl [(h0, .inr (13, [.ref sc, .ref kp, .int 0, .ref bl, .ref go, .ref ch, .ref bo])), (sc, .inr (10, [.ref aTp, .int 0, .ref aHl, .int 0, .long x, .int 0, .int 0, .ref aHs, .int 0, .ref aWk, .int 0, .ref aBk, .int 0, .ref aFc]))] H := hP
    have hD : va_D A [(h0, .inr (13, [.ref sc, .ref kp, .int 0, .ref bl, .ref go, .ref ch, .ref bo])), (sc, .inr (10, [.ref aTp, .int 0, .ref aHl, .int 0, .long x, .int 0, .int 0, .ref aHs, .int 0, .ref aWk, .int 0, .ref aBk, .int 0, .ref aFc]))] := hD
    refine lv_iload_n hx hb dX11_edges_32 rfl (lv_at hl 0 rfl) ?_
    rw [hQ]
    exact W.iret (v := 0) hx hb hr (fun t ht hW => ⟨⟨0, (), rfl, by simp only [f_edges]; (repeat' split) <;> first | (simp_all; done) | (simp only [← Int32.not_lt] at *; simp_all), trivial⟩, hS.F ht⟩) hS.2.2 dX11_edges_33
  · skip
    rw [lg_cmp_eq, ed_mask] at c_1
    refine lv_bipush (v := (-2)) hx hb dX11_edges_10 (by decide) ?_
    rw [hQ]
    exact W.iret (v := (-2)) hx hb hr (fun t ht hW => ⟨⟨(-2), (), rfl, by simp only [f_edges]; (repeat' split) <;> first | (simp_all; done) | (simp only [← Int32.not_lt] at *; simp_all), trivial⟩, hS.F ht⟩) hS.2.2 dX11_edges_12

theorem kc_xTold_0 : ∀ w ∈ wsX110, w ∈ wsX11_told := by decide +kernel
theorem kc_xTold_1 : (.fieldLink RX11 14 "MistHeaps" "scene" "LMistHeaps$Scene;" : Cond) ∈ wsX11_told := by decide +kernel
theorem kc_xTold_2 : ∀ w ∈ wsX80, w ∈ wsX11_told := by decide +kernel
theorem kc_xTold_3 : (.fieldLink RX11 85 "MistHeaps$Scene" "mist" "I" : Cond) ∈ wsX11_told := by decide +kernel
theorem kc_xTold_4 : (.fieldLink RX11 88 "MistHeaps$Scene" "snow" "I" : Cond) ∈ wsX11_told := by decide +kernel
theorem kc_xTold_5 : (.fieldLink RX11 68 "MistHeaps$Scene" "hill" "LMistHeaps$Hill;" : Cond) ∈ wsX11_told := by decide +kernel
theorem kc_xTold_6 : ∀ w ∈ wsX50, w ∈ wsX11_told := by decide +kernel
theorem kc_xTold_7 : (.fieldLink RX11 91 "MistHeaps$Hill" "sight" "I" : Cond) ∈ wsX11_told := by decide +kernel
theorem kc_xTold_8 : (.fieldLink RX11 73 "MistHeaps$Scene" "edges" "J" : Cond) ∈ wsX11_told := by decide +kernel
set_option maxHeartbeats 4000000 in
set_option maxRecDepth 100000 in
theorem c_xTold (l : Launch) (dC : Nat → ClassId) (dI : Nat → Nat → Nat) (h0 sc kp bl go ch bo aTp aHl aHs aWk aBk aFc : Nat) (bW bA bE bC : Nat) (x : Int32) : Met l yX11_told wsX11_told ({ frames := 1, cells := 0, slots := 0, locals := 21 } : Room) (va_Pc [.ref h0, .int x] (fun U => va_P (dC, dI) vwCl [(h0, .inr (13, [.ref sc, .ref kp, .int 0, .ref bl, .ref go, .ref ch, .ref bo])), (sc, .inr (10, [.ref aTp, .int 0, .ref aHl, .int 0, .long 0, .int 0, .int 0, .ref aHs, .int 0, .ref aWk, .int 0, .ref aBk, .int 0, .ref aFc])), (aHl, .inr (7, [.int 3, .int 0, .ref bW, .ref bA, .ref bE, .ref bC, .int 0, .null, .int 0, .int 0, .int 0]))] U.heap ∧ va_K (dC, dI) vwCl [] U)) (vp_Si (fun r => r = f_told x)) 0 0 (fun _ => False) := by
  refine met_ofQ (cc := cX11_told) (maxL := 2) (ret := (some .int)) (by decide) rfl ?_
  intro p e s m args below meth c s₁ Q B hml hv hQ
  obtain ⟨rfl, hP, hK⟩ := hv
  have hx := B.exec
  have hb := B.bytes
  have hr := B.returns
  have hts := atoms_spec (ws := wsX11_told) B.pre
  have hown : s.vm.findClass RX11 = some m.cls := findClass_of_methodNamed B.named
  have hlocks := B.notSynchronized
  obtain ⟨A, hAe⟩ : ∃ A : Nat → Prop, A = fun _ => False := ⟨_, rfl⟩
  rw [← hAe] at hQ
  have hS : va_S A s.heap s.heap [] := va_S.rf
  have hl := lv_entry [.ref h0, .int x] (n := 2) (Nat.le_of_ble_eq_true rfl)
  rw [lg_entry_eq]
  generalize (lg_sl [.ref h0, .int x] ++ List.replicate (2 - (lg_sl [.ref h0, .int x]).length) Slot.unset).toArray = ls at hl ⊢
  generalize hag : ([.ref h0, .int x] : List Value).toArray = args at hts hQ ⊢
  have hl : lv_has ls 2 [(0, .ref h0), (1, .int x)] := hl
  refine lv_iload_n hx hb dX11_told_0 rfl (lv_at hl 1 rfl) ?_
  by_cases c_1_0 : x = 0
  · skip
    refine lv_tableIn (tgt := 32) hx hb dX11_told_1 (by rw [c_1_0]; decide) (by rw [c_1_0]; decide) (by rw [c_1_0]; rfl) (by decide) ?_
    refine lv_aload_n hx hb dX11_told_32 rfl (lv_at hl 0 rfl) ?_
    refine va_get (D := (dC, dI)) (ci := 13) (v := .ref sc) (C := RX11) (T := TX11) (N := 7) hx hb hts kc_xTold_0 hown hK hP 0 rfl rfl 0 (by decide) (hts (.fieldLink RX11 14 "MistHeaps" "scene" "LMistHeaps$Scene;") kc_xTold_1) (fun _ h9 => h9) rfl dX11_told_33 ?_
    refine va_get (D := (dC, dI)) (ci := 10) (v := .int 0) (C := RX8) (T := TX8) (N := 14) hx hb hts kc_xTold_2 hown hK hP 1 rfl rfl 5 (by decide) (hts (.fieldLink RX11 85 "MistHeaps$Scene" "mist" "I") kc_xTold_3) (fun _ h9 => h9) rfl dX11_told_36 ?_
    rw [hQ]
    exact W.iret (v := 0) hx hb hr (fun t ht hW => ⟨0, rfl, by simp only [f_told]; (repeat' split) <;> first | (simp_all; done) | (simp only [← Int32.not_lt] at *; simp_all), by rw [ht]⟩) (fun q hq => absurd hq List.not_mem_nil) dX11_told_39
  by_cases c_1_1 : x = 1
  · skip
    refine lv_tableIn (tgt := 40) hx hb dX11_told_1 (by rw [c_1_1]; decide) (by rw [c_1_1]; decide) (by rw [c_1_1]; rfl) (by decide) ?_
    refine lv_aload_n hx hb dX11_told_40 rfl (lv_at hl 0 rfl) ?_
    refine va_get (D := (dC, dI)) (ci := 13) (v := .ref sc) (C := RX11) (T := TX11) (N := 7) hx hb hts kc_xTold_0 hown hK hP 0 rfl rfl 0 (by decide) (hts (.fieldLink RX11 14 "MistHeaps" "scene" "LMistHeaps$Scene;") kc_xTold_1) (fun _ h9 => h9) rfl dX11_told_41 ?_
    refine va_get (D := (dC, dI)) (ci := 10) (v := .int 0) (C := RX8) (T := TX8) (N := 14) hx hb hts kc_xTold_2 hown hK hP 1 rfl rfl 6 (by decide) (hts (.fieldLink RX11 88 "MistHeaps$Scene" "snow" "I") kc_xTold_4) (fun _ h9 => h9) rfl dX11_told_44 ?_
    rw [hQ]
    exact W.iret (v := 0) hx hb hr (fun t ht hW => ⟨0, rfl, by simp only [f_told]; (repeat' split) <;> first | (simp_all; done) | (simp only [← Int32.not_lt] at *; simp_all), by rw [ht]⟩) (fun q hq => absurd hq List.not_mem_nil) dX11_told_47
  by_cases c_1_2 : x = 2
  · skip
    refine lv_tableIn (tgt := 48) hx hb dX11_told_1 (by rw [c_1_2]; decide) (by rw [c_1_2]; decide) (by rw [c_1_2]; rfl) (by decide) ?_
    refine lv_aload_n hx hb dX11_told_48 rfl (lv_at hl 0 rfl) ?_
    refine va_get (D := (dC, dI)) (ci := 13) (v := .ref sc) (C := RX11) (T := TX11) (N := 7) hx hb hts kc_xTold_0 hown hK hP 0 rfl rfl 0 (by decide) (hts (.fieldLink RX11 14 "MistHeaps" "scene" "LMistHeaps$Scene;") kc_xTold_1) (fun _ h9 => h9) rfl dX11_told_49 ?_
    refine va_get (D := (dC, dI)) (ci := 10) (v := .ref aHl) (C := RX8) (T := TX8) (N := 14) hx hb hts kc_xTold_2 hown hK hP 1 rfl rfl 2 (by decide) (hts (.fieldLink RX11 68 "MistHeaps$Scene" "hill" "LMistHeaps$Hill;") kc_xTold_5) (fun _ h9 => h9) rfl dX11_told_52 ?_
    refine va_get (D := (dC, dI)) (ci := 7) (v := .int 3) (C := RX5) (T := TX5) (N := 11) hx hb hts kc_xTold_6 hown hK hP 2 rfl rfl 0 (by decide) (hts (.fieldLink RX11 91 "MistHeaps$Hill" "sight" "I") kc_xTold_7) (fun _ h9 => h9) rfl dX11_told_55 ?_
    rw [hQ]
    exact W.iret (v := 3) hx hb hr (fun t ht hW => ⟨3, rfl, by simp only [f_told]; (repeat' split) <;> first | (simp_all; done) | (simp only [← Int32.not_lt] at *; simp_all), by rw [ht]⟩) (fun q hq => absurd hq List.not_mem_nil) dX11_told_58
  by_cases c_1_3 : x = 3
  · skip
    refine lv_tableIn (tgt := 59) hx hb dX11_told_1 (by rw [c_1_3]; decide) (by rw [c_1_3]; decide) (by rw [c_1_3]; rfl) (by decide) ?_
    refine lv_aload_n hx hb dX11_told_59 rfl (lv_at hl 0 rfl) ?_
    refine va_get (D := (dC, dI)) (ci := 13) (v := .ref sc) (C := RX11) (T := TX11) (N := 7) hx hb hts kc_xTold_0 hown hK hP 0 rfl rfl 0 (by decide) (hts (.fieldLink RX11 14 "MistHeaps" "scene" "LMistHeaps$Scene;") kc_xTold_1) (fun _ h9 => h9) rfl dX11_told_60 ?_
    refine va_get (D := (dC, dI)) (ci := 10) (v := .long 0) (C := RX8) (T := TX8) (N := 14) hx hb hts kc_xTold_2 hown hK hP 1 rfl rfl 4 (by decide) (hts (.fieldLink RX11 73 "MistHeaps$Scene" "edges" "J") kc_xTold_8) (fun _ h9 => h9) rfl dX11_told_63 ?_
    refine vp_callSi (va_runS (As := [.long 0]) (rest := []) ⟨hx, hb, hml, hown, hts⟩ (c_bit0 l dC dI) (va_cwS 1 hts gX11_told_J13_bitCount_95d88 rfl rfl rfl (by decide +kernel) ⟨Nat.le_of_ble_eq_true rfl, Nat.le_of_ble_eq_true rfl⟩) ⟨fun a U g mk q => ⟨q.1, trivial⟩, fun U hU hW => ⟨rfl, trivial⟩⟩ rfl rfl hl.1 rfl (lv_room (Nat.le_of_ble_eq_true rfl)) dX11_told_66 ⟨Nat.le_of_ble_eq_true rfl, Nat.le_of_ble_eq_true rfl⟩).run (fun r_2 hw_3 => ?_)
    refine qi_as (y := 0) (hw_3) ?_
    rw [hQ]
    exact W.iret (v := 0) hx hb hr (fun t ht hW => ⟨0, rfl, by simp only [f_told]; (repeat' split) <;> first | (simp_all; done) | (simp only [← Int32.not_lt] at *; simp_all), by rw [ht]⟩) (fun q hq => absurd hq List.not_mem_nil) dX11_told_69
  refine lv_tableOut (tgt := 70) hx hb dX11_told_1 (sw_out 0 3 x (fun k hk => by
    match k, hk with
    | 0, _ => exact c_1_0
    | 1, _ => exact c_1_1
    | 2, _ => exact c_1_2
    | 3, _ => exact c_1_3
    | k + 4, hk => exact absurd hk (by omega))) (by decide) ?_
  refine lv_iconst (v := (-1)) hx hb dX11_told_70 (by decide) ?_
  rw [hQ]
  exact W.iret (v := (-1)) hx hb hr (fun t ht hW => ⟨(-1), rfl, by simp only [f_told]; (repeat' split) <;> first | (simp_all; done) | (simp only [← Int32.not_lt] at *; simp_all), by rw [ht]⟩) (fun q hq => absurd hq List.not_mem_nil) dX11_told_71

theorem kc_xSet_0 : ∀ w ∈ wsX110, w ∈ wsX11_set := by decide +kernel
theorem kc_xSet_1 : (.fieldLink RX11 14 "MistHeaps" "scene" "LMistHeaps$Scene;" : Cond) ∈ wsX11_set := by decide +kernel
theorem kc_xSet_2 : ∀ w ∈ wsX80, w ∈ wsX11_set := by decide +kernel
theorem kc_xSet_3 : (.fieldLink RX11 88 "MistHeaps$Scene" "snow" "I" : Cond) ∈ wsX11_set := by decide +kernel
theorem kc_xSet_4 : (.fieldLink RX11 85 "MistHeaps$Scene" "mist" "I" : Cond) ∈ wsX11_set := by decide +kernel
set_option maxHeartbeats 4000000 in
set_option maxRecDepth 100000 in
theorem c_xSet (l : Launch) (dC : Nat → ClassId) (dI : Nat → Nat → Nat) (h0 sc kp bl go ch bo aTp aHl aHs aWk aBk aFc : Nat) (bW bA bE bC : Nat) (a n : Int32) (sz : Nat) : Met l yX11_set wsX11_set ({ frames := 2, cells := 0, slots := 0, locals := 42 } : Room) (va_Pc [.ref h0, .int a, .int n] (fun U => U.heap.size = sz ∧ va_P (dC, dI) vwCl [(h0, .inr (13, [.ref sc, .ref kp, .int 0, .ref bl, .ref go, .ref ch, .ref bo])), (sc, .inr (10, [.ref aTp, .int 0, .ref aHl, .int 0, .long 0, .int 0, .int 0, .ref aHs, .int 0, .ref aWk, .int 0, .ref aBk, .int 0, .ref aFc])), (aHl, .inr (7, [.int 3, .int 0, .ref bW, .ref bA, .ref bE, .ref bC, .int 0, .null, .int 0, .int 0, .int 0]))] U.heap ∧ va_K (dC, dI) vwCl [] U ∧ va_D (fun _ => True) [(h0, .inr (13, [.ref sc, .ref kp, .int 0, .ref bl, .ref go, .ref ch, .ref bo])), (sc, .inr (10, [.ref aTp, .int 0, .ref aHl, .int 0, .long 0, .int 0, .int 0, .ref aHs, .int 0, .ref aWk, .int 0, .ref aBk, .int 0, .ref aFc])), (aHl, .inr (7, [.int 3, .int 0, .ref bW, .ref bA, .ref bE, .ref bC, .int 0, .null, .int 0, .int 0, .int 0]))])) (va_Qi (fun (r : Int32) (u : Unit) => match u with | () => r = f_set a n) (fun (u : Unit) (t : State) => match u with | () => True) (va_A [(h0, .inr (13, [.ref sc, .ref kp, .int 0, .ref bl, .ref go, .ref ch, .ref bo])), (sc, .inr (10, [.ref aTp, .int 0, .ref aHl, .int 0, .long 0, .int 0, .int 0, .ref aHs, .int 0, .ref aWk, .int 0, .ref aBk, .int 0, .ref aFc])), (aHl, .inr (7, [.int 3, .int 0, .ref bW, .ref bA, .ref bE, .ref bC, .int 0, .null, .int 0, .int 0, .int 0]))] sz)) 0 0 (va_A [(h0, .inr (13, [.ref sc, .ref kp, .int 0, .ref bl, .ref go, .ref ch, .ref bo])), (sc, .inr (10, [.ref aTp, .int 0, .ref aHl, .int 0, .long 0, .int 0, .int 0, .ref aHs, .int 0, .ref aWk, .int 0, .ref aBk, .int 0, .ref aFc])), (aHl, .inr (7, [.int 3, .int 0, .ref bW, .ref bA, .ref bE, .ref bC, .int 0, .null, .int 0, .int 0, .int 0]))] sz) := by
  refine met_ofQ (cc := cX11_set) (maxL := 4) (ret := (some .int)) (by decide) rfl ?_
  intro p e s m args below meth c s₁ Q B hml hv hQ
  obtain ⟨rfl, hsz, hP, hK, hD0⟩ := hv
  have hx := B.exec
  have hb := B.bytes
  have hr := B.returns
  have hts := atoms_spec (ws := wsX11_set) B.pre
  have hown : s.vm.findClass RX11 = some m.cls := findClass_of_methodNamed B.named
  have hlocks := B.notSynchronized
  subst hsz
  have hD := hD0.self (sz := s.heap.size)
  generalize hAe : va_A [(h0, .inr (13, [.ref sc, .ref kp, .int 0, .ref bl, .ref go, .ref ch, .ref bo])), (sc, .inr (10, [.ref aTp, .int 0, .ref aHl, .int 0, .long 0, .int 0, .int 0, .ref aHs, .int 0, .ref aWk, .int 0, .ref aBk, .int 0, .ref aFc])), (aHl, .inr (7, [.int 3, .int 0, .ref bW, .ref bA, .ref bE, .ref bC, .int 0, .null, .int 0, .int 0, .int 0]))] s.heap.size = A at hD hQ ⊢
  have hA : ∀ q : Nat, s.heap.size ≤ q → A q := fun q h => by rw [← hAe]; exact Or.inr h
  have hS : va_S A s.heap s.heap [] := va_S.rf
  have hl := lv_entry [.ref h0, .int a, .int n] (n := 4) (Nat.le_of_ble_eq_true rfl)
  rw [lg_entry_eq]
  generalize (lg_sl [.ref h0, .int a, .int n] ++ List.replicate (4 - (lg_sl [.ref h0, .int a, .int n]).length) Slot.unset).toArray = ls at hl ⊢
  generalize hag : ([.ref h0, .int a, .int n] : List Value).toArray = args at hts hQ ⊢
  have hl : lv_has ls 4 [(0, .ref h0), (1, .int a), (2, .int n)] := hl
  obtain ⟨H, hH⟩ : ∃ H : Heap, H = s.heap := ⟨_, rfl⟩
  rw [← hH] at hP
  rw [← hH]
  have hS : va_S A s.heap H [] := by rw [hH]; exact hS
  obtain ⟨locs, hlo⟩ : ∃ L : List Loc, L = [] := ⟨_, rfl⟩
  rw [← hlo] at hS
  rw [← hlo]
  clear hH hlo
  refine lv_iload_n hx hb dX11_set_0 rfl (lv_at hl 1 rfl) ?_
  refine lv_if_lt (tgt := 9) hx hb dX11_set_1 (by decide) (fun c_1 => ?_) (fun c_1 => ?_)
  · skip
    refine lv_iconst (v := (-1)) hx hb dX11_set_9 (by decide) ?_
    rw [hQ]
    exact W.iret (v := (-1)) hx hb hr (fun t ht hW => ⟨⟨(-1), (), rfl, by simp only [f_set]; (repeat' split) <;> first | (simp_all; done) | (simp only [← Int32.not_lt] at *; simp_all), trivial⟩, hS.F ht⟩) hS.2.2 dX11_set_10
  · skip
    refine lv_iload_n hx hb dX11_set_4 rfl (lv_at hl 1 rfl) ?_
    refine lv_iconst (v := 1) hx hb dX11_set_5 (by decide) ?_
    refine lv_icmp_le (tgt := 11) hx hb dX11_set_6 (by decide) (fun c_2 => ?_) (fun c_2 => ?_)
    · skip
      refine lv_iload_n hx hb dX11_set_11 rfl (lv_at hl 2 rfl) ?_
      refine lv_if_lt (tgt := 21) hx hb dX11_set_12 (by decide) (fun c_3 => ?_) (fun c_3 => ?_)
      · skip
        refine lv_bipush (v := (-2)) hx hb dX11_set_21 (by decide) ?_
        rw [hQ]
        exact W.iret (v := (-2)) hx hb hr (fun t ht hW => ⟨⟨(-2), (), rfl, by simp only [f_set]; (repeat' split) <;> first | (simp_all; done) | (simp only [← Int32.not_lt] at *; simp_all), trivial⟩, hS.F ht⟩) hS.2.2 dX11_set_23
      · skip
        refine lv_iload_n hx hb dX11_set_15 rfl (lv_at hl 2 rfl) ?_
        refine lv_bipush (v := 9) hx hb dX11_set_16 (by decide) ?_
        refine lv_icmp_le (tgt := 24) hx hb dX11_set_18 (by decide) (fun c_4 => ?_) (fun c_4 => ?_)
        · skip
          refine lv_aload_n hx hb dX11_set_24 rfl (lv_at hl 0 rfl) ?_
          refine lv_iload_n hx hb dX11_set_25 rfl (lv_at hl 1 rfl) ?_
          have hPc := hP.sub (ws' := [(h0, .inr (13, [.ref sc, .ref kp, .int 0, .ref bl, .ref go, .ref ch, .ref bo])), (sc, .inr (10, [.ref aTp, .int 0, .ref aHl, .int 0, .long 0, .int 0, .int 0, .ref aHs, .int 0, .ref aWk, .int 0, .ref aBk, .int 0, .ref aFc])), (aHl, .inr (7, [.int 3, .int 0, .ref bW, .ref bA, .ref bE, .ref bC, .int 0, .null, .int 0, .int 0, .int 0]))]) [0, 1, 2] rfl
          have hKc := hK.sub (tys' := []) [] rfl
          refine vp_callSi (va_runV (As := [.int a]) (rest := []) ⟨hx, hb, hml, hown, hts⟩ (c_xTold l dC dI h0 sc kp bl go ch bo aTp aHl aHs aWk aBk aFc bW bA bE bC a) (cwV 1 hts gX11_set_X11_told rfl rfl rfl (by decide +kernel) ⟨Nat.le_of_ble_eq_true rfl, Nat.le_of_ble_eq_true rfl⟩) ⟨fun a U g mk q => by obtain ⟨q0, qP, qK⟩ := q; exact ⟨q0, qP, va_K.moved (u := U) (U := U.calling g mk a) (Vm.Alike.refl U.vm) qK⟩, va_recv hK hP (ci := 13) (q0 := 0) rfl rfl, fun U hU hW => ⟨rfl, by rw [hU]; exact hPc, va_K.moved hW.alike hKc⟩⟩ rfl rfl hl.1 rfl (lv_room (Nat.le_of_ble_eq_true rfl)) dX11_set_26 ⟨Nat.le_of_ble_eq_true rfl, Nat.le_of_ble_eq_true rfl⟩).run (fun r_5 hw_6 => ?_)
          refine qi_as (y := 0) (hw_6.trans (told_01 (by assumption) (by assumption))) ?_
          refine lv_istore_n (lv' := [(3, .int 0), (0, .ref h0), (1, .int a), (2, .int n)]) hx hb dX11_set_29 rfl hl (by decide) rfl (fun ls hl => ?_)
          refine lv_iload_n hx hb dX11_set_30 rfl (lv_at hl 2 rfl) ?_
          refine lv_if_ne (tgt := 45) hx hb dX11_set_31 (by decide) (fun c_7 => ?_) (fun c_7 => ?_)
          · skip
            refine lv_aload_n hx hb dX11_set_45 rfl (lv_at hl 1 rfl) ?_
            refine va_get (D := (dC, dI)) (ci := 13) (v := .ref sc) (C := RX11) (T := TX11) (N := 7) hx hb hts kc_xSet_0 hown hK hP 0 rfl rfl 0 (by decide) (hts (.fieldLink RX11 14 "MistHeaps" "scene" "LMistHeaps$Scene;") kc_xSet_1) (fun _ h9 => h9) rfl dX11_set_46 ?_
            refine lv_iload_n hx hb dX11_set_49 rfl (lv_at hl 3 rfl) ?_
            refine va_put (D := (dC, dI)) (ci := 10) (v := .int n) (ty := .int) (C := RX8) (T := TX8) (N := 14) hx hb hts kc_xSet_2 tyX8 tyX8_ok nmX8 hown hK hP hD hS 1 rfl rfl 6 (by decide) (hts (.fieldLink RX11 88 "MistHeaps$Scene" "snow" "I") kc_xSet_3) (fun _ h9 => h9) rfl (by decide +kernel) rfl rfl (Nat.le_of_ble_eq_true rfl) dX11_set_50 (fun H locs hP hD hS => ?_)
            have hP : va_P (dC, dI) vwCl [(h0, .inr (13, [.ref sc, .ref kp, .int 0, .ref bl, .ref go, .ref ch, .ref bo])), (sc, .inr (10, [.ref aTp, .int 0, .ref aHl, .int 0, .long 0, .int 0, .int n, .ref aHs, .int 0, .ref aWk, .int 0, .ref aBk, .int 0, .ref aFc])), (aHl, .inr (7, [.int 3, .int 0, .ref bW, .ref bA, .ref bE, .ref bC, .int 0, .null, .int 0, .int 0, .int 0]))] H := hP
            have hD : va_D A [(h0, .inr (13, [.ref sc, .ref kp, .int 0, .ref bl, .ref go, .ref ch, .ref bo])), (sc, .inr (10, [.ref aTp, .int 0, .ref aHl, .int 0, .long 0, .int 0, .int n, .ref aHs, .int 0, .ref aWk, .int 0, .ref aBk, .int 0, .ref aFc])), (aHl, .inr (7, [.int 3, .int 0, .ref bW, .ref bA, .ref bE, .ref bC, .int 0, .null, .int 0, .int 0, .int 0]))] := hD
            refine lv_iload_n hx hb dX11_set_53 rfl (lv_at hl 0 rfl) ?_
            rw [hQ]
            exact W.iret (v := 0) hx hb hr (fun t ht hW => ⟨⟨0, (), rfl, by simp only [f_set]; (repeat' split) <;> first | (simp_all; done) | (simp only [← Int32.not_lt] at *; simp_all), trivial⟩, hS.F ht⟩) hS.2.2 dX11_set_54
          · skip
            refine lv_aload_n hx hb dX11_set_34 rfl (lv_at hl 1 rfl) ?_
            refine va_get (D := (dC, dI)) (ci := 13) (v := .ref sc) (C := RX11) (T := TX11) (N := 7) hx hb hts kc_xSet_0 hown hK hP 0 rfl rfl 0 (by decide) (hts (.fieldLink RX11 14 "MistHeaps" "scene" "LMistHeaps$Scene;") kc_xSet_1) (fun _ h9 => h9) rfl dX11_set_35 ?_
            refine lv_iload_n hx hb dX11_set_38 rfl (lv_at hl 3 rfl) ?_
            refine va_put (D := (dC, dI)) (ci := 10) (v := .int n) (ty := .int) (C := RX8) (T := TX8) (N := 14) hx hb hts kc_xSet_2 tyX8 tyX8_ok nmX8 hown hK hP hD hS 1 rfl rfl 5 (by decide) (hts (.fieldLink RX11 85 "MistHeaps$Scene" "mist" "I") kc_xSet_4) (fun _ h9 => h9) rfl (by decide +kernel) rfl rfl (Nat.le_of_ble_eq_true rfl) dX11_set_39 (fun H locs hP hD hS => ?_)
            have hP : va_P (dC, dI) vwCl [(h0, .inr (13, [.ref sc, .ref kp, .int 0, .ref bl, .ref go, .ref ch, .ref bo])), (sc, .inr (10, [.ref aTp, .int 0, .ref aHl, .int 0, .long 0, .int n, .int 0, .ref aHs, .int 0, .ref aWk, .int 0, .ref aBk, .int 0, .ref aFc])), (aHl, .inr (7, [.int 3, .int 0, .ref bW, .ref bA, .ref bE, .ref bC, .int 0, .null, .int 0, .int 0, .int 0]))] H := hP
            have hD : va_D A [(h0, .inr (13, [.ref sc, .ref kp, .int 0, .ref bl, .ref go, .ref ch, .ref bo])), (sc, .inr (10, [.ref aTp, .int 0, .ref aHl, .int 0, .long 0, .int n, .int 0, .ref aHs, .int 0, .ref aWk, .int 0, .ref aBk, .int 0, .ref aFc])), (aHl, .inr (7, [.int 3, .int 0, .ref bW, .ref bA, .ref bE, .ref bC, .int 0, .null, .int 0, .int 0, .int 0]))] := hD
            refine lv_goto (tgt := 53) hx hb dX11_set_42 (by decide) ?_
            refine lv_iload_n hx hb dX11_set_53 rfl (lv_at hl 0 rfl) ?_
            rw [hQ]
            exact W.iret (v := 0) hx hb hr (fun t ht hW => ⟨⟨0, (), rfl, by simp only [f_set]; (repeat' split) <;> first | (simp_all; done) | (simp only [← Int32.not_lt] at *; simp_all), trivial⟩, hS.F ht⟩) hS.2.2 dX11_set_54
        · skip
          refine lv_bipush (v := (-2)) hx hb dX11_set_21 (by decide) ?_
          rw [hQ]
          exact W.iret (v := (-2)) hx hb hr (fun t ht hW => ⟨⟨(-2), (), rfl, by simp only [f_set]; (repeat' split) <;> first | (simp_all; done) | (simp only [← Int32.not_lt] at *; simp_all), trivial⟩, hS.F ht⟩) hS.2.2 dX11_set_23
    · skip
      refine lv_iconst (v := (-1)) hx hb dX11_set_9 (by decide) ?_
      rw [hQ]
      exact W.iret (v := (-1)) hx hb hr (fun t ht hW => ⟨⟨(-1), (), rfl, by simp only [f_set]; (repeat' split) <;> first | (simp_all; done) | (simp only [← Int32.not_lt] at *; simp_all), trivial⟩, hS.F ht⟩) hS.2.2 dX11_set_10

theorem kc_xHeapAt_0 : ∀ w ∈ wsX80, w ∈ wsX8_heapAt := by decide +kernel
theorem kc_xHeapAt_1 : (.fieldLink RX8 60 "MistHeaps$Scene" "heapCount" "I" : Cond) ∈ wsX8_heapAt := by decide +kernel
set_option maxHeartbeats 4000000 in
set_option maxRecDepth 100000 in
theorem c_xHeapAt (l : Launch) (dC : Nat → ClassId) (dI : Nat → Nat → Nat) (sc aTp aHl aHs aWk aBk aFc : Nat) (x : Int32) : Met l yX8_heapAt wsX8_heapAt ({ frames := 0, cells := 0, slots := 0, locals := 0 } : Room) (va_Pc [.ref sc, .int x] (fun U => va_P (dC, dI) vwCl [(sc, .inr (10, [.ref aTp, .int 0, .ref aHl, .int 0, .long 0, .int 0, .int 0, .ref aHs, .int 0, .ref aWk, .int 0, .ref aBk, .int 0, .ref aFc]))] U.heap ∧ va_K (dC, dI) vwCl [] U)) (va_Sq (fun r => r = none)) 0 0 (fun _ => False) := by
  refine met_ofQ (cc := cX8_heapAt) (maxL := 2) (ret := (some (.object "MistHeaps$Heap"))) (by decide) rfl ?_
  intro p e s m args below meth c s₁ Q B hml hv hQ
  obtain ⟨rfl, hP, hK⟩ := hv
  have hx := B.exec
  have hb := B.bytes
  have hr := B.returns
  have hts := atoms_spec (ws := wsX8_heapAt) B.pre
  have hown : s.vm.findClass RX8 = some m.cls := findClass_of_methodNamed B.named
  have hlocks := B.notSynchronized
  obtain ⟨A, hAe⟩ : ∃ A : Nat → Prop, A = fun _ => False := ⟨_, rfl⟩
  rw [← hAe] at hQ
  have hS : va_S A s.heap s.heap [] := va_S.rf
  have hl := lv_entry [.ref sc, .int x] (n := 2) (Nat.le_of_ble_eq_true rfl)
  rw [lg_entry_eq]
  generalize (lg_sl [.ref sc, .int x] ++ List.replicate (2 - (lg_sl [.ref sc, .int x]).length) Slot.unset).toArray = ls at hl ⊢
  generalize hag : ([.ref sc, .int x] : List Value).toArray = args at hts hQ ⊢
  have hl : lv_has ls 2 [(0, .ref sc), (1, .int x)] := hl
  refine lv_iload_n hx hb dX8_heapAt_0 rfl (lv_at hl 1 rfl) ?_
  refine lv_if_lt (tgt := 21) hx hb dX8_heapAt_1 (by decide) (fun c_1 => ?_) (fun c_1 => ?_)
  · skip
    refine lv_null hx hb dX8_heapAt_21 ?_
    rw [hQ]
    exact W.aret (v := .null) hx hb hr (Or.inl ⟨_, rfl⟩) (Or.inl rfl) (fun t ht hW => ⟨none, rfl, rfl, by rw [ht]⟩) (fun q hq => absurd hq List.not_mem_nil) dX8_heapAt_22
  · skip
    refine lv_iload_n hx hb dX8_heapAt_4 rfl (lv_at hl 1 rfl) ?_
    refine lv_aload_n hx hb dX8_heapAt_5 rfl (lv_at hl 0 rfl) ?_
    refine va_get (D := (dC, dI)) (ci := 10) (v := .int 0) (C := RX8) (T := TX8) (N := 14) hx hb hts kc_xHeapAt_0 hown hK hP 0 rfl rfl 8 (by decide) (hts (.fieldLink RX8 60 "MistHeaps$Scene" "heapCount" "I") kc_xHeapAt_1) (fun _ h9 => h9) rfl dX8_heapAt_6 ?_
    refine lv_icmp_ge (tgt := 21) hx hb dX8_heapAt_9 (by decide) (fun c_2 => ?_) (fun c_2 => absurd c_2 ((not_not_intro (Int32.not_lt.mp (by assumption)))))
    refine lv_null hx hb dX8_heapAt_21 ?_
    rw [hQ]
    exact W.aret (v := .null) hx hb hr (Or.inl ⟨_, rfl⟩) (Or.inl rfl) (fun t ht hW => ⟨none, rfl, rfl, by rw [ht]⟩) (fun q hq => absurd hq List.not_mem_nil) dX8_heapAt_22

set_option maxHeartbeats 4000000 in
set_option maxRecDepth 100000 in
theorem c_xAreHeaps (l : Launch) (dC : Nat → ClassId) (dI : Nat → Nat → Nat) (sc aTp aHl aHs aWk aBk aFc : Nat) (x y : Int32) : Met l yX8_areHeaps wsX8_areHeaps ({ frames := 1, cells := 0, slots := 0, locals := 21 } : Room) (va_Pc [.ref sc, .int x, .int y] (fun U => va_P (dC, dI) vwCl [(sc, .inr (10, [.ref aTp, .int 0, .ref aHl, .int 0, .long 0, .int 0, .int 0, .ref aHs, .int 0, .ref aWk, .int 0, .ref aBk, .int 0, .ref aFc]))] U.heap ∧ va_K (dC, dI) vwCl [] U)) (vp_Si (fun r => r = 0)) 0 0 (fun _ => False) := by
  refine met_ofQ (cc := cX8_areHeaps) (maxL := 3) (ret := (some .boolean)) (by decide) rfl ?_
  intro p e s m args below meth c s₁ Q B hml hv hQ
  obtain ⟨rfl, hP, hK⟩ := hv
  have hx := B.exec
  have hb := B.bytes
  have hr := B.returns
  have hts := atoms_spec (ws := wsX8_areHeaps) B.pre
  have hown : s.vm.findClass RX8 = some m.cls := findClass_of_methodNamed B.named
  have hlocks := B.notSynchronized
  obtain ⟨A, hAe⟩ : ∃ A : Nat → Prop, A = fun _ => False := ⟨_, rfl⟩
  rw [← hAe] at hQ
  have hS : va_S A s.heap s.heap [] := va_S.rf
  have hl := lv_entry [.ref sc, .int x, .int y] (n := 3) (Nat.le_of_ble_eq_true rfl)
  rw [lg_entry_eq]
  generalize (lg_sl [.ref sc, .int x, .int y] ++ List.replicate (3 - (lg_sl [.ref sc, .int x, .int y]).length) Slot.unset).toArray = ls at hl ⊢
  generalize hag : ([.ref sc, .int x, .int y] : List Value).toArray = args at hts hQ ⊢
  have hl : lv_has ls 3 [(0, .ref sc), (1, .int x), (2, .int y)] := hl
  refine lv_aload_n hx hb dX8_areHeaps_0 rfl (lv_at hl 0 rfl) ?_
  refine lv_iload_n hx hb dX8_areHeaps_1 rfl (lv_at hl 1 rfl) ?_
  have hPc := hP.sub (ws' := [(sc, .inr (10, [.ref aTp, .int 0, .ref aHl, .int 0, .long 0, .int 0, .int 0, .ref aHs, .int 0, .ref aWk, .int 0, .ref aBk, .int 0, .ref aFc]))]) [0] rfl
  have hKc := hK.sub (tys' := []) [] rfl
  refine va_csq (va_runV (As := [.int x]) (rest := []) ⟨hx, hb, hml, hown, hts⟩ (c_xHeapAt l dC dI sc aTp aHl aHs aWk aBk aFc x) (cwV 1 hts gX8_areHeaps_X8_heapAt rfl rfl rfl (by decide +kernel) ⟨Nat.le_of_ble_eq_true rfl, Nat.le_of_ble_eq_true rfl⟩) ⟨fun a U g mk q => by obtain ⟨q0, qP, qK⟩ := q; exact ⟨q0, qP, va_K.moved (u := U) (U := U.calling g mk a) (Vm.Alike.refl U.vm) qK⟩, va_recv hK hP (ci := 10) (q0 := 0) rfl rfl, fun U hU hW => ⟨rfl, by rw [hU]; exact hPc, va_K.moved hW.alike hKc⟩⟩ rfl rfl hl.1 rfl (lv_room (Nat.le_of_ble_eq_true rfl)) dX8_areHeaps_2 ⟨Nat.le_of_ble_eq_true rfl, Nat.le_of_ble_eq_true rfl⟩).run (fun r_1 hw_2 => ?_)
  refine qq_as (v := .null) (by rw [hw_2]; rfl) ?_
  refine lv_ifnullN (tgt := 20) hx hb dX8_areHeaps_5 (by decide) ?_
  refine lv_iconst (v := 0) hx hb dX8_areHeaps_20 (by decide) ?_
  rw [hQ]
  exact W.zret (v := 0) hx hb hr rfl (fun t ht hW => ⟨0, rfl, rfl, by rw [ht]⟩) (fun q hq => absurd hq List.not_mem_nil) dX8_areHeaps_21

theorem kc_xOf_0 : ∀ w ∈ wsX110, w ∈ wsX11_of := by decide +kernel
theorem kc_xOf_1 : (.fieldLink RX11 14 "MistHeaps" "scene" "LMistHeaps$Scene;" : Cond) ∈ wsX11_of := by decide +kernel
set_option maxHeartbeats 4000000 in
set_option maxRecDepth 100000 in
theorem c_xOf (l : Launch) (dC : Nat → ClassId) (dI : Nat → Nat → Nat) (h0 sc kp bl go ch bo aTp aHl aHs aWk aBk aFc : Nat) (x y : Int32) : Met l yX11_of wsX11_of ({ frames := 1, cells := 0, slots := 0, locals := 21 } : Room) (va_Pc [.ref h0, .int x, .int y] (fun U => va_P (dC, dI) vwCl [(h0, .inr (13, [.ref sc, .ref kp, .int 0, .ref bl, .ref go, .ref ch, .ref bo])), (sc, .inr (10, [.ref aTp, .int 0, .ref aHl, .int 0, .long 0, .int 0, .int 0, .ref aHs, .int 0, .ref aWk, .int 0, .ref aBk, .int 0, .ref aFc]))] U.heap ∧ va_K (dC, dI) vwCl [] U)) (vp_Si (fun r => r = -1)) 0 0 (fun _ => False) := by
  refine met_ofQ (cc := cX11_of) (maxL := 4) (ret := (some .int)) (by decide) rfl ?_
  intro p e s m args below meth c s₁ Q B hml hv hQ
  obtain ⟨rfl, hP, hK⟩ := hv
  have hx := B.exec
  have hb := B.bytes
  have hr := B.returns
  have hts := atoms_spec (ws := wsX11_of) B.pre
  have hown : s.vm.findClass RX11 = some m.cls := findClass_of_methodNamed B.named
  have hlocks := B.notSynchronized
  obtain ⟨A, hAe⟩ : ∃ A : Nat → Prop, A = fun _ => False := ⟨_, rfl⟩
  rw [← hAe] at hQ
  have hS : va_S A s.heap s.heap [] := va_S.rf
  have hl := lv_entry [.ref h0, .int x, .int y] (n := 4) (Nat.le_of_ble_eq_true rfl)
  rw [lg_entry_eq]
  generalize (lg_sl [.ref h0, .int x, .int y] ++ List.replicate (4 - (lg_sl [.ref h0, .int x, .int y]).length) Slot.unset).toArray = ls at hl ⊢
  generalize hag : ([.ref h0, .int x, .int y] : List Value).toArray = args at hts hQ ⊢
  have hl : lv_has ls 4 [(0, .ref h0), (1, .int x), (2, .int y)] := hl
  refine lv_aload_n hx hb dX11_of_0 rfl (lv_at hl 0 rfl) ?_
  refine va_get (D := (dC, dI)) (ci := 13) (v := .ref sc) (C := RX11) (T := TX11) (N := 7) hx hb hts kc_xOf_0 hown hK hP 0 rfl rfl 0 (by decide) (hts (.fieldLink RX11 14 "MistHeaps" "scene" "LMistHeaps$Scene;") kc_xOf_1) (fun _ h9 => h9) rfl dX11_of_1 ?_
  refine lv_iload_n hx hb dX11_of_4 rfl (lv_at hl 1 rfl) ?_
  have hPc := hP.sub (ws' := [(sc, .inr (10, [.ref aTp, .int 0, .ref aHl, .int 0, .long 0, .int 0, .int 0, .ref aHs, .int 0, .ref aWk, .int 0, .ref aBk, .int 0, .ref aFc]))]) [1] rfl
  have hKc := hK.sub (tys' := []) [] rfl
  refine va_csq (va_runV (As := [.int x]) (rest := []) ⟨hx, hb, hml, hown, hts⟩ (c_xHeapAt l dC dI sc aTp aHl aHs aWk aBk aFc x) (cwV 1 hts gX11_of_X8_heapAt rfl rfl rfl (by decide +kernel) ⟨Nat.le_of_ble_eq_true rfl, Nat.le_of_ble_eq_true rfl⟩) ⟨fun a U g mk q => by obtain ⟨q0, qP, qK⟩ := q; exact ⟨q0, qP, va_K.moved (u := U) (U := U.calling g mk a) (Vm.Alike.refl U.vm) qK⟩, va_recv hK hP (ci := 10) (q0 := 1) rfl rfl, fun U hU hW => ⟨rfl, by rw [hU]; exact hPc, va_K.moved hW.alike hKc⟩⟩ rfl rfl hl.1 rfl (lv_room (Nat.le_of_ble_eq_true rfl)) dX11_of_5 ⟨Nat.le_of_ble_eq_true rfl, Nat.le_of_ble_eq_true rfl⟩).run (fun r_1 hw_2 => ?_)
  refine qq_as (v := .null) (by rw [hw_2]; rfl) ?_
  refine lv_astore_nN (lv' := [(3, .null), (0, .ref h0), (1, .int x), (2, .int y)]) hx hb dX11_of_8 rfl hl (by decide) rfl (fun ls hl => ?_)
  refine lv_aload_nN hx hb dX11_of_9 rfl (lv_at hl 0 rfl) ?_
  refine lv_ifnonnullN hx hb dX11_of_10 ?_
  refine lv_iconst (v := (-1)) hx hb dX11_of_13 (by decide) ?_
  rw [hQ]
  exact W.iret (v := (-1)) hx hb hr (fun t ht hW => ⟨(-1), rfl, rfl, by rw [ht]⟩) (fun q hq => absurd hq List.not_mem_nil) dX11_of_14

theorem kc_xSteps_0 : ∀ w ∈ wsX110, w ∈ wsX11_steps := by decide +kernel
theorem kc_xSteps_1 : (.fieldLink RX11 14 "MistHeaps" "scene" "LMistHeaps$Scene;" : Cond) ∈ wsX11_steps := by decide +kernel
set_option maxHeartbeats 4000000 in
set_option maxRecDepth 100000 in
theorem c_xSteps (l : Launch) (dC : Nat → ClassId) (dI : Nat → Nat → Nat) (h0 sc kp bl go ch bo aTp aHl aHs aWk aBk aFc : Nat) (x y : Int32) : Met l yX11_steps wsX11_steps ({ frames := 2, cells := 0, slots := 0, locals := 43 } : Room) (va_Pc [.ref h0, .int x, .int y] (fun U => va_P (dC, dI) vwCl [(h0, .inr (13, [.ref sc, .ref kp, .int 0, .ref bl, .ref go, .ref ch, .ref bo])), (sc, .inr (10, [.ref aTp, .int 0, .ref aHl, .int 0, .long 0, .int 0, .int 0, .ref aHs, .int 0, .ref aWk, .int 0, .ref aBk, .int 0, .ref aFc]))] U.heap ∧ va_K (dC, dI) vwCl [] U)) (vp_Si (fun r => r = -1)) 0 0 (fun _ => False) := by
  refine met_ofQ (cc := cX11_steps) (maxL := 3) (ret := (some .int)) (by decide) rfl ?_
  intro p e s m args below meth c s₁ Q B hml hv hQ
  obtain ⟨rfl, hP, hK⟩ := hv
  have hx := B.exec
  have hb := B.bytes
  have hr := B.returns
  have hts := atoms_spec (ws := wsX11_steps) B.pre
  have hown : s.vm.findClass RX11 = some m.cls := findClass_of_methodNamed B.named
  have hlocks := B.notSynchronized
  obtain ⟨A, hAe⟩ : ∃ A : Nat → Prop, A = fun _ => False := ⟨_, rfl⟩
  rw [← hAe] at hQ
  have hS : va_S A s.heap s.heap [] := va_S.rf
  have hl := lv_entry [.ref h0, .int x, .int y] (n := 3) (Nat.le_of_ble_eq_true rfl)
  rw [lg_entry_eq]
  generalize (lg_sl [.ref h0, .int x, .int y] ++ List.replicate (3 - (lg_sl [.ref h0, .int x, .int y]).length) Slot.unset).toArray = ls at hl ⊢
  generalize hag : ([.ref h0, .int x, .int y] : List Value).toArray = args at hts hQ ⊢
  have hl : lv_has ls 3 [(0, .ref h0), (1, .int x), (2, .int y)] := hl
  refine lv_aload_n hx hb dX11_steps_0 rfl (lv_at hl 0 rfl) ?_
  refine va_get (D := (dC, dI)) (ci := 13) (v := .ref sc) (C := RX11) (T := TX11) (N := 7) hx hb hts kc_xSteps_0 hown hK hP 0 rfl rfl 0 (by decide) (hts (.fieldLink RX11 14 "MistHeaps" "scene" "LMistHeaps$Scene;") kc_xSteps_1) (fun _ h9 => h9) rfl dX11_steps_1 ?_
  refine lv_iload_n hx hb dX11_steps_4 rfl (lv_at hl 1 rfl) ?_
  refine lv_iload_n hx hb dX11_steps_5 rfl (lv_at hl 2 rfl) ?_
  have hPc := hP.sub (ws' := [(sc, .inr (10, [.ref aTp, .int 0, .ref aHl, .int 0, .long 0, .int 0, .int 0, .ref aHs, .int 0, .ref aWk, .int 0, .ref aBk, .int 0, .ref aFc]))]) [1] rfl
  have hKc := hK.sub (tys' := []) [] rfl
  refine vp_callSi (va_runV (As := [.int x, .int y]) (rest := []) ⟨hx, hb, hml, hown, hts⟩ (c_xAreHeaps l dC dI sc aTp aHl aHs aWk aBk aFc x y) (cwV 2 hts gX11_steps_X8_areHeaps rfl rfl rfl (by decide +kernel) ⟨Nat.le_of_ble_eq_true rfl, Nat.le_of_ble_eq_true rfl⟩) ⟨fun a U g mk q => by obtain ⟨q0, qP, qK⟩ := q; exact ⟨q0, qP, va_K.moved (u := U) (U := U.calling g mk a) (Vm.Alike.refl U.vm) qK⟩, va_recv hK hP (ci := 10) (q0 := 1) rfl rfl, fun U hU hW => ⟨rfl, by rw [hU]; exact hPc, va_K.moved hW.alike hKc⟩⟩ rfl rfl hl.1 rfl (lv_room (Nat.le_of_ble_eq_true rfl)) dX11_steps_6 ⟨Nat.le_of_ble_eq_true rfl, Nat.le_of_ble_eq_true rfl⟩).run (fun r_1 hw_2 => ?_)
  refine qi_as (y := 0) (hw_2) ?_
  refine lv_if_ne (tgt := 14) hx hb dX11_steps_9 (by decide) (fun c_3 => absurd c_3 (by decide)) (fun _ => ?_)
  refine lv_iconst (v := (-1)) hx hb dX11_steps_12 (by decide) ?_
  rw [hQ]
  exact W.iret (v := (-1)) hx hb hr (fun t ht hW => ⟨(-1), rfl, rfl, by rw [ht]⟩) (fun q hq => absurd hq List.not_mem_nil) dX11_steps_13

theorem kc_xVia_0 : ∀ w ∈ wsX110, w ∈ wsX11_via := by decide +kernel
theorem kc_xVia_1 : (.fieldLink RX11 14 "MistHeaps" "scene" "LMistHeaps$Scene;" : Cond) ∈ wsX11_via := by decide +kernel
set_option maxHeartbeats 4000000 in
set_option maxRecDepth 100000 in
theorem c_xVia (l : Launch) (dC : Nat → ClassId) (dI : Nat → Nat → Nat) (h0 sc kp bl go ch bo aTp aHl aHs aWk aBk aFc : Nat) (x y : Int32) : Met l yX11_via wsX11_via ({ frames := 2, cells := 0, slots := 0, locals := 43 } : Room) (va_Pc [.ref h0, .int x, .int y] (fun U => va_P (dC, dI) vwCl [(h0, .inr (13, [.ref sc, .ref kp, .int 0, .ref bl, .ref go, .ref ch, .ref bo])), (sc, .inr (10, [.ref aTp, .int 0, .ref aHl, .int 0, .long 0, .int 0, .int 0, .ref aHs, .int 0, .ref aWk, .int 0, .ref aBk, .int 0, .ref aFc]))] U.heap ∧ va_K (dC, dI) vwCl [] U)) (vp_Si (fun r => r = -1)) 0 0 (fun _ => False) := by
  refine met_ofQ (cc := cX11_via) (maxL := 3) (ret := (some .int)) (by decide) rfl ?_
  intro p e s m args below meth c s₁ Q B hml hv hQ
  obtain ⟨rfl, hP, hK⟩ := hv
  have hx := B.exec
  have hb := B.bytes
  have hr := B.returns
  have hts := atoms_spec (ws := wsX11_via) B.pre
  have hown : s.vm.findClass RX11 = some m.cls := findClass_of_methodNamed B.named
  have hlocks := B.notSynchronized
  obtain ⟨A, hAe⟩ : ∃ A : Nat → Prop, A = fun _ => False := ⟨_, rfl⟩
  rw [← hAe] at hQ
  have hS : va_S A s.heap s.heap [] := va_S.rf
  have hl := lv_entry [.ref h0, .int x, .int y] (n := 3) (Nat.le_of_ble_eq_true rfl)
  rw [lg_entry_eq]
  generalize (lg_sl [.ref h0, .int x, .int y] ++ List.replicate (3 - (lg_sl [.ref h0, .int x, .int y]).length) Slot.unset).toArray = ls at hl ⊢
  generalize hag : ([.ref h0, .int x, .int y] : List Value).toArray = args at hts hQ ⊢
  have hl : lv_has ls 3 [(0, .ref h0), (1, .int x), (2, .int y)] := hl
  refine lv_aload_n hx hb dX11_via_0 rfl (lv_at hl 0 rfl) ?_
  refine va_get (D := (dC, dI)) (ci := 13) (v := .ref sc) (C := RX11) (T := TX11) (N := 7) hx hb hts kc_xVia_0 hown hK hP 0 rfl rfl 0 (by decide) (hts (.fieldLink RX11 14 "MistHeaps" "scene" "LMistHeaps$Scene;") kc_xVia_1) (fun _ h9 => h9) rfl dX11_via_1 ?_
  refine lv_iload_n hx hb dX11_via_4 rfl (lv_at hl 1 rfl) ?_
  refine lv_iload_n hx hb dX11_via_5 rfl (lv_at hl 2 rfl) ?_
  have hPc := hP.sub (ws' := [(sc, .inr (10, [.ref aTp, .int 0, .ref aHl, .int 0, .long 0, .int 0, .int 0, .ref aHs, .int 0, .ref aWk, .int 0, .ref aBk, .int 0, .ref aFc]))]) [1] rfl
  have hKc := hK.sub (tys' := []) [] rfl
  refine vp_callSi (va_runV (As := [.int x, .int y]) (rest := []) ⟨hx, hb, hml, hown, hts⟩ (c_xAreHeaps l dC dI sc aTp aHl aHs aWk aBk aFc x y) (cwV 2 hts gX11_via_X8_areHeaps rfl rfl rfl (by decide +kernel) ⟨Nat.le_of_ble_eq_true rfl, Nat.le_of_ble_eq_true rfl⟩) ⟨fun a U g mk q => by obtain ⟨q0, qP, qK⟩ := q; exact ⟨q0, qP, va_K.moved (u := U) (U := U.calling g mk a) (Vm.Alike.refl U.vm) qK⟩, va_recv hK hP (ci := 10) (q0 := 1) rfl rfl, fun U hU hW => ⟨rfl, by rw [hU]; exact hPc, va_K.moved hW.alike hKc⟩⟩ rfl rfl hl.1 rfl (lv_room (Nat.le_of_ble_eq_true rfl)) dX11_via_6 ⟨Nat.le_of_ble_eq_true rfl, Nat.le_of_ble_eq_true rfl⟩).run (fun r_1 hw_2 => ?_)
  refine qi_as (y := 0) (hw_2) ?_
  refine lv_if_ne (tgt := 14) hx hb dX11_via_9 (by decide) (fun c_3 => absurd c_3 (by decide)) (fun _ => ?_)
  refine lv_iconst (v := (-1)) hx hb dX11_via_12 (by decide) ?_
  rw [hQ]
  exact W.iret (v := (-1)) hx hb hr (fun t ht hW => ⟨(-1), rfl, rfl, by rw [ht]⟩) (fun q hq => absurd hq List.not_mem_nil) dX11_via_13

theorem kc_xCuts_0 : ∀ w ∈ wsX110, w ∈ wsX11_cuts := by decide +kernel
theorem kc_xCuts_1 : (.fieldLink RX11 14 "MistHeaps" "scene" "LMistHeaps$Scene;" : Cond) ∈ wsX11_cuts := by decide +kernel
set_option maxHeartbeats 4000000 in
set_option maxRecDepth 100000 in
theorem c_xCuts (l : Launch) (dC : Nat → ClassId) (dI : Nat → Nat → Nat) (h0 sc kp bl go ch bo aTp aHl aHs aWk aBk aFc : Nat) (x y : Int32) : Met l yX11_cuts wsX11_cuts ({ frames := 2, cells := 0, slots := 0, locals := 43 } : Room) (va_Pc [.ref h0, .int x, .int y] (fun U => va_P (dC, dI) vwCl [(h0, .inr (13, [.ref sc, .ref kp, .int 0, .ref bl, .ref go, .ref ch, .ref bo])), (sc, .inr (10, [.ref aTp, .int 0, .ref aHl, .int 0, .long 0, .int 0, .int 0, .ref aHs, .int 0, .ref aWk, .int 0, .ref aBk, .int 0, .ref aFc]))] U.heap ∧ va_K (dC, dI) vwCl [] U)) (vp_Si (fun r => r = -1)) 0 0 (fun _ => False) := by
  refine met_ofQ (cc := cX11_cuts) (maxL := 3) (ret := (some .int)) (by decide) rfl ?_
  intro p e s m args below meth c s₁ Q B hml hv hQ
  obtain ⟨rfl, hP, hK⟩ := hv
  have hx := B.exec
  have hb := B.bytes
  have hr := B.returns
  have hts := atoms_spec (ws := wsX11_cuts) B.pre
  have hown : s.vm.findClass RX11 = some m.cls := findClass_of_methodNamed B.named
  have hlocks := B.notSynchronized
  obtain ⟨A, hAe⟩ : ∃ A : Nat → Prop, A = fun _ => False := ⟨_, rfl⟩
  rw [← hAe] at hQ
  have hS : va_S A s.heap s.heap [] := va_S.rf
  have hl := lv_entry [.ref h0, .int x, .int y] (n := 3) (Nat.le_of_ble_eq_true rfl)
  rw [lg_entry_eq]
  generalize (lg_sl [.ref h0, .int x, .int y] ++ List.replicate (3 - (lg_sl [.ref h0, .int x, .int y]).length) Slot.unset).toArray = ls at hl ⊢
  generalize hag : ([.ref h0, .int x, .int y] : List Value).toArray = args at hts hQ ⊢
  have hl : lv_has ls 3 [(0, .ref h0), (1, .int x), (2, .int y)] := hl
  refine lv_aload_n hx hb dX11_cuts_0 rfl (lv_at hl 0 rfl) ?_
  refine va_get (D := (dC, dI)) (ci := 13) (v := .ref sc) (C := RX11) (T := TX11) (N := 7) hx hb hts kc_xCuts_0 hown hK hP 0 rfl rfl 0 (by decide) (hts (.fieldLink RX11 14 "MistHeaps" "scene" "LMistHeaps$Scene;") kc_xCuts_1) (fun _ h9 => h9) rfl dX11_cuts_1 ?_
  refine lv_iload_n hx hb dX11_cuts_4 rfl (lv_at hl 1 rfl) ?_
  refine lv_iload_n hx hb dX11_cuts_5 rfl (lv_at hl 2 rfl) ?_
  have hPc := hP.sub (ws' := [(sc, .inr (10, [.ref aTp, .int 0, .ref aHl, .int 0, .long 0, .int 0, .int 0, .ref aHs, .int 0, .ref aWk, .int 0, .ref aBk, .int 0, .ref aFc]))]) [1] rfl
  have hKc := hK.sub (tys' := []) [] rfl
  refine vp_callSi (va_runV (As := [.int x, .int y]) (rest := []) ⟨hx, hb, hml, hown, hts⟩ (c_xAreHeaps l dC dI sc aTp aHl aHs aWk aBk aFc x y) (cwV 2 hts gX11_cuts_X8_areHeaps rfl rfl rfl (by decide +kernel) ⟨Nat.le_of_ble_eq_true rfl, Nat.le_of_ble_eq_true rfl⟩) ⟨fun a U g mk q => by obtain ⟨q0, qP, qK⟩ := q; exact ⟨q0, qP, va_K.moved (u := U) (U := U.calling g mk a) (Vm.Alike.refl U.vm) qK⟩, va_recv hK hP (ci := 10) (q0 := 1) rfl rfl, fun U hU hW => ⟨rfl, by rw [hU]; exact hPc, va_K.moved hW.alike hKc⟩⟩ rfl rfl hl.1 rfl (lv_room (Nat.le_of_ble_eq_true rfl)) dX11_cuts_6 ⟨Nat.le_of_ble_eq_true rfl, Nat.le_of_ble_eq_true rfl⟩).run (fun r_1 hw_2 => ?_)
  refine qi_as (y := 0) (hw_2) ?_
  refine lv_if_ne (tgt := 14) hx hb dX11_cuts_9 (by decide) (fun c_3 => absurd c_3 (by decide)) (fun _ => ?_)
  refine lv_iconst (v := (-1)) hx hb dX11_cuts_12 (by decide) ?_
  rw [hQ]
  exact W.iret (v := (-1)) hx hb hr (fun t ht hW => ⟨(-1), rfl, rfl, by rw [ht]⟩) (fun q hq => absurd hq List.not_mem_nil) dX11_cuts_13

theorem kc_xBears_0 : ∀ w ∈ wsX110, w ∈ wsX11_bears := by decide +kernel
theorem kc_xBears_1 : (.fieldLink RX11 14 "MistHeaps" "scene" "LMistHeaps$Scene;" : Cond) ∈ wsX11_bears := by decide +kernel
set_option maxHeartbeats 4000000 in
set_option maxRecDepth 100000 in
theorem c_xBears (l : Launch) (dC : Nat → ClassId) (dI : Nat → Nat → Nat) (h0 sc kp bl go ch bo aTp aHl aHs aWk aBk aFc : Nat) (x y : Int32) : Met l yX11_bears wsX11_bears ({ frames := 2, cells := 0, slots := 0, locals := 43 } : Room) (va_Pc [.ref h0, .int x, .int y] (fun U => va_P (dC, dI) vwCl [(h0, .inr (13, [.ref sc, .ref kp, .int 0, .ref bl, .ref go, .ref ch, .ref bo])), (sc, .inr (10, [.ref aTp, .int 0, .ref aHl, .int 0, .long 0, .int 0, .int 0, .ref aHs, .int 0, .ref aWk, .int 0, .ref aBk, .int 0, .ref aFc]))] U.heap ∧ va_K (dC, dI) vwCl [] U)) (vp_Si (fun r => r = -1)) 0 0 (fun _ => False) := by
  refine met_ofQ (cc := cX11_bears) (maxL := 4) (ret := (some .int)) (by decide) rfl ?_
  intro p e s m args below meth c s₁ Q B hml hv hQ
  obtain ⟨rfl, hP, hK⟩ := hv
  have hx := B.exec
  have hb := B.bytes
  have hr := B.returns
  have hts := atoms_spec (ws := wsX11_bears) B.pre
  have hown : s.vm.findClass RX11 = some m.cls := findClass_of_methodNamed B.named
  have hlocks := B.notSynchronized
  obtain ⟨A, hAe⟩ : ∃ A : Nat → Prop, A = fun _ => False := ⟨_, rfl⟩
  rw [← hAe] at hQ
  have hS : va_S A s.heap s.heap [] := va_S.rf
  have hl := lv_entry [.ref h0, .int x, .int y] (n := 4) (Nat.le_of_ble_eq_true rfl)
  rw [lg_entry_eq]
  generalize (lg_sl [.ref h0, .int x, .int y] ++ List.replicate (4 - (lg_sl [.ref h0, .int x, .int y]).length) Slot.unset).toArray = ls at hl ⊢
  generalize hag : ([.ref h0, .int x, .int y] : List Value).toArray = args at hts hQ ⊢
  have hl : lv_has ls 4 [(0, .ref h0), (1, .int x), (2, .int y)] := hl
  refine lv_aload_n hx hb dX11_bears_0 rfl (lv_at hl 0 rfl) ?_
  refine va_get (D := (dC, dI)) (ci := 13) (v := .ref sc) (C := RX11) (T := TX11) (N := 7) hx hb hts kc_xBears_0 hown hK hP 0 rfl rfl 0 (by decide) (hts (.fieldLink RX11 14 "MistHeaps" "scene" "LMistHeaps$Scene;") kc_xBears_1) (fun _ h9 => h9) rfl dX11_bears_1 ?_
  refine lv_iload_n hx hb dX11_bears_4 rfl (lv_at hl 1 rfl) ?_
  refine lv_iload_n hx hb dX11_bears_5 rfl (lv_at hl 2 rfl) ?_
  have hPc := hP.sub (ws' := [(sc, .inr (10, [.ref aTp, .int 0, .ref aHl, .int 0, .long 0, .int 0, .int 0, .ref aHs, .int 0, .ref aWk, .int 0, .ref aBk, .int 0, .ref aFc]))]) [1] rfl
  have hKc := hK.sub (tys' := []) [] rfl
  refine vp_callSi (va_runV (As := [.int x, .int y]) (rest := []) ⟨hx, hb, hml, hown, hts⟩ (c_xAreHeaps l dC dI sc aTp aHl aHs aWk aBk aFc x y) (cwV 2 hts gX11_bears_X8_areHeaps rfl rfl rfl (by decide +kernel) ⟨Nat.le_of_ble_eq_true rfl, Nat.le_of_ble_eq_true rfl⟩) ⟨fun a U g mk q => by obtain ⟨q0, qP, qK⟩ := q; exact ⟨q0, qP, va_K.moved (u := U) (U := U.calling g mk a) (Vm.Alike.refl U.vm) qK⟩, va_recv hK hP (ci := 10) (q0 := 1) rfl rfl, fun U hU hW => ⟨rfl, by rw [hU]; exact hPc, va_K.moved hW.alike hKc⟩⟩ rfl rfl hl.1 rfl (lv_room (Nat.le_of_ble_eq_true rfl)) dX11_bears_6 ⟨Nat.le_of_ble_eq_true rfl, Nat.le_of_ble_eq_true rfl⟩).run (fun r_1 hw_2 => ?_)
  refine qi_as (y := 0) (hw_2) ?_
  refine lv_if_ne (tgt := 14) hx hb dX11_bears_9 (by decide) (fun c_3 => absurd c_3 (by decide)) (fun _ => ?_)
  refine lv_iconst (v := (-1)) hx hb dX11_bears_12 (by decide) ?_
  rw [hQ]
  exact W.iret (v := (-1)) hx hb hr (fun t ht hW => ⟨(-1), rfl, rfl, by rw [ht]⟩) (fun q hq => absurd hq List.not_mem_nil) dX11_bears_13

theorem kc_xBuild_0 : ∀ w ∈ wsX110, w ∈ wsX11_build := by decide +kernel
theorem kc_xBuild_1 : (.fieldLink RX11 14 "MistHeaps" "scene" "LMistHeaps$Scene;" : Cond) ∈ wsX11_build := by decide +kernel
set_option maxHeartbeats 4000000 in
set_option maxRecDepth 100000 in
theorem c_xBuild (l : Launch) (dC : Nat → ClassId) (dI : Nat → Nat → Nat) (h0 sc kp bl go ch bo aTp aHl aHs aWk aBk aFc : Nat) (x y z : Int32) : Met l yX11_build wsX11_build ({ frames := 2, cells := 0, slots := 0, locals := 43 } : Room) (va_Pc [.ref h0, .int x, .int y, .int z] (fun U => va_P (dC, dI) vwCl [(h0, .inr (13, [.ref sc, .ref kp, .int 0, .ref bl, .ref go, .ref ch, .ref bo])), (sc, .inr (10, [.ref aTp, .int 0, .ref aHl, .int 0, .long 0, .int 0, .int 0, .ref aHs, .int 0, .ref aWk, .int 0, .ref aBk, .int 0, .ref aFc]))] U.heap ∧ va_K (dC, dI) vwCl [] U)) (vp_Si (fun r => r = -1)) 0 0 (fun _ => False) := by
  refine met_ofQ (cc := cX11_build) (maxL := 5) (ret := (some .int)) (by decide) rfl ?_
  intro p e s m args below meth c s₁ Q B hml hv hQ
  obtain ⟨rfl, hP, hK⟩ := hv
  have hx := B.exec
  have hb := B.bytes
  have hr := B.returns
  have hts := atoms_spec (ws := wsX11_build) B.pre
  have hown : s.vm.findClass RX11 = some m.cls := findClass_of_methodNamed B.named
  have hlocks := B.notSynchronized
  obtain ⟨A, hAe⟩ : ∃ A : Nat → Prop, A = fun _ => False := ⟨_, rfl⟩
  rw [← hAe] at hQ
  have hS : va_S A s.heap s.heap [] := va_S.rf
  have hl := lv_entry [.ref h0, .int x, .int y, .int z] (n := 5) (Nat.le_of_ble_eq_true rfl)
  rw [lg_entry_eq]
  generalize (lg_sl [.ref h0, .int x, .int y, .int z] ++ List.replicate (5 - (lg_sl [.ref h0, .int x, .int y, .int z]).length) Slot.unset).toArray = ls at hl ⊢
  generalize hag : ([.ref h0, .int x, .int y, .int z] : List Value).toArray = args at hts hQ ⊢
  have hl : lv_has ls 5 [(0, .ref h0), (1, .int x), (2, .int y), (3, .int z)] := hl
  refine lv_aload_n hx hb dX11_build_0 rfl (lv_at hl 0 rfl) ?_
  refine va_get (D := (dC, dI)) (ci := 13) (v := .ref sc) (C := RX11) (T := TX11) (N := 7) hx hb hts kc_xBuild_0 hown hK hP 0 rfl rfl 0 (by decide) (hts (.fieldLink RX11 14 "MistHeaps" "scene" "LMistHeaps$Scene;") kc_xBuild_1) (fun _ h9 => h9) rfl dX11_build_1 ?_
  refine lv_iload_n hx hb dX11_build_4 rfl (lv_at hl 1 rfl) ?_
  refine lv_iload_n hx hb dX11_build_5 rfl (lv_at hl 2 rfl) ?_
  have hPc := hP.sub (ws' := [(sc, .inr (10, [.ref aTp, .int 0, .ref aHl, .int 0, .long 0, .int 0, .int 0, .ref aHs, .int 0, .ref aWk, .int 0, .ref aBk, .int 0, .ref aFc]))]) [1] rfl
  have hKc := hK.sub (tys' := []) [] rfl
  refine vp_callSi (va_runV (As := [.int x, .int y]) (rest := []) ⟨hx, hb, hml, hown, hts⟩ (c_xAreHeaps l dC dI sc aTp aHl aHs aWk aBk aFc x y) (cwV 2 hts gX11_build_X8_areHeaps rfl rfl rfl (by decide +kernel) ⟨Nat.le_of_ble_eq_true rfl, Nat.le_of_ble_eq_true rfl⟩) ⟨fun a U g mk q => by obtain ⟨q0, qP, qK⟩ := q; exact ⟨q0, qP, va_K.moved (u := U) (U := U.calling g mk a) (Vm.Alike.refl U.vm) qK⟩, va_recv hK hP (ci := 10) (q0 := 1) rfl rfl, fun U hU hW => ⟨rfl, by rw [hU]; exact hPc, va_K.moved hW.alike hKc⟩⟩ rfl rfl hl.1 rfl (lv_room (Nat.le_of_ble_eq_true rfl)) dX11_build_6 ⟨Nat.le_of_ble_eq_true rfl, Nat.le_of_ble_eq_true rfl⟩).run (fun r_1 hw_2 => ?_)
  refine qi_as (y := 0) (hw_2) ?_
  refine lv_if_eq (tgt := 21) hx hb dX11_build_9 (by decide) (fun _ => ?_) (fun c_3 => absurd c_3 (by decide))
  refine lv_iconst (v := (-1)) hx hb dX11_build_21 (by decide) ?_
  rw [hQ]
  exact W.iret (v := (-1)) hx hb hr (fun t ht hW => ⟨(-1), rfl, rfl, by rw [ht]⟩) (fun q hq => absurd hq List.not_mem_nil) dX11_build_22

theorem kc_xLine_0 : ∀ w ∈ wsX110, w ∈ wsX11_line := by decide +kernel
theorem kc_xLine_1 : (.fieldLink RX11 14 "MistHeaps" "scene" "LMistHeaps$Scene;" : Cond) ∈ wsX11_line := by decide +kernel
set_option maxHeartbeats 4000000 in
set_option maxRecDepth 100000 in
theorem c_xLine (l : Launch) (dC : Nat → ClassId) (dI : Nat → Nat → Nat) (h0 sc kp bl go ch bo aTp aHl aHs aWk aBk aFc : Nat) (x y : Int32) : Met l yX11_line wsX11_line ({ frames := 1, cells := 0, slots := 0, locals := 21 } : Room) (va_Pc [.ref h0, .int x, .int y] (fun U => va_P (dC, dI) vwCl [(h0, .inr (13, [.ref sc, .ref kp, .int 0, .ref bl, .ref go, .ref ch, .ref bo])), (sc, .inr (10, [.ref aTp, .int 0, .ref aHl, .int 0, .long 0, .int 0, .int 0, .ref aHs, .int 0, .ref aWk, .int 0, .ref aBk, .int 0, .ref aFc]))] U.heap ∧ va_K (dC, dI) vwCl [] U)) (vp_Si (fun r => r = -1)) 0 0 (fun _ => False) := by
  refine met_ofQ (cc := cX11_line) (maxL := 7) (ret := (some .int)) (by decide) rfl ?_
  intro p e s m args below meth c s₁ Q B hml hv hQ
  obtain ⟨rfl, hP, hK⟩ := hv
  have hx := B.exec
  have hb := B.bytes
  have hr := B.returns
  have hts := atoms_spec (ws := wsX11_line) B.pre
  have hown : s.vm.findClass RX11 = some m.cls := findClass_of_methodNamed B.named
  have hlocks := B.notSynchronized
  obtain ⟨A, hAe⟩ : ∃ A : Nat → Prop, A = fun _ => False := ⟨_, rfl⟩
  rw [← hAe] at hQ
  have hS : va_S A s.heap s.heap [] := va_S.rf
  have hl := lv_entry [.ref h0, .int x, .int y] (n := 7) (Nat.le_of_ble_eq_true rfl)
  rw [lg_entry_eq]
  generalize (lg_sl [.ref h0, .int x, .int y] ++ List.replicate (7 - (lg_sl [.ref h0, .int x, .int y]).length) Slot.unset).toArray = ls at hl ⊢
  generalize hag : ([.ref h0, .int x, .int y] : List Value).toArray = args at hts hQ ⊢
  have hl : lv_has ls 7 [(0, .ref h0), (1, .int x), (2, .int y)] := hl
  refine lv_aload_n hx hb dX11_line_0 rfl (lv_at hl 0 rfl) ?_
  refine va_get (D := (dC, dI)) (ci := 13) (v := .ref sc) (C := RX11) (T := TX11) (N := 7) hx hb hts kc_xLine_0 hown hK hP 0 rfl rfl 0 (by decide) (hts (.fieldLink RX11 14 "MistHeaps" "scene" "LMistHeaps$Scene;") kc_xLine_1) (fun _ h9 => h9) rfl dX11_line_1 ?_
  refine lv_iload_n hx hb dX11_line_4 rfl (lv_at hl 1 rfl) ?_
  have hPc := hP.sub (ws' := [(sc, .inr (10, [.ref aTp, .int 0, .ref aHl, .int 0, .long 0, .int 0, .int 0, .ref aHs, .int 0, .ref aWk, .int 0, .ref aBk, .int 0, .ref aFc]))]) [1] rfl
  have hKc := hK.sub (tys' := []) [] rfl
  refine va_csq (va_runV (As := [.int x]) (rest := []) ⟨hx, hb, hml, hown, hts⟩ (c_xHeapAt l dC dI sc aTp aHl aHs aWk aBk aFc x) (cwV 1 hts gX11_line_X8_heapAt rfl rfl rfl (by decide +kernel) ⟨Nat.le_of_ble_eq_true rfl, Nat.le_of_ble_eq_true rfl⟩) ⟨fun a U g mk q => by obtain ⟨q0, qP, qK⟩ := q; exact ⟨q0, qP, va_K.moved (u := U) (U := U.calling g mk a) (Vm.Alike.refl U.vm) qK⟩, va_recv hK hP (ci := 10) (q0 := 1) rfl rfl, fun U hU hW => ⟨rfl, by rw [hU]; exact hPc, va_K.moved hW.alike hKc⟩⟩ rfl rfl hl.1 rfl (lv_room (Nat.le_of_ble_eq_true rfl)) dX11_line_5 ⟨Nat.le_of_ble_eq_true rfl, Nat.le_of_ble_eq_true rfl⟩).run (fun r_1 hw_2 => ?_)
  refine qq_as (v := .null) (by rw [hw_2]; rfl) ?_
  refine lv_astore_nN (lv' := [(3, .null), (0, .ref h0), (1, .int x), (2, .int y)]) hx hb dX11_line_8 rfl hl (by decide) rfl (fun ls hl => ?_)
  refine lv_aload_nN hx hb dX11_line_9 rfl (lv_at hl 0 rfl) ?_
  refine lv_ifnonnullN hx hb dX11_line_10 ?_
  refine lv_iconst (v := (-1)) hx hb dX11_line_13 (by decide) ?_
  rw [hQ]
  exact W.iret (v := (-1)) hx hb hr (fun t ht hW => ⟨(-1), rfl, rfl, by rw [ht]⟩) (fun q hq => absurd hq List.not_mem_nil) dX11_line_14

theorem kc_xNext_0 : ∀ w ∈ wsX110, w ∈ wsX11_next := by decide +kernel
theorem kc_xNext_1 : (.fieldLink RX11 14 "MistHeaps" "scene" "LMistHeaps$Scene;" : Cond) ∈ wsX11_next := by decide +kernel
set_option maxHeartbeats 4000000 in
set_option maxRecDepth 100000 in
theorem c_xNext (l : Launch) (dC : Nat → ClassId) (dI : Nat → Nat → Nat) (h0 sc kp bl go ch bo aTp aHl aHs aWk aBk aFc : Nat) (x y z : Int32) : Met l yX11_next wsX11_next ({ frames := 1, cells := 0, slots := 0, locals := 21 } : Room) (va_Pc [.ref h0, .int x, .int y, .int z] (fun U => va_P (dC, dI) vwCl [(h0, .inr (13, [.ref sc, .ref kp, .int 0, .ref bl, .ref go, .ref ch, .ref bo])), (sc, .inr (10, [.ref aTp, .int 0, .ref aHl, .int 0, .long 0, .int 0, .int 0, .ref aHs, .int 0, .ref aWk, .int 0, .ref aBk, .int 0, .ref aFc]))] U.heap ∧ va_K (dC, dI) vwCl [] U)) (vp_Si (fun r => r = -1)) 0 0 (fun _ => False) := by
  refine met_ofQ (cc := cX11_next) (maxL := 9) (ret := (some .int)) (by decide) rfl ?_
  intro p e s m args below meth c s₁ Q B hml hv hQ
  obtain ⟨rfl, hP, hK⟩ := hv
  have hx := B.exec
  have hb := B.bytes
  have hr := B.returns
  have hts := atoms_spec (ws := wsX11_next) B.pre
  have hown : s.vm.findClass RX11 = some m.cls := findClass_of_methodNamed B.named
  have hlocks := B.notSynchronized
  obtain ⟨A, hAe⟩ : ∃ A : Nat → Prop, A = fun _ => False := ⟨_, rfl⟩
  rw [← hAe] at hQ
  have hS : va_S A s.heap s.heap [] := va_S.rf
  have hl := lv_entry [.ref h0, .int x, .int y, .int z] (n := 9) (Nat.le_of_ble_eq_true rfl)
  rw [lg_entry_eq]
  generalize (lg_sl [.ref h0, .int x, .int y, .int z] ++ List.replicate (9 - (lg_sl [.ref h0, .int x, .int y, .int z]).length) Slot.unset).toArray = ls at hl ⊢
  generalize hag : ([.ref h0, .int x, .int y, .int z] : List Value).toArray = args at hts hQ ⊢
  have hl : lv_has ls 9 [(0, .ref h0), (1, .int x), (2, .int y), (3, .int z)] := hl
  refine lv_aload_n hx hb dX11_next_0 rfl (lv_at hl 0 rfl) ?_
  refine va_get (D := (dC, dI)) (ci := 13) (v := .ref sc) (C := RX11) (T := TX11) (N := 7) hx hb hts kc_xNext_0 hown hK hP 0 rfl rfl 0 (by decide) (hts (.fieldLink RX11 14 "MistHeaps" "scene" "LMistHeaps$Scene;") kc_xNext_1) (fun _ h9 => h9) rfl dX11_next_1 ?_
  refine lv_iload_n hx hb dX11_next_4 rfl (lv_at hl 1 rfl) ?_
  have hPc := hP.sub (ws' := [(sc, .inr (10, [.ref aTp, .int 0, .ref aHl, .int 0, .long 0, .int 0, .int 0, .ref aHs, .int 0, .ref aWk, .int 0, .ref aBk, .int 0, .ref aFc]))]) [1] rfl
  have hKc := hK.sub (tys' := []) [] rfl
  refine va_csq (va_runV (As := [.int x]) (rest := []) ⟨hx, hb, hml, hown, hts⟩ (c_xHeapAt l dC dI sc aTp aHl aHs aWk aBk aFc x) (cwV 1 hts gX11_next_X8_heapAt rfl rfl rfl (by decide +kernel) ⟨Nat.le_of_ble_eq_true rfl, Nat.le_of_ble_eq_true rfl⟩) ⟨fun a U g mk q => by obtain ⟨q0, qP, qK⟩ := q; exact ⟨q0, qP, va_K.moved (u := U) (U := U.calling g mk a) (Vm.Alike.refl U.vm) qK⟩, va_recv hK hP (ci := 10) (q0 := 1) rfl rfl, fun U hU hW => ⟨rfl, by rw [hU]; exact hPc, va_K.moved hW.alike hKc⟩⟩ rfl rfl hl.1 rfl (lv_room (Nat.le_of_ble_eq_true rfl)) dX11_next_5 ⟨Nat.le_of_ble_eq_true rfl, Nat.le_of_ble_eq_true rfl⟩).run (fun r_1 hw_2 => ?_)
  refine qq_as (v := .null) (by rw [hw_2]; rfl) ?_
  refine lv_astoreN (lv' := [(4, .null), (0, .ref h0), (1, .int x), (2, .int y), (3, .int z)]) hx hb dX11_next_8 hl (by decide) rfl (fun ls hl => ?_)
  refine lv_aload_n hx hb dX11_next_10 rfl (lv_at hl 1 rfl) ?_
  refine va_get (D := (dC, dI)) (ci := 13) (v := .ref sc) (C := RX11) (T := TX11) (N := 7) hx hb hts kc_xNext_0 hown hK hP 0 rfl rfl 0 (by decide) (hts (.fieldLink RX11 14 "MistHeaps" "scene" "LMistHeaps$Scene;") kc_xNext_1) (fun _ h9 => h9) rfl dX11_next_11 ?_
  refine lv_iload_n hx hb dX11_next_14 rfl (lv_at hl 3 rfl) ?_
  have hPc := hP.sub (ws' := [(sc, .inr (10, [.ref aTp, .int 0, .ref aHl, .int 0, .long 0, .int 0, .int 0, .ref aHs, .int 0, .ref aWk, .int 0, .ref aBk, .int 0, .ref aFc]))]) [1] rfl
  have hKc := hK.sub (tys' := []) [] rfl
  refine va_csq (va_runV (As := [.int y]) (rest := []) ⟨hx, hb, hml, hown, hts⟩ (c_xHeapAt l dC dI sc aTp aHl aHs aWk aBk aFc y) (cwV 1 hts gX11_next_X8_heapAt rfl rfl rfl (by decide +kernel) ⟨Nat.le_of_ble_eq_true rfl, Nat.le_of_ble_eq_true rfl⟩) ⟨fun a U g mk q => by obtain ⟨q0, qP, qK⟩ := q; exact ⟨q0, qP, va_K.moved (u := U) (U := U.calling g mk a) (Vm.Alike.refl U.vm) qK⟩, va_recv hK hP (ci := 10) (q0 := 1) rfl rfl, fun U hU hW => ⟨rfl, by rw [hU]; exact hPc, va_K.moved hW.alike hKc⟩⟩ rfl rfl hl.1 rfl (lv_room (Nat.le_of_ble_eq_true rfl)) dX11_next_15 ⟨Nat.le_of_ble_eq_true rfl, Nat.le_of_ble_eq_true rfl⟩).run (fun r_3 hw_4 => ?_)
  refine qq_as (v := .null) (by rw [hw_4]; rfl) ?_
  refine lv_astoreN (lv' := [(5, .null), (4, .null), (0, .ref h0), (1, .int x), (2, .int y), (3, .int z)]) hx hb dX11_next_18 hl (by decide) rfl (fun ls hl => ?_)
  refine lv_aload_n hx hb dX11_next_20 rfl (lv_at hl 2 rfl) ?_
  refine va_get (D := (dC, dI)) (ci := 13) (v := .ref sc) (C := RX11) (T := TX11) (N := 7) hx hb hts kc_xNext_0 hown hK hP 0 rfl rfl 0 (by decide) (hts (.fieldLink RX11 14 "MistHeaps" "scene" "LMistHeaps$Scene;") kc_xNext_1) (fun _ h9 => h9) rfl dX11_next_21 ?_
  refine lv_iload_n hx hb dX11_next_24 rfl (lv_at hl 5 rfl) ?_
  have hPc := hP.sub (ws' := [(sc, .inr (10, [.ref aTp, .int 0, .ref aHl, .int 0, .long 0, .int 0, .int 0, .ref aHs, .int 0, .ref aWk, .int 0, .ref aBk, .int 0, .ref aFc]))]) [1] rfl
  have hKc := hK.sub (tys' := []) [] rfl
  refine va_csq (va_runV (As := [.int z]) (rest := []) ⟨hx, hb, hml, hown, hts⟩ (c_xHeapAt l dC dI sc aTp aHl aHs aWk aBk aFc z) (cwV 1 hts gX11_next_X8_heapAt rfl rfl rfl (by decide +kernel) ⟨Nat.le_of_ble_eq_true rfl, Nat.le_of_ble_eq_true rfl⟩) ⟨fun a U g mk q => by obtain ⟨q0, qP, qK⟩ := q; exact ⟨q0, qP, va_K.moved (u := U) (U := U.calling g mk a) (Vm.Alike.refl U.vm) qK⟩, va_recv hK hP (ci := 10) (q0 := 1) rfl rfl, fun U hU hW => ⟨rfl, by rw [hU]; exact hPc, va_K.moved hW.alike hKc⟩⟩ rfl rfl hl.1 rfl (lv_room (Nat.le_of_ble_eq_true rfl)) dX11_next_25 ⟨Nat.le_of_ble_eq_true rfl, Nat.le_of_ble_eq_true rfl⟩).run (fun r_5 hw_6 => ?_)
  refine qq_as (v := .null) (by rw [hw_6]; rfl) ?_
  refine lv_astoreN (lv' := [(6, .null), (5, .null), (4, .null), (0, .ref h0), (1, .int x), (2, .int y), (3, .int z)]) hx hb dX11_next_28 hl (by decide) rfl (fun ls hl => ?_)
  refine lv_aloadN hx hb dX11_next_30 (lv_at hl 2 rfl) ?_
  refine lv_ifnullN (tgt := 45) hx hb dX11_next_32 (by decide) ?_
  refine lv_iconst (v := (-1)) hx hb dX11_next_45 (by decide) ?_
  rw [hQ]
  exact W.iret (v := (-1)) hx hb hr (fun t ht hW => ⟨(-1), rfl, rfl, by rw [ht]⟩) (fun q hq => absurd hq List.not_mem_nil) dX11_next_46

theorem kc_xAs_0 : ∀ w ∈ wsX110, w ∈ wsX11_as := by decide +kernel
theorem kc_xAs_1 : (.fieldLink RX11 14 "MistHeaps" "scene" "LMistHeaps$Scene;" : Cond) ∈ wsX11_as := by decide +kernel
set_option maxHeartbeats 4000000 in
set_option maxRecDepth 100000 in
theorem c_xAs (l : Launch) (dC : Nat → ClassId) (dI : Nat → Nat → Nat) (h0 sc kp bl go ch bo aTp aHl aHs aWk aBk aFc : Nat) (x y : Int32) : Met l yX11_as wsX11_as ({ frames := 1, cells := 0, slots := 0, locals := 21 } : Room) (va_Pc [.ref h0, .int x, .int y] (fun U => va_P (dC, dI) vwCl [(h0, .inr (13, [.ref sc, .ref kp, .int 0, .ref bl, .ref go, .ref ch, .ref bo])), (sc, .inr (10, [.ref aTp, .int 0, .ref aHl, .int 0, .long 0, .int 0, .int 0, .ref aHs, .int 0, .ref aWk, .int 0, .ref aBk, .int 0, .ref aFc]))] U.heap ∧ va_K (dC, dI) vwCl [] U)) (vp_Si (fun r => r = -1)) 0 0 (fun _ => False) := by
  refine met_ofQ (cc := cX11_as) (maxL := 4) (ret := (some .int)) (by decide) rfl ?_
  intro p e s m args below meth c s₁ Q B hml hv hQ
  obtain ⟨rfl, hP, hK⟩ := hv
  have hx := B.exec
  have hb := B.bytes
  have hr := B.returns
  have hts := atoms_spec (ws := wsX11_as) B.pre
  have hown : s.vm.findClass RX11 = some m.cls := findClass_of_methodNamed B.named
  have hlocks := B.notSynchronized
  obtain ⟨A, hAe⟩ : ∃ A : Nat → Prop, A = fun _ => False := ⟨_, rfl⟩
  rw [← hAe] at hQ
  have hS : va_S A s.heap s.heap [] := va_S.rf
  have hl := lv_entry [.ref h0, .int x, .int y] (n := 4) (Nat.le_of_ble_eq_true rfl)
  rw [lg_entry_eq]
  generalize (lg_sl [.ref h0, .int x, .int y] ++ List.replicate (4 - (lg_sl [.ref h0, .int x, .int y]).length) Slot.unset).toArray = ls at hl ⊢
  generalize hag : ([.ref h0, .int x, .int y] : List Value).toArray = args at hts hQ ⊢
  have hl : lv_has ls 4 [(0, .ref h0), (1, .int x), (2, .int y)] := hl
  refine lv_aload_n hx hb dX11_as_0 rfl (lv_at hl 0 rfl) ?_
  refine va_get (D := (dC, dI)) (ci := 13) (v := .ref sc) (C := RX11) (T := TX11) (N := 7) hx hb hts kc_xAs_0 hown hK hP 0 rfl rfl 0 (by decide) (hts (.fieldLink RX11 14 "MistHeaps" "scene" "LMistHeaps$Scene;") kc_xAs_1) (fun _ h9 => h9) rfl dX11_as_1 ?_
  refine lv_iload_n hx hb dX11_as_4 rfl (lv_at hl 1 rfl) ?_
  have hPc := hP.sub (ws' := [(sc, .inr (10, [.ref aTp, .int 0, .ref aHl, .int 0, .long 0, .int 0, .int 0, .ref aHs, .int 0, .ref aWk, .int 0, .ref aBk, .int 0, .ref aFc]))]) [1] rfl
  have hKc := hK.sub (tys' := []) [] rfl
  refine va_csq (va_runV (As := [.int x]) (rest := []) ⟨hx, hb, hml, hown, hts⟩ (c_xHeapAt l dC dI sc aTp aHl aHs aWk aBk aFc x) (cwV 1 hts gX11_as_X8_heapAt rfl rfl rfl (by decide +kernel) ⟨Nat.le_of_ble_eq_true rfl, Nat.le_of_ble_eq_true rfl⟩) ⟨fun a U g mk q => by obtain ⟨q0, qP, qK⟩ := q; exact ⟨q0, qP, va_K.moved (u := U) (U := U.calling g mk a) (Vm.Alike.refl U.vm) qK⟩, va_recv hK hP (ci := 10) (q0 := 1) rfl rfl, fun U hU hW => ⟨rfl, by rw [hU]; exact hPc, va_K.moved hW.alike hKc⟩⟩ rfl rfl hl.1 rfl (lv_room (Nat.le_of_ble_eq_true rfl)) dX11_as_5 ⟨Nat.le_of_ble_eq_true rfl, Nat.le_of_ble_eq_true rfl⟩).run (fun r_1 hw_2 => ?_)
  refine qq_as (v := .null) (by rw [hw_2]; rfl) ?_
  refine lv_astore_nN (lv' := [(3, .null), (0, .ref h0), (1, .int x), (2, .int y)]) hx hb dX11_as_8 rfl hl (by decide) rfl (fun ls hl => ?_)
  refine lv_aload_nN hx hb dX11_as_9 rfl (lv_at hl 0 rfl) ?_
  refine lv_ifnullN (tgt := 23) hx hb dX11_as_10 (by decide) ?_
  refine lv_iconst (v := (-1)) hx hb dX11_as_23 (by decide) ?_
  rw [hQ]
  exact W.iret (v := (-1)) hx hb hr (fun t ht hW => ⟨(-1), rfl, rfl, by rw [ht]⟩) (fun q hq => absurd hq List.not_mem_nil) dX11_as_24

theorem kc_xUndo_0 : ∀ w ∈ wsX110, w ∈ wsX11_undo := by decide +kernel
theorem kc_xUndo_1 : (.fieldLink RX11 21 "MistHeaps" "isKept" "Z" : Cond) ∈ wsX11_undo := by decide +kernel
set_option maxHeartbeats 4000000 in
set_option maxRecDepth 100000 in
theorem c_xUndo (l : Launch) (dC : Nat → ClassId) (dI : Nat → Nat → Nat) (h0 sc kp bl go ch bo aTp aHl aHs aWk aBk aFc : Nat) : Met l yX11_undo wsX11_undo ({ frames := 0, cells := 0, slots := 0, locals := 0 } : Room) (va_Pc [.ref h0] (fun U => va_P (dC, dI) vwCl [(h0, .inr (13, [.ref sc, .ref kp, .int 0, .ref bl, .ref go, .ref ch, .ref bo])), (sc, .inr (10, [.ref aTp, .int 0, .ref aHl, .int 0, .long 0, .int 0, .int 0, .ref aHs, .int 0, .ref aWk, .int 0, .ref aBk, .int 0, .ref aFc]))] U.heap ∧ va_K (dC, dI) vwCl [] U)) (vp_Si (fun r => r = -3)) 0 0 (fun _ => False) := by
  refine met_ofQ (cc := cX11_undo) (maxL := 1) (ret := (some .int)) (by decide) rfl ?_
  intro p e s m args below meth c s₁ Q B hml hv hQ
  obtain ⟨rfl, hP, hK⟩ := hv
  have hx := B.exec
  have hb := B.bytes
  have hr := B.returns
  have hts := atoms_spec (ws := wsX11_undo) B.pre
  have hown : s.vm.findClass RX11 = some m.cls := findClass_of_methodNamed B.named
  have hlocks := B.notSynchronized
  obtain ⟨A, hAe⟩ : ∃ A : Nat → Prop, A = fun _ => False := ⟨_, rfl⟩
  rw [← hAe] at hQ
  have hS : va_S A s.heap s.heap [] := va_S.rf
  have hl := lv_entry [.ref h0] (n := 1) (Nat.le_of_ble_eq_true rfl)
  rw [lg_entry_eq]
  generalize (lg_sl [.ref h0] ++ List.replicate (1 - (lg_sl [.ref h0]).length) Slot.unset).toArray = ls at hl ⊢
  generalize hag : ([.ref h0] : List Value).toArray = args at hts hQ ⊢
  have hl : lv_has ls 1 [(0, .ref h0)] := hl
  refine lv_aload_n hx hb dX11_undo_0 rfl (lv_at hl 0 rfl) ?_
  refine va_get (D := (dC, dI)) (ci := 13) (v := .int 0) (C := RX11) (T := TX11) (N := 7) hx hb hts kc_xUndo_0 hown hK hP 0 rfl rfl 2 (by decide) (hts (.fieldLink RX11 21 "MistHeaps" "isKept" "Z") kc_xUndo_1) (fun _ h9 => h9) rfl dX11_undo_1 ?_
  refine lv_if_ne (tgt := 10) hx hb dX11_undo_4 (by decide) (fun c_1 => absurd c_1 (by decide)) (fun _ => ?_)
  refine lv_bipush (v := (-3)) hx hb dX11_undo_7 (by decide) ?_
  rw [hQ]
  exact W.iret (v := (-3)) hx hb hr (fun t ht hW => ⟨(-3), rfl, rfl, by rw [ht]⟩) (fun q hq => absurd hq List.not_mem_nil) dX11_undo_9

theorem kc_lsize_0 : ∀ w ∈ wsJx4a65c0, w ∈ wsJx4a65c_size_8abf5 := by decide +kernel
theorem kc_lsize_1 : (.fieldLink RJx4a65c 48 "java/util/ArrayList" "size" "I" : Cond) ∈ wsJx4a65c_size_8abf5 := by decide +kernel
set_option maxHeartbeats 4000000 in
set_option maxRecDepth 100000 in
theorem c_lsize (l : Launch) (dC : Nat → ClassId) (dI : Nat → Nat → Nat) (bo bS : Nat) : Met l yJx4a65c_size_8abf5 wsJx4a65c_size_8abf5 ({ frames := 0, cells := 0, slots := 0, locals := 0 } : Room) (va_Pc [.ref bo] (fun U => va_P (dC, dI) vwCl [(bo, .inr (1, [.int 0, .ref bS, .int 0]))] U.heap ∧ va_K (dC, dI) vwCl [] U)) (vp_Si (fun r => r = 0)) 0 0 (fun _ => False) := by
  refine met_ofQ (cc := cJx4a65c_size_8abf5) (maxL := 1) (ret := (some .int)) (by decide) rfl ?_
  intro p e s m args below meth c s₁ Q B hml hv hQ
  obtain ⟨rfl, hP, hK⟩ := hv
  have hx := B.exec
  have hb := B.bytes
  have hr := B.returns
  have hts := atoms_spec (ws := wsJx4a65c_size_8abf5) B.pre
  have hown : s.vm.findClass RJx4a65c = some m.cls := findClass_of_methodNamed B.named
  have hlocks := B.notSynchronized
  obtain ⟨A, hAe⟩ : ∃ A : Nat → Prop, A = fun _ => False := ⟨_, rfl⟩
  rw [← hAe] at hQ
  have hS : va_S A s.heap s.heap [] := va_S.rf
  have hl := lv_entry [.ref bo] (n := 1) (Nat.le_of_ble_eq_true rfl)
  rw [lg_entry_eq]
  generalize (lg_sl [.ref bo] ++ List.replicate (1 - (lg_sl [.ref bo]).length) Slot.unset).toArray = ls at hl ⊢
  generalize hag : ([.ref bo] : List Value).toArray = args at hts hQ ⊢
  have hl : lv_has ls 1 [(0, .ref bo)] := hl
  refine lv_aload_n hx hb dJx4a65c_size_8abf5_0 rfl (lv_at hl 0 rfl) ?_
  refine va_get (D := (dC, dI)) (ci := 1) (v := .int 0) (C := RJx4a65c) (T := TJx4a65c) (N := 3) hx hb hts kc_lsize_0 hown hK hP 0 rfl rfl 2 (by decide) (hts (.fieldLink RJx4a65c 48 "java/util/ArrayList" "size" "I") kc_lsize_1) (fun _ h9 => h9) rfl dJx4a65c_size_8abf5_1 ?_
  rw [hQ]
  exact W.iret (v := 0) hx hb hr (fun t ht hW => ⟨0, rfl, rfl, by rw [ht]⟩) (fun q hq => absurd hq List.not_mem_nil) dJx4a65c_size_8abf5_4

theorem kc_xTrace_0 : ∀ w ∈ wsX110, w ∈ wsX11_trace := by decide +kernel
theorem kc_xTrace_1 : (.fieldLink RX11 49 "MistHeaps" "bodies" "Ljava/util/ArrayList;" : Cond) ∈ wsX11_trace := by decide +kernel
set_option maxHeartbeats 4000000 in
set_option maxRecDepth 100000 in
theorem c_xTrace (l : Launch) (dC : Nat → ClassId) (dI : Nat → Nat → Nat) (h0 sc kp bl go ch bo aTp aHl aHs aWk aBk aFc : Nat) (bS : Nat) (x : Int32) : Met l yX11_trace wsX11_trace ({ frames := 1, cells := 0, slots := 0, locals := 20 } : Room) (va_Pc [.ref h0, .int x] (fun U => va_P (dC, dI) vwCl [(h0, .inr (13, [.ref sc, .ref kp, .int 0, .ref bl, .ref go, .ref ch, .ref bo])), (sc, .inr (10, [.ref aTp, .int 0, .ref aHl, .int 0, .long 0, .int 0, .int 0, .ref aHs, .int 0, .ref aWk, .int 0, .ref aBk, .int 0, .ref aFc])), (bo, .inr (1, [.int 0, .ref bS, .int 0]))] U.heap ∧ va_K (dC, dI) vwCl [] U)) (vp_Si (fun r => r = -1)) 0 0 (fun _ => False) := by
  refine met_ofQ (cc := cX11_trace) (maxL := 2) (ret := (some .int)) (by decide) rfl ?_
  intro p e s m args below meth c s₁ Q B hml hv hQ
  obtain ⟨rfl, hP, hK⟩ := hv
  have hx := B.exec
  have hb := B.bytes
  have hr := B.returns
  have hts := atoms_spec (ws := wsX11_trace) B.pre
  have hown : s.vm.findClass RX11 = some m.cls := findClass_of_methodNamed B.named
  have hlocks := B.notSynchronized
  obtain ⟨A, hAe⟩ : ∃ A : Nat → Prop, A = fun _ => False := ⟨_, rfl⟩
  rw [← hAe] at hQ
  have hS : va_S A s.heap s.heap [] := va_S.rf
  have hl := lv_entry [.ref h0, .int x] (n := 2) (Nat.le_of_ble_eq_true rfl)
  rw [lg_entry_eq]
  generalize (lg_sl [.ref h0, .int x] ++ List.replicate (2 - (lg_sl [.ref h0, .int x]).length) Slot.unset).toArray = ls at hl ⊢
  generalize hag : ([.ref h0, .int x] : List Value).toArray = args at hts hQ ⊢
  have hl : lv_has ls 2 [(0, .ref h0), (1, .int x)] := hl
  refine lv_iload_n hx hb dX11_trace_0 rfl (lv_at hl 1 rfl) ?_
  refine lv_if_lt (tgt := 32) hx hb dX11_trace_1 (by decide) (fun c_1 => ?_) (fun c_1 => ?_)
  · skip
    refine lv_iconst (v := (-1)) hx hb dX11_trace_32 (by decide) ?_
    rw [hQ]
    exact W.iret (v := (-1)) hx hb hr (fun t ht hW => ⟨(-1), rfl, rfl, by rw [ht]⟩) (fun q hq => absurd hq List.not_mem_nil) dX11_trace_33
  · skip
    refine lv_iload_n hx hb dX11_trace_4 rfl (lv_at hl 1 rfl) ?_
    refine lv_aload_n hx hb dX11_trace_5 rfl (lv_at hl 0 rfl) ?_
    refine va_get (D := (dC, dI)) (ci := 13) (v := .ref bo) (C := RX11) (T := TX11) (N := 7) hx hb hts kc_xTrace_0 hown hK hP 0 rfl rfl 6 (by decide) (hts (.fieldLink RX11 49 "MistHeaps" "bodies" "Ljava/util/ArrayList;") kc_xTrace_1) (fun _ h9 => h9) rfl dX11_trace_6 ?_
    have hPc := hP.sub (ws' := [(bo, .inr (1, [.int 0, .ref bS, .int 0]))]) [2] rfl
    have hKc := hK.sub (tys' := []) [] rfl
    refine vp_callSi (va_runV (As := []) (rest := [.int x]) ⟨hx, hb, hml, hown, hts⟩ (c_lsize l dC dI bo bS) (cwV 0 hts gX11_trace_Jx4a65c_size_8abf5 rfl rfl rfl (by decide +kernel) ⟨Nat.le_of_ble_eq_true rfl, Nat.le_of_ble_eq_true rfl⟩) ⟨fun a U g mk q => by obtain ⟨q0, qP, qK⟩ := q; exact ⟨q0, qP, va_K.moved (u := U) (U := U.calling g mk a) (Vm.Alike.refl U.vm) qK⟩, va_recv hK hP (ci := 1) (q0 := 2) rfl rfl, fun U hU hW => ⟨rfl, by rw [hU]; exact hPc, va_K.moved hW.alike hKc⟩⟩ rfl rfl hl.1 rfl (lv_room (Nat.le_of_ble_eq_true rfl)) dX11_trace_9 ⟨Nat.le_of_ble_eq_true rfl, Nat.le_of_ble_eq_true rfl⟩).run (fun r_2 hw_3 => ?_)
    refine qi_as (y := 0) (hw_3) ?_
    refine lv_icmp_ge (tgt := 32) hx hb dX11_trace_12 (by decide) (fun c_4 => ?_) (fun c_4 => absurd c_4 ((not_not_intro (Int32.not_lt.mp (by assumption)))))
    refine lv_iconst (v := (-1)) hx hb dX11_trace_32 (by decide) ?_
    rw [hQ]
    exact W.iret (v := (-1)) hx hb hr (fun t ht hW => ⟨(-1), rfl, rfl, by rw [ht]⟩) (fun q hq => absurd hq List.not_mem_nil) dX11_trace_33

theorem kc_xCount_0 : ∀ w ∈ wsX110, w ∈ wsX11_count := by decide +kernel
theorem kc_xCount_1 : (.fieldLink RX11 14 "MistHeaps" "scene" "LMistHeaps$Scene;" : Cond) ∈ wsX11_count := by decide +kernel
theorem kc_xCount_2 : ∀ w ∈ wsX80, w ∈ wsX11_count := by decide +kernel
theorem kc_xCount_3 : (.fieldLink RX11 101 "MistHeaps$Scene" "heapCount" "I" : Cond) ∈ wsX11_count := by decide +kernel
theorem kc_xCount_4 : (.fieldLink RX11 61 "MistHeaps$Scene" "hills" "I" : Cond) ∈ wsX11_count := by decide +kernel
theorem kc_xCount_5 : (.fieldLink RX11 169 "MistHeaps$Scene" "walkSize" "I" : Cond) ∈ wsX11_count := by decide +kernel
theorem kc_xCount_6 : (.fieldLink RX11 221 "MistHeaps$Scene" "bookSize" "I" : Cond) ∈ wsX11_count := by decide +kernel
theorem kc_xCount_7 : (.fieldLink RX11 53 "MistHeaps$Scene" "tapeSize" "I" : Cond) ∈ wsX11_count := by decide +kernel
theorem kc_xCount_8 : (.fieldLink RX11 49 "MistHeaps" "bodies" "Ljava/util/ArrayList;" : Cond) ∈ wsX11_count := by decide +kernel
set_option maxHeartbeats 4000000 in
set_option maxRecDepth 100000 in
theorem c_xCount (l : Launch) (dC : Nat → ClassId) (dI : Nat → Nat → Nat) (h0 sc kp bl go ch bo aTp aHl aHs aWk aBk aFc : Nat) (bS : Nat) (x : Int32) : Met l yX11_count wsX11_count ({ frames := 1, cells := 0, slots := 0, locals := 20 } : Room) (va_Pc [.ref h0, .int x] (fun U => va_P (dC, dI) vwCl [(h0, .inr (13, [.ref sc, .ref kp, .int 0, .ref bl, .ref go, .ref ch, .ref bo])), (sc, .inr (10, [.ref aTp, .int 0, .ref aHl, .int 0, .long 0, .int 0, .int 0, .ref aHs, .int 0, .ref aWk, .int 0, .ref aBk, .int 0, .ref aFc])), (bo, .inr (1, [.int 0, .ref bS, .int 0]))] U.heap ∧ va_K (dC, dI) vwCl [] U)) (vp_Si (fun r => r = f_count x)) 0 0 (fun _ => False) := by
  refine met_ofQ (cc := cX11_count) (maxL := 2) (ret := (some .int)) (by decide) rfl ?_
  intro p e s m args below meth c s₁ Q B hml hv hQ
  obtain ⟨rfl, hP, hK⟩ := hv
  have hx := B.exec
  have hb := B.bytes
  have hr := B.returns
  have hts := atoms_spec (ws := wsX11_count) B.pre
  have hown : s.vm.findClass RX11 = some m.cls := findClass_of_methodNamed B.named
  have hlocks := B.notSynchronized
  obtain ⟨A, hAe⟩ : ∃ A : Nat → Prop, A = fun _ => False := ⟨_, rfl⟩
  rw [← hAe] at hQ
  have hS : va_S A s.heap s.heap [] := va_S.rf
  have hl := lv_entry [.ref h0, .int x] (n := 2) (Nat.le_of_ble_eq_true rfl)
  rw [lg_entry_eq]
  generalize (lg_sl [.ref h0, .int x] ++ List.replicate (2 - (lg_sl [.ref h0, .int x]).length) Slot.unset).toArray = ls at hl ⊢
  generalize hag : ([.ref h0, .int x] : List Value).toArray = args at hts hQ ⊢
  have hl : lv_has ls 2 [(0, .ref h0), (1, .int x)] := hl
  refine lv_iload_n hx hb dX11_count_0 rfl (lv_at hl 1 rfl) ?_
  by_cases c_1_0 : x = 0
  · skip
    refine lv_tableIn (tgt := 40) hx hb dX11_count_1 (by rw [c_1_0]; decide) (by rw [c_1_0]; decide) (by rw [c_1_0]; rfl) (by decide) ?_
    refine lv_aload_n hx hb dX11_count_40 rfl (lv_at hl 0 rfl) ?_
    refine va_get (D := (dC, dI)) (ci := 13) (v := .ref sc) (C := RX11) (T := TX11) (N := 7) hx hb hts kc_xCount_0 hown hK hP 0 rfl rfl 0 (by decide) (hts (.fieldLink RX11 14 "MistHeaps" "scene" "LMistHeaps$Scene;") kc_xCount_1) (fun _ h9 => h9) rfl dX11_count_41 ?_
    refine va_get (D := (dC, dI)) (ci := 10) (v := .int 0) (C := RX8) (T := TX8) (N := 14) hx hb hts kc_xCount_2 hown hK hP 1 rfl rfl 8 (by decide) (hts (.fieldLink RX11 101 "MistHeaps$Scene" "heapCount" "I") kc_xCount_3) (fun _ h9 => h9) rfl dX11_count_44 ?_
    rw [hQ]
    exact W.iret (v := 0) hx hb hr (fun t ht hW => ⟨0, rfl, by simp only [f_count]; (repeat' split) <;> first | (simp_all; done) | (simp only [← Int32.not_lt] at *; simp_all), by rw [ht]⟩) (fun q hq => absurd hq List.not_mem_nil) dX11_count_47
  by_cases c_1_1 : x = 1
  · skip
    refine lv_tableIn (tgt := 48) hx hb dX11_count_1 (by rw [c_1_1]; decide) (by rw [c_1_1]; decide) (by rw [c_1_1]; rfl) (by decide) ?_
    refine lv_aload_n hx hb dX11_count_48 rfl (lv_at hl 0 rfl) ?_
    refine va_get (D := (dC, dI)) (ci := 13) (v := .ref sc) (C := RX11) (T := TX11) (N := 7) hx hb hts kc_xCount_0 hown hK hP 0 rfl rfl 0 (by decide) (hts (.fieldLink RX11 14 "MistHeaps" "scene" "LMistHeaps$Scene;") kc_xCount_1) (fun _ h9 => h9) rfl dX11_count_49 ?_
    refine va_get (D := (dC, dI)) (ci := 10) (v := .int 0) (C := RX8) (T := TX8) (N := 14) hx hb hts kc_xCount_2 hown hK hP 1 rfl rfl 3 (by decide) (hts (.fieldLink RX11 61 "MistHeaps$Scene" "hills" "I") kc_xCount_4) (fun _ h9 => h9) rfl dX11_count_52 ?_
    rw [hQ]
    exact W.iret (v := 0) hx hb hr (fun t ht hW => ⟨0, rfl, by simp only [f_count]; (repeat' split) <;> first | (simp_all; done) | (simp only [← Int32.not_lt] at *; simp_all), by rw [ht]⟩) (fun q hq => absurd hq List.not_mem_nil) dX11_count_55
  by_cases c_1_2 : x = 2
  · skip
    refine lv_tableIn (tgt := 56) hx hb dX11_count_1 (by rw [c_1_2]; decide) (by rw [c_1_2]; decide) (by rw [c_1_2]; rfl) (by decide) ?_
    refine lv_aload_n hx hb dX11_count_56 rfl (lv_at hl 0 rfl) ?_
    refine va_get (D := (dC, dI)) (ci := 13) (v := .ref sc) (C := RX11) (T := TX11) (N := 7) hx hb hts kc_xCount_0 hown hK hP 0 rfl rfl 0 (by decide) (hts (.fieldLink RX11 14 "MistHeaps" "scene" "LMistHeaps$Scene;") kc_xCount_1) (fun _ h9 => h9) rfl dX11_count_57 ?_
    refine va_get (D := (dC, dI)) (ci := 10) (v := .int 0) (C := RX8) (T := TX8) (N := 14) hx hb hts kc_xCount_2 hown hK hP 1 rfl rfl 10 (by decide) (hts (.fieldLink RX11 169 "MistHeaps$Scene" "walkSize" "I") kc_xCount_5) (fun _ h9 => h9) rfl dX11_count_60 ?_
    rw [hQ]
    exact W.iret (v := 0) hx hb hr (fun t ht hW => ⟨0, rfl, by simp only [f_count]; (repeat' split) <;> first | (simp_all; done) | (simp only [← Int32.not_lt] at *; simp_all), by rw [ht]⟩) (fun q hq => absurd hq List.not_mem_nil) dX11_count_63
  by_cases c_1_3 : x = 3
  · skip
    refine lv_tableIn (tgt := 64) hx hb dX11_count_1 (by rw [c_1_3]; decide) (by rw [c_1_3]; decide) (by rw [c_1_3]; rfl) (by decide) ?_
    refine lv_aload_n hx hb dX11_count_64 rfl (lv_at hl 0 rfl) ?_
    refine va_get (D := (dC, dI)) (ci := 13) (v := .ref sc) (C := RX11) (T := TX11) (N := 7) hx hb hts kc_xCount_0 hown hK hP 0 rfl rfl 0 (by decide) (hts (.fieldLink RX11 14 "MistHeaps" "scene" "LMistHeaps$Scene;") kc_xCount_1) (fun _ h9 => h9) rfl dX11_count_65 ?_
    refine va_get (D := (dC, dI)) (ci := 10) (v := .int 0) (C := RX8) (T := TX8) (N := 14) hx hb hts kc_xCount_2 hown hK hP 1 rfl rfl 12 (by decide) (hts (.fieldLink RX11 221 "MistHeaps$Scene" "bookSize" "I") kc_xCount_6) (fun _ h9 => h9) rfl dX11_count_68 ?_
    rw [hQ]
    exact W.iret (v := 0) hx hb hr (fun t ht hW => ⟨0, rfl, by simp only [f_count]; (repeat' split) <;> first | (simp_all; done) | (simp only [← Int32.not_lt] at *; simp_all), by rw [ht]⟩) (fun q hq => absurd hq List.not_mem_nil) dX11_count_71
  by_cases c_1_4 : x = 4
  · skip
    refine lv_tableIn (tgt := 72) hx hb dX11_count_1 (by rw [c_1_4]; decide) (by rw [c_1_4]; decide) (by rw [c_1_4]; rfl) (by decide) ?_
    refine lv_aload_n hx hb dX11_count_72 rfl (lv_at hl 0 rfl) ?_
    refine va_get (D := (dC, dI)) (ci := 13) (v := .ref sc) (C := RX11) (T := TX11) (N := 7) hx hb hts kc_xCount_0 hown hK hP 0 rfl rfl 0 (by decide) (hts (.fieldLink RX11 14 "MistHeaps" "scene" "LMistHeaps$Scene;") kc_xCount_1) (fun _ h9 => h9) rfl dX11_count_73 ?_
    refine va_get (D := (dC, dI)) (ci := 10) (v := .int 0) (C := RX8) (T := TX8) (N := 14) hx hb hts kc_xCount_2 hown hK hP 1 rfl rfl 1 (by decide) (hts (.fieldLink RX11 53 "MistHeaps$Scene" "tapeSize" "I") kc_xCount_7) (fun _ h9 => h9) rfl dX11_count_76 ?_
    rw [hQ]
    exact W.iret (v := 0) hx hb hr (fun t ht hW => ⟨0, rfl, by simp only [f_count]; (repeat' split) <;> first | (simp_all; done) | (simp only [← Int32.not_lt] at *; simp_all), by rw [ht]⟩) (fun q hq => absurd hq List.not_mem_nil) dX11_count_79
  by_cases c_1_5 : x = 5
  · skip
    refine lv_tableIn (tgt := 80) hx hb dX11_count_1 (by rw [c_1_5]; decide) (by rw [c_1_5]; decide) (by rw [c_1_5]; rfl) (by decide) ?_
    refine lv_aload_n hx hb dX11_count_80 rfl (lv_at hl 0 rfl) ?_
    refine va_get (D := (dC, dI)) (ci := 13) (v := .ref bo) (C := RX11) (T := TX11) (N := 7) hx hb hts kc_xCount_0 hown hK hP 0 rfl rfl 6 (by decide) (hts (.fieldLink RX11 49 "MistHeaps" "bodies" "Ljava/util/ArrayList;") kc_xCount_8) (fun _ h9 => h9) rfl dX11_count_81 ?_
    have hPc := hP.sub (ws' := [(bo, .inr (1, [.int 0, .ref bS, .int 0]))]) [2] rfl
    have hKc := hK.sub (tys' := []) [] rfl
    refine vp_callSi (va_runV (As := []) (rest := []) ⟨hx, hb, hml, hown, hts⟩ (c_lsize l dC dI bo bS) (cwV 0 hts gX11_count_Jx4a65c_size_8abf5 rfl rfl rfl (by decide +kernel) ⟨Nat.le_of_ble_eq_true rfl, Nat.le_of_ble_eq_true rfl⟩) ⟨fun a U g mk q => by obtain ⟨q0, qP, qK⟩ := q; exact ⟨q0, qP, va_K.moved (u := U) (U := U.calling g mk a) (Vm.Alike.refl U.vm) qK⟩, va_recv hK hP (ci := 1) (q0 := 2) rfl rfl, fun U hU hW => ⟨rfl, by rw [hU]; exact hPc, va_K.moved hW.alike hKc⟩⟩ rfl rfl hl.1 rfl (lv_room (Nat.le_of_ble_eq_true rfl)) dX11_count_84 ⟨Nat.le_of_ble_eq_true rfl, Nat.le_of_ble_eq_true rfl⟩).run (fun r_2 hw_3 => ?_)
    refine qi_as (y := 0) (hw_3) ?_
    rw [hQ]
    exact W.iret (v := 0) hx hb hr (fun t ht hW => ⟨0, rfl, by simp only [f_count]; (repeat' split) <;> first | (simp_all; done) | (simp only [← Int32.not_lt] at *; simp_all), by rw [ht]⟩) (fun q hq => absurd hq List.not_mem_nil) dX11_count_87
  refine lv_tableOut (tgt := 88) hx hb dX11_count_1 (sw_out 0 5 x (fun k hk => by
    match k, hk with
    | 0, _ => exact c_1_0
    | 1, _ => exact c_1_1
    | 2, _ => exact c_1_2
    | 3, _ => exact c_1_3
    | 4, _ => exact c_1_4
    | 5, _ => exact c_1_5
    | k + 6, hk => exact absurd hk (by omega))) (by decide) ?_
  refine lv_iconst (v := (-1)) hx hb dX11_count_88 (by decide) ?_
  rw [hQ]
  exact W.iret (v := (-1)) hx hb hr (fun t ht hW => ⟨(-1), rfl, by simp only [f_count]; (repeat' split) <;> first | (simp_all; done) | (simp only [← Int32.not_lt] at *; simp_all), by rw [ht]⟩) (fun q hq => absurd hq List.not_mem_nil) dX11_count_89

theorem kc_lclear_0 : (.sameField "java/util/ArrayList" "java/util/AbstractList" "modCount" "I" : Cond) ∈ wsJx4a65c_clear_da8c8 := by decide +kernel
theorem kc_lclear_1 : ∀ w ∈ wsJx4a65c0, w ∈ wsJx4a65c_clear_da8c8 := by decide +kernel
theorem kc_lclear_2 : (.fieldLink RJx4a65c 63 "java/util/ArrayList" "modCount" "I" : Cond) ∈ wsJx4a65c_clear_da8c8 := by decide +kernel
theorem kc_lclear_3 : (.fieldLink RJx4a65c 9 "java/util/ArrayList" "elementData" "[Ljava/lang/Object;" : Cond) ∈ wsJx4a65c_clear_da8c8 := by decide +kernel
theorem kc_lclear_4 : (.fieldLink RJx4a65c 48 "java/util/ArrayList" "size" "I" : Cond) ∈ wsJx4a65c_clear_da8c8 := by decide +kernel
set_option maxHeartbeats 4000000 in
set_option maxRecDepth 100000 in
theorem c_lclear (l : Launch) (dC : Nat → ClassId) (dI : Nat → Nat → Nat) (bo bS : Nat) (sz : Nat) : Met l yJx4a65c_clear_da8c8 wsJx4a65c_clear_da8c8 ({ frames := 0, cells := 0, slots := 0, locals := 0 } : Room) (va_Pc [.ref bo] (fun U => U.heap.size = sz ∧ va_P (dC, dI) vwCl [(bo, .inr (1, [.int 0, .ref bS, .int 0]))] U.heap ∧ va_K (dC, dI) vwCl [] U ∧ va_D (fun _ => True) [(bo, .inr (1, [.int 0, .ref bS, .int 0]))])) (va_Qv (fun (u : Unit) => match u with | () => True) (fun (u : Unit) (t : State) => match u with | () => True) (va_A [(bo, .inr (1, [.int 0, .ref bS, .int 0]))] sz)) 0 0 (va_A [(bo, .inr (1, [.int 0, .ref bS, .int 0]))] sz) := by
  refine met_ofQ (cc := cJx4a65c_clear_da8c8) (maxL := 4) (ret := none) (by decide) rfl ?_
  intro p e s m args below meth c s₁ Q B hml hv hQ
  obtain ⟨rfl, hsz, hP, hK, hD0⟩ := hv
  have hx := B.exec
  have hb := B.bytes
  have hr := B.returns
  have hts := atoms_spec (ws := wsJx4a65c_clear_da8c8) B.pre
  have hown : s.vm.findClass RJx4a65c = some m.cls := findClass_of_methodNamed B.named
  have hlocks := B.notSynchronized
  subst hsz
  have hD := hD0.self (sz := s.heap.size)
  generalize hAe : va_A [(bo, .inr (1, [.int 0, .ref bS, .int 0]))] s.heap.size = A at hD hQ ⊢
  have hA : ∀ q : Nat, s.heap.size ≤ q → A q := fun q h => by rw [← hAe]; exact Or.inr h
  have hS : va_S A s.heap s.heap [] := va_S.rf
  have hl := lv_entry [.ref bo] (n := 4) (Nat.le_of_ble_eq_true rfl)
  rw [lg_entry_eq]
  generalize (lg_sl [.ref bo] ++ List.replicate (4 - (lg_sl [.ref bo]).length) Slot.unset).toArray = ls at hl ⊢
  generalize hag : ([.ref bo] : List Value).toArray = args at hts hQ ⊢
  have hl : lv_has ls 4 [(0, .ref bo)] := hl
  obtain ⟨H, hH⟩ : ∃ H : Heap, H = s.heap := ⟨_, rfl⟩
  rw [← hH] at hP
  rw [← hH]
  have hS : va_S A s.heap H [] := by rw [hH]; exact hS
  obtain ⟨locs, hlo⟩ : ∃ L : List Loc, L = [] := ⟨_, rfl⟩
  rw [← hlo] at hS
  rw [← hlo]
  clear hH hlo
  refine lv_aload_n hx hb dJx4a65c_clear_da8c8_0 rfl (lv_at hl 0 rfl) ?_
  refine lv_dup hx hb dJx4a65c_clear_da8c8_1 rfl ?_
  refine va_get (D := (dC, dI)) (ci := 1) (v := .int 0) (C := RJx4a65c) (T := TJx4a65c) (N := 3) hx hb hts kc_lclear_1 hown hK hP 0 rfl rfl 0 (by decide) (hts (.fieldLink RJx4a65c 63 "java/util/ArrayList" "modCount" "I") kc_lclear_2) (fun x h => u_same (hts (.sameField "java/util/ArrayList" "java/util/AbstractList" "modCount" "I") kc_lclear_0) x h) rfl dJx4a65c_clear_da8c8_2 ?_
  refine lv_iconst (v := 1) hx hb dJx4a65c_clear_da8c8_5 (by decide) ?_
  refine lv_iadd hx hb dJx4a65c_clear_da8c8_6 ?_
  refine qi_as (y := 1) (by decide) ?_
  refine va_put (D := (dC, dI)) (ci := 1) (v := .int 1) (ty := .int) (C := RJx4a65c) (T := TJx4a65c) (N := 3) hx hb hts kc_lclear_1 tyJx4a65c tyJx4a65c_ok nmJx4a65c hown hK hP hD hS 0 rfl rfl 0 (by decide) (hts (.fieldLink RJx4a65c 63 "java/util/ArrayList" "modCount" "I") kc_lclear_2) (fun x h => u_same (hts (.sameField "java/util/ArrayList" "java/util/AbstractList" "modCount" "I") kc_lclear_0) x h) rfl (by decide +kernel) rfl rfl (Nat.le_of_ble_eq_true rfl) dJx4a65c_clear_da8c8_7 (fun H locs hP hD hS => ?_)
  have hP : va_P (dC, dI) vwCl [(bo, .inr (1, [.int 1, .ref bS, .int 0]))] H := hP
  have hD : va_D A [(bo, .inr (1, [.int 1, .ref bS, .int 0]))] := hD
  refine lv_aload_n hx hb dJx4a65c_clear_da8c8_10 rfl (lv_at hl 0 rfl) ?_
  refine va_get (D := (dC, dI)) (ci := 1) (v := .ref bS) (C := RJx4a65c) (T := TJx4a65c) (N := 3) hx hb hts kc_lclear_1 hown hK hP 0 rfl rfl 1 (by decide) (hts (.fieldLink RJx4a65c 9 "java/util/ArrayList" "elementData" "[Ljava/lang/Object;") kc_lclear_3) (fun _ h9 => h9) rfl dJx4a65c_clear_da8c8_11 ?_
  refine lv_astore_n (lv' := [(1, .ref bS), (0, .ref bo)]) hx hb dJx4a65c_clear_da8c8_14 rfl hl (by decide) rfl (fun ls hl => ?_)
  refine lv_aload_n hx hb dJx4a65c_clear_da8c8_15 rfl (lv_at hl 1 rfl) ?_
  refine va_get (D := (dC, dI)) (ci := 1) (v := .int 0) (C := RJx4a65c) (T := TJx4a65c) (N := 3) hx hb hts kc_lclear_1 hown hK hP 0 rfl rfl 2 (by decide) (hts (.fieldLink RJx4a65c 48 "java/util/ArrayList" "size" "I") kc_lclear_4) (fun _ h9 => h9) rfl dJx4a65c_clear_da8c8_16 ?_
  refine lv_istore_n (lv' := [(2, .int 0), (1, .ref bS), (0, .ref bo)]) hx hb dJx4a65c_clear_da8c8_19 rfl hl (by decide) rfl (fun ls hl => ?_)
  refine lv_aload_n hx hb dJx4a65c_clear_da8c8_20 rfl (lv_at hl 2 rfl) ?_
  refine lv_iconst (v := 0) hx hb dJx4a65c_clear_da8c8_21 (by decide) ?_
  refine lv_dup_x1 hx hb dJx4a65c_clear_da8c8_22 rfl rfl ?_
  refine va_put (D := (dC, dI)) (ci := 1) (v := .int 0) (ty := .int) (C := RJx4a65c) (T := TJx4a65c) (N := 3) hx hb hts kc_lclear_1 tyJx4a65c tyJx4a65c_ok nmJx4a65c hown hK hP hD hS 0 rfl rfl 2 (by decide) (hts (.fieldLink RJx4a65c 48 "java/util/ArrayList" "size" "I") kc_lclear_4) (fun _ h9 => h9) rfl (by decide +kernel) rfl rfl (Nat.le_of_ble_eq_true rfl) dJx4a65c_clear_da8c8_23 (fun H locs hP hD hS => ?_)
  have hP : va_P (dC, dI) vwCl [(bo, .inr (1, [.int 1, .ref bS, .int 0]))] H := hP
  have hD : va_D A [(bo, .inr (1, [.int 1, .ref bS, .int 0]))] := hD
  refine lv_istore_n (lv' := [(3, .int 0), (2, .int 0), (1, .ref bS), (0, .ref bo)]) hx hb dJx4a65c_clear_da8c8_26 rfl hl (by decide) rfl (fun ls hl => ?_)
  refine lv_iload_n hx hb dJx4a65c_clear_da8c8_27 rfl (lv_at hl 0 rfl) ?_
  refine lv_iload_n hx hb dJx4a65c_clear_da8c8_28 rfl (lv_at hl 1 rfl) ?_
  refine lv_icmp_ge (tgt := 42) hx hb dJx4a65c_clear_da8c8_29 (by decide) (fun _ => ?_) (fun c_1 => absurd c_1 (by decide))
  rw [hQ]
  exact W.vret hx hb hr (fun t ht hW => ⟨⟨(), rfl, trivial, trivial⟩, hS.F ht⟩) hS.2.2 dJx4a65c_clear_da8c8_42

theorem kc_xAct_0 : ∀ w ∈ wsX110, w ∈ wsX11_act := by decide +kernel
theorem kc_xAct_1 : (.fieldLink RX11 49 "MistHeaps" "bodies" "Ljava/util/ArrayList;" : Cond) ∈ wsX11_act := by decide +kernel
theorem kc_xAct_2 : (.fieldLink RX11 14 "MistHeaps" "scene" "LMistHeaps$Scene;" : Cond) ∈ wsX11_act := by decide +kernel
set_option maxHeartbeats 4000000 in
set_option maxRecDepth 100000 in
theorem c_xAct (l : Launch) (dC : Nat → ClassId) (dI : Nat → Nat → Nat) (h0 sc kp bl go ch bo aTp aHl aHs aWk aBk aFc : Nat) (bS : Nat) (x y z : Int32) (sz : Nat) : Met l yX11_act wsX11_act ({ frames := 1, cells := 0, slots := 0, locals := 23 } : Room) (va_Pc [.ref h0, .int x, .int y, .int z] (fun U => U.heap.size = sz ∧ va_P (dC, dI) vwCl [(h0, .inr (13, [.ref sc, .ref kp, .int 0, .ref bl, .ref go, .ref ch, .ref bo])), (sc, .inr (10, [.ref aTp, .int 0, .ref aHl, .int 0, .long 0, .int 0, .int 0, .ref aHs, .int 0, .ref aWk, .int 0, .ref aBk, .int 0, .ref aFc])), (bo, .inr (1, [.int 0, .ref bS, .int 0]))] U.heap ∧ va_K (dC, dI) vwCl [] U ∧ va_D (fun _ => True) [(h0, .inr (13, [.ref sc, .ref kp, .int 0, .ref bl, .ref go, .ref ch, .ref bo])), (sc, .inr (10, [.ref aTp, .int 0, .ref aHl, .int 0, .long 0, .int 0, .int 0, .ref aHs, .int 0, .ref aWk, .int 0, .ref aBk, .int 0, .ref aFc])), (bo, .inr (1, [.int 0, .ref bS, .int 0]))])) (va_Qi (fun (r : Int32) (u : Unit) => match u with | () => r = 0) (fun (u : Unit) (t : State) => match u with | () => True) (va_A [(h0, .inr (13, [.ref sc, .ref kp, .int 0, .ref bl, .ref go, .ref ch, .ref bo])), (sc, .inr (10, [.ref aTp, .int 0, .ref aHl, .int 0, .long 0, .int 0, .int 0, .ref aHs, .int 0, .ref aWk, .int 0, .ref aBk, .int 0, .ref aFc])), (bo, .inr (1, [.int 0, .ref bS, .int 0]))] sz)) 0 0 (va_A [(h0, .inr (13, [.ref sc, .ref kp, .int 0, .ref bl, .ref go, .ref ch, .ref bo])), (sc, .inr (10, [.ref aTp, .int 0, .ref aHl, .int 0, .long 0, .int 0, .int 0, .ref aHs, .int 0, .ref aWk, .int 0, .ref aBk, .int 0, .ref aFc])), (bo, .inr (1, [.int 0, .ref bS, .int 0]))] sz) := by
  refine met_ofQ (cc := cX11_act) (maxL := 5) (ret := (some .int)) (by decide) rfl ?_
  intro p e s m args below meth c s₁ Q B hml hv hQ
  obtain ⟨rfl, hsz, hP, hK, hD0⟩ := hv
  have hx := B.exec
  have hb := B.bytes
  have hr := B.returns
  have hts := atoms_spec (ws := wsX11_act) B.pre
  have hown : s.vm.findClass RX11 = some m.cls := findClass_of_methodNamed B.named
  have hlocks := B.notSynchronized
  subst hsz
  have hD := hD0.self (sz := s.heap.size)
  generalize hAe : va_A [(h0, .inr (13, [.ref sc, .ref kp, .int 0, .ref bl, .ref go, .ref ch, .ref bo])), (sc, .inr (10, [.ref aTp, .int 0, .ref aHl, .int 0, .long 0, .int 0, .int 0, .ref aHs, .int 0, .ref aWk, .int 0, .ref aBk, .int 0, .ref aFc])), (bo, .inr (1, [.int 0, .ref bS, .int 0]))] s.heap.size = A at hD hQ ⊢
  have hA : ∀ q : Nat, s.heap.size ≤ q → A q := fun q h => by rw [← hAe]; exact Or.inr h
  have hS : va_S A s.heap s.heap [] := va_S.rf
  have hl := lv_entry [.ref h0, .int x, .int y, .int z] (n := 5) (Nat.le_of_ble_eq_true rfl)
  rw [lg_entry_eq]
  generalize (lg_sl [.ref h0, .int x, .int y, .int z] ++ List.replicate (5 - (lg_sl [.ref h0, .int x, .int y, .int z]).length) Slot.unset).toArray = ls at hl ⊢
  generalize hag : ([.ref h0, .int x, .int y, .int z] : List Value).toArray = args at hts hQ ⊢
  have hl : lv_has ls 5 [(0, .ref h0), (1, .int x), (2, .int y), (3, .int z)] := hl
  obtain ⟨H, hH⟩ : ∃ H : Heap, H = s.heap := ⟨_, rfl⟩
  rw [← hH] at hP
  rw [← hH]
  have hS : va_S A s.heap H [] := by rw [hH]; exact hS
  obtain ⟨locs, hlo⟩ : ∃ L : List Loc, L = [] := ⟨_, rfl⟩
  rw [← hlo] at hS
  rw [← hlo]
  clear hH hlo
  refine lv_aload_n hx hb dX11_act_0 rfl (lv_at hl 0 rfl) ?_
  refine va_get (D := (dC, dI)) (ci := 13) (v := .ref bo) (C := RX11) (T := TX11) (N := 7) hx hb hts kc_xAct_0 hown hK hP 0 rfl rfl 6 (by decide) (hts (.fieldLink RX11 49 "MistHeaps" "bodies" "Ljava/util/ArrayList;") kc_xAct_1) (fun _ h9 => h9) rfl dX11_act_1 ?_
  have hPc := hP.sub (ws' := [(bo, .inr (1, [.int 0, .ref bS, .int 0]))]) [2] rfl
  have hDc := hD.sub (ws' := [(bo, .inr (1, [.int 0, .ref bS, .int 0]))]) [2] (by decide) rfl
  have hKc := hK.sub (tys' := []) [] rfl
  have hFc := va_free (wc := [(bo, .inr (1, [.int 0, .ref bS, .int 0]))]) hD hS hA [2] rfl
  refine va_callv (va_runV (As := []) (rest := []) ⟨hx, hb, hml, hown, hts⟩ (c_lclear l dC dI bo bS H.size) (cwV 0 hts gX11_act_Jx4a65c_clear_da8c8 rfl rfl rfl (by decide +kernel) ⟨Nat.le_of_ble_eq_true rfl, Nat.le_of_ble_eq_true rfl⟩) ⟨fun a U g mk q => by obtain ⟨q0, q1, qP, qK, qD⟩ := q; exact ⟨q0, q1, qP, va_K.moved (u := U) (U := U.calling g mk a) (Vm.Alike.refl U.vm) qK, qD⟩, va_recv hK hP (ci := 1) (q0 := 2) rfl rfl, fun U hU hW => ⟨rfl, by rw [hU], by rw [hU]; exact hPc, va_K.moved hW.alike hKc, hDc.weaken (fun _ _ _ _ => trivial)⟩⟩ rfl rfl hl.1 rfl (lv_room (Nat.le_of_ble_eq_true rfl)) dX11_act_4 ⟨Nat.le_of_ble_eq_true rfl, Nat.le_of_ble_eq_true rfl⟩) hS (fun q _ h => hFc q h) hFc (fun u t H1 locs ht hvm hw_2 hB hz1 hk1 hS => ?_)
  obtain ⟨⟩ := u
  try dsimp only at hw_2 hB
  obtain ⟨hP, hD⟩ := va_join (wr := [(h0, .inr (13, [.ref sc, .ref kp, .int 0, .ref bl, .ref go, .ref ch, .ref bo])), (sc, .inr (10, [.ref aTp, .int 0, .ref aHl, .int 0, .long 0, .int 0, .int 0, .ref aHs, .int 0, .ref aWk, .int 0, .ref aBk, .int 0, .ref aFc]))]) (w1 := []) hP hD [2] [0, 1] rfl rfl (by decide) (by decide) hk1 hFc (fun k q h => by simp at h) ⟨fun i j p q h => by simp at h, fun k q h => by simp at h⟩
  have hK := hK.sub (tys' := []) [] rfl
  generalize H1 = H at hP hS ⊢
  have hP : va_P (dC, dI) vwCl [(h0, .inr (13, [.ref sc, .ref kp, .int 0, .ref bl, .ref go, .ref ch, .ref bo])), (sc, .inr (10, [.ref aTp, .int 0, .ref aHl, .int 0, .long 0, .int 0, .int 0, .ref aHs, .int 0, .ref aWk, .int 0, .ref aBk, .int 0, .ref aFc]))] H := hP
  have hD : va_D A [(h0, .inr (13, [.ref sc, .ref kp, .int 0, .ref bl, .ref go, .ref ch, .ref bo])), (sc, .inr (10, [.ref aTp, .int 0, .ref aHl, .int 0, .long 0, .int 0, .int 0, .ref aHs, .int 0, .ref aWk, .int 0, .ref aBk, .int 0, .ref aFc]))] := hD
  have hK : va_K (dC, dI) vwCl [] s := hK
  refine lv_aload_n hx hb dX11_act_7 rfl (lv_at hl 0 rfl) ?_
  refine va_get (D := (dC, dI)) (ci := 13) (v := .ref sc) (C := RX11) (T := TX11) (N := 7) hx hb hts kc_xAct_0 hown hK hP 0 rfl rfl 0 (by decide) (hts (.fieldLink RX11 14 "MistHeaps" "scene" "LMistHeaps$Scene;") kc_xAct_2) (fun _ h9 => h9) rfl dX11_act_8 ?_
  refine lv_iload_n hx hb dX11_act_11 rfl (lv_at hl 1 rfl) ?_
  have hPc := hP.sub (ws' := [(sc, .inr (10, [.ref aTp, .int 0, .ref aHl, .int 0, .long 0, .int 0, .int 0, .ref aHs, .int 0, .ref aWk, .int 0, .ref aBk, .int 0, .ref aFc]))]) [1] rfl
  have hKc := hK.sub (tys' := []) [] rfl
  refine va_csq (va_runV (As := [.int x]) (rest := []) ⟨hx, hb, hml, hown, hts⟩ (c_xHeapAt l dC dI sc aTp aHl aHs aWk aBk aFc x) (cwV 1 hts gX11_act_X8_heapAt rfl rfl rfl (by decide +kernel) ⟨Nat.le_of_ble_eq_true rfl, Nat.le_of_ble_eq_true rfl⟩) ⟨fun a U g mk q => by obtain ⟨q0, qP, qK⟩ := q; exact ⟨q0, qP, va_K.moved (u := U) (U := U.calling g mk a) (Vm.Alike.refl U.vm) qK⟩, va_recv hK hP (ci := 10) (q0 := 1) rfl rfl, fun U hU hW => ⟨rfl, by rw [hU]; exact hPc, va_K.moved hW.alike hKc⟩⟩ rfl rfl hl.1 rfl (lv_room (Nat.le_of_ble_eq_true rfl)) dX11_act_12 ⟨Nat.le_of_ble_eq_true rfl, Nat.le_of_ble_eq_true rfl⟩).run (fun r_3 hw_4 => ?_)
  refine qq_as (v := .null) (by rw [hw_4]; rfl) ?_
  refine lv_astoreN (lv' := [(4, .null), (0, .ref h0), (1, .int x), (2, .int y), (3, .int z)]) hx hb dX11_act_15 hl (by decide) rfl (fun ls hl => ?_)
  refine lv_aloadN hx hb dX11_act_17 (lv_at hl 0 rfl) ?_
  refine lv_ifnonnullN hx hb dX11_act_19 ?_
  refine lv_iconst (v := 0) hx hb dX11_act_22 (by decide) ?_
  rw [hQ]
  exact W.iret (v := 0) hx hb hr (fun t ht hW => ⟨⟨0, (), rfl, rfl, trivial⟩, hS.F ht⟩) hS.2.2 dX11_act_23

theorem kc_xBook_0 : ∀ w ∈ wsX110, w ∈ wsX11_book := by decide +kernel
theorem kc_xBook_1 : (.fieldLink RX11 14 "MistHeaps" "scene" "LMistHeaps$Scene;" : Cond) ∈ wsX11_book := by decide +kernel
theorem kc_xBook_2 : ∀ w ∈ wsX80, w ∈ wsX11_book := by decide +kernel
theorem kc_xBook_3 : (.fieldLink RX11 221 "MistHeaps$Scene" "bookSize" "I" : Cond) ∈ wsX11_book := by decide +kernel
set_option maxHeartbeats 4000000 in
set_option maxRecDepth 100000 in
theorem c_xBook (l : Launch) (dC : Nat → ClassId) (dI : Nat → Nat → Nat) (h0 sc kp bl go ch bo aTp aHl aHs aWk aBk aFc : Nat) (x : Int32) (sz : Nat) : Met l yX11_book wsX11_book ({ frames := 1, cells := 0, slots := 0, locals := 21 } : Room) (va_Pc [.ref h0, .int x] (fun U => U.heap.size = sz ∧ va_P (dC, dI) vwCl [(h0, .inr (13, [.ref sc, .ref kp, .int 0, .ref bl, .ref go, .ref ch, .ref bo])), (sc, .inr (10, [.ref aTp, .int 0, .ref aHl, .int 0, .long 0, .int 0, .int 0, .ref aHs, .int 0, .ref aWk, .int 0, .ref aBk, .int 0, .ref aFc]))] U.heap ∧ va_K (dC, dI) vwCl [] U ∧ va_D (fun _ => True) [(h0, .inr (13, [.ref sc, .ref kp, .int 0, .ref bl, .ref go, .ref ch, .ref bo])), (sc, .inr (10, [.ref aTp, .int 0, .ref aHl, .int 0, .long 0, .int 0, .int 0, .ref aHs, .int 0, .ref aWk, .int 0, .ref aBk, .int 0, .ref aFc]))])) (va_Qi (fun (r : Int32) (u : Unit) => match u with | () => r = f_book x) (fun (u : Unit) (t : State) => match u with | () => True) (va_A [(h0, .inr (13, [.ref sc, .ref kp, .int 0, .ref bl, .ref go, .ref ch, .ref bo])), (sc, .inr (10, [.ref aTp, .int 0, .ref aHl, .int 0, .long 0, .int 0, .int 0, .ref aHs, .int 0, .ref aWk, .int 0, .ref aBk, .int 0, .ref aFc]))] sz)) 0 0 (va_A [(h0, .inr (13, [.ref sc, .ref kp, .int 0, .ref bl, .ref go, .ref ch, .ref bo])), (sc, .inr (10, [.ref aTp, .int 0, .ref aHl, .int 0, .long 0, .int 0, .int 0, .ref aHs, .int 0, .ref aWk, .int 0, .ref aBk, .int 0, .ref aFc]))] sz) := by
  refine met_ofQ (cc := cX11_book) (maxL := 2) (ret := (some .int)) (by decide) rfl ?_
  intro p e s m args below meth c s₁ Q B hml hv hQ
  obtain ⟨rfl, hsz, hP, hK, hD0⟩ := hv
  have hx := B.exec
  have hb := B.bytes
  have hr := B.returns
  have hts := atoms_spec (ws := wsX11_book) B.pre
  have hown : s.vm.findClass RX11 = some m.cls := findClass_of_methodNamed B.named
  have hlocks := B.notSynchronized
  subst hsz
  have hD := hD0.self (sz := s.heap.size)
  generalize hAe : va_A [(h0, .inr (13, [.ref sc, .ref kp, .int 0, .ref bl, .ref go, .ref ch, .ref bo])), (sc, .inr (10, [.ref aTp, .int 0, .ref aHl, .int 0, .long 0, .int 0, .int 0, .ref aHs, .int 0, .ref aWk, .int 0, .ref aBk, .int 0, .ref aFc]))] s.heap.size = A at hD hQ ⊢
  have hA : ∀ q : Nat, s.heap.size ≤ q → A q := fun q h => by rw [← hAe]; exact Or.inr h
  have hS : va_S A s.heap s.heap [] := va_S.rf
  have hl := lv_entry [.ref h0, .int x] (n := 2) (Nat.le_of_ble_eq_true rfl)
  rw [lg_entry_eq]
  generalize (lg_sl [.ref h0, .int x] ++ List.replicate (2 - (lg_sl [.ref h0, .int x]).length) Slot.unset).toArray = ls at hl ⊢
  generalize hag : ([.ref h0, .int x] : List Value).toArray = args at hts hQ ⊢
  have hl : lv_has ls 2 [(0, .ref h0), (1, .int x)] := hl
  obtain ⟨H, hH⟩ : ∃ H : Heap, H = s.heap := ⟨_, rfl⟩
  rw [← hH] at hP
  rw [← hH]
  have hS : va_S A s.heap H [] := by rw [hH]; exact hS
  obtain ⟨locs, hlo⟩ : ∃ L : List Loc, L = [] := ⟨_, rfl⟩
  rw [← hlo] at hS
  rw [← hlo]
  clear hH hlo
  refine lv_iload_n hx hb dX11_book_0 rfl (lv_at hl 1 rfl) ?_
  refine lv_iconst (v := (-1)) hx hb dX11_book_1 (by decide) ?_
  refine lv_icmp_ne (tgt := 15) hx hb dX11_book_2 (by decide) (fun c_1 => ?_) (fun c_1 => ?_)
  · skip
    refine lv_aload_n hx hb dX11_book_15 rfl (lv_at hl 0 rfl) ?_
    refine va_get (D := (dC, dI)) (ci := 13) (v := .ref sc) (C := RX11) (T := TX11) (N := 7) hx hb hts kc_xBook_0 hown hK hP 0 rfl rfl 0 (by decide) (hts (.fieldLink RX11 14 "MistHeaps" "scene" "LMistHeaps$Scene;") kc_xBook_1) (fun _ h9 => h9) rfl dX11_book_16 ?_
    refine lv_iload_n hx hb dX11_book_19 rfl (lv_at hl 1 rfl) ?_
    have hPc := hP.sub (ws' := [(sc, .inr (10, [.ref aTp, .int 0, .ref aHl, .int 0, .long 0, .int 0, .int 0, .ref aHs, .int 0, .ref aWk, .int 0, .ref aBk, .int 0, .ref aFc]))]) [1] rfl
    have hKc := hK.sub (tys' := []) [] rfl
    refine va_csq (va_runV (As := [.int x]) (rest := []) ⟨hx, hb, hml, hown, hts⟩ (c_xHeapAt l dC dI sc aTp aHl aHs aWk aBk aFc x) (cwV 1 hts gX11_book_X8_heapAt rfl rfl rfl (by decide +kernel) ⟨Nat.le_of_ble_eq_true rfl, Nat.le_of_ble_eq_true rfl⟩) ⟨fun a U g mk q => by obtain ⟨q0, qP, qK⟩ := q; exact ⟨q0, qP, va_K.moved (u := U) (U := U.calling g mk a) (Vm.Alike.refl U.vm) qK⟩, va_recv hK hP (ci := 10) (q0 := 1) rfl rfl, fun U hU hW => ⟨rfl, by rw [hU]; exact hPc, va_K.moved hW.alike hKc⟩⟩ rfl rfl hl.1 rfl (lv_room (Nat.le_of_ble_eq_true rfl)) dX11_book_20 ⟨Nat.le_of_ble_eq_true rfl, Nat.le_of_ble_eq_true rfl⟩).run (fun r_2 hw_3 => ?_)
    refine qq_as (v := .null) (by rw [hw_3]; rfl) ?_
    refine lv_ifnonnullN hx hb dX11_book_23 ?_
    refine lv_iconst (v := (-1)) hx hb dX11_book_26 (by decide) ?_
    rw [hQ]
    exact W.iret (v := (-1)) hx hb hr (fun t ht hW => ⟨⟨(-1), (), rfl, by simp only [f_book]; (repeat' split) <;> first | (simp_all; done) | (simp only [← Int32.not_lt] at *; simp_all), trivial⟩, hS.F ht⟩) hS.2.2 dX11_book_27
  · skip
    refine lv_aload_n hx hb dX11_book_5 rfl (lv_at hl 0 rfl) ?_
    refine va_get (D := (dC, dI)) (ci := 13) (v := .ref sc) (C := RX11) (T := TX11) (N := 7) hx hb hts kc_xBook_0 hown hK hP 0 rfl rfl 0 (by decide) (hts (.fieldLink RX11 14 "MistHeaps" "scene" "LMistHeaps$Scene;") kc_xBook_1) (fun _ h9 => h9) rfl dX11_book_6 ?_
    refine lv_iconst (v := 0) hx hb dX11_book_9 (by decide) ?_
    refine va_put (D := (dC, dI)) (ci := 10) (v := .int 0) (ty := .int) (C := RX8) (T := TX8) (N := 14) hx hb hts kc_xBook_2 tyX8 tyX8_ok nmX8 hown hK hP hD hS 1 rfl rfl 12 (by decide) (hts (.fieldLink RX11 221 "MistHeaps$Scene" "bookSize" "I") kc_xBook_3) (fun _ h9 => h9) rfl (by decide +kernel) rfl rfl (Nat.le_of_ble_eq_true rfl) dX11_book_10 (fun H locs hP hD hS => ?_)
    have hP : va_P (dC, dI) vwCl [(h0, .inr (13, [.ref sc, .ref kp, .int 0, .ref bl, .ref go, .ref ch, .ref bo])), (sc, .inr (10, [.ref aTp, .int 0, .ref aHl, .int 0, .long 0, .int 0, .int 0, .ref aHs, .int 0, .ref aWk, .int 0, .ref aBk, .int 0, .ref aFc]))] H := hP
    have hD : va_D A [(h0, .inr (13, [.ref sc, .ref kp, .int 0, .ref bl, .ref go, .ref ch, .ref bo])), (sc, .inr (10, [.ref aTp, .int 0, .ref aHl, .int 0, .long 0, .int 0, .int 0, .ref aHs, .int 0, .ref aWk, .int 0, .ref aBk, .int 0, .ref aFc]))] := hD
    refine lv_iconst (v := 0) hx hb dX11_book_13 (by decide) ?_
    rw [hQ]
    exact W.iret (v := 0) hx hb hr (fun t ht hW => ⟨⟨0, (), rfl, by simp only [f_book]; (repeat' split) <;> first | (simp_all; done) | (simp only [← Int32.not_lt] at *; simp_all), trivial⟩, hS.F ht⟩) hS.2.2 dX11_book_14

theorem kc_xWalk_0 : ∀ w ∈ wsX110, w ∈ wsX11_walk := by decide +kernel
theorem kc_xWalk_1 : (.fieldLink RX11 14 "MistHeaps" "scene" "LMistHeaps$Scene;" : Cond) ∈ wsX11_walk := by decide +kernel
theorem kc_xWalk_2 : ∀ w ∈ wsX80, w ∈ wsX11_walk := by decide +kernel
theorem kc_xWalk_3 : (.fieldLink RX11 169 "MistHeaps$Scene" "walkSize" "I" : Cond) ∈ wsX11_walk := by decide +kernel
theorem kc_xWalk_4 : (.fieldLink RX11 172 "MistHeaps$Scene" "walk" "[I" : Cond) ∈ wsX11_walk := by decide +kernel
set_option maxHeartbeats 4000000 in
set_option maxRecDepth 100000 in
theorem c_xWalk (l : Launch) (dC : Nat → ClassId) (dI : Nat → Nat → Nat) (h0 sc kp bl go ch bo aTp aHl aHs aWk aBk aFc : Nat) (cW : ClassId) (fW : Nat → Int32) (x : Int32) (sz : Nat) : Met l yX11_walk wsX11_walk ({ frames := 0, cells := 0, slots := 0, locals := 0 } : Room) (va_Pc [.ref h0, .int x] (fun U => U.heap.size = sz ∧ va_P (dC, dI) vwCl [(h0, .inr (13, [.ref sc, .ref kp, .int 0, .ref bl, .ref go, .ref ch, .ref bo])), (sc, .inr (10, [.ref aTp, .int 0, .ref aHl, .int 0, .long 0, .int 0, .int 0, .ref aHs, .int 0, .ref aWk, .int 0, .ref aBk, .int 0, .ref aFc])), (aWk, .inl (cW, 6, .inl fW))] U.heap ∧ va_K (dC, dI) vwCl [(cW, .int)] U ∧ va_D (fun _ => True) [(h0, .inr (13, [.ref sc, .ref kp, .int 0, .ref bl, .ref go, .ref ch, .ref bo])), (sc, .inr (10, [.ref aTp, .int 0, .ref aHl, .int 0, .long 0, .int 0, .int 0, .ref aHs, .int 0, .ref aWk, .int 0, .ref aBk, .int 0, .ref aFc])), (aWk, .inl (cW, 6, .inl fW))])) (va_Qi (fun (r : Int32) (u : Unit) => match u with | () => r = f_walk x) (fun (u : Unit) (t : State) => match u with | () => True) (va_A [(h0, .inr (13, [.ref sc, .ref kp, .int 0, .ref bl, .ref go, .ref ch, .ref bo])), (sc, .inr (10, [.ref aTp, .int 0, .ref aHl, .int 0, .long 0, .int 0, .int 0, .ref aHs, .int 0, .ref aWk, .int 0, .ref aBk, .int 0, .ref aFc])), (aWk, .inl (cW, 6, .inl fW))] sz)) 0 0 (va_A [(h0, .inr (13, [.ref sc, .ref kp, .int 0, .ref bl, .ref go, .ref ch, .ref bo])), (sc, .inr (10, [.ref aTp, .int 0, .ref aHl, .int 0, .long 0, .int 0, .int 0, .ref aHs, .int 0, .ref aWk, .int 0, .ref aBk, .int 0, .ref aFc])), (aWk, .inl (cW, 6, .inl fW))] sz) := by
  refine met_ofQ (cc := cX11_walk) (maxL := 2) (ret := (some .int)) (by decide) rfl ?_
  intro p e s m args below meth c s₁ Q B hml hv hQ
  obtain ⟨rfl, hsz, hP, hK, hD0⟩ := hv
  have hx := B.exec
  have hb := B.bytes
  have hr := B.returns
  have hts := atoms_spec (ws := wsX11_walk) B.pre
  have hown : s.vm.findClass RX11 = some m.cls := findClass_of_methodNamed B.named
  have hlocks := B.notSynchronized
  subst hsz
  have hD := hD0.self (sz := s.heap.size)
  generalize hAe : va_A [(h0, .inr (13, [.ref sc, .ref kp, .int 0, .ref bl, .ref go, .ref ch, .ref bo])), (sc, .inr (10, [.ref aTp, .int 0, .ref aHl, .int 0, .long 0, .int 0, .int 0, .ref aHs, .int 0, .ref aWk, .int 0, .ref aBk, .int 0, .ref aFc])), (aWk, .inl (cW, 6, .inl fW))] s.heap.size = A at hD hQ ⊢
  have hA : ∀ q : Nat, s.heap.size ≤ q → A q := fun q h => by rw [← hAe]; exact Or.inr h
  have hS : va_S A s.heap s.heap [] := va_S.rf
  have hl := lv_entry [.ref h0, .int x] (n := 2) (Nat.le_of_ble_eq_true rfl)
  rw [lg_entry_eq]
  generalize (lg_sl [.ref h0, .int x] ++ List.replicate (2 - (lg_sl [.ref h0, .int x]).length) Slot.unset).toArray = ls at hl ⊢
  generalize hag : ([.ref h0, .int x] : List Value).toArray = args at hts hQ ⊢
  have hl : lv_has ls 2 [(0, .ref h0), (1, .int x)] := hl
  obtain ⟨H, hH⟩ : ∃ H : Heap, H = s.heap := ⟨_, rfl⟩
  rw [← hH] at hP
  rw [← hH]
  have hS : va_S A s.heap H [] := by rw [hH]; exact hS
  obtain ⟨locs, hlo⟩ : ∃ L : List Loc, L = [] := ⟨_, rfl⟩
  rw [← hlo] at hS
  rw [← hlo]
  clear hH hlo
  refine lv_iload_n hx hb dX11_walk_0 rfl (lv_at hl 1 rfl) ?_
  refine lv_iconst (v := (-1)) hx hb dX11_walk_1 (by decide) ?_
  refine lv_icmp_ne (tgt := 15) hx hb dX11_walk_2 (by decide) (fun c_1 => ?_) (fun c_1 => ?_)
  · skip
    refine lv_iload_n hx hb dX11_walk_15 rfl (lv_at hl 1 rfl) ?_
    refine lv_if_lt (tgt := 25) hx hb dX11_walk_16 (by decide) (fun c_2 => ?_) (fun c_2 => ?_)
    · skip
      refine lv_iconst (v := (-1)) hx hb dX11_walk_25 (by decide) ?_
      rw [hQ]
      exact W.iret (v := (-1)) hx hb hr (fun t ht hW => ⟨⟨(-1), (), rfl, by simp only [f_walk]; (repeat' split) <;> first | (simp_all; done) | (simp only [← Int32.not_lt] at *; simp_all), trivial⟩, hS.F ht⟩) hS.2.2 dX11_walk_26
    · skip
      refine lv_iload_n hx hb dX11_walk_19 rfl (lv_at hl 1 rfl) ?_
      refine lv_bipush (v := 8) hx hb dX11_walk_20 (by decide) ?_
      refine lv_icmp_lt (tgt := 27) hx hb dX11_walk_22 (by decide) (fun c_3 => ?_) (fun c_3 => ?_)
      · skip
        rw [lt_nlt (b := 7) rfl] at c_3
        refine lv_aload_n hx hb dX11_walk_27 rfl (lv_at hl 0 rfl) ?_
        refine va_get (D := (dC, dI)) (ci := 13) (v := .ref sc) (C := RX11) (T := TX11) (N := 7) hx hb hts kc_xWalk_0 hown hK hP 0 rfl rfl 0 (by decide) (hts (.fieldLink RX11 14 "MistHeaps" "scene" "LMistHeaps$Scene;") kc_xWalk_1) (fun _ h9 => h9) rfl dX11_walk_28 ?_
        refine va_get (D := (dC, dI)) (ci := 10) (v := .int 0) (C := RX8) (T := TX8) (N := 14) hx hb hts kc_xWalk_2 hown hK hP 1 rfl rfl 10 (by decide) (hts (.fieldLink RX11 169 "MistHeaps$Scene" "walkSize" "I") kc_xWalk_3) (fun _ h9 => h9) rfl dX11_walk_31 ?_
        refine lv_bipush (v := 6) hx hb dX11_walk_34 (by decide) ?_
        refine lv_icmp_lt (tgt := 42) hx hb dX11_walk_36 (by decide) (fun _ => ?_) (fun c_4 => absurd c_4 (by decide))
        refine lv_aload_n hx hb dX11_walk_42 rfl (lv_at hl 0 rfl) ?_
        refine va_get (D := (dC, dI)) (ci := 13) (v := .ref sc) (C := RX11) (T := TX11) (N := 7) hx hb hts kc_xWalk_0 hown hK hP 0 rfl rfl 0 (by decide) (hts (.fieldLink RX11 14 "MistHeaps" "scene" "LMistHeaps$Scene;") kc_xWalk_1) (fun _ h9 => h9) rfl dX11_walk_43 ?_
        refine va_get (D := (dC, dI)) (ci := 10) (v := .ref aWk) (C := RX8) (T := TX8) (N := 14) hx hb hts kc_xWalk_2 hown hK hP 1 rfl rfl 9 (by decide) (hts (.fieldLink RX11 172 "MistHeaps$Scene" "walk" "[I") kc_xWalk_4) (fun _ h9 => h9) rfl dX11_walk_46 ?_
        refine lv_aload_n hx hb dX11_walk_49 rfl (lv_at hl 0 rfl) ?_
        refine va_get (D := (dC, dI)) (ci := 13) (v := .ref sc) (C := RX11) (T := TX11) (N := 7) hx hb hts kc_xWalk_0 hown hK hP 0 rfl rfl 0 (by decide) (hts (.fieldLink RX11 14 "MistHeaps" "scene" "LMistHeaps$Scene;") kc_xWalk_1) (fun _ h9 => h9) rfl dX11_walk_50 ?_
        refine va_get (D := (dC, dI)) (ci := 10) (v := .int 0) (C := RX8) (T := TX8) (N := 14) hx hb hts kc_xWalk_2 hown hK hP 1 rfl rfl 10 (by decide) (hts (.fieldLink RX11 169 "MistHeaps$Scene" "walkSize" "I") kc_xWalk_3) (fun _ h9 => h9) rfl dX11_walk_53 ?_
        refine lv_iload_n hx hb dX11_walk_56 rfl (lv_at hl 1 rfl) ?_
        refine va_iast hx hb hK hP hD hS 2 0 rfl rfl (vp_in_nI (n := 0) (N := 6) (by omega) (by omega)) dX11_walk_57 (fun H locs hP hD hS => ?_)
        have hP : va_P (dC, dI) vwCl [(h0, .inr (13, [.ref sc, .ref kp, .int 0, .ref bl, .ref go, .ref ch, .ref bo])), (sc, .inr (10, [.ref aTp, .int 0, .ref aHl, .int 0, .long 0, .int 0, .int 0, .ref aHs, .int 0, .ref aWk, .int 0, .ref aBk, .int 0, .ref aFc])), (aWk, .inl (cW, 6, .inl (upd fW 0 x)))] H := hP
        have hD : va_D A [(h0, .inr (13, [.ref sc, .ref kp, .int 0, .ref bl, .ref go, .ref ch, .ref bo])), (sc, .inr (10, [.ref aTp, .int 0, .ref aHl, .int 0, .long 0, .int 0, .int 0, .ref aHs, .int 0, .ref aWk, .int 0, .ref aBk, .int 0, .ref aFc])), (aWk, .inl (cW, 6, .inl (upd fW 0 x)))] := hD
        refine lv_aload_n hx hb dX11_walk_58 rfl (lv_at hl 0 rfl) ?_
        refine va_get (D := (dC, dI)) (ci := 13) (v := .ref sc) (C := RX11) (T := TX11) (N := 7) hx hb hts kc_xWalk_0 hown hK hP 0 rfl rfl 0 (by decide) (hts (.fieldLink RX11 14 "MistHeaps" "scene" "LMistHeaps$Scene;") kc_xWalk_1) (fun _ h9 => h9) rfl dX11_walk_59 ?_
        refine lv_dup hx hb dX11_walk_62 rfl ?_
        refine va_get (D := (dC, dI)) (ci := 10) (v := .int 0) (C := RX8) (T := TX8) (N := 14) hx hb hts kc_xWalk_2 hown hK hP 1 rfl rfl 10 (by decide) (hts (.fieldLink RX11 169 "MistHeaps$Scene" "walkSize" "I") kc_xWalk_3) (fun _ h9 => h9) rfl dX11_walk_63 ?_
        refine lv_iconst (v := 1) hx hb dX11_walk_66 (by decide) ?_
        refine lv_iadd hx hb dX11_walk_67 ?_
        refine qi_as (y := 1) (by decide) ?_
        refine va_put (D := (dC, dI)) (ci := 10) (v := .int 1) (ty := .int) (C := RX8) (T := TX8) (N := 14) hx hb hts kc_xWalk_2 tyX8 tyX8_ok nmX8 hown hK hP hD hS 1 rfl rfl 10 (by decide) (hts (.fieldLink RX11 169 "MistHeaps$Scene" "walkSize" "I") kc_xWalk_3) (fun _ h9 => h9) rfl (by decide +kernel) rfl rfl (Nat.le_of_ble_eq_true rfl) dX11_walk_68 (fun H locs hP hD hS => ?_)
        have hP : va_P (dC, dI) vwCl [(h0, .inr (13, [.ref sc, .ref kp, .int 0, .ref bl, .ref go, .ref ch, .ref bo])), (sc, .inr (10, [.ref aTp, .int 0, .ref aHl, .int 0, .long 0, .int 0, .int 0, .ref aHs, .int 0, .ref aWk, .int 1, .ref aBk, .int 0, .ref aFc])), (aWk, .inl (cW, 6, .inl (upd fW 0 x)))] H := hP
        have hD : va_D A [(h0, .inr (13, [.ref sc, .ref kp, .int 0, .ref bl, .ref go, .ref ch, .ref bo])), (sc, .inr (10, [.ref aTp, .int 0, .ref aHl, .int 0, .long 0, .int 0, .int 0, .ref aHs, .int 0, .ref aWk, .int 1, .ref aBk, .int 0, .ref aFc])), (aWk, .inl (cW, 6, .inl (upd fW 0 x)))] := hD
        refine lv_aload_n hx hb dX11_walk_71 rfl (lv_at hl 0 rfl) ?_
        refine va_get (D := (dC, dI)) (ci := 13) (v := .ref sc) (C := RX11) (T := TX11) (N := 7) hx hb hts kc_xWalk_0 hown hK hP 0 rfl rfl 0 (by decide) (hts (.fieldLink RX11 14 "MistHeaps" "scene" "LMistHeaps$Scene;") kc_xWalk_1) (fun _ h9 => h9) rfl dX11_walk_72 ?_
        refine va_get (D := (dC, dI)) (ci := 10) (v := .int 1) (C := RX8) (T := TX8) (N := 14) hx hb hts kc_xWalk_2 hown hK hP 1 rfl rfl 10 (by decide) (hts (.fieldLink RX11 169 "MistHeaps$Scene" "walkSize" "I") kc_xWalk_3) (fun _ h9 => h9) rfl dX11_walk_75 ?_
        rw [hQ]
        exact W.iret (v := 1) hx hb hr (fun t ht hW => ⟨⟨1, (), rfl, by simp only [f_walk]; (repeat' split) <;> first | (simp_all; done) | (simp only [← Int32.not_lt] at *; simp_all), trivial⟩, hS.F ht⟩) hS.2.2 dX11_walk_78
      · skip
        rw [lt_nlt (b := 7) rfl] at c_3
        refine lv_iconst (v := (-1)) hx hb dX11_walk_25 (by decide) ?_
        rw [hQ]
        exact W.iret (v := (-1)) hx hb hr (fun t ht hW => ⟨⟨(-1), (), rfl, by simp only [f_walk]; (repeat' split) <;> first | (simp_all; done) | (simp only [← Int32.not_lt] at *; simp_all), trivial⟩, hS.F ht⟩) hS.2.2 dX11_walk_26
  · skip
    refine lv_aload_n hx hb dX11_walk_5 rfl (lv_at hl 0 rfl) ?_
    refine va_get (D := (dC, dI)) (ci := 13) (v := .ref sc) (C := RX11) (T := TX11) (N := 7) hx hb hts kc_xWalk_0 hown hK hP 0 rfl rfl 0 (by decide) (hts (.fieldLink RX11 14 "MistHeaps" "scene" "LMistHeaps$Scene;") kc_xWalk_1) (fun _ h9 => h9) rfl dX11_walk_6 ?_
    refine lv_iconst (v := 0) hx hb dX11_walk_9 (by decide) ?_
    refine va_put (D := (dC, dI)) (ci := 10) (v := .int 0) (ty := .int) (C := RX8) (T := TX8) (N := 14) hx hb hts kc_xWalk_2 tyX8 tyX8_ok nmX8 hown hK hP hD hS 1 rfl rfl 10 (by decide) (hts (.fieldLink RX11 169 "MistHeaps$Scene" "walkSize" "I") kc_xWalk_3) (fun _ h9 => h9) rfl (by decide +kernel) rfl rfl (Nat.le_of_ble_eq_true rfl) dX11_walk_10 (fun H locs hP hD hS => ?_)
    have hP : va_P (dC, dI) vwCl [(h0, .inr (13, [.ref sc, .ref kp, .int 0, .ref bl, .ref go, .ref ch, .ref bo])), (sc, .inr (10, [.ref aTp, .int 0, .ref aHl, .int 0, .long 0, .int 0, .int 0, .ref aHs, .int 0, .ref aWk, .int 0, .ref aBk, .int 0, .ref aFc])), (aWk, .inl (cW, 6, .inl fW))] H := hP
    have hD : va_D A [(h0, .inr (13, [.ref sc, .ref kp, .int 0, .ref bl, .ref go, .ref ch, .ref bo])), (sc, .inr (10, [.ref aTp, .int 0, .ref aHl, .int 0, .long 0, .int 0, .int 0, .ref aHs, .int 0, .ref aWk, .int 0, .ref aBk, .int 0, .ref aFc])), (aWk, .inl (cW, 6, .inl fW))] := hD
    refine lv_iconst (v := 0) hx hb dX11_walk_13 (by decide) ?_
    rw [hQ]
    exact W.iret (v := 0) hx hb hr (fun t ht hW => ⟨⟨0, (), rfl, by simp only [f_walk]; (repeat' split) <;> first | (simp_all; done) | (simp only [← Int32.not_lt] at *; simp_all), trivial⟩, hS.F ht⟩) hS.2.2 dX11_walk_14

theorem kc_measure0_0 : ∀ w ∈ wsX80, w ∈ wsX2_measure := by decide +kernel
theorem kc_measure0_1 : (.fieldLink RX2 27 "MistHeaps$Scene" "heapCount" "I" : Cond) ∈ wsX2_measure := by decide +kernel
set_option maxHeartbeats 4000000 in
set_option maxRecDepth 100000 in
theorem c_measure0 (l : Launch) (dC : Nat → ClassId) (dI : Nat → Nat → Nat) (go gR gO gS : Nat) (sc aTp aHl aHs aWk aBk aFc : Nat) (x : Int32) : Met l yX2_measure wsX2_measure ({ frames := 0, cells := 0, slots := 0, locals := 0 } : Room) (va_Pc [.ref go, .ref sc, .int x] (fun U => va_P (dC, dI) vwCl [(go, .inr (4, [.ref gR, .ref gO, .int 0, .ref gS])), (sc, .inr (10, [.ref aTp, .int 0, .ref aHl, .int 0, .long 0, .int 0, .int 0, .ref aHs, .int 0, .ref aWk, .int 0, .ref aBk, .int 0, .ref aFc]))] U.heap ∧ va_K (dC, dI) vwCl [] U)) (va_Sv (fun _ => True)) 0 0 (fun _ => False) := by
  refine met_ofQ (cc := cX2_measure) (maxL := 4) (ret := none) (by decide) rfl ?_
  intro p e s m args below meth c s₁ Q B hml hv hQ
  obtain ⟨rfl, hP, hK⟩ := hv
  have hx := B.exec
  have hb := B.bytes
  have hr := B.returns
  have hts := atoms_spec (ws := wsX2_measure) B.pre
  have hown : s.vm.findClass RX2 = some m.cls := findClass_of_methodNamed B.named
  have hlocks := B.notSynchronized
  obtain ⟨A, hAe⟩ : ∃ A : Nat → Prop, A = fun _ => False := ⟨_, rfl⟩
  rw [← hAe] at hQ
  have hS : va_S A s.heap s.heap [] := va_S.rf
  have hl := lv_entry [.ref go, .ref sc, .int x] (n := 4) (Nat.le_of_ble_eq_true rfl)
  rw [lg_entry_eq]
  generalize (lg_sl [.ref go, .ref sc, .int x] ++ List.replicate (4 - (lg_sl [.ref go, .ref sc, .int x]).length) Slot.unset).toArray = ls at hl ⊢
  generalize hag : ([.ref go, .ref sc, .int x] : List Value).toArray = args at hts hQ ⊢
  have hl : lv_has ls 4 [(0, .ref go), (1, .ref sc), (2, .int x)] := hl
  refine lv_iconst (v := 0) hx hb dX2_measure_0 (by decide) ?_
  refine lv_istore_n (lv' := [(3, .int 0), (0, .ref go), (1, .ref sc), (2, .int x)]) hx hb dX2_measure_1 rfl hl (by decide) rfl (fun ls hl => ?_)
  refine lv_iload_n hx hb dX2_measure_2 rfl (lv_at hl 0 rfl) ?_
  refine lv_aload_n hx hb dX2_measure_3 rfl (lv_at hl 2 rfl) ?_
  refine va_get (D := (dC, dI)) (ci := 10) (v := .int 0) (C := RX8) (T := TX8) (N := 14) hx hb hts kc_measure0_0 hown hK hP 1 rfl rfl 8 (by decide) (hts (.fieldLink RX2 27 "MistHeaps$Scene" "heapCount" "I") kc_measure0_1) (fun _ h9 => h9) rfl dX2_measure_4 ?_
  refine lv_icmp_ge (tgt := 33) hx hb dX2_measure_7 (by decide) (fun _ => ?_) (fun c_1 => absurd c_1 (by decide))
  rw [hQ]
  exact W.vret hx hb hr (fun t ht hW => ⟨rfl, trivial, by rw [ht]⟩) (fun q hq => absurd hq List.not_mem_nil) dX2_measure_33

theorem kc_seen0_0 : ∀ w ∈ wsX80, w ∈ wsX2_seenFrom := by decide +kernel
theorem kc_seen0_1 : (.fieldLink RX2 27 "MistHeaps$Scene" "heapCount" "I" : Cond) ∈ wsX2_seenFrom := by decide +kernel
set_option maxHeartbeats 4000000 in
set_option maxRecDepth 100000 in
theorem c_seen0 (l : Launch) (dC : Nat → ClassId) (dI : Nat → Nat → Nat) (go gR gO gS : Nat) (sc aTp aHl aHs aWk aBk aFc : Nat) (x : Int32) : Met l yX2_seenFrom wsX2_seenFrom ({ frames := 0, cells := 0, slots := 0, locals := 0 } : Room) (va_Pc [.ref go, .ref sc, .int x] (fun U => va_P (dC, dI) vwCl [(go, .inr (4, [.ref gR, .ref gO, .int 0, .ref gS])), (sc, .inr (10, [.ref aTp, .int 0, .ref aHl, .int 0, .long 0, .int 0, .int 0, .ref aHs, .int 0, .ref aWk, .int 0, .ref aBk, .int 0, .ref aFc]))] U.heap ∧ va_K (dC, dI) vwCl [] U)) (vp_Si (fun r => r = 0)) 0 0 (fun _ => False) := by
  refine met_ofQ (cc := cX2_seenFrom) (maxL := 5) (ret := (some .int)) (by decide) rfl ?_
  intro p e s m args below meth c s₁ Q B hml hv hQ
  obtain ⟨rfl, hP, hK⟩ := hv
  have hx := B.exec
  have hb := B.bytes
  have hr := B.returns
  have hts := atoms_spec (ws := wsX2_seenFrom) B.pre
  have hown : s.vm.findClass RX2 = some m.cls := findClass_of_methodNamed B.named
  have hlocks := B.notSynchronized
  obtain ⟨A, hAe⟩ : ∃ A : Nat → Prop, A = fun _ => False := ⟨_, rfl⟩
  rw [← hAe] at hQ
  have hS : va_S A s.heap s.heap [] := va_S.rf
  have hl := lv_entry [.ref go, .ref sc, .int x] (n := 5) (Nat.le_of_ble_eq_true rfl)
  rw [lg_entry_eq]
  generalize (lg_sl [.ref go, .ref sc, .int x] ++ List.replicate (5 - (lg_sl [.ref go, .ref sc, .int x]).length) Slot.unset).toArray = ls at hl ⊢
  generalize hag : ([.ref go, .ref sc, .int x] : List Value).toArray = args at hts hQ ⊢
  have hl : lv_has ls 5 [(0, .ref go), (1, .ref sc), (2, .int x)] := hl
  refine lv_iconst (v := 0) hx hb dX2_seenFrom_0 (by decide) ?_
  refine lv_istore_n (lv' := [(3, .int 0), (0, .ref go), (1, .ref sc), (2, .int x)]) hx hb dX2_seenFrom_1 rfl hl (by decide) rfl (fun ls hl => ?_)
  refine lv_iconst (v := 0) hx hb dX2_seenFrom_2 (by decide) ?_
  refine lv_istore (lv' := [(4, .int 0), (3, .int 0), (0, .ref go), (1, .ref sc), (2, .int x)]) hx hb dX2_seenFrom_3 hl (by decide) rfl (fun ls hl => ?_)
  refine lv_iload hx hb dX2_seenFrom_5 (lv_at hl 0 rfl) ?_
  refine lv_aload_n hx hb dX2_seenFrom_7 rfl (lv_at hl 3 rfl) ?_
  refine va_get (D := (dC, dI)) (ci := 10) (v := .int 0) (C := RX8) (T := TX8) (N := 14) hx hb hts kc_seen0_0 hown hK hP 1 rfl rfl 8 (by decide) (hts (.fieldLink RX2 27 "MistHeaps$Scene" "heapCount" "I") kc_seen0_1) (fun _ h9 => h9) rfl dX2_seenFrom_8 ?_
  refine lv_icmp_ge (tgt := 51) hx hb dX2_seenFrom_11 (by decide) (fun _ => ?_) (fun c_1 => absurd c_1 (by decide))
  refine lv_iload_n hx hb dX2_seenFrom_51 rfl (lv_at hl 1 rfl) ?_
  rw [hQ]
  exact W.iret (v := 0) hx hb hr (fun t ht hW => ⟨0, rfl, rfl, by rw [ht]⟩) (fun q hq => absurd hq List.not_mem_nil) dX2_seenFrom_52

theorem kc_xSees_0 : ∀ w ∈ wsX110, w ∈ wsX11_sees := by decide +kernel
theorem kc_xSees_1 : (.fieldLink RX11 35 "MistHeaps" "goings" "LMistHeaps$Goings;" : Cond) ∈ wsX11_sees := by decide +kernel
theorem kc_xSees_2 : (.fieldLink RX11 14 "MistHeaps" "scene" "LMistHeaps$Scene;" : Cond) ∈ wsX11_sees := by decide +kernel
theorem kc_xSees_3 : ∀ w ∈ wsX80, w ∈ wsX11_sees := by decide +kernel
theorem kc_xSees_4 : (.fieldLink RX11 88 "MistHeaps$Scene" "snow" "I" : Cond) ∈ wsX11_sees := by decide +kernel
set_option maxHeartbeats 4000000 in
set_option maxRecDepth 100000 in
theorem c_xSees (l : Launch) (dC : Nat → ClassId) (dI : Nat → Nat → Nat) (h0 sc kp bl go ch bo aTp aHl aHs aWk aBk aFc : Nat) (gR gO gS : Nat) (x : Int32) : Met l yX11_sees wsX11_sees ({ frames := 1, cells := 0, slots := 0, locals := 24 } : Room) (va_Pc [.ref h0, .int x] (fun U => va_P (dC, dI) vwCl [(h0, .inr (13, [.ref sc, .ref kp, .int 0, .ref bl, .ref go, .ref ch, .ref bo])), (sc, .inr (10, [.ref aTp, .int 0, .ref aHl, .int 0, .long 0, .int 0, .int 0, .ref aHs, .int 0, .ref aWk, .int 0, .ref aBk, .int 0, .ref aFc])), (go, .inr (4, [.ref gR, .ref gO, .int 0, .ref gS]))] U.heap ∧ va_K (dC, dI) vwCl [] U)) (vp_Si (fun r => r = f_cell x)) 0 0 (fun _ => False) := by
  refine met_ofQ (cc := cX11_sees) (maxL := 2) (ret := (some .int)) (by decide) rfl ?_
  intro p e s m args below meth c s₁ Q B hml hv hQ
  obtain ⟨rfl, hP, hK⟩ := hv
  have hx := B.exec
  have hb := B.bytes
  have hr := B.returns
  have hts := atoms_spec (ws := wsX11_sees) B.pre
  have hown : s.vm.findClass RX11 = some m.cls := findClass_of_methodNamed B.named
  have hlocks := B.notSynchronized
  obtain ⟨A, hAe⟩ : ∃ A : Nat → Prop, A = fun _ => False := ⟨_, rfl⟩
  rw [← hAe] at hQ
  have hS : va_S A s.heap s.heap [] := va_S.rf
  have hl := lv_entry [.ref h0, .int x] (n := 2) (Nat.le_of_ble_eq_true rfl)
  rw [lg_entry_eq]
  generalize (lg_sl [.ref h0, .int x] ++ List.replicate (2 - (lg_sl [.ref h0, .int x]).length) Slot.unset).toArray = ls at hl ⊢
  generalize hag : ([.ref h0, .int x] : List Value).toArray = args at hts hQ ⊢
  have hl : lv_has ls 2 [(0, .ref h0), (1, .int x)] := hl
  refine lv_iload_n hx hb dX11_sees_0 rfl (lv_at hl 1 rfl) ?_
  refine vp_callSi (va_runS (As := [.int x]) (rest := []) ⟨hx, hb, hml, hown, hts⟩ (c_xCell l dC dI x) (va_cwS 1 hts gX11_sees_X11_isCell rfl rfl rfl (by decide +kernel) ⟨Nat.le_of_ble_eq_true rfl, Nat.le_of_ble_eq_true rfl⟩) ⟨fun a U g mk q => ⟨q.1, trivial⟩, fun U hU hW => ⟨rfl, trivial⟩⟩ rfl rfl hl.1 rfl (lv_room (Nat.le_of_ble_eq_true rfl)) dX11_sees_1 ⟨Nat.le_of_ble_eq_true rfl, Nat.le_of_ble_eq_true rfl⟩).run (fun r_1 hw_2 => ?_)
  rcases hw_2 with ⟨rfl, h_3, h_4⟩ | ⟨rfl, h_5⟩
  · skip
    refine lv_if_ne (tgt := 9) hx hb dX11_sees_4 (by decide) (fun _ => ?_) (fun c_6 => absurd c_6 (by decide))
    refine lv_aload_n hx hb dX11_sees_9 rfl (lv_at hl 0 rfl) ?_
    refine va_get (D := (dC, dI)) (ci := 13) (v := .ref go) (C := RX11) (T := TX11) (N := 7) hx hb hts kc_xSees_0 hown hK hP 0 rfl rfl 4 (by decide) (hts (.fieldLink RX11 35 "MistHeaps" "goings" "LMistHeaps$Goings;") kc_xSees_1) (fun _ h9 => h9) rfl dX11_sees_10 ?_
    refine lv_aload_n hx hb dX11_sees_13 rfl (lv_at hl 0 rfl) ?_
    refine va_get (D := (dC, dI)) (ci := 13) (v := .ref sc) (C := RX11) (T := TX11) (N := 7) hx hb hts kc_xSees_0 hown hK hP 0 rfl rfl 0 (by decide) (hts (.fieldLink RX11 14 "MistHeaps" "scene" "LMistHeaps$Scene;") kc_xSees_2) (fun _ h9 => h9) rfl dX11_sees_14 ?_
    refine lv_aload_n hx hb dX11_sees_17 rfl (lv_at hl 0 rfl) ?_
    refine va_get (D := (dC, dI)) (ci := 13) (v := .ref sc) (C := RX11) (T := TX11) (N := 7) hx hb hts kc_xSees_0 hown hK hP 0 rfl rfl 0 (by decide) (hts (.fieldLink RX11 14 "MistHeaps" "scene" "LMistHeaps$Scene;") kc_xSees_2) (fun _ h9 => h9) rfl dX11_sees_18 ?_
    refine va_get (D := (dC, dI)) (ci := 10) (v := .int 0) (C := RX8) (T := TX8) (N := 14) hx hb hts kc_xSees_3 hown hK hP 1 rfl rfl 6 (by decide) (hts (.fieldLink RX11 88 "MistHeaps$Scene" "snow" "I") kc_xSees_4) (fun _ h9 => h9) rfl dX11_sees_21 ?_
    have hPc := hP.sub (ws' := [(go, .inr (4, [.ref gR, .ref gO, .int 0, .ref gS])), (sc, .inr (10, [.ref aTp, .int 0, .ref aHl, .int 0, .long 0, .int 0, .int 0, .ref aHs, .int 0, .ref aWk, .int 0, .ref aBk, .int 0, .ref aFc]))]) [2, 1] rfl
    have hKc := hK.sub (tys' := []) [] rfl
    refine va_csv (va_runV (As := [.ref sc, .int 0]) (rest := []) ⟨hx, hb, hml, hown, hts⟩ (c_measure0 l dC dI go gR gO gS sc aTp aHl aHs aWk aBk aFc 0) (cwV 2 hts gX11_sees_X2_measure rfl rfl rfl (by decide +kernel) ⟨Nat.le_of_ble_eq_true rfl, Nat.le_of_ble_eq_true rfl⟩) ⟨fun a U g mk q => by obtain ⟨q0, qP, qK⟩ := q; exact ⟨q0, qP, va_K.moved (u := U) (U := U.calling g mk a) (Vm.Alike.refl U.vm) qK⟩, va_recv hK hP (ci := 4) (q0 := 2) rfl rfl, fun U hU hW => ⟨rfl, by rw [hU]; exact hPc, va_K.moved hW.alike hKc⟩⟩ rfl rfl hl.1 rfl (lv_room (Nat.le_of_ble_eq_true rfl)) dX11_sees_24 ⟨Nat.le_of_ble_eq_true rfl, Nat.le_of_ble_eq_true rfl⟩).run (fun hw_8 => ?_)
    refine lv_aload_n hx hb dX11_sees_27 rfl (lv_at hl 0 rfl) ?_
    refine va_get (D := (dC, dI)) (ci := 13) (v := .ref go) (C := RX11) (T := TX11) (N := 7) hx hb hts kc_xSees_0 hown hK hP 0 rfl rfl 4 (by decide) (hts (.fieldLink RX11 35 "MistHeaps" "goings" "LMistHeaps$Goings;") kc_xSees_1) (fun _ h9 => h9) rfl dX11_sees_28 ?_
    refine lv_aload_n hx hb dX11_sees_31 rfl (lv_at hl 0 rfl) ?_
    refine va_get (D := (dC, dI)) (ci := 13) (v := .ref sc) (C := RX11) (T := TX11) (N := 7) hx hb hts kc_xSees_0 hown hK hP 0 rfl rfl 0 (by decide) (hts (.fieldLink RX11 14 "MistHeaps" "scene" "LMistHeaps$Scene;") kc_xSees_2) (fun _ h9 => h9) rfl dX11_sees_32 ?_
    refine lv_iload_n hx hb dX11_sees_35 rfl (lv_at hl 1 rfl) ?_
    have hPc := hP.sub (ws' := [(go, .inr (4, [.ref gR, .ref gO, .int 0, .ref gS])), (sc, .inr (10, [.ref aTp, .int 0, .ref aHl, .int 0, .long 0, .int 0, .int 0, .ref aHs, .int 0, .ref aWk, .int 0, .ref aBk, .int 0, .ref aFc]))]) [2, 1] rfl
    have hKc := hK.sub (tys' := []) [] rfl
    refine vp_callSi (va_runV (As := [.ref sc, .int x]) (rest := []) ⟨hx, hb, hml, hown, hts⟩ (c_seen0 l dC dI go gR gO gS sc aTp aHl aHs aWk aBk aFc (x)) (cwV 2 hts gX11_sees_X2_seenFrom rfl rfl rfl (by decide +kernel) ⟨Nat.le_of_ble_eq_true rfl, Nat.le_of_ble_eq_true rfl⟩) ⟨fun a U g mk q => by obtain ⟨q0, qP, qK⟩ := q; exact ⟨q0, qP, va_K.moved (u := U) (U := U.calling g mk a) (Vm.Alike.refl U.vm) qK⟩, va_recv hK hP (ci := 4) (q0 := 2) rfl rfl, fun U hU hW => ⟨rfl, by rw [hU]; exact hPc, va_K.moved hW.alike hKc⟩⟩ rfl rfl hl.1 rfl (lv_room (Nat.le_of_ble_eq_true rfl)) dX11_sees_36 ⟨Nat.le_of_ble_eq_true rfl, Nat.le_of_ble_eq_true rfl⟩).run (fun r_9 hw_10 => ?_)
    refine qi_as (y := 0) (hw_10) ?_
    rw [hQ]
    exact W.iret (v := 0) hx hb hr (fun t ht hW => ⟨0, rfl, by simp only [f_cell]; (repeat' split) <;> first | (simp_all; done) | (simp only [← Int32.not_lt] at *; simp_all), by rw [ht]⟩) (fun q hq => absurd hq List.not_mem_nil) dX11_sees_39
  · skip
    refine lv_if_ne (tgt := 9) hx hb dX11_sees_4 (by decide) (fun c_11 => absurd c_11 (by decide)) (fun _ => ?_)
    refine lv_iconst (v := (-1)) hx hb dX11_sees_7 (by decide) ?_
    rw [hQ]
    exact W.iret (v := (-1)) hx hb hr (fun t ht hW => ⟨(-1), rfl, by simp only [f_cell]; (repeat' split) <;> first | (simp_all; done) | (simp only [← Int32.not_lt] at *; simp_all), by rw [ht]⟩) (fun q hq => absurd hq List.not_mem_nil) dX11_sees_8

theorem kc_xWhere_0 : (.constantLong RX11 139 (-9223372036854775808) : Cond) ∈ wsX11_where := by decide +kernel
theorem kc_xWhere_1 : ∀ w ∈ wsX110, w ∈ wsX11_where := by decide +kernel
theorem kc_xWhere_2 : (.fieldLink RX11 14 "MistHeaps" "scene" "LMistHeaps$Scene;" : Cond) ∈ wsX11_where := by decide +kernel
theorem kc_xWhere_3 : ∀ w ∈ wsX80, w ∈ wsX11_where := by decide +kernel
theorem kc_xWhere_4 : (.fieldLink RX11 101 "MistHeaps$Scene" "heapCount" "I" : Cond) ∈ wsX11_where := by decide +kernel
theorem kc_xWhere_5 : (.fieldLink RX11 35 "MistHeaps" "goings" "LMistHeaps$Goings;" : Cond) ∈ wsX11_where := by decide +kernel
theorem kc_xWhere_6 : (.fieldLink RX11 88 "MistHeaps$Scene" "snow" "I" : Cond) ∈ wsX11_where := by decide +kernel
set_option maxHeartbeats 4000000 in
set_option maxRecDepth 100000 in
theorem c_xWhere (l : Launch) (dC : Nat → ClassId) (dI : Nat → Nat → Nat) (h0 sc kp bl go ch bo aTp aHl aHs aWk aBk aFc : Nat) (gR gO gS : Nat) (x : Int32) : Met l yX11_where wsX11_where ({ frames := 1, cells := 0, slots := 0, locals := 24 } : Room) (va_Pc [.ref h0, .int x] (fun U => va_P (dC, dI) vwCl [(h0, .inr (13, [.ref sc, .ref kp, .int 0, .ref bl, .ref go, .ref ch, .ref bo])), (sc, .inr (10, [.ref aTp, .int 0, .ref aHl, .int 0, .long 0, .int 0, .int 0, .ref aHs, .int 0, .ref aWk, .int 0, .ref aBk, .int 0, .ref aFc])), (go, .inr (4, [.ref gR, .ref gO, .int 0, .ref gS]))] U.heap ∧ va_K (dC, dI) vwCl [] U)) (vp_Sl (fun r => r = f_where x)) 0 0 (fun _ => False) := by
  refine met_ofQ (cc := cX11_where) (maxL := 5) (ret := (some .long)) (by decide) rfl ?_
  intro p e s m args below meth c s₁ Q B hml hv hQ
  obtain ⟨rfl, hP, hK⟩ := hv
  have hx := B.exec
  have hb := B.bytes
  have hr := B.returns
  have hts := atoms_spec (ws := wsX11_where) B.pre
  have hown : s.vm.findClass RX11 = some m.cls := findClass_of_methodNamed B.named
  have hlocks := B.notSynchronized
  obtain ⟨A, hAe⟩ : ∃ A : Nat → Prop, A = fun _ => False := ⟨_, rfl⟩
  rw [← hAe] at hQ
  have hS : va_S A s.heap s.heap [] := va_S.rf
  have hl := lv_entry [.ref h0, .int x] (n := 5) (Nat.le_of_ble_eq_true rfl)
  rw [lg_entry_eq]
  generalize (lg_sl [.ref h0, .int x] ++ List.replicate (5 - (lg_sl [.ref h0, .int x]).length) Slot.unset).toArray = ls at hl ⊢
  generalize hag : ([.ref h0, .int x] : List Value).toArray = args at hts hQ ⊢
  have hl : lv_has ls 5 [(0, .ref h0), (1, .int x)] := hl
  refine lv_iload_n hx hb dX11_where_0 rfl (lv_at hl 1 rfl) ?_
  refine lv_if_lt (tgt := 17) hx hb dX11_where_1 (by decide) (fun c_1 => ?_) (fun c_1 => ?_)
  · skip
    refine lv_ldc2 (v := (-9223372036854775808)) hx hb hown (hts (.constantLong RX11 139 (-9223372036854775808)) kc_xWhere_0) dX11_where_17 ?_
    rw [hQ]
    exact W.lret (v := (-9223372036854775808)) hx hb hr (fun t ht hW => ⟨(-9223372036854775808), rfl, by simp only [f_where]; (repeat' split) <;> first | (simp_all; done) | (simp only [← Int32.not_lt] at *; simp_all), by rw [ht]⟩) (fun q hq => absurd hq List.not_mem_nil) dX11_where_20
  · skip
    refine lv_iload_n hx hb dX11_where_4 rfl (lv_at hl 1 rfl) ?_
    refine lv_iconst (v := 1) hx hb dX11_where_5 (by decide) ?_
    refine lv_aload_n hx hb dX11_where_6 rfl (lv_at hl 0 rfl) ?_
    refine va_get (D := (dC, dI)) (ci := 13) (v := .ref sc) (C := RX11) (T := TX11) (N := 7) hx hb hts kc_xWhere_1 hown hK hP 0 rfl rfl 0 (by decide) (hts (.fieldLink RX11 14 "MistHeaps" "scene" "LMistHeaps$Scene;") kc_xWhere_2) (fun _ h9 => h9) rfl dX11_where_7 ?_
    refine va_get (D := (dC, dI)) (ci := 10) (v := .int 0) (C := RX8) (T := TX8) (N := 14) hx hb hts kc_xWhere_3 hown hK hP 1 rfl rfl 8 (by decide) (hts (.fieldLink RX11 101 "MistHeaps$Scene" "heapCount" "I") kc_xWhere_4) (fun _ h9 => h9) rfl dX11_where_10 ?_
    refine lv_ishl hx hb dX11_where_13 ?_
    refine qi_as (y := 1) (by decide) ?_
    refine lv_icmp_lt (tgt := 21) hx hb dX11_where_14 (by decide) (fun c_2 => ?_) (fun c_2 => ?_)
    · skip
      obtain rfl := lt1_0 (by assumption) c_2
      refine lv_aload_n hx hb dX11_where_21 rfl (lv_at hl 0 rfl) ?_
      refine va_get (D := (dC, dI)) (ci := 13) (v := .ref go) (C := RX11) (T := TX11) (N := 7) hx hb hts kc_xWhere_1 hown hK hP 0 rfl rfl 4 (by decide) (hts (.fieldLink RX11 35 "MistHeaps" "goings" "LMistHeaps$Goings;") kc_xWhere_5) (fun _ h9 => h9) rfl dX11_where_22 ?_
      refine lv_aload_n hx hb dX11_where_25 rfl (lv_at hl 0 rfl) ?_
      refine va_get (D := (dC, dI)) (ci := 13) (v := .ref sc) (C := RX11) (T := TX11) (N := 7) hx hb hts kc_xWhere_1 hown hK hP 0 rfl rfl 0 (by decide) (hts (.fieldLink RX11 14 "MistHeaps" "scene" "LMistHeaps$Scene;") kc_xWhere_2) (fun _ h9 => h9) rfl dX11_where_26 ?_
      refine lv_aload_n hx hb dX11_where_29 rfl (lv_at hl 0 rfl) ?_
      refine va_get (D := (dC, dI)) (ci := 13) (v := .ref sc) (C := RX11) (T := TX11) (N := 7) hx hb hts kc_xWhere_1 hown hK hP 0 rfl rfl 0 (by decide) (hts (.fieldLink RX11 14 "MistHeaps" "scene" "LMistHeaps$Scene;") kc_xWhere_2) (fun _ h9 => h9) rfl dX11_where_30 ?_
      refine va_get (D := (dC, dI)) (ci := 10) (v := .int 0) (C := RX8) (T := TX8) (N := 14) hx hb hts kc_xWhere_3 hown hK hP 1 rfl rfl 6 (by decide) (hts (.fieldLink RX11 88 "MistHeaps$Scene" "snow" "I") kc_xWhere_6) (fun _ h9 => h9) rfl dX11_where_33 ?_
      have hPc := hP.sub (ws' := [(go, .inr (4, [.ref gR, .ref gO, .int 0, .ref gS])), (sc, .inr (10, [.ref aTp, .int 0, .ref aHl, .int 0, .long 0, .int 0, .int 0, .ref aHs, .int 0, .ref aWk, .int 0, .ref aBk, .int 0, .ref aFc]))]) [2, 1] rfl
      have hKc := hK.sub (tys' := []) [] rfl
      refine va_csv (va_runV (As := [.ref sc, .int 0]) (rest := []) ⟨hx, hb, hml, hown, hts⟩ (c_measure0 l dC dI go gR gO gS sc aTp aHl aHs aWk aBk aFc 0) (cwV 2 hts gX11_where_X2_measure rfl rfl rfl (by decide +kernel) ⟨Nat.le_of_ble_eq_true rfl, Nat.le_of_ble_eq_true rfl⟩) ⟨fun a U g mk q => by obtain ⟨q0, qP, qK⟩ := q; exact ⟨q0, qP, va_K.moved (u := U) (U := U.calling g mk a) (Vm.Alike.refl U.vm) qK⟩, va_recv hK hP (ci := 4) (q0 := 2) rfl rfl, fun U hU hW => ⟨rfl, by rw [hU]; exact hPc, va_K.moved hW.alike hKc⟩⟩ rfl rfl hl.1 rfl (lv_room (Nat.le_of_ble_eq_true rfl)) dX11_where_36 ⟨Nat.le_of_ble_eq_true rfl, Nat.le_of_ble_eq_true rfl⟩).run (fun hw_4 => ?_)
      refine lv_lconst (v := 0) hx hb dX11_where_39 (by decide) ?_
      refine lv_lstore_n (lv' := [(2, .long 0), (0, .ref h0), (1, .int 0)]) hx hb dX11_where_40 rfl hl (by decide) rfl (fun ls hl => ?_)
      refine lv_iconst (v := 0) hx hb dX11_where_41 (by decide) ?_
      refine lv_istore (lv' := [(4, .int 0), (2, .long 0), (0, .ref h0), (1, .int 0)]) hx hb dX11_where_42 hl (by decide) rfl (fun ls hl => ?_)
      have L44 : ∀ (n : Nat) (i : Nat), 36 - i < n → i ≤ 36 → ∀ (ls : Array Slot), lv_has ls 5 [(0, .ref h0), (1, .int 0), (2, .long (lN (2 ^ i - 1))), (4, .int (nI i))] → W p l e ({ frames := 1, cells := 0, slots := 0, locals := 24 } : Room) s m args below meth c s.heap [] 0 0 Q (F0 m 44 ls []) := by
        intro n
        induction n with
        | zero => intro i hm; exact absurd hm (Nat.not_lt_zero _)
        | succ n ih44 =>
          intro i hm hi ls hl
          refine lv_iload hx hb dX11_where_44 (lv_at hl 3 rfl) ?_
          refine lv_bipush (v := 36) hx hb dX11_where_46 (by decide) ?_
          refine lv_icmp_ge (tgt := 81) hx hb dX11_where_48 (by decide) (fun c_5 => ?_) (fun c_5 => ?_)
          · skip
            have c_5 : 36 ≤ i := (nI_leI (a := 36) (b := i) (by omega) (by omega)).mp c_5
            refine lv_lload_n hx hb dX11_where_81 rfl (lv_at hl 2 rfl) ?_
            rw [hQ]
            exact W.lret (v := lN (2 ^ i - 1)) hx hb hr (fun t ht hW => ⟨lN (2 ^ i - 1), rfl, by rw [show i = 36 by omega]; decide, by rw [ht]⟩) (fun q hq => absurd hq List.not_mem_nil) dX11_where_82
          · skip
            have c_5 : ¬ 36 ≤ i := fun q => c_5 ((nI_leI (a := 36) (b := i) (by omega) (by omega)).mpr q)
            refine lv_aload_n hx hb dX11_where_51 rfl (lv_at hl 0 rfl) ?_
            refine va_get (D := (dC, dI)) (ci := 13) (v := .ref go) (C := RX11) (T := TX11) (N := 7) hx hb hts kc_xWhere_1 hown hK hP 0 rfl rfl 4 (by decide) (hts (.fieldLink RX11 35 "MistHeaps" "goings" "LMistHeaps$Goings;") kc_xWhere_5) (fun _ h9 => h9) rfl dX11_where_52 ?_
            refine lv_aload_n hx hb dX11_where_55 rfl (lv_at hl 0 rfl) ?_
            refine va_get (D := (dC, dI)) (ci := 13) (v := .ref sc) (C := RX11) (T := TX11) (N := 7) hx hb hts kc_xWhere_1 hown hK hP 0 rfl rfl 0 (by decide) (hts (.fieldLink RX11 14 "MistHeaps" "scene" "LMistHeaps$Scene;") kc_xWhere_2) (fun _ h9 => h9) rfl dX11_where_56 ?_
            refine lv_iload hx hb dX11_where_59 (lv_at hl 3 rfl) ?_
            have hPc := hP.sub (ws' := [(go, .inr (4, [.ref gR, .ref gO, .int 0, .ref gS])), (sc, .inr (10, [.ref aTp, .int 0, .ref aHl, .int 0, .long 0, .int 0, .int 0, .ref aHs, .int 0, .ref aWk, .int 0, .ref aBk, .int 0, .ref aFc]))]) [2, 1] rfl
            have hKc := hK.sub (tys' := []) [] rfl
            refine vp_callSi (va_runV (As := [.ref sc, .int (nI i)]) (rest := []) ⟨hx, hb, hml, hown, hts⟩ (c_seen0 l dC dI go gR gO gS sc aTp aHl aHs aWk aBk aFc (nI i)) (cwV 2 hts gX11_where_X2_seenFrom rfl rfl rfl (by decide +kernel) ⟨Nat.le_of_ble_eq_true rfl, Nat.le_of_ble_eq_true rfl⟩) ⟨fun a U g mk q => by obtain ⟨q0, qP, qK⟩ := q; exact ⟨q0, qP, va_K.moved (u := U) (U := U.calling g mk a) (Vm.Alike.refl U.vm) qK⟩, va_recv hK hP (ci := 4) (q0 := 2) rfl rfl, fun U hU hW => ⟨rfl, by rw [hU]; exact hPc, va_K.moved hW.alike hKc⟩⟩ rfl rfl hl.1 rfl (lv_room (Nat.le_of_ble_eq_true rfl)) dX11_where_61 ⟨Nat.le_of_ble_eq_true rfl, Nat.le_of_ble_eq_true rfl⟩).run (fun r_6 hw_7 => ?_)
            refine qi_as (y := 0) (hw_7) ?_
            refine lv_iload_n hx hb dX11_where_64 rfl (lv_at hl 1 rfl) ?_
            refine lv_icmp_ne (tgt := 75) hx hb dX11_where_65 (by decide) (fun c_8 => absurd c_8 (by decide)) (fun _ => ?_)
            refine lv_lload_n hx hb dX11_where_68 rfl (lv_at hl 2 rfl) ?_
            refine lv_lconst (v := 1) hx hb dX11_where_69 (by decide) ?_
            refine lv_iload hx hb dX11_where_70 (lv_at hl 3 rfl) ?_
            refine lv_lshl (v := (1 : Int64) <<< ((nI i).toInt64 &&& 63)) hx hb dX11_where_72 (rfl) ?_
            refine lv_lor hx hb dX11_where_73 ?_
            refine ql_as (y := lN (2 ^ (i + 1) - 1)) (wh_step i (by omega)) ?_
            refine lv_lstore_n (lv' := [(2, .long (lN (2 ^ (i + 1) - 1))), (0, .ref h0), (1, .int 0), (4, .int (nI i))]) hx hb dX11_where_74 rfl hl (by decide) rfl (fun ls hl => ?_)
            refine lv_iinc (v := nI (i + 1)) (lv' := [(4, .int (nI (i + 1))), (2, .long (lN (2 ^ (i + 1) - 1))), (0, .ref h0), (1, .int 0)]) hx hb dX11_where_75 hl (k := 3) rfl (nI_add i 1) (by decide) rfl (fun ls hl => ?_)
            refine lv_goto (tgt := 44) hx hb dX11_where_78 (by decide) ?_
            exact ih44 _ (by omega) (by omega) ls (lv_sub hl [2, 3, 1, 0] rfl)
      exact L44 _ (0) (Nat.lt_succ_self _) (by omega) ls (lv_sub hl [2, 3, 1, 0] rfl)
    · skip
      have c_2 : ¬ x = 0 := fun q => c_2 (by rw [q]; decide)
      refine lv_ldc2 (v := (-9223372036854775808)) hx hb hown (hts (.constantLong RX11 139 (-9223372036854775808)) kc_xWhere_0) dX11_where_17 ?_
      rw [hQ]
      exact W.lret (v := (-9223372036854775808)) hx hb hr (fun t ht hW => ⟨(-9223372036854775808), rfl, by simp only [f_where]; (repeat' split) <;> first | (simp_all; done) | (simp only [← Int32.not_lt] at *; simp_all), by rw [ht]⟩) (fun q hq => absurd hq List.not_mem_nil) dX11_where_20

theorem kc_link0_0 : ∀ w ∈ wsX80, w ∈ wsX2_link := by decide +kernel
theorem kc_link0_1 : (.fieldLink RX2 27 "MistHeaps$Scene" "heapCount" "I" : Cond) ∈ wsX2_link := by decide +kernel
theorem kc_link0_2 : ∀ w ∈ wsX20, w ∈ wsX2_link := by decide +kernel
theorem kc_link0_3 : (.fieldLink RX2 52 "MistHeaps$Goings" "linked" "I" : Cond) ∈ wsX2_link := by decide +kernel
set_option maxHeartbeats 4000000 in
set_option maxRecDepth 100000 in
theorem c_link0 (l : Launch) (dC : Nat → ClassId) (dI : Nat → Nat → Nat) (go gR gO gS : Nat) (sc aTp aHl aHs aWk aBk aFc : Nat) (x : Int32) (sz : Nat) : Met l yX2_link wsX2_link ({ frames := 1, cells := 0, slots := 0, locals := 23 } : Room) (va_Pc [.ref go, .ref sc, .int x] (fun U => U.heap.size = sz ∧ va_P (dC, dI) vwCl [(go, .inr (4, [.ref gR, .ref gO, .int 0, .ref gS])), (sc, .inr (10, [.ref aTp, .int 0, .ref aHl, .int 0, .long 0, .int 0, .int 0, .ref aHs, .int 0, .ref aWk, .int 0, .ref aBk, .int 0, .ref aFc]))] U.heap ∧ va_K (dC, dI) vwCl [] U ∧ va_D (fun _ => True) [(go, .inr (4, [.ref gR, .ref gO, .int 0, .ref gS])), (sc, .inr (10, [.ref aTp, .int 0, .ref aHl, .int 0, .long 0, .int 0, .int 0, .ref aHs, .int 0, .ref aWk, .int 0, .ref aBk, .int 0, .ref aFc]))])) (va_Qv (fun (u : Unit) => match u with | () => True) (fun (u : Unit) (t : State) => match u with | () => va_P (dC, dI) vwCl [(go, .inr (4, [.ref gR, .ref gO, .int 0, .ref gS])), (sc, .inr (10, [.ref aTp, .int 0, .ref aHl, .int 0, .long 0, .int 0, .int 0, .ref aHs, .int 0, .ref aWk, .int 0, .ref aBk, .int 0, .ref aFc]))] t.heap ∧ va_K (dC, dI) vwCl [] t ∧ va_D (va_A [(go, .inr (4, [.ref gR, .ref gO, .int 0, .ref gS])), (sc, .inr (10, [.ref aTp, .int 0, .ref aHl, .int 0, .long 0, .int 0, .int 0, .ref aHs, .int 0, .ref aWk, .int 0, .ref aBk, .int 0, .ref aFc]))] sz) [(go, .inr (4, [.ref gR, .ref gO, .int 0, .ref gS])), (sc, .inr (10, [.ref aTp, .int 0, .ref aHl, .int 0, .long 0, .int 0, .int 0, .ref aHs, .int 0, .ref aWk, .int 0, .ref aBk, .int 0, .ref aFc]))]) (va_A [(go, .inr (4, [.ref gR, .ref gO, .int 0, .ref gS])), (sc, .inr (10, [.ref aTp, .int 0, .ref aHl, .int 0, .long 0, .int 0, .int 0, .ref aHs, .int 0, .ref aWk, .int 0, .ref aBk, .int 0, .ref aFc]))] sz)) 0 0 (va_A [(go, .inr (4, [.ref gR, .ref gO, .int 0, .ref gS])), (sc, .inr (10, [.ref aTp, .int 0, .ref aHl, .int 0, .long 0, .int 0, .int 0, .ref aHs, .int 0, .ref aWk, .int 0, .ref aBk, .int 0, .ref aFc]))] sz) := by
  refine met_ofQ (cc := cX2_link) (maxL := 5) (ret := none) (by decide) rfl ?_
  intro p e s m args below meth c s₁ Q B hml hv hQ
  obtain ⟨rfl, hsz, hP, hK, hD0⟩ := hv
  have hx := B.exec
  have hb := B.bytes
  have hr := B.returns
  have hts := atoms_spec (ws := wsX2_link) B.pre
  have hown : s.vm.findClass RX2 = some m.cls := findClass_of_methodNamed B.named
  have hlocks := B.notSynchronized
  subst hsz
  have hD := hD0.self (sz := s.heap.size)
  generalize hAe : va_A [(go, .inr (4, [.ref gR, .ref gO, .int 0, .ref gS])), (sc, .inr (10, [.ref aTp, .int 0, .ref aHl, .int 0, .long 0, .int 0, .int 0, .ref aHs, .int 0, .ref aWk, .int 0, .ref aBk, .int 0, .ref aFc]))] s.heap.size = A at hD hQ ⊢
  have hA : ∀ q : Nat, s.heap.size ≤ q → A q := fun q h => by rw [← hAe]; exact Or.inr h
  have hS : va_S A s.heap s.heap [] := va_S.rf
  have hl := lv_entry [.ref go, .ref sc, .int x] (n := 5) (Nat.le_of_ble_eq_true rfl)
  rw [lg_entry_eq]
  generalize (lg_sl [.ref go, .ref sc, .int x] ++ List.replicate (5 - (lg_sl [.ref go, .ref sc, .int x]).length) Slot.unset).toArray = ls at hl ⊢
  generalize hag : ([.ref go, .ref sc, .int x] : List Value).toArray = args at hts hQ ⊢
  have hl : lv_has ls 5 [(0, .ref go), (1, .ref sc), (2, .int x)] := hl
  obtain ⟨H, hH⟩ : ∃ H : Heap, H = s.heap := ⟨_, rfl⟩
  rw [← hH] at hP
  rw [← hH]
  have hS : va_S A s.heap H [] := by rw [hH]; exact hS
  obtain ⟨locs, hlo⟩ : ∃ L : List Loc, L = [] := ⟨_, rfl⟩
  rw [← hlo] at hS
  rw [← hlo]
  clear hH hlo
  refine lv_aload_n hx hb dX2_link_0 rfl (lv_at hl 0 rfl) ?_
  refine lv_aload_n hx hb dX2_link_1 rfl (lv_at hl 1 rfl) ?_
  refine lv_iload_n hx hb dX2_link_2 rfl (lv_at hl 2 rfl) ?_
  have hPc := hP.sub (ws' := [(go, .inr (4, [.ref gR, .ref gO, .int 0, .ref gS])), (sc, .inr (10, [.ref aTp, .int 0, .ref aHl, .int 0, .long 0, .int 0, .int 0, .ref aHs, .int 0, .ref aWk, .int 0, .ref aBk, .int 0, .ref aFc]))]) [0, 1] rfl
  have hKc := hK.sub (tys' := []) [] rfl
  refine va_csv (va_runV (As := [.ref sc, .int x]) (rest := []) ⟨hx, hb, hml, hown, hts⟩ (c_measure0 l dC dI go gR gO gS sc aTp aHl aHs aWk aBk aFc x) (cwV 2 hts gX2_link_X2_measure rfl rfl rfl (by decide +kernel) ⟨Nat.le_of_ble_eq_true rfl, Nat.le_of_ble_eq_true rfl⟩) ⟨fun a U g mk q => by obtain ⟨q0, qP, qK⟩ := q; exact ⟨q0, qP, va_K.moved (u := U) (U := U.calling g mk a) (Vm.Alike.refl U.vm) qK⟩, va_recv hK hP (ci := 4) (q0 := 0) rfl rfl, fun U hU hW => ⟨rfl, by rw [hU]; exact hPc, va_K.moved hW.alike hKc⟩⟩ rfl rfl hl.1 rfl (lv_room (Nat.le_of_ble_eq_true rfl)) dX2_link_3 ⟨Nat.le_of_ble_eq_true rfl, Nat.le_of_ble_eq_true rfl⟩).run (fun hw_2 => ?_)
  refine lv_aload_n hx hb dX2_link_6 rfl (lv_at hl 0 rfl) ?_
  refine lv_aload_n hx hb dX2_link_7 rfl (lv_at hl 1 rfl) ?_
  refine va_get (D := (dC, dI)) (ci := 10) (v := .int 0) (C := RX8) (T := TX8) (N := 14) hx hb hts kc_link0_0 hown hK hP 1 rfl rfl 8 (by decide) (hts (.fieldLink RX2 27 "MistHeaps$Scene" "heapCount" "I") kc_link0_1) (fun _ h9 => h9) rfl dX2_link_8 ?_
  refine va_put (D := (dC, dI)) (ci := 4) (v := .int 0) (ty := .int) (C := RX2) (T := TX2) (N := 4) hx hb hts kc_link0_2 tyX2 tyX2_ok nmX2 hown hK hP hD hS 0 rfl rfl 2 (by decide) (hts (.fieldLink RX2 52 "MistHeaps$Goings" "linked" "I") kc_link0_3) (fun _ h9 => h9) rfl (by decide +kernel) rfl rfl (Nat.le_of_ble_eq_true rfl) dX2_link_11 (fun H locs hP hD hS => ?_)
  have hP : va_P (dC, dI) vwCl [(go, .inr (4, [.ref gR, .ref gO, .int 0, .ref gS])), (sc, .inr (10, [.ref aTp, .int 0, .ref aHl, .int 0, .long 0, .int 0, .int 0, .ref aHs, .int 0, .ref aWk, .int 0, .ref aBk, .int 0, .ref aFc]))] H := hP
  have hD : va_D A [(go, .inr (4, [.ref gR, .ref gO, .int 0, .ref gS])), (sc, .inr (10, [.ref aTp, .int 0, .ref aHl, .int 0, .long 0, .int 0, .int 0, .ref aHs, .int 0, .ref aWk, .int 0, .ref aBk, .int 0, .ref aFc]))] := hD
  refine lv_iconst (v := 0) hx hb dX2_link_14 (by decide) ?_
  refine lv_istore_n (lv' := [(3, .int 0), (0, .ref go), (1, .ref sc), (2, .int x)]) hx hb dX2_link_15 rfl hl (by decide) rfl (fun ls hl => ?_)
  refine lv_iload_n hx hb dX2_link_16 rfl (lv_at hl 0 rfl) ?_
  refine lv_aload_n hx hb dX2_link_17 rfl (lv_at hl 1 rfl) ?_
  refine va_get (D := (dC, dI)) (ci := 4) (v := .int 0) (C := RX2) (T := TX2) (N := 4) hx hb hts kc_link0_2 hown hK hP 0 rfl rfl 2 (by decide) (hts (.fieldLink RX2 52 "MistHeaps$Goings" "linked" "I") kc_link0_3) (fun _ h9 => h9) rfl dX2_link_18 ?_
  refine lv_icmp_ge (tgt := 72) hx hb dX2_link_21 (by decide) (fun _ => ?_) (fun c_3 => absurd c_3 (by decide))
  rw [hQ]
  have hP9 := hP.sub (ws' := [(go, .inr (4, [.ref gR, .ref gO, .int 0, .ref gS])), (sc, .inr (10, [.ref aTp, .int 0, .ref aHl, .int 0, .long 0, .int 0, .int 0, .ref aHs, .int 0, .ref aWk, .int 0, .ref aBk, .int 0, .ref aFc]))]) [0, 1] rfl
  have hD9 := hD.sub (ws' := [(go, .inr (4, [.ref gR, .ref gO, .int 0, .ref gS])), (sc, .inr (10, [.ref aTp, .int 0, .ref aHl, .int 0, .long 0, .int 0, .int 0, .ref aHs, .int 0, .ref aWk, .int 0, .ref aBk, .int 0, .ref aFc]))]) [0, 1] (by decide) rfl
  have hK9 := hK.sub (tys' := []) [] rfl
  exact W.vret hx hb hr (fun t ht hW => ⟨⟨(), rfl, trivial, by rw [ht]; exact hP9, va_K.moved hW.alike hK9, hD9⟩, hS.F ht⟩) hS.2.2 dX2_link_72

theorem kc_xLooked_0 : ∀ w ∈ wsX110, w ∈ wsX11_looked := by decide +kernel
theorem kc_xLooked_1 : (.fieldLink RX11 35 "MistHeaps" "goings" "LMistHeaps$Goings;" : Cond) ∈ wsX11_looked := by decide +kernel
theorem kc_xLooked_2 : (.fieldLink RX11 14 "MistHeaps" "scene" "LMistHeaps$Scene;" : Cond) ∈ wsX11_looked := by decide +kernel
theorem kc_xLooked_3 : ∀ w ∈ wsX80, w ∈ wsX11_looked := by decide +kernel
theorem kc_xLooked_4 : (.fieldLink RX11 88 "MistHeaps$Scene" "snow" "I" : Cond) ∈ wsX11_looked := by decide +kernel
theorem kc_xLooked_5 : (.fieldLink RX11 221 "MistHeaps$Scene" "bookSize" "I" : Cond) ∈ wsX11_looked := by decide +kernel
set_option maxHeartbeats 4000000 in
set_option maxRecDepth 100000 in
theorem c_xLooked (l : Launch) (dC : Nat → ClassId) (dI : Nat → Nat → Nat) (h0 sc kp bl go ch bo aTp aHl aHs aWk aBk aFc : Nat) (gR gO gS : Nat) (sz : Nat) : Met l yX11_looked wsX11_looked ({ frames := 2, cells := 0, slots := 0, locals := 47 } : Room) (va_Pc [.ref h0] (fun U => U.heap.size = sz ∧ va_P (dC, dI) vwCl [(h0, .inr (13, [.ref sc, .ref kp, .int 0, .ref bl, .ref go, .ref ch, .ref bo])), (sc, .inr (10, [.ref aTp, .int 0, .ref aHl, .int 0, .long 0, .int 0, .int 0, .ref aHs, .int 0, .ref aWk, .int 0, .ref aBk, .int 0, .ref aFc])), (go, .inr (4, [.ref gR, .ref gO, .int 0, .ref gS]))] U.heap ∧ va_K (dC, dI) vwCl [] U ∧ va_D (fun _ => True) [(h0, .inr (13, [.ref sc, .ref kp, .int 0, .ref bl, .ref go, .ref ch, .ref bo])), (sc, .inr (10, [.ref aTp, .int 0, .ref aHl, .int 0, .long 0, .int 0, .int 0, .ref aHs, .int 0, .ref aWk, .int 0, .ref aBk, .int 0, .ref aFc])), (go, .inr (4, [.ref gR, .ref gO, .int 0, .ref gS]))])) (va_Qi (fun (r : Int32) (u : Unit) => match u with | () => r = -5) (fun (u : Unit) (t : State) => match u with | () => True) (va_A [(h0, .inr (13, [.ref sc, .ref kp, .int 0, .ref bl, .ref go, .ref ch, .ref bo])), (sc, .inr (10, [.ref aTp, .int 0, .ref aHl, .int 0, .long 0, .int 0, .int 0, .ref aHs, .int 0, .ref aWk, .int 0, .ref aBk, .int 0, .ref aFc])), (go, .inr (4, [.ref gR, .ref gO, .int 0, .ref gS]))] sz)) 0 0 (va_A [(h0, .inr (13, [.ref sc, .ref kp, .int 0, .ref bl, .ref go, .ref ch, .ref bo])), (sc, .inr (10, [.ref aTp, .int 0, .ref aHl, .int 0, .long 0, .int 0, .int 0, .ref aHs, .int 0, .ref aWk, .int 0, .ref aBk, .int 0, .ref aFc])), (go, .inr (4, [.ref gR, .ref gO, .int 0, .ref gS]))] sz) := by
  refine met_ofQ (cc := cX11_looked) (maxL := 2) (ret := (some .int)) (by decide) rfl ?_
  intro p e s m args below meth c s₁ Q B hml hv hQ
  obtain ⟨rfl, hsz, hP, hK, hD0⟩ := hv
  have hx := B.exec
  have hb := B.bytes
  have hr := B.returns
  have hts := atoms_spec (ws := wsX11_looked) B.pre
  have hown : s.vm.findClass RX11 = some m.cls := findClass_of_methodNamed B.named
  have hlocks := B.notSynchronized
  subst hsz
  have hD := hD0.self (sz := s.heap.size)
  generalize hAe : va_A [(h0, .inr (13, [.ref sc, .ref kp, .int 0, .ref bl, .ref go, .ref ch, .ref bo])), (sc, .inr (10, [.ref aTp, .int 0, .ref aHl, .int 0, .long 0, .int 0, .int 0, .ref aHs, .int 0, .ref aWk, .int 0, .ref aBk, .int 0, .ref aFc])), (go, .inr (4, [.ref gR, .ref gO, .int 0, .ref gS]))] s.heap.size = A at hD hQ ⊢
  have hA : ∀ q : Nat, s.heap.size ≤ q → A q := fun q h => by rw [← hAe]; exact Or.inr h
  have hS : va_S A s.heap s.heap [] := va_S.rf
  have hl := lv_entry [.ref h0] (n := 2) (Nat.le_of_ble_eq_true rfl)
  rw [lg_entry_eq]
  generalize (lg_sl [.ref h0] ++ List.replicate (2 - (lg_sl [.ref h0]).length) Slot.unset).toArray = ls at hl ⊢
  generalize hag : ([.ref h0] : List Value).toArray = args at hts hQ ⊢
  have hl : lv_has ls 2 [(0, .ref h0)] := hl
  obtain ⟨H, hH⟩ : ∃ H : Heap, H = s.heap := ⟨_, rfl⟩
  rw [← hH] at hP
  rw [← hH]
  have hS : va_S A s.heap H [] := by rw [hH]; exact hS
  obtain ⟨locs, hlo⟩ : ∃ L : List Loc, L = [] := ⟨_, rfl⟩
  rw [← hlo] at hS
  rw [← hlo]
  clear hH hlo
  refine lv_aload_n hx hb dX11_looked_0 rfl (lv_at hl 0 rfl) ?_
  refine va_get (D := (dC, dI)) (ci := 13) (v := .ref go) (C := RX11) (T := TX11) (N := 7) hx hb hts kc_xLooked_0 hown hK hP 0 rfl rfl 4 (by decide) (hts (.fieldLink RX11 35 "MistHeaps" "goings" "LMistHeaps$Goings;") kc_xLooked_1) (fun _ h9 => h9) rfl dX11_looked_1 ?_
  refine lv_aload_n hx hb dX11_looked_4 rfl (lv_at hl 0 rfl) ?_
  refine va_get (D := (dC, dI)) (ci := 13) (v := .ref sc) (C := RX11) (T := TX11) (N := 7) hx hb hts kc_xLooked_0 hown hK hP 0 rfl rfl 0 (by decide) (hts (.fieldLink RX11 14 "MistHeaps" "scene" "LMistHeaps$Scene;") kc_xLooked_2) (fun _ h9 => h9) rfl dX11_looked_5 ?_
  refine lv_aload_n hx hb dX11_looked_8 rfl (lv_at hl 0 rfl) ?_
  refine va_get (D := (dC, dI)) (ci := 13) (v := .ref sc) (C := RX11) (T := TX11) (N := 7) hx hb hts kc_xLooked_0 hown hK hP 0 rfl rfl 0 (by decide) (hts (.fieldLink RX11 14 "MistHeaps" "scene" "LMistHeaps$Scene;") kc_xLooked_2) (fun _ h9 => h9) rfl dX11_looked_9 ?_
  refine va_get (D := (dC, dI)) (ci := 10) (v := .int 0) (C := RX8) (T := TX8) (N := 14) hx hb hts kc_xLooked_3 hown hK hP 1 rfl rfl 6 (by decide) (hts (.fieldLink RX11 88 "MistHeaps$Scene" "snow" "I") kc_xLooked_4) (fun _ h9 => h9) rfl dX11_looked_12 ?_
  have hPc := hP.sub (ws' := [(go, .inr (4, [.ref gR, .ref gO, .int 0, .ref gS])), (sc, .inr (10, [.ref aTp, .int 0, .ref aHl, .int 0, .long 0, .int 0, .int 0, .ref aHs, .int 0, .ref aWk, .int 0, .ref aBk, .int 0, .ref aFc]))]) [2, 1] rfl
  have hDc := hD.sub (ws' := [(go, .inr (4, [.ref gR, .ref gO, .int 0, .ref gS])), (sc, .inr (10, [.ref aTp, .int 0, .ref aHl, .int 0, .long 0, .int 0, .int 0, .ref aHs, .int 0, .ref aWk, .int 0, .ref aBk, .int 0, .ref aFc]))]) [2, 1] (by decide) rfl
  have hKc := hK.sub (tys' := []) [] rfl
  have hFc := va_free (wc := [(go, .inr (4, [.ref gR, .ref gO, .int 0, .ref gS])), (sc, .inr (10, [.ref aTp, .int 0, .ref aHl, .int 0, .long 0, .int 0, .int 0, .ref aHs, .int 0, .ref aWk, .int 0, .ref aBk, .int 0, .ref aFc]))]) hD hS hA [2, 1] rfl
  refine va_callv (va_runV (As := [.ref sc, .int 0]) (rest := []) ⟨hx, hb, hml, hown, hts⟩ (c_link0 l dC dI go gR gO gS sc aTp aHl aHs aWk aBk aFc 0 H.size) (cwV 2 hts gX11_looked_X2_link rfl rfl rfl (by decide +kernel) ⟨Nat.le_of_ble_eq_true rfl, Nat.le_of_ble_eq_true rfl⟩) ⟨fun a U g mk q => by obtain ⟨q0, q1, qP, qK, qD⟩ := q; exact ⟨q0, q1, qP, va_K.moved (u := U) (U := U.calling g mk a) (Vm.Alike.refl U.vm) qK, qD⟩, va_recv hK hP (ci := 4) (q0 := 2) rfl rfl, fun U hU hW => ⟨rfl, by rw [hU], by rw [hU]; exact hPc, va_K.moved hW.alike hKc, hDc.weaken (fun _ _ _ _ => trivial)⟩⟩ rfl rfl hl.1 rfl (lv_room (Nat.le_of_ble_eq_true rfl)) dX11_looked_15 ⟨Nat.le_of_ble_eq_true rfl, Nat.le_of_ble_eq_true rfl⟩) hS (fun q _ h => hFc q h) hFc (fun u t H1 locs ht hvm hw_2 hB hz1 hk1 hS => ?_)
  obtain ⟨⟩ := u
  try dsimp only at hw_2 hB
  obtain ⟨hP1, hK1, hD1⟩ := hB
  rw [ht] at hP1
  have hK1 := va_K.moved hvm.symm hK1
  obtain ⟨hP, hD⟩ := va_join (wr := [(h0, .inr (13, [.ref sc, .ref kp, .int 0, .ref bl, .ref go, .ref ch, .ref bo]))]) (w1 := [(go, .inr (4, [.ref gR, .ref gO, .int 0, .ref gS])), (sc, .inr (10, [.ref aTp, .int 0, .ref aHl, .int 0, .long 0, .int 0, .int 0, .ref aHs, .int 0, .ref aWk, .int 0, .ref aBk, .int 0, .ref aFc]))]) hP hD [2, 1] [0] rfl rfl (by decide) (by decide) hk1 hFc hP1 hD1
  have hK := (hK.sub (tys' := []) [] rfl).app hK1
  generalize H1 = H at hP hS ⊢
  have hP : va_P (dC, dI) vwCl [(h0, .inr (13, [.ref sc, .ref kp, .int 0, .ref bl, .ref go, .ref ch, .ref bo])), (go, .inr (4, [.ref gR, .ref gO, .int 0, .ref gS])), (sc, .inr (10, [.ref aTp, .int 0, .ref aHl, .int 0, .long 0, .int 0, .int 0, .ref aHs, .int 0, .ref aWk, .int 0, .ref aBk, .int 0, .ref aFc]))] H := hP
  have hD : va_D A [(h0, .inr (13, [.ref sc, .ref kp, .int 0, .ref bl, .ref go, .ref ch, .ref bo])), (go, .inr (4, [.ref gR, .ref gO, .int 0, .ref gS])), (sc, .inr (10, [.ref aTp, .int 0, .ref aHl, .int 0, .long 0, .int 0, .int 0, .ref aHs, .int 0, .ref aWk, .int 0, .ref aBk, .int 0, .ref aFc]))] := hD
  have hK : va_K (dC, dI) vwCl [] s := hK
  refine lv_iconst (v := 1) hx hb dX11_looked_18 (by decide) ?_
  refine lv_istore_n (lv' := [(1, .int 1), (0, .ref h0)]) hx hb dX11_looked_19 rfl hl (by decide) rfl (fun ls hl => ?_)
  refine lv_iload_n hx hb dX11_looked_20 rfl (lv_at hl 0 rfl) ?_
  refine lv_aload_n hx hb dX11_looked_21 rfl (lv_at hl 1 rfl) ?_
  refine va_get (D := (dC, dI)) (ci := 13) (v := .ref sc) (C := RX11) (T := TX11) (N := 7) hx hb hts kc_xLooked_0 hown hK hP 0 rfl rfl 0 (by decide) (hts (.fieldLink RX11 14 "MistHeaps" "scene" "LMistHeaps$Scene;") kc_xLooked_2) (fun _ h9 => h9) rfl dX11_looked_22 ?_
  refine va_get (D := (dC, dI)) (ci := 10) (v := .int 0) (C := RX8) (T := TX8) (N := 14) hx hb hts kc_xLooked_3 hown hK hP 2 rfl rfl 12 (by decide) (hts (.fieldLink RX11 221 "MistHeaps$Scene" "bookSize" "I") kc_xLooked_5) (fun _ h9 => h9) rfl dX11_looked_25 ?_
  refine lv_icmp_ge (tgt := 77) hx hb dX11_looked_28 (by decide) (fun _ => ?_) (fun c_3 => absurd c_3 (by decide))
  refine lv_bipush (v := (-5)) hx hb dX11_looked_77 (by decide) ?_
  rw [hQ]
  exact W.iret (v := (-5)) hx hb hr (fun t ht hW => ⟨⟨(-5), (), rfl, rfl, trivial⟩, hS.F ht⟩) hS.2.2 dX11_looked_79
