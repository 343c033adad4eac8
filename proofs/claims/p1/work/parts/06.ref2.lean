theorem dX12_set_0 : decode cX12_set 0 = .ok (.iload_n 1, 1) := by decide +kernel
theorem dX12_set_1 : decode cX12_set 1 = .ok (.iconst 0, 1) := by decide +kernel
theorem dX12_set_2 : decode cX12_set 2 = .ok (.iconst 1, 1) := by decide +kernel
set_option maxRecDepth 20000 in
theorem ggX12_set_X12_in : GoodIn wsX12_set wsX12_in := goodIn_r _ [5] (by decide +kernel) (by decide +kernel)
set_option maxRecDepth 20000 in
theorem gX12_set_X12_in : GoodIn wsX12_set (va_wsS RX12 45 yX12_in wsX12_in) := goodIn_app (goodIn_of _ (by decide +kernel)) ggX12_set_X12_in
theorem dX12_set_3 : decode cX12_set 3 = .ok (.invokestatic 45, 3) := by decide +kernel
theorem dX12_set_6 : decode cX12_set 6 = .ok (.ifCond .ne 5, 3) := by decide +kernel
theorem dX12_set_11 : decode cX12_set 11 = .ok (.iload_n 2, 1) := by decide +kernel
theorem dX12_set_12 : decode cX12_set 12 = .ok (.iconst 0, 1) := by decide +kernel
theorem dX12_set_13 : decode cX12_set 13 = .ok (.bipush 9, 2) := by decide +kernel
theorem dX12_set_15 : decode cX12_set 15 = .ok (.invokestatic 45, 3) := by decide +kernel
theorem dX12_set_18 : decode cX12_set 18 = .ok (.ifCond .ne 6, 3) := by decide +kernel
theorem dX12_set_24 : decode cX12_set 24 = .ok (.aload_n 0, 1) := by decide +kernel
theorem dX12_set_25 : decode cX12_set 25 = .ok (.getfield 9, 3) := by decide +kernel
theorem dX12_set_28 : decode cX12_set 28 = .ok (.bipush 6, 2) := by decide +kernel
theorem dX12_set_30 : decode cX12_set 30 = .ok (.iload_n 1, 1) := by decide +kernel
theorem dX12_set_31 : decode cX12_set 31 = .ok (.iadd, 1) := by decide +kernel
theorem dX12_set_32 : decode cX12_set 32 = .ok (.iaload, 1) := by decide +kernel
theorem dX12_set_33 : decode cX12_set 33 = .ok (.istore_n 3, 1) := by decide +kernel
theorem dX12_set_34 : decode cX12_set 34 = .ok (.aload_n 0, 1) := by decide +kernel
theorem dX12_set_35 : decode cX12_set 35 = .ok (.getfield 9, 3) := by decide +kernel
theorem dX12_set_38 : decode cX12_set 38 = .ok (.bipush 6, 2) := by decide +kernel
theorem dX12_set_40 : decode cX12_set 40 = .ok (.iload_n 1, 1) := by decide +kernel
theorem dX12_set_41 : decode cX12_set 41 = .ok (.iadd, 1) := by decide +kernel
theorem dX12_set_42 : decode cX12_set 42 = .ok (.iload_n 2, 1) := by decide +kernel
theorem dX12_set_43 : decode cX12_set 43 = .ok (.iastore, 1) := by decide +kernel
theorem dX12_set_44 : decode cX12_set 44 = .ok (.iload_n 3, 1) := by decide +kernel
theorem dX12_set_45 : decode cX12_set 45 = .ok (.ireturn, 1) := by decide +kernel
theorem dX12_set_21 : decode cX12_set 21 = .ok (.bipush (-2), 2) := by decide +kernel
theorem dX12_set_23 : decode cX12_set 23 = .ok (.ireturn, 1) := by decide +kernel
theorem dX12_set_9 : decode cX12_set 9 = .ok (.iconst (-1), 1) := by decide +kernel
theorem dX12_set_10 : decode cX12_set 10 = .ok (.ireturn, 1) := by decide +kernel
theorem dX12_sight_0 : decode cX12_sight 0 = .ok (.aload_n 0, 1) := by decide +kernel
theorem dX12_sight_1 : decode cX12_sight 1 = .ok (.getfield 9, 3) := by decide +kernel
theorem dX12_sight_4 : decode cX12_sight 4 = .ok (.iconst 5, 1) := by decide +kernel
theorem dX12_sight_5 : decode cX12_sight 5 = .ok (.iaload, 1) := by decide +kernel
theorem dX12_sight_6 : decode cX12_sight 6 = .ok (.iconst (-1), 1) := by decide +kernel
theorem dX12_sight_7 : decode cX12_sight 7 = .ok (.if_icmp .ne 7, 3) := by decide +kernel
theorem dX12_sight_10 : decode cX12_sight 10 = .ok (.iconst 3, 1) := by decide +kernel
theorem dX12_sight_11 : decode cX12_sight 11 = .ok (.goto 18, 3) := by decide +kernel
theorem dX12_sight_29 : decode cX12_sight 29 = .ok (.ireturn, 1) := by decide +kernel
theorem dX12_edgesMany_0 : decode cX12_edgesMany 0 = .ok (.iconst 0, 1) := by decide +kernel
theorem dX12_edgesMany_1 : decode cX12_edgesMany 1 = .ok (.istore_n 1, 1) := by decide +kernel
theorem dX12_edgesMany_2 : decode cX12_edgesMany 2 = .ok (.iconst 0, 1) := by decide +kernel
theorem dX12_edgesMany_3 : decode cX12_edgesMany 3 = .ok (.istore_n 2, 1) := by decide +kernel
theorem dX12_edgesMany_4 : decode cX12_edgesMany 4 = .ok (.iload_n 2, 1) := by decide +kernel
theorem dX12_edgesMany_5 : decode cX12_edgesMany 5 = .ok (.bipush 36, 2) := by decide +kernel
theorem dX12_edgesMany_7 : decode cX12_edgesMany 7 = .ok (.if_icmp .ge 21, 3) := by decide +kernel
theorem dX12_edgesMany_28 : decode cX12_edgesMany 28 = .ok (.iload_n 1, 1) := by decide +kernel
theorem dX12_edgesMany_29 : decode cX12_edgesMany 29 = .ok (.ireturn, 1) := by decide +kernel
theorem dX12_edgesMany_10 : decode cX12_edgesMany 10 = .ok (.iload_n 1, 1) := by decide +kernel
theorem dX12_edgesMany_11 : decode cX12_edgesMany 11 = .ok (.aload_n 0, 1) := by decide +kernel
theorem dX12_edgesMany_12 : decode cX12_edgesMany 12 = .ok (.getfield 9, 3) := by decide +kernel
theorem dX12_edgesMany_15 : decode cX12_edgesMany 15 = .ok (.bipush 37, 2) := by decide +kernel
theorem dX12_edgesMany_17 : decode cX12_edgesMany 17 = .ok (.iload_n 2, 1) := by decide +kernel
theorem dX12_edgesMany_18 : decode cX12_edgesMany 18 = .ok (.iadd, 1) := by decide +kernel
theorem dX12_edgesMany_19 : decode cX12_edgesMany 19 = .ok (.iaload, 1) := by decide +kernel
theorem dX12_edgesMany_20 : decode cX12_edgesMany 20 = .ok (.iadd, 1) := by decide +kernel
theorem dX12_edgesMany_21 : decode cX12_edgesMany 21 = .ok (.istore_n 1, 1) := by decide +kernel
theorem dX12_edgesMany_22 : decode cX12_edgesMany 22 = .ok (.iinc 2 1, 3) := by decide +kernel
theorem dX12_edgesMany_25 : decode cX12_edgesMany 25 = .ok (.goto (-21), 3) := by decide +kernel
theorem dX12_told_0 : decode cX12_told 0 = .ok (.iload_n 1, 1) := by decide +kernel
theorem dX12_told_1 : decode cX12_told 1 = .ok (.tableswitch 57 0 3 #[31, 39, 47, 52], 31) := by decide +kernel
theorem dX12_told_32 : decode cX12_told 32 = .ok (.aload_n 0, 1) := by decide +kernel
theorem dX12_told_33 : decode cX12_told 33 = .ok (.getfield 9, 3) := by decide +kernel
theorem dX12_told_36 : decode cX12_told 36 = .ok (.bipush 6, 2) := by decide +kernel
theorem dX12_told_38 : decode cX12_told 38 = .ok (.iaload, 1) := by decide +kernel
theorem dX12_told_39 : decode cX12_told 39 = .ok (.ireturn, 1) := by decide +kernel
theorem dX12_told_40 : decode cX12_told 40 = .ok (.aload_n 0, 1) := by decide +kernel
theorem dX12_told_41 : decode cX12_told 41 = .ok (.getfield 9, 3) := by decide +kernel
theorem dX12_told_44 : decode cX12_told 44 = .ok (.bipush 7, 2) := by decide +kernel
theorem dX12_told_46 : decode cX12_told 46 = .ok (.iaload, 1) := by decide +kernel
theorem dX12_told_47 : decode cX12_told 47 = .ok (.ireturn, 1) := by decide +kernel
theorem dX12_told_48 : decode cX12_told 48 = .ok (.aload_n 0, 1) := by decide +kernel
set_option maxRecDepth 20000 in
theorem ggX12_told_X12_sight : GoodIn wsX12_told wsX12_sight := goodIn_r _ [6, 1, 11, 12, 13, 14, 15, 16, 17, 18, 19, 20, 21, 22, 23, 24, 25, 26, 27, 28, 29, 30, 31, 32, 33] (by decide +kernel) (by decide +kernel)
set_option maxRecDepth 20000 in
theorem gX12_told_X12_sight : GoodIn wsX12_told (wsV RX12 140 RX12 yX12_sight wsX12_sight) := goodIn_app (goodIn_of _ (by decide +kernel)) ggX12_told_X12_sight
theorem dX12_told_49 : decode cX12_told 49 = .ok (.invokevirtual 140, 3) := by decide +kernel
theorem dX12_told_52 : decode cX12_told 52 = .ok (.ireturn, 1) := by decide +kernel
theorem dX12_told_53 : decode cX12_told 53 = .ok (.aload_n 0, 1) := by decide +kernel
set_option maxRecDepth 20000 in
theorem ggX12_told_X12_edgesMany : GoodIn wsX12_told wsX12_edgesMany := goodIn_r _ [10, 1, 11, 12, 13, 14, 15, 16, 17, 18, 19, 20, 21, 22, 23, 24, 25, 26, 27, 28, 29, 30, 31, 32, 33] (by decide +kernel) (by decide +kernel)
set_option maxRecDepth 20000 in
theorem gX12_told_X12_edgesMany : GoodIn wsX12_told (wsV RX12 137 RX12 yX12_edgesMany wsX12_edgesMany) := goodIn_app (goodIn_of _ (by decide +kernel)) ggX12_told_X12_edgesMany
theorem dX12_told_54 : decode cX12_told 54 = .ok (.invokevirtual 137, 3) := by decide +kernel
theorem dX12_told_57 : decode cX12_told 57 = .ok (.ireturn, 1) := by decide +kernel
theorem dX12_told_58 : decode cX12_told 58 = .ok (.iconst (-1), 1) := by decide +kernel
theorem dX12_told_59 : decode cX12_told 59 = .ok (.ireturn, 1) := by decide +kernel
theorem dX12_edges_0 : decode cX12_edges 0 = .ok (.lload_n 1, 1) := by decide +kernel
theorem dX12_edges_1 : decode cX12_edges 1 = .ok (.lconst 0, 1) := by decide +kernel
theorem dX12_edges_2 : decode cX12_edges 2 = .ok (.lcmp, 1) := by decide +kernel
theorem dX12_edges_3 : decode cX12_edges 3 = .ok (.ifCond .lt 12, 3) := by decide +kernel
theorem dX12_edges_15 : decode cX12_edges 15 = .ok (.bipush (-2), 2) := by decide +kernel
theorem dX12_edges_17 : decode cX12_edges 17 = .ok (.ireturn, 1) := by decide +kernel
theorem dX12_edges_6 : decode cX12_edges 6 = .ok (.lload_n 1, 1) := by decide +kernel
theorem dX12_edges_7 : decode cX12_edges 7 = .ok (.bipush 36, 2) := by decide +kernel
theorem dX12_edges_9 : decode cX12_edges 9 = .ok (.lshr, 1) := by decide +kernel
theorem dX12_edges_10 : decode cX12_edges 10 = .ok (.lconst 0, 1) := by decide +kernel
theorem dX12_edges_11 : decode cX12_edges 11 = .ok (.lcmp, 1) := by decide +kernel
theorem dX12_edges_12 : decode cX12_edges 12 = .ok (.ifCond .eq 6, 3) := by decide +kernel
theorem dX12_edges_18 : decode cX12_edges 18 = .ok (.aload_n 0, 1) := by decide +kernel
set_option maxRecDepth 20000 in
theorem ggX12_edges_X12_edgesMany : GoodIn wsX12_edges wsX12_edgesMany := goodIn_r _ [6, 1, 7, 8, 9, 10, 11, 12, 13, 14, 15, 16, 17, 18, 19, 20, 21, 22, 23, 24, 25, 26, 27, 28, 29] (by decide +kernel) (by decide +kernel)
set_option maxRecDepth 20000 in
theorem gX12_edges_X12_edgesMany : GoodIn wsX12_edges (wsV RX12 137 RX12 yX12_edgesMany wsX12_edgesMany) := goodIn_app (goodIn_of _ (by decide +kernel)) ggX12_edges_X12_edgesMany
theorem dX12_edges_19 : decode cX12_edges 19 = .ok (.invokevirtual 137, 3) := by decide +kernel
theorem dX12_edges_22 : decode cX12_edges 22 = .ok (.istore_n 3, 1) := by decide +kernel
theorem dX12_edges_23 : decode cX12_edges 23 = .ok (.iconst 0, 1) := by decide +kernel
theorem dX12_edges_24 : decode cX12_edges 24 = .ok (.istore 4, 2) := by decide +kernel
theorem dX12_edges_26 : decode cX12_edges 26 = .ok (.iload 4, 2) := by decide +kernel
theorem dX12_edges_28 : decode cX12_edges 28 = .ok (.bipush 36, 2) := by decide +kernel
theorem dX12_edges_30 : decode cX12_edges 30 = .ok (.if_icmp .ge 26, 3) := by decide +kernel
theorem dX12_edges_56 : decode cX12_edges 56 = .ok (.iload_n 3, 1) := by decide +kernel
theorem dX12_edges_57 : decode cX12_edges 57 = .ok (.ireturn, 1) := by decide +kernel
theorem dX12_edges_33 : decode cX12_edges 33 = .ok (.aload_n 0, 1) := by decide +kernel
theorem dX12_edges_34 : decode cX12_edges 34 = .ok (.getfield 9, 3) := by decide +kernel
theorem dX12_edges_37 : decode cX12_edges 37 = .ok (.bipush 37, 2) := by decide +kernel
theorem dX12_edges_39 : decode cX12_edges 39 = .ok (.iload 4, 2) := by decide +kernel
theorem dX12_edges_41 : decode cX12_edges 41 = .ok (.iadd, 1) := by decide +kernel
theorem dX12_edges_42 : decode cX12_edges 42 = .ok (.lload_n 1, 1) := by decide +kernel
theorem dX12_edges_43 : decode cX12_edges 43 = .ok (.iload 4, 2) := by decide +kernel
theorem dX12_edges_45 : decode cX12_edges 45 = .ok (.lshr, 1) := by decide +kernel
theorem dX12_edges_46 : decode cX12_edges 46 = .ok (.lconst 1, 1) := by decide +kernel
theorem dX12_edges_47 : decode cX12_edges 47 = .ok (.land, 1) := by decide +kernel
theorem dX12_edges_48 : decode cX12_edges 48 = .ok (.l2i, 1) := by decide +kernel
theorem dX12_edges_49 : decode cX12_edges 49 = .ok (.iastore, 1) := by decide +kernel
theorem dX12_edges_50 : decode cX12_edges 50 = .ok (.iinc 4 1, 3) := by decide +kernel
theorem dX12_edges_53 : decode cX12_edges 53 = .ok (.goto (-27), 3) := by decide +kernel
theorem dX12_heapOn_0 : decode cX12_heapOn 0 = .ok (.iconst (-1), 1) := by decide +kernel
theorem dX12_heapOn_1 : decode cX12_heapOn 1 = .ok (.istore_n 2, 1) := by decide +kernel
theorem dX12_heapOn_2 : decode cX12_heapOn 2 = .ok (.iconst 0, 1) := by decide +kernel
theorem dX12_heapOn_3 : decode cX12_heapOn 3 = .ok (.istore_n 3, 1) := by decide +kernel
theorem dX12_heapOn_4 : decode cX12_heapOn 4 = .ok (.iload_n 3, 1) := by decide +kernel
theorem dX12_heapOn_5 : decode cX12_heapOn 5 = .ok (.aload_n 0, 1) := by decide +kernel
theorem dX12_heapOn_6 : decode cX12_heapOn 6 = .ok (.getfield 9, 3) := by decide +kernel
theorem dX12_heapOn_9 : decode cX12_heapOn 9 = .ok (.iconst 0, 1) := by decide +kernel
theorem dX12_heapOn_10 : decode cX12_heapOn 10 = .ok (.iaload, 1) := by decide +kernel
theorem dX12_heapOn_11 : decode cX12_heapOn 11 = .ok (.if_icmp .ge 28, 3) := by decide +kernel
theorem dX12_heapOn_39 : decode cX12_heapOn 39 = .ok (.iload_n 2, 1) := by decide +kernel
theorem dX12_heapOn_40 : decode cX12_heapOn 40 = .ok (.ireturn, 1) := by decide +kernel
theorem dX12_puts_0 : decode cX12_puts 0 = .ok (.aload_n 0, 1) := by decide +kernel
theorem dX12_puts_1 : decode cX12_puts 1 = .ok (.getfield 9, 3) := by decide +kernel
theorem dX12_puts_4 : decode cX12_puts 4 = .ok (.iconst 0, 1) := by decide +kernel
theorem dX12_puts_5 : decode cX12_puts 5 = .ok (.iaload, 1) := by decide +kernel
theorem dX12_puts_6 : decode cX12_puts 6 = .ok (.istore 4, 2) := by decide +kernel
theorem dX12_puts_8 : decode cX12_puts 8 = .ok (.aload_n 0, 1) := by decide +kernel
theorem dX12_puts_9 : decode cX12_puts 9 = .ok (.getfield 9, 3) := by decide +kernel
theorem dX12_puts_12 : decode cX12_puts 12 = .ok (.bipush 10, 2) := by decide +kernel
theorem dX12_puts_14 : decode cX12_puts 14 = .ok (.iload 4, 2) := by decide +kernel
theorem dX12_puts_16 : decode cX12_puts 16 = .ok (.iadd, 1) := by decide +kernel
theorem dX12_puts_17 : decode cX12_puts 17 = .ok (.iload_n 1, 1) := by decide +kernel
theorem dX12_puts_18 : decode cX12_puts 18 = .ok (.iastore, 1) := by decide +kernel
theorem dX12_puts_19 : decode cX12_puts 19 = .ok (.aload_n 0, 1) := by decide +kernel
theorem dX12_puts_20 : decode cX12_puts 20 = .ok (.getfield 9, 3) := by decide +kernel
theorem dX12_puts_23 : decode cX12_puts 23 = .ok (.bipush 19, 2) := by decide +kernel
theorem dX12_puts_25 : decode cX12_puts 25 = .ok (.iload 4, 2) := by decide +kernel
theorem dX12_puts_27 : decode cX12_puts 27 = .ok (.iadd, 1) := by decide +kernel
theorem dX12_puts_28 : decode cX12_puts 28 = .ok (.iload_n 2, 1) := by decide +kernel
theorem dX12_puts_29 : decode cX12_puts 29 = .ok (.iastore, 1) := by decide +kernel
theorem dX12_puts_30 : decode cX12_puts 30 = .ok (.aload_n 0, 1) := by decide +kernel
theorem dX12_puts_31 : decode cX12_puts 31 = .ok (.getfield 9, 3) := by decide +kernel
theorem dX12_puts_34 : decode cX12_puts 34 = .ok (.bipush 28, 2) := by decide +kernel
theorem dX12_puts_36 : decode cX12_puts 36 = .ok (.iload 4, 2) := by decide +kernel
theorem dX12_puts_38 : decode cX12_puts 38 = .ok (.iadd, 1) := by decide +kernel
theorem dX12_puts_39 : decode cX12_puts 39 = .ok (.iload_n 3, 1) := by decide +kernel
theorem dX12_puts_40 : decode cX12_puts 40 = .ok (.iastore, 1) := by decide +kernel
theorem dX12_puts_41 : decode cX12_puts 41 = .ok (.aload_n 0, 1) := by decide +kernel
theorem dX12_puts_42 : decode cX12_puts 42 = .ok (.getfield 9, 3) := by decide +kernel
theorem dX12_puts_45 : decode cX12_puts 45 = .ok (.iconst 0, 1) := by decide +kernel
theorem dX12_puts_46 : decode cX12_puts 46 = .ok (.dup2, 1) := by decide +kernel
theorem dX12_puts_47 : decode cX12_puts 47 = .ok (.iaload, 1) := by decide +kernel
theorem dX12_puts_48 : decode cX12_puts 48 = .ok (.iconst 1, 1) := by decide +kernel
theorem dX12_puts_49 : decode cX12_puts 49 = .ok (.iadd, 1) := by decide +kernel
theorem dX12_puts_50 : decode cX12_puts 50 = .ok (.iastore, 1) := by decide +kernel
theorem dX12_puts_51 : decode cX12_puts 51 = .ok (.iload 4, 2) := by decide +kernel
theorem dX12_puts_53 : decode cX12_puts 53 = .ok (.ireturn, 1) := by decide +kernel
theorem dX12_heap_0 : decode cX12_heap 0 = .ok (.iload_n 1, 1) := by decide +kernel
theorem dX12_heap_1 : decode cX12_heap 1 = .ok (.iconst 0, 1) := by decide +kernel
theorem dX12_heap_2 : decode cX12_heap 2 = .ok (.bipush 6, 2) := by decide +kernel
set_option maxRecDepth 20000 in
theorem ggX12_heap_X12_in : GoodIn wsX12_heap wsX12_in := goodIn_r _ [5] (by decide +kernel) (by decide +kernel)
set_option maxRecDepth 20000 in
theorem gX12_heap_X12_in : GoodIn wsX12_heap (va_wsS RX12 45 yX12_in wsX12_in) := goodIn_app (goodIn_of _ (by decide +kernel)) ggX12_heap_X12_in
theorem dX12_heap_4 : decode cX12_heap 4 = .ok (.invokestatic 45, 3) := by decide +kernel
theorem dX12_heap_7 : decode cX12_heap 7 = .ok (.ifCond .eq 10, 3) := by decide +kernel
theorem dX12_heap_10 : decode cX12_heap 10 = .ok (.iload_n 3, 1) := by decide +kernel
set_option maxRecDepth 20000 in
theorem ggX12_heap_X12_isCell : GoodIn wsX12_heap wsX12_isCell := goodIn_r _ [8, 2, 3, 4, 5] (by decide +kernel) (by decide +kernel)
set_option maxRecDepth 20000 in
theorem gX12_heap_X12_isCell : GoodIn wsX12_heap (va_wsS RX12 149 yX12_isCell wsX12_isCell) := goodIn_app (goodIn_of _ (by decide +kernel)) ggX12_heap_X12_isCell
theorem dX12_heap_11 : decode cX12_heap 11 = .ok (.invokestatic 149, 3) := by decide +kernel
theorem dX12_heap_14 : decode cX12_heap 14 = .ok (.ifCond .ne 5, 3) := by decide +kernel
theorem dX12_heap_19 : decode cX12_heap 19 = .ok (.iload_n 2, 1) := by decide +kernel
theorem dX12_heap_20 : decode cX12_heap 20 = .ok (.iconst 0, 1) := by decide +kernel
theorem dX12_heap_21 : decode cX12_heap 21 = .ok (.bipush 9, 2) := by decide +kernel
theorem dX12_heap_23 : decode cX12_heap 23 = .ok (.invokestatic 45, 3) := by decide +kernel
theorem dX12_heap_26 : decode cX12_heap 26 = .ok (.ifCond .ne 6, 3) := by decide +kernel
theorem dX12_heap_32 : decode cX12_heap 32 = .ok (.aload_n 0, 1) := by decide +kernel
theorem dX12_heap_33 : decode cX12_heap 33 = .ok (.iload_n 3, 1) := by decide +kernel
set_option maxRecDepth 20000 in
theorem ggX12_heap_X12_heapOn : GoodIn wsX12_heap wsX12_heapOn := goodIn_r _ [12, 1, 17, 18, 19, 20, 21, 22, 23, 24, 25, 26, 27, 28, 29, 30, 31, 32, 33, 34, 35, 36, 37, 38, 39] (by decide +kernel) (by decide +kernel)
set_option maxRecDepth 20000 in
theorem gX12_heap_X12_heapOn : GoodIn wsX12_heap (wsV RX12 153 RX12 yX12_heapOn wsX12_heapOn) := goodIn_app (goodIn_of _ (by decide +kernel)) ggX12_heap_X12_heapOn
theorem dX12_heap_34 : decode cX12_heap 34 = .ok (.invokevirtual 153, 3) := by decide +kernel
theorem dX12_heap_37 : decode cX12_heap 37 = .ok (.iconst (-1), 1) := by decide +kernel
theorem dX12_heap_38 : decode cX12_heap 38 = .ok (.if_icmp .eq 6, 3) := by decide +kernel
theorem dX12_heap_44 : decode cX12_heap 44 = .ok (.aload_n 0, 1) := by decide +kernel
theorem dX12_heap_45 : decode cX12_heap 45 = .ok (.getfield 9, 3) := by decide +kernel
theorem dX12_heap_48 : decode cX12_heap 48 = .ok (.iconst 0, 1) := by decide +kernel
theorem dX12_heap_49 : decode cX12_heap 49 = .ok (.iaload, 1) := by decide +kernel
theorem dX12_heap_50 : decode cX12_heap 50 = .ok (.bipush 8, 2) := by decide +kernel
theorem dX12_heap_52 : decode cX12_heap 52 = .ok (.if_icmp .ne 6, 3) := by decide +kernel
theorem dX12_heap_58 : decode cX12_heap 58 = .ok (.aload_n 0, 1) := by decide +kernel
theorem dX12_heap_59 : decode cX12_heap 59 = .ok (.iload_n 1, 1) := by decide +kernel
theorem dX12_heap_60 : decode cX12_heap 60 = .ok (.iload_n 2, 1) := by decide +kernel
theorem dX12_heap_61 : decode cX12_heap 61 = .ok (.iload_n 3, 1) := by decide +kernel
set_option maxRecDepth 20000 in
theorem ggX12_heap_X12_puts : GoodIn wsX12_heap wsX12_puts := goodIn_r _ [16, 1, 17, 18, 19, 20, 21, 22, 23, 24, 25, 26, 27, 28, 29, 30, 31, 32, 33, 34, 35, 36, 37, 38, 39] (by decide +kernel) (by decide +kernel)
set_option maxRecDepth 20000 in
theorem gX12_heap_X12_puts : GoodIn wsX12_heap (wsV RX12 156 RX12 yX12_puts wsX12_puts) := goodIn_app (goodIn_of _ (by decide +kernel)) ggX12_heap_X12_puts
theorem dX12_heap_62 : decode cX12_heap 62 = .ok (.invokevirtual 156, 3) := by decide +kernel
theorem dX12_heap_65 : decode cX12_heap 65 = .ok (.ireturn, 1) := by decide +kernel
theorem dX12_heap_29 : decode cX12_heap 29 = .ok (.bipush (-2), 2) := by decide +kernel
theorem dX12_heap_31 : decode cX12_heap 31 = .ok (.ireturn, 1) := by decide +kernel
theorem dX12_heap_17 : decode cX12_heap 17 = .ok (.iconst (-1), 1) := by decide +kernel
theorem dX12_heap_18 : decode cX12_heap 18 = .ok (.ireturn, 1) := by decide +kernel
theorem dX12_of_0 : decode cX12_of 0 = .ok (.aload_n 0, 1) := by decide +kernel
theorem dX12_of_1 : decode cX12_of 1 = .ok (.iload_n 1, 1) := by decide +kernel
set_option maxRecDepth 20000 in
theorem ggX12_of_X12_isHeap : GoodIn wsX12_of wsX12_isHeap := goodIn_r _ [6, 1, 7, 8, 5, 9, 26, 27, 28, 29, 30, 31, 32, 33, 34, 35, 36, 37, 38, 39, 40, 41, 42, 43, 44, 45, 46, 47, 48] (by decide +kernel) (by decide +kernel)
set_option maxRecDepth 20000 in
theorem gX12_of_X12_isHeap : GoodIn wsX12_of (wsV RX12 164 RX12 yX12_isHeap wsX12_isHeap) := goodIn_app (goodIn_of _ (by decide +kernel)) ggX12_of_X12_isHeap
theorem dX12_of_2 : decode cX12_of 2 = .ok (.invokevirtual 164, 3) := by decide +kernel
theorem dX12_of_5 : decode cX12_of 5 = .ok (.ifCond .eq 12, 3) := by decide +kernel
theorem dX12_of_17 : decode cX12_of 17 = .ok (.iconst (-1), 1) := by decide +kernel
theorem dX12_of_18 : decode cX12_of 18 = .ok (.ireturn, 1) := by decide +kernel
theorem dX12_steps_0 : decode cX12_steps 0 = .ok (.aload_n 0, 1) := by decide +kernel
theorem dX12_steps_1 : decode cX12_steps 1 = .ok (.iload_n 1, 1) := by decide +kernel
set_option maxRecDepth 20000 in
theorem ggX12_steps_X12_isHeap : GoodIn wsX12_steps wsX12_isHeap := goodIn_r _ [5, 6, 7, 8, 4, 9, 66, 67, 68, 69, 70, 71, 72, 73, 74, 75, 76, 77, 78, 79, 80, 81, 82, 83, 84, 85, 86, 87, 88] (by decide +kernel) (by decide +kernel)
set_option maxRecDepth 20000 in
theorem gX12_steps_X12_isHeap : GoodIn wsX12_steps (wsV RX12 164 RX12 yX12_isHeap wsX12_isHeap) := goodIn_app (goodIn_of _ (by decide +kernel)) ggX12_steps_X12_isHeap
theorem dX12_steps_2 : decode cX12_steps 2 = .ok (.invokevirtual 164, 3) := by decide +kernel
theorem dX12_steps_5 : decode cX12_steps 5 = .ok (.ifCond .eq 20, 3) := by decide +kernel
theorem dX12_steps_25 : decode cX12_steps 25 = .ok (.iconst (-1), 1) := by decide +kernel
theorem dX12_steps_26 : decode cX12_steps 26 = .ok (.ireturn, 1) := by decide +kernel
theorem dX12_via_0 : decode cX12_via 0 = .ok (.aload_n 0, 1) := by decide +kernel
theorem dX12_via_1 : decode cX12_via 1 = .ok (.iload_n 1, 1) := by decide +kernel
set_option maxRecDepth 20000 in
theorem ggX12_via_X12_isHeap : GoodIn wsX12_via wsX12_isHeap := goodIn_r _ [7, 1, 8, 9, 6, 10, 66, 67, 68, 69, 70, 71, 72, 73, 74, 75, 76, 77, 78, 79, 80, 81, 82, 83, 84, 85, 86, 87, 88] (by decide +kernel) (by decide +kernel)
set_option maxRecDepth 20000 in
theorem gX12_via_X12_isHeap : GoodIn wsX12_via (wsV RX12 164 RX12 yX12_isHeap wsX12_isHeap) := goodIn_app (goodIn_of _ (by decide +kernel)) ggX12_via_X12_isHeap
theorem dX12_via_2 : decode cX12_via 2 = .ok (.invokevirtual 164, 3) := by decide +kernel
theorem dX12_via_5 : decode cX12_via 5 = .ok (.ifCond .eq 11, 3) := by decide +kernel
theorem dX12_via_16 : decode cX12_via 16 = .ok (.iconst (-1), 1) := by decide +kernel
theorem dX12_via_17 : decode cX12_via 17 = .ok (.ireturn, 1) := by decide +kernel
theorem dX12_cuts_0 : decode cX12_cuts 0 = .ok (.aload_n 0, 1) := by decide +kernel
theorem dX12_cuts_1 : decode cX12_cuts 1 = .ok (.iload_n 1, 1) := by decide +kernel
set_option maxRecDepth 20000 in
theorem ggX12_cuts_X12_isHeap : GoodIn wsX12_cuts wsX12_isHeap := goodIn_r _ [6, 1, 7, 8, 5, 9, 66, 67, 68, 69, 70, 71, 72, 73, 74, 75, 76, 77, 78, 79, 80, 81, 82, 83, 84, 85, 86, 87, 88] (by decide +kernel) (by decide +kernel)
set_option maxRecDepth 20000 in
theorem gX12_cuts_X12_isHeap : GoodIn wsX12_cuts (wsV RX12 164 RX12 yX12_isHeap wsX12_isHeap) := goodIn_app (goodIn_of _ (by decide +kernel)) ggX12_cuts_X12_isHeap
theorem dX12_cuts_2 : decode cX12_cuts 2 = .ok (.invokevirtual 164, 3) := by decide +kernel
theorem dX12_cuts_5 : decode cX12_cuts 5 = .ok (.ifCond .eq 11, 3) := by decide +kernel
theorem dX12_cuts_16 : decode cX12_cuts 16 = .ok (.iconst (-1), 1) := by decide +kernel
theorem dX12_cuts_17 : decode cX12_cuts 17 = .ok (.ireturn, 1) := by decide +kernel
theorem dX12_bears_0 : decode cX12_bears 0 = .ok (.aload_n 0, 1) := by decide +kernel
theorem dX12_bears_1 : decode cX12_bears 1 = .ok (.iload_n 1, 1) := by decide +kernel
set_option maxRecDepth 20000 in
theorem ggX12_bears_X12_isHeap : GoodIn wsX12_bears wsX12_isHeap := goodIn_r _ [6, 1, 7, 8, 5, 9, 66, 67, 68, 69, 70, 71, 72, 73, 74, 75, 76, 77, 78, 79, 80, 81, 82, 83, 84, 85, 86, 87, 88] (by decide +kernel) (by decide +kernel)
set_option maxRecDepth 20000 in
theorem gX12_bears_X12_isHeap : GoodIn wsX12_bears (wsV RX12 164 RX12 yX12_isHeap wsX12_isHeap) := goodIn_app (goodIn_of _ (by decide +kernel)) ggX12_bears_X12_isHeap
theorem dX12_bears_2 : decode cX12_bears 2 = .ok (.invokevirtual 164, 3) := by decide +kernel
theorem dX12_bears_5 : decode cX12_bears 5 = .ok (.ifCond .eq 11, 3) := by decide +kernel
theorem dX12_bears_16 : decode cX12_bears 16 = .ok (.iconst (-1), 1) := by decide +kernel
theorem dX12_bears_17 : decode cX12_bears 17 = .ok (.ireturn, 1) := by decide +kernel
theorem dX12_build_0 : decode cX12_build 0 = .ok (.aload_n 0, 1) := by decide +kernel
theorem dX12_build_1 : decode cX12_build 1 = .ok (.iload_n 1, 1) := by decide +kernel
set_option maxRecDepth 20000 in
theorem ggX12_build_X12_isHeap : GoodIn wsX12_build wsX12_isHeap := goodIn_r _ [6, 1, 7, 8, 5, 9, 74, 75, 76, 77, 78, 79, 80, 81, 82, 83, 84, 85, 86, 87, 88, 89, 90, 91, 92, 93, 94, 95, 96] (by decide +kernel) (by decide +kernel)
set_option maxRecDepth 20000 in
theorem gX12_build_X12_isHeap : GoodIn wsX12_build (wsV RX12 164 RX12 yX12_isHeap wsX12_isHeap) := goodIn_app (goodIn_of _ (by decide +kernel)) ggX12_build_X12_isHeap
theorem dX12_build_2 : decode cX12_build 2 = .ok (.invokevirtual 164, 3) := by decide +kernel
theorem dX12_build_5 : decode cX12_build 5 = .ok (.ifCond .eq 20, 3) := by decide +kernel
theorem dX12_build_25 : decode cX12_build 25 = .ok (.iconst (-1), 1) := by decide +kernel
theorem dX12_build_26 : decode cX12_build 26 = .ok (.ireturn, 1) := by decide +kernel
theorem dX12_line_0 : decode cX12_line 0 = .ok (.aload_n 0, 1) := by decide +kernel
theorem dX12_line_1 : decode cX12_line 1 = .ok (.iload_n 1, 1) := by decide +kernel
set_option maxRecDepth 20000 in
theorem ggX12_line_X12_isHeap : GoodIn wsX12_line wsX12_isHeap := goodIn_r _ [6, 1, 7, 8, 5, 9, 20, 21, 22, 23, 24, 25, 26, 27, 28, 29, 30, 31, 32, 33, 34, 35, 36, 37, 38, 39, 40, 41, 42] (by decide +kernel) (by decide +kernel)
set_option maxRecDepth 20000 in
theorem gX12_line_X12_isHeap : GoodIn wsX12_line (wsV RX12 164 RX12 yX12_isHeap wsX12_isHeap) := goodIn_app (goodIn_of _ (by decide +kernel)) ggX12_line_X12_isHeap
theorem dX12_line_2 : decode cX12_line 2 = .ok (.invokevirtual 164, 3) := by decide +kernel
theorem dX12_line_5 : decode cX12_line 5 = .ok (.ifCond .ne 5, 3) := by decide +kernel
theorem dX12_line_8 : decode cX12_line 8 = .ok (.iconst (-1), 1) := by decide +kernel
theorem dX12_line_9 : decode cX12_line 9 = .ok (.ireturn, 1) := by decide +kernel
theorem dX12_next_0 : decode cX12_next 0 = .ok (.aload_n 0, 1) := by decide +kernel
theorem dX12_next_1 : decode cX12_next 1 = .ok (.iload_n 1, 1) := by decide +kernel
set_option maxRecDepth 20000 in
theorem ggX12_next_X12_isHeap : GoodIn wsX12_next wsX12_isHeap := goodIn_r _ [6, 1, 7, 8, 5, 9, 10, 11, 12, 13, 14, 15, 16, 17, 18, 19, 20, 21, 22, 23, 24, 25, 26, 27, 28, 29, 30, 31, 32] (by decide +kernel) (by decide +kernel)
set_option maxRecDepth 20000 in
theorem gX12_next_X12_isHeap : GoodIn wsX12_next (wsV RX12 164 RX12 yX12_isHeap wsX12_isHeap) := goodIn_app (goodIn_of _ (by decide +kernel)) ggX12_next_X12_isHeap
theorem dX12_next_2 : decode cX12_next 2 = .ok (.invokevirtual 164, 3) := by decide +kernel
theorem dX12_next_5 : decode cX12_next 5 = .ok (.ifCond .eq 19, 3) := by decide +kernel
theorem dX12_next_24 : decode cX12_next 24 = .ok (.iconst (-1), 1) := by decide +kernel
theorem dX12_next_25 : decode cX12_next 25 = .ok (.ireturn, 1) := by decide +kernel
theorem dX12_as_0 : decode cX12_as 0 = .ok (.aload_n 0, 1) := by decide +kernel
theorem dX12_as_1 : decode cX12_as 1 = .ok (.iload_n 1, 1) := by decide +kernel
set_option maxRecDepth 20000 in
theorem ggX12_as_X12_isHeap : GoodIn wsX12_as wsX12_isHeap := goodIn_r _ [6, 1, 7, 8, 5, 9, 13, 14, 15, 16, 17, 18, 19, 20, 21, 22, 23, 24, 25, 26, 27, 28, 29, 30, 31, 32, 33, 34, 35] (by decide +kernel) (by decide +kernel)
set_option maxRecDepth 20000 in
theorem gX12_as_X12_isHeap : GoodIn wsX12_as (wsV RX12 164 RX12 yX12_isHeap wsX12_isHeap) := goodIn_app (goodIn_of _ (by decide +kernel)) ggX12_as_X12_isHeap
theorem dX12_as_2 : decode cX12_as 2 = .ok (.invokevirtual 164, 3) := by decide +kernel
theorem dX12_as_5 : decode cX12_as 5 = .ok (.ifCond .eq 13, 3) := by decide +kernel
theorem dX12_as_18 : decode cX12_as 18 = .ok (.iconst (-1), 1) := by decide +kernel
theorem dX12_as_19 : decode cX12_as 19 = .ok (.ireturn, 1) := by decide +kernel
theorem dX12_looked_0 : decode cX12_looked 0 = .ok (.iconst 1, 1) := by decide +kernel
theorem dX12_looked_1 : decode cX12_looked 1 = .ok (.istore_n 1, 1) := by decide +kernel
theorem dX12_looked_2 : decode cX12_looked 2 = .ok (.iload_n 1, 1) := by decide +kernel
theorem dX12_looked_3 : decode cX12_looked 3 = .ok (.aload_n 0, 1) := by decide +kernel
theorem dX12_looked_4 : decode cX12_looked 4 = .ok (.getfield 9, 3) := by decide +kernel
theorem dX12_looked_7 : decode cX12_looked 7 = .ok (.iconst 3, 1) := by decide +kernel
theorem dX12_looked_8 : decode cX12_looked 8 = .ok (.iaload, 1) := by decide +kernel
theorem dX12_looked_9 : decode cX12_looked 9 = .ok (.if_icmp .ge 38, 3) := by decide +kernel
theorem dX12_looked_47 : decode cX12_looked 47 = .ok (.bipush (-5), 2) := by decide +kernel
theorem dX12_looked_49 : decode cX12_looked 49 = .ok (.ireturn, 1) := by decide +kernel
theorem dX12_undo_0 : decode cX12_undo 0 = .ok (.aload_n 0, 1) := by decide +kernel
theorem dX12_undo_1 : decode cX12_undo 1 = .ok (.getfield 282, 3) := by decide +kernel
theorem dX12_undo_4 : decode cX12_undo 4 = .ok (.ifCond .ne 6, 3) := by decide +kernel
theorem dX12_undo_7 : decode cX12_undo 7 = .ok (.bipush (-3), 2) := by decide +kernel
theorem dX12_undo_9 : decode cX12_undo 9 = .ok (.ireturn, 1) := by decide +kernel
theorem dX12_count_0 : decode cX12_count 0 = .ok (.iload_n 1, 1) := by decide +kernel
theorem dX12_count_1 : decode cX12_count 1 = .ok (.tableswitch 79 0 5 #[39, 46, 53, 60, 67, 74], 39) := by decide +kernel
theorem dX12_count_40 : decode cX12_count 40 = .ok (.aload_n 0, 1) := by decide +kernel
theorem dX12_count_41 : decode cX12_count 41 = .ok (.getfield 9, 3) := by decide +kernel
theorem dX12_count_44 : decode cX12_count 44 = .ok (.iconst 0, 1) := by decide +kernel
theorem dX12_count_45 : decode cX12_count 45 = .ok (.iaload, 1) := by decide +kernel
theorem dX12_count_46 : decode cX12_count 46 = .ok (.ireturn, 1) := by decide +kernel
theorem dX12_count_47 : decode cX12_count 47 = .ok (.aload_n 0, 1) := by decide +kernel
theorem dX12_count_48 : decode cX12_count 48 = .ok (.getfield 9, 3) := by decide +kernel
theorem dX12_count_51 : decode cX12_count 51 = .ok (.iconst 1, 1) := by decide +kernel
theorem dX12_count_52 : decode cX12_count 52 = .ok (.iaload, 1) := by decide +kernel
theorem dX12_count_53 : decode cX12_count 53 = .ok (.ireturn, 1) := by decide +kernel
theorem dX12_count_54 : decode cX12_count 54 = .ok (.aload_n 0, 1) := by decide +kernel
theorem dX12_count_55 : decode cX12_count 55 = .ok (.getfield 9, 3) := by decide +kernel
theorem dX12_count_58 : decode cX12_count 58 = .ok (.iconst 2, 1) := by decide +kernel
theorem dX12_count_59 : decode cX12_count 59 = .ok (.iaload, 1) := by decide +kernel
theorem dX12_count_60 : decode cX12_count 60 = .ok (.ireturn, 1) := by decide +kernel
theorem dX12_count_61 : decode cX12_count 61 = .ok (.aload_n 0, 1) := by decide +kernel
theorem dX12_count_62 : decode cX12_count 62 = .ok (.getfield 9, 3) := by decide +kernel
theorem dX12_count_65 : decode cX12_count 65 = .ok (.iconst 3, 1) := by decide +kernel
theorem dX12_count_66 : decode cX12_count 66 = .ok (.iaload, 1) := by decide +kernel
theorem dX12_count_67 : decode cX12_count 67 = .ok (.ireturn, 1) := by decide +kernel
theorem dX12_count_68 : decode cX12_count 68 = .ok (.aload_n 0, 1) := by decide +kernel
theorem dX12_count_69 : decode cX12_count 69 = .ok (.getfield 9, 3) := by decide +kernel
theorem dX12_count_72 : decode cX12_count 72 = .ok (.iconst 4, 1) := by decide +kernel
theorem dX12_count_73 : decode cX12_count 73 = .ok (.iaload, 1) := by decide +kernel
theorem dX12_count_74 : decode cX12_count 74 = .ok (.ireturn, 1) := by decide +kernel
theorem dX12_count_75 : decode cX12_count 75 = .ok (.aload_n 0, 1) := by decide +kernel
theorem dX12_count_76 : decode cX12_count 76 = .ok (.getfield 246, 3) := by decide +kernel
theorem dX12_count_79 : decode cX12_count 79 = .ok (.ireturn, 1) := by decide +kernel
theorem dX12_count_80 : decode cX12_count 80 = .ok (.iconst (-1), 1) := by decide +kernel
theorem dX12_count_81 : decode cX12_count 81 = .ok (.ireturn, 1) := by decide +kernel
theorem dX12_trace_0 : decode cX12_trace 0 = .ok (.iload_n 1, 1) := by decide +kernel
theorem dX12_trace_1 : decode cX12_trace 1 = .ok (.iconst 0, 1) := by decide +kernel
theorem dX12_trace_2 : decode cX12_trace 2 = .ok (.aload_n 0, 1) := by decide +kernel
theorem dX12_trace_3 : decode cX12_trace 3 = .ok (.getfield 246, 3) := by decide +kernel
theorem dX12_trace_6 : decode cX12_trace 6 = .ok (.bipush 20, 2) := by decide +kernel
theorem dX12_trace_8 : decode cX12_trace 8 = .ok (.if_icmp .ge 10, 3) := by decide +kernel
theorem dX12_trace_11 : decode cX12_trace 11 = .ok (.aload_n 0, 1) := by decide +kernel
theorem dX12_trace_12 : decode cX12_trace 12 = .ok (.getfield 246, 3) := by decide +kernel
theorem dX12_trace_15 : decode cX12_trace 15 = .ok (.goto 5, 3) := by decide +kernel
theorem dX12_trace_20 : decode cX12_trace 20 = .ok (.iconst 1, 1) := by decide +kernel
theorem dX12_trace_21 : decode cX12_trace 21 = .ok (.isub, 1) := by decide +kernel
set_option maxRecDepth 20000 in
theorem ggX12_trace_X12_in : GoodIn wsX12_trace wsX12_in := goodIn_r _ [6] (by decide +kernel) (by decide +kernel)
set_option maxRecDepth 20000 in
theorem gX12_trace_X12_in : GoodIn wsX12_trace (va_wsS RX12 45 yX12_in wsX12_in) := goodIn_app (goodIn_of _ (by decide +kernel)) ggX12_trace_X12_in
theorem dX12_trace_22 : decode cX12_trace 22 = .ok (.invokestatic 45, 3) := by decide +kernel
theorem dX12_trace_25 : decode cX12_trace 25 = .ok (.ifCond .eq 12, 3) := by decide +kernel
theorem dX12_trace_37 : decode cX12_trace 37 = .ok (.iconst (-1), 1) := by decide +kernel
theorem dX12_trace_38 : decode cX12_trace 38 = .ok (.ireturn, 1) := by decide +kernel
theorem dX12_seesOf_0 : decode cX12_seesOf 0 = .ok (.iconst 0, 1) := by decide +kernel
theorem dX12_seesOf_1 : decode cX12_seesOf 1 = .ok (.istore_n 2, 1) := by decide +kernel
theorem dX12_seesOf_2 : decode cX12_seesOf 2 = .ok (.iconst 0, 1) := by decide +kernel
theorem dX12_seesOf_3 : decode cX12_seesOf 3 = .ok (.istore_n 3, 1) := by decide +kernel
theorem dX12_seesOf_4 : decode cX12_seesOf 4 = .ok (.iload_n 3, 1) := by decide +kernel
theorem dX12_seesOf_5 : decode cX12_seesOf 5 = .ok (.aload_n 0, 1) := by decide +kernel
theorem dX12_seesOf_6 : decode cX12_seesOf 6 = .ok (.getfield 9, 3) := by decide +kernel
theorem dX12_seesOf_9 : decode cX12_seesOf 9 = .ok (.iconst 0, 1) := by decide +kernel
theorem dX12_seesOf_10 : decode cX12_seesOf 10 = .ok (.iaload, 1) := by decide +kernel
theorem dX12_seesOf_11 : decode cX12_seesOf 11 = .ok (.if_icmp .ge 28, 3) := by decide +kernel
theorem dX12_seesOf_39 : decode cX12_seesOf 39 = .ok (.iload_n 2, 1) := by decide +kernel
theorem dX12_seesOf_40 : decode cX12_seesOf 40 = .ok (.ireturn, 1) := by decide +kernel
theorem dX12_sees_0 : decode cX12_sees 0 = .ok (.iload_n 1, 1) := by decide +kernel
set_option maxRecDepth 20000 in
theorem ggX12_sees_X12_isCell : GoodIn wsX12_sees wsX12_isCell := goodIn_r _ [4, 5, 6, 3, 7] (by decide +kernel) (by decide +kernel)
set_option maxRecDepth 20000 in
theorem gX12_sees_X12_isCell : GoodIn wsX12_sees (va_wsS RX12 149 yX12_isCell wsX12_isCell) := goodIn_app (goodIn_of _ (by decide +kernel)) ggX12_sees_X12_isCell
theorem dX12_sees_1 : decode cX12_sees 1 = .ok (.invokestatic 149, 3) := by decide +kernel
theorem dX12_sees_4 : decode cX12_sees 4 = .ok (.ifCond .eq 11, 3) := by decide +kernel
theorem dX12_sees_7 : decode cX12_sees 7 = .ok (.aload_n 0, 1) := by decide +kernel
theorem dX12_sees_8 : decode cX12_sees 8 = .ok (.iload_n 1, 1) := by decide +kernel
set_option maxRecDepth 20000 in
theorem ggX12_sees_X12_seesOf : GoodIn wsX12_sees wsX12_seesOf := goodIn_r _ [11, 12, 13, 14, 15, 3, 16, 17, 18, 19, 20, 21, 22, 23, 24, 25, 26, 27, 28, 29, 30, 31, 32, 33, 34, 35, 36, 37, 38, 39, 40, 41, 42, 43, 44, 45, 46, 47, 48, 49, 50, 51, 52, 53, 54, 55, 56, 57, 58, 59, 60, 61] (by decide +kernel) (by decide +kernel)
set_option maxRecDepth 20000 in
theorem gX12_sees_X12_seesOf : GoodIn wsX12_sees (wsV RX12 178 RX12 yX12_seesOf wsX12_seesOf) := goodIn_app (goodIn_of _ (by decide +kernel)) ggX12_sees_X12_seesOf
theorem dX12_sees_9 : decode cX12_sees 9 = .ok (.invokevirtual 178, 3) := by decide +kernel
theorem dX12_sees_12 : decode cX12_sees 12 = .ok (.goto 4, 3) := by decide +kernel
theorem dX12_sees_16 : decode cX12_sees 16 = .ok (.ireturn, 1) := by decide +kernel
theorem dX12_sees_15 : decode cX12_sees 15 = .ok (.iconst (-1), 1) := by decide +kernel
theorem dX12_where_0 : decode cX12_where 0 = .ok (.iload_n 1, 1) := by decide +kernel
theorem dX12_where_1 : decode cX12_where 1 = .ok (.ifCond .lt 14, 3) := by decide +kernel
theorem dX12_where_15 : decode cX12_where 15 = .ok (.ldc2_w 181, 3) := by decide +kernel
theorem dX12_where_18 : decode cX12_where 18 = .ok (.lreturn, 1) := by decide +kernel
theorem dX12_where_4 : decode cX12_where 4 = .ok (.iload_n 1, 1) := by decide +kernel
theorem dX12_where_5 : decode cX12_where 5 = .ok (.aload_n 0, 1) := by decide +kernel
theorem dX12_where_6 : decode cX12_where 6 = .ok (.getfield 9, 3) := by decide +kernel
theorem dX12_where_9 : decode cX12_where 9 = .ok (.iconst 0, 1) := by decide +kernel
theorem dX12_where_10 : decode cX12_where 10 = .ok (.iaload, 1) := by decide +kernel
theorem dX12_where_11 : decode cX12_where 11 = .ok (.ishr, 1) := by decide +kernel
theorem dX12_where_12 : decode cX12_where 12 = .ok (.ifCond .eq 7, 3) := by decide +kernel
theorem dX12_where_19 : decode cX12_where 19 = .ok (.lconst 0, 1) := by decide +kernel
theorem dX12_where_20 : decode cX12_where 20 = .ok (.lstore_n 2, 1) := by decide +kernel
theorem dX12_where_21 : decode cX12_where 21 = .ok (.iconst 0, 1) := by decide +kernel
theorem dX12_where_22 : decode cX12_where 22 = .ok (.istore 4, 2) := by decide +kernel
theorem dX12_where_24 : decode cX12_where 24 = .ok (.iload 4, 2) := by decide +kernel
theorem dX12_where_26 : decode cX12_where 26 = .ok (.bipush 36, 2) := by decide +kernel
theorem dX12_where_28 : decode cX12_where 28 = .ok (.if_icmp .ge 30, 3) := by decide +kernel
theorem dX12_where_58 : decode cX12_where 58 = .ok (.lload_n 2, 1) := by decide +kernel
theorem dX12_where_59 : decode cX12_where 59 = .ok (.lreturn, 1) := by decide +kernel
theorem dX12_where_31 : decode cX12_where 31 = .ok (.lload_n 2, 1) := by decide +kernel
theorem dX12_where_32 : decode cX12_where 32 = .ok (.aload_n 0, 1) := by decide +kernel
theorem dX12_where_33 : decode cX12_where 33 = .ok (.iload 4, 2) := by decide +kernel
set_option maxRecDepth 20000 in
theorem ggX12_where_X12_seesOf : GoodIn wsX12_where wsX12_seesOf := goodIn_r _ [7, 1, 8, 9, 10, 6, 11, 12, 13, 14, 15, 16, 17, 18, 19, 20, 21, 22, 23, 24, 25, 26, 27, 28, 29, 30, 31, 32, 33, 34, 35, 36, 37, 38, 39, 40, 41, 42, 43, 44, 45, 46, 47, 48, 49, 50, 51, 52, 53, 54, 55, 56] (by decide +kernel) (by decide +kernel)
set_option maxRecDepth 20000 in
theorem gX12_where_X12_seesOf : GoodIn wsX12_where (wsV RX12 178 RX12 yX12_seesOf wsX12_seesOf) := goodIn_app (goodIn_of _ (by decide +kernel)) ggX12_where_X12_seesOf
theorem dX12_where_35 : decode cX12_where 35 = .ok (.invokevirtual 178, 3) := by decide +kernel
theorem dX12_where_38 : decode cX12_where 38 = .ok (.iload_n 1, 1) := by decide +kernel
theorem dX12_where_39 : decode cX12_where 39 = .ok (.if_icmp .ne 10, 3) := by decide +kernel
theorem dX12_where_42 : decode cX12_where 42 = .ok (.lconst 1, 1) := by decide +kernel
theorem dX12_where_43 : decode cX12_where 43 = .ok (.iload 4, 2) := by decide +kernel
theorem dX12_where_45 : decode cX12_where 45 = .ok (.lshl, 1) := by decide +kernel
theorem dX12_where_46 : decode cX12_where 46 = .ok (.goto 4, 3) := by decide +kernel
theorem dX12_where_50 : decode cX12_where 50 = .ok (.lor, 1) := by decide +kernel
theorem dX12_where_51 : decode cX12_where 51 = .ok (.lstore_n 2, 1) := by decide +kernel
theorem dX12_where_52 : decode cX12_where 52 = .ok (.iinc 4 1, 3) := by decide +kernel
theorem dX12_where_55 : decode cX12_where 55 = .ok (.goto (-31), 3) := by decide +kernel
theorem dX12_walk_0 : decode cX12_walk 0 = .ok (.iload_n 1, 1) := by decide +kernel
theorem dX12_walk_1 : decode cX12_walk 1 = .ok (.iconst (-1), 1) := by decide +kernel
theorem dX12_walk_2 : decode cX12_walk 2 = .ok (.if_icmp .ne 12, 3) := by decide +kernel
theorem dX12_walk_14 : decode cX12_walk 14 = .ok (.iload_n 1, 1) := by decide +kernel
theorem dX12_walk_15 : decode cX12_walk 15 = .ok (.iconst 0, 1) := by decide +kernel
theorem dX12_walk_16 : decode cX12_walk 16 = .ok (.bipush 7, 2) := by decide +kernel
set_option maxRecDepth 20000 in
theorem ggX12_walk_X12_in : GoodIn wsX12_walk wsX12_in := goodIn_r _ [5] (by decide +kernel) (by decide +kernel)
set_option maxRecDepth 20000 in
theorem gX12_walk_X12_in : GoodIn wsX12_walk (va_wsS RX12 45 yX12_in wsX12_in) := goodIn_app (goodIn_of _ (by decide +kernel)) ggX12_walk_X12_in
theorem dX12_walk_18 : decode cX12_walk 18 = .ok (.invokestatic 45, 3) := by decide +kernel
theorem dX12_walk_21 : decode cX12_walk 21 = .ok (.ifCond .ne 5, 3) := by decide +kernel
theorem dX12_walk_26 : decode cX12_walk 26 = .ok (.aload_n 0, 1) := by decide +kernel
theorem dX12_walk_27 : decode cX12_walk 27 = .ok (.getfield 9, 3) := by decide +kernel
theorem dX12_walk_30 : decode cX12_walk 30 = .ok (.iconst 2, 1) := by decide +kernel
theorem dX12_walk_31 : decode cX12_walk 31 = .ok (.iaload, 1) := by decide +kernel
theorem dX12_walk_32 : decode cX12_walk 32 = .ok (.bipush 6, 2) := by decide +kernel
theorem dX12_walk_34 : decode cX12_walk 34 = .ok (.if_icmp .ne 6, 3) := by decide +kernel
theorem dX12_walk_40 : decode cX12_walk 40 = .ok (.aload_n 0, 1) := by decide +kernel
theorem dX12_walk_41 : decode cX12_walk 41 = .ok (.getfield 9, 3) := by decide +kernel
theorem dX12_walk_44 : decode cX12_walk 44 = .ok (.bipush 73, 2) := by decide +kernel
theorem dX12_walk_46 : decode cX12_walk 46 = .ok (.aload_n 0, 1) := by decide +kernel
theorem dX12_walk_47 : decode cX12_walk 47 = .ok (.getfield 9, 3) := by decide +kernel
theorem dX12_walk_50 : decode cX12_walk 50 = .ok (.iconst 2, 1) := by decide +kernel
theorem dX12_walk_51 : decode cX12_walk 51 = .ok (.iaload, 1) := by decide +kernel
theorem dX12_walk_52 : decode cX12_walk 52 = .ok (.iadd, 1) := by decide +kernel
theorem dX12_walk_53 : decode cX12_walk 53 = .ok (.iload_n 1, 1) := by decide +kernel
theorem dX12_walk_54 : decode cX12_walk 54 = .ok (.iastore, 1) := by decide +kernel
theorem dX12_walk_55 : decode cX12_walk 55 = .ok (.aload_n 0, 1) := by decide +kernel
theorem dX12_walk_56 : decode cX12_walk 56 = .ok (.getfield 9, 3) := by decide +kernel
theorem dX12_walk_59 : decode cX12_walk 59 = .ok (.iconst 2, 1) := by decide +kernel
theorem dX12_walk_60 : decode cX12_walk 60 = .ok (.dup2, 1) := by decide +kernel
theorem dX12_walk_61 : decode cX12_walk 61 = .ok (.iaload, 1) := by decide +kernel
theorem dX12_walk_62 : decode cX12_walk 62 = .ok (.iconst 1, 1) := by decide +kernel
theorem dX12_walk_63 : decode cX12_walk 63 = .ok (.iadd, 1) := by decide +kernel
theorem dX12_walk_64 : decode cX12_walk 64 = .ok (.iastore, 1) := by decide +kernel
theorem dX12_walk_65 : decode cX12_walk 65 = .ok (.aload_n 0, 1) := by decide +kernel
theorem dX12_walk_66 : decode cX12_walk 66 = .ok (.getfield 9, 3) := by decide +kernel
theorem dX12_walk_69 : decode cX12_walk 69 = .ok (.iconst 2, 1) := by decide +kernel
theorem dX12_walk_70 : decode cX12_walk 70 = .ok (.iaload, 1) := by decide +kernel
theorem dX12_walk_71 : decode cX12_walk 71 = .ok (.ireturn, 1) := by decide +kernel
theorem dX12_walk_24 : decode cX12_walk 24 = .ok (.iconst (-1), 1) := by decide +kernel
theorem dX12_walk_25 : decode cX12_walk 25 = .ok (.ireturn, 1) := by decide +kernel
theorem dX12_walk_5 : decode cX12_walk 5 = .ok (.aload_n 0, 1) := by decide +kernel
theorem dX12_walk_6 : decode cX12_walk 6 = .ok (.getfield 9, 3) := by decide +kernel
theorem dX12_walk_9 : decode cX12_walk 9 = .ok (.iconst 2, 1) := by decide +kernel
theorem dX12_walk_10 : decode cX12_walk 10 = .ok (.iconst 0, 1) := by decide +kernel
theorem dX12_walk_11 : decode cX12_walk 11 = .ok (.iastore, 1) := by decide +kernel
theorem dX12_walk_12 : decode cX12_walk 12 = .ok (.iconst 0, 1) := by decide +kernel
theorem dX12_walk_13 : decode cX12_walk 13 = .ok (.ireturn, 1) := by decide +kernel
theorem dX12_book_0 : decode cX12_book 0 = .ok (.iload_n 1, 1) := by decide +kernel
theorem dX12_book_1 : decode cX12_book 1 = .ok (.iconst (-1), 1) := by decide +kernel
theorem dX12_book_2 : decode cX12_book 2 = .ok (.if_icmp .ne 12, 3) := by decide +kernel
theorem dX12_book_14 : decode cX12_book 14 = .ok (.aload_n 0, 1) := by decide +kernel
theorem dX12_book_15 : decode cX12_book 15 = .ok (.iload_n 1, 1) := by decide +kernel
set_option maxRecDepth 20000 in
theorem ggX12_book_X12_isHeap : GoodIn wsX12_book wsX12_isHeap := goodIn_r _ [6, 1, 7, 8, 5, 9, 10, 11, 12, 13, 14, 15, 16, 17, 18, 19, 20, 21, 22, 23, 24, 25, 26, 27, 28, 29, 30, 31, 32] (by decide +kernel) (by decide +kernel)
set_option maxRecDepth 20000 in
theorem gX12_book_X12_isHeap : GoodIn wsX12_book (wsV RX12 164 RX12 yX12_isHeap wsX12_isHeap) := goodIn_app (goodIn_of _ (by decide +kernel)) ggX12_book_X12_isHeap
theorem dX12_book_16 : decode cX12_book 16 = .ok (.invokevirtual 164, 3) := by decide +kernel
theorem dX12_book_19 : decode cX12_book 19 = .ok (.ifCond .ne 5, 3) := by decide +kernel
theorem dX12_book_22 : decode cX12_book 22 = .ok (.iconst (-1), 1) := by decide +kernel
theorem dX12_book_23 : decode cX12_book 23 = .ok (.ireturn, 1) := by decide +kernel
theorem dX12_book_5 : decode cX12_book 5 = .ok (.aload_n 0, 1) := by decide +kernel
theorem dX12_book_6 : decode cX12_book 6 = .ok (.getfield 9, 3) := by decide +kernel
theorem dX12_book_9 : decode cX12_book 9 = .ok (.iconst 3, 1) := by decide +kernel
theorem dX12_book_10 : decode cX12_book 10 = .ok (.iconst 0, 1) := by decide +kernel
theorem dX12_book_11 : decode cX12_book 11 = .ok (.iastore, 1) := by decide +kernel
theorem dX12_book_12 : decode cX12_book 12 = .ok (.iconst 0, 1) := by decide +kernel
theorem dX12_book_13 : decode cX12_book 13 = .ok (.ireturn, 1) := by decide +kernel
theorem dX12_act_0 : decode cX12_act 0 = .ok (.aload_n 0, 1) := by decide +kernel
theorem dX12_act_1 : decode cX12_act 1 = .ok (.iconst 0, 1) := by decide +kernel
theorem dX12_act_2 : decode cX12_act 2 = .ok (.putfield 246, 3) := by decide +kernel
theorem dX12_act_5 : decode cX12_act 5 = .ok (.aload_n 0, 1) := by decide +kernel
theorem dX12_act_6 : decode cX12_act 6 = .ok (.iload_n 1, 1) := by decide +kernel
set_option maxRecDepth 20000 in
theorem ggX12_act_X12_isHeap : GoodIn wsX12_act wsX12_isHeap := goodIn_r _ [10, 2, 11, 12, 9, 13, 46, 47, 48, 49, 50, 51, 52, 53, 54, 55, 56, 57, 58, 59, 60, 61, 62, 63, 64, 65, 66, 67, 68] (by decide +kernel) (by decide +kernel)
set_option maxRecDepth 20000 in
theorem gX12_act_X12_isHeap : GoodIn wsX12_act (wsV RX12 164 RX12 yX12_isHeap wsX12_isHeap) := goodIn_app (goodIn_of _ (by decide +kernel)) ggX12_act_X12_isHeap
theorem dX12_act_7 : decode cX12_act 7 = .ok (.invokevirtual 164, 3) := by decide +kernel
theorem dX12_act_10 : decode cX12_act 10 = .ok (.ifCond .eq 12, 3) := by decide +kernel
theorem dX12_act_22 : decode cX12_act 22 = .ok (.iconst 0, 1) := by decide +kernel
theorem dX12_act_23 : decode cX12_act 23 = .ok (.ireturn, 1) := by decide +kernel
theorem dX12_image_0 : decode cX12_image 0 = .ok (.iconst 0, 1) := by decide +kernel
theorem dX12_image_1 : decode cX12_image 1 = .ok (.istore_n 1, 1) := by decide +kernel
theorem dX12_image_2 : decode cX12_image 2 = .ok (.iload_n 1, 1) := by decide +kernel
theorem dX12_image_3 : decode cX12_image 3 = .ok (.sipush 901, 3) := by decide +kernel
theorem dX12_image_6 : decode cX12_image 6 = .ok (.if_icmp .ge 21, 3) := by decide +kernel
theorem dX12_image_27 : decode cX12_image 27 = .ok (.aload_n 0, 1) := by decide +kernel
theorem dX12_image_28 : decode cX12_image 28 = .ok (.iconst 1, 1) := by decide +kernel
theorem dX12_image_29 : decode cX12_image 29 = .ok (.putfield 282, 3) := by decide +kernel
theorem dX12_image_32 : decode cX12_image 32 = .ok (.aload_n 0, 1) := by decide +kernel
theorem dX12_image_33 : decode cX12_image 33 = .ok (.getfield 9, 3) := by decide +kernel
theorem dX12_image_36 : decode cX12_image 36 = .ok (.iconst 0, 1) := by decide +kernel
theorem dX12_image_37 : decode cX12_image 37 = .ok (.iaload, 1) := by decide +kernel
theorem dX12_image_38 : decode cX12_image 38 = .ok (.ireturn, 1) := by decide +kernel
theorem dX12_image_9 : decode cX12_image 9 = .ok (.aload_n 0, 1) := by decide +kernel
theorem dX12_image_10 : decode cX12_image 10 = .ok (.getfield 15, 3) := by decide +kernel
theorem dX12_image_13 : decode cX12_image 13 = .ok (.iload_n 1, 1) := by decide +kernel
theorem dX12_image_14 : decode cX12_image 14 = .ok (.aload_n 0, 1) := by decide +kernel
theorem dX12_image_15 : decode cX12_image 15 = .ok (.getfield 9, 3) := by decide +kernel
theorem dX12_image_18 : decode cX12_image 18 = .ok (.iload_n 1, 1) := by decide +kernel
theorem dX12_image_19 : decode cX12_image 19 = .ok (.iaload, 1) := by decide +kernel
theorem dX12_image_20 : decode cX12_image 20 = .ok (.iastore, 1) := by decide +kernel
theorem dX12_image_21 : decode cX12_image 21 = .ok (.iinc 1 1, 3) := by decide +kernel
theorem dX12_image_24 : decode cX12_image 24 = .ok (.goto (-22), 3) := by decide +kernel
theorem dX12_here_0 : decode cX12_here 0 = .ok (.aload_n 0, 1) := by decide +kernel
theorem dX12_here_1 : decode cX12_here 1 = .ok (.getfield 59, 3) := by decide +kernel
theorem dX12_here_4 : decode cX12_here 4 = .ok (.aload_n 0, 1) := by decide +kernel
theorem dX12_here_5 : decode cX12_here 5 = .ok (.getfield 62, 3) := by decide +kernel
theorem dX12_here_8 : decode cX12_here 8 = .ok (.if_icmp .ge 18, 3) := by decide +kernel
theorem dX12_here_26 : decode cX12_here 26 = .ok (.iconst (-1), 1) := by decide +kernel
theorem dX12_here_27 : decode cX12_here 27 = .ok (.ireturn, 1) := by decide +kernel
theorem s0_ne {k : Nat} (h : k ≠ 5) : s0 k = 0 := by simp [s0, upd, h]
theorem in_of {n : Nat} {c M : Int32} (hM : M.toInt = (n : Int)) (h1 : ¬ c < 0) (h2 : ¬ M < c) : ∃ j : Nat, j ≤ n ∧ c = nI j := nI_of2 hM h1 (Int32.not_lt.mp h2)
def f_set (a n : Int32) : Int32 := if a < 0 then -1 else if 1 < a then -1 else if n < 0 then -2 else if 9 < n then -2 else 0
def f_told (a : Int32) : Int32 := if a = 0 then 0 else if a = 1 then 0 else if a = 2 then 3 else if a = 3 then 0 else -1
def f_heap (k v c : Int32) : Int32 := if k < 0 then -1 else if 6 < k then -1 else if c < 0 then -1 else if 35 < c then -1 else if v < 0 then -2 else if 9 < v then -2 else 0
def f_cell (c : Int32) : Int32 := if c < 0 then -1 else if 35 < c then -1 else 0
def f_where (a : Int32) : Int64 := if a < 0 then -9223372036854775808 else if a = 0 then 68719476735 else -9223372036854775808
def f_edges (x : Int64) : Int32 := if x < 0 then -2 else if x >>> ((36 : Int32).toInt64 &&& 63) = 0 then 0 else -2
def f_walk (x : Int32) : Int32 := if x = -1 then 0 else if x < 0 then -1 else if 7 < x then -1 else 1
def f_book (x : Int32) : Int32 := if x = -1 then 0 else -1
def f_count (a : Int32) : Int32 := if a = 0 then 0 else if a = 1 then 0 else if a = 2 then 0 else if a = 3 then 0 else if a = 4 then 0 else if a = 5 then 0 else -1
theorem wh_step : ∀ i : Nat, i < 36 → lN (2 ^ i - 1) ||| ((1 : Int64) <<< ((nI i).toInt64 &&& 63)) = lN (2 ^ (i + 1) - 1) := by decide +kernel

theorem kc_mSet_0 : ∀ w ∈ wsX120, w ∈ wsX12_set := by decide +kernel
theorem kc_mSet_1 : (.fieldLink RX12 9 "MistHeapsModel" "s" "[I" : Cond) ∈ wsX12_set := by decide +kernel
set_option maxHeartbeats 4000000 in
set_option maxRecDepth 100000 in
theorem c_mSet (l : Launch) (dC : Nat → ClassId) (dI : Nat → Nat → Nat) (m0 aS aI aB aT aG aO aN aD aY : Nat) (cS : ClassId) (a n : Int32) (sz : Nat) : Met l yX12_set wsX12_set ({ frames := 1, cells := 0, slots := 0, locals := 22 } : Room) (va_Pc [.ref m0, .int a, .int n] (fun U => U.heap.size = sz ∧ va_P (dC, dI) vwCl [(m0, .inr (14, [.int 0, .ref aS, .ref aI, .int 0, .int 0, .int 0, .int 0, .int 0, .int 0, .ref aB, .ref aT, .int 0, .int 0, .ref aG, .ref aO, .ref aN, .ref aD, .long 0, .ref aY, .int 0, .int 0, .int 0, .int 0])), (aS, .inl (cS, 901, .inl s0))] U.heap ∧ va_K (dC, dI) vwCl [(cS, .int)] U ∧ va_D (fun _ => True) [(m0, .inr (14, [.int 0, .ref aS, .ref aI, .int 0, .int 0, .int 0, .int 0, .int 0, .int 0, .ref aB, .ref aT, .int 0, .int 0, .ref aG, .ref aO, .ref aN, .ref aD, .long 0, .ref aY, .int 0, .int 0, .int 0, .int 0])), (aS, .inl (cS, 901, .inl s0))])) (va_Qi (fun (r : Int32) (u : Unit) => match u with | () => r = f_set a n) (fun (u : Unit) (t : State) => match u with | () => True) (va_A [(m0, .inr (14, [.int 0, .ref aS, .ref aI, .int 0, .int 0, .int 0, .int 0, .int 0, .int 0, .ref aB, .ref aT, .int 0, .int 0, .ref aG, .ref aO, .ref aN, .ref aD, .long 0, .ref aY, .int 0, .int 0, .int 0, .int 0])), (aS, .inl (cS, 901, .inl s0))] sz)) 0 0 (va_A [(m0, .inr (14, [.int 0, .ref aS, .ref aI, .int 0, .int 0, .int 0, .int 0, .int 0, .int 0, .ref aB, .ref aT, .int 0, .int 0, .ref aG, .ref aO, .ref aN, .ref aD, .long 0, .ref aY, .int 0, .int 0, .int 0, .int 0])), (aS, .inl (cS, 901, .inl s0))] sz) := by
  refine met_ofQ (cc := cX12_set) (maxL := 4) (ret := (some .int)) (by decide) rfl ?_
  intro p e s m args below meth c s₁ Q B hml hv hQ
  obtain ⟨rfl, hsz, hP, hK, hD0⟩ := hv
  have hx := B.exec
  have hb := B.bytes
  have hr := B.returns
  have hts := atoms_spec (ws := wsX12_set) B.pre
  have hown : s.vm.findClass RX12 = some m.cls := findClass_of_methodNamed B.named
  have hlocks := B.notSynchronized
  subst hsz
  have hD := hD0.self (sz := s.heap.size)
  generalize hAe : va_A [(m0, .inr (14, [.int 0, .ref aS, .ref aI, .int 0, .int 0, .int 0, .int 0, .int 0, .int 0, .ref aB, .ref aT, .int 0, .int 0, .ref aG, .ref aO, .ref aN, .ref aD, .long 0, .ref aY, .int 0, .int 0, .int 0, .int 0])), (aS, .inl (cS, 901, .inl s0))] s.heap.size = A at hD hQ ⊢
  have hA : ∀ q : Nat, s.heap.size ≤ q → A q := fun q h => by rw [← hAe]; exact Or.inr h
  have hS : va_S A s.heap s.heap [] := va_S.rf
  have hl := lv_entry [.ref m0, .int a, .int n] (n := 4) (Nat.le_of_ble_eq_true rfl)
  rw [lg_entry_eq]
  generalize (lg_sl [.ref m0, .int a, .int n] ++ List.replicate (4 - (lg_sl [.ref m0, .int a, .int n]).length) Slot.unset).toArray = ls at hl ⊢
  generalize hag : ([.ref m0, .int a, .int n] : List Value).toArray = args at hts hQ ⊢
  have hl : lv_has ls 4 [(0, .ref m0), (1, .int a), (2, .int n)] := hl
  obtain ⟨H, hH⟩ : ∃ H : Heap, H = s.heap := ⟨_, rfl⟩
  rw [← hH] at hP
  rw [← hH]
  have hS : va_S A s.heap H [] := by rw [hH]; exact hS
  obtain ⟨locs, hlo⟩ : ∃ L : List Loc, L = [] := ⟨_, rfl⟩
  rw [← hlo] at hS
  rw [← hlo]
  clear hH hlo
  refine lv_iload_n hx hb dX12_set_0 rfl (lv_at hl 1 rfl) ?_
  refine lv_iconst (v := 0) hx hb dX12_set_1 (by decide) ?_
  refine lv_iconst (v := 1) hx hb dX12_set_2 (by decide) ?_
  refine vp_callSi (va_runS (As := [.int a, .int 0, .int 1]) (rest := []) ⟨hx, hb, hml, hown, hts⟩ (c_in l dC dI a 0 1) (va_cwS 3 hts gX12_set_X12_in rfl rfl rfl (by decide +kernel) ⟨Nat.le_of_ble_eq_true rfl, Nat.le_of_ble_eq_true rfl⟩) ⟨fun a U g mk q => ⟨q.1, trivial⟩, fun U hU hW => ⟨rfl, trivial⟩⟩ rfl rfl hl.1 rfl (lv_room (Nat.le_of_ble_eq_true rfl)) dX12_set_3 ⟨Nat.le_of_ble_eq_true rfl, Nat.le_of_ble_eq_true rfl⟩).run (fun r_1 hw_2 => ?_)
  rcases hw_2 with ⟨rfl, h_3, h_4⟩ | ⟨rfl, h_5⟩
  · skip
    obtain ⟨j_6, hj_7, rfl⟩ := in_of (n := 1) (M := 1) rfl h_3 h_4
    refine lv_if_ne (tgt := 11) hx hb dX12_set_6 (by decide) (fun _ => ?_) (fun c_8 => absurd c_8 (by decide))
    refine lv_iload_n hx hb dX12_set_11 rfl (lv_at hl 2 rfl) ?_
    refine lv_iconst (v := 0) hx hb dX12_set_12 (by decide) ?_
    refine lv_bipush (v := 9) hx hb dX12_set_13 (by decide) ?_
    refine vp_callSi (va_runS (As := [.int n, .int 0, .int 9]) (rest := []) ⟨hx, hb, hml, hown, hts⟩ (c_in l dC dI n 0 9) (va_cwS 3 hts gX12_set_X12_in rfl rfl rfl (by decide +kernel) ⟨Nat.le_of_ble_eq_true rfl, Nat.le_of_ble_eq_true rfl⟩) ⟨fun a U g mk q => ⟨q.1, trivial⟩, fun U hU hW => ⟨rfl, trivial⟩⟩ rfl rfl hl.1 rfl (lv_room (Nat.le_of_ble_eq_true rfl)) dX12_set_15 ⟨Nat.le_of_ble_eq_true rfl, Nat.le_of_ble_eq_true rfl⟩).run (fun r_9 hw_10 => ?_)
    rcases hw_10 with ⟨rfl, h_11, h_12⟩ | ⟨rfl, h_13⟩
    · skip
      refine lv_if_ne (tgt := 24) hx hb dX12_set_18 (by decide) (fun _ => ?_) (fun c_14 => absurd c_14 (by decide))
      refine lv_aload_n hx hb dX12_set_24 rfl (lv_at hl 0 rfl) ?_
      refine va_get (D := (dC, dI)) (ci := 14) (v := .ref aS) (C := RX12) (T := TX12) (N := 23) hx hb hts kc_mSet_0 hown hK hP 0 rfl rfl 1 (by decide) (hts (.fieldLink RX12 9 "MistHeapsModel" "s" "[I") kc_mSet_1) (fun _ h9 => h9) rfl dX12_set_25 ?_
      refine lv_bipush (v := 6) hx hb dX12_set_28 (by decide) ?_
      refine lv_iload_n hx hb dX12_set_30 rfl (lv_at hl 1 rfl) ?_
      refine lv_iadd hx hb dX12_set_31 ?_
      refine qi_as (y := nI (6 + j_6)) (nI_add 6 j_6) ?_
      refine va_iald hx hb hK hP 1 0 rfl rfl (vp_in_nI (n := 6 + j_6) (N := 901) (by omega) (by omega)) dX12_set_32 ?_
      refine qi_as (y := 0) ((show s0 (nI (6 + j_6)).toNatClampNeg = s0 (6 + j_6) from by rw [nI_clamp (by omega)]).trans (s0_ne (by omega))) ?_
      refine lv_istore_n (lv' := [(3, .int 0), (0, .ref m0), (1, .int (nI j_6)), (2, .int n)]) hx hb dX12_set_33 rfl hl (by decide) rfl (fun ls hl => ?_)
      refine lv_aload_n hx hb dX12_set_34 rfl (lv_at hl 1 rfl) ?_
      refine va_get (D := (dC, dI)) (ci := 14) (v := .ref aS) (C := RX12) (T := TX12) (N := 23) hx hb hts kc_mSet_0 hown hK hP 0 rfl rfl 1 (by decide) (hts (.fieldLink RX12 9 "MistHeapsModel" "s" "[I") kc_mSet_1) (fun _ h9 => h9) rfl dX12_set_35 ?_
      refine lv_bipush (v := 6) hx hb dX12_set_38 (by decide) ?_
      refine lv_iload_n hx hb dX12_set_40 rfl (lv_at hl 2 rfl) ?_
      refine lv_iadd hx hb dX12_set_41 ?_
      refine qi_as (y := nI (6 + j_6)) (nI_add 6 j_6) ?_
      refine lv_iload_n hx hb dX12_set_42 rfl (lv_at hl 3 rfl) ?_
      refine va_iast hx hb hK hP hD hS 1 0 rfl rfl (vp_in_nI (n := 6 + j_6) (N := 901) (by omega) (by omega)) dX12_set_43 (fun H locs hP hD hS => ?_)
      rw [nI_clamp (n := 6 + j_6) (by omega)] at hP hD
      have hP : va_P (dC, dI) vwCl [(m0, .inr (14, [.int 0, .ref aS, .ref aI, .int 0, .int 0, .int 0, .int 0, .int 0, .int 0, .ref aB, .ref aT, .int 0, .int 0, .ref aG, .ref aO, .ref aN, .ref aD, .long 0, .ref aY, .int 0, .int 0, .int 0, .int 0])), (aS, .inl (cS, 901, .inl (upd s0 (6 + j_6) n)))] H := hP
      have hD : va_D A [(m0, .inr (14, [.int 0, .ref aS, .ref aI, .int 0, .int 0, .int 0, .int 0, .int 0, .int 0, .ref aB, .ref aT, .int 0, .int 0, .ref aG, .ref aO, .ref aN, .ref aD, .long 0, .ref aY, .int 0, .int 0, .int 0, .int 0])), (aS, .inl (cS, 901, .inl (upd s0 (6 + j_6) n)))] := hD
      refine lv_iload_n hx hb dX12_set_44 rfl (lv_at hl 0 rfl) ?_
      rw [hQ]
      exact W.iret (v := 0) hx hb hr (fun t ht hW => ⟨⟨0, (), rfl, by simp only [f_set]; (repeat' split) <;> simp_all, trivial⟩, hS.F ht⟩) hS.2.2 dX12_set_45
    · skip
      refine lv_if_ne (tgt := 24) hx hb dX12_set_18 (by decide) (fun c_15 => absurd c_15 (by decide)) (fun _ => ?_)
      refine lv_bipush (v := (-2)) hx hb dX12_set_21 (by decide) ?_
      rw [hQ]
      exact W.iret (v := (-2)) hx hb hr (fun t ht hW => ⟨⟨(-2), (), rfl, by simp only [f_set]; (repeat' split) <;> simp_all, trivial⟩, hS.F ht⟩) hS.2.2 dX12_set_23
  · skip
    refine lv_if_ne (tgt := 11) hx hb dX12_set_6 (by decide) (fun c_16 => absurd c_16 (by decide)) (fun _ => ?_)
    refine lv_iconst (v := (-1)) hx hb dX12_set_9 (by decide) ?_
    rw [hQ]
    exact W.iret (v := (-1)) hx hb hr (fun t ht hW => ⟨⟨(-1), (), rfl, by simp only [f_set]; (repeat' split) <;> simp_all, trivial⟩, hS.F ht⟩) hS.2.2 dX12_set_10

theorem kc_mSight0_0 : ∀ w ∈ wsX120, w ∈ wsX12_sight := by decide +kernel
theorem kc_mSight0_1 : (.fieldLink RX12 9 "MistHeapsModel" "s" "[I" : Cond) ∈ wsX12_sight := by decide +kernel
set_option maxHeartbeats 4000000 in
set_option maxRecDepth 100000 in
theorem c_mSight0 (l : Launch) (dC : Nat → ClassId) (dI : Nat → Nat → Nat) (m0 aS aI aB aT aG aO aN aD aY : Nat) (cS : ClassId) : Met l yX12_sight wsX12_sight ({ frames := 0, cells := 0, slots := 0, locals := 0 } : Room) (va_Pc [.ref m0] (fun U => va_P (dC, dI) vwCl [(m0, .inr (14, [.int 0, .ref aS, .ref aI, .int 0, .int 0, .int 0, .int 0, .int 0, .int 0, .ref aB, .ref aT, .int 0, .int 0, .ref aG, .ref aO, .ref aN, .ref aD, .long 0, .ref aY, .int 0, .int 0, .int 0, .int 0])), (aS, .inl (cS, 901, .inl s0))] U.heap ∧ va_K (dC, dI) vwCl [(cS, .int)] U)) (vp_Si (fun r => r = 3)) 0 0 (fun _ => False) := by
  refine met_ofQ (cc := cX12_sight) (maxL := 1) (ret := (some .int)) (by decide) rfl ?_
  intro p e s m args below meth c s₁ Q B hml hv hQ
  obtain ⟨rfl, hP, hK⟩ := hv
  have hx := B.exec
  have hb := B.bytes
  have hr := B.returns
  have hts := atoms_spec (ws := wsX12_sight) B.pre
  have hown : s.vm.findClass RX12 = some m.cls := findClass_of_methodNamed B.named
  have hlocks := B.notSynchronized
  obtain ⟨A, hAe⟩ : ∃ A : Nat → Prop, A = fun _ => False := ⟨_, rfl⟩
  rw [← hAe] at hQ
  have hS : va_S A s.heap s.heap [] := va_S.rf
  have hl := lv_entry [.ref m0] (n := 1) (Nat.le_of_ble_eq_true rfl)
  rw [lg_entry_eq]
  generalize (lg_sl [.ref m0] ++ List.replicate (1 - (lg_sl [.ref m0]).length) Slot.unset).toArray = ls at hl ⊢
  generalize hag : ([.ref m0] : List Value).toArray = args at hts hQ ⊢
  have hl : lv_has ls 1 [(0, .ref m0)] := hl
  refine lv_aload_n hx hb dX12_sight_0 rfl (lv_at hl 0 rfl) ?_
  refine va_get (D := (dC, dI)) (ci := 14) (v := .ref aS) (C := RX12) (T := TX12) (N := 23) hx hb hts kc_mSight0_0 hown hK hP 0 rfl rfl 1 (by decide) (hts (.fieldLink RX12 9 "MistHeapsModel" "s" "[I") kc_mSight0_1) (fun _ h9 => h9) rfl dX12_sight_1 ?_
  refine lv_iconst (v := 5) hx hb dX12_sight_4 (by decide) ?_
  refine va_iald hx hb hK hP 1 0 rfl rfl (vp_in_nI (n := 5) (N := 901) (by omega) (by omega)) dX12_sight_5 ?_
  refine qi_as (y := (-1)) (rfl) ?_
  refine lv_iconst (v := (-1)) hx hb dX12_sight_6 (by decide) ?_
  refine lv_icmp_ne (tgt := 14) hx hb dX12_sight_7 (by decide) (fun c_1 => absurd c_1 (by decide)) (fun _ => ?_)
  refine lv_iconst (v := 3) hx hb dX12_sight_10 (by decide) ?_
  refine lv_goto (tgt := 29) hx hb dX12_sight_11 (by decide) ?_
  rw [hQ]
  exact W.iret (v := 3) hx hb hr (fun t ht hW => ⟨3, rfl, rfl, by rw [ht]⟩) (fun q hq => absurd hq List.not_mem_nil) dX12_sight_29

theorem kc_mEdgesMany0_0 : ∀ w ∈ wsX120, w ∈ wsX12_edgesMany := by decide +kernel
theorem kc_mEdgesMany0_1 : (.fieldLink RX12 9 "MistHeapsModel" "s" "[I" : Cond) ∈ wsX12_edgesMany := by decide +kernel
set_option maxHeartbeats 4000000 in
set_option maxRecDepth 100000 in
theorem c_mEdgesMany0 (l : Launch) (dC : Nat → ClassId) (dI : Nat → Nat → Nat) (m0 aS aI aB aT aG aO aN aD aY : Nat) (cS : ClassId) : Met l yX12_edgesMany wsX12_edgesMany ({ frames := 0, cells := 0, slots := 0, locals := 0 } : Room) (va_Pc [.ref m0] (fun U => va_P (dC, dI) vwCl [(m0, .inr (14, [.int 0, .ref aS, .ref aI, .int 0, .int 0, .int 0, .int 0, .int 0, .int 0, .ref aB, .ref aT, .int 0, .int 0, .ref aG, .ref aO, .ref aN, .ref aD, .long 0, .ref aY, .int 0, .int 0, .int 0, .int 0])), (aS, .inl (cS, 901, .inl s0))] U.heap ∧ va_K (dC, dI) vwCl [(cS, .int)] U)) (vp_Si (fun r => r = 0)) 0 0 (fun _ => False) := by
  refine met_ofQ (cc := cX12_edgesMany) (maxL := 3) (ret := (some .int)) (by decide) rfl ?_
  intro p e s m args below meth c s₁ Q B hml hv hQ
  obtain ⟨rfl, hP, hK⟩ := hv
  have hx := B.exec
  have hb := B.bytes
  have hr := B.returns
  have hts := atoms_spec (ws := wsX12_edgesMany) B.pre
  have hown : s.vm.findClass RX12 = some m.cls := findClass_of_methodNamed B.named
  have hlocks := B.notSynchronized
  obtain ⟨A, hAe⟩ : ∃ A : Nat → Prop, A = fun _ => False := ⟨_, rfl⟩
  rw [← hAe] at hQ
  have hS : va_S A s.heap s.heap [] := va_S.rf
  have hl := lv_entry [.ref m0] (n := 3) (Nat.le_of_ble_eq_true rfl)
  rw [lg_entry_eq]
  generalize (lg_sl [.ref m0] ++ List.replicate (3 - (lg_sl [.ref m0]).length) Slot.unset).toArray = ls at hl ⊢
  generalize hag : ([.ref m0] : List Value).toArray = args at hts hQ ⊢
  have hl : lv_has ls 3 [(0, .ref m0)] := hl
  refine lv_iconst (v := 0) hx hb dX12_edgesMany_0 (by decide) ?_
  refine lv_istore_n (lv' := [(1, .int 0), (0, .ref m0)]) hx hb dX12_edgesMany_1 rfl hl (by decide) rfl (fun ls hl => ?_)
  refine lv_iconst (v := 0) hx hb dX12_edgesMany_2 (by decide) ?_
  refine lv_istore_n (lv' := [(2, .int 0), (1, .int 0), (0, .ref m0)]) hx hb dX12_edgesMany_3 rfl hl (by decide) rfl (fun ls hl => ?_)
  have L4 : ∀ (n : Nat) (i : Nat), 36 - i < n → i ≤ 36 → ∀ (ls : Array Slot), lv_has ls 3 [(0, .ref m0), (1, .int 0), (2, .int (nI i))] → W p l e ({ frames := 0, cells := 0, slots := 0, locals := 0 } : Room) s m args below meth c s.heap [] 0 0 Q (F0 m 4 ls []) := by
    intro n
    induction n with
    | zero => intro i hm; exact absurd hm (Nat.not_lt_zero _)
    | succ n ih4 =>
      intro i hm hi ls hl
      refine lv_iload_n hx hb dX12_edgesMany_4 rfl (lv_at hl 2 rfl) ?_
      refine lv_bipush (v := 36) hx hb dX12_edgesMany_5 (by decide) ?_
      refine lv_icmp_ge (tgt := 28) hx hb dX12_edgesMany_7 (by decide) (fun c_1 => ?_) (fun c_1 => ?_)
      · skip
        have c_1 : 36 ≤ i := (nI_leI (a := 36) (b := i) (by omega) (by omega)).mp c_1
        refine lv_iload_n hx hb dX12_edgesMany_28 rfl (lv_at hl 1 rfl) ?_
        rw [hQ]
        exact W.iret (v := 0) hx hb hr (fun t ht hW => ⟨0, rfl, rfl, by rw [ht]⟩) (fun q hq => absurd hq List.not_mem_nil) dX12_edgesMany_29
      · skip
        have c_1 : ¬ 36 ≤ i := fun q => c_1 ((nI_leI (a := 36) (b := i) (by omega) (by omega)).mpr q)
        refine lv_iload_n hx hb dX12_edgesMany_10 rfl (lv_at hl 1 rfl) ?_
        refine lv_aload_n hx hb dX12_edgesMany_11 rfl (lv_at hl 0 rfl) ?_
        refine va_get (D := (dC, dI)) (ci := 14) (v := .ref aS) (C := RX12) (T := TX12) (N := 23) hx hb hts kc_mEdgesMany0_0 hown hK hP 0 rfl rfl 1 (by decide) (hts (.fieldLink RX12 9 "MistHeapsModel" "s" "[I") kc_mEdgesMany0_1) (fun _ h9 => h9) rfl dX12_edgesMany_12 ?_
        refine lv_bipush (v := 37) hx hb dX12_edgesMany_15 (by decide) ?_
        refine lv_iload_n hx hb dX12_edgesMany_17 rfl (lv_at hl 2 rfl) ?_
        refine lv_iadd hx hb dX12_edgesMany_18 ?_
        refine qi_as (y := nI (37 + i)) (nI_add 37 i) ?_
        refine va_iald hx hb hK hP 1 0 rfl rfl (vp_in_nI (n := 37 + i) (N := 901) (by omega) (by omega)) dX12_edgesMany_19 ?_
        refine qi_as (y := 0) ((show s0 (nI (37 + i)).toNatClampNeg = s0 (37 + i) from by rw [nI_clamp (by omega)]).trans (s0_ne (by omega))) ?_
        refine lv_iadd hx hb dX12_edgesMany_20 ?_
        refine qi_as (y := 0) (by decide) ?_
        refine lv_istore_n (lv' := [(1, .int 0), (0, .ref m0), (2, .int (nI i))]) hx hb dX12_edgesMany_21 rfl hl (by decide) rfl (fun ls hl => ?_)
        refine lv_iinc (v := nI (i + 1)) (lv' := [(2, .int (nI (i + 1))), (1, .int 0), (0, .ref m0)]) hx hb dX12_edgesMany_22 hl (k := 2) rfl (nI_add i 1) (by decide) rfl (fun ls hl => ?_)
        refine lv_goto (tgt := 4) hx hb dX12_edgesMany_25 (by decide) ?_
        exact ih4 _ (by omega) (by omega) ls (lv_sub hl [2, 1, 0] rfl)
  exact L4 _ (0) (Nat.lt_succ_self _) (by omega) ls (lv_sub hl [2, 1, 0] rfl)

theorem kc_mTold_0 : ∀ w ∈ wsX120, w ∈ wsX12_told := by decide +kernel
theorem kc_mTold_1 : (.fieldLink RX12 9 "MistHeapsModel" "s" "[I" : Cond) ∈ wsX12_told := by decide +kernel
set_option maxHeartbeats 4000000 in
set_option maxRecDepth 100000 in
theorem c_mTold (l : Launch) (dC : Nat → ClassId) (dI : Nat → Nat → Nat) (m0 aS aI aB aT aG aO aN aD aY : Nat) (cS : ClassId) (a : Int32) : Met l yX12_told wsX12_told ({ frames := 1, cells := 0, slots := 0, locals := 22 } : Room) (va_Pc [.ref m0, .int a] (fun U => va_P (dC, dI) vwCl [(m0, .inr (14, [.int 0, .ref aS, .ref aI, .int 0, .int 0, .int 0, .int 0, .int 0, .int 0, .ref aB, .ref aT, .int 0, .int 0, .ref aG, .ref aO, .ref aN, .ref aD, .long 0, .ref aY, .int 0, .int 0, .int 0, .int 0])), (aS, .inl (cS, 901, .inl s0))] U.heap ∧ va_K (dC, dI) vwCl [(cS, .int)] U)) (vp_Si (fun r => r = f_told a)) 0 0 (fun _ => False) := by
  refine met_ofQ (cc := cX12_told) (maxL := 2) (ret := (some .int)) (by decide) rfl ?_
  intro p e s m args below meth c s₁ Q B hml hv hQ
  obtain ⟨rfl, hP, hK⟩ := hv
  have hx := B.exec
  have hb := B.bytes
  have hr := B.returns
  have hts := atoms_spec (ws := wsX12_told) B.pre
  have hown : s.vm.findClass RX12 = some m.cls := findClass_of_methodNamed B.named
  have hlocks := B.notSynchronized
  obtain ⟨A, hAe⟩ : ∃ A : Nat → Prop, A = fun _ => False := ⟨_, rfl⟩
  rw [← hAe] at hQ
  have hS : va_S A s.heap s.heap [] := va_S.rf
  have hl := lv_entry [.ref m0, .int a] (n := 2) (Nat.le_of_ble_eq_true rfl)
  rw [lg_entry_eq]
  generalize (lg_sl [.ref m0, .int a] ++ List.replicate (2 - (lg_sl [.ref m0, .int a]).length) Slot.unset).toArray = ls at hl ⊢
  generalize hag : ([.ref m0, .int a] : List Value).toArray = args at hts hQ ⊢
  have hl : lv_has ls 2 [(0, .ref m0), (1, .int a)] := hl
  refine lv_iload_n hx hb dX12_told_0 rfl (lv_at hl 1 rfl) ?_
  by_cases c_1_0 : a = 0
  · skip
    refine lv_tableIn (tgt := 32) hx hb dX12_told_1 (by rw [c_1_0]; decide) (by rw [c_1_0]; decide) (by rw [c_1_0]; rfl) (by decide) ?_
    refine lv_aload_n hx hb dX12_told_32 rfl (lv_at hl 0 rfl) ?_
    refine va_get (D := (dC, dI)) (ci := 14) (v := .ref aS) (C := RX12) (T := TX12) (N := 23) hx hb hts kc_mTold_0 hown hK hP 0 rfl rfl 1 (by decide) (hts (.fieldLink RX12 9 "MistHeapsModel" "s" "[I") kc_mTold_1) (fun _ h9 => h9) rfl dX12_told_33 ?_
    refine lv_bipush (v := 6) hx hb dX12_told_36 (by decide) ?_
    refine va_iald hx hb hK hP 1 0 rfl rfl (vp_in_nI (n := 6) (N := 901) (by omega) (by omega)) dX12_told_38 ?_
    refine qi_as (y := 0) (rfl) ?_
    rw [hQ]
    exact W.iret (v := 0) hx hb hr (fun t ht hW => ⟨0, rfl, by simp only [f_told]; (repeat' split) <;> simp_all, by rw [ht]⟩) (fun q hq => absurd hq List.not_mem_nil) dX12_told_39
  by_cases c_1_1 : a = 1
  · skip
    refine lv_tableIn (tgt := 40) hx hb dX12_told_1 (by rw [c_1_1]; decide) (by rw [c_1_1]; decide) (by rw [c_1_1]; rfl) (by decide) ?_
    refine lv_aload_n hx hb dX12_told_40 rfl (lv_at hl 0 rfl) ?_
    refine va_get (D := (dC, dI)) (ci := 14) (v := .ref aS) (C := RX12) (T := TX12) (N := 23) hx hb hts kc_mTold_0 hown hK hP 0 rfl rfl 1 (by decide) (hts (.fieldLink RX12 9 "MistHeapsModel" "s" "[I") kc_mTold_1) (fun _ h9 => h9) rfl dX12_told_41 ?_
    refine lv_bipush (v := 7) hx hb dX12_told_44 (by decide) ?_
    refine va_iald hx hb hK hP 1 0 rfl rfl (vp_in_nI (n := 7) (N := 901) (by omega) (by omega)) dX12_told_46 ?_
    refine qi_as (y := 0) (rfl) ?_
    rw [hQ]
    exact W.iret (v := 0) hx hb hr (fun t ht hW => ⟨0, rfl, by simp only [f_told]; (repeat' split) <;> simp_all, by rw [ht]⟩) (fun q hq => absurd hq List.not_mem_nil) dX12_told_47
  by_cases c_1_2 : a = 2
  · skip
    refine lv_tableIn (tgt := 48) hx hb dX12_told_1 (by rw [c_1_2]; decide) (by rw [c_1_2]; decide) (by rw [c_1_2]; rfl) (by decide) ?_
    refine lv_aload_n hx hb dX12_told_48 rfl (lv_at hl 0 rfl) ?_
    have hPc := hP.sub (ws' := [(m0, .inr (14, [.int 0, .ref aS, .ref aI, .int 0, .int 0, .int 0, .int 0, .int 0, .int 0, .ref aB, .ref aT, .int 0, .int 0, .ref aG, .ref aO, .ref aN, .ref aD, .long 0, .ref aY, .int 0, .int 0, .int 0, .int 0])), (aS, .inl (cS, 901, .inl s0))]) [0, 1] rfl
    have hKc := hK.sub (tys' := [(cS, .int)]) [0] rfl
    refine vp_callSi (va_runV (As := []) (rest := []) ⟨hx, hb, hml, hown, hts⟩ (c_mSight0 l dC dI m0 aS aI aB aT aG aO aN aD aY cS) (cwV 0 hts gX12_told_X12_sight rfl rfl rfl (by decide +kernel) ⟨Nat.le_of_ble_eq_true rfl, Nat.le_of_ble_eq_true rfl⟩) ⟨fun a U g mk q => by obtain ⟨q0, qP, qK⟩ := q; exact ⟨q0, qP, va_K.moved (u := U) (U := U.calling g mk a) (Vm.Alike.refl U.vm) qK⟩, va_recv hK hP (ci := 14) (q0 := 0) rfl rfl, fun U hU hW => ⟨rfl, by rw [hU]; exact hPc, va_K.moved hW.alike hKc⟩⟩ rfl rfl hl.1 rfl (lv_room (Nat.le_of_ble_eq_true rfl)) dX12_told_49 ⟨Nat.le_of_ble_eq_true rfl, Nat.le_of_ble_eq_true rfl⟩).run (fun r_2 hw_3 => ?_)
    refine qi_as (y := 3) (hw_3) ?_
    rw [hQ]
    exact W.iret (v := 3) hx hb hr (fun t ht hW => ⟨3, rfl, by simp only [f_told]; (repeat' split) <;> simp_all, by rw [ht]⟩) (fun q hq => absurd hq List.not_mem_nil) dX12_told_52
  by_cases c_1_3 : a = 3
  · skip
    refine lv_tableIn (tgt := 53) hx hb dX12_told_1 (by rw [c_1_3]; decide) (by rw [c_1_3]; decide) (by rw [c_1_3]; rfl) (by decide) ?_
    refine lv_aload_n hx hb dX12_told_53 rfl (lv_at hl 0 rfl) ?_
    have hPc := hP.sub (ws' := [(m0, .inr (14, [.int 0, .ref aS, .ref aI, .int 0, .int 0, .int 0, .int 0, .int 0, .int 0, .ref aB, .ref aT, .int 0, .int 0, .ref aG, .ref aO, .ref aN, .ref aD, .long 0, .ref aY, .int 0, .int 0, .int 0, .int 0])), (aS, .inl (cS, 901, .inl s0))]) [0, 1] rfl
    have hKc := hK.sub (tys' := [(cS, .int)]) [0] rfl
    refine vp_callSi (va_runV (As := []) (rest := []) ⟨hx, hb, hml, hown, hts⟩ (c_mEdgesMany0 l dC dI m0 aS aI aB aT aG aO aN aD aY cS) (cwV 0 hts gX12_told_X12_edgesMany rfl rfl rfl (by decide +kernel) ⟨Nat.le_of_ble_eq_true rfl, Nat.le_of_ble_eq_true rfl⟩) ⟨fun a U g mk q => by obtain ⟨q0, qP, qK⟩ := q; exact ⟨q0, qP, va_K.moved (u := U) (U := U.calling g mk a) (Vm.Alike.refl U.vm) qK⟩, va_recv hK hP (ci := 14) (q0 := 0) rfl rfl, fun U hU hW => ⟨rfl, by rw [hU]; exact hPc, va_K.moved hW.alike hKc⟩⟩ rfl rfl hl.1 rfl (lv_room (Nat.le_of_ble_eq_true rfl)) dX12_told_54 ⟨Nat.le_of_ble_eq_true rfl, Nat.le_of_ble_eq_true rfl⟩).run (fun r_4 hw_5 => ?_)
    refine qi_as (y := 0) (hw_5) ?_
    rw [hQ]
    exact W.iret (v := 0) hx hb hr (fun t ht hW => ⟨0, rfl, by simp only [f_told]; (repeat' split) <;> simp_all, by rw [ht]⟩) (fun q hq => absurd hq List.not_mem_nil) dX12_told_57
  refine lv_tableOut (tgt := 58) hx hb dX12_told_1 (sw_out 0 3 a (fun k hk => by
    match k, hk with
    | 0, _ => exact c_1_0
    | 1, _ => exact c_1_1
    | 2, _ => exact c_1_2
    | 3, _ => exact c_1_3
    | k + 4, hk => exact absurd hk (by omega))) (by decide) ?_
  refine lv_iconst (v := (-1)) hx hb dX12_told_58 (by decide) ?_
  rw [hQ]
  exact W.iret (v := (-1)) hx hb hr (fun t ht hW => ⟨(-1), rfl, by simp only [f_told]; (repeat' split) <;> simp_all, by rw [ht]⟩) (fun q hq => absurd hq List.not_mem_nil) dX12_told_59

theorem kc_mEdges_0 : ∀ w ∈ wsX120, w ∈ wsX12_edges := by decide +kernel
theorem kc_mEdges_1 : (.fieldLink RX12 9 "MistHeapsModel" "s" "[I" : Cond) ∈ wsX12_edges := by decide +kernel
set_option maxHeartbeats 4000000 in
set_option maxRecDepth 100000 in
theorem c_mEdges (l : Launch) (dC : Nat → ClassId) (dI : Nat → Nat → Nat) (m0 aS aI aB aT aG aO aN aD aY : Nat) (cS : ClassId) (x : Int64) (sz : Nat) : Met l yX12_edges wsX12_edges ({ frames := 1, cells := 0, slots := 0, locals := 22 } : Room) (va_Pc [.ref m0, .long x] (fun U => U.heap.size = sz ∧ va_P (dC, dI) vwCl [(m0, .inr (14, [.int 0, .ref aS, .ref aI, .int 0, .int 0, .int 0, .int 0, .int 0, .int 0, .ref aB, .ref aT, .int 0, .int 0, .ref aG, .ref aO, .ref aN, .ref aD, .long 0, .ref aY, .int 0, .int 0, .int 0, .int 0])), (aS, .inl (cS, 901, .inl s0))] U.heap ∧ va_K (dC, dI) vwCl [(cS, .int)] U ∧ va_D (fun _ => True) [(m0, .inr (14, [.int 0, .ref aS, .ref aI, .int 0, .int 0, .int 0, .int 0, .int 0, .int 0, .ref aB, .ref aT, .int 0, .int 0, .ref aG, .ref aO, .ref aN, .ref aD, .long 0, .ref aY, .int 0, .int 0, .int 0, .int 0])), (aS, .inl (cS, 901, .inl s0))])) (va_Qi (fun (r : Int32) (u : Unit) => match u with | () => r = f_edges x) (fun (u : Unit) (t : State) => match u with | () => True) (va_A [(m0, .inr (14, [.int 0, .ref aS, .ref aI, .int 0, .int 0, .int 0, .int 0, .int 0, .int 0, .ref aB, .ref aT, .int 0, .int 0, .ref aG, .ref aO, .ref aN, .ref aD, .long 0, .ref aY, .int 0, .int 0, .int 0, .int 0])), (aS, .inl (cS, 901, .inl s0))] sz)) 0 0 (va_A [(m0, .inr (14, [.int 0, .ref aS, .ref aI, .int 0, .int 0, .int 0, .int 0, .int 0, .int 0, .ref aB, .ref aT, .int 0, .int 0, .ref aG, .ref aO, .ref aN, .ref aD, .long 0, .ref aY, .int 0, .int 0, .int 0, .int 0])), (aS, .inl (cS, 901, .inl s0))] sz) := by
  refine met_ofQ (cc := cX12_edges) (maxL := 5) (ret := (some .int)) (by decide) rfl ?_
  intro p e s m args below meth c s₁ Q B hml hv hQ
  obtain ⟨rfl, hsz, hP, hK, hD0⟩ := hv
  have hx := B.exec
  have hb := B.bytes
  have hr := B.returns
  have hts := atoms_spec (ws := wsX12_edges) B.pre
  have hown : s.vm.findClass RX12 = some m.cls := findClass_of_methodNamed B.named
  have hlocks := B.notSynchronized
  subst hsz
  have hD := hD0.self (sz := s.heap.size)
  generalize hAe : va_A [(m0, .inr (14, [.int 0, .ref aS, .ref aI, .int 0, .int 0, .int 0, .int 0, .int 0, .int 0, .ref aB, .ref aT, .int 0, .int 0, .ref aG, .ref aO, .ref aN, .ref aD, .long 0, .ref aY, .int 0, .int 0, .int 0, .int 0])), (aS, .inl (cS, 901, .inl s0))] s.heap.size = A at hD hQ ⊢
  have hA : ∀ q : Nat, s.heap.size ≤ q → A q := fun q h => by rw [← hAe]; exact Or.inr h
  have hS : va_S A s.heap s.heap [] := va_S.rf
  have hl := lv_entry [.ref m0, .long x] (n := 5) (Nat.le_of_ble_eq_true rfl)
  rw [lg_entry_eq]
  generalize (lg_sl [.ref m0, .long x] ++ List.replicate (5 - (lg_sl [.ref m0, .long x]).length) Slot.unset).toArray = ls at hl ⊢
  generalize hag : ([.ref m0, .long x] : List Value).toArray = args at hts hQ ⊢
  have hl : lv_has ls 5 [(0, .ref m0), (1, .long x)] := hl
  obtain ⟨H, hH⟩ : ∃ H : Heap, H = s.heap := ⟨_, rfl⟩
  rw [← hH] at hP
  rw [← hH]
  have hS : va_S A s.heap H [] := by rw [hH]; exact hS
  obtain ⟨locs, hlo⟩ : ∃ L : List Loc, L = [] := ⟨_, rfl⟩
  rw [← hlo] at hS
  rw [← hlo]
  clear hH hlo
  refine lv_lload_n hx hb dX12_edges_0 rfl (lv_at hl 1 rfl) ?_
  refine lv_lconst (v := 0) hx hb dX12_edges_1 (by decide) ?_
  refine W.lcmp hx hb dX12_edges_2 ?_
  refine lv_if_lt (tgt := 15) hx hb dX12_edges_3 (by decide) (fun c_1 => ?_) (fun c_1 => ?_)
  · skip
    rw [lg_cmp_lt] at c_1
    refine lv_bipush (v := (-2)) hx hb dX12_edges_15 (by decide) ?_
    rw [hQ]
    exact W.iret (v := (-2)) hx hb hr (fun t ht hW => ⟨⟨(-2), (), rfl, by simp only [f_edges]; (repeat' split) <;> simp_all, trivial⟩, hS.F ht⟩) hS.2.2 dX12_edges_17
  · skip
    rw [lg_cmp_lt] at c_1
    refine lv_lload_n hx hb dX12_edges_6 rfl (lv_at hl 1 rfl) ?_
    refine lv_bipush (v := 36) hx hb dX12_edges_7 (by decide) ?_
    refine lv_lshr (v := x >>> ((36 : Int32).toInt64 &&& 63)) hx hb dX12_edges_9 (rfl) ?_
    refine lv_lconst (v := 0) hx hb dX12_edges_10 (by decide) ?_
    refine W.lcmp hx hb dX12_edges_11 ?_
    refine lv_if_eq (tgt := 18) hx hb dX12_edges_12 (by decide) (fun c_2 => ?_) (fun c_2 => ?_)
    · skip
      rw [lg_cmp_eq] at c_2
      refine lv_aload_n hx hb dX12_edges_18 rfl (lv_at hl 0 rfl) ?_
      have hPc := hP.sub (ws' := [(m0, .inr (14, [.int 0, .ref aS, .ref aI, .int 0, .int 0, .int 0, .int 0, .int 0, .int 0, .ref aB, .ref aT, .int 0, .int 0, .ref aG, .ref aO, .ref aN, .ref aD, .long 0, .ref aY, .int 0, .int 0, .int 0, .int 0])), (aS, .inl (cS, 901, .inl s0))]) [0, 1] rfl
      have hKc := hK.sub (tys' := [(cS, .int)]) [0] rfl
      refine vp_callSi (va_runV (As := []) (rest := []) ⟨hx, hb, hml, hown, hts⟩ (c_mEdgesMany0 l dC dI m0 aS aI aB aT aG aO aN aD aY cS) (cwV 0 hts gX12_edges_X12_edgesMany rfl rfl rfl (by decide +kernel) ⟨Nat.le_of_ble_eq_true rfl, Nat.le_of_ble_eq_true rfl⟩) ⟨fun a U g mk q => by obtain ⟨q0, qP, qK⟩ := q; exact ⟨q0, qP, va_K.moved (u := U) (U := U.calling g mk a) (Vm.Alike.refl U.vm) qK⟩, va_recv hK hP (ci := 14) (q0 := 0) rfl rfl, fun U hU hW => ⟨rfl, by rw [hU]; exact hPc, va_K.moved hW.alike hKc⟩⟩ rfl rfl hl.1 rfl (lv_room (Nat.le_of_ble_eq_true rfl)) dX12_edges_19 ⟨Nat.le_of_ble_eq_true rfl, Nat.le_of_ble_eq_true rfl⟩).run (fun r_3 hw_4 => ?_)
      refine qi_as (y := 0) (hw_4) ?_
      refine lv_istore_n (lv' := [(3, .int 0), (0, .ref m0), (1, .long x)]) hx hb dX12_edges_22 rfl hl (by decide) rfl (fun ls hl => ?_)
      refine lv_iconst (v := 0) hx hb dX12_edges_23 (by decide) ?_
      refine lv_istore (lv' := [(4, .int 0), (3, .int 0), (0, .ref m0), (1, .long x)]) hx hb dX12_edges_24 hl (by decide) rfl (fun ls hl => ?_)
      have L26 : ∀ (n : Nat) (i : Nat) (f : Nat → Int32), 36 - i < n → i ≤ 36 → ∀ (H : Heap) (locs : List Loc), va_K (dC, dI) vwCl [(cS, .int)] s → va_P (dC, dI) vwCl [(m0, .inr (14, [.int 0, .ref aS, .ref aI, .int 0, .int 0, .int 0, .int 0, .int 0, .int 0, .ref aB, .ref aT, .int 0, .int 0, .ref aG, .ref aO, .ref aN, .ref aD, .long 0, .ref aY, .int 0, .int 0, .int 0, .int 0])), (aS, .inl (cS, 901, .inl f))] H → va_D A [(m0, .inr (14, [.int 0, .ref aS, .ref aI, .int 0, .int 0, .int 0, .int 0, .int 0, .int 0, .ref aB, .ref aT, .int 0, .int 0, .ref aG, .ref aO, .ref aN, .ref aD, .long 0, .ref aY, .int 0, .int 0, .int 0, .int 0])), (aS, .inl (cS, 901, .inl f))] → va_S A s.heap H locs → ∀ (ls : Array Slot), lv_has ls 5 [(0, .ref m0), (1, .long x), (3, .int 0), (4, .int (nI i))] → W p l e ({ frames := 1, cells := 0, slots := 0, locals := 22 } : Room) s m args below meth c H locs 0 0 Q (F0 m 26 ls []) := by
        intro n
        induction n with
        | zero => intro i f hm; exact absurd hm (Nat.not_lt_zero _)
        | succ n ih26 =>
          intro i f hm hi H locs hK hP hD hS ls hl
          refine lv_iload hx hb dX12_edges_26 (lv_at hl 3 rfl) ?_
          refine lv_bipush (v := 36) hx hb dX12_edges_28 (by decide) ?_
          refine lv_icmp_ge (tgt := 56) hx hb dX12_edges_30 (by decide) (fun c_5 => ?_) (fun c_5 => ?_)
          · skip
            have c_5 : 36 ≤ i := (nI_leI (a := 36) (b := i) (by omega) (by omega)).mp c_5
            refine lv_iload_n hx hb dX12_edges_56 rfl (lv_at hl 2 rfl) ?_
            rw [hQ]
            exact W.iret (v := 0) hx hb hr (fun t ht hW => ⟨⟨0, (), rfl, by simp only [f_edges]; (repeat' split) <;> simp_all, trivial⟩, hS.F ht⟩) hS.2.2 dX12_edges_57
          · skip
            have c_5 : ¬ 36 ≤ i := fun q => c_5 ((nI_leI (a := 36) (b := i) (by omega) (by omega)).mpr q)
            refine lv_aload_n hx hb dX12_edges_33 rfl (lv_at hl 0 rfl) ?_
            refine va_get (D := (dC, dI)) (ci := 14) (v := .ref aS) (C := RX12) (T := TX12) (N := 23) hx hb hts kc_mEdges_0 hown hK hP 0 rfl rfl 1 (by decide) (hts (.fieldLink RX12 9 "MistHeapsModel" "s" "[I") kc_mEdges_1) (fun _ h9 => h9) rfl dX12_edges_34 ?_
            refine lv_bipush (v := 37) hx hb dX12_edges_37 (by decide) ?_
            refine lv_iload hx hb dX12_edges_39 (lv_at hl 3 rfl) ?_
            refine lv_iadd hx hb dX12_edges_41 ?_
            refine qi_as (y := nI (37 + i)) (nI_add 37 i) ?_
            refine lv_lload_n hx hb dX12_edges_42 rfl (lv_at hl 1 rfl) ?_
            refine lv_iload hx hb dX12_edges_43 (lv_at hl 3 rfl) ?_
            refine lv_lshr (v := x >>> ((nI i).toInt64 &&& 63)) hx hb dX12_edges_45 (rfl) ?_
            refine lv_lconst (v := 1) hx hb dX12_edges_46 (by decide) ?_
            refine lv_land hx hb dX12_edges_47 ?_
            refine lv_l2i (v := ((x >>> ((nI i).toInt64 &&& 63)) &&& 1).toInt32) hx hb dX12_edges_48 (rfl) ?_
            refine va_iast hx hb hK hP hD hS 1 0 rfl rfl (vp_in_nI (n := 37 + i) (N := 901) (by omega) (by omega)) dX12_edges_49 (fun H locs hP hD hS => ?_)
            rw [nI_clamp (n := 37 + i) (by omega)] at hP hD
            have hP : va_P (dC, dI) vwCl [(m0, .inr (14, [.int 0, .ref aS, .ref aI, .int 0, .int 0, .int 0, .int 0, .int 0, .int 0, .ref aB, .ref aT, .int 0, .int 0, .ref aG, .ref aO, .ref aN, .ref aD, .long 0, .ref aY, .int 0, .int 0, .int 0, .int 0])), (aS, .inl (cS, 901, .inl (upd f (37 + i) (((x >>> ((nI i).toInt64 &&& 63)) &&& 1).toInt32))))] H := hP
            have hD : va_D A [(m0, .inr (14, [.int 0, .ref aS, .ref aI, .int 0, .int 0, .int 0, .int 0, .int 0, .int 0, .ref aB, .ref aT, .int 0, .int 0, .ref aG, .ref aO, .ref aN, .ref aD, .long 0, .ref aY, .int 0, .int 0, .int 0, .int 0])), (aS, .inl (cS, 901, .inl (upd f (37 + i) (((x >>> ((nI i).toInt64 &&& 63)) &&& 1).toInt32))))] := hD
            refine lv_iinc (v := nI (i + 1)) (lv' := [(4, .int (nI (i + 1))), (0, .ref m0), (1, .long x), (3, .int 0)]) hx hb dX12_edges_50 hl (k := 3) rfl (nI_add i 1) (by decide) rfl (fun ls hl => ?_)
            refine lv_goto (tgt := 26) hx hb dX12_edges_53 (by decide) ?_
            exact ih26 _ _ (by omega) (by omega) _ _ (hK.sub [0] rfl) (hP.sub [0, 1] rfl) (hD.sub [0, 1] (by decide) rfl) hS ls (lv_sub hl [1, 2, 3, 0] rfl)
      exact L26 _ (0) _ (Nat.lt_succ_self _) (by omega) _ _ (hK.sub [0] rfl) (hP.sub [0, 1] rfl) (hD.sub [0, 1] (by decide) rfl) hS ls (lv_sub hl [2, 3, 1, 0] rfl)
    · skip
      rw [lg_cmp_eq] at c_2
      refine lv_bipush (v := (-2)) hx hb dX12_edges_15 (by decide) ?_
      rw [hQ]
      exact W.iret (v := (-2)) hx hb hr (fun t ht hW => ⟨⟨(-2), (), rfl, by simp only [f_edges]; (repeat' split) <;> simp_all, trivial⟩, hS.F ht⟩) hS.2.2 dX12_edges_17

theorem kc_mHeapOn0_0 : ∀ w ∈ wsX120, w ∈ wsX12_heapOn := by decide +kernel
theorem kc_mHeapOn0_1 : (.fieldLink RX12 9 "MistHeapsModel" "s" "[I" : Cond) ∈ wsX12_heapOn := by decide +kernel
set_option maxHeartbeats 4000000 in
set_option maxRecDepth 100000 in
theorem c_mHeapOn0 (l : Launch) (dC : Nat → ClassId) (dI : Nat → Nat → Nat) (m0 aS aI aB aT aG aO aN aD aY : Nat) (cS : ClassId) (x : Int32) : Met l yX12_heapOn wsX12_heapOn ({ frames := 0, cells := 0, slots := 0, locals := 0 } : Room) (va_Pc [.ref m0, .int x] (fun U => va_P (dC, dI) vwCl [(m0, .inr (14, [.int 0, .ref aS, .ref aI, .int 0, .int 0, .int 0, .int 0, .int 0, .int 0, .ref aB, .ref aT, .int 0, .int 0, .ref aG, .ref aO, .ref aN, .ref aD, .long 0, .ref aY, .int 0, .int 0, .int 0, .int 0])), (aS, .inl (cS, 901, .inl s0))] U.heap ∧ va_K (dC, dI) vwCl [(cS, .int)] U)) (vp_Si (fun r => r = -1)) 0 0 (fun _ => False) := by
  refine met_ofQ (cc := cX12_heapOn) (maxL := 4) (ret := (some .int)) (by decide) rfl ?_
  intro p e s m args below meth c s₁ Q B hml hv hQ
  obtain ⟨rfl, hP, hK⟩ := hv
  have hx := B.exec
  have hb := B.bytes
  have hr := B.returns
  have hts := atoms_spec (ws := wsX12_heapOn) B.pre
  have hown : s.vm.findClass RX12 = some m.cls := findClass_of_methodNamed B.named
  have hlocks := B.notSynchronized
  obtain ⟨A, hAe⟩ : ∃ A : Nat → Prop, A = fun _ => False := ⟨_, rfl⟩
  rw [← hAe] at hQ
  have hS : va_S A s.heap s.heap [] := va_S.rf
  have hl := lv_entry [.ref m0, .int x] (n := 4) (Nat.le_of_ble_eq_true rfl)
  rw [lg_entry_eq]
  generalize (lg_sl [.ref m0, .int x] ++ List.replicate (4 - (lg_sl [.ref m0, .int x]).length) Slot.unset).toArray = ls at hl ⊢
  generalize hag : ([.ref m0, .int x] : List Value).toArray = args at hts hQ ⊢
  have hl : lv_has ls 4 [(0, .ref m0), (1, .int x)] := hl
  refine lv_iconst (v := (-1)) hx hb dX12_heapOn_0 (by decide) ?_
  refine lv_istore_n (lv' := [(2, .int (-1)), (0, .ref m0), (1, .int x)]) hx hb dX12_heapOn_1 rfl hl (by decide) rfl (fun ls hl => ?_)
  refine lv_iconst (v := 0) hx hb dX12_heapOn_2 (by decide) ?_
  refine lv_istore_n (lv' := [(3, .int 0), (2, .int (-1)), (0, .ref m0), (1, .int x)]) hx hb dX12_heapOn_3 rfl hl (by decide) rfl (fun ls hl => ?_)
  refine lv_iload_n hx hb dX12_heapOn_4 rfl (lv_at hl 0 rfl) ?_
  refine lv_aload_n hx hb dX12_heapOn_5 rfl (lv_at hl 2 rfl) ?_
  refine va_get (D := (dC, dI)) (ci := 14) (v := .ref aS) (C := RX12) (T := TX12) (N := 23) hx hb hts kc_mHeapOn0_0 hown hK hP 0 rfl rfl 1 (by decide) (hts (.fieldLink RX12 9 "MistHeapsModel" "s" "[I") kc_mHeapOn0_1) (fun _ h9 => h9) rfl dX12_heapOn_6 ?_
  refine lv_iconst (v := 0) hx hb dX12_heapOn_9 (by decide) ?_
  refine va_iald hx hb hK hP 1 0 rfl rfl (vp_in_nI (n := 0) (N := 901) (by omega) (by omega)) dX12_heapOn_10 ?_
  refine qi_as (y := 0) (rfl) ?_
  refine lv_icmp_ge (tgt := 39) hx hb dX12_heapOn_11 (by decide) (fun _ => ?_) (fun c_1 => absurd c_1 (by decide))
  refine lv_iload_n hx hb dX12_heapOn_39 rfl (lv_at hl 1 rfl) ?_
  rw [hQ]
  exact W.iret (v := (-1)) hx hb hr (fun t ht hW => ⟨(-1), rfl, rfl, by rw [ht]⟩) (fun q hq => absurd hq List.not_mem_nil) dX12_heapOn_40

theorem kc_mPuts0_0 : ∀ w ∈ wsX120, w ∈ wsX12_puts := by decide +kernel
theorem kc_mPuts0_1 : (.fieldLink RX12 9 "MistHeapsModel" "s" "[I" : Cond) ∈ wsX12_puts := by decide +kernel
set_option maxHeartbeats 4000000 in
set_option maxRecDepth 100000 in
theorem c_mPuts0 (l : Launch) (dC : Nat → ClassId) (dI : Nat → Nat → Nat) (m0 aS aI aB aT aG aO aN aD aY : Nat) (cS : ClassId) (k v x : Int32) (sz : Nat) : Met l yX12_puts wsX12_puts ({ frames := 0, cells := 0, slots := 0, locals := 0 } : Room) (va_Pc [.ref m0, .int k, .int v, .int x] (fun U => U.heap.size = sz ∧ va_P (dC, dI) vwCl [(m0, .inr (14, [.int 0, .ref aS, .ref aI, .int 0, .int 0, .int 0, .int 0, .int 0, .int 0, .ref aB, .ref aT, .int 0, .int 0, .ref aG, .ref aO, .ref aN, .ref aD, .long 0, .ref aY, .int 0, .int 0, .int 0, .int 0])), (aS, .inl (cS, 901, .inl s0))] U.heap ∧ va_K (dC, dI) vwCl [(cS, .int)] U ∧ va_D (fun _ => True) [(m0, .inr (14, [.int 0, .ref aS, .ref aI, .int 0, .int 0, .int 0, .int 0, .int 0, .int 0, .ref aB, .ref aT, .int 0, .int 0, .ref aG, .ref aO, .ref aN, .ref aD, .long 0, .ref aY, .int 0, .int 0, .int 0, .int 0])), (aS, .inl (cS, 901, .inl s0))])) (va_Qi (fun (r : Int32) (u : Unit) => match u with | () => r = 0) (fun (u : Unit) (t : State) => match u with | () => True) (va_A [(m0, .inr (14, [.int 0, .ref aS, .ref aI, .int 0, .int 0, .int 0, .int 0, .int 0, .int 0, .ref aB, .ref aT, .int 0, .int 0, .ref aG, .ref aO, .ref aN, .ref aD, .long 0, .ref aY, .int 0, .int 0, .int 0, .int 0])), (aS, .inl (cS, 901, .inl s0))] sz)) 0 0 (va_A [(m0, .inr (14, [.int 0, .ref aS, .ref aI, .int 0, .int 0, .int 0, .int 0, .int 0, .int 0, .ref aB, .ref aT, .int 0, .int 0, .ref aG, .ref aO, .ref aN, .ref aD, .long 0, .ref aY, .int 0, .int 0, .int 0, .int 0])), (aS, .inl (cS, 901, .inl s0))] sz) := by
  refine met_ofQ (cc := cX12_puts) (maxL := 5) (ret := (some .int)) (by decide) rfl ?_
  intro p e s m args below meth c s₁ Q B hml hv hQ
  obtain ⟨rfl, hsz, hP, hK, hD0⟩ := hv
  have hx := B.exec
  have hb := B.bytes
  have hr := B.returns
  have hts := atoms_spec (ws := wsX12_puts) B.pre
  have hown : s.vm.findClass RX12 = some m.cls := findClass_of_methodNamed B.named
  have hlocks := B.notSynchronized
  subst hsz
  have hD := hD0.self (sz := s.heap.size)
  generalize hAe : va_A [(m0, .inr (14, [.int 0, .ref aS, .ref aI, .int 0, .int 0, .int 0, .int 0, .int 0, .int 0, .ref aB, .ref aT, .int 0, .int 0, .ref aG, .ref aO, .ref aN, .ref aD, .long 0, .ref aY, .int 0, .int 0, .int 0, .int 0])), (aS, .inl (cS, 901, .inl s0))] s.heap.size = A at hD hQ ⊢
  have hA : ∀ q : Nat, s.heap.size ≤ q → A q := fun q h => by rw [← hAe]; exact Or.inr h
  have hS : va_S A s.heap s.heap [] := va_S.rf
  have hl := lv_entry [.ref m0, .int k, .int v, .int x] (n := 5) (Nat.le_of_ble_eq_true rfl)
  rw [lg_entry_eq]
  generalize (lg_sl [.ref m0, .int k, .int v, .int x] ++ List.replicate (5 - (lg_sl [.ref m0, .int k, .int v, .int x]).length) Slot.unset).toArray = ls at hl ⊢
  generalize hag : ([.ref m0, .int k, .int v, .int x] : List Value).toArray = args at hts hQ ⊢
  have hl : lv_has ls 5 [(0, .ref m0), (1, .int k), (2, .int v), (3, .int x)] := hl
  obtain ⟨H, hH⟩ : ∃ H : Heap, H = s.heap := ⟨_, rfl⟩
  rw [← hH] at hP
  rw [← hH]
  have hS : va_S A s.heap H [] := by rw [hH]; exact hS
  obtain ⟨locs, hlo⟩ : ∃ L : List Loc, L = [] := ⟨_, rfl⟩
  rw [← hlo] at hS
  rw [← hlo]
  clear hH hlo
  refine lv_aload_n hx hb dX12_puts_0 rfl (lv_at hl 0 rfl) ?_
  refine va_get (D := (dC, dI)) (ci := 14) (v := .ref aS) (C := RX12) (T := TX12) (N := 23) hx hb hts kc_mPuts0_0 hown hK hP 0 rfl rfl 1 (by decide) (hts (.fieldLink RX12 9 "MistHeapsModel" "s" "[I") kc_mPuts0_1) (fun _ h9 => h9) rfl dX12_puts_1 ?_
  refine lv_iconst (v := 0) hx hb dX12_puts_4 (by decide) ?_
  refine va_iald hx hb hK hP 1 0 rfl rfl (vp_in_nI (n := 0) (N := 901) (by omega) (by omega)) dX12_puts_5 ?_
  refine qi_as (y := 0) (rfl) ?_
  refine lv_istore (lv' := [(4, .int 0), (0, .ref m0), (1, .int k), (2, .int v), (3, .int x)]) hx hb dX12_puts_6 hl (by decide) rfl (fun ls hl => ?_)
  refine lv_aload_n hx hb dX12_puts_8 rfl (lv_at hl 1 rfl) ?_
  refine va_get (D := (dC, dI)) (ci := 14) (v := .ref aS) (C := RX12) (T := TX12) (N := 23) hx hb hts kc_mPuts0_0 hown hK hP 0 rfl rfl 1 (by decide) (hts (.fieldLink RX12 9 "MistHeapsModel" "s" "[I") kc_mPuts0_1) (fun _ h9 => h9) rfl dX12_puts_9 ?_
  refine lv_bipush (v := 10) hx hb dX12_puts_12 (by decide) ?_
  refine lv_iload hx hb dX12_puts_14 (lv_at hl 0 rfl) ?_
  refine lv_iadd hx hb dX12_puts_16 ?_
  refine qi_as (y := 10) (by decide) ?_
  refine lv_iload_n hx hb dX12_puts_17 rfl (lv_at hl 2 rfl) ?_
  refine va_iast hx hb hK hP hD hS 1 0 rfl rfl (vp_in_nI (n := 10) (N := 901) (by omega) (by omega)) dX12_puts_18 (fun H locs hP hD hS => ?_)
  have hP : va_P (dC, dI) vwCl [(m0, .inr (14, [.int 0, .ref aS, .ref aI, .int 0, .int 0, .int 0, .int 0, .int 0, .int 0, .ref aB, .ref aT, .int 0, .int 0, .ref aG, .ref aO, .ref aN, .ref aD, .long 0, .ref aY, .int 0, .int 0, .int 0, .int 0])), (aS, .inl (cS, 901, .inl (upd s0 10 k)))] H := hP
  have hD : va_D A [(m0, .inr (14, [.int 0, .ref aS, .ref aI, .int 0, .int 0, .int 0, .int 0, .int 0, .int 0, .ref aB, .ref aT, .int 0, .int 0, .ref aG, .ref aO, .ref aN, .ref aD, .long 0, .ref aY, .int 0, .int 0, .int 0, .int 0])), (aS, .inl (cS, 901, .inl (upd s0 10 k)))] := hD
  refine lv_aload_n hx hb dX12_puts_19 rfl (lv_at hl 1 rfl) ?_
  refine va_get (D := (dC, dI)) (ci := 14) (v := .ref aS) (C := RX12) (T := TX12) (N := 23) hx hb hts kc_mPuts0_0 hown hK hP 0 rfl rfl 1 (by decide) (hts (.fieldLink RX12 9 "MistHeapsModel" "s" "[I") kc_mPuts0_1) (fun _ h9 => h9) rfl dX12_puts_20 ?_
  refine lv_bipush (v := 19) hx hb dX12_puts_23 (by decide) ?_
  refine lv_iload hx hb dX12_puts_25 (lv_at hl 0 rfl) ?_
  refine lv_iadd hx hb dX12_puts_27 ?_
  refine qi_as (y := 19) (by decide) ?_
  refine lv_iload_n hx hb dX12_puts_28 rfl (lv_at hl 3 rfl) ?_
  refine va_iast hx hb hK hP hD hS 1 0 rfl rfl (vp_in_nI (n := 19) (N := 901) (by omega) (by omega)) dX12_puts_29 (fun H locs hP hD hS => ?_)
  have hP : va_P (dC, dI) vwCl [(m0, .inr (14, [.int 0, .ref aS, .ref aI, .int 0, .int 0, .int 0, .int 0, .int 0, .int 0, .ref aB, .ref aT, .int 0, .int 0, .ref aG, .ref aO, .ref aN, .ref aD, .long 0, .ref aY, .int 0, .int 0, .int 0, .int 0])), (aS, .inl (cS, 901, .inl (upd (upd s0 10 k) 19 v)))] H := hP
  have hD : va_D A [(m0, .inr (14, [.int 0, .ref aS, .ref aI, .int 0, .int 0, .int 0, .int 0, .int 0, .int 0, .ref aB, .ref aT, .int 0, .int 0, .ref aG, .ref aO, .ref aN, .ref aD, .long 0, .ref aY, .int 0, .int 0, .int 0, .int 0])), (aS, .inl (cS, 901, .inl (upd (upd s0 10 k) 19 v)))] := hD
  refine lv_aload_n hx hb dX12_puts_30 rfl (lv_at hl 1 rfl) ?_
  refine va_get (D := (dC, dI)) (ci := 14) (v := .ref aS) (C := RX12) (T := TX12) (N := 23) hx hb hts kc_mPuts0_0 hown hK hP 0 rfl rfl 1 (by decide) (hts (.fieldLink RX12 9 "MistHeapsModel" "s" "[I") kc_mPuts0_1) (fun _ h9 => h9) rfl dX12_puts_31 ?_
  refine lv_bipush (v := 28) hx hb dX12_puts_34 (by decide) ?_
  refine lv_iload hx hb dX12_puts_36 (lv_at hl 0 rfl) ?_
  refine lv_iadd hx hb dX12_puts_38 ?_
  refine qi_as (y := 28) (by decide) ?_
  refine lv_iload_n hx hb dX12_puts_39 rfl (lv_at hl 4 rfl) ?_
  refine va_iast hx hb hK hP hD hS 1 0 rfl rfl (vp_in_nI (n := 28) (N := 901) (by omega) (by omega)) dX12_puts_40 (fun H locs hP hD hS => ?_)
  have hP : va_P (dC, dI) vwCl [(m0, .inr (14, [.int 0, .ref aS, .ref aI, .int 0, .int 0, .int 0, .int 0, .int 0, .int 0, .ref aB, .ref aT, .int 0, .int 0, .ref aG, .ref aO, .ref aN, .ref aD, .long 0, .ref aY, .int 0, .int 0, .int 0, .int 0])), (aS, .inl (cS, 901, .inl (upd (upd (upd s0 10 k) 19 v) 28 x)))] H := hP
  have hD : va_D A [(m0, .inr (14, [.int 0, .ref aS, .ref aI, .int 0, .int 0, .int 0, .int 0, .int 0, .int 0, .ref aB, .ref aT, .int 0, .int 0, .ref aG, .ref aO, .ref aN, .ref aD, .long 0, .ref aY, .int 0, .int 0, .int 0, .int 0])), (aS, .inl (cS, 901, .inl (upd (upd (upd s0 10 k) 19 v) 28 x)))] := hD
  refine lv_aload_n hx hb dX12_puts_41 rfl (lv_at hl 1 rfl) ?_
  refine va_get (D := (dC, dI)) (ci := 14) (v := .ref aS) (C := RX12) (T := TX12) (N := 23) hx hb hts kc_mPuts0_0 hown hK hP 0 rfl rfl 1 (by decide) (hts (.fieldLink RX12 9 "MistHeapsModel" "s" "[I") kc_mPuts0_1) (fun _ h9 => h9) rfl dX12_puts_42 ?_
  refine lv_iconst (v := 0) hx hb dX12_puts_45 (by decide) ?_
  refine lv_dup2_11 hx hb dX12_puts_46 rfl rfl ?_
  refine va_iald hx hb hK hP 1 0 rfl rfl (vp_in_nI (n := 0) (N := 901) (by omega) (by omega)) dX12_puts_47 ?_
  refine qi_as (y := 0) (rfl) ?_
  refine lv_iconst (v := 1) hx hb dX12_puts_48 (by decide) ?_
  refine lv_iadd hx hb dX12_puts_49 ?_
  refine qi_as (y := 1) (by decide) ?_
  refine va_iast hx hb hK hP hD hS 1 0 rfl rfl (vp_in_nI (n := 0) (N := 901) (by omega) (by omega)) dX12_puts_50 (fun H locs hP hD hS => ?_)
  have hP : va_P (dC, dI) vwCl [(m0, .inr (14, [.int 0, .ref aS, .ref aI, .int 0, .int 0, .int 0, .int 0, .int 0, .int 0, .ref aB, .ref aT, .int 0, .int 0, .ref aG, .ref aO, .ref aN, .ref aD, .long 0, .ref aY, .int 0, .int 0, .int 0, .int 0])), (aS, .inl (cS, 901, .inl (upd (upd (upd (upd s0 10 k) 19 v) 28 x) 0 1)))] H := hP
  have hD : va_D A [(m0, .inr (14, [.int 0, .ref aS, .ref aI, .int 0, .int 0, .int 0, .int 0, .int 0, .int 0, .ref aB, .ref aT, .int 0, .int 0, .ref aG, .ref aO, .ref aN, .ref aD, .long 0, .ref aY, .int 0, .int 0, .int 0, .int 0])), (aS, .inl (cS, 901, .inl (upd (upd (upd (upd s0 10 k) 19 v) 28 x) 0 1)))] := hD
  refine lv_iload hx hb dX12_puts_51 (lv_at hl 0 rfl) ?_
  rw [hQ]
  exact W.iret (v := 0) hx hb hr (fun t ht hW => ⟨⟨0, (), rfl, rfl, trivial⟩, hS.F ht⟩) hS.2.2 dX12_puts_53

theorem kc_mHeap_0 : ∀ w ∈ wsX120, w ∈ wsX12_heap := by decide +kernel
theorem kc_mHeap_1 : (.fieldLink RX12 9 "MistHeapsModel" "s" "[I" : Cond) ∈ wsX12_heap := by decide +kernel
set_option maxHeartbeats 4000000 in
set_option maxRecDepth 100000 in
theorem c_mHeap (l : Launch) (dC : Nat → ClassId) (dI : Nat → Nat → Nat) (m0 aS aI aB aT aG aO aN aD aY : Nat) (cS : ClassId) (k v x : Int32) (sz : Nat) : Met l yX12_heap wsX12_heap ({ frames := 2, cells := 0, slots := 0, locals := 42 } : Room) (va_Pc [.ref m0, .int k, .int v, .int x] (fun U => U.heap.size = sz ∧ va_P (dC, dI) vwCl [(m0, .inr (14, [.int 0, .ref aS, .ref aI, .int 0, .int 0, .int 0, .int 0, .int 0, .int 0, .ref aB, .ref aT, .int 0, .int 0, .ref aG, .ref aO, .ref aN, .ref aD, .long 0, .ref aY, .int 0, .int 0, .int 0, .int 0])), (aS, .inl (cS, 901, .inl s0))] U.heap ∧ va_K (dC, dI) vwCl [(cS, .int)] U ∧ va_D (fun _ => True) [(m0, .inr (14, [.int 0, .ref aS, .ref aI, .int 0, .int 0, .int 0, .int 0, .int 0, .int 0, .ref aB, .ref aT, .int 0, .int 0, .ref aG, .ref aO, .ref aN, .ref aD, .long 0, .ref aY, .int 0, .int 0, .int 0, .int 0])), (aS, .inl (cS, 901, .inl s0))])) (va_Qi (fun (r : Int32) (u : Unit) => match u with | () => r = f_heap k v x) (fun (u : Unit) (t : State) => match u with | () => True) (va_A [(m0, .inr (14, [.int 0, .ref aS, .ref aI, .int 0, .int 0, .int 0, .int 0, .int 0, .int 0, .ref aB, .ref aT, .int 0, .int 0, .ref aG, .ref aO, .ref aN, .ref aD, .long 0, .ref aY, .int 0, .int 0, .int 0, .int 0])), (aS, .inl (cS, 901, .inl s0))] sz)) 0 0 (va_A [(m0, .inr (14, [.int 0, .ref aS, .ref aI, .int 0, .int 0, .int 0, .int 0, .int 0, .int 0, .ref aB, .ref aT, .int 0, .int 0, .ref aG, .ref aO, .ref aN, .ref aD, .long 0, .ref aY, .int 0, .int 0, .int 0, .int 0])), (aS, .inl (cS, 901, .inl s0))] sz) := by
  refine met_ofQ (cc := cX12_heap) (maxL := 4) (ret := (some .int)) (by decide) rfl ?_
  intro p e s m args below meth c s₁ Q B hml hv hQ
  obtain ⟨rfl, hsz, hP, hK, hD0⟩ := hv
  have hx := B.exec
  have hb := B.bytes
  have hr := B.returns
  have hts := atoms_spec (ws := wsX12_heap) B.pre
  have hown : s.vm.findClass RX12 = some m.cls := findClass_of_methodNamed B.named
  have hlocks := B.notSynchronized
  subst hsz
  have hD := hD0.self (sz := s.heap.size)
  generalize hAe : va_A [(m0, .inr (14, [.int 0, .ref aS, .ref aI, .int 0, .int 0, .int 0, .int 0, .int 0, .int 0, .ref aB, .ref aT, .int 0, .int 0, .ref aG, .ref aO, .ref aN, .ref aD, .long 0, .ref aY, .int 0, .int 0, .int 0, .int 0])), (aS, .inl (cS, 901, .inl s0))] s.heap.size = A at hD hQ ⊢
  have hA : ∀ q : Nat, s.heap.size ≤ q → A q := fun q h => by rw [← hAe]; exact Or.inr h
  have hS : va_S A s.heap s.heap [] := va_S.rf
  have hl := lv_entry [.ref m0, .int k, .int v, .int x] (n := 4) (Nat.le_of_ble_eq_true rfl)
  rw [lg_entry_eq]
  generalize (lg_sl [.ref m0, .int k, .int v, .int x] ++ List.replicate (4 - (lg_sl [.ref m0, .int k, .int v, .int x]).length) Slot.unset).toArray = ls at hl ⊢
  generalize hag : ([.ref m0, .int k, .int v, .int x] : List Value).toArray = args at hts hQ ⊢
  have hl : lv_has ls 4 [(0, .ref m0), (1, .int k), (2, .int v), (3, .int x)] := hl
  obtain ⟨H, hH⟩ : ∃ H : Heap, H = s.heap := ⟨_, rfl⟩
  rw [← hH] at hP
  rw [← hH]
  have hS : va_S A s.heap H [] := by rw [hH]; exact hS
  obtain ⟨locs, hlo⟩ : ∃ L : List Loc, L = [] := ⟨_, rfl⟩
  rw [← hlo] at hS
  rw [← hlo]
  clear hH hlo
  refine lv_iload_n hx hb dX12_heap_0 rfl (lv_at hl 1 rfl) ?_
  refine lv_iconst (v := 0) hx hb dX12_heap_1 (by decide) ?_
  refine lv_bipush (v := 6) hx hb dX12_heap_2 (by decide) ?_
  refine vp_callSi (va_runS (As := [.int k, .int 0, .int 6]) (rest := []) ⟨hx, hb, hml, hown, hts⟩ (c_in l dC dI k 0 6) (va_cwS 3 hts gX12_heap_X12_in rfl rfl rfl (by decide +kernel) ⟨Nat.le_of_ble_eq_true rfl, Nat.le_of_ble_eq_true rfl⟩) ⟨fun a U g mk q => ⟨q.1, trivial⟩, fun U hU hW => ⟨rfl, trivial⟩⟩ rfl rfl hl.1 rfl (lv_room (Nat.le_of_ble_eq_true rfl)) dX12_heap_4 ⟨Nat.le_of_ble_eq_true rfl, Nat.le_of_ble_eq_true rfl⟩).run (fun r_1 hw_2 => ?_)
  rcases hw_2 with ⟨rfl, h_3, h_4⟩ | ⟨rfl, h_5⟩
  · skip
    refine lv_if_eq (tgt := 17) hx hb dX12_heap_7 (by decide) (fun c_6 => absurd c_6 (by decide)) (fun _ => ?_)
    refine lv_iload_n hx hb dX12_heap_10 rfl (lv_at hl 3 rfl) ?_
    refine vp_callSi (va_runS (As := [.int x]) (rest := []) ⟨hx, hb, hml, hown, hts⟩ (c_mCell l dC dI x) (va_cwS 1 hts gX12_heap_X12_isCell rfl rfl rfl (by decide +kernel) ⟨Nat.le_of_ble_eq_true rfl, Nat.le_of_ble_eq_true rfl⟩) ⟨fun a U g mk q => ⟨q.1, trivial⟩, fun U hU hW => ⟨rfl, trivial⟩⟩ rfl rfl hl.1 rfl (lv_room (Nat.le_of_ble_eq_true rfl)) dX12_heap_11 ⟨Nat.le_of_ble_eq_true rfl, Nat.le_of_ble_eq_true rfl⟩).run (fun r_7 hw_8 => ?_)
    rcases hw_8 with ⟨rfl, h_9, h_10⟩ | ⟨rfl, h_11⟩
    · skip
      refine lv_if_ne (tgt := 19) hx hb dX12_heap_14 (by decide) (fun _ => ?_) (fun c_12 => absurd c_12 (by decide))
      refine lv_iload_n hx hb dX12_heap_19 rfl (lv_at hl 2 rfl) ?_
      refine lv_iconst (v := 0) hx hb dX12_heap_20 (by decide) ?_
      refine lv_bipush (v := 9) hx hb dX12_heap_21 (by decide) ?_
      refine vp_callSi (va_runS (As := [.int v, .int 0, .int 9]) (rest := []) ⟨hx, hb, hml, hown, hts⟩ (c_in l dC dI v 0 9) (va_cwS 3 hts gX12_heap_X12_in rfl rfl rfl (by decide +kernel) ⟨Nat.le_of_ble_eq_true rfl, Nat.le_of_ble_eq_true rfl⟩) ⟨fun a U g mk q => ⟨q.1, trivial⟩, fun U hU hW => ⟨rfl, trivial⟩⟩ rfl rfl hl.1 rfl (lv_room (Nat.le_of_ble_eq_true rfl)) dX12_heap_23 ⟨Nat.le_of_ble_eq_true rfl, Nat.le_of_ble_eq_true rfl⟩).run (fun r_13 hw_14 => ?_)
      rcases hw_14 with ⟨rfl, h_15, h_16⟩ | ⟨rfl, h_17⟩
      · skip
        refine lv_if_ne (tgt := 32) hx hb dX12_heap_26 (by decide) (fun _ => ?_) (fun c_18 => absurd c_18 (by decide))
        refine lv_aload_n hx hb dX12_heap_32 rfl (lv_at hl 0 rfl) ?_
        refine lv_iload_n hx hb dX12_heap_33 rfl (lv_at hl 3 rfl) ?_
        have hPc := hP.sub (ws' := [(m0, .inr (14, [.int 0, .ref aS, .ref aI, .int 0, .int 0, .int 0, .int 0, .int 0, .int 0, .ref aB, .ref aT, .int 0, .int 0, .ref aG, .ref aO, .ref aN, .ref aD, .long 0, .ref aY, .int 0, .int 0, .int 0, .int 0])), (aS, .inl (cS, 901, .inl s0))]) [0, 1] rfl
        have hKc := hK.sub (tys' := [(cS, .int)]) [0] rfl
        refine vp_callSi (va_runV (As := [.int x]) (rest := []) ⟨hx, hb, hml, hown, hts⟩ (c_mHeapOn0 l dC dI m0 aS aI aB aT aG aO aN aD aY cS x) (cwV 1 hts gX12_heap_X12_heapOn rfl rfl rfl (by decide +kernel) ⟨Nat.le_of_ble_eq_true rfl, Nat.le_of_ble_eq_true rfl⟩) ⟨fun a U g mk q => by obtain ⟨q0, qP, qK⟩ := q; exact ⟨q0, qP, va_K.moved (u := U) (U := U.calling g mk a) (Vm.Alike.refl U.vm) qK⟩, va_recv hK hP (ci := 14) (q0 := 0) rfl rfl, fun U hU hW => ⟨rfl, by rw [hU]; exact hPc, va_K.moved hW.alike hKc⟩⟩ rfl rfl hl.1 rfl (lv_room (Nat.le_of_ble_eq_true rfl)) dX12_heap_34 ⟨Nat.le_of_ble_eq_true rfl, Nat.le_of_ble_eq_true rfl⟩).run (fun r_19 hw_20 => ?_)
        refine qi_as (y := (-1)) (hw_20) ?_
        refine lv_iconst (v := (-1)) hx hb dX12_heap_37 (by decide) ?_
        refine lv_icmp_eq (tgt := 44) hx hb dX12_heap_38 (by decide) (fun _ => ?_) (fun c_21 => absurd c_21 (by decide))
        refine lv_aload_n hx hb dX12_heap_44 rfl (lv_at hl 0 rfl) ?_
        refine va_get (D := (dC, dI)) (ci := 14) (v := .ref aS) (C := RX12) (T := TX12) (N := 23) hx hb hts kc_mHeap_0 hown hK hP 0 rfl rfl 1 (by decide) (hts (.fieldLink RX12 9 "MistHeapsModel" "s" "[I") kc_mHeap_1) (fun _ h9 => h9) rfl dX12_heap_45 ?_
        refine lv_iconst (v := 0) hx hb dX12_heap_48 (by decide) ?_
        refine va_iald hx hb hK hP 1 0 rfl rfl (vp_in_nI (n := 0) (N := 901) (by omega) (by omega)) dX12_heap_49 ?_
        refine qi_as (y := 0) (rfl) ?_
        refine lv_bipush (v := 8) hx hb dX12_heap_50 (by decide) ?_
        refine lv_icmp_ne (tgt := 58) hx hb dX12_heap_52 (by decide) (fun _ => ?_) (fun c_22 => absurd c_22 (by decide))
        refine lv_aload_n hx hb dX12_heap_58 rfl (lv_at hl 0 rfl) ?_
        refine lv_iload_n hx hb dX12_heap_59 rfl (lv_at hl 1 rfl) ?_
        refine lv_iload_n hx hb dX12_heap_60 rfl (lv_at hl 2 rfl) ?_
        refine lv_iload_n hx hb dX12_heap_61 rfl (lv_at hl 3 rfl) ?_
        have hPc := hP.sub (ws' := [(m0, .inr (14, [.int 0, .ref aS, .ref aI, .int 0, .int 0, .int 0, .int 0, .int 0, .int 0, .ref aB, .ref aT, .int 0, .int 0, .ref aG, .ref aO, .ref aN, .ref aD, .long 0, .ref aY, .int 0, .int 0, .int 0, .int 0])), (aS, .inl (cS, 901, .inl s0))]) [0, 1] rfl
        have hDc := hD.sub (ws' := [(m0, .inr (14, [.int 0, .ref aS, .ref aI, .int 0, .int 0, .int 0, .int 0, .int 0, .int 0, .ref aB, .ref aT, .int 0, .int 0, .ref aG, .ref aO, .ref aN, .ref aD, .long 0, .ref aY, .int 0, .int 0, .int 0, .int 0])), (aS, .inl (cS, 901, .inl s0))]) [0, 1] (by decide) rfl
        have hKc := hK.sub (tys' := [(cS, .int)]) [0] rfl
        have hFc := va_free (wc := [(m0, .inr (14, [.int 0, .ref aS, .ref aI, .int 0, .int 0, .int 0, .int 0, .int 0, .int 0, .ref aB, .ref aT, .int 0, .int 0, .ref aG, .ref aO, .ref aN, .ref aD, .long 0, .ref aY, .int 0, .int 0, .int 0, .int 0])), (aS, .inl (cS, 901, .inl s0))]) hD hS hA [0, 1] rfl
        refine va_calli (va_runV (As := [.int k, .int v, .int x]) (rest := []) ⟨hx, hb, hml, hown, hts⟩ (c_mPuts0 l dC dI m0 aS aI aB aT aG aO aN aD aY cS k v x H.size) (cwV 3 hts gX12_heap_X12_puts rfl rfl rfl (by decide +kernel) ⟨Nat.le_of_ble_eq_true rfl, Nat.le_of_ble_eq_true rfl⟩) ⟨fun a U g mk q => by obtain ⟨q0, q1, qP, qK, qD⟩ := q; exact ⟨q0, q1, qP, va_K.moved (u := U) (U := U.calling g mk a) (Vm.Alike.refl U.vm) qK, qD⟩, va_recv hK hP (ci := 14) (q0 := 0) rfl rfl, fun U hU hW => ⟨rfl, by rw [hU], by rw [hU]; exact hPc, va_K.moved hW.alike hKc, hDc.weaken (fun _ _ _ _ => trivial)⟩⟩ rfl rfl hl.1 rfl (lv_room (Nat.le_of_ble_eq_true rfl)) dX12_heap_62 ⟨Nat.le_of_ble_eq_true rfl, Nat.le_of_ble_eq_true rfl⟩) hS (fun q _ h => hFc q h) hFc (fun r_23 u t H1 locs ht hvm hw_24 hB hz1 hk1 hS => ?_)
        obtain ⟨⟩ := u
        try dsimp only at hw_24 hB
        obtain ⟨hP, hD⟩ := va_join (wr := []) (w1 := []) hP hD [0, 1] [] rfl rfl (by decide) (by decide) hk1 hFc (fun k q h => by simp at h) ⟨fun i j p q h => by simp at h, fun k q h => by simp at h⟩
        have hK := hK.sub (tys' := []) [] rfl
        generalize H1 = H at hP hS ⊢
        have hP : va_P (dC, dI) vwCl [] H := hP
        have hD : va_D A [] := hD
        have hK : va_K (dC, dI) vwCl [] s := hK
        refine qi_as (y := 0) (hw_24) ?_
        rw [hQ]
        exact W.iret (v := 0) hx hb hr (fun t ht hW => ⟨⟨0, (), rfl, by simp only [f_heap]; (repeat' split) <;> simp_all, trivial⟩, hS.F ht⟩) hS.2.2 dX12_heap_65
      · skip
        refine lv_if_ne (tgt := 32) hx hb dX12_heap_26 (by decide) (fun c_25 => absurd c_25 (by decide)) (fun _ => ?_)
        refine lv_bipush (v := (-2)) hx hb dX12_heap_29 (by decide) ?_
        rw [hQ]
        exact W.iret (v := (-2)) hx hb hr (fun t ht hW => ⟨⟨(-2), (), rfl, by simp only [f_heap]; (repeat' split) <;> simp_all, trivial⟩, hS.F ht⟩) hS.2.2 dX12_heap_31
    · skip
      refine lv_if_ne (tgt := 19) hx hb dX12_heap_14 (by decide) (fun c_26 => absurd c_26 (by decide)) (fun _ => ?_)
      refine lv_iconst (v := (-1)) hx hb dX12_heap_17 (by decide) ?_
      rw [hQ]
      exact W.iret (v := (-1)) hx hb hr (fun t ht hW => ⟨⟨(-1), (), rfl, by simp only [f_heap]; (repeat' split) <;> simp_all, trivial⟩, hS.F ht⟩) hS.2.2 dX12_heap_18
  · skip
    refine lv_if_eq (tgt := 17) hx hb dX12_heap_7 (by decide) (fun _ => ?_) (fun c_27 => absurd c_27 (by decide))
    refine lv_iconst (v := (-1)) hx hb dX12_heap_17 (by decide) ?_
    rw [hQ]
    exact W.iret (v := (-1)) hx hb hr (fun t ht hW => ⟨⟨(-1), (), rfl, by simp only [f_heap]; (repeat' split) <;> simp_all, trivial⟩, hS.F ht⟩) hS.2.2 dX12_heap_18

set_option maxHeartbeats 4000000 in
set_option maxRecDepth 100000 in
theorem c_mOf (l : Launch) (dC : Nat → ClassId) (dI : Nat → Nat → Nat) (m0 aS aI aB aT aG aO aN aD aY : Nat) (cS : ClassId) (x y : Int32) : Met l yX12_of wsX12_of ({ frames := 2, cells := 0, slots := 0, locals := 43 } : Room) (va_Pc [.ref m0, .int x, .int y] (fun U => va_P (dC, dI) vwCl [(m0, .inr (14, [.int 0, .ref aS, .ref aI, .int 0, .int 0, .int 0, .int 0, .int 0, .int 0, .ref aB, .ref aT, .int 0, .int 0, .ref aG, .ref aO, .ref aN, .ref aD, .long 0, .ref aY, .int 0, .int 0, .int 0, .int 0])), (aS, .inl (cS, 901, .inl s0))] U.heap ∧ va_K (dC, dI) vwCl [(cS, .int)] U)) (vp_Si (fun r => r = -1)) 0 0 (fun _ => False) := by
  refine met_ofQ (cc := cX12_of) (maxL := 3) (ret := (some .int)) (by decide) rfl ?_
  intro p e s m args below meth c s₁ Q B hml hv hQ
  obtain ⟨rfl, hP, hK⟩ := hv
  have hx := B.exec
  have hb := B.bytes
  have hr := B.returns
  have hts := atoms_spec (ws := wsX12_of) B.pre
  have hown : s.vm.findClass RX12 = some m.cls := findClass_of_methodNamed B.named
  have hlocks := B.notSynchronized
  obtain ⟨A, hAe⟩ : ∃ A : Nat → Prop, A = fun _ => False := ⟨_, rfl⟩
  rw [← hAe] at hQ
  have hS : va_S A s.heap s.heap [] := va_S.rf
  have hl := lv_entry [.ref m0, .int x, .int y] (n := 3) (Nat.le_of_ble_eq_true rfl)
  rw [lg_entry_eq]
  generalize (lg_sl [.ref m0, .int x, .int y] ++ List.replicate (3 - (lg_sl [.ref m0, .int x, .int y]).length) Slot.unset).toArray = ls at hl ⊢
  generalize hag : ([.ref m0, .int x, .int y] : List Value).toArray = args at hts hQ ⊢
  have hl : lv_has ls 3 [(0, .ref m0), (1, .int x), (2, .int y)] := hl
  refine lv_aload_n hx hb dX12_of_0 rfl (lv_at hl 0 rfl) ?_
  refine lv_iload_n hx hb dX12_of_1 rfl (lv_at hl 1 rfl) ?_
  have hPc := hP.sub (ws' := [(m0, .inr (14, [.int 0, .ref aS, .ref aI, .int 0, .int 0, .int 0, .int 0, .int 0, .int 0, .ref aB, .ref aT, .int 0, .int 0, .ref aG, .ref aO, .ref aN, .ref aD, .long 0, .ref aY, .int 0, .int 0, .int 0, .int 0])), (aS, .inl (cS, 901, .inl s0))]) [0, 1] rfl
  have hKc := hK.sub (tys' := [(cS, .int)]) [0] rfl
  refine vp_callSi (va_runV (As := [.int x]) (rest := []) ⟨hx, hb, hml, hown, hts⟩ (c_mHeap0 l dC dI m0 aS aI aB aT aG aO aN aD aY cS x) (cwV 1 hts gX12_of_X12_isHeap rfl rfl rfl (by decide +kernel) ⟨Nat.le_of_ble_eq_true rfl, Nat.le_of_ble_eq_true rfl⟩) ⟨fun a U g mk q => by obtain ⟨q0, qP, qK⟩ := q; exact ⟨q0, qP, va_K.moved (u := U) (U := U.calling g mk a) (Vm.Alike.refl U.vm) qK⟩, va_recv hK hP (ci := 14) (q0 := 0) rfl rfl, fun U hU hW => ⟨rfl, by rw [hU]; exact hPc, va_K.moved hW.alike hKc⟩⟩ rfl rfl hl.1 rfl (lv_room (Nat.le_of_ble_eq_true rfl)) dX12_of_2 ⟨Nat.le_of_ble_eq_true rfl, Nat.le_of_ble_eq_true rfl⟩).run (fun r_1 hw_2 => ?_)
  refine qi_as (y := 0) (hw_2) ?_
  refine lv_if_eq (tgt := 17) hx hb dX12_of_5 (by decide) (fun _ => ?_) (fun c_3 => absurd c_3 (by decide))
  refine lv_iconst (v := (-1)) hx hb dX12_of_17 (by decide) ?_
  rw [hQ]
  exact W.iret (v := (-1)) hx hb hr (fun t ht hW => ⟨(-1), rfl, rfl, by rw [ht]⟩) (fun q hq => absurd hq List.not_mem_nil) dX12_of_18

set_option maxHeartbeats 4000000 in
set_option maxRecDepth 100000 in
theorem c_mSteps (l : Launch) (dC : Nat → ClassId) (dI : Nat → Nat → Nat) (m0 aS aI aB aT aG aO aN aD aY : Nat) (cS : ClassId) (x y : Int32) : Met l yX12_steps wsX12_steps ({ frames := 2, cells := 0, slots := 0, locals := 43 } : Room) (va_Pc [.ref m0, .int x, .int y] (fun U => va_P (dC, dI) vwCl [(m0, .inr (14, [.int 0, .ref aS, .ref aI, .int 0, .int 0, .int 0, .int 0, .int 0, .int 0, .ref aB, .ref aT, .int 0, .int 0, .ref aG, .ref aO, .ref aN, .ref aD, .long 0, .ref aY, .int 0, .int 0, .int 0, .int 0])), (aS, .inl (cS, 901, .inl s0))] U.heap ∧ va_K (dC, dI) vwCl [(cS, .int)] U)) (vp_Si (fun r => r = -1)) 0 0 (fun _ => False) := by
  refine met_ofQ (cc := cX12_steps) (maxL := 3) (ret := (some .int)) (by decide) rfl ?_
  intro p e s m args below meth c s₁ Q B hml hv hQ
  obtain ⟨rfl, hP, hK⟩ := hv
  have hx := B.exec
  have hb := B.bytes
  have hr := B.returns
  have hts := atoms_spec (ws := wsX12_steps) B.pre
  have hown : s.vm.findClass RX12 = some m.cls := findClass_of_methodNamed B.named
  have hlocks := B.notSynchronized
  obtain ⟨A, hAe⟩ : ∃ A : Nat → Prop, A = fun _ => False := ⟨_, rfl⟩
  rw [← hAe] at hQ
  have hS : va_S A s.heap s.heap [] := va_S.rf
  have hl := lv_entry [.ref m0, .int x, .int y] (n := 3) (Nat.le_of_ble_eq_true rfl)
  rw [lg_entry_eq]
  generalize (lg_sl [.ref m0, .int x, .int y] ++ List.replicate (3 - (lg_sl [.ref m0, .int x, .int y]).length) Slot.unset).toArray = ls at hl ⊢
  generalize hag : ([.ref m0, .int x, .int y] : List Value).toArray = args at hts hQ ⊢
  have hl : lv_has ls 3 [(0, .ref m0), (1, .int x), (2, .int y)] := hl
  refine lv_aload_n hx hb dX12_steps_0 rfl (lv_at hl 0 rfl) ?_
  refine lv_iload_n hx hb dX12_steps_1 rfl (lv_at hl 1 rfl) ?_
  have hPc := hP.sub (ws' := [(m0, .inr (14, [.int 0, .ref aS, .ref aI, .int 0, .int 0, .int 0, .int 0, .int 0, .int 0, .ref aB, .ref aT, .int 0, .int 0, .ref aG, .ref aO, .ref aN, .ref aD, .long 0, .ref aY, .int 0, .int 0, .int 0, .int 0])), (aS, .inl (cS, 901, .inl s0))]) [0, 1] rfl
  have hKc := hK.sub (tys' := [(cS, .int)]) [0] rfl
  refine vp_callSi (va_runV (As := [.int x]) (rest := []) ⟨hx, hb, hml, hown, hts⟩ (c_mHeap0 l dC dI m0 aS aI aB aT aG aO aN aD aY cS x) (cwV 1 hts gX12_steps_X12_isHeap rfl rfl rfl (by decide +kernel) ⟨Nat.le_of_ble_eq_true rfl, Nat.le_of_ble_eq_true rfl⟩) ⟨fun a U g mk q => by obtain ⟨q0, qP, qK⟩ := q; exact ⟨q0, qP, va_K.moved (u := U) (U := U.calling g mk a) (Vm.Alike.refl U.vm) qK⟩, va_recv hK hP (ci := 14) (q0 := 0) rfl rfl, fun U hU hW => ⟨rfl, by rw [hU]; exact hPc, va_K.moved hW.alike hKc⟩⟩ rfl rfl hl.1 rfl (lv_room (Nat.le_of_ble_eq_true rfl)) dX12_steps_2 ⟨Nat.le_of_ble_eq_true rfl, Nat.le_of_ble_eq_true rfl⟩).run (fun r_1 hw_2 => ?_)
  refine qi_as (y := 0) (hw_2) ?_
  refine lv_if_eq (tgt := 25) hx hb dX12_steps_5 (by decide) (fun _ => ?_) (fun c_3 => absurd c_3 (by decide))
  refine lv_iconst (v := (-1)) hx hb dX12_steps_25 (by decide) ?_
  rw [hQ]
  exact W.iret (v := (-1)) hx hb hr (fun t ht hW => ⟨(-1), rfl, rfl, by rw [ht]⟩) (fun q hq => absurd hq List.not_mem_nil) dX12_steps_26

set_option maxHeartbeats 4000000 in
set_option maxRecDepth 100000 in
theorem c_mVia (l : Launch) (dC : Nat → ClassId) (dI : Nat → Nat → Nat) (m0 aS aI aB aT aG aO aN aD aY : Nat) (cS : ClassId) (x y : Int32) : Met l yX12_via wsX12_via ({ frames := 2, cells := 0, slots := 0, locals := 43 } : Room) (va_Pc [.ref m0, .int x, .int y] (fun U => va_P (dC, dI) vwCl [(m0, .inr (14, [.int 0, .ref aS, .ref aI, .int 0, .int 0, .int 0, .int 0, .int 0, .int 0, .ref aB, .ref aT, .int 0, .int 0, .ref aG, .ref aO, .ref aN, .ref aD, .long 0, .ref aY, .int 0, .int 0, .int 0, .int 0])), (aS, .inl (cS, 901, .inl s0))] U.heap ∧ va_K (dC, dI) vwCl [(cS, .int)] U)) (vp_Si (fun r => r = -1)) 0 0 (fun _ => False) := by
  refine met_ofQ (cc := cX12_via) (maxL := 5) (ret := (some .int)) (by decide) rfl ?_
  intro p e s m args below meth c s₁ Q B hml hv hQ
  obtain ⟨rfl, hP, hK⟩ := hv
  have hx := B.exec
  have hb := B.bytes
  have hr := B.returns
  have hts := atoms_spec (ws := wsX12_via) B.pre
  have hown : s.vm.findClass RX12 = some m.cls := findClass_of_methodNamed B.named
  have hlocks := B.notSynchronized
  obtain ⟨A, hAe⟩ : ∃ A : Nat → Prop, A = fun _ => False := ⟨_, rfl⟩
  rw [← hAe] at hQ
  have hS : va_S A s.heap s.heap [] := va_S.rf
  have hl := lv_entry [.ref m0, .int x, .int y] (n := 5) (Nat.le_of_ble_eq_true rfl)
  rw [lg_entry_eq]
  generalize (lg_sl [.ref m0, .int x, .int y] ++ List.replicate (5 - (lg_sl [.ref m0, .int x, .int y]).length) Slot.unset).toArray = ls at hl ⊢
  generalize hag : ([.ref m0, .int x, .int y] : List Value).toArray = args at hts hQ ⊢
  have hl : lv_has ls 5 [(0, .ref m0), (1, .int x), (2, .int y)] := hl
  refine lv_aload_n hx hb dX12_via_0 rfl (lv_at hl 0 rfl) ?_
  refine lv_iload_n hx hb dX12_via_1 rfl (lv_at hl 1 rfl) ?_
  have hPc := hP.sub (ws' := [(m0, .inr (14, [.int 0, .ref aS, .ref aI, .int 0, .int 0, .int 0, .int 0, .int 0, .int 0, .ref aB, .ref aT, .int 0, .int 0, .ref aG, .ref aO, .ref aN, .ref aD, .long 0, .ref aY, .int 0, .int 0, .int 0, .int 0])), (aS, .inl (cS, 901, .inl s0))]) [0, 1] rfl
  have hKc := hK.sub (tys' := [(cS, .int)]) [0] rfl
  refine vp_callSi (va_runV (As := [.int x]) (rest := []) ⟨hx, hb, hml, hown, hts⟩ (c_mHeap0 l dC dI m0 aS aI aB aT aG aO aN aD aY cS x) (cwV 1 hts gX12_via_X12_isHeap rfl rfl rfl (by decide +kernel) ⟨Nat.le_of_ble_eq_true rfl, Nat.le_of_ble_eq_true rfl⟩) ⟨fun a U g mk q => by obtain ⟨q0, qP, qK⟩ := q; exact ⟨q0, qP, va_K.moved (u := U) (U := U.calling g mk a) (Vm.Alike.refl U.vm) qK⟩, va_recv hK hP (ci := 14) (q0 := 0) rfl rfl, fun U hU hW => ⟨rfl, by rw [hU]; exact hPc, va_K.moved hW.alike hKc⟩⟩ rfl rfl hl.1 rfl (lv_room (Nat.le_of_ble_eq_true rfl)) dX12_via_2 ⟨Nat.le_of_ble_eq_true rfl, Nat.le_of_ble_eq_true rfl⟩).run (fun r_1 hw_2 => ?_)
  refine qi_as (y := 0) (hw_2) ?_
  refine lv_if_eq (tgt := 16) hx hb dX12_via_5 (by decide) (fun _ => ?_) (fun c_3 => absurd c_3 (by decide))
  refine lv_iconst (v := (-1)) hx hb dX12_via_16 (by decide) ?_
  rw [hQ]
  exact W.iret (v := (-1)) hx hb hr (fun t ht hW => ⟨(-1), rfl, rfl, by rw [ht]⟩) (fun q hq => absurd hq List.not_mem_nil) dX12_via_17

set_option maxHeartbeats 4000000 in
set_option maxRecDepth 100000 in
theorem c_mCuts (l : Launch) (dC : Nat → ClassId) (dI : Nat → Nat → Nat) (m0 aS aI aB aT aG aO aN aD aY : Nat) (cS : ClassId) (x y : Int32) : Met l yX12_cuts wsX12_cuts ({ frames := 2, cells := 0, slots := 0, locals := 43 } : Room) (va_Pc [.ref m0, .int x, .int y] (fun U => va_P (dC, dI) vwCl [(m0, .inr (14, [.int 0, .ref aS, .ref aI, .int 0, .int 0, .int 0, .int 0, .int 0, .int 0, .ref aB, .ref aT, .int 0, .int 0, .ref aG, .ref aO, .ref aN, .ref aD, .long 0, .ref aY, .int 0, .int 0, .int 0, .int 0])), (aS, .inl (cS, 901, .inl s0))] U.heap ∧ va_K (dC, dI) vwCl [(cS, .int)] U)) (vp_Si (fun r => r = -1)) 0 0 (fun _ => False) := by
  refine met_ofQ (cc := cX12_cuts) (maxL := 5) (ret := (some .int)) (by decide) rfl ?_
  intro p e s m args below meth c s₁ Q B hml hv hQ
  obtain ⟨rfl, hP, hK⟩ := hv
  have hx := B.exec
  have hb := B.bytes
  have hr := B.returns
  have hts := atoms_spec (ws := wsX12_cuts) B.pre
  have hown : s.vm.findClass RX12 = some m.cls := findClass_of_methodNamed B.named
  have hlocks := B.notSynchronized
  obtain ⟨A, hAe⟩ : ∃ A : Nat → Prop, A = fun _ => False := ⟨_, rfl⟩
  rw [← hAe] at hQ
  have hS : va_S A s.heap s.heap [] := va_S.rf
  have hl := lv_entry [.ref m0, .int x, .int y] (n := 5) (Nat.le_of_ble_eq_true rfl)
  rw [lg_entry_eq]
  generalize (lg_sl [.ref m0, .int x, .int y] ++ List.replicate (5 - (lg_sl [.ref m0, .int x, .int y]).length) Slot.unset).toArray = ls at hl ⊢
  generalize hag : ([.ref m0, .int x, .int y] : List Value).toArray = args at hts hQ ⊢
  have hl : lv_has ls 5 [(0, .ref m0), (1, .int x), (2, .int y)] := hl
  refine lv_aload_n hx hb dX12_cuts_0 rfl (lv_at hl 0 rfl) ?_
  refine lv_iload_n hx hb dX12_cuts_1 rfl (lv_at hl 1 rfl) ?_
  have hPc := hP.sub (ws' := [(m0, .inr (14, [.int 0, .ref aS, .ref aI, .int 0, .int 0, .int 0, .int 0, .int 0, .int 0, .ref aB, .ref aT, .int 0, .int 0, .ref aG, .ref aO, .ref aN, .ref aD, .long 0, .ref aY, .int 0, .int 0, .int 0, .int 0])), (aS, .inl (cS, 901, .inl s0))]) [0, 1] rfl
  have hKc := hK.sub (tys' := [(cS, .int)]) [0] rfl
  refine vp_callSi (va_runV (As := [.int x]) (rest := []) ⟨hx, hb, hml, hown, hts⟩ (c_mHeap0 l dC dI m0 aS aI aB aT aG aO aN aD aY cS x) (cwV 1 hts gX12_cuts_X12_isHeap rfl rfl rfl (by decide +kernel) ⟨Nat.le_of_ble_eq_true rfl, Nat.le_of_ble_eq_true rfl⟩) ⟨fun a U g mk q => by obtain ⟨q0, qP, qK⟩ := q; exact ⟨q0, qP, va_K.moved (u := U) (U := U.calling g mk a) (Vm.Alike.refl U.vm) qK⟩, va_recv hK hP (ci := 14) (q0 := 0) rfl rfl, fun U hU hW => ⟨rfl, by rw [hU]; exact hPc, va_K.moved hW.alike hKc⟩⟩ rfl rfl hl.1 rfl (lv_room (Nat.le_of_ble_eq_true rfl)) dX12_cuts_2 ⟨Nat.le_of_ble_eq_true rfl, Nat.le_of_ble_eq_true rfl⟩).run (fun r_1 hw_2 => ?_)
  refine qi_as (y := 0) (hw_2) ?_
  refine lv_if_eq (tgt := 16) hx hb dX12_cuts_5 (by decide) (fun _ => ?_) (fun c_3 => absurd c_3 (by decide))
  refine lv_iconst (v := (-1)) hx hb dX12_cuts_16 (by decide) ?_
  rw [hQ]
  exact W.iret (v := (-1)) hx hb hr (fun t ht hW => ⟨(-1), rfl, rfl, by rw [ht]⟩) (fun q hq => absurd hq List.not_mem_nil) dX12_cuts_17

set_option maxHeartbeats 4000000 in
set_option maxRecDepth 100000 in
theorem c_mBears (l : Launch) (dC : Nat → ClassId) (dI : Nat → Nat → Nat) (m0 aS aI aB aT aG aO aN aD aY : Nat) (cS : ClassId) (x y : Int32) : Met l yX12_bears wsX12_bears ({ frames := 2, cells := 0, slots := 0, locals := 43 } : Room) (va_Pc [.ref m0, .int x, .int y] (fun U => va_P (dC, dI) vwCl [(m0, .inr (14, [.int 0, .ref aS, .ref aI, .int 0, .int 0, .int 0, .int 0, .int 0, .int 0, .ref aB, .ref aT, .int 0, .int 0, .ref aG, .ref aO, .ref aN, .ref aD, .long 0, .ref aY, .int 0, .int 0, .int 0, .int 0])), (aS, .inl (cS, 901, .inl s0))] U.heap ∧ va_K (dC, dI) vwCl [(cS, .int)] U)) (vp_Si (fun r => r = -1)) 0 0 (fun _ => False) := by
  refine met_ofQ (cc := cX12_bears) (maxL := 6) (ret := (some .int)) (by decide) rfl ?_
  intro p e s m args below meth c s₁ Q B hml hv hQ
  obtain ⟨rfl, hP, hK⟩ := hv
  have hx := B.exec
  have hb := B.bytes
  have hr := B.returns
  have hts := atoms_spec (ws := wsX12_bears) B.pre
  have hown : s.vm.findClass RX12 = some m.cls := findClass_of_methodNamed B.named
  have hlocks := B.notSynchronized
  obtain ⟨A, hAe⟩ : ∃ A : Nat → Prop, A = fun _ => False := ⟨_, rfl⟩
  rw [← hAe] at hQ
  have hS : va_S A s.heap s.heap [] := va_S.rf
  have hl := lv_entry [.ref m0, .int x, .int y] (n := 6) (Nat.le_of_ble_eq_true rfl)
  rw [lg_entry_eq]
  generalize (lg_sl [.ref m0, .int x, .int y] ++ List.replicate (6 - (lg_sl [.ref m0, .int x, .int y]).length) Slot.unset).toArray = ls at hl ⊢
  generalize hag : ([.ref m0, .int x, .int y] : List Value).toArray = args at hts hQ ⊢
  have hl : lv_has ls 6 [(0, .ref m0), (1, .int x), (2, .int y)] := hl
  refine lv_aload_n hx hb dX12_bears_0 rfl (lv_at hl 0 rfl) ?_
  refine lv_iload_n hx hb dX12_bears_1 rfl (lv_at hl 1 rfl) ?_
  have hPc := hP.sub (ws' := [(m0, .inr (14, [.int 0, .ref aS, .ref aI, .int 0, .int 0, .int 0, .int 0, .int 0, .int 0, .ref aB, .ref aT, .int 0, .int 0, .ref aG, .ref aO, .ref aN, .ref aD, .long 0, .ref aY, .int 0, .int 0, .int 0, .int 0])), (aS, .inl (cS, 901, .inl s0))]) [0, 1] rfl
  have hKc := hK.sub (tys' := [(cS, .int)]) [0] rfl
  refine vp_callSi (va_runV (As := [.int x]) (rest := []) ⟨hx, hb, hml, hown, hts⟩ (c_mHeap0 l dC dI m0 aS aI aB aT aG aO aN aD aY cS x) (cwV 1 hts gX12_bears_X12_isHeap rfl rfl rfl (by decide +kernel) ⟨Nat.le_of_ble_eq_true rfl, Nat.le_of_ble_eq_true rfl⟩) ⟨fun a U g mk q => by obtain ⟨q0, qP, qK⟩ := q; exact ⟨q0, qP, va_K.moved (u := U) (U := U.calling g mk a) (Vm.Alike.refl U.vm) qK⟩, va_recv hK hP (ci := 14) (q0 := 0) rfl rfl, fun U hU hW => ⟨rfl, by rw [hU]; exact hPc, va_K.moved hW.alike hKc⟩⟩ rfl rfl hl.1 rfl (lv_room (Nat.le_of_ble_eq_true rfl)) dX12_bears_2 ⟨Nat.le_of_ble_eq_true rfl, Nat.le_of_ble_eq_true rfl⟩).run (fun r_1 hw_2 => ?_)
  refine qi_as (y := 0) (hw_2) ?_
  refine lv_if_eq (tgt := 16) hx hb dX12_bears_5 (by decide) (fun _ => ?_) (fun c_3 => absurd c_3 (by decide))
  refine lv_iconst (v := (-1)) hx hb dX12_bears_16 (by decide) ?_
  rw [hQ]
  exact W.iret (v := (-1)) hx hb hr (fun t ht hW => ⟨(-1), rfl, rfl, by rw [ht]⟩) (fun q hq => absurd hq List.not_mem_nil) dX12_bears_17

set_option maxHeartbeats 4000000 in
set_option maxRecDepth 100000 in
theorem c_mBuild (l : Launch) (dC : Nat → ClassId) (dI : Nat → Nat → Nat) (m0 aS aI aB aT aG aO aN aD aY : Nat) (cS : ClassId) (x y z : Int32) : Met l yX12_build wsX12_build ({ frames := 2, cells := 0, slots := 0, locals := 43 } : Room) (va_Pc [.ref m0, .int x, .int y, .int z] (fun U => va_P (dC, dI) vwCl [(m0, .inr (14, [.int 0, .ref aS, .ref aI, .int 0, .int 0, .int 0, .int 0, .int 0, .int 0, .ref aB, .ref aT, .int 0, .int 0, .ref aG, .ref aO, .ref aN, .ref aD, .long 0, .ref aY, .int 0, .int 0, .int 0, .int 0])), (aS, .inl (cS, 901, .inl s0))] U.heap ∧ va_K (dC, dI) vwCl [(cS, .int)] U)) (vp_Si (fun r => r = -1)) 0 0 (fun _ => False) := by
  refine met_ofQ (cc := cX12_build) (maxL := 9) (ret := (some .int)) (by decide) rfl ?_
  intro p e s m args below meth c s₁ Q B hml hv hQ
  obtain ⟨rfl, hP, hK⟩ := hv
  have hx := B.exec
  have hb := B.bytes
  have hr := B.returns
  have hts := atoms_spec (ws := wsX12_build) B.pre
  have hown : s.vm.findClass RX12 = some m.cls := findClass_of_methodNamed B.named
  have hlocks := B.notSynchronized
  obtain ⟨A, hAe⟩ : ∃ A : Nat → Prop, A = fun _ => False := ⟨_, rfl⟩
  rw [← hAe] at hQ
  have hS : va_S A s.heap s.heap [] := va_S.rf
  have hl := lv_entry [.ref m0, .int x, .int y, .int z] (n := 9) (Nat.le_of_ble_eq_true rfl)
  rw [lg_entry_eq]
  generalize (lg_sl [.ref m0, .int x, .int y, .int z] ++ List.replicate (9 - (lg_sl [.ref m0, .int x, .int y, .int z]).length) Slot.unset).toArray = ls at hl ⊢
  generalize hag : ([.ref m0, .int x, .int y, .int z] : List Value).toArray = args at hts hQ ⊢
  have hl : lv_has ls 9 [(0, .ref m0), (1, .int x), (2, .int y), (3, .int z)] := hl
  refine lv_aload_n hx hb dX12_build_0 rfl (lv_at hl 0 rfl) ?_
  refine lv_iload_n hx hb dX12_build_1 rfl (lv_at hl 1 rfl) ?_
  have hPc := hP.sub (ws' := [(m0, .inr (14, [.int 0, .ref aS, .ref aI, .int 0, .int 0, .int 0, .int 0, .int 0, .int 0, .ref aB, .ref aT, .int 0, .int 0, .ref aG, .ref aO, .ref aN, .ref aD, .long 0, .ref aY, .int 0, .int 0, .int 0, .int 0])), (aS, .inl (cS, 901, .inl s0))]) [0, 1] rfl
  have hKc := hK.sub (tys' := [(cS, .int)]) [0] rfl
  refine vp_callSi (va_runV (As := [.int x]) (rest := []) ⟨hx, hb, hml, hown, hts⟩ (c_mHeap0 l dC dI m0 aS aI aB aT aG aO aN aD aY cS x) (cwV 1 hts gX12_build_X12_isHeap rfl rfl rfl (by decide +kernel) ⟨Nat.le_of_ble_eq_true rfl, Nat.le_of_ble_eq_true rfl⟩) ⟨fun a U g mk q => by obtain ⟨q0, qP, qK⟩ := q; exact ⟨q0, qP, va_K.moved (u := U) (U := U.calling g mk a) (Vm.Alike.refl U.vm) qK⟩, va_recv hK hP (ci := 14) (q0 := 0) rfl rfl, fun U hU hW => ⟨rfl, by rw [hU]; exact hPc, va_K.moved hW.alike hKc⟩⟩ rfl rfl hl.1 rfl (lv_room (Nat.le_of_ble_eq_true rfl)) dX12_build_2 ⟨Nat.le_of_ble_eq_true rfl, Nat.le_of_ble_eq_true rfl⟩).run (fun r_1 hw_2 => ?_)
  refine qi_as (y := 0) (hw_2) ?_
  refine lv_if_eq (tgt := 25) hx hb dX12_build_5 (by decide) (fun _ => ?_) (fun c_3 => absurd c_3 (by decide))
  refine lv_iconst (v := (-1)) hx hb dX12_build_25 (by decide) ?_
  rw [hQ]
  exact W.iret (v := (-1)) hx hb hr (fun t ht hW => ⟨(-1), rfl, rfl, by rw [ht]⟩) (fun q hq => absurd hq List.not_mem_nil) dX12_build_26

set_option maxHeartbeats 4000000 in
set_option maxRecDepth 100000 in
theorem c_mLine (l : Launch) (dC : Nat → ClassId) (dI : Nat → Nat → Nat) (m0 aS aI aB aT aG aO aN aD aY : Nat) (cS : ClassId) (x y : Int32) : Met l yX12_line wsX12_line ({ frames := 2, cells := 0, slots := 0, locals := 43 } : Room) (va_Pc [.ref m0, .int x, .int y] (fun U => va_P (dC, dI) vwCl [(m0, .inr (14, [.int 0, .ref aS, .ref aI, .int 0, .int 0, .int 0, .int 0, .int 0, .int 0, .ref aB, .ref aT, .int 0, .int 0, .ref aG, .ref aO, .ref aN, .ref aD, .long 0, .ref aY, .int 0, .int 0, .int 0, .int 0])), (aS, .inl (cS, 901, .inl s0))] U.heap ∧ va_K (dC, dI) vwCl [(cS, .int)] U)) (vp_Si (fun r => r = -1)) 0 0 (fun _ => False) := by
  refine met_ofQ (cc := cX12_line) (maxL := 6) (ret := (some .int)) (by decide) rfl ?_
  intro p e s m args below meth c s₁ Q B hml hv hQ
  obtain ⟨rfl, hP, hK⟩ := hv
  have hx := B.exec
  have hb := B.bytes
  have hr := B.returns
  have hts := atoms_spec (ws := wsX12_line) B.pre
  have hown : s.vm.findClass RX12 = some m.cls := findClass_of_methodNamed B.named
  have hlocks := B.notSynchronized
  obtain ⟨A, hAe⟩ : ∃ A : Nat → Prop, A = fun _ => False := ⟨_, rfl⟩
  rw [← hAe] at hQ
  have hS : va_S A s.heap s.heap [] := va_S.rf
  have hl := lv_entry [.ref m0, .int x, .int y] (n := 6) (Nat.le_of_ble_eq_true rfl)
  rw [lg_entry_eq]
  generalize (lg_sl [.ref m0, .int x, .int y] ++ List.replicate (6 - (lg_sl [.ref m0, .int x, .int y]).length) Slot.unset).toArray = ls at hl ⊢
  generalize hag : ([.ref m0, .int x, .int y] : List Value).toArray = args at hts hQ ⊢
  have hl : lv_has ls 6 [(0, .ref m0), (1, .int x), (2, .int y)] := hl
  refine lv_aload_n hx hb dX12_line_0 rfl (lv_at hl 0 rfl) ?_
  refine lv_iload_n hx hb dX12_line_1 rfl (lv_at hl 1 rfl) ?_
  have hPc := hP.sub (ws' := [(m0, .inr (14, [.int 0, .ref aS, .ref aI, .int 0, .int 0, .int 0, .int 0, .int 0, .int 0, .ref aB, .ref aT, .int 0, .int 0, .ref aG, .ref aO, .ref aN, .ref aD, .long 0, .ref aY, .int 0, .int 0, .int 0, .int 0])), (aS, .inl (cS, 901, .inl s0))]) [0, 1] rfl
  have hKc := hK.sub (tys' := [(cS, .int)]) [0] rfl
  refine vp_callSi (va_runV (As := [.int x]) (rest := []) ⟨hx, hb, hml, hown, hts⟩ (c_mHeap0 l dC dI m0 aS aI aB aT aG aO aN aD aY cS x) (cwV 1 hts gX12_line_X12_isHeap rfl rfl rfl (by decide +kernel) ⟨Nat.le_of_ble_eq_true rfl, Nat.le_of_ble_eq_true rfl⟩) ⟨fun a U g mk q => by obtain ⟨q0, qP, qK⟩ := q; exact ⟨q0, qP, va_K.moved (u := U) (U := U.calling g mk a) (Vm.Alike.refl U.vm) qK⟩, va_recv hK hP (ci := 14) (q0 := 0) rfl rfl, fun U hU hW => ⟨rfl, by rw [hU]; exact hPc, va_K.moved hW.alike hKc⟩⟩ rfl rfl hl.1 rfl (lv_room (Nat.le_of_ble_eq_true rfl)) dX12_line_2 ⟨Nat.le_of_ble_eq_true rfl, Nat.le_of_ble_eq_true rfl⟩).run (fun r_1 hw_2 => ?_)
  refine qi_as (y := 0) (hw_2) ?_
  refine lv_if_ne (tgt := 10) hx hb dX12_line_5 (by decide) (fun c_3 => absurd c_3 (by decide)) (fun _ => ?_)
  refine lv_iconst (v := (-1)) hx hb dX12_line_8 (by decide) ?_
  rw [hQ]
  exact W.iret (v := (-1)) hx hb hr (fun t ht hW => ⟨(-1), rfl, rfl, by rw [ht]⟩) (fun q hq => absurd hq List.not_mem_nil) dX12_line_9

set_option maxHeartbeats 4000000 in
set_option maxRecDepth 100000 in
theorem c_mNext (l : Launch) (dC : Nat → ClassId) (dI : Nat → Nat → Nat) (m0 aS aI aB aT aG aO aN aD aY : Nat) (cS : ClassId) (x y z : Int32) : Met l yX12_next wsX12_next ({ frames := 2, cells := 0, slots := 0, locals := 43 } : Room) (va_Pc [.ref m0, .int x, .int y, .int z] (fun U => va_P (dC, dI) vwCl [(m0, .inr (14, [.int 0, .ref aS, .ref aI, .int 0, .int 0, .int 0, .int 0, .int 0, .int 0, .ref aB, .ref aT, .int 0, .int 0, .ref aG, .ref aO, .ref aN, .ref aD, .long 0, .ref aY, .int 0, .int 0, .int 0, .int 0])), (aS, .inl (cS, 901, .inl s0))] U.heap ∧ va_K (dC, dI) vwCl [(cS, .int)] U)) (vp_Si (fun r => r = -1)) 0 0 (fun _ => False) := by
  refine met_ofQ (cc := cX12_next) (maxL := 9) (ret := (some .int)) (by decide) rfl ?_
  intro p e s m args below meth c s₁ Q B hml hv hQ
  obtain ⟨rfl, hP, hK⟩ := hv
  have hx := B.exec
  have hb := B.bytes
  have hr := B.returns
  have hts := atoms_spec (ws := wsX12_next) B.pre
  have hown : s.vm.findClass RX12 = some m.cls := findClass_of_methodNamed B.named
  have hlocks := B.notSynchronized
  obtain ⟨A, hAe⟩ : ∃ A : Nat → Prop, A = fun _ => False := ⟨_, rfl⟩
  rw [← hAe] at hQ
  have hS : va_S A s.heap s.heap [] := va_S.rf
  have hl := lv_entry [.ref m0, .int x, .int y, .int z] (n := 9) (Nat.le_of_ble_eq_true rfl)
  rw [lg_entry_eq]
  generalize (lg_sl [.ref m0, .int x, .int y, .int z] ++ List.replicate (9 - (lg_sl [.ref m0, .int x, .int y, .int z]).length) Slot.unset).toArray = ls at hl ⊢
  generalize hag : ([.ref m0, .int x, .int y, .int z] : List Value).toArray = args at hts hQ ⊢
  have hl : lv_has ls 9 [(0, .ref m0), (1, .int x), (2, .int y), (3, .int z)] := hl
  refine lv_aload_n hx hb dX12_next_0 rfl (lv_at hl 0 rfl) ?_
  refine lv_iload_n hx hb dX12_next_1 rfl (lv_at hl 1 rfl) ?_
  have hPc := hP.sub (ws' := [(m0, .inr (14, [.int 0, .ref aS, .ref aI, .int 0, .int 0, .int 0, .int 0, .int 0, .int 0, .ref aB, .ref aT, .int 0, .int 0, .ref aG, .ref aO, .ref aN, .ref aD, .long 0, .ref aY, .int 0, .int 0, .int 0, .int 0])), (aS, .inl (cS, 901, .inl s0))]) [0, 1] rfl
  have hKc := hK.sub (tys' := [(cS, .int)]) [0] rfl
  refine vp_callSi (va_runV (As := [.int x]) (rest := []) ⟨hx, hb, hml, hown, hts⟩ (c_mHeap0 l dC dI m0 aS aI aB aT aG aO aN aD aY cS x) (cwV 1 hts gX12_next_X12_isHeap rfl rfl rfl (by decide +kernel) ⟨Nat.le_of_ble_eq_true rfl, Nat.le_of_ble_eq_true rfl⟩) ⟨fun a U g mk q => by obtain ⟨q0, qP, qK⟩ := q; exact ⟨q0, qP, va_K.moved (u := U) (U := U.calling g mk a) (Vm.Alike.refl U.vm) qK⟩, va_recv hK hP (ci := 14) (q0 := 0) rfl rfl, fun U hU hW => ⟨rfl, by rw [hU]; exact hPc, va_K.moved hW.alike hKc⟩⟩ rfl rfl hl.1 rfl (lv_room (Nat.le_of_ble_eq_true rfl)) dX12_next_2 ⟨Nat.le_of_ble_eq_true rfl, Nat.le_of_ble_eq_true rfl⟩).run (fun r_1 hw_2 => ?_)
  refine qi_as (y := 0) (hw_2) ?_
  refine lv_if_eq (tgt := 24) hx hb dX12_next_5 (by decide) (fun _ => ?_) (fun c_3 => absurd c_3 (by decide))
  refine lv_iconst (v := (-1)) hx hb dX12_next_24 (by decide) ?_
  rw [hQ]
  exact W.iret (v := (-1)) hx hb hr (fun t ht hW => ⟨(-1), rfl, rfl, by rw [ht]⟩) (fun q hq => absurd hq List.not_mem_nil) dX12_next_25

set_option maxHeartbeats 4000000 in
set_option maxRecDepth 100000 in
theorem c_mAs (l : Launch) (dC : Nat → ClassId) (dI : Nat → Nat → Nat) (m0 aS aI aB aT aG aO aN aD aY : Nat) (cS : ClassId) (x y : Int32) : Met l yX12_as wsX12_as ({ frames := 2, cells := 0, slots := 0, locals := 43 } : Room) (va_Pc [.ref m0, .int x, .int y] (fun U => va_P (dC, dI) vwCl [(m0, .inr (14, [.int 0, .ref aS, .ref aI, .int 0, .int 0, .int 0, .int 0, .int 0, .int 0, .ref aB, .ref aT, .int 0, .int 0, .ref aG, .ref aO, .ref aN, .ref aD, .long 0, .ref aY, .int 0, .int 0, .int 0, .int 0])), (aS, .inl (cS, 901, .inl s0))] U.heap ∧ va_K (dC, dI) vwCl [(cS, .int)] U)) (vp_Si (fun r => r = -1)) 0 0 (fun _ => False) := by
  refine met_ofQ (cc := cX12_as) (maxL := 3) (ret := (some .int)) (by decide) rfl ?_
  intro p e s m args below meth c s₁ Q B hml hv hQ
  obtain ⟨rfl, hP, hK⟩ := hv
  have hx := B.exec
  have hb := B.bytes
  have hr := B.returns
  have hts := atoms_spec (ws := wsX12_as) B.pre
  have hown : s.vm.findClass RX12 = some m.cls := findClass_of_methodNamed B.named
  have hlocks := B.notSynchronized
  obtain ⟨A, hAe⟩ : ∃ A : Nat → Prop, A = fun _ => False := ⟨_, rfl⟩
  rw [← hAe] at hQ
  have hS : va_S A s.heap s.heap [] := va_S.rf
  have hl := lv_entry [.ref m0, .int x, .int y] (n := 3) (Nat.le_of_ble_eq_true rfl)
  rw [lg_entry_eq]
  generalize (lg_sl [.ref m0, .int x, .int y] ++ List.replicate (3 - (lg_sl [.ref m0, .int x, .int y]).length) Slot.unset).toArray = ls at hl ⊢
  generalize hag : ([.ref m0, .int x, .int y] : List Value).toArray = args at hts hQ ⊢
  have hl : lv_has ls 3 [(0, .ref m0), (1, .int x), (2, .int y)] := hl
  refine lv_aload_n hx hb dX12_as_0 rfl (lv_at hl 0 rfl) ?_
  refine lv_iload_n hx hb dX12_as_1 rfl (lv_at hl 1 rfl) ?_
  have hPc := hP.sub (ws' := [(m0, .inr (14, [.int 0, .ref aS, .ref aI, .int 0, .int 0, .int 0, .int 0, .int 0, .int 0, .ref aB, .ref aT, .int 0, .int 0, .ref aG, .ref aO, .ref aN, .ref aD, .long 0, .ref aY, .int 0, .int 0, .int 0, .int 0])), (aS, .inl (cS, 901, .inl s0))]) [0, 1] rfl
  have hKc := hK.sub (tys' := [(cS, .int)]) [0] rfl
  refine vp_callSi (va_runV (As := [.int x]) (rest := []) ⟨hx, hb, hml, hown, hts⟩ (c_mHeap0 l dC dI m0 aS aI aB aT aG aO aN aD aY cS x) (cwV 1 hts gX12_as_X12_isHeap rfl rfl rfl (by decide +kernel) ⟨Nat.le_of_ble_eq_true rfl, Nat.le_of_ble_eq_true rfl⟩) ⟨fun a U g mk q => by obtain ⟨q0, qP, qK⟩ := q; exact ⟨q0, qP, va_K.moved (u := U) (U := U.calling g mk a) (Vm.Alike.refl U.vm) qK⟩, va_recv hK hP (ci := 14) (q0 := 0) rfl rfl, fun U hU hW => ⟨rfl, by rw [hU]; exact hPc, va_K.moved hW.alike hKc⟩⟩ rfl rfl hl.1 rfl (lv_room (Nat.le_of_ble_eq_true rfl)) dX12_as_2 ⟨Nat.le_of_ble_eq_true rfl, Nat.le_of_ble_eq_true rfl⟩).run (fun r_1 hw_2 => ?_)
  refine qi_as (y := 0) (hw_2) ?_
  refine lv_if_eq (tgt := 18) hx hb dX12_as_5 (by decide) (fun _ => ?_) (fun c_3 => absurd c_3 (by decide))
  refine lv_iconst (v := (-1)) hx hb dX12_as_18 (by decide) ?_
  rw [hQ]
  exact W.iret (v := (-1)) hx hb hr (fun t ht hW => ⟨(-1), rfl, rfl, by rw [ht]⟩) (fun q hq => absurd hq List.not_mem_nil) dX12_as_19

theorem kc_mLooked_0 : ∀ w ∈ wsX120, w ∈ wsX12_looked := by decide +kernel
theorem kc_mLooked_1 : (.fieldLink RX12 9 "MistHeapsModel" "s" "[I" : Cond) ∈ wsX12_looked := by decide +kernel
set_option maxHeartbeats 4000000 in
set_option maxRecDepth 100000 in
theorem c_mLooked (l : Launch) (dC : Nat → ClassId) (dI : Nat → Nat → Nat) (m0 aS aI aB aT aG aO aN aD aY : Nat) (cS : ClassId) : Met l yX12_looked wsX12_looked ({ frames := 0, cells := 0, slots := 0, locals := 0 } : Room) (va_Pc [.ref m0] (fun U => va_P (dC, dI) vwCl [(m0, .inr (14, [.int 0, .ref aS, .ref aI, .int 0, .int 0, .int 0, .int 0, .int 0, .int 0, .ref aB, .ref aT, .int 0, .int 0, .ref aG, .ref aO, .ref aN, .ref aD, .long 0, .ref aY, .int 0, .int 0, .int 0, .int 0])), (aS, .inl (cS, 901, .inl s0))] U.heap ∧ va_K (dC, dI) vwCl [(cS, .int)] U)) (vp_Si (fun r => r = -5)) 0 0 (fun _ => False) := by
  refine met_ofQ (cc := cX12_looked) (maxL := 2) (ret := (some .int)) (by decide) rfl ?_
  intro p e s m args below meth c s₁ Q B hml hv hQ
  obtain ⟨rfl, hP, hK⟩ := hv
  have hx := B.exec
  have hb := B.bytes
  have hr := B.returns
  have hts := atoms_spec (ws := wsX12_looked) B.pre
  have hown : s.vm.findClass RX12 = some m.cls := findClass_of_methodNamed B.named
  have hlocks := B.notSynchronized
  obtain ⟨A, hAe⟩ : ∃ A : Nat → Prop, A = fun _ => False := ⟨_, rfl⟩
  rw [← hAe] at hQ
  have hS : va_S A s.heap s.heap [] := va_S.rf
  have hl := lv_entry [.ref m0] (n := 2) (Nat.le_of_ble_eq_true rfl)
  rw [lg_entry_eq]
  generalize (lg_sl [.ref m0] ++ List.replicate (2 - (lg_sl [.ref m0]).length) Slot.unset).toArray = ls at hl ⊢
  generalize hag : ([.ref m0] : List Value).toArray = args at hts hQ ⊢
  have hl : lv_has ls 2 [(0, .ref m0)] := hl
  refine lv_iconst (v := 1) hx hb dX12_looked_0 (by decide) ?_
  refine lv_istore_n (lv' := [(1, .int 1), (0, .ref m0)]) hx hb dX12_looked_1 rfl hl (by decide) rfl (fun ls hl => ?_)
  refine lv_iload_n hx hb dX12_looked_2 rfl (lv_at hl 0 rfl) ?_
  refine lv_aload_n hx hb dX12_looked_3 rfl (lv_at hl 1 rfl) ?_
  refine va_get (D := (dC, dI)) (ci := 14) (v := .ref aS) (C := RX12) (T := TX12) (N := 23) hx hb hts kc_mLooked_0 hown hK hP 0 rfl rfl 1 (by decide) (hts (.fieldLink RX12 9 "MistHeapsModel" "s" "[I") kc_mLooked_1) (fun _ h9 => h9) rfl dX12_looked_4 ?_
  refine lv_iconst (v := 3) hx hb dX12_looked_7 (by decide) ?_
  refine va_iald hx hb hK hP 1 0 rfl rfl (vp_in_nI (n := 3) (N := 901) (by omega) (by omega)) dX12_looked_8 ?_
  refine qi_as (y := 0) (rfl) ?_
  refine lv_icmp_ge (tgt := 47) hx hb dX12_looked_9 (by decide) (fun _ => ?_) (fun c_1 => absurd c_1 (by decide))
  refine lv_bipush (v := (-5)) hx hb dX12_looked_47 (by decide) ?_
  rw [hQ]
  exact W.iret (v := (-5)) hx hb hr (fun t ht hW => ⟨(-5), rfl, rfl, by rw [ht]⟩) (fun q hq => absurd hq List.not_mem_nil) dX12_looked_49

theorem kc_mUndo_0 : ∀ w ∈ wsX120, w ∈ wsX12_undo := by decide +kernel
theorem kc_mUndo_1 : (.fieldLink RX12 282 "MistHeapsModel" "hasImage" "Z" : Cond) ∈ wsX12_undo := by decide +kernel
set_option maxHeartbeats 4000000 in
set_option maxRecDepth 100000 in
theorem c_mUndo (l : Launch) (dC : Nat → ClassId) (dI : Nat → Nat → Nat) (m0 aS aI aB aT aG aO aN aD aY : Nat) (cS : ClassId) : Met l yX12_undo wsX12_undo ({ frames := 0, cells := 0, slots := 0, locals := 0 } : Room) (va_Pc [.ref m0] (fun U => va_P (dC, dI) vwCl [(m0, .inr (14, [.int 0, .ref aS, .ref aI, .int 0, .int 0, .int 0, .int 0, .int 0, .int 0, .ref aB, .ref aT, .int 0, .int 0, .ref aG, .ref aO, .ref aN, .ref aD, .long 0, .ref aY, .int 0, .int 0, .int 0, .int 0])), (aS, .inl (cS, 901, .inl s0))] U.heap ∧ va_K (dC, dI) vwCl [(cS, .int)] U)) (vp_Si (fun r => r = -3)) 0 0 (fun _ => False) := by
  refine met_ofQ (cc := cX12_undo) (maxL := 2) (ret := (some .int)) (by decide) rfl ?_
  intro p e s m args below meth c s₁ Q B hml hv hQ
  obtain ⟨rfl, hP, hK⟩ := hv
  have hx := B.exec
  have hb := B.bytes
  have hr := B.returns
  have hts := atoms_spec (ws := wsX12_undo) B.pre
  have hown : s.vm.findClass RX12 = some m.cls := findClass_of_methodNamed B.named
  have hlocks := B.notSynchronized
  obtain ⟨A, hAe⟩ : ∃ A : Nat → Prop, A = fun _ => False := ⟨_, rfl⟩
  rw [← hAe] at hQ
  have hS : va_S A s.heap s.heap [] := va_S.rf
  have hl := lv_entry [.ref m0] (n := 2) (Nat.le_of_ble_eq_true rfl)
  rw [lg_entry_eq]
  generalize (lg_sl [.ref m0] ++ List.replicate (2 - (lg_sl [.ref m0]).length) Slot.unset).toArray = ls at hl ⊢
  generalize hag : ([.ref m0] : List Value).toArray = args at hts hQ ⊢
  have hl : lv_has ls 2 [(0, .ref m0)] := hl
  refine lv_aload_n hx hb dX12_undo_0 rfl (lv_at hl 0 rfl) ?_
  refine va_get (D := (dC, dI)) (ci := 14) (v := .int 0) (C := RX12) (T := TX12) (N := 23) hx hb hts kc_mUndo_0 hown hK hP 0 rfl rfl 3 (by decide) (hts (.fieldLink RX12 282 "MistHeapsModel" "hasImage" "Z") kc_mUndo_1) (fun _ h9 => h9) rfl dX12_undo_1 ?_
  refine lv_if_ne (tgt := 10) hx hb dX12_undo_4 (by decide) (fun c_1 => absurd c_1 (by decide)) (fun _ => ?_)
  refine lv_bipush (v := (-3)) hx hb dX12_undo_7 (by decide) ?_
  rw [hQ]
  exact W.iret (v := (-3)) hx hb hr (fun t ht hW => ⟨(-3), rfl, rfl, by rw [ht]⟩) (fun q hq => absurd hq List.not_mem_nil) dX12_undo_9

theorem kc_mCount_0 : ∀ w ∈ wsX120, w ∈ wsX12_count := by decide +kernel
theorem kc_mCount_1 : (.fieldLink RX12 9 "MistHeapsModel" "s" "[I" : Cond) ∈ wsX12_count := by decide +kernel
theorem kc_mCount_2 : (.fieldLink RX12 246 "MistHeapsModel" "ran" "I" : Cond) ∈ wsX12_count := by decide +kernel
set_option maxHeartbeats 4000000 in
set_option maxRecDepth 100000 in
theorem c_mCount (l : Launch) (dC : Nat → ClassId) (dI : Nat → Nat → Nat) (m0 aS aI aB aT aG aO aN aD aY : Nat) (cS : ClassId) (x : Int32) : Met l yX12_count wsX12_count ({ frames := 0, cells := 0, slots := 0, locals := 0 } : Room) (va_Pc [.ref m0, .int x] (fun U => va_P (dC, dI) vwCl [(m0, .inr (14, [.int 0, .ref aS, .ref aI, .int 0, .int 0, .int 0, .int 0, .int 0, .int 0, .ref aB, .ref aT, .int 0, .int 0, .ref aG, .ref aO, .ref aN, .ref aD, .long 0, .ref aY, .int 0, .int 0, .int 0, .int 0])), (aS, .inl (cS, 901, .inl s0))] U.heap ∧ va_K (dC, dI) vwCl [(cS, .int)] U)) (vp_Si (fun r => r = f_count x)) 0 0 (fun _ => False) := by
  refine met_ofQ (cc := cX12_count) (maxL := 2) (ret := (some .int)) (by decide) rfl ?_
  intro p e s m args below meth c s₁ Q B hml hv hQ
  obtain ⟨rfl, hP, hK⟩ := hv
  have hx := B.exec
  have hb := B.bytes
  have hr := B.returns
  have hts := atoms_spec (ws := wsX12_count) B.pre
  have hown : s.vm.findClass RX12 = some m.cls := findClass_of_methodNamed B.named
  have hlocks := B.notSynchronized
  obtain ⟨A, hAe⟩ : ∃ A : Nat → Prop, A = fun _ => False := ⟨_, rfl⟩
  rw [← hAe] at hQ
  have hS : va_S A s.heap s.heap [] := va_S.rf
  have hl := lv_entry [.ref m0, .int x] (n := 2) (Nat.le_of_ble_eq_true rfl)
  rw [lg_entry_eq]
  generalize (lg_sl [.ref m0, .int x] ++ List.replicate (2 - (lg_sl [.ref m0, .int x]).length) Slot.unset).toArray = ls at hl ⊢
  generalize hag : ([.ref m0, .int x] : List Value).toArray = args at hts hQ ⊢
  have hl : lv_has ls 2 [(0, .ref m0), (1, .int x)] := hl
  refine lv_iload_n hx hb dX12_count_0 rfl (lv_at hl 1 rfl) ?_
  by_cases c_1_0 : x = 0
  · skip
    refine lv_tableIn (tgt := 40) hx hb dX12_count_1 (by rw [c_1_0]; decide) (by rw [c_1_0]; decide) (by rw [c_1_0]; rfl) (by decide) ?_
    refine lv_aload_n hx hb dX12_count_40 rfl (lv_at hl 0 rfl) ?_
    refine va_get (D := (dC, dI)) (ci := 14) (v := .ref aS) (C := RX12) (T := TX12) (N := 23) hx hb hts kc_mCount_0 hown hK hP 0 rfl rfl 1 (by decide) (hts (.fieldLink RX12 9 "MistHeapsModel" "s" "[I") kc_mCount_1) (fun _ h9 => h9) rfl dX12_count_41 ?_
    refine lv_iconst (v := 0) hx hb dX12_count_44 (by decide) ?_
    refine va_iald hx hb hK hP 1 0 rfl rfl (vp_in_nI (n := 0) (N := 901) (by omega) (by omega)) dX12_count_45 ?_
    refine qi_as (y := 0) (rfl) ?_
    rw [hQ]
    exact W.iret (v := 0) hx hb hr (fun t ht hW => ⟨0, rfl, by simp only [f_count]; (repeat' split) <;> simp_all, by rw [ht]⟩) (fun q hq => absurd hq List.not_mem_nil) dX12_count_46
  by_cases c_1_1 : x = 1
  · skip
    refine lv_tableIn (tgt := 47) hx hb dX12_count_1 (by rw [c_1_1]; decide) (by rw [c_1_1]; decide) (by rw [c_1_1]; rfl) (by decide) ?_
    refine lv_aload_n hx hb dX12_count_47 rfl (lv_at hl 0 rfl) ?_
    refine va_get (D := (dC, dI)) (ci := 14) (v := .ref aS) (C := RX12) (T := TX12) (N := 23) hx hb hts kc_mCount_0 hown hK hP 0 rfl rfl 1 (by decide) (hts (.fieldLink RX12 9 "MistHeapsModel" "s" "[I") kc_mCount_1) (fun _ h9 => h9) rfl dX12_count_48 ?_
    refine lv_iconst (v := 1) hx hb dX12_count_51 (by decide) ?_
    refine va_iald hx hb hK hP 1 0 rfl rfl (vp_in_nI (n := 1) (N := 901) (by omega) (by omega)) dX12_count_52 ?_
    refine qi_as (y := 0) (rfl) ?_
    rw [hQ]
    exact W.iret (v := 0) hx hb hr (fun t ht hW => ⟨0, rfl, by simp only [f_count]; (repeat' split) <;> simp_all, by rw [ht]⟩) (fun q hq => absurd hq List.not_mem_nil) dX12_count_53
  by_cases c_1_2 : x = 2
  · skip
    refine lv_tableIn (tgt := 54) hx hb dX12_count_1 (by rw [c_1_2]; decide) (by rw [c_1_2]; decide) (by rw [c_1_2]; rfl) (by decide) ?_
    refine lv_aload_n hx hb dX12_count_54 rfl (lv_at hl 0 rfl) ?_
    refine va_get (D := (dC, dI)) (ci := 14) (v := .ref aS) (C := RX12) (T := TX12) (N := 23) hx hb hts kc_mCount_0 hown hK hP 0 rfl rfl 1 (by decide) (hts (.fieldLink RX12 9 "MistHeapsModel" "s" "[I") kc_mCount_1) (fun _ h9 => h9) rfl dX12_count_55 ?_
    refine lv_iconst (v := 2) hx hb dX12_count_58 (by decide) ?_
    refine va_iald hx hb hK hP 1 0 rfl rfl (vp_in_nI (n := 2) (N := 901) (by omega) (by omega)) dX12_count_59 ?_
    refine qi_as (y := 0) (rfl) ?_
    rw [hQ]
    exact W.iret (v := 0) hx hb hr (fun t ht hW => ⟨0, rfl, by simp only [f_count]; (repeat' split) <;> simp_all, by rw [ht]⟩) (fun q hq => absurd hq List.not_mem_nil) dX12_count_60
  by_cases c_1_3 : x = 3
  · skip
    refine lv_tableIn (tgt := 61) hx hb dX12_count_1 (by rw [c_1_3]; decide) (by rw [c_1_3]; decide) (by rw [c_1_3]; rfl) (by decide) ?_
    refine lv_aload_n hx hb dX12_count_61 rfl (lv_at hl 0 rfl) ?_
    refine va_get (D := (dC, dI)) (ci := 14) (v := .ref aS) (C := RX12) (T := TX12) (N := 23) hx hb hts kc_mCount_0 hown hK hP 0 rfl rfl 1 (by decide) (hts (.fieldLink RX12 9 "MistHeapsModel" "s" "[I") kc_mCount_1) (fun _ h9 => h9) rfl dX12_count_62 ?_
    refine lv_iconst (v := 3) hx hb dX12_count_65 (by decide) ?_
    refine va_iald hx hb hK hP 1 0 rfl rfl (vp_in_nI (n := 3) (N := 901) (by omega) (by omega)) dX12_count_66 ?_
    refine qi_as (y := 0) (rfl) ?_
    rw [hQ]
    exact W.iret (v := 0) hx hb hr (fun t ht hW => ⟨0, rfl, by simp only [f_count]; (repeat' split) <;> simp_all, by rw [ht]⟩) (fun q hq => absurd hq List.not_mem_nil) dX12_count_67
  by_cases c_1_4 : x = 4
  · skip
    refine lv_tableIn (tgt := 68) hx hb dX12_count_1 (by rw [c_1_4]; decide) (by rw [c_1_4]; decide) (by rw [c_1_4]; rfl) (by decide) ?_
    refine lv_aload_n hx hb dX12_count_68 rfl (lv_at hl 0 rfl) ?_
    refine va_get (D := (dC, dI)) (ci := 14) (v := .ref aS) (C := RX12) (T := TX12) (N := 23) hx hb hts kc_mCount_0 hown hK hP 0 rfl rfl 1 (by decide) (hts (.fieldLink RX12 9 "MistHeapsModel" "s" "[I") kc_mCount_1) (fun _ h9 => h9) rfl dX12_count_69 ?_
    refine lv_iconst (v := 4) hx hb dX12_count_72 (by decide) ?_
    refine va_iald hx hb hK hP 1 0 rfl rfl (vp_in_nI (n := 4) (N := 901) (by omega) (by omega)) dX12_count_73 ?_
    refine qi_as (y := 0) (rfl) ?_
    rw [hQ]
    exact W.iret (v := 0) hx hb hr (fun t ht hW => ⟨0, rfl, by simp only [f_count]; (repeat' split) <;> simp_all, by rw [ht]⟩) (fun q hq => absurd hq List.not_mem_nil) dX12_count_74
  by_cases c_1_5 : x = 5
  · skip
    refine lv_tableIn (tgt := 75) hx hb dX12_count_1 (by rw [c_1_5]; decide) (by rw [c_1_5]; decide) (by rw [c_1_5]; rfl) (by decide) ?_
    refine lv_aload_n hx hb dX12_count_75 rfl (lv_at hl 0 rfl) ?_
    refine va_get (D := (dC, dI)) (ci := 14) (v := .int 0) (C := RX12) (T := TX12) (N := 23) hx hb hts kc_mCount_0 hown hK hP 0 rfl rfl 19 (by decide) (hts (.fieldLink RX12 246 "MistHeapsModel" "ran" "I") kc_mCount_2) (fun _ h9 => h9) rfl dX12_count_76 ?_
    rw [hQ]
    exact W.iret (v := 0) hx hb hr (fun t ht hW => ⟨0, rfl, by simp only [f_count]; (repeat' split) <;> simp_all, by rw [ht]⟩) (fun q hq => absurd hq List.not_mem_nil) dX12_count_79
  refine lv_tableOut (tgt := 80) hx hb dX12_count_1 (sw_out 0 5 x (fun k hk => by
    match k, hk with
    | 0, _ => exact c_1_0
    | 1, _ => exact c_1_1
    | 2, _ => exact c_1_2
    | 3, _ => exact c_1_3
    | 4, _ => exact c_1_4
    | 5, _ => exact c_1_5
    | k + 6, hk => exact absurd hk (by omega))) (by decide) ?_
  refine lv_iconst (v := (-1)) hx hb dX12_count_80 (by decide) ?_
  rw [hQ]
  exact W.iret (v := (-1)) hx hb hr (fun t ht hW => ⟨(-1), rfl, by simp only [f_count]; (repeat' split) <;> simp_all, by rw [ht]⟩) (fun q hq => absurd hq List.not_mem_nil) dX12_count_81

theorem kc_mTrace_0 : ∀ w ∈ wsX120, w ∈ wsX12_trace := by decide +kernel
theorem kc_mTrace_1 : (.fieldLink RX12 246 "MistHeapsModel" "ran" "I" : Cond) ∈ wsX12_trace := by decide +kernel
set_option maxHeartbeats 4000000 in
set_option maxRecDepth 100000 in
theorem c_mTrace (l : Launch) (dC : Nat → ClassId) (dI : Nat → Nat → Nat) (m0 aS aI aB aT aG aO aN aD aY : Nat) (cS : ClassId) (x : Int32) : Met l yX12_trace wsX12_trace ({ frames := 1, cells := 0, slots := 0, locals := 22 } : Room) (va_Pc [.ref m0, .int x] (fun U => va_P (dC, dI) vwCl [(m0, .inr (14, [.int 0, .ref aS, .ref aI, .int 0, .int 0, .int 0, .int 0, .int 0, .int 0, .ref aB, .ref aT, .int 0, .int 0, .ref aG, .ref aO, .ref aN, .ref aD, .long 0, .ref aY, .int 0, .int 0, .int 0, .int 0])), (aS, .inl (cS, 901, .inl s0))] U.heap ∧ va_K (dC, dI) vwCl [(cS, .int)] U)) (vp_Si (fun r => r = -1)) 0 0 (fun _ => False) := by
  refine met_ofQ (cc := cX12_trace) (maxL := 2) (ret := (some .int)) (by decide) rfl ?_
  intro p e s m args below meth c s₁ Q B hml hv hQ
  obtain ⟨rfl, hP, hK⟩ := hv
  have hx := B.exec
  have hb := B.bytes
  have hr := B.returns
  have hts := atoms_spec (ws := wsX12_trace) B.pre
  have hown : s.vm.findClass RX12 = some m.cls := findClass_of_methodNamed B.named
  have hlocks := B.notSynchronized
  obtain ⟨A, hAe⟩ : ∃ A : Nat → Prop, A = fun _ => False := ⟨_, rfl⟩
  rw [← hAe] at hQ
  have hS : va_S A s.heap s.heap [] := va_S.rf
  have hl := lv_entry [.ref m0, .int x] (n := 2) (Nat.le_of_ble_eq_true rfl)
  rw [lg_entry_eq]
  generalize (lg_sl [.ref m0, .int x] ++ List.replicate (2 - (lg_sl [.ref m0, .int x]).length) Slot.unset).toArray = ls at hl ⊢
  generalize hag : ([.ref m0, .int x] : List Value).toArray = args at hts hQ ⊢
  have hl : lv_has ls 2 [(0, .ref m0), (1, .int x)] := hl
  refine lv_iload_n hx hb dX12_trace_0 rfl (lv_at hl 1 rfl) ?_
  refine lv_iconst (v := 0) hx hb dX12_trace_1 (by decide) ?_
  refine lv_aload_n hx hb dX12_trace_2 rfl (lv_at hl 0 rfl) ?_
  refine va_get (D := (dC, dI)) (ci := 14) (v := .int 0) (C := RX12) (T := TX12) (N := 23) hx hb hts kc_mTrace_0 hown hK hP 0 rfl rfl 19 (by decide) (hts (.fieldLink RX12 246 "MistHeapsModel" "ran" "I") kc_mTrace_1) (fun _ h9 => h9) rfl dX12_trace_3 ?_
  refine lv_bipush (v := 20) hx hb dX12_trace_6 (by decide) ?_
  refine lv_icmp_ge (tgt := 18) hx hb dX12_trace_8 (by decide) (fun c_1 => absurd c_1 (by decide)) (fun _ => ?_)
  refine lv_aload_n hx hb dX12_trace_11 rfl (lv_at hl 0 rfl) ?_
  refine va_get (D := (dC, dI)) (ci := 14) (v := .int 0) (C := RX12) (T := TX12) (N := 23) hx hb hts kc_mTrace_0 hown hK hP 0 rfl rfl 19 (by decide) (hts (.fieldLink RX12 246 "MistHeapsModel" "ran" "I") kc_mTrace_1) (fun _ h9 => h9) rfl dX12_trace_12 ?_
  refine lv_goto (tgt := 20) hx hb dX12_trace_15 (by decide) ?_
  refine lv_iconst (v := 1) hx hb dX12_trace_20 (by decide) ?_
  refine lv_isub hx hb dX12_trace_21 ?_
  refine qi_as (y := (-1)) (by decide) ?_
  refine vp_callSi (va_runS (As := [.int x, .int 0, .int (-1)]) (rest := []) ⟨hx, hb, hml, hown, hts⟩ (c_in l dC dI x 0 (-1)) (va_cwS 3 hts gX12_trace_X12_in rfl rfl rfl (by decide +kernel) ⟨Nat.le_of_ble_eq_true rfl, Nat.le_of_ble_eq_true rfl⟩) ⟨fun a U g mk q => ⟨q.1, trivial⟩, fun U hU hW => ⟨rfl, trivial⟩⟩ rfl rfl hl.1 rfl (lv_room (Nat.le_of_ble_eq_true rfl)) dX12_trace_22 ⟨Nat.le_of_ble_eq_true rfl, Nat.le_of_ble_eq_true rfl⟩).run (fun r_2 hw_3 => ?_)
  have hw_3 : r_2 = 0 := by rcases hw_3 with ⟨_, h1, h2⟩ | ⟨h, _⟩ <;> first | exact (no_in h1 h2).elim | exact h
  subst hw_3
  refine lv_if_eq (tgt := 37) hx hb dX12_trace_25 (by decide) (fun _ => ?_) (fun c_4 => absurd c_4 (by decide))
  refine lv_iconst (v := (-1)) hx hb dX12_trace_37 (by decide) ?_
  rw [hQ]
  exact W.iret (v := (-1)) hx hb hr (fun t ht hW => ⟨(-1), rfl, rfl, by rw [ht]⟩) (fun q hq => absurd hq List.not_mem_nil) dX12_trace_38

theorem kc_mSeesOf0_0 : ∀ w ∈ wsX120, w ∈ wsX12_seesOf := by decide +kernel
theorem kc_mSeesOf0_1 : (.fieldLink RX12 9 "MistHeapsModel" "s" "[I" : Cond) ∈ wsX12_seesOf := by decide +kernel
set_option maxHeartbeats 4000000 in
set_option maxRecDepth 100000 in
theorem c_mSeesOf0 (l : Launch) (dC : Nat → ClassId) (dI : Nat → Nat → Nat) (m0 aS aI aB aT aG aO aN aD aY : Nat) (cS : ClassId) (x : Int32) : Met l yX12_seesOf wsX12_seesOf ({ frames := 0, cells := 0, slots := 0, locals := 0 } : Room) (va_Pc [.ref m0, .int x] (fun U => va_P (dC, dI) vwCl [(m0, .inr (14, [.int 0, .ref aS, .ref aI, .int 0, .int 0, .int 0, .int 0, .int 0, .int 0, .ref aB, .ref aT, .int 0, .int 0, .ref aG, .ref aO, .ref aN, .ref aD, .long 0, .ref aY, .int 0, .int 0, .int 0, .int 0])), (aS, .inl (cS, 901, .inl s0))] U.heap ∧ va_K (dC, dI) vwCl [(cS, .int)] U)) (vp_Si (fun r => r = 0)) 0 0 (fun _ => False) := by
  refine met_ofQ (cc := cX12_seesOf) (maxL := 4) (ret := (some .int)) (by decide) rfl ?_
  intro p e s m args below meth c s₁ Q B hml hv hQ
  obtain ⟨rfl, hP, hK⟩ := hv
  have hx := B.exec
  have hb := B.bytes
  have hr := B.returns
  have hts := atoms_spec (ws := wsX12_seesOf) B.pre
  have hown : s.vm.findClass RX12 = some m.cls := findClass_of_methodNamed B.named
  have hlocks := B.notSynchronized
  obtain ⟨A, hAe⟩ : ∃ A : Nat → Prop, A = fun _ => False := ⟨_, rfl⟩
  rw [← hAe] at hQ
  have hS : va_S A s.heap s.heap [] := va_S.rf
  have hl := lv_entry [.ref m0, .int x] (n := 4) (Nat.le_of_ble_eq_true rfl)
  rw [lg_entry_eq]
  generalize (lg_sl [.ref m0, .int x] ++ List.replicate (4 - (lg_sl [.ref m0, .int x]).length) Slot.unset).toArray = ls at hl ⊢
  generalize hag : ([.ref m0, .int x] : List Value).toArray = args at hts hQ ⊢
  have hl : lv_has ls 4 [(0, .ref m0), (1, .int x)] := hl
  refine lv_iconst (v := 0) hx hb dX12_seesOf_0 (by decide) ?_
  refine lv_istore_n (lv' := [(2, .int 0), (0, .ref m0), (1, .int x)]) hx hb dX12_seesOf_1 rfl hl (by decide) rfl (fun ls hl => ?_)
  refine lv_iconst (v := 0) hx hb dX12_seesOf_2 (by decide) ?_
  refine lv_istore_n (lv' := [(3, .int 0), (2, .int 0), (0, .ref m0), (1, .int x)]) hx hb dX12_seesOf_3 rfl hl (by decide) rfl (fun ls hl => ?_)
  refine lv_iload_n hx hb dX12_seesOf_4 rfl (lv_at hl 0 rfl) ?_
  refine lv_aload_n hx hb dX12_seesOf_5 rfl (lv_at hl 2 rfl) ?_
  refine va_get (D := (dC, dI)) (ci := 14) (v := .ref aS) (C := RX12) (T := TX12) (N := 23) hx hb hts kc_mSeesOf0_0 hown hK hP 0 rfl rfl 1 (by decide) (hts (.fieldLink RX12 9 "MistHeapsModel" "s" "[I") kc_mSeesOf0_1) (fun _ h9 => h9) rfl dX12_seesOf_6 ?_
  refine lv_iconst (v := 0) hx hb dX12_seesOf_9 (by decide) ?_
  refine va_iald hx hb hK hP 1 0 rfl rfl (vp_in_nI (n := 0) (N := 901) (by omega) (by omega)) dX12_seesOf_10 ?_
  refine qi_as (y := 0) (rfl) ?_
  refine lv_icmp_ge (tgt := 39) hx hb dX12_seesOf_11 (by decide) (fun _ => ?_) (fun c_1 => absurd c_1 (by decide))
  refine lv_iload_n hx hb dX12_seesOf_39 rfl (lv_at hl 1 rfl) ?_
  rw [hQ]
  exact W.iret (v := 0) hx hb hr (fun t ht hW => ⟨0, rfl, rfl, by rw [ht]⟩) (fun q hq => absurd hq List.not_mem_nil) dX12_seesOf_40

set_option maxHeartbeats 4000000 in
set_option maxRecDepth 100000 in
theorem c_mSees (l : Launch) (dC : Nat → ClassId) (dI : Nat → Nat → Nat) (m0 aS aI aB aT aG aO aN aD aY : Nat) (cS : ClassId) (x : Int32) : Met l yX12_sees wsX12_sees ({ frames := 2, cells := 0, slots := 0, locals := 42 } : Room) (va_Pc [.ref m0, .int x] (fun U => va_P (dC, dI) vwCl [(m0, .inr (14, [.int 0, .ref aS, .ref aI, .int 0, .int 0, .int 0, .int 0, .int 0, .int 0, .ref aB, .ref aT, .int 0, .int 0, .ref aG, .ref aO, .ref aN, .ref aD, .long 0, .ref aY, .int 0, .int 0, .int 0, .int 0])), (aS, .inl (cS, 901, .inl s0))] U.heap ∧ va_K (dC, dI) vwCl [(cS, .int)] U)) (vp_Si (fun r => r = f_cell x)) 0 0 (fun _ => False) := by
  refine met_ofQ (cc := cX12_sees) (maxL := 2) (ret := (some .int)) (by decide) rfl ?_
  intro p e s m args below meth c s₁ Q B hml hv hQ
  obtain ⟨rfl, hP, hK⟩ := hv
  have hx := B.exec
  have hb := B.bytes
  have hr := B.returns
  have hts := atoms_spec (ws := wsX12_sees) B.pre
  have hown : s.vm.findClass RX12 = some m.cls := findClass_of_methodNamed B.named
  have hlocks := B.notSynchronized
  obtain ⟨A, hAe⟩ : ∃ A : Nat → Prop, A = fun _ => False := ⟨_, rfl⟩
  rw [← hAe] at hQ
  have hS : va_S A s.heap s.heap [] := va_S.rf
  have hl := lv_entry [.ref m0, .int x] (n := 2) (Nat.le_of_ble_eq_true rfl)
  rw [lg_entry_eq]
  generalize (lg_sl [.ref m0, .int x] ++ List.replicate (2 - (lg_sl [.ref m0, .int x]).length) Slot.unset).toArray = ls at hl ⊢
  generalize hag : ([.ref m0, .int x] : List Value).toArray = args at hts hQ ⊢
  have hl : lv_has ls 2 [(0, .ref m0), (1, .int x)] := hl
  refine lv_iload_n hx hb dX12_sees_0 rfl (lv_at hl 1 rfl) ?_
  refine vp_callSi (va_runS (As := [.int x]) (rest := []) ⟨hx, hb, hml, hown, hts⟩ (c_mCell l dC dI x) (va_cwS 1 hts gX12_sees_X12_isCell rfl rfl rfl (by decide +kernel) ⟨Nat.le_of_ble_eq_true rfl, Nat.le_of_ble_eq_true rfl⟩) ⟨fun a U g mk q => ⟨q.1, trivial⟩, fun U hU hW => ⟨rfl, trivial⟩⟩ rfl rfl hl.1 rfl (lv_room (Nat.le_of_ble_eq_true rfl)) dX12_sees_1 ⟨Nat.le_of_ble_eq_true rfl, Nat.le_of_ble_eq_true rfl⟩).run (fun r_1 hw_2 => ?_)
  rcases hw_2 with ⟨rfl, h_3, h_4⟩ | ⟨rfl, h_5⟩
  · skip
    refine lv_if_eq (tgt := 15) hx hb dX12_sees_4 (by decide) (fun c_6 => absurd c_6 (by decide)) (fun _ => ?_)
    refine lv_aload_n hx hb dX12_sees_7 rfl (lv_at hl 0 rfl) ?_
    refine lv_iload_n hx hb dX12_sees_8 rfl (lv_at hl 1 rfl) ?_
    have hPc := hP.sub (ws' := [(m0, .inr (14, [.int 0, .ref aS, .ref aI, .int 0, .int 0, .int 0, .int 0, .int 0, .int 0, .ref aB, .ref aT, .int 0, .int 0, .ref aG, .ref aO, .ref aN, .ref aD, .long 0, .ref aY, .int 0, .int 0, .int 0, .int 0])), (aS, .inl (cS, 901, .inl s0))]) [0, 1] rfl
    have hKc := hK.sub (tys' := [(cS, .int)]) [0] rfl
    refine vp_callSi (va_runV (As := [.int x]) (rest := []) ⟨hx, hb, hml, hown, hts⟩ (c_mSeesOf0 l dC dI m0 aS aI aB aT aG aO aN aD aY cS x) (cwV 1 hts gX12_sees_X12_seesOf rfl rfl rfl (by decide +kernel) ⟨Nat.le_of_ble_eq_true rfl, Nat.le_of_ble_eq_true rfl⟩) ⟨fun a U g mk q => by obtain ⟨q0, qP, qK⟩ := q; exact ⟨q0, qP, va_K.moved (u := U) (U := U.calling g mk a) (Vm.Alike.refl U.vm) qK⟩, va_recv hK hP (ci := 14) (q0 := 0) rfl rfl, fun U hU hW => ⟨rfl, by rw [hU]; exact hPc, va_K.moved hW.alike hKc⟩⟩ rfl rfl hl.1 rfl (lv_room (Nat.le_of_ble_eq_true rfl)) dX12_sees_9 ⟨Nat.le_of_ble_eq_true rfl, Nat.le_of_ble_eq_true rfl⟩).run (fun r_7 hw_8 => ?_)
    refine qi_as (y := 0) (hw_8) ?_
    refine lv_goto (tgt := 16) hx hb dX12_sees_12 (by decide) ?_
    rw [hQ]
    exact W.iret (v := 0) hx hb hr (fun t ht hW => ⟨0, rfl, by simp only [f_cell]; (repeat' split) <;> simp_all, by rw [ht]⟩) (fun q hq => absurd hq List.not_mem_nil) dX12_sees_16
  · skip
    refine lv_if_eq (tgt := 15) hx hb dX12_sees_4 (by decide) (fun _ => ?_) (fun c_9 => absurd c_9 (by decide))
    refine lv_iconst (v := (-1)) hx hb dX12_sees_15 (by decide) ?_
    rw [hQ]
    exact W.iret (v := (-1)) hx hb hr (fun t ht hW => ⟨(-1), rfl, by simp only [f_cell]; (repeat' split) <;> simp_all, by rw [ht]⟩) (fun q hq => absurd hq List.not_mem_nil) dX12_sees_16

theorem kc_mWhere_0 : (.constantLong RX12 181 (-9223372036854775808) : Cond) ∈ wsX12_where := by decide +kernel
theorem kc_mWhere_1 : ∀ w ∈ wsX120, w ∈ wsX12_where := by decide +kernel
theorem kc_mWhere_2 : (.fieldLink RX12 9 "MistHeapsModel" "s" "[I" : Cond) ∈ wsX12_where := by decide +kernel
set_option maxHeartbeats 4000000 in
set_option maxRecDepth 100000 in
theorem c_mWhere (l : Launch) (dC : Nat → ClassId) (dI : Nat → Nat → Nat) (m0 aS aI aB aT aG aO aN aD aY : Nat) (cS : ClassId) (x : Int32) : Met l yX12_where wsX12_where ({ frames := 1, cells := 0, slots := 0, locals := 23 } : Room) (va_Pc [.ref m0, .int x] (fun U => va_P (dC, dI) vwCl [(m0, .inr (14, [.int 0, .ref aS, .ref aI, .int 0, .int 0, .int 0, .int 0, .int 0, .int 0, .ref aB, .ref aT, .int 0, .int 0, .ref aG, .ref aO, .ref aN, .ref aD, .long 0, .ref aY, .int 0, .int 0, .int 0, .int 0])), (aS, .inl (cS, 901, .inl s0))] U.heap ∧ va_K (dC, dI) vwCl [(cS, .int)] U)) (vp_Sl (fun r => r = f_where x)) 0 0 (fun _ => False) := by
  refine met_ofQ (cc := cX12_where) (maxL := 5) (ret := (some .long)) (by decide) rfl ?_
  intro p e s m args below meth c s₁ Q B hml hv hQ
  obtain ⟨rfl, hP, hK⟩ := hv
  have hx := B.exec
  have hb := B.bytes
  have hr := B.returns
  have hts := atoms_spec (ws := wsX12_where) B.pre
  have hown : s.vm.findClass RX12 = some m.cls := findClass_of_methodNamed B.named
  have hlocks := B.notSynchronized
  obtain ⟨A, hAe⟩ : ∃ A : Nat → Prop, A = fun _ => False := ⟨_, rfl⟩
  rw [← hAe] at hQ
  have hS : va_S A s.heap s.heap [] := va_S.rf
  have hl := lv_entry [.ref m0, .int x] (n := 5) (Nat.le_of_ble_eq_true rfl)
  rw [lg_entry_eq]
  generalize (lg_sl [.ref m0, .int x] ++ List.replicate (5 - (lg_sl [.ref m0, .int x]).length) Slot.unset).toArray = ls at hl ⊢
  generalize hag : ([.ref m0, .int x] : List Value).toArray = args at hts hQ ⊢
  have hl : lv_has ls 5 [(0, .ref m0), (1, .int x)] := hl
  refine lv_iload_n hx hb dX12_where_0 rfl (lv_at hl 1 rfl) ?_
  refine lv_if_lt (tgt := 15) hx hb dX12_where_1 (by decide) (fun c_1 => ?_) (fun c_1 => ?_)
  · skip
    refine lv_ldc2 (v := (-9223372036854775808)) hx hb hown (hts (.constantLong RX12 181 (-9223372036854775808)) kc_mWhere_0) dX12_where_15 ?_
    rw [hQ]
    exact W.lret (v := (-9223372036854775808)) hx hb hr (fun t ht hW => ⟨(-9223372036854775808), rfl, by simp only [f_where]; (repeat' split) <;> simp_all, by rw [ht]⟩) (fun q hq => absurd hq List.not_mem_nil) dX12_where_18
  · skip
    refine lv_iload_n hx hb dX12_where_4 rfl (lv_at hl 1 rfl) ?_
    refine lv_aload_n hx hb dX12_where_5 rfl (lv_at hl 0 rfl) ?_
    refine va_get (D := (dC, dI)) (ci := 14) (v := .ref aS) (C := RX12) (T := TX12) (N := 23) hx hb hts kc_mWhere_1 hown hK hP 0 rfl rfl 1 (by decide) (hts (.fieldLink RX12 9 "MistHeapsModel" "s" "[I") kc_mWhere_2) (fun _ h9 => h9) rfl dX12_where_6 ?_
    refine lv_iconst (v := 0) hx hb dX12_where_9 (by decide) ?_
    refine va_iald hx hb hK hP 1 0 rfl rfl (vp_in_nI (n := 0) (N := 901) (by omega) (by omega)) dX12_where_10 ?_
    refine qi_as (y := 0) (rfl) ?_
    refine lv_ishr hx hb dX12_where_11 ?_
    refine qi_as (y := x) (sb_shr0 x) ?_
    refine lv_if_eq (tgt := 19) hx hb dX12_where_12 (by decide) (fun c_2 => ?_) (fun c_2 => ?_)
    · skip
      subst c_2
      refine lv_lconst (v := 0) hx hb dX12_where_19 (by decide) ?_
      refine lv_lstore_n (lv' := [(2, .long 0), (0, .ref m0), (1, .int 0)]) hx hb dX12_where_20 rfl hl (by decide) rfl (fun ls hl => ?_)
      refine lv_iconst (v := 0) hx hb dX12_where_21 (by decide) ?_
      refine lv_istore (lv' := [(4, .int 0), (2, .long 0), (0, .ref m0), (1, .int 0)]) hx hb dX12_where_22 hl (by decide) rfl (fun ls hl => ?_)
      have L24 : ∀ (n : Nat) (i : Nat), 36 - i < n → i ≤ 36 → ∀ (ls : Array Slot), lv_has ls 5 [(0, .ref m0), (1, .int 0), (2, .long (lN (2 ^ i - 1))), (4, .int (nI i))] → W p l e ({ frames := 1, cells := 0, slots := 0, locals := 23 } : Room) s m args below meth c s.heap [] 0 0 Q (F0 m 24 ls []) := by
        intro n
        induction n with
        | zero => intro i hm; exact absurd hm (Nat.not_lt_zero _)
        | succ n ih24 =>
          intro i hm hi ls hl
          refine lv_iload hx hb dX12_where_24 (lv_at hl 3 rfl) ?_
          refine lv_bipush (v := 36) hx hb dX12_where_26 (by decide) ?_
          refine lv_icmp_ge (tgt := 58) hx hb dX12_where_28 (by decide) (fun c_3 => ?_) (fun c_3 => ?_)
          · skip
            have c_3 : 36 ≤ i := (nI_leI (a := 36) (b := i) (by omega) (by omega)).mp c_3
            refine lv_lload_n hx hb dX12_where_58 rfl (lv_at hl 2 rfl) ?_
            rw [hQ]
            exact W.lret (v := lN (2 ^ i - 1)) hx hb hr (fun t ht hW => ⟨lN (2 ^ i - 1), rfl, by rw [show i = 36 by omega]; decide, by rw [ht]⟩) (fun q hq => absurd hq List.not_mem_nil) dX12_where_59
          · skip
            have c_3 : ¬ 36 ≤ i := fun q => c_3 ((nI_leI (a := 36) (b := i) (by omega) (by omega)).mpr q)
            refine lv_lload_n hx hb dX12_where_31 rfl (lv_at hl 2 rfl) ?_
            refine lv_aload_n hx hb dX12_where_32 rfl (lv_at hl 0 rfl) ?_
            refine lv_iload hx hb dX12_where_33 (lv_at hl 3 rfl) ?_
            have hPc := hP.sub (ws' := [(m0, .inr (14, [.int 0, .ref aS, .ref aI, .int 0, .int 0, .int 0, .int 0, .int 0, .int 0, .ref aB, .ref aT, .int 0, .int 0, .ref aG, .ref aO, .ref aN, .ref aD, .long 0, .ref aY, .int 0, .int 0, .int 0, .int 0])), (aS, .inl (cS, 901, .inl s0))]) [0, 1] rfl
            have hKc := hK.sub (tys' := [(cS, .int)]) [0] rfl
            refine vp_callSi (va_runV (As := [.int (nI i)]) (rest := [.long (lN (2 ^ i - 1))]) ⟨hx, hb, hml, hown, hts⟩ (c_mSeesOf0 l dC dI m0 aS aI aB aT aG aO aN aD aY cS (nI i)) (cwV 1 hts gX12_where_X12_seesOf rfl rfl rfl (by decide +kernel) ⟨Nat.le_of_ble_eq_true rfl, Nat.le_of_ble_eq_true rfl⟩) ⟨fun a U g mk q => by obtain ⟨q0, qP, qK⟩ := q; exact ⟨q0, qP, va_K.moved (u := U) (U := U.calling g mk a) (Vm.Alike.refl U.vm) qK⟩, va_recv hK hP (ci := 14) (q0 := 0) rfl rfl, fun U hU hW => ⟨rfl, by rw [hU]; exact hPc, va_K.moved hW.alike hKc⟩⟩ rfl rfl hl.1 rfl (lv_room (Nat.le_of_ble_eq_true rfl)) dX12_where_35 ⟨Nat.le_of_ble_eq_true rfl, Nat.le_of_ble_eq_true rfl⟩).run (fun r_4 hw_5 => ?_)
            refine qi_as (y := 0) (hw_5) ?_
            refine lv_iload_n hx hb dX12_where_38 rfl (lv_at hl 1 rfl) ?_
            refine lv_icmp_ne (tgt := 49) hx hb dX12_where_39 (by decide) (fun c_6 => absurd c_6 (by decide)) (fun _ => ?_)
            refine lv_lconst (v := 1) hx hb dX12_where_42 (by decide) ?_
            refine lv_iload hx hb dX12_where_43 (lv_at hl 3 rfl) ?_
            refine lv_lshl (v := (1 : Int64) <<< ((nI i).toInt64 &&& 63)) hx hb dX12_where_45 (rfl) ?_
            refine lv_goto (tgt := 50) hx hb dX12_where_46 (by decide) ?_
            refine lv_lor hx hb dX12_where_50 ?_
            refine ql_as (y := lN (2 ^ (i + 1) - 1)) (wh_step i (by omega)) ?_
            refine lv_lstore_n (lv' := [(2, .long (lN (2 ^ (i + 1) - 1))), (0, .ref m0), (1, .int 0), (4, .int (nI i))]) hx hb dX12_where_51 rfl hl (by decide) rfl (fun ls hl => ?_)
            refine lv_iinc (v := nI (i + 1)) (lv' := [(4, .int (nI (i + 1))), (2, .long (lN (2 ^ (i + 1) - 1))), (0, .ref m0), (1, .int 0)]) hx hb dX12_where_52 hl (k := 3) rfl (nI_add i 1) (by decide) rfl (fun ls hl => ?_)
            refine lv_goto (tgt := 24) hx hb dX12_where_55 (by decide) ?_
            exact ih24 _ (by omega) (by omega) ls (lv_sub hl [2, 3, 1, 0] rfl)
      exact L24 _ (0) (Nat.lt_succ_self _) (by omega) ls (lv_sub hl [2, 3, 1, 0] rfl)
    · skip
      refine lv_ldc2 (v := (-9223372036854775808)) hx hb hown (hts (.constantLong RX12 181 (-9223372036854775808)) kc_mWhere_0) dX12_where_15 ?_
      rw [hQ]
      exact W.lret (v := (-9223372036854775808)) hx hb hr (fun t ht hW => ⟨(-9223372036854775808), rfl, by simp only [f_where]; (repeat' split) <;> simp_all, by rw [ht]⟩) (fun q hq => absurd hq List.not_mem_nil) dX12_where_18

theorem kc_mWalk_0 : ∀ w ∈ wsX120, w ∈ wsX12_walk := by decide +kernel
theorem kc_mWalk_1 : (.fieldLink RX12 9 "MistHeapsModel" "s" "[I" : Cond) ∈ wsX12_walk := by decide +kernel
set_option maxHeartbeats 4000000 in
set_option maxRecDepth 100000 in
theorem c_mWalk (l : Launch) (dC : Nat → ClassId) (dI : Nat → Nat → Nat) (m0 aS aI aB aT aG aO aN aD aY : Nat) (cS : ClassId) (x : Int32) (sz : Nat) : Met l yX12_walk wsX12_walk ({ frames := 1, cells := 0, slots := 0, locals := 22 } : Room) (va_Pc [.ref m0, .int x] (fun U => U.heap.size = sz ∧ va_P (dC, dI) vwCl [(m0, .inr (14, [.int 0, .ref aS, .ref aI, .int 0, .int 0, .int 0, .int 0, .int 0, .int 0, .ref aB, .ref aT, .int 0, .int 0, .ref aG, .ref aO, .ref aN, .ref aD, .long 0, .ref aY, .int 0, .int 0, .int 0, .int 0])), (aS, .inl (cS, 901, .inl s0))] U.heap ∧ va_K (dC, dI) vwCl [(cS, .int)] U ∧ va_D (fun _ => True) [(m0, .inr (14, [.int 0, .ref aS, .ref aI, .int 0, .int 0, .int 0, .int 0, .int 0, .int 0, .ref aB, .ref aT, .int 0, .int 0, .ref aG, .ref aO, .ref aN, .ref aD, .long 0, .ref aY, .int 0, .int 0, .int 0, .int 0])), (aS, .inl (cS, 901, .inl s0))])) (va_Qi (fun (r : Int32) (u : Unit) => match u with | () => r = f_walk x) (fun (u : Unit) (t : State) => match u with | () => True) (va_A [(m0, .inr (14, [.int 0, .ref aS, .ref aI, .int 0, .int 0, .int 0, .int 0, .int 0, .int 0, .ref aB, .ref aT, .int 0, .int 0, .ref aG, .ref aO, .ref aN, .ref aD, .long 0, .ref aY, .int 0, .int 0, .int 0, .int 0])), (aS, .inl (cS, 901, .inl s0))] sz)) 0 0 (va_A [(m0, .inr (14, [.int 0, .ref aS, .ref aI, .int 0, .int 0, .int 0, .int 0, .int 0, .int 0, .ref aB, .ref aT, .int 0, .int 0, .ref aG, .ref aO, .ref aN, .ref aD, .long 0, .ref aY, .int 0, .int 0, .int 0, .int 0])), (aS, .inl (cS, 901, .inl s0))] sz) := by
  refine met_ofQ (cc := cX12_walk) (maxL := 2) (ret := (some .int)) (by decide) rfl ?_
  intro p e s m args below meth c s₁ Q B hml hv hQ
  obtain ⟨rfl, hsz, hP, hK, hD0⟩ := hv
  have hx := B.exec
  have hb := B.bytes
  have hr := B.returns
  have hts := atoms_spec (ws := wsX12_walk) B.pre
  have hown : s.vm.findClass RX12 = some m.cls := findClass_of_methodNamed B.named
  have hlocks := B.notSynchronized
  subst hsz
  have hD := hD0.self (sz := s.heap.size)
  generalize hAe : va_A [(m0, .inr (14, [.int 0, .ref aS, .ref aI, .int 0, .int 0, .int 0, .int 0, .int 0, .int 0, .ref aB, .ref aT, .int 0, .int 0, .ref aG, .ref aO, .ref aN, .ref aD, .long 0, .ref aY, .int 0, .int 0, .int 0, .int 0])), (aS, .inl (cS, 901, .inl s0))] s.heap.size = A at hD hQ ⊢
  have hA : ∀ q : Nat, s.heap.size ≤ q → A q := fun q h => by rw [← hAe]; exact Or.inr h
  have hS : va_S A s.heap s.heap [] := va_S.rf
  have hl := lv_entry [.ref m0, .int x] (n := 2) (Nat.le_of_ble_eq_true rfl)
  rw [lg_entry_eq]
  generalize (lg_sl [.ref m0, .int x] ++ List.replicate (2 - (lg_sl [.ref m0, .int x]).length) Slot.unset).toArray = ls at hl ⊢
  generalize hag : ([.ref m0, .int x] : List Value).toArray = args at hts hQ ⊢
  have hl : lv_has ls 2 [(0, .ref m0), (1, .int x)] := hl
  obtain ⟨H, hH⟩ : ∃ H : Heap, H = s.heap := ⟨_, rfl⟩
  rw [← hH] at hP
  rw [← hH]
  have hS : va_S A s.heap H [] := by rw [hH]; exact hS
  obtain ⟨locs, hlo⟩ : ∃ L : List Loc, L = [] := ⟨_, rfl⟩
  rw [← hlo] at hS
  rw [← hlo]
  clear hH hlo
  refine lv_iload_n hx hb dX12_walk_0 rfl (lv_at hl 1 rfl) ?_
  refine lv_iconst (v := (-1)) hx hb dX12_walk_1 (by decide) ?_
  refine lv_icmp_ne (tgt := 14) hx hb dX12_walk_2 (by decide) (fun c_1 => ?_) (fun c_1 => ?_)
  · skip
    refine lv_iload_n hx hb dX12_walk_14 rfl (lv_at hl 1 rfl) ?_
    refine lv_iconst (v := 0) hx hb dX12_walk_15 (by decide) ?_
    refine lv_bipush (v := 7) hx hb dX12_walk_16 (by decide) ?_
    refine vp_callSi (va_runS (As := [.int x, .int 0, .int 7]) (rest := []) ⟨hx, hb, hml, hown, hts⟩ (c_in l dC dI x 0 7) (va_cwS 3 hts gX12_walk_X12_in rfl rfl rfl (by decide +kernel) ⟨Nat.le_of_ble_eq_true rfl, Nat.le_of_ble_eq_true rfl⟩) ⟨fun a U g mk q => ⟨q.1, trivial⟩, fun U hU hW => ⟨rfl, trivial⟩⟩ rfl rfl hl.1 rfl (lv_room (Nat.le_of_ble_eq_true rfl)) dX12_walk_18 ⟨Nat.le_of_ble_eq_true rfl, Nat.le_of_ble_eq_true rfl⟩).run (fun r_2 hw_3 => ?_)
    rcases hw_3 with ⟨rfl, h_4, h_5⟩ | ⟨rfl, h_6⟩
    · skip
      refine lv_if_ne (tgt := 26) hx hb dX12_walk_21 (by decide) (fun _ => ?_) (fun c_7 => absurd c_7 (by decide))
      refine lv_aload_n hx hb dX12_walk_26 rfl (lv_at hl 0 rfl) ?_
      refine va_get (D := (dC, dI)) (ci := 14) (v := .ref aS) (C := RX12) (T := TX12) (N := 23) hx hb hts kc_mWalk_0 hown hK hP 0 rfl rfl 1 (by decide) (hts (.fieldLink RX12 9 "MistHeapsModel" "s" "[I") kc_mWalk_1) (fun _ h9 => h9) rfl dX12_walk_27 ?_
      refine lv_iconst (v := 2) hx hb dX12_walk_30 (by decide) ?_
      refine va_iald hx hb hK hP 1 0 rfl rfl (vp_in_nI (n := 2) (N := 901) (by omega) (by omega)) dX12_walk_31 ?_
      refine qi_as (y := 0) (rfl) ?_
      refine lv_bipush (v := 6) hx hb dX12_walk_32 (by decide) ?_
      refine lv_icmp_ne (tgt := 40) hx hb dX12_walk_34 (by decide) (fun _ => ?_) (fun c_8 => absurd c_8 (by decide))
      refine lv_aload_n hx hb dX12_walk_40 rfl (lv_at hl 0 rfl) ?_
      refine va_get (D := (dC, dI)) (ci := 14) (v := .ref aS) (C := RX12) (T := TX12) (N := 23) hx hb hts kc_mWalk_0 hown hK hP 0 rfl rfl 1 (by decide) (hts (.fieldLink RX12 9 "MistHeapsModel" "s" "[I") kc_mWalk_1) (fun _ h9 => h9) rfl dX12_walk_41 ?_
      refine lv_bipush (v := 73) hx hb dX12_walk_44 (by decide) ?_
      refine lv_aload_n hx hb dX12_walk_46 rfl (lv_at hl 0 rfl) ?_
      refine va_get (D := (dC, dI)) (ci := 14) (v := .ref aS) (C := RX12) (T := TX12) (N := 23) hx hb hts kc_mWalk_0 hown hK hP 0 rfl rfl 1 (by decide) (hts (.fieldLink RX12 9 "MistHeapsModel" "s" "[I") kc_mWalk_1) (fun _ h9 => h9) rfl dX12_walk_47 ?_
      refine lv_iconst (v := 2) hx hb dX12_walk_50 (by decide) ?_
      refine va_iald hx hb hK hP 1 0 rfl rfl (vp_in_nI (n := 2) (N := 901) (by omega) (by omega)) dX12_walk_51 ?_
      refine qi_as (y := 0) (rfl) ?_
      refine lv_iadd hx hb dX12_walk_52 ?_
      refine qi_as (y := 73) (by decide) ?_
      refine lv_iload_n hx hb dX12_walk_53 rfl (lv_at hl 1 rfl) ?_
      refine va_iast hx hb hK hP hD hS 1 0 rfl rfl (vp_in_nI (n := 73) (N := 901) (by omega) (by omega)) dX12_walk_54 (fun H locs hP hD hS => ?_)
      have hP : va_P (dC, dI) vwCl [(m0, .inr (14, [.int 0, .ref aS, .ref aI, .int 0, .int 0, .int 0, .int 0, .int 0, .int 0, .ref aB, .ref aT, .int 0, .int 0, .ref aG, .ref aO, .ref aN, .ref aD, .long 0, .ref aY, .int 0, .int 0, .int 0, .int 0])), (aS, .inl (cS, 901, .inl (upd s0 73 x)))] H := hP
      have hD : va_D A [(m0, .inr (14, [.int 0, .ref aS, .ref aI, .int 0, .int 0, .int 0, .int 0, .int 0, .int 0, .ref aB, .ref aT, .int 0, .int 0, .ref aG, .ref aO, .ref aN, .ref aD, .long 0, .ref aY, .int 0, .int 0, .int 0, .int 0])), (aS, .inl (cS, 901, .inl (upd s0 73 x)))] := hD
      refine lv_aload_n hx hb dX12_walk_55 rfl (lv_at hl 0 rfl) ?_
      refine va_get (D := (dC, dI)) (ci := 14) (v := .ref aS) (C := RX12) (T := TX12) (N := 23) hx hb hts kc_mWalk_0 hown hK hP 0 rfl rfl 1 (by decide) (hts (.fieldLink RX12 9 "MistHeapsModel" "s" "[I") kc_mWalk_1) (fun _ h9 => h9) rfl dX12_walk_56 ?_
      refine lv_iconst (v := 2) hx hb dX12_walk_59 (by decide) ?_
      refine lv_dup2_11 hx hb dX12_walk_60 rfl rfl ?_
      refine va_iald hx hb hK hP 1 0 rfl rfl (vp_in_nI (n := 2) (N := 901) (by omega) (by omega)) dX12_walk_61 ?_
      refine qi_as (y := 0) (rfl) ?_
      refine lv_iconst (v := 1) hx hb dX12_walk_62 (by decide) ?_
      refine lv_iadd hx hb dX12_walk_63 ?_
      refine qi_as (y := 1) (by decide) ?_
      refine va_iast hx hb hK hP hD hS 1 0 rfl rfl (vp_in_nI (n := 2) (N := 901) (by omega) (by omega)) dX12_walk_64 (fun H locs hP hD hS => ?_)
      have hP : va_P (dC, dI) vwCl [(m0, .inr (14, [.int 0, .ref aS, .ref aI, .int 0, .int 0, .int 0, .int 0, .int 0, .int 0, .ref aB, .ref aT, .int 0, .int 0, .ref aG, .ref aO, .ref aN, .ref aD, .long 0, .ref aY, .int 0, .int 0, .int 0, .int 0])), (aS, .inl (cS, 901, .inl (upd (upd s0 73 x) 2 1)))] H := hP
      have hD : va_D A [(m0, .inr (14, [.int 0, .ref aS, .ref aI, .int 0, .int 0, .int 0, .int 0, .int 0, .int 0, .ref aB, .ref aT, .int 0, .int 0, .ref aG, .ref aO, .ref aN, .ref aD, .long 0, .ref aY, .int 0, .int 0, .int 0, .int 0])), (aS, .inl (cS, 901, .inl (upd (upd s0 73 x) 2 1)))] := hD
      refine lv_aload_n hx hb dX12_walk_65 rfl (lv_at hl 0 rfl) ?_
      refine va_get (D := (dC, dI)) (ci := 14) (v := .ref aS) (C := RX12) (T := TX12) (N := 23) hx hb hts kc_mWalk_0 hown hK hP 0 rfl rfl 1 (by decide) (hts (.fieldLink RX12 9 "MistHeapsModel" "s" "[I") kc_mWalk_1) (fun _ h9 => h9) rfl dX12_walk_66 ?_
      refine lv_iconst (v := 2) hx hb dX12_walk_69 (by decide) ?_
      refine va_iald hx hb hK hP 1 0 rfl rfl (vp_in_nI (n := 2) (N := 901) (by omega) (by omega)) dX12_walk_70 ?_
      refine qi_as (y := 1) (rfl) ?_
      rw [hQ]
      exact W.iret (v := 1) hx hb hr (fun t ht hW => ⟨⟨1, (), rfl, by simp only [f_walk]; (repeat' split) <;> simp_all, trivial⟩, hS.F ht⟩) hS.2.2 dX12_walk_71
    · skip
      refine lv_if_ne (tgt := 26) hx hb dX12_walk_21 (by decide) (fun c_9 => absurd c_9 (by decide)) (fun _ => ?_)
      refine lv_iconst (v := (-1)) hx hb dX12_walk_24 (by decide) ?_
      rw [hQ]
      exact W.iret (v := (-1)) hx hb hr (fun t ht hW => ⟨⟨(-1), (), rfl, by simp only [f_walk]; (repeat' split) <;> simp_all, trivial⟩, hS.F ht⟩) hS.2.2 dX12_walk_25
  · skip
    refine lv_aload_n hx hb dX12_walk_5 rfl (lv_at hl 0 rfl) ?_
    refine va_get (D := (dC, dI)) (ci := 14) (v := .ref aS) (C := RX12) (T := TX12) (N := 23) hx hb hts kc_mWalk_0 hown hK hP 0 rfl rfl 1 (by decide) (hts (.fieldLink RX12 9 "MistHeapsModel" "s" "[I") kc_mWalk_1) (fun _ h9 => h9) rfl dX12_walk_6 ?_
    refine lv_iconst (v := 2) hx hb dX12_walk_9 (by decide) ?_
    refine lv_iconst (v := 0) hx hb dX12_walk_10 (by decide) ?_
    refine va_iast hx hb hK hP hD hS 1 0 rfl rfl (vp_in_nI (n := 2) (N := 901) (by omega) (by omega)) dX12_walk_11 (fun H locs hP hD hS => ?_)
    have hP : va_P (dC, dI) vwCl [(m0, .inr (14, [.int 0, .ref aS, .ref aI, .int 0, .int 0, .int 0, .int 0, .int 0, .int 0, .ref aB, .ref aT, .int 0, .int 0, .ref aG, .ref aO, .ref aN, .ref aD, .long 0, .ref aY, .int 0, .int 0, .int 0, .int 0])), (aS, .inl (cS, 901, .inl (upd s0 2 0)))] H := hP
    have hD : va_D A [(m0, .inr (14, [.int 0, .ref aS, .ref aI, .int 0, .int 0, .int 0, .int 0, .int 0, .int 0, .ref aB, .ref aT, .int 0, .int 0, .ref aG, .ref aO, .ref aN, .ref aD, .long 0, .ref aY, .int 0, .int 0, .int 0, .int 0])), (aS, .inl (cS, 901, .inl (upd s0 2 0)))] := hD
    refine lv_iconst (v := 0) hx hb dX12_walk_12 (by decide) ?_
    rw [hQ]
    exact W.iret (v := 0) hx hb hr (fun t ht hW => ⟨⟨0, (), rfl, by simp only [f_walk]; (repeat' split) <;> simp_all, trivial⟩, hS.F ht⟩) hS.2.2 dX12_walk_13

theorem kc_mBook_0 : ∀ w ∈ wsX120, w ∈ wsX12_book := by decide +kernel
theorem kc_mBook_1 : (.fieldLink RX12 9 "MistHeapsModel" "s" "[I" : Cond) ∈ wsX12_book := by decide +kernel
set_option maxHeartbeats 4000000 in
set_option maxRecDepth 100000 in
theorem c_mBook (l : Launch) (dC : Nat → ClassId) (dI : Nat → Nat → Nat) (m0 aS aI aB aT aG aO aN aD aY : Nat) (cS : ClassId) (x : Int32) (sz : Nat) : Met l yX12_book wsX12_book ({ frames := 2, cells := 0, slots := 0, locals := 43 } : Room) (va_Pc [.ref m0, .int x] (fun U => U.heap.size = sz ∧ va_P (dC, dI) vwCl [(m0, .inr (14, [.int 0, .ref aS, .ref aI, .int 0, .int 0, .int 0, .int 0, .int 0, .int 0, .ref aB, .ref aT, .int 0, .int 0, .ref aG, .ref aO, .ref aN, .ref aD, .long 0, .ref aY, .int 0, .int 0, .int 0, .int 0])), (aS, .inl (cS, 901, .inl s0))] U.heap ∧ va_K (dC, dI) vwCl [(cS, .int)] U ∧ va_D (fun _ => True) [(m0, .inr (14, [.int 0, .ref aS, .ref aI, .int 0, .int 0, .int 0, .int 0, .int 0, .int 0, .ref aB, .ref aT, .int 0, .int 0, .ref aG, .ref aO, .ref aN, .ref aD, .long 0, .ref aY, .int 0, .int 0, .int 0, .int 0])), (aS, .inl (cS, 901, .inl s0))])) (va_Qi (fun (r : Int32) (u : Unit) => match u with | () => r = f_book x) (fun (u : Unit) (t : State) => match u with | () => True) (va_A [(m0, .inr (14, [.int 0, .ref aS, .ref aI, .int 0, .int 0, .int 0, .int 0, .int 0, .int 0, .ref aB, .ref aT, .int 0, .int 0, .ref aG, .ref aO, .ref aN, .ref aD, .long 0, .ref aY, .int 0, .int 0, .int 0, .int 0])), (aS, .inl (cS, 901, .inl s0))] sz)) 0 0 (va_A [(m0, .inr (14, [.int 0, .ref aS, .ref aI, .int 0, .int 0, .int 0, .int 0, .int 0, .int 0, .ref aB, .ref aT, .int 0, .int 0, .ref aG, .ref aO, .ref aN, .ref aD, .long 0, .ref aY, .int 0, .int 0, .int 0, .int 0])), (aS, .inl (cS, 901, .inl s0))] sz) := by
  refine met_ofQ (cc := cX12_book) (maxL := 2) (ret := (some .int)) (by decide) rfl ?_
  intro p e s m args below meth c s₁ Q B hml hv hQ
  obtain ⟨rfl, hsz, hP, hK, hD0⟩ := hv
  have hx := B.exec
  have hb := B.bytes
  have hr := B.returns
  have hts := atoms_spec (ws := wsX12_book) B.pre
  have hown : s.vm.findClass RX12 = some m.cls := findClass_of_methodNamed B.named
  have hlocks := B.notSynchronized
  subst hsz
  have hD := hD0.self (sz := s.heap.size)
  generalize hAe : va_A [(m0, .inr (14, [.int 0, .ref aS, .ref aI, .int 0, .int 0, .int 0, .int 0, .int 0, .int 0, .ref aB, .ref aT, .int 0, .int 0, .ref aG, .ref aO, .ref aN, .ref aD, .long 0, .ref aY, .int 0, .int 0, .int 0, .int 0])), (aS, .inl (cS, 901, .inl s0))] s.heap.size = A at hD hQ ⊢
  have hA : ∀ q : Nat, s.heap.size ≤ q → A q := fun q h => by rw [← hAe]; exact Or.inr h
  have hS : va_S A s.heap s.heap [] := va_S.rf
  have hl := lv_entry [.ref m0, .int x] (n := 2) (Nat.le_of_ble_eq_true rfl)
  rw [lg_entry_eq]
  generalize (lg_sl [.ref m0, .int x] ++ List.replicate (2 - (lg_sl [.ref m0, .int x]).length) Slot.unset).toArray = ls at hl ⊢
  generalize hag : ([.ref m0, .int x] : List Value).toArray = args at hts hQ ⊢
  have hl : lv_has ls 2 [(0, .ref m0), (1, .int x)] := hl
  obtain ⟨H, hH⟩ : ∃ H : Heap, H = s.heap := ⟨_, rfl⟩
  rw [← hH] at hP
  rw [← hH]
  have hS : va_S A s.heap H [] := by rw [hH]; exact hS
  obtain ⟨locs, hlo⟩ : ∃ L : List Loc, L = [] := ⟨_, rfl⟩
  rw [← hlo] at hS
  rw [← hlo]
  clear hH hlo
  refine lv_iload_n hx hb dX12_book_0 rfl (lv_at hl 1 rfl) ?_
  refine lv_iconst (v := (-1)) hx hb dX12_book_1 (by decide) ?_
  refine lv_icmp_ne (tgt := 14) hx hb dX12_book_2 (by decide) (fun c_1 => ?_) (fun c_1 => ?_)
  · skip
    refine lv_aload_n hx hb dX12_book_14 rfl (lv_at hl 0 rfl) ?_
    refine lv_iload_n hx hb dX12_book_15 rfl (lv_at hl 1 rfl) ?_
    have hPc := hP.sub (ws' := [(m0, .inr (14, [.int 0, .ref aS, .ref aI, .int 0, .int 0, .int 0, .int 0, .int 0, .int 0, .ref aB, .ref aT, .int 0, .int 0, .ref aG, .ref aO, .ref aN, .ref aD, .long 0, .ref aY, .int 0, .int 0, .int 0, .int 0])), (aS, .inl (cS, 901, .inl s0))]) [0, 1] rfl
    have hKc := hK.sub (tys' := [(cS, .int)]) [0] rfl
    refine vp_callSi (va_runV (As := [.int x]) (rest := []) ⟨hx, hb, hml, hown, hts⟩ (c_mHeap0 l dC dI m0 aS aI aB aT aG aO aN aD aY cS x) (cwV 1 hts gX12_book_X12_isHeap rfl rfl rfl (by decide +kernel) ⟨Nat.le_of_ble_eq_true rfl, Nat.le_of_ble_eq_true rfl⟩) ⟨fun a U g mk q => by obtain ⟨q0, qP, qK⟩ := q; exact ⟨q0, qP, va_K.moved (u := U) (U := U.calling g mk a) (Vm.Alike.refl U.vm) qK⟩, va_recv hK hP (ci := 14) (q0 := 0) rfl rfl, fun U hU hW => ⟨rfl, by rw [hU]; exact hPc, va_K.moved hW.alike hKc⟩⟩ rfl rfl hl.1 rfl (lv_room (Nat.le_of_ble_eq_true rfl)) dX12_book_16 ⟨Nat.le_of_ble_eq_true rfl, Nat.le_of_ble_eq_true rfl⟩).run (fun r_2 hw_3 => ?_)
    refine qi_as (y := 0) (hw_3) ?_
    refine lv_if_ne (tgt := 24) hx hb dX12_book_19 (by decide) (fun c_4 => absurd c_4 (by decide)) (fun _ => ?_)
    refine lv_iconst (v := (-1)) hx hb dX12_book_22 (by decide) ?_
    rw [hQ]
    exact W.iret (v := (-1)) hx hb hr (fun t ht hW => ⟨⟨(-1), (), rfl, by simp only [f_book]; (repeat' split) <;> simp_all, trivial⟩, hS.F ht⟩) hS.2.2 dX12_book_23
  · skip
    refine lv_aload_n hx hb dX12_book_5 rfl (lv_at hl 0 rfl) ?_
    refine va_get (D := (dC, dI)) (ci := 14) (v := .ref aS) (C := RX12) (T := TX12) (N := 23) hx hb hts kc_mBook_0 hown hK hP 0 rfl rfl 1 (by decide) (hts (.fieldLink RX12 9 "MistHeapsModel" "s" "[I") kc_mBook_1) (fun _ h9 => h9) rfl dX12_book_6 ?_
    refine lv_iconst (v := 3) hx hb dX12_book_9 (by decide) ?_
    refine lv_iconst (v := 0) hx hb dX12_book_10 (by decide) ?_
    refine va_iast hx hb hK hP hD hS 1 0 rfl rfl (vp_in_nI (n := 3) (N := 901) (by omega) (by omega)) dX12_book_11 (fun H locs hP hD hS => ?_)
    have hP : va_P (dC, dI) vwCl [(m0, .inr (14, [.int 0, .ref aS, .ref aI, .int 0, .int 0, .int 0, .int 0, .int 0, .int 0, .ref aB, .ref aT, .int 0, .int 0, .ref aG, .ref aO, .ref aN, .ref aD, .long 0, .ref aY, .int 0, .int 0, .int 0, .int 0])), (aS, .inl (cS, 901, .inl (upd s0 3 0)))] H := hP
    have hD : va_D A [(m0, .inr (14, [.int 0, .ref aS, .ref aI, .int 0, .int 0, .int 0, .int 0, .int 0, .int 0, .ref aB, .ref aT, .int 0, .int 0, .ref aG, .ref aO, .ref aN, .ref aD, .long 0, .ref aY, .int 0, .int 0, .int 0, .int 0])), (aS, .inl (cS, 901, .inl (upd s0 3 0)))] := hD
    refine lv_iconst (v := 0) hx hb dX12_book_12 (by decide) ?_
    rw [hQ]
    exact W.iret (v := 0) hx hb hr (fun t ht hW => ⟨⟨0, (), rfl, by simp only [f_book]; (repeat' split) <;> simp_all, trivial⟩, hS.F ht⟩) hS.2.2 dX12_book_13

theorem kc_mAct_0 : ∀ w ∈ wsX120, w ∈ wsX12_act := by decide +kernel
theorem kc_mAct_1 : (.fieldLink RX12 246 "MistHeapsModel" "ran" "I" : Cond) ∈ wsX12_act := by decide +kernel
set_option maxHeartbeats 4000000 in
set_option maxRecDepth 100000 in
theorem c_mAct (l : Launch) (dC : Nat → ClassId) (dI : Nat → Nat → Nat) (m0 aS aI aB aT aG aO aN aD aY : Nat) (cS : ClassId) (x y z : Int32) (sz : Nat) : Met l yX12_act wsX12_act ({ frames := 2, cells := 0, slots := 0, locals := 43 } : Room) (va_Pc [.ref m0, .int x, .int y, .int z] (fun U => U.heap.size = sz ∧ va_P (dC, dI) vwCl [(m0, .inr (14, [.int 0, .ref aS, .ref aI, .int 0, .int 0, .int 0, .int 0, .int 0, .int 0, .ref aB, .ref aT, .int 0, .int 0, .ref aG, .ref aO, .ref aN, .ref aD, .long 0, .ref aY, .int 0, .int 0, .int 0, .int 0])), (aS, .inl (cS, 901, .inl s0))] U.heap ∧ va_K (dC, dI) vwCl [(cS, .int)] U ∧ va_D (fun _ => True) [(m0, .inr (14, [.int 0, .ref aS, .ref aI, .int 0, .int 0, .int 0, .int 0, .int 0, .int 0, .ref aB, .ref aT, .int 0, .int 0, .ref aG, .ref aO, .ref aN, .ref aD, .long 0, .ref aY, .int 0, .int 0, .int 0, .int 0])), (aS, .inl (cS, 901, .inl s0))])) (va_Qi (fun (r : Int32) (u : Unit) => match u with | () => r = 0) (fun (u : Unit) (t : State) => match u with | () => True) (va_A [(m0, .inr (14, [.int 0, .ref aS, .ref aI, .int 0, .int 0, .int 0, .int 0, .int 0, .int 0, .ref aB, .ref aT, .int 0, .int 0, .ref aG, .ref aO, .ref aN, .ref aD, .long 0, .ref aY, .int 0, .int 0, .int 0, .int 0])), (aS, .inl (cS, 901, .inl s0))] sz)) 0 0 (va_A [(m0, .inr (14, [.int 0, .ref aS, .ref aI, .int 0, .int 0, .int 0, .int 0, .int 0, .int 0, .ref aB, .ref aT, .int 0, .int 0, .ref aG, .ref aO, .ref aN, .ref aD, .long 0, .ref aY, .int 0, .int 0, .int 0, .int 0])), (aS, .inl (cS, 901, .inl s0))] sz) := by
  refine met_ofQ (cc := cX12_act) (maxL := 4) (ret := (some .int)) (by decide) rfl ?_
  intro p e s m args below meth c s₁ Q B hml hv hQ
  obtain ⟨rfl, hsz, hP, hK, hD0⟩ := hv
  have hx := B.exec
  have hb := B.bytes
  have hr := B.returns
  have hts := atoms_spec (ws := wsX12_act) B.pre
  have hown : s.vm.findClass RX12 = some m.cls := findClass_of_methodNamed B.named
  have hlocks := B.notSynchronized
  subst hsz
  have hD := hD0.self (sz := s.heap.size)
  generalize hAe : va_A [(m0, .inr (14, [.int 0, .ref aS, .ref aI, .int 0, .int 0, .int 0, .int 0, .int 0, .int 0, .ref aB, .ref aT, .int 0, .int 0, .ref aG, .ref aO, .ref aN, .ref aD, .long 0, .ref aY, .int 0, .int 0, .int 0, .int 0])), (aS, .inl (cS, 901, .inl s0))] s.heap.size = A at hD hQ ⊢
  have hA : ∀ q : Nat, s.heap.size ≤ q → A q := fun q h => by rw [← hAe]; exact Or.inr h
  have hS : va_S A s.heap s.heap [] := va_S.rf
  have hl := lv_entry [.ref m0, .int x, .int y, .int z] (n := 4) (Nat.le_of_ble_eq_true rfl)
  rw [lg_entry_eq]
  generalize (lg_sl [.ref m0, .int x, .int y, .int z] ++ List.replicate (4 - (lg_sl [.ref m0, .int x, .int y, .int z]).length) Slot.unset).toArray = ls at hl ⊢
  generalize hag : ([.ref m0, .int x, .int y, .int z] : List Value).toArray = args at hts hQ ⊢
  have hl : lv_has ls 4 [(0, .ref m0), (1, .int x), (2, .int y), (3, .int z)] := hl
  obtain ⟨H, hH⟩ : ∃ H : Heap, H = s.heap := ⟨_, rfl⟩
  rw [← hH] at hP
  rw [← hH]
  have hS : va_S A s.heap H [] := by rw [hH]; exact hS
  obtain ⟨locs, hlo⟩ : ∃ L : List Loc, L = [] := ⟨_, rfl⟩
  rw [← hlo] at hS
  rw [← hlo]
  clear hH hlo
  refine lv_aload_n hx hb dX12_act_0 rfl (lv_at hl 0 rfl) ?_
  refine lv_iconst (v := 0) hx hb dX12_act_1 (by decide) ?_
  refine va_put (D := (dC, dI)) (ci := 14) (v := .int 0) (ty := .int) (C := RX12) (T := TX12) (N := 23) hx hb hts kc_mAct_0 tyX12 tyX12_ok nmX12 hown hK hP hD hS 0 rfl rfl 19 (by decide) (hts (.fieldLink RX12 246 "MistHeapsModel" "ran" "I") kc_mAct_1) (fun _ h9 => h9) rfl (by decide +kernel) rfl rfl (Nat.le_of_ble_eq_true rfl) dX12_act_2 (fun H locs hP hD hS => ?_)
  have hP : va_P (dC, dI) vwCl [(m0, .inr (14, [.int 0, .ref aS, .ref aI, .int 0, .int 0, .int 0, .int 0, .int 0, .int 0, .ref aB, .ref aT, .int 0, .int 0, .ref aG, .ref aO, .ref aN, .ref aD, .long 0, .ref aY, .int 0, .int 0, .int 0, .int 0])), (aS, .inl (cS, 901, .inl s0))] H := hP
  have hD : va_D A [(m0, .inr (14, [.int 0, .ref aS, .ref aI, .int 0, .int 0, .int 0, .int 0, .int 0, .int 0, .ref aB, .ref aT, .int 0, .int 0, .ref aG, .ref aO, .ref aN, .ref aD, .long 0, .ref aY, .int 0, .int 0, .int 0, .int 0])), (aS, .inl (cS, 901, .inl s0))] := hD
  refine lv_aload_n hx hb dX12_act_5 rfl (lv_at hl 0 rfl) ?_
  refine lv_iload_n hx hb dX12_act_6 rfl (lv_at hl 1 rfl) ?_
  have hPc := hP.sub (ws' := [(m0, .inr (14, [.int 0, .ref aS, .ref aI, .int 0, .int 0, .int 0, .int 0, .int 0, .int 0, .ref aB, .ref aT, .int 0, .int 0, .ref aG, .ref aO, .ref aN, .ref aD, .long 0, .ref aY, .int 0, .int 0, .int 0, .int 0])), (aS, .inl (cS, 901, .inl s0))]) [0, 1] rfl
  have hKc := hK.sub (tys' := [(cS, .int)]) [0] rfl
  refine vp_callSi (va_runV (As := [.int x]) (rest := []) ⟨hx, hb, hml, hown, hts⟩ (c_mHeap0 l dC dI m0 aS aI aB aT aG aO aN aD aY cS x) (cwV 1 hts gX12_act_X12_isHeap rfl rfl rfl (by decide +kernel) ⟨Nat.le_of_ble_eq_true rfl, Nat.le_of_ble_eq_true rfl⟩) ⟨fun a U g mk q => by obtain ⟨q0, qP, qK⟩ := q; exact ⟨q0, qP, va_K.moved (u := U) (U := U.calling g mk a) (Vm.Alike.refl U.vm) qK⟩, va_recv hK hP (ci := 14) (q0 := 0) rfl rfl, fun U hU hW => ⟨rfl, by rw [hU]; exact hPc, va_K.moved hW.alike hKc⟩⟩ rfl rfl hl.1 rfl (lv_room (Nat.le_of_ble_eq_true rfl)) dX12_act_7 ⟨Nat.le_of_ble_eq_true rfl, Nat.le_of_ble_eq_true rfl⟩).run (fun r_1 hw_2 => ?_)
  refine qi_as (y := 0) (hw_2) ?_
  refine lv_if_eq (tgt := 22) hx hb dX12_act_10 (by decide) (fun _ => ?_) (fun c_3 => absurd c_3 (by decide))
  refine lv_iconst (v := 0) hx hb dX12_act_22 (by decide) ?_
  rw [hQ]
  exact W.iret (v := 0) hx hb hr (fun t ht hW => ⟨⟨0, (), rfl, rfl, trivial⟩, hS.F ht⟩) hS.2.2 dX12_act_23

theorem kc_mImage_0 : ∀ w ∈ wsX120, w ∈ wsX12_image := by decide +kernel
theorem kc_mImage_1 : (.fieldLink RX12 282 "MistHeapsModel" "hasImage" "Z" : Cond) ∈ wsX12_image := by decide +kernel
theorem kc_mImage_2 : (.fieldLink RX12 9 "MistHeapsModel" "s" "[I" : Cond) ∈ wsX12_image := by decide +kernel
theorem kc_mImage_3 : (.fieldLink RX12 15 "MistHeapsModel" "image" "[I" : Cond) ∈ wsX12_image := by decide +kernel
set_option maxHeartbeats 4000000 in
set_option maxRecDepth 100000 in
theorem c_mImage (l : Launch) (dC : Nat → ClassId) (dI : Nat → Nat → Nat) (m0 aS aI aB aT aG aO aN aD aY : Nat) (cS : ClassId) (cI : ClassId) (fI : Nat → Int32) (sz : Nat) : Met l yX12_image wsX12_image ({ frames := 0, cells := 0, slots := 0, locals := 0 } : Room) (va_Pc [.ref m0] (fun U => U.heap.size = sz ∧ va_P (dC, dI) vwCl [(m0, .inr (14, [.int 0, .ref aS, .ref aI, .int 0, .int 0, .int 0, .int 0, .int 0, .int 0, .ref aB, .ref aT, .int 0, .int 0, .ref aG, .ref aO, .ref aN, .ref aD, .long 0, .ref aY, .int 0, .int 0, .int 0, .int 0])), (aS, .inl (cS, 901, .inl s0)), (aI, .inl (cI, 901, .inl fI))] U.heap ∧ va_K (dC, dI) vwCl [(cS, .int), (cI, .int)] U ∧ va_D (fun _ => True) [(m0, .inr (14, [.int 0, .ref aS, .ref aI, .int 0, .int 0, .int 0, .int 0, .int 0, .int 0, .ref aB, .ref aT, .int 0, .int 0, .ref aG, .ref aO, .ref aN, .ref aD, .long 0, .ref aY, .int 0, .int 0, .int 0, .int 0])), (aS, .inl (cS, 901, .inl s0)), (aI, .inl (cI, 901, .inl fI))])) (va_Qi (fun (r : Int32) (u : Unit) => match u with | () => r = 0) (fun (u : Unit) (t : State) => match u with | () => True) (va_A [(m0, .inr (14, [.int 0, .ref aS, .ref aI, .int 0, .int 0, .int 0, .int 0, .int 0, .int 0, .ref aB, .ref aT, .int 0, .int 0, .ref aG, .ref aO, .ref aN, .ref aD, .long 0, .ref aY, .int 0, .int 0, .int 0, .int 0])), (aS, .inl (cS, 901, .inl s0)), (aI, .inl (cI, 901, .inl fI))] sz)) 0 0 (va_A [(m0, .inr (14, [.int 0, .ref aS, .ref aI, .int 0, .int 0, .int 0, .int 0, .int 0, .int 0, .ref aB, .ref aT, .int 0, .int 0, .ref aG, .ref aO, .ref aN, .ref aD, .long 0, .ref aY, .int 0, .int 0, .int 0, .int 0])), (aS, .inl (cS, 901, .inl s0)), (aI, .inl (cI, 901, .inl fI))] sz) := by
  refine met_ofQ (cc := cX12_image) (maxL := 2) (ret := (some .int)) (by decide) rfl ?_
  intro p e s m args below meth c s₁ Q B hml hv hQ
  obtain ⟨rfl, hsz, hP, hK, hD0⟩ := hv
  have hx := B.exec
  have hb := B.bytes
  have hr := B.returns
  have hts := atoms_spec (ws := wsX12_image) B.pre
  have hown : s.vm.findClass RX12 = some m.cls := findClass_of_methodNamed B.named
  have hlocks := B.notSynchronized
  subst hsz
  have hD := hD0.self (sz := s.heap.size)
  generalize hAe : va_A [(m0, .inr (14, [.int 0, .ref aS, .ref aI, .int 0, .int 0, .int 0, .int 0, .int 0, .int 0, .ref aB, .ref aT, .int 0, .int 0, .ref aG, .ref aO, .ref aN, .ref aD, .long 0, .ref aY, .int 0, .int 0, .int 0, .int 0])), (aS, .inl (cS, 901, .inl s0)), (aI, .inl (cI, 901, .inl fI))] s.heap.size = A at hD hQ ⊢
  have hA : ∀ q : Nat, s.heap.size ≤ q → A q := fun q h => by rw [← hAe]; exact Or.inr h
  have hS : va_S A s.heap s.heap [] := va_S.rf
  have hl := lv_entry [.ref m0] (n := 2) (Nat.le_of_ble_eq_true rfl)
  rw [lg_entry_eq]
  generalize (lg_sl [.ref m0] ++ List.replicate (2 - (lg_sl [.ref m0]).length) Slot.unset).toArray = ls at hl ⊢
  generalize hag : ([.ref m0] : List Value).toArray = args at hts hQ ⊢
  have hl : lv_has ls 2 [(0, .ref m0)] := hl
  obtain ⟨H, hH⟩ : ∃ H : Heap, H = s.heap := ⟨_, rfl⟩
  rw [← hH] at hP
  rw [← hH]
  have hS : va_S A s.heap H [] := by rw [hH]; exact hS
  obtain ⟨locs, hlo⟩ : ∃ L : List Loc, L = [] := ⟨_, rfl⟩
  rw [← hlo] at hS
  rw [← hlo]
  clear hH hlo
  refine lv_iconst (v := 0) hx hb dX12_image_0 (by decide) ?_
  refine lv_istore_n (lv' := [(1, .int 0), (0, .ref m0)]) hx hb dX12_image_1 rfl hl (by decide) rfl (fun ls hl => ?_)
  have L2 : ∀ (n : Nat) (i : Nat) (f : Nat → Int32), 901 - i < n → i ≤ 901 → ∀ (H : Heap) (locs : List Loc), va_K (dC, dI) vwCl [(cS, .int), (cI, .int)] s → va_P (dC, dI) vwCl [(m0, .inr (14, [.int 0, .ref aS, .ref aI, .int 0, .int 0, .int 0, .int 0, .int 0, .int 0, .ref aB, .ref aT, .int 0, .int 0, .ref aG, .ref aO, .ref aN, .ref aD, .long 0, .ref aY, .int 0, .int 0, .int 0, .int 0])), (aS, .inl (cS, 901, .inl s0)), (aI, .inl (cI, 901, .inl f))] H → va_D A [(m0, .inr (14, [.int 0, .ref aS, .ref aI, .int 0, .int 0, .int 0, .int 0, .int 0, .int 0, .ref aB, .ref aT, .int 0, .int 0, .ref aG, .ref aO, .ref aN, .ref aD, .long 0, .ref aY, .int 0, .int 0, .int 0, .int 0])), (aS, .inl (cS, 901, .inl s0)), (aI, .inl (cI, 901, .inl f))] → va_S A s.heap H locs → ∀ (ls : Array Slot), lv_has ls 2 [(0, .ref m0), (1, .int (nI i))] → W p l e ({ frames := 0, cells := 0, slots := 0, locals := 0 } : Room) s m args below meth c H locs 0 0 Q (F0 m 2 ls []) := by
    intro n
    induction n with
    | zero => intro i f hm; exact absurd hm (Nat.not_lt_zero _)
    | succ n ih2 =>
      intro i f hm hi H locs hK hP hD hS ls hl
      refine lv_iload_n hx hb dX12_image_2 rfl (lv_at hl 1 rfl) ?_
      refine lv_sipush (v := 901) hx hb dX12_image_3 (by decide) ?_
      refine lv_icmp_ge (tgt := 27) hx hb dX12_image_6 (by decide) (fun c_1 => ?_) (fun c_1 => ?_)
      · skip
        have c_1 : 901 ≤ i := (nI_leI (a := 901) (b := i) (by omega) (by omega)).mp c_1
        refine lv_aload_n hx hb dX12_image_27 rfl (lv_at hl 0 rfl) ?_
        refine lv_iconst (v := 1) hx hb dX12_image_28 (by decide) ?_
        refine va_put (D := (dC, dI)) (ci := 14) (v := .int 1) (ty := .boolean) (C := RX12) (T := TX12) (N := 23) hx hb hts kc_mImage_0 tyX12 tyX12_ok nmX12 hown hK hP hD hS 0 rfl rfl 3 (by decide) (hts (.fieldLink RX12 282 "MistHeapsModel" "hasImage" "Z") kc_mImage_1) (fun _ h9 => h9) rfl (by decide +kernel) rfl rfl (Nat.le_of_ble_eq_true rfl) dX12_image_29 (fun H locs hP hD hS => ?_)
        have hP : va_P (dC, dI) vwCl [(m0, .inr (14, [.int 0, .ref aS, .ref aI, .int 1, .int 0, .int 0, .int 0, .int 0, .int 0, .ref aB, .ref aT, .int 0, .int 0, .ref aG, .ref aO, .ref aN, .ref aD, .long 0, .ref aY, .int 0, .int 0, .int 0, .int 0])), (aS, .inl (cS, 901, .inl s0)), (aI, .inl (cI, 901, .inl f))] H := hP
        have hD : va_D A [(m0, .inr (14, [.int 0, .ref aS, .ref aI, .int 1, .int 0, .int 0, .int 0, .int 0, .int 0, .ref aB, .ref aT, .int 0, .int 0, .ref aG, .ref aO, .ref aN, .ref aD, .long 0, .ref aY, .int 0, .int 0, .int 0, .int 0])), (aS, .inl (cS, 901, .inl s0)), (aI, .inl (cI, 901, .inl f))] := hD
        refine lv_aload_n hx hb dX12_image_32 rfl (lv_at hl 0 rfl) ?_
        refine va_get (D := (dC, dI)) (ci := 14) (v := .ref aS) (C := RX12) (T := TX12) (N := 23) hx hb hts kc_mImage_0 hown hK hP 0 rfl rfl 1 (by decide) (hts (.fieldLink RX12 9 "MistHeapsModel" "s" "[I") kc_mImage_2) (fun _ h9 => h9) rfl dX12_image_33 ?_
        refine lv_iconst (v := 0) hx hb dX12_image_36 (by decide) ?_
        refine va_iald hx hb hK hP 1 0 rfl rfl (vp_in_nI (n := 0) (N := 901) (by omega) (by omega)) dX12_image_37 ?_
        refine qi_as (y := 0) (rfl) ?_
        rw [hQ]
        exact W.iret (v := 0) hx hb hr (fun t ht hW => ⟨⟨0, (), rfl, rfl, trivial⟩, hS.F ht⟩) hS.2.2 dX12_image_38
      · skip
        have c_1 : ¬ 901 ≤ i := fun q => c_1 ((nI_leI (a := 901) (b := i) (by omega) (by omega)).mpr q)
        refine lv_aload_n hx hb dX12_image_9 rfl (lv_at hl 0 rfl) ?_
        refine va_get (D := (dC, dI)) (ci := 14) (v := .ref aI) (C := RX12) (T := TX12) (N := 23) hx hb hts kc_mImage_0 hown hK hP 0 rfl rfl 2 (by decide) (hts (.fieldLink RX12 15 "MistHeapsModel" "image" "[I") kc_mImage_3) (fun _ h9 => h9) rfl dX12_image_10 ?_
        refine lv_iload_n hx hb dX12_image_13 rfl (lv_at hl 1 rfl) ?_
        refine lv_aload_n hx hb dX12_image_14 rfl (lv_at hl 0 rfl) ?_
        refine va_get (D := (dC, dI)) (ci := 14) (v := .ref aS) (C := RX12) (T := TX12) (N := 23) hx hb hts kc_mImage_0 hown hK hP 0 rfl rfl 1 (by decide) (hts (.fieldLink RX12 9 "MistHeapsModel" "s" "[I") kc_mImage_2) (fun _ h9 => h9) rfl dX12_image_15 ?_
        refine lv_iload_n hx hb dX12_image_18 rfl (lv_at hl 1 rfl) ?_
        refine va_iald hx hb hK hP 1 0 rfl rfl (vp_in_nI (n := i) (N := 901) (by omega) (by omega)) dX12_image_19 ?_
        refine qi_as (y := s0 i) (by rw [nI_clamp (by omega)]) ?_
        refine va_iast hx hb hK hP hD hS 2 1 rfl rfl (vp_in_nI (n := i) (N := 901) (by omega) (by omega)) dX12_image_20 (fun H locs hP hD hS => ?_)
        rw [nI_clamp (n := i) (by omega)] at hP hD
        have hP : va_P (dC, dI) vwCl [(m0, .inr (14, [.int 0, .ref aS, .ref aI, .int 0, .int 0, .int 0, .int 0, .int 0, .int 0, .ref aB, .ref aT, .int 0, .int 0, .ref aG, .ref aO, .ref aN, .ref aD, .long 0, .ref aY, .int 0, .int 0, .int 0, .int 0])), (aS, .inl (cS, 901, .inl s0)), (aI, .inl (cI, 901, .inl (upd f i (s0 i))))] H := hP
        have hD : va_D A [(m0, .inr (14, [.int 0, .ref aS, .ref aI, .int 0, .int 0, .int 0, .int 0, .int 0, .int 0, .ref aB, .ref aT, .int 0, .int 0, .ref aG, .ref aO, .ref aN, .ref aD, .long 0, .ref aY, .int 0, .int 0, .int 0, .int 0])), (aS, .inl (cS, 901, .inl s0)), (aI, .inl (cI, 901, .inl (upd f i (s0 i))))] := hD
        refine lv_iinc (v := nI (i + 1)) (lv' := [(1, .int (nI (i + 1))), (0, .ref m0)]) hx hb dX12_image_21 hl (k := 1) rfl (nI_add i 1) (by decide) rfl (fun ls hl => ?_)
        refine lv_goto (tgt := 2) hx hb dX12_image_24 (by decide) ?_
        exact ih2 _ _ (by omega) (by omega) _ _ (hK.sub [0, 1] rfl) (hP.sub [0, 1, 2] rfl) (hD.sub [0, 1, 2] (by decide) rfl) hS ls (lv_sub hl [1, 0] rfl)
  exact L2 _ (0) _ (Nat.lt_succ_self _) (by omega) _ _ (hK.sub [0, 1] rfl) (hP.sub [0, 1, 2] rfl) (hD.sub [0, 1, 2] (by decide) rfl) hS ls (lv_sub hl [1, 0] rfl)

theorem kc_mHere0_0 : ∀ w ∈ wsX120, w ∈ wsX12_here := by decide +kernel
theorem kc_mHere0_1 : (.fieldLink RX12 59 "MistHeapsModel" "spot" "I" : Cond) ∈ wsX12_here := by decide +kernel
theorem kc_mHere0_2 : (.fieldLink RX12 62 "MistHeapsModel" "end" "I" : Cond) ∈ wsX12_here := by decide +kernel
set_option maxHeartbeats 4000000 in
set_option maxRecDepth 100000 in
theorem c_mHere0 (l : Launch) (dC : Nat → ClassId) (dI : Nat → Nat → Nat) (m0 aS aI aB aT aG aO aN aD aY : Nat) (cS : ClassId) : Met l yX12_here wsX12_here ({ frames := 0, cells := 0, slots := 0, locals := 0 } : Room) (va_Pc [.ref m0] (fun U => va_P (dC, dI) vwCl [(m0, .inr (14, [.int 0, .ref aS, .ref aI, .int 0, .int 0, .int 0, .int 0, .int 0, .int 0, .ref aB, .ref aT, .int 0, .int 0, .ref aG, .ref aO, .ref aN, .ref aD, .long 0, .ref aY, .int 0, .int 0, .int 0, .int 0])), (aS, .inl (cS, 901, .inl s0))] U.heap ∧ va_K (dC, dI) vwCl [(cS, .int)] U)) (vp_Si (fun r => r = -1)) 0 0 (fun _ => False) := by
  refine met_ofQ (cc := cX12_here) (maxL := 1) (ret := (some .int)) (by decide) rfl ?_
  intro p e s m args below meth c s₁ Q B hml hv hQ
  obtain ⟨rfl, hP, hK⟩ := hv
  have hx := B.exec
  have hb := B.bytes
  have hr := B.returns
  have hts := atoms_spec (ws := wsX12_here) B.pre
  have hown : s.vm.findClass RX12 = some m.cls := findClass_of_methodNamed B.named
  have hlocks := B.notSynchronized
  obtain ⟨A, hAe⟩ : ∃ A : Nat → Prop, A = fun _ => False := ⟨_, rfl⟩
  rw [← hAe] at hQ
  have hS : va_S A s.heap s.heap [] := va_S.rf
  have hl := lv_entry [.ref m0] (n := 1) (Nat.le_of_ble_eq_true rfl)
  rw [lg_entry_eq]
  generalize (lg_sl [.ref m0] ++ List.replicate (1 - (lg_sl [.ref m0]).length) Slot.unset).toArray = ls at hl ⊢
  generalize hag : ([.ref m0] : List Value).toArray = args at hts hQ ⊢
  have hl : lv_has ls 1 [(0, .ref m0)] := hl
  refine lv_aload_n hx hb dX12_here_0 rfl (lv_at hl 0 rfl) ?_
  refine va_get (D := (dC, dI)) (ci := 14) (v := .int 0) (C := RX12) (T := TX12) (N := 23) hx hb hts kc_mHere0_0 hown hK hP 0 rfl rfl 5 (by decide) (hts (.fieldLink RX12 59 "MistHeapsModel" "spot" "I") kc_mHere0_1) (fun _ h9 => h9) rfl dX12_here_1 ?_
  refine lv_aload_n hx hb dX12_here_4 rfl (lv_at hl 0 rfl) ?_
  refine va_get (D := (dC, dI)) (ci := 14) (v := .int 0) (C := RX12) (T := TX12) (N := 23) hx hb hts kc_mHere0_0 hown hK hP 0 rfl rfl 6 (by decide) (hts (.fieldLink RX12 62 "MistHeapsModel" "end" "I") kc_mHere0_2) (fun _ h9 => h9) rfl dX12_here_5 ?_
  refine lv_icmp_ge (tgt := 26) hx hb dX12_here_8 (by decide) (fun _ => ?_) (fun c_1 => absurd c_1 (by decide))
  refine lv_iconst (v := (-1)) hx hb dX12_here_26 (by decide) ?_
  rw [hQ]
  exact W.iret (v := (-1)) hx hb hr (fun t ht hW => ⟨(-1), rfl, rfl, by rw [ht]⟩) (fun q hq => absurd hq List.not_mem_nil) dX12_here_27
