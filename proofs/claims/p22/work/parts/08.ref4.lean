theorem ggX12_bears_X12_isHeap : GoodIn wsX12_bears wsX12_isHeap := gga_of 1320 rfl rfl rfl
theorem gX12_bears_X12_isHeap : GoodIn wsX12_bears (wsV RX12 164 RX12 yX12_isHeap wsX12_isHeap) := goodIn_app (ggh_of [1317, 1319, 37, 72] rfl rfl rfl) ggX12_bears_X12_isHeap
theorem ggX12_bears_X12_stepsOf : GoodIn wsX12_bears wsX12_stepsOf := gga_of 1359 rfl rfl rfl
theorem gX12_bears_X12_stepsOf : GoodIn wsX12_bears (wsV RX12 198 RX12 yX12_stepsOf wsX12_stepsOf) := goodIn_app (ggh_of [1356, 1358, 42, 72] rfl rfl rfl) ggX12_bears_X12_stepsOf
theorem ggX12_build_X12_isHeap : GoodIn wsX12_build wsX12_isHeap := gga_of 1320 rfl rfl rfl
theorem gX12_build_X12_isHeap : GoodIn wsX12_build (wsV RX12 164 RX12 yX12_isHeap wsX12_isHeap) := goodIn_app (ggh_of [1317, 1319, 37, 72] rfl rfl rfl) ggX12_build_X12_isHeap
theorem ggX12_build_X12_in : GoodIn wsX12_build wsX12_in := gga_of 1217 rfl rfl rfl
theorem gX12_build_X12_in : GoodIn wsX12_build (va_wsS RX12 45 yX12_in wsX12_in) := goodIn_app (ggh_of [1215, 1216, 72] rfl rfl rfl) ggX12_build_X12_in
theorem ggX12_build_X12_stepsOf : GoodIn wsX12_build wsX12_stepsOf := gga_of 1359 rfl rfl rfl
theorem gX12_build_X12_stepsOf : GoodIn wsX12_build (wsV RX12 198 RX12 yX12_stepsOf wsX12_stepsOf) := goodIn_app (ggh_of [1356, 1358, 42, 72] rfl rfl rfl) ggX12_build_X12_stepsOf
theorem ggX12_build_X12_heapOn : GoodIn wsX12_build wsX12_heapOn := gga_of 1308 rfl rfl rfl
theorem gX12_build_X12_heapOn : GoodIn wsX12_build (wsV RX12 153 RX12 yX12_heapOn wsX12_heapOn) := goodIn_app (ggh_of [1305, 1307, 35, 72] rfl rfl rfl) ggX12_build_X12_heapOn
theorem ggX12_build_X12_puts : GoodIn wsX12_build wsX12_puts := gga_of 1312 rfl rfl rfl
theorem gX12_build_X12_puts : GoodIn wsX12_build (wsV RX12 156 RX12 yX12_puts wsX12_puts) := goodIn_app (ggh_of [1309, 1311, 36, 72] rfl rfl rfl) ggX12_build_X12_puts
noncomputable def dk08ref4_cX12_heapOn_0 : List (Nat × Instr × Nat) := [(0, .iconst (-1), 1), (1, .istore_n 2, 1), (2, .iconst 0, 1), (3, .istore_n 3, 1), (4, .iload_n 3, 1), (5, .aload_n 0, 1), (6, .getfield 9, 3), (9, .iconst 0, 1), (10, .iaload, 1), (11, .if_icmp .ge 28, 3), (39, .iload_n 2, 1), (40, .ireturn, 1), (14, .aload_n 0, 1), (15, .getfield 9, 3), (18, .bipush 28, 2), (20, .iload_n 3, 1), (21, .iadd, 1), (22, .iaload, 1), (23, .iload_n 1, 1), (24, .if_icmp .ne 7, 3), (31, .iload_n 2, 1), (32, .istore_n 2, 1), (33, .iinc 3 1, 3), (36, .goto (-32), 3), (27, .iload_n 3, 1), (28, .goto 4, 3)]
set_option maxRecDepth 100000 in
theorem dk08ref4_cX12_heapOn_0_a : dkA cX12_heapOn dk08ref4_cX12_heapOn_0 = true := by decide +kernel
theorem dX12_heapOn_0 : decode cX12_heapOn 0 = .ok (.iconst (-1), 1) := dkAt dk08ref4_cX12_heapOn_0_a 0 rfl
theorem dX12_heapOn_1 : decode cX12_heapOn 1 = .ok (.istore_n 2, 1) := dkAt dk08ref4_cX12_heapOn_0_a 1 rfl
theorem dX12_heapOn_2 : decode cX12_heapOn 2 = .ok (.iconst 0, 1) := dkAt dk08ref4_cX12_heapOn_0_a 2 rfl
theorem dX12_heapOn_3 : decode cX12_heapOn 3 = .ok (.istore_n 3, 1) := dkAt dk08ref4_cX12_heapOn_0_a 3 rfl
theorem dX12_heapOn_4 : decode cX12_heapOn 4 = .ok (.iload_n 3, 1) := dkAt dk08ref4_cX12_heapOn_0_a 4 rfl
theorem dX12_heapOn_5 : decode cX12_heapOn 5 = .ok (.aload_n 0, 1) := dkAt dk08ref4_cX12_heapOn_0_a 5 rfl
theorem dX12_heapOn_6 : decode cX12_heapOn 6 = .ok (.getfield 9, 3) := dkAt dk08ref4_cX12_heapOn_0_a 6 rfl
theorem dX12_heapOn_9 : decode cX12_heapOn 9 = .ok (.iconst 0, 1) := dkAt dk08ref4_cX12_heapOn_0_a 7 rfl
theorem dX12_heapOn_10 : decode cX12_heapOn 10 = .ok (.iaload, 1) := dkAt dk08ref4_cX12_heapOn_0_a 8 rfl
theorem dX12_heapOn_11 : decode cX12_heapOn 11 = .ok (.if_icmp .ge 28, 3) := dkAt dk08ref4_cX12_heapOn_0_a 9 rfl
theorem dX12_heapOn_39 : decode cX12_heapOn 39 = .ok (.iload_n 2, 1) := dkAt dk08ref4_cX12_heapOn_0_a 10 rfl
theorem dX12_heapOn_40 : decode cX12_heapOn 40 = .ok (.ireturn, 1) := dkAt dk08ref4_cX12_heapOn_0_a 11 rfl
theorem dX12_heapOn_14 : decode cX12_heapOn 14 = .ok (.aload_n 0, 1) := dkAt dk08ref4_cX12_heapOn_0_a 12 rfl
theorem dX12_heapOn_15 : decode cX12_heapOn 15 = .ok (.getfield 9, 3) := dkAt dk08ref4_cX12_heapOn_0_a 13 rfl
theorem dX12_heapOn_18 : decode cX12_heapOn 18 = .ok (.bipush 28, 2) := dkAt dk08ref4_cX12_heapOn_0_a 14 rfl
theorem dX12_heapOn_20 : decode cX12_heapOn 20 = .ok (.iload_n 3, 1) := dkAt dk08ref4_cX12_heapOn_0_a 15 rfl
theorem dX12_heapOn_21 : decode cX12_heapOn 21 = .ok (.iadd, 1) := dkAt dk08ref4_cX12_heapOn_0_a 16 rfl
theorem dX12_heapOn_22 : decode cX12_heapOn 22 = .ok (.iaload, 1) := dkAt dk08ref4_cX12_heapOn_0_a 17 rfl
theorem dX12_heapOn_23 : decode cX12_heapOn 23 = .ok (.iload_n 1, 1) := dkAt dk08ref4_cX12_heapOn_0_a 18 rfl
theorem dX12_heapOn_24 : decode cX12_heapOn 24 = .ok (.if_icmp .ne 7, 3) := dkAt dk08ref4_cX12_heapOn_0_a 19 rfl
theorem dX12_heapOn_31 : decode cX12_heapOn 31 = .ok (.iload_n 2, 1) := dkAt dk08ref4_cX12_heapOn_0_a 20 rfl
theorem dX12_heapOn_32 : decode cX12_heapOn 32 = .ok (.istore_n 2, 1) := dkAt dk08ref4_cX12_heapOn_0_a 21 rfl
theorem dX12_heapOn_33 : decode cX12_heapOn 33 = .ok (.iinc 3 1, 3) := dkAt dk08ref4_cX12_heapOn_0_a 22 rfl
theorem dX12_heapOn_36 : decode cX12_heapOn 36 = .ok (.goto (-32), 3) := dkAt dk08ref4_cX12_heapOn_0_a 23 rfl
theorem dX12_heapOn_27 : decode cX12_heapOn 27 = .ok (.iload_n 3, 1) := dkAt dk08ref4_cX12_heapOn_0_a 24 rfl
theorem dX12_heapOn_28 : decode cX12_heapOn 28 = .ok (.goto 4, 3) := dkAt dk08ref4_cX12_heapOn_0_a 25 rfl
noncomputable def dk08ref4_cX12_puts_0 : List (Nat × Instr × Nat) := [(0, .aload_n 0, 1), (1, .getfield 9, 3), (4, .iconst 0, 1), (5, .iaload, 1), (6, .istore 4, 2), (8, .aload_n 0, 1), (9, .getfield 9, 3), (12, .bipush 10, 2), (14, .iload 4, 2), (16, .iadd, 1), (17, .iload_n 1, 1), (18, .iastore, 1), (19, .aload_n 0, 1), (20, .getfield 9, 3), (23, .bipush 19, 2), (25, .iload 4, 2), (27, .iadd, 1), (28, .iload_n 2, 1), (29, .iastore, 1), (30, .aload_n 0, 1), (31, .getfield 9, 3), (34, .bipush 28, 2), (36, .iload 4, 2), (38, .iadd, 1), (39, .iload_n 3, 1), (40, .iastore, 1), (41, .aload_n 0, 1), (42, .getfield 9, 3), (45, .iconst 0, 1), (46, .dup2, 1), (47, .iaload, 1), (48, .iconst 1, 1), (49, .iadd, 1), (50, .iastore, 1), (51, .iload 4, 2), (53, .ireturn, 1)]
set_option maxRecDepth 100000 in
theorem dk08ref4_cX12_puts_0_a : dkA cX12_puts dk08ref4_cX12_puts_0 = true := by decide +kernel
theorem dX12_puts_0 : decode cX12_puts 0 = .ok (.aload_n 0, 1) := dkAt dk08ref4_cX12_puts_0_a 0 rfl
theorem dX12_puts_1 : decode cX12_puts 1 = .ok (.getfield 9, 3) := dkAt dk08ref4_cX12_puts_0_a 1 rfl
theorem dX12_puts_4 : decode cX12_puts 4 = .ok (.iconst 0, 1) := dkAt dk08ref4_cX12_puts_0_a 2 rfl
theorem dX12_puts_5 : decode cX12_puts 5 = .ok (.iaload, 1) := dkAt dk08ref4_cX12_puts_0_a 3 rfl
theorem dX12_puts_6 : decode cX12_puts 6 = .ok (.istore 4, 2) := dkAt dk08ref4_cX12_puts_0_a 4 rfl
theorem dX12_puts_8 : decode cX12_puts 8 = .ok (.aload_n 0, 1) := dkAt dk08ref4_cX12_puts_0_a 5 rfl
theorem dX12_puts_9 : decode cX12_puts 9 = .ok (.getfield 9, 3) := dkAt dk08ref4_cX12_puts_0_a 6 rfl
theorem dX12_puts_12 : decode cX12_puts 12 = .ok (.bipush 10, 2) := dkAt dk08ref4_cX12_puts_0_a 7 rfl
theorem dX12_puts_14 : decode cX12_puts 14 = .ok (.iload 4, 2) := dkAt dk08ref4_cX12_puts_0_a 8 rfl
theorem dX12_puts_16 : decode cX12_puts 16 = .ok (.iadd, 1) := dkAt dk08ref4_cX12_puts_0_a 9 rfl
theorem dX12_puts_17 : decode cX12_puts 17 = .ok (.iload_n 1, 1) := dkAt dk08ref4_cX12_puts_0_a 10 rfl
theorem dX12_puts_18 : decode cX12_puts 18 = .ok (.iastore, 1) := dkAt dk08ref4_cX12_puts_0_a 11 rfl
theorem dX12_puts_19 : decode cX12_puts 19 = .ok (.aload_n 0, 1) := dkAt dk08ref4_cX12_puts_0_a 12 rfl
theorem dX12_puts_20 : decode cX12_puts 20 = .ok (.getfield 9, 3) := dkAt dk08ref4_cX12_puts_0_a 13 rfl
theorem dX12_puts_23 : decode cX12_puts 23 = .ok (.bipush 19, 2) := dkAt dk08ref4_cX12_puts_0_a 14 rfl
theorem dX12_puts_25 : decode cX12_puts 25 = .ok (.iload 4, 2) := dkAt dk08ref4_cX12_puts_0_a 15 rfl
theorem dX12_puts_27 : decode cX12_puts 27 = .ok (.iadd, 1) := dkAt dk08ref4_cX12_puts_0_a 16 rfl
theorem dX12_puts_28 : decode cX12_puts 28 = .ok (.iload_n 2, 1) := dkAt dk08ref4_cX12_puts_0_a 17 rfl
theorem dX12_puts_29 : decode cX12_puts 29 = .ok (.iastore, 1) := dkAt dk08ref4_cX12_puts_0_a 18 rfl
theorem dX12_puts_30 : decode cX12_puts 30 = .ok (.aload_n 0, 1) := dkAt dk08ref4_cX12_puts_0_a 19 rfl
theorem dX12_puts_31 : decode cX12_puts 31 = .ok (.getfield 9, 3) := dkAt dk08ref4_cX12_puts_0_a 20 rfl
theorem dX12_puts_34 : decode cX12_puts 34 = .ok (.bipush 28, 2) := dkAt dk08ref4_cX12_puts_0_a 21 rfl
theorem dX12_puts_36 : decode cX12_puts 36 = .ok (.iload 4, 2) := dkAt dk08ref4_cX12_puts_0_a 22 rfl
theorem dX12_puts_38 : decode cX12_puts 38 = .ok (.iadd, 1) := dkAt dk08ref4_cX12_puts_0_a 23 rfl
theorem dX12_puts_39 : decode cX12_puts 39 = .ok (.iload_n 3, 1) := dkAt dk08ref4_cX12_puts_0_a 24 rfl
theorem dX12_puts_40 : decode cX12_puts 40 = .ok (.iastore, 1) := dkAt dk08ref4_cX12_puts_0_a 25 rfl
theorem dX12_puts_41 : decode cX12_puts 41 = .ok (.aload_n 0, 1) := dkAt dk08ref4_cX12_puts_0_a 26 rfl
theorem dX12_puts_42 : decode cX12_puts 42 = .ok (.getfield 9, 3) := dkAt dk08ref4_cX12_puts_0_a 27 rfl
theorem dX12_puts_45 : decode cX12_puts 45 = .ok (.iconst 0, 1) := dkAt dk08ref4_cX12_puts_0_a 28 rfl
theorem dX12_puts_46 : decode cX12_puts 46 = .ok (.dup2, 1) := dkAt dk08ref4_cX12_puts_0_a 29 rfl
theorem dX12_puts_47 : decode cX12_puts 47 = .ok (.iaload, 1) := dkAt dk08ref4_cX12_puts_0_a 30 rfl
theorem dX12_puts_48 : decode cX12_puts 48 = .ok (.iconst 1, 1) := dkAt dk08ref4_cX12_puts_0_a 31 rfl
theorem dX12_puts_49 : decode cX12_puts 49 = .ok (.iadd, 1) := dkAt dk08ref4_cX12_puts_0_a 32 rfl
theorem dX12_puts_50 : decode cX12_puts 50 = .ok (.iastore, 1) := dkAt dk08ref4_cX12_puts_0_a 33 rfl
theorem dX12_puts_51 : decode cX12_puts 51 = .ok (.iload 4, 2) := dkAt dk08ref4_cX12_puts_0_a 34 rfl
theorem dX12_puts_53 : decode cX12_puts 53 = .ok (.ireturn, 1) := dkAt dk08ref4_cX12_puts_0_a 35 rfl
noncomputable def dk08ref4_cX12_bears_0 : List (Nat × Instr × Nat) := [(0, .aload_n 0, 1), (1, .iload_n 1, 1), (2, .invokevirtual 164, 3), (5, .ifCond .eq 11, 3), (8, .aload_n 0, 1), (9, .iload_n 2, 1), (10, .invokevirtual 164, 3), (13, .ifCond .ne 5, 3), (18, .aload_n 0, 1), (19, .getfield 9, 3), (22, .bipush 7, 2), (24, .iaload, 1), (25, .istore_n 3, 1), (26, .bipush (-5), 2), (28, .istore 4, 2), (30, .iconst 0, 1), (31, .istore 5, 2), (33, .iload 5, 2), (35, .bipush 10, 2), (37, .if_icmp .ge 38, 3), (75, .aload_n 0, 1), (76, .getfield 9, 3), (79, .bipush 7, 2), (81, .iload_n 3, 1), (82, .iastore, 1), (83, .iload 4, 2), (85, .ireturn, 1), (40, .aload_n 0, 1), (41, .getfield 9, 3), (44, .bipush 7, 2), (46, .iload 5, 2), (48, .iastore, 1), (49, .aload_n 0, 1), (50, .iload_n 1, 1), (51, .iload_n 2, 1), (52, .invokevirtual 198, 3), (55, .bipush (-5), 2), (57, .if_icmp .ne 8, 3), (65, .iload 5, 2), (67, .istore 4, 2)]
set_option maxRecDepth 100000 in
theorem dk08ref4_cX12_bears_0_a : dkA cX12_bears dk08ref4_cX12_bears_0 = true := by decide +kernel
theorem dX12_bears_0 : decode cX12_bears 0 = .ok (.aload_n 0, 1) := dkAt dk08ref4_cX12_bears_0_a 0 rfl
theorem dX12_bears_1 : decode cX12_bears 1 = .ok (.iload_n 1, 1) := dkAt dk08ref4_cX12_bears_0_a 1 rfl
theorem dX12_bears_2 : decode cX12_bears 2 = .ok (.invokevirtual 164, 3) := dkAt dk08ref4_cX12_bears_0_a 2 rfl
theorem dX12_bears_5 : decode cX12_bears 5 = .ok (.ifCond .eq 11, 3) := dkAt dk08ref4_cX12_bears_0_a 3 rfl
theorem dX12_bears_8 : decode cX12_bears 8 = .ok (.aload_n 0, 1) := dkAt dk08ref4_cX12_bears_0_a 4 rfl
theorem dX12_bears_9 : decode cX12_bears 9 = .ok (.iload_n 2, 1) := dkAt dk08ref4_cX12_bears_0_a 5 rfl
theorem dX12_bears_10 : decode cX12_bears 10 = .ok (.invokevirtual 164, 3) := dkAt dk08ref4_cX12_bears_0_a 6 rfl
theorem dX12_bears_13 : decode cX12_bears 13 = .ok (.ifCond .ne 5, 3) := dkAt dk08ref4_cX12_bears_0_a 7 rfl
theorem dX12_bears_18 : decode cX12_bears 18 = .ok (.aload_n 0, 1) := dkAt dk08ref4_cX12_bears_0_a 8 rfl
theorem dX12_bears_19 : decode cX12_bears 19 = .ok (.getfield 9, 3) := dkAt dk08ref4_cX12_bears_0_a 9 rfl
theorem dX12_bears_22 : decode cX12_bears 22 = .ok (.bipush 7, 2) := dkAt dk08ref4_cX12_bears_0_a 10 rfl
theorem dX12_bears_24 : decode cX12_bears 24 = .ok (.iaload, 1) := dkAt dk08ref4_cX12_bears_0_a 11 rfl
theorem dX12_bears_25 : decode cX12_bears 25 = .ok (.istore_n 3, 1) := dkAt dk08ref4_cX12_bears_0_a 12 rfl
theorem dX12_bears_26 : decode cX12_bears 26 = .ok (.bipush (-5), 2) := dkAt dk08ref4_cX12_bears_0_a 13 rfl
theorem dX12_bears_28 : decode cX12_bears 28 = .ok (.istore 4, 2) := dkAt dk08ref4_cX12_bears_0_a 14 rfl
theorem dX12_bears_30 : decode cX12_bears 30 = .ok (.iconst 0, 1) := dkAt dk08ref4_cX12_bears_0_a 15 rfl
theorem dX12_bears_31 : decode cX12_bears 31 = .ok (.istore 5, 2) := dkAt dk08ref4_cX12_bears_0_a 16 rfl
theorem dX12_bears_33 : decode cX12_bears 33 = .ok (.iload 5, 2) := dkAt dk08ref4_cX12_bears_0_a 17 rfl
theorem dX12_bears_35 : decode cX12_bears 35 = .ok (.bipush 10, 2) := dkAt dk08ref4_cX12_bears_0_a 18 rfl
theorem dX12_bears_37 : decode cX12_bears 37 = .ok (.if_icmp .ge 38, 3) := dkAt dk08ref4_cX12_bears_0_a 19 rfl
theorem dX12_bears_75 : decode cX12_bears 75 = .ok (.aload_n 0, 1) := dkAt dk08ref4_cX12_bears_0_a 20 rfl
theorem dX12_bears_76 : decode cX12_bears 76 = .ok (.getfield 9, 3) := dkAt dk08ref4_cX12_bears_0_a 21 rfl
theorem dX12_bears_79 : decode cX12_bears 79 = .ok (.bipush 7, 2) := dkAt dk08ref4_cX12_bears_0_a 22 rfl
theorem dX12_bears_81 : decode cX12_bears 81 = .ok (.iload_n 3, 1) := dkAt dk08ref4_cX12_bears_0_a 23 rfl
theorem dX12_bears_82 : decode cX12_bears 82 = .ok (.iastore, 1) := dkAt dk08ref4_cX12_bears_0_a 24 rfl
theorem dX12_bears_83 : decode cX12_bears 83 = .ok (.iload 4, 2) := dkAt dk08ref4_cX12_bears_0_a 25 rfl
theorem dX12_bears_85 : decode cX12_bears 85 = .ok (.ireturn, 1) := dkAt dk08ref4_cX12_bears_0_a 26 rfl
theorem dX12_bears_40 : decode cX12_bears 40 = .ok (.aload_n 0, 1) := dkAt dk08ref4_cX12_bears_0_a 27 rfl
theorem dX12_bears_41 : decode cX12_bears 41 = .ok (.getfield 9, 3) := dkAt dk08ref4_cX12_bears_0_a 28 rfl
theorem dX12_bears_44 : decode cX12_bears 44 = .ok (.bipush 7, 2) := dkAt dk08ref4_cX12_bears_0_a 29 rfl
theorem dX12_bears_46 : decode cX12_bears 46 = .ok (.iload 5, 2) := dkAt dk08ref4_cX12_bears_0_a 30 rfl
theorem dX12_bears_48 : decode cX12_bears 48 = .ok (.iastore, 1) := dkAt dk08ref4_cX12_bears_0_a 31 rfl
theorem dX12_bears_49 : decode cX12_bears 49 = .ok (.aload_n 0, 1) := dkAt dk08ref4_cX12_bears_0_a 32 rfl
theorem dX12_bears_50 : decode cX12_bears 50 = .ok (.iload_n 1, 1) := dkAt dk08ref4_cX12_bears_0_a 33 rfl
theorem dX12_bears_51 : decode cX12_bears 51 = .ok (.iload_n 2, 1) := dkAt dk08ref4_cX12_bears_0_a 34 rfl
theorem dX12_bears_52 : decode cX12_bears 52 = .ok (.invokevirtual 198, 3) := dkAt dk08ref4_cX12_bears_0_a 35 rfl
theorem dX12_bears_55 : decode cX12_bears 55 = .ok (.bipush (-5), 2) := dkAt dk08ref4_cX12_bears_0_a 36 rfl
theorem dX12_bears_57 : decode cX12_bears 57 = .ok (.if_icmp .ne 8, 3) := dkAt dk08ref4_cX12_bears_0_a 37 rfl
theorem dX12_bears_65 : decode cX12_bears 65 = .ok (.iload 5, 2) := dkAt dk08ref4_cX12_bears_0_a 38 rfl
theorem dX12_bears_67 : decode cX12_bears 67 = .ok (.istore 4, 2) := dkAt dk08ref4_cX12_bears_0_a 39 rfl
noncomputable def dk08ref4_cX12_bears_40 : List (Nat × Instr × Nat) := [(69, .iinc 5 1, 3), (72, .goto (-39), 3), (60, .iload 4, 2), (62, .goto 5, 3), (16, .iconst (-1), 1), (17, .ireturn, 1)]
set_option maxRecDepth 100000 in
theorem dk08ref4_cX12_bears_40_a : dkA cX12_bears dk08ref4_cX12_bears_40 = true := by decide +kernel
theorem dX12_bears_69 : decode cX12_bears 69 = .ok (.iinc 5 1, 3) := dkAt dk08ref4_cX12_bears_40_a 0 rfl
theorem dX12_bears_72 : decode cX12_bears 72 = .ok (.goto (-39), 3) := dkAt dk08ref4_cX12_bears_40_a 1 rfl
theorem dX12_bears_60 : decode cX12_bears 60 = .ok (.iload 4, 2) := dkAt dk08ref4_cX12_bears_40_a 2 rfl
theorem dX12_bears_62 : decode cX12_bears 62 = .ok (.goto 5, 3) := dkAt dk08ref4_cX12_bears_40_a 3 rfl
theorem dX12_bears_16 : decode cX12_bears 16 = .ok (.iconst (-1), 1) := dkAt dk08ref4_cX12_bears_40_a 4 rfl
theorem dX12_bears_17 : decode cX12_bears 17 = .ok (.ireturn, 1) := dkAt dk08ref4_cX12_bears_40_a 5 rfl
noncomputable def dk08ref4_cX12_build_0 : List (Nat × Instr × Nat) := [(0, .aload_n 0, 1), (1, .iload_n 1, 1), (2, .invokevirtual 164, 3), (5, .ifCond .eq 20, 3), (8, .aload_n 0, 1), (9, .iload_n 2, 1), (10, .invokevirtual 164, 3), (13, .ifCond .eq 12, 3), (16, .iload_n 3, 1), (17, .iconst 0, 1), (18, .iconst 1, 1), (19, .invokestatic 45, 3), (22, .ifCond .ne 5, 3), (27, .aload_n 0, 1), (28, .getfield 9, 3), (31, .iconst 0, 1), (32, .iaload, 1), (33, .bipush 8, 2), (35, .if_icmp .ne 6, 3), (41, .aload_n 0, 1), (42, .iload_n 1, 1), (43, .iload_n 2, 1), (44, .invokevirtual 198, 3), (47, .istore 4, 2), (49, .bipush (-5), 2), (51, .istore 5, 2), (53, .iconst 0, 1), (54, .istore 6, 2), (56, .iload 6, 2), (58, .bipush 36, 2), (60, .if_icmp .ge 102, 3), (162, .iload 5, 2), (164, .bipush (-5), 2), (166, .if_icmp .eq 7, 3), (173, .iload 5, 2), (175, .goto 5, 3), (180, .ireturn, 1), (169, .iload_n 3, 1), (170, .ifCond .ne 8, 3), (178, .iload 4, 2)]
set_option maxRecDepth 100000 in
theorem dk08ref4_cX12_build_0_a : dkA cX12_build dk08ref4_cX12_build_0 = true := by decide +kernel
theorem dX12_build_0 : decode cX12_build 0 = .ok (.aload_n 0, 1) := dkAt dk08ref4_cX12_build_0_a 0 rfl
theorem dX12_build_1 : decode cX12_build 1 = .ok (.iload_n 1, 1) := dkAt dk08ref4_cX12_build_0_a 1 rfl
theorem dX12_build_2 : decode cX12_build 2 = .ok (.invokevirtual 164, 3) := dkAt dk08ref4_cX12_build_0_a 2 rfl
theorem dX12_build_5 : decode cX12_build 5 = .ok (.ifCond .eq 20, 3) := dkAt dk08ref4_cX12_build_0_a 3 rfl
theorem dX12_build_8 : decode cX12_build 8 = .ok (.aload_n 0, 1) := dkAt dk08ref4_cX12_build_0_a 4 rfl
theorem dX12_build_9 : decode cX12_build 9 = .ok (.iload_n 2, 1) := dkAt dk08ref4_cX12_build_0_a 5 rfl
theorem dX12_build_10 : decode cX12_build 10 = .ok (.invokevirtual 164, 3) := dkAt dk08ref4_cX12_build_0_a 6 rfl
theorem dX12_build_13 : decode cX12_build 13 = .ok (.ifCond .eq 12, 3) := dkAt dk08ref4_cX12_build_0_a 7 rfl
theorem dX12_build_16 : decode cX12_build 16 = .ok (.iload_n 3, 1) := dkAt dk08ref4_cX12_build_0_a 8 rfl
theorem dX12_build_17 : decode cX12_build 17 = .ok (.iconst 0, 1) := dkAt dk08ref4_cX12_build_0_a 9 rfl
theorem dX12_build_18 : decode cX12_build 18 = .ok (.iconst 1, 1) := dkAt dk08ref4_cX12_build_0_a 10 rfl
theorem dX12_build_19 : decode cX12_build 19 = .ok (.invokestatic 45, 3) := dkAt dk08ref4_cX12_build_0_a 11 rfl
theorem dX12_build_22 : decode cX12_build 22 = .ok (.ifCond .ne 5, 3) := dkAt dk08ref4_cX12_build_0_a 12 rfl
theorem dX12_build_27 : decode cX12_build 27 = .ok (.aload_n 0, 1) := dkAt dk08ref4_cX12_build_0_a 13 rfl
theorem dX12_build_28 : decode cX12_build 28 = .ok (.getfield 9, 3) := dkAt dk08ref4_cX12_build_0_a 14 rfl
theorem dX12_build_31 : decode cX12_build 31 = .ok (.iconst 0, 1) := dkAt dk08ref4_cX12_build_0_a 15 rfl
theorem dX12_build_32 : decode cX12_build 32 = .ok (.iaload, 1) := dkAt dk08ref4_cX12_build_0_a 16 rfl
theorem dX12_build_33 : decode cX12_build 33 = .ok (.bipush 8, 2) := dkAt dk08ref4_cX12_build_0_a 17 rfl
theorem dX12_build_35 : decode cX12_build 35 = .ok (.if_icmp .ne 6, 3) := dkAt dk08ref4_cX12_build_0_a 18 rfl
theorem dX12_build_41 : decode cX12_build 41 = .ok (.aload_n 0, 1) := dkAt dk08ref4_cX12_build_0_a 19 rfl
theorem dX12_build_42 : decode cX12_build 42 = .ok (.iload_n 1, 1) := dkAt dk08ref4_cX12_build_0_a 20 rfl
theorem dX12_build_43 : decode cX12_build 43 = .ok (.iload_n 2, 1) := dkAt dk08ref4_cX12_build_0_a 21 rfl
theorem dX12_build_44 : decode cX12_build 44 = .ok (.invokevirtual 198, 3) := dkAt dk08ref4_cX12_build_0_a 22 rfl
theorem dX12_build_47 : decode cX12_build 47 = .ok (.istore 4, 2) := dkAt dk08ref4_cX12_build_0_a 23 rfl
theorem dX12_build_49 : decode cX12_build 49 = .ok (.bipush (-5), 2) := dkAt dk08ref4_cX12_build_0_a 24 rfl
theorem dX12_build_51 : decode cX12_build 51 = .ok (.istore 5, 2) := dkAt dk08ref4_cX12_build_0_a 25 rfl
theorem dX12_build_53 : decode cX12_build 53 = .ok (.iconst 0, 1) := dkAt dk08ref4_cX12_build_0_a 26 rfl
theorem dX12_build_54 : decode cX12_build 54 = .ok (.istore 6, 2) := dkAt dk08ref4_cX12_build_0_a 27 rfl
theorem dX12_build_56 : decode cX12_build 56 = .ok (.iload 6, 2) := dkAt dk08ref4_cX12_build_0_a 28 rfl
theorem dX12_build_58 : decode cX12_build 58 = .ok (.bipush 36, 2) := dkAt dk08ref4_cX12_build_0_a 29 rfl
theorem dX12_build_60 : decode cX12_build 60 = .ok (.if_icmp .ge 102, 3) := dkAt dk08ref4_cX12_build_0_a 30 rfl
theorem dX12_build_162 : decode cX12_build 162 = .ok (.iload 5, 2) := dkAt dk08ref4_cX12_build_0_a 31 rfl
theorem dX12_build_164 : decode cX12_build 164 = .ok (.bipush (-5), 2) := dkAt dk08ref4_cX12_build_0_a 32 rfl
theorem dX12_build_166 : decode cX12_build 166 = .ok (.if_icmp .eq 7, 3) := dkAt dk08ref4_cX12_build_0_a 33 rfl
theorem dX12_build_173 : decode cX12_build 173 = .ok (.iload 5, 2) := dkAt dk08ref4_cX12_build_0_a 34 rfl
theorem dX12_build_175 : decode cX12_build 175 = .ok (.goto 5, 3) := dkAt dk08ref4_cX12_build_0_a 35 rfl
theorem dX12_build_180 : decode cX12_build 180 = .ok (.ireturn, 1) := dkAt dk08ref4_cX12_build_0_a 36 rfl
theorem dX12_build_169 : decode cX12_build 169 = .ok (.iload_n 3, 1) := dkAt dk08ref4_cX12_build_0_a 37 rfl
theorem dX12_build_170 : decode cX12_build 170 = .ok (.ifCond .ne 8, 3) := dkAt dk08ref4_cX12_build_0_a 38 rfl
theorem dX12_build_178 : decode cX12_build 178 = .ok (.iload 4, 2) := dkAt dk08ref4_cX12_build_0_a 39 rfl
noncomputable def dk08ref4_cX12_build_40 : List (Nat × Instr × Nat) := [(63, .aload_n 0, 1), (64, .iload 6, 2), (66, .invokevirtual 153, 3), (69, .iconst (-1), 1), (70, .if_icmp .ne 86, 3), (156, .iinc 6 1, 3), (159, .goto (-103), 3), (73, .aload_n 0, 1), (74, .iconst 0, 1), (75, .iconst 0, 1), (76, .iload 6, 2), (78, .invokevirtual 156, 3), (81, .pop, 1), (82, .aload_n 0, 1), (83, .iload_n 1, 1), (84, .iload_n 2, 1), (85, .invokevirtual 198, 3), (88, .istore 7, 2), (90, .aload_n 0, 1), (91, .getfield 9, 3), (94, .iconst 0, 1), (95, .dup2, 1), (96, .iaload, 1), (97, .iconst 1, 1), (98, .isub, 1), (99, .iastore, 1), (100, .iload 7, 2), (102, .bipush (-5), 2), (104, .if_icmp .eq 21, 3), (125, .iconst 0, 1), (126, .istore 8, 2), (128, .iload 8, 2), (130, .ifCond .eq 8, 3), (138, .iload 5, 2), (140, .istore 5, 2), (142, .iload 8, 2), (144, .ifCond .eq 8, 3), (152, .iload 4, 2), (154, .istore 4, 2), (107, .iload 4, 2)]
set_option maxRecDepth 100000 in
theorem dk08ref4_cX12_build_40_a : dkA cX12_build dk08ref4_cX12_build_40 = true := by decide +kernel
theorem dX12_build_63 : decode cX12_build 63 = .ok (.aload_n 0, 1) := dkAt dk08ref4_cX12_build_40_a 0 rfl
theorem dX12_build_64 : decode cX12_build 64 = .ok (.iload 6, 2) := dkAt dk08ref4_cX12_build_40_a 1 rfl
theorem dX12_build_66 : decode cX12_build 66 = .ok (.invokevirtual 153, 3) := dkAt dk08ref4_cX12_build_40_a 2 rfl
theorem dX12_build_69 : decode cX12_build 69 = .ok (.iconst (-1), 1) := dkAt dk08ref4_cX12_build_40_a 3 rfl
theorem dX12_build_70 : decode cX12_build 70 = .ok (.if_icmp .ne 86, 3) := dkAt dk08ref4_cX12_build_40_a 4 rfl
theorem dX12_build_156 : decode cX12_build 156 = .ok (.iinc 6 1, 3) := dkAt dk08ref4_cX12_build_40_a 5 rfl
theorem dX12_build_159 : decode cX12_build 159 = .ok (.goto (-103), 3) := dkAt dk08ref4_cX12_build_40_a 6 rfl
theorem dX12_build_73 : decode cX12_build 73 = .ok (.aload_n 0, 1) := dkAt dk08ref4_cX12_build_40_a 7 rfl
theorem dX12_build_74 : decode cX12_build 74 = .ok (.iconst 0, 1) := dkAt dk08ref4_cX12_build_40_a 8 rfl
theorem dX12_build_75 : decode cX12_build 75 = .ok (.iconst 0, 1) := dkAt dk08ref4_cX12_build_40_a 9 rfl
theorem dX12_build_76 : decode cX12_build 76 = .ok (.iload 6, 2) := dkAt dk08ref4_cX12_build_40_a 10 rfl
theorem dX12_build_78 : decode cX12_build 78 = .ok (.invokevirtual 156, 3) := dkAt dk08ref4_cX12_build_40_a 11 rfl
theorem dX12_build_81 : decode cX12_build 81 = .ok (.pop, 1) := dkAt dk08ref4_cX12_build_40_a 12 rfl
theorem dX12_build_82 : decode cX12_build 82 = .ok (.aload_n 0, 1) := dkAt dk08ref4_cX12_build_40_a 13 rfl
theorem dX12_build_83 : decode cX12_build 83 = .ok (.iload_n 1, 1) := dkAt dk08ref4_cX12_build_40_a 14 rfl
theorem dX12_build_84 : decode cX12_build 84 = .ok (.iload_n 2, 1) := dkAt dk08ref4_cX12_build_40_a 15 rfl
theorem dX12_build_85 : decode cX12_build 85 = .ok (.invokevirtual 198, 3) := dkAt dk08ref4_cX12_build_40_a 16 rfl
theorem dX12_build_88 : decode cX12_build 88 = .ok (.istore 7, 2) := dkAt dk08ref4_cX12_build_40_a 17 rfl
theorem dX12_build_90 : decode cX12_build 90 = .ok (.aload_n 0, 1) := dkAt dk08ref4_cX12_build_40_a 18 rfl
theorem dX12_build_91 : decode cX12_build 91 = .ok (.getfield 9, 3) := dkAt dk08ref4_cX12_build_40_a 19 rfl
theorem dX12_build_94 : decode cX12_build 94 = .ok (.iconst 0, 1) := dkAt dk08ref4_cX12_build_40_a 20 rfl
theorem dX12_build_95 : decode cX12_build 95 = .ok (.dup2, 1) := dkAt dk08ref4_cX12_build_40_a 21 rfl
theorem dX12_build_96 : decode cX12_build 96 = .ok (.iaload, 1) := dkAt dk08ref4_cX12_build_40_a 22 rfl
theorem dX12_build_97 : decode cX12_build 97 = .ok (.iconst 1, 1) := dkAt dk08ref4_cX12_build_40_a 23 rfl
theorem dX12_build_98 : decode cX12_build 98 = .ok (.isub, 1) := dkAt dk08ref4_cX12_build_40_a 24 rfl
theorem dX12_build_99 : decode cX12_build 99 = .ok (.iastore, 1) := dkAt dk08ref4_cX12_build_40_a 25 rfl
theorem dX12_build_100 : decode cX12_build 100 = .ok (.iload 7, 2) := dkAt dk08ref4_cX12_build_40_a 26 rfl
theorem dX12_build_102 : decode cX12_build 102 = .ok (.bipush (-5), 2) := dkAt dk08ref4_cX12_build_40_a 27 rfl
theorem dX12_build_104 : decode cX12_build 104 = .ok (.if_icmp .eq 21, 3) := dkAt dk08ref4_cX12_build_40_a 28 rfl
theorem dX12_build_125 : decode cX12_build 125 = .ok (.iconst 0, 1) := dkAt dk08ref4_cX12_build_40_a 29 rfl
theorem dX12_build_126 : decode cX12_build 126 = .ok (.istore 8, 2) := dkAt dk08ref4_cX12_build_40_a 30 rfl
theorem dX12_build_128 : decode cX12_build 128 = .ok (.iload 8, 2) := dkAt dk08ref4_cX12_build_40_a 31 rfl
theorem dX12_build_130 : decode cX12_build 130 = .ok (.ifCond .eq 8, 3) := dkAt dk08ref4_cX12_build_40_a 32 rfl
theorem dX12_build_138 : decode cX12_build 138 = .ok (.iload 5, 2) := dkAt dk08ref4_cX12_build_40_a 33 rfl
theorem dX12_build_140 : decode cX12_build 140 = .ok (.istore 5, 2) := dkAt dk08ref4_cX12_build_40_a 34 rfl
theorem dX12_build_142 : decode cX12_build 142 = .ok (.iload 8, 2) := dkAt dk08ref4_cX12_build_40_a 35 rfl
theorem dX12_build_144 : decode cX12_build 144 = .ok (.ifCond .eq 8, 3) := dkAt dk08ref4_cX12_build_40_a 36 rfl
theorem dX12_build_152 : decode cX12_build 152 = .ok (.iload 4, 2) := dkAt dk08ref4_cX12_build_40_a 37 rfl
theorem dX12_build_154 : decode cX12_build 154 = .ok (.istore 4, 2) := dkAt dk08ref4_cX12_build_40_a 38 rfl
theorem dX12_build_107 : decode cX12_build 107 = .ok (.iload 4, 2) := dkAt dk08ref4_cX12_build_40_a 39 rfl
noncomputable def dk08ref4_cX12_build_80 : List (Nat × Instr × Nat) := [(109, .bipush (-5), 2), (111, .if_icmp .eq 10, 3), (121, .iconst 1, 1), (122, .goto 4, 3), (133, .iload 6, 2), (135, .goto 5, 3), (147, .iload 7, 2), (149, .goto 5, 3), (114, .iload 7, 2), (116, .iload 4, 2), (118, .if_icmp .ge 7, 3), (38, .bipush (-5), 2), (40, .ireturn, 1), (25, .iconst (-1), 1), (26, .ireturn, 1)]
set_option maxRecDepth 100000 in
theorem dk08ref4_cX12_build_80_a : dkA cX12_build dk08ref4_cX12_build_80 = true := by decide +kernel
theorem dX12_build_109 : decode cX12_build 109 = .ok (.bipush (-5), 2) := dkAt dk08ref4_cX12_build_80_a 0 rfl
theorem dX12_build_111 : decode cX12_build 111 = .ok (.if_icmp .eq 10, 3) := dkAt dk08ref4_cX12_build_80_a 1 rfl
theorem dX12_build_121 : decode cX12_build 121 = .ok (.iconst 1, 1) := dkAt dk08ref4_cX12_build_80_a 2 rfl
theorem dX12_build_122 : decode cX12_build 122 = .ok (.goto 4, 3) := dkAt dk08ref4_cX12_build_80_a 3 rfl
theorem dX12_build_133 : decode cX12_build 133 = .ok (.iload 6, 2) := dkAt dk08ref4_cX12_build_80_a 4 rfl
theorem dX12_build_135 : decode cX12_build 135 = .ok (.goto 5, 3) := dkAt dk08ref4_cX12_build_80_a 5 rfl
theorem dX12_build_147 : decode cX12_build 147 = .ok (.iload 7, 2) := dkAt dk08ref4_cX12_build_80_a 6 rfl
theorem dX12_build_149 : decode cX12_build 149 = .ok (.goto 5, 3) := dkAt dk08ref4_cX12_build_80_a 7 rfl
theorem dX12_build_114 : decode cX12_build 114 = .ok (.iload 7, 2) := dkAt dk08ref4_cX12_build_80_a 8 rfl
theorem dX12_build_116 : decode cX12_build 116 = .ok (.iload 4, 2) := dkAt dk08ref4_cX12_build_80_a 9 rfl
theorem dX12_build_118 : decode cX12_build 118 = .ok (.if_icmp .ge 7, 3) := dkAt dk08ref4_cX12_build_80_a 10 rfl
theorem dX12_build_38 : decode cX12_build 38 = .ok (.bipush (-5), 2) := dkAt dk08ref4_cX12_build_80_a 11 rfl
theorem dX12_build_40 : decode cX12_build 40 = .ok (.ireturn, 1) := dkAt dk08ref4_cX12_build_80_a 12 rfl
theorem dX12_build_25 : decode cX12_build 25 = .ok (.iconst (-1), 1) := dkAt dk08ref4_cX12_build_80_a 13 rfl
theorem dX12_build_26 : decode cX12_build 26 = .ok (.ireturn, 1) := dkAt dk08ref4_cX12_build_80_a 14 rfl
theorem kc_heapOn_0 : ∀ w ∈ wsX120, w ∈ wsX12_heapOn := fun w h => List.mem_cons_of_mem _ (gin_wsX120 w h)
theorem kc_heapOn_1 : (.fieldLink RX12 9 "MistHeapsModel" "s" "[I" : Cond) ∈ wsX12_heapOn := kc_of 1141 rfl rfl rfl
set_option maxHeartbeats 4000000 in
set_option maxRecDepth 100000 in
theorem c_heapOn (l : Launch) (dC : Nat → ClassId) (dI : Nat → Nat → Nat) (m0 aS aI aB aT aG aO aN aD aY : Nat) (th im ac sp en wg op se dn rn kd nu tv : Int32) (bv : Int64) (cS : ClassId) (fS : Nat → Int32) (n : Nat) (yc : Nat → Int32) (x : Int32) (zn : fS 0 = nI n) (hn : n ≤ 8) (zc : ∀ k, k < n → fS (28 + k) = yc k) : Met l yX12_heapOn wsX12_heapOn ({ frames := 0, cells := 0, slots := 0, locals := 0 } : Room) (va_Pc [.ref m0, .int x] (fun U => va_P (dC, dI) vwCl [(zo14irriiiiiirriirrrrlriiii m0 th aS aI im ac sp en wg op aB aT se dn aG aO aN aD bv aY rn kd nu tv), (zaI aS cS 901 fS)] U.heap ∧ va_K (dC, dI) vwCl [(cS, .int)] U)) (vp_Si (fun r => hoI yc x n r)) 0 0 (fun _ => False) := by
  refine met_ofQ (cc := cX12_heapOn) (maxL := 4) (ret := (some .int)) (by decide) rfl ?_
  intro p e s m args below meth c s₁ Q B hml hv hQ
  obtain ⟨rfl, hP, hK⟩ := hv
  have hx := B.exec
  have hb := B.bytes
  have hr := B.returns
  have hts := atoms_spec (ws := wsX12_heapOn) B.pre
  have hown : s.vm.findClass RX12 = some m.cls := findClass_of_methodNamed B.named
  have hlocks := B.notSynchronized
  obtain ⟨A, hAe⟩ : ∃ A : Nat → Prop, A = fun _ => False := ⟨_, rfl⟩
  rw [← hAe] at hQ
  have hS : va_S A s.heap s.heap [] := va_S.rf
  have hl := lv_entry [.ref m0, .int x] (n := 4) (Nat.le_of_ble_eq_true rfl)
  rw [lg_entry_eq]
  generalize (lg_sl [.ref m0, .int x] ++ List.replicate (4 - (lg_sl [.ref m0, .int x]).length) Slot.unset).toArray = ls at hl ⊢
  generalize hag : ([.ref m0, .int x] : List Value).toArray = args at hts hQ ⊢
  have hl : lv_has ls 4 [(0, .ref m0), (1, .int x)] := hl
  refine lv_iconst (v := (-1)) hx hb dX12_heapOn_0 (by decide) ?_
  refine lv_istore_n (lv' := [(2, .int (-1)), (0, .ref m0), (1, .int x)]) hx hb dX12_heapOn_1 rfl hl (by decide) rfl (fun ls hl => ?_)
  refine lv_iconst (v := 0) hx hb dX12_heapOn_2 (by decide) ?_
  refine lv_istore_n (lv' := [(3, .int 0), (2, .int (-1)), (0, .ref m0), (1, .int x)]) hx hb dX12_heapOn_3 rfl hl (by decide) rfl (fun ls hl => ?_)
  have L4 : ∀ (nF : Nat) (i : Nat) (q : Int32), n - i < nF → (i ≤ n) → (hoI yc x i q) → ∀ (ls : Array Slot), lv_has ls 4 [(0, .ref m0), (1, .int x), (2, .int q), (3, .int (nI i))] → W p l e ({ frames := 0, cells := 0, slots := 0, locals := 0 } : Room) s m args below meth c s.heap [] 0 0 Q (F0 m 4 ls []) := by
    intro nF
    induction nF with
    | zero => intro i q hm; exact absurd hm (Nat.not_lt_zero _)
    | succ nF ih4 =>
      intro i q hm hi hq9 ls hl
      refine lv_iload_n hx hb dX12_heapOn_4 rfl (lv_at hl 3 rfl) ?_
      refine lv_aload_n hx hb dX12_heapOn_5 rfl (lv_at hl 0 rfl) ?_
      refine va_get (D := (dC, dI)) (ci := 14) (v := .ref aS) (C := RX12) (T := TX12) (N := 23) hx hb hts kc_heapOn_0 hown hK hP 0 rfl rfl 1 (by decide) (hts (.fieldLink RX12 9 "MistHeapsModel" "s" "[I") kc_heapOn_1) (fun _ h9 => h9) rfl dX12_heapOn_6 ?_
      refine lv_iconst (v := 0) hx hb dX12_heapOn_9 (by decide) ?_
      refine va_iald hx hb hK hP 1 0 rfl rfl (vp_in_nI (n := 0) (N := 901) (by omega) (by omega)) dX12_heapOn_10 ?_
      refine qi_as (y := nI n) ((show fS (0 : Int32).toNatClampNeg = fS 0 from rfl).trans (zn)) ?_
      refine lv_icmp_ge (tgt := 39) hx hb dX12_heapOn_11 (by decide) (fun c_1 => ?_) (fun c_1 => ?_)
      · skip
        have c_1 : n ≤ i := (nI_leI (a := n) (b := i) (by omega) (by omega)).mp c_1
        refine lv_iload_n hx hb dX12_heapOn_39 rfl (lv_at hl 2 rfl) ?_
        rw [hQ]
        exact W.iret (v := q) hx hb hr (fun tQ htQ hWQ => ⟨q, rfl, ho_end (by omega) hi hq9, by rw [htQ]⟩) (fun q hq => absurd hq List.not_mem_nil) dX12_heapOn_40
      · skip
        have c_1 : ¬ n ≤ i := fun q => c_1 ((nI_leI (a := n) (b := i) (by omega) (by omega)).mpr q)
        refine lv_aload_n hx hb dX12_heapOn_14 rfl (lv_at hl 0 rfl) ?_
        refine va_get (D := (dC, dI)) (ci := 14) (v := .ref aS) (C := RX12) (T := TX12) (N := 23) hx hb hts kc_heapOn_0 hown hK hP 0 rfl rfl 1 (by decide) (hts (.fieldLink RX12 9 "MistHeapsModel" "s" "[I") kc_heapOn_1) (fun _ h9 => h9) rfl dX12_heapOn_15 ?_
        refine lv_bipush (v := 28) hx hb dX12_heapOn_18 (by decide) ?_
        refine lv_iload_n hx hb dX12_heapOn_20 rfl (lv_at hl 3 rfl) ?_
        refine lv_iadd hx hb dX12_heapOn_21 ?_
        refine qi_as (y := nI (28 + i)) (nI_add 28 i) ?_
        refine va_iald hx hb hK hP 1 0 rfl rfl (vp_in_nI (n := 28 + i) (N := 901) (by omega) (by omega)) dX12_heapOn_22 ?_
        refine qi_as (y := yc i) ((show fS (nI (28 + i) : Int32).toNatClampNeg = fS (28 + i) from by rw [nI_clamp (by omega)]).trans (zc i (by omega))) ?_
        refine lv_iload_n hx hb dX12_heapOn_23 rfl (lv_at hl 1 rfl) ?_
        refine lv_icmp_ne (tgt := 31) hx hb dX12_heapOn_24 (by decide) (fun c_2 => ?_) (fun c_2 => ?_)
        · skip
          refine lv_iload_n hx hb dX12_heapOn_31 rfl (lv_at hl 2 rfl) ?_
          refine lv_istore_n (lv' := [(2, .int q), (0, .ref m0), (1, .int x), (3, .int (nI i))]) hx hb dX12_heapOn_32 rfl hl (by decide) rfl (fun ls hl => ?_)
          refine lv_iinc (v := nI (i + 1)) (lv' := [(3, .int (nI (i + 1))), (2, .int q), (0, .ref m0), (1, .int x)]) hx hb dX12_heapOn_33 hl (k := 3) rfl (nI_add i 1) (by decide) rfl (fun ls hl => ?_)
          refine lv_goto (tgt := 4) hx hb dX12_heapOn_36 (by decide) ?_
          exact ih4 (i + 1) _ (by omega) (by omega) (ho_miss hq9 c_2) ls (lv_sub hl [2, 3, 1, 0] rfl)
        · skip
          refine lv_iload_n hx hb dX12_heapOn_27 rfl (lv_at hl 3 rfl) ?_
          refine lv_goto (tgt := 32) hx hb dX12_heapOn_28 (by decide) ?_
          refine lv_istore_n (lv' := [(2, .int (nI i)), (0, .ref m0), (1, .int x), (3, .int (nI i))]) hx hb dX12_heapOn_32 rfl hl (by decide) rfl (fun ls hl => ?_)
          refine lv_iinc (v := nI (i + 1)) (lv' := [(3, .int (nI (i + 1))), (2, .int (nI i)), (0, .ref m0), (1, .int x)]) hx hb dX12_heapOn_33 hl (k := 3) rfl (nI_add i 1) (by decide) rfl (fun ls hl => ?_)
          refine lv_goto (tgt := 4) hx hb dX12_heapOn_36 (by decide) ?_
          exact ih4 (i + 1) _ (by omega) (by omega) (ho_hit (by omega) c_2) ls (lv_sub hl [2, 3, 1, 0] rfl)
  exact L4 _ (0) ((-1)) (Nat.lt_succ_self _) (by omega) (ho_0) ls (lv_sub hl [2, 3, 1, 0] rfl)

theorem kc_puts_0 : ∀ w ∈ wsX120, w ∈ wsX12_puts := fun w h => List.mem_cons_of_mem _ (gin_wsX120 w h)
theorem kc_puts_1 : (.fieldLink RX12 9 "MistHeapsModel" "s" "[I" : Cond) ∈ wsX12_puts := kc_of 1141 rfl rfl rfl
set_option maxHeartbeats 4000000 in
set_option maxRecDepth 100000 in
theorem c_puts (l : Launch) (dC : Nat → ClassId) (dI : Nat → Nat → Nat) (m0 aS aI aB aT aG aO aN aD aY : Nat) (th im ac sp en wg op se dn rn kd nu tv : Int32) (bv : Int64) (cS : ClassId) (fS : Nat → Int32) (n : Nat) (x y z : Int32) (sz : Nat) (zn : fS 0 = nI n) (hn : n ≤ 8) : Met l yX12_puts wsX12_puts ({ frames := 0, cells := 0, slots := 0, locals := 0 } : Room) (va_Pc [.ref m0, .int x, .int y, .int z] (fun U => U.heap.size = sz ∧ va_P (dC, dI) vwCl [(zo14irriiiiiirriirrrrlriiii m0 th aS aI im ac sp en wg op aB aT se dn aG aO aN aD bv aY rn kd nu tv), (zaI aS cS 901 fS)] U.heap ∧ va_K (dC, dI) vwCl [(cS, .int)] U ∧ va_D (fun _ => True) [(zo14irriiiiiirriirrrrlriiii m0 th aS aI im ac sp en wg op aB aT se dn aG aO aN aD bv aY rn kd nu tv), (zaI aS cS 901 fS)])) (va_Qi (fun (r : Int32) (u : Nat → Int32) => match u with | fS9 => r = nI n ∧ fS9 = upd (upd (upd (upd fS (10 + n) x) (19 + n) y) (28 + n) z) 0 (nI (n + 1))) (fun (u : Nat → Int32) (t : State) => match u with | fS9 => va_P (dC, dI) vwCl [(zo14irriiiiiirriirrrrlriiii m0 th aS aI im ac sp en wg op aB aT se dn aG aO aN aD bv aY rn kd nu tv), (zaI aS cS 901 fS9)] t.heap ∧ va_K (dC, dI) vwCl [(cS, .int)] t ∧ va_D (va_A [(zo14irriiiiiirriirrrrlriiii m0 th aS aI im ac sp en wg op aB aT se dn aG aO aN aD bv aY rn kd nu tv), (zaI aS cS 901 fS)] sz) [(zo14irriiiiiirriirrrrlriiii m0 th aS aI im ac sp en wg op aB aT se dn aG aO aN aD bv aY rn kd nu tv), (zaI aS cS 901 fS9)]) (va_A [(zo14irriiiiiirriirrrrlriiii m0 th aS aI im ac sp en wg op aB aT se dn aG aO aN aD bv aY rn kd nu tv), (zaI aS cS 901 fS)] sz)) 0 0 (va_A [(zo14irriiiiiirriirrrrlriiii m0 th aS aI im ac sp en wg op aB aT se dn aG aO aN aD bv aY rn kd nu tv), (zaI aS cS 901 fS)] sz) := by
  refine met_ofQ (cc := cX12_puts) (maxL := 5) (ret := (some .int)) (by decide) rfl ?_
  intro p e s m args below meth c s₁ Q B hml hv hQ
  obtain ⟨rfl, hsz, hP, hK, hD0⟩ := hv
  have hx := B.exec
  have hb := B.bytes
  have hr := B.returns
  have hts := atoms_spec (ws := wsX12_puts) B.pre
  have hown : s.vm.findClass RX12 = some m.cls := findClass_of_methodNamed B.named
  have hlocks := B.notSynchronized
  subst hsz
  have hD := hD0.self (sz := s.heap.size)
  generalize hAe : va_A [(zo14irriiiiiirriirrrrlriiii m0 th aS aI im ac sp en wg op aB aT se dn aG aO aN aD bv aY rn kd nu tv), (zaI aS cS 901 fS)] s.heap.size = A at hD hQ ⊢
  have hA : ∀ q : Nat, s.heap.size ≤ q → A q := fun q h => by rw [← hAe]; exact Or.inr h
  have hS : va_S A s.heap s.heap [] := va_S.rf
  have hl := lv_entry [.ref m0, .int x, .int y, .int z] (n := 5) (Nat.le_of_ble_eq_true rfl)
  rw [lg_entry_eq]
  generalize (lg_sl [.ref m0, .int x, .int y, .int z] ++ List.replicate (5 - (lg_sl [.ref m0, .int x, .int y, .int z]).length) Slot.unset).toArray = ls at hl ⊢
  generalize hag : ([.ref m0, .int x, .int y, .int z] : List Value).toArray = args at hts hQ ⊢
  have hl : lv_has ls 5 [(0, .ref m0), (1, .int x), (2, .int y), (3, .int z)] := hl
  obtain ⟨H, hH⟩ : ∃ H : Heap, H = s.heap := ⟨_, rfl⟩
  rw [← hH] at hP
  rw [← hH]
  have hS : va_S A s.heap H [] := by rw [hH]; exact hS
  obtain ⟨locs, hlo⟩ : ∃ L : List Loc, L = [] := ⟨_, rfl⟩
  rw [← hlo] at hS
  rw [← hlo]
  clear hH hlo
  refine lv_aload_n hx hb dX12_puts_0 rfl (lv_at hl 0 rfl) ?_
  refine va_get (D := (dC, dI)) (ci := 14) (v := .ref aS) (C := RX12) (T := TX12) (N := 23) hx hb hts kc_puts_0 hown hK hP 0 rfl rfl 1 (by decide) (hts (.fieldLink RX12 9 "MistHeapsModel" "s" "[I") kc_puts_1) (fun _ h9 => h9) rfl dX12_puts_1 ?_
  refine lv_iconst (v := 0) hx hb dX12_puts_4 (by decide) ?_
  refine va_iald hx hb hK hP 1 0 rfl rfl (vp_in_nI (n := 0) (N := 901) (by omega) (by omega)) dX12_puts_5 ?_
  refine qi_as (y := nI n) ((show fS (0 : Int32).toNatClampNeg = fS 0 from rfl).trans (zn)) ?_
  refine lv_istore (lv' := [(4, .int (nI n)), (0, .ref m0), (1, .int x), (2, .int y), (3, .int z)]) hx hb dX12_puts_6 hl (by decide) rfl (fun ls hl => ?_)
  refine lv_aload_n hx hb dX12_puts_8 rfl (lv_at hl 1 rfl) ?_
  refine va_get (D := (dC, dI)) (ci := 14) (v := .ref aS) (C := RX12) (T := TX12) (N := 23) hx hb hts kc_puts_0 hown hK hP 0 rfl rfl 1 (by decide) (hts (.fieldLink RX12 9 "MistHeapsModel" "s" "[I") kc_puts_1) (fun _ h9 => h9) rfl dX12_puts_9 ?_
  refine lv_bipush (v := 10) hx hb dX12_puts_12 (by decide) ?_
  refine lv_iload hx hb dX12_puts_14 (lv_at hl 0 rfl) ?_
  refine lv_iadd hx hb dX12_puts_16 ?_
  refine qi_as (y := nI (10 + n)) (nI_add 10 n) ?_
  refine lv_iload_n hx hb dX12_puts_17 rfl (lv_at hl 2 rfl) ?_
  refine va_iast hx hb hK hP hD hS 1 0 rfl rfl (vp_in_nI (n := 10 + n) (N := 901) (by omega) (by omega)) dX12_puts_18 (fun H locs hP hD hS => ?_)
  rw [nI_clamp (n := 10 + n) (by omega)] at hP hD
  have hP : va_P (dC, dI) vwCl [(zo14irriiiiiirriirrrrlriiii m0 th aS aI im ac sp en wg op aB aT se dn aG aO aN aD bv aY rn kd nu tv), (zaI aS cS 901 (upd fS (10 + n) x))] H := hP
  have hD : va_D A [(zo14irriiiiiirriirrrrlriiii m0 th aS aI im ac sp en wg op aB aT se dn aG aO aN aD bv aY rn kd nu tv), (zaI aS cS 901 (upd fS (10 + n) x))] := hD
  refine lv_aload_n hx hb dX12_puts_19 rfl (lv_at hl 1 rfl) ?_
  refine va_get (D := (dC, dI)) (ci := 14) (v := .ref aS) (C := RX12) (T := TX12) (N := 23) hx hb hts kc_puts_0 hown hK hP 0 rfl rfl 1 (by decide) (hts (.fieldLink RX12 9 "MistHeapsModel" "s" "[I") kc_puts_1) (fun _ h9 => h9) rfl dX12_puts_20 ?_
  refine lv_bipush (v := 19) hx hb dX12_puts_23 (by decide) ?_
  refine lv_iload hx hb dX12_puts_25 (lv_at hl 0 rfl) ?_
  refine lv_iadd hx hb dX12_puts_27 ?_
  refine qi_as (y := nI (19 + n)) (nI_add 19 n) ?_
  refine lv_iload_n hx hb dX12_puts_28 rfl (lv_at hl 3 rfl) ?_
  refine va_iast hx hb hK hP hD hS 1 0 rfl rfl (vp_in_nI (n := 19 + n) (N := 901) (by omega) (by omega)) dX12_puts_29 (fun H locs hP hD hS => ?_)
  rw [nI_clamp (n := 19 + n) (by omega)] at hP hD
  have hP : va_P (dC, dI) vwCl [(zo14irriiiiiirriirrrrlriiii m0 th aS aI im ac sp en wg op aB aT se dn aG aO aN aD bv aY rn kd nu tv), (zaI aS cS 901 (upd (upd fS (10 + n) x) (19 + n) y))] H := hP
  have hD : va_D A [(zo14irriiiiiirriirrrrlriiii m0 th aS aI im ac sp en wg op aB aT se dn aG aO aN aD bv aY rn kd nu tv), (zaI aS cS 901 (upd (upd fS (10 + n) x) (19 + n) y))] := hD
  refine lv_aload_n hx hb dX12_puts_30 rfl (lv_at hl 1 rfl) ?_
  refine va_get (D := (dC, dI)) (ci := 14) (v := .ref aS) (C := RX12) (T := TX12) (N := 23) hx hb hts kc_puts_0 hown hK hP 0 rfl rfl 1 (by decide) (hts (.fieldLink RX12 9 "MistHeapsModel" "s" "[I") kc_puts_1) (fun _ h9 => h9) rfl dX12_puts_31 ?_
  refine lv_bipush (v := 28) hx hb dX12_puts_34 (by decide) ?_
  refine lv_iload hx hb dX12_puts_36 (lv_at hl 0 rfl) ?_
  refine lv_iadd hx hb dX12_puts_38 ?_
  refine qi_as (y := nI (28 + n)) (nI_add 28 n) ?_
  refine lv_iload_n hx hb dX12_puts_39 rfl (lv_at hl 4 rfl) ?_
  refine va_iast hx hb hK hP hD hS 1 0 rfl rfl (vp_in_nI (n := 28 + n) (N := 901) (by omega) (by omega)) dX12_puts_40 (fun H locs hP hD hS => ?_)
  rw [nI_clamp (n := 28 + n) (by omega)] at hP hD
  have hP : va_P (dC, dI) vwCl [(zo14irriiiiiirriirrrrlriiii m0 th aS aI im ac sp en wg op aB aT se dn aG aO aN aD bv aY rn kd nu tv), (zaI aS cS 901 (upd (upd (upd fS (10 + n) x) (19 + n) y) (28 + n) z))] H := hP
  have hD : va_D A [(zo14irriiiiiirriirrrrlriiii m0 th aS aI im ac sp en wg op aB aT se dn aG aO aN aD bv aY rn kd nu tv), (zaI aS cS 901 (upd (upd (upd fS (10 + n) x) (19 + n) y) (28 + n) z))] := hD
  refine lv_aload_n hx hb dX12_puts_41 rfl (lv_at hl 1 rfl) ?_
  refine va_get (D := (dC, dI)) (ci := 14) (v := .ref aS) (C := RX12) (T := TX12) (N := 23) hx hb hts kc_puts_0 hown hK hP 0 rfl rfl 1 (by decide) (hts (.fieldLink RX12 9 "MistHeapsModel" "s" "[I") kc_puts_1) (fun _ h9 => h9) rfl dX12_puts_42 ?_
  refine lv_iconst (v := 0) hx hb dX12_puts_45 (by decide) ?_
  refine lv_dup2_11 hx hb dX12_puts_46 rfl rfl ?_
  refine va_iald hx hb hK hP 1 0 rfl rfl (vp_in_nI (n := 0) (N := 901) (by omega) (by omega)) dX12_puts_47 ?_
  refine qi_as (y := nI n) ((show (upd (upd (upd fS (10 + n) x) (19 + n) y) (28 + n) z) (0 : Int32).toNatClampNeg = (upd (upd (upd fS (10 + n) x) (19 + n) y) (28 + n) z) 0 from rfl).trans (by rw [pk_un (by omega), pk_un (by omega), pk_un (by omega)]; exact zn)) ?_
  refine lv_iconst (v := 1) hx hb dX12_puts_48 (by decide) ?_
  refine lv_iadd hx hb dX12_puts_49 ?_
  refine qi_as (y := nI (n + 1)) (nI_add n 1) ?_
  refine va_iast hx hb hK hP hD hS 1 0 rfl rfl (vp_in_nI (n := 0) (N := 901) (by omega) (by omega)) dX12_puts_50 (fun H locs hP hD hS => ?_)
  have hP : va_P (dC, dI) vwCl [(zo14irriiiiiirriirrrrlriiii m0 th aS aI im ac sp en wg op aB aT se dn aG aO aN aD bv aY rn kd nu tv), (zaI aS cS 901 (upd (upd (upd (upd fS (10 + n) x) (19 + n) y) (28 + n) z) 0 (nI (n + 1))))] H := hP
  have hD : va_D A [(zo14irriiiiiirriirrrrlriiii m0 th aS aI im ac sp en wg op aB aT se dn aG aO aN aD bv aY rn kd nu tv), (zaI aS cS 901 (upd (upd (upd (upd fS (10 + n) x) (19 + n) y) (28 + n) z) 0 (nI (n + 1))))] := hD
  refine lv_iload hx hb dX12_puts_51 (lv_at hl 0 rfl) ?_
  rw [hQ]
  have hP9 := hP.sub (ws' := [(zo14irriiiiiirriirrrrlriiii m0 th aS aI im ac sp en wg op aB aT se dn aG aO aN aD bv aY rn kd nu tv), (zaI aS cS 901 (upd (upd (upd (upd fS (10 + n) x) (19 + n) y) (28 + n) z) 0 (nI (n + 1))))]) [0, 1] rfl
  have hD9 := hD.sub (ws' := [(zo14irriiiiiirriirrrrlriiii m0 th aS aI im ac sp en wg op aB aT se dn aG aO aN aD bv aY rn kd nu tv), (zaI aS cS 901 (upd (upd (upd (upd fS (10 + n) x) (19 + n) y) (28 + n) z) 0 (nI (n + 1))))]) [0, 1] (by decide) rfl
  have hK9 := hK.sub (tys' := [(cS, .int)]) [0] rfl
  exact W.iret (v := nI n) hx hb hr (fun tQ htQ hWQ => ⟨⟨(nI n), (upd (upd (upd (upd fS (10 + n) x) (19 + n) y) (28 + n) z) 0 (nI (n + 1))), rfl, ⟨rfl, rfl⟩, by rw [htQ]; exact hP9, va_K.moved hWQ.alike hK9, hD9⟩, hS.F htQ⟩) hS.2.2 dX12_puts_53

theorem kc_mBears_0 : ∀ w ∈ wsX120, w ∈ wsX12_bears := fun w h => List.mem_cons_of_mem _ (gin_wsX120 w h)
theorem kc_mBears_1 : (.fieldLink RX12 9 "MistHeapsModel" "s" "[I" : Cond) ∈ wsX12_bears := kc_of 1141 rfl rfl rfl
set_option maxHeartbeats 4000000 in
set_option maxRecDepth 100000 in
theorem c_mBears (l : Launch) (dC : Nat → ClassId) (dI : Nat → Nat → Nat) (m0 aS aI aB aT aG aO aN aD aY : Nat) (th im ac sp en wg op se dn rn kd nu tv : Int32) (bv : Int64) (cS cB cT cG : ClassId) (fS : Nat → Int32) (fB : Nat → Int32) (fT : Nat → Int32) (fG : Nat → Int32) (n : Nat) (yk yv yc : Nat → Int32) (mi sn : Int32) (x y : Int32) (cz : List pCla) (sz : Nat) (zn : fS 0 = nI n) (hn : n ≤ 8) (zh : hol fS cz) (zkd : ∀ k, k < n → fS (10 + k) = yk k) (zvv : ∀ k, k < n → fS (19 + k) = yv k) (zc : ∀ k, k < n → fS (28 + k) = yc k) (zmi : fS 6 = mi) (zsn : fS 7 = sn) : Met l yX12_bears wsX12_bears ({ frames := 6, cells := 0, slots := 0, locals := 147 } : Room) (va_Pc [.ref m0, .int x, .int y] (fun U => U.heap.size = sz ∧ va_P (dC, dI) vwCl [(zo14irriiiiiirriirrrrlriiii m0 th aS aI im ac sp en wg op aB aT se dn aG aO aN aD bv aY rn kd nu tv), (zaI aS cS 901 fS), (zaI aB cB 6 fB), (zaI aT cT 64 fT), (zaI aG cG 9 fG)] U.heap ∧ va_K (dC, dI) vwCl [(cS, .int), (cB, .int), (cT, .boolean), (cG, .int)] U ∧ va_D (fun _ => True) [(zo14irriiiiiirriirrrrlriiii m0 th aS aI im ac sp en wg op aB aT se dn aG aO aN aD bv aY rn kd nu tv), (zaI aS cS 901 fS), (zaI aB cB 6 fB), (zaI aT cT 64 fT), (zaI aG cG 9 fG)])) (va_Qi (fun (r : Int32) (u : (Nat → Int32) × (Nat → Int32) × (Int32) × (Int32) × (Nat → Int32)) => match u with | (fB9, fT9, se9, dn9, fG9) => r = beR_ n yk yv yc cz mi x y) (fun (u : (Nat → Int32) × (Nat → Int32) × (Int32) × (Int32) × (Nat → Int32)) (t : State) => match u with | (fB9, fT9, se9, dn9, fG9) => va_P (dC, dI) vwCl [(zo14irriiiiiirriirrrrlriiii m0 th aS aI im ac sp en wg op aB aT se9 dn9 aG aO aN aD bv aY rn kd nu tv), (zaI aS cS 901 fS), (zaI aB cB 6 fB9), (zaI aT cT 64 fT9), (zaI aG cG 9 fG9)] t.heap ∧ va_K (dC, dI) vwCl [(cS, .int), (cB, .int), (cT, .boolean), (cG, .int)] t ∧ va_D (va_A [(zo14irriiiiiirriirrrrlriiii m0 th aS aI im ac sp en wg op aB aT se dn aG aO aN aD bv aY rn kd nu tv), (zaI aS cS 901 fS), (zaI aB cB 6 fB), (zaI aT cT 64 fT), (zaI aG cG 9 fG)] sz) [(zo14irriiiiiirriirrrrlriiii m0 th aS aI im ac sp en wg op aB aT se9 dn9 aG aO aN aD bv aY rn kd nu tv), (zaI aS cS 901 fS), (zaI aB cB 6 fB9), (zaI aT cT 64 fT9), (zaI aG cG 9 fG9)]) (va_A [(zo14irriiiiiirriirrrrlriiii m0 th aS aI im ac sp en wg op aB aT se dn aG aO aN aD bv aY rn kd nu tv), (zaI aS cS 901 fS), (zaI aB cB 6 fB), (zaI aT cT 64 fT), (zaI aG cG 9 fG)] sz)) 0 0 (va_A [(zo14irriiiiiirriirrrrlriiii m0 th aS aI im ac sp en wg op aB aT se dn aG aO aN aD bv aY rn kd nu tv), (zaI aS cS 901 fS), (zaI aB cB 6 fB), (zaI aT cT 64 fT), (zaI aG cG 9 fG)] sz) := by
  refine met_ofQ (cc := cX12_bears) (maxL := 6) (ret := (some .int)) (by decide) rfl ?_
  intro p e s m args below meth c s₁ Q B hml hv hQ
  obtain ⟨rfl, hsz, hP, hK, hD0⟩ := hv
  have hx := B.exec
  have hb := B.bytes
  have hr := B.returns
  have hts := atoms_spec (ws := wsX12_bears) B.pre
  have hown : s.vm.findClass RX12 = some m.cls := findClass_of_methodNamed B.named
  have hlocks := B.notSynchronized
  subst hsz
  have hD := hD0.self (sz := s.heap.size)
  generalize hAe : va_A [(zo14irriiiiiirriirrrrlriiii m0 th aS aI im ac sp en wg op aB aT se dn aG aO aN aD bv aY rn kd nu tv), (zaI aS cS 901 fS), (zaI aB cB 6 fB), (zaI aT cT 64 fT), (zaI aG cG 9 fG)] s.heap.size = A at hD hQ ⊢
  have hA : ∀ q : Nat, s.heap.size ≤ q → A q := fun q h => by rw [← hAe]; exact Or.inr h
  have hS : va_S A s.heap s.heap [] := va_S.rf
  have hl := lv_entry [.ref m0, .int x, .int y] (n := 6) (Nat.le_of_ble_eq_true rfl)
  rw [lg_entry_eq]
  generalize (lg_sl [.ref m0, .int x, .int y] ++ List.replicate (6 - (lg_sl [.ref m0, .int x, .int y]).length) Slot.unset).toArray = ls at hl ⊢
  generalize hag : ([.ref m0, .int x, .int y] : List Value).toArray = args at hts hQ ⊢
  have hl : lv_has ls 6 [(0, .ref m0), (1, .int x), (2, .int y)] := hl
  obtain ⟨H, hH⟩ : ∃ H : Heap, H = s.heap := ⟨_, rfl⟩
  rw [← hH] at hP
  rw [← hH]
  have hS : va_S A s.heap H [] := by rw [hH]; exact hS
  obtain ⟨locs, hlo⟩ : ∃ L : List Loc, L = [] := ⟨_, rfl⟩
  rw [← hlo] at hS
  rw [← hlo]
  clear hH hlo
  refine lv_aload_n hx hb dX12_bears_0 rfl (lv_at hl 0 rfl) ?_
  refine lv_iload_n hx hb dX12_bears_1 rfl (lv_at hl 1 rfl) ?_
  have hPc := hP.sub (ws' := [(zo14irriiiiiirriirrrrlriiii m0 th aS aI im ac sp en wg op aB aT se dn aG aO aN aD bv aY rn kd nu tv), (zaI aS cS 901 fS)]) [0, 1] rfl
  have hKc := hK.sub (tys' := [(cS, .int)]) [0] rfl
  refine vp_callSi (va_runV (As := [.int x]) (rest := []) ⟨hx, hb, hml, hown, hts⟩ (c_isHeap l dC dI m0 aS aI aB aT aG aO aN aD aY th im ac sp en wg op se dn rn kd nu tv bv cS fS n x (zn) (hn)) (cwV 1 hts gX12_bears_X12_isHeap rfl rfl rfl hd_yX12_isHeap ⟨Nat.le_of_ble_eq_true rfl, Nat.le_of_ble_eq_true rfl⟩) ⟨fun a U g mk q => by obtain ⟨q0, qP, qK⟩ := q; exact ⟨q0, qP, va_K.moved (u := U) (U := U.calling g mk a) (Vm.Alike.refl U.vm) qK⟩, va_recv hK hP (ci := 14) (q := (RX12, TX12, 23)) (q0 := 0) rfl rfl, fun U hU hW => ⟨rfl, by rw [hU]; exact hPc, va_K.moved hW.alike hKc⟩⟩ rfl rfl hl.1 rfl (lv_room (Nat.le_of_ble_eq_true rfl)) dX12_bears_2 ⟨Nat.le_of_ble_eq_true rfl, Nat.le_of_ble_eq_true rfl⟩).run (fun r_1 hw_2 => ?_)
  rcases hw_2 with ⟨rfl, j_3, hj_4, rfl⟩ | ⟨rfl, h_5⟩
  · skip
    refine lv_if_eq (tgt := 16) hx hb dX12_bears_5 (by decide) (fun c_6 => absurd c_6 (by decide)) (fun _ => ?_)
    refine lv_aload_n hx hb dX12_bears_8 rfl (lv_at hl 0 rfl) ?_
    refine lv_iload_n hx hb dX12_bears_9 rfl (lv_at hl 2 rfl) ?_
    have hPc := hP.sub (ws' := [(zo14irriiiiiirriirrrrlriiii m0 th aS aI im ac sp en wg op aB aT se dn aG aO aN aD bv aY rn kd nu tv), (zaI aS cS 901 fS)]) [0, 1] rfl
    have hKc := hK.sub (tys' := [(cS, .int)]) [0] rfl
    refine vp_callSi (va_runV (As := [.int y]) (rest := []) ⟨hx, hb, hml, hown, hts⟩ (c_isHeap l dC dI m0 aS aI aB aT aG aO aN aD aY th im ac sp en wg op se dn rn kd nu tv bv cS fS n y (zn) (hn)) (cwV 1 hts gX12_bears_X12_isHeap rfl rfl rfl hd_yX12_isHeap ⟨Nat.le_of_ble_eq_true rfl, Nat.le_of_ble_eq_true rfl⟩) ⟨fun a U g mk q => by obtain ⟨q0, qP, qK⟩ := q; exact ⟨q0, qP, va_K.moved (u := U) (U := U.calling g mk a) (Vm.Alike.refl U.vm) qK⟩, va_recv hK hP (ci := 14) (q := (RX12, TX12, 23)) (q0 := 0) rfl rfl, fun U hU hW => ⟨rfl, by rw [hU]; exact hPc, va_K.moved hW.alike hKc⟩⟩ rfl rfl hl.1 rfl (lv_room (Nat.le_of_ble_eq_true rfl)) dX12_bears_10 ⟨Nat.le_of_ble_eq_true rfl, Nat.le_of_ble_eq_true rfl⟩).run (fun r_7 hw_8 => ?_)
    rcases hw_8 with ⟨rfl, j_9, hj_10, rfl⟩ | ⟨rfl, h_11⟩
    · skip
      refine lv_if_ne (tgt := 18) hx hb dX12_bears_13 (by decide) (fun _ => ?_) (fun c_12 => absurd c_12 (by decide))
      obtain ⟨B9, hB9⟩ : ∃ B : Nat → Int32, B = beF (fun k => ¬ fsR (gRow n yk yv yc cz mi (nI k)) n (nI j_3) (nI j_9) 0 = -5) := ⟨_, rfl⟩
      refine lv_aload_n hx hb dX12_bears_18 rfl (lv_at hl 0 rfl) ?_
      refine va_get (D := (dC, dI)) (ci := 14) (v := .ref aS) (C := RX12) (T := TX12) (N := 23) hx hb hts kc_mBears_0 hown hK hP 0 rfl rfl 1 (by decide) (hts (.fieldLink RX12 9 "MistHeapsModel" "s" "[I") kc_mBears_1) (fun _ h9 => h9) rfl dX12_bears_19 ?_
      refine lv_bipush (v := 7) hx hb dX12_bears_22 (by decide) ?_
      refine va_iald hx hb hK hP 1 0 rfl rfl (vp_in_nI (n := 7) (N := 901) (by omega) (by omega)) dX12_bears_24 ?_
      refine qi_as (y := fS 7) (rfl) ?_
      refine lv_istore_n (lv' := [(3, .int (fS 7)), (0, .ref m0), (1, .int (nI j_3)), (2, .int (nI j_9))]) hx hb dX12_bears_25 rfl hl (by decide) rfl (fun ls hl => ?_)
      refine lv_bipush (v := (-5)) hx hb dX12_bears_26 (by decide) ?_
      refine lv_istore (lv' := [(4, .int (-5)), (3, .int (fS 7)), (0, .ref m0), (1, .int (nI j_3)), (2, .int (nI j_9))]) hx hb dX12_bears_28 hl (by decide) rfl (fun ls hl => ?_)
      refine lv_iconst (v := 0) hx hb dX12_bears_30 (by decide) ?_
      refine lv_istore (lv' := [(5, .int 0), (4, .int (-5)), (3, .int (fS 7)), (0, .ref m0), (1, .int (nI j_3)), (2, .int (nI j_9))]) hx hb dX12_bears_31 hl (by decide) rfl (fun ls hl => ?_)
      have L33 : ∀ (nF : Nat) (i : Nat) (se2 : Int32) (dn2 : Int32) (fB2 : Nat → Int32) (fT2 : Nat → Int32) (fG2 : Nat → Int32) (q : Int32) (f : Nat → Int32), 10 - i < nF → (i ≤ 10) → (∀ i, i ≠ 7 → f i = fS i) → (q = B9 i) → ∀ (H : Heap) (locs : List Loc), va_K (dC, dI) vwCl [(cS, .int), (cB, .int), (cT, .boolean), (cG, .int)] s → va_P (dC, dI) vwCl [(zo14irriiiiiirriirrrrlriiii m0 th aS aI im ac sp en wg op aB aT se2 dn2 aG aO aN aD bv aY rn kd nu tv), (zaI aS cS 901 f), (zaI aB cB 6 fB2), (zaI aT cT 64 fT2), (zaI aG cG 9 fG2)] H → va_D A [(zo14irriiiiiirriirrrrlriiii m0 th aS aI im ac sp en wg op aB aT se2 dn2 aG aO aN aD bv aY rn kd nu tv), (zaI aS cS 901 f), (zaI aB cB 6 fB2), (zaI aT cT 64 fT2), (zaI aG cG 9 fG2)] → va_S A s.heap H locs → ∀ (ls : Array Slot), lv_has ls 6 [(0, .ref m0), (1, .int (nI j_3)), (2, .int (nI j_9)), (3, .int (fS 7)), (4, .int q), (5, .int (nI i))] → W p l e ({ frames := 6, cells := 0, slots := 0, locals := 147 } : Room) s m args below meth c H locs 0 0 Q (F0 m 33 ls []) := by
        intro nF
        induction nF with
        | zero => intro i se2 dn2 fB2 fT2 fG2 q f hm; exact absurd hm (Nat.not_lt_zero _)
        | succ nF ih33 =>
          intro i se2 dn2 fB2 fT2 fG2 q f hm hii zf hq9 H locs hK hP hD hS ls hl
          refine lv_iload hx hb dX12_bears_33 (lv_at hl 5 rfl) ?_
          refine lv_bipush (v := 10) hx hb dX12_bears_35 (by decide) ?_
          refine lv_icmp_ge (tgt := 75) hx hb dX12_bears_37 (by decide) (fun c_13 => ?_) (fun c_13 => ?_)
          · skip
            have c_13 : 10 ≤ i := (nI_leI (a := 10) (b := i) (by omega) (by omega)).mp c_13
            refine lv_aload_n hx hb dX12_bears_75 rfl (lv_at hl 0 rfl) ?_
            refine va_get (D := (dC, dI)) (ci := 14) (v := .ref aS) (C := RX12) (T := TX12) (N := 23) hx hb hts kc_mBears_0 hown hK hP 0 rfl rfl 1 (by decide) (hts (.fieldLink RX12 9 "MistHeapsModel" "s" "[I") kc_mBears_1) (fun _ h9 => h9) rfl dX12_bears_76 ?_
            refine lv_bipush (v := 7) hx hb dX12_bears_79 (by decide) ?_
            refine lv_iload_n hx hb dX12_bears_81 rfl (lv_at hl 3 rfl) ?_
            refine va_iast hx hb hK hP hD hS 1 0 rfl rfl (vp_in_nI (n := 7) (N := 901) (by omega) (by omega)) dX12_bears_82 (fun H locs hP hD hS => ?_)
            have hP : va_P (dC, dI) vwCl [(zo14irriiiiiirriirrrrlriiii m0 th aS aI im ac sp en wg op aB aT se2 dn2 aG aO aN aD bv aY rn kd nu tv), (zaI aS cS 901 (upd f 7 (fS 7))), (zaI aB cB 6 fB2), (zaI aT cT 64 fT2), (zaI aG cG 9 fG2)] H := hP
            have hD : va_D A [(zo14irriiiiiirriirrrrlriiii m0 th aS aI im ac sp en wg op aB aT se2 dn2 aG aO aN aD bv aY rn kd nu tv), (zaI aS cS 901 (upd f 7 (fS 7))), (zaI aB cB 6 fB2), (zaI aT cT 64 fT2), (zaI aG cG 9 fG2)] := hD
            rw [show upd f 7 (fS 7) = fS from funext fun k => by by_cases q7 : k = 7 <;> simp [upd, q7] <;> exact zf k q7] at hP hD
            have hP : va_P (dC, dI) vwCl [(zo14irriiiiiirriirrrrlriiii m0 th aS aI im ac sp en wg op aB aT se2 dn2 aG aO aN aD bv aY rn kd nu tv), (zaI aS cS 901 fS), (zaI aB cB 6 fB2), (zaI aT cT 64 fT2), (zaI aG cG 9 fG2)] H := hP
            have hD : va_D A [(zo14irriiiiiirriirrrrlriiii m0 th aS aI im ac sp en wg op aB aT se2 dn2 aG aO aN aD bv aY rn kd nu tv), (zaI aS cS 901 fS), (zaI aB cB 6 fB2), (zaI aT cT 64 fT2), (zaI aG cG 9 fG2)] := hD
            refine lv_iload hx hb dX12_bears_83 (lv_at hl 4 rfl) ?_
            rw [hQ]
            have hP9 := hP.sub (ws' := [(zo14irriiiiiirriirrrrlriiii m0 th aS aI im ac sp en wg op aB aT se2 dn2 aG aO aN aD bv aY rn kd nu tv), (zaI aS cS 901 fS), (zaI aB cB 6 fB2), (zaI aT cT 64 fT2), (zaI aG cG 9 fG2)]) [0, 1, 2, 3, 4] rfl
            have hD9 := hD.sub (ws' := [(zo14irriiiiiirriirrrrlriiii m0 th aS aI im ac sp en wg op aB aT se2 dn2 aG aO aN aD bv aY rn kd nu tv), (zaI aS cS 901 fS), (zaI aB cB 6 fB2), (zaI aT cT 64 fT2), (zaI aG cG 9 fG2)]) [0, 1, 2, 3, 4] (by decide) rfl
            have hK9 := hK.sub (tys' := [(cS, .int), (cB, .int), (cT, .boolean), (cG, .int)]) [0, 1, 2, 3] rfl
            exact W.iret (v := q) hx hb hr (fun tQ htQ hWQ => ⟨⟨q, (fB2, fT2, se2, dn2, fG2), rfl, be_m hn (by omega) (by omega) (be_e hB9 hq9 (by omega)), by rw [htQ]; exact hP9, va_K.moved hWQ.alike hK9, hD9⟩, hS.F htQ⟩) hS.2.2 dX12_bears_85
          · skip
            have c_13 : ¬ 10 ≤ i := fun q => c_13 ((nI_leI (a := 10) (b := i) (by omega) (by omega)).mpr q)
            refine lv_aload_n hx hb dX12_bears_40 rfl (lv_at hl 0 rfl) ?_
            refine va_get (D := (dC, dI)) (ci := 14) (v := .ref aS) (C := RX12) (T := TX12) (N := 23) hx hb hts kc_mBears_0 hown hK hP 0 rfl rfl 1 (by decide) (hts (.fieldLink RX12 9 "MistHeapsModel" "s" "[I") kc_mBears_1) (fun _ h9 => h9) rfl dX12_bears_41 ?_
            refine lv_bipush (v := 7) hx hb dX12_bears_44 (by decide) ?_
            refine lv_iload hx hb dX12_bears_46 (lv_at hl 5 rfl) ?_
            refine va_iast hx hb hK hP hD hS 1 0 rfl rfl (vp_in_nI (n := 7) (N := 901) (by omega) (by omega)) dX12_bears_48 (fun H locs hP hD hS => ?_)
            have hP : va_P (dC, dI) vwCl [(zo14irriiiiiirriirrrrlriiii m0 th aS aI im ac sp en wg op aB aT se2 dn2 aG aO aN aD bv aY rn kd nu tv), (zaI aS cS 901 (upd f 7 (nI i))), (zaI aB cB 6 fB2), (zaI aT cT 64 fT2), (zaI aG cG 9 fG2)] H := hP
            have hD : va_D A [(zo14irriiiiiirriirrrrlriiii m0 th aS aI im ac sp en wg op aB aT se2 dn2 aG aO aN aD bv aY rn kd nu tv), (zaI aS cS 901 (upd f 7 (nI i))), (zaI aB cB 6 fB2), (zaI aT cT 64 fT2), (zaI aG cG 9 fG2)] := hD
            obtain ⟨f2, ef2⟩ : ∃ g : Nat → Int32, g = upd f 7 (nI i) := ⟨_, rfl⟩
            have z2 : ∀ i, i ≠ 7 → f2 i = fS i := fun k hk => by rw [ef2, pk_un hk]; exact zf k hk
            rw [show upd f 7 (nI i) = f2 from ef2.symm] at hP hD
            have hP : va_P (dC, dI) vwCl [(zo14irriiiiiirriirrrrlriiii m0 th aS aI im ac sp en wg op aB aT se2 dn2 aG aO aN aD bv aY rn kd nu tv), (zaI aS cS 901 f2), (zaI aB cB 6 fB2), (zaI aT cT 64 fT2), (zaI aG cG 9 fG2)] H := hP
            have hD : va_D A [(zo14irriiiiiirriirrrrlriiii m0 th aS aI im ac sp en wg op aB aT se2 dn2 aG aO aN aD bv aY rn kd nu tv), (zaI aS cS 901 f2), (zaI aB cB 6 fB2), (zaI aT cT 64 fT2), (zaI aG cG 9 fG2)] := hD
            refine lv_aload_n hx hb dX12_bears_49 rfl (lv_at hl 0 rfl) ?_
            refine lv_iload_n hx hb dX12_bears_50 rfl (lv_at hl 1 rfl) ?_
            refine lv_iload_n hx hb dX12_bears_51 rfl (lv_at hl 2 rfl) ?_
            have hPc := hP.sub (ws' := [(zo14irriiiiiirriirrrrlriiii m0 th aS aI im ac sp en wg op aB aT se2 dn2 aG aO aN aD bv aY rn kd nu tv), (zaI aS cS 901 f2), (zaI aB cB 6 fB2), (zaI aT cT 64 fT2), (zaI aG cG 9 fG2)]) [0, 1, 2, 3, 4] rfl
            have hDc := hD.sub (ws' := [(zo14irriiiiiirriirrrrlriiii m0 th aS aI im ac sp en wg op aB aT se2 dn2 aG aO aN aD bv aY rn kd nu tv), (zaI aS cS 901 f2), (zaI aB cB 6 fB2), (zaI aT cT 64 fT2), (zaI aG cG 9 fG2)]) [0, 1, 2, 3, 4] (by decide) rfl
            have hKc := hK.sub (tys' := [(cS, .int), (cB, .int), (cT, .boolean), (cG, .int)]) [0, 1, 2, 3] rfl
            have hFc := va_free (wc := [(zo14irriiiiiirriirrrrlriiii m0 th aS aI im ac sp en wg op aB aT se2 dn2 aG aO aN aD bv aY rn kd nu tv), (zaI aS cS 901 f2), (zaI aB cB 6 fB2), (zaI aT cT 64 fT2), (zaI aG cG 9 fG2)]) hD hS hA [0, 1, 2, 3, 4] rfl
            refine va_calli (va_runV (As := [.int (nI j_3), .int (nI j_9)]) (rest := []) ⟨hx, hb, hml, hown, hts⟩ (c_stepsOf l dC dI m0 aS aI aB aT aG aO aN aD aY th im ac sp en wg op se2 dn2 rn kd nu tv bv cS cB cT cG f2 fB2 fT2 fG2 n (nI j_3) (nI j_9) cz H.size ((z2 0 (by decide)).trans zn) (hn) (hol_of zh (fun i _ hi => z2 i (by omega)))) (cwV 2 hts gX12_bears_X12_stepsOf rfl rfl rfl hd_yX12_stepsOf ⟨Nat.le_of_ble_eq_true rfl, Nat.le_of_ble_eq_true rfl⟩) ⟨fun a U g mk q => by obtain ⟨q0, q1, qP, qK, qD⟩ := q; exact ⟨q0, q1, qP, va_K.moved (u := U) (U := U.calling g mk a) (Vm.Alike.refl U.vm) qK, qD⟩, va_recv hK hP (ci := 14) (q := (RX12, TX12, 23)) (q0 := 0) rfl rfl, fun U hU hW => ⟨rfl, by rw [hU], by rw [hU]; exact hPc, va_K.moved hW.alike hKc, hDc.weaken (fun _ _ _ _ => trivial)⟩⟩ rfl rfl hl.1 rfl (lv_room (Nat.le_of_ble_eq_true rfl)) dX12_bears_52 ⟨Nat.le_of_ble_eq_true rfl, Nat.le_of_ble_eq_true rfl⟩) hS (fun q _ h => hFc q h) hFc (fun r_14 u tC H1 locs htC hvm hw_15 hB hz1 hk1 hS => ?_)
            obtain ⟨fB9_16, fT9_17, se9_18, dn9_19, fG9_20⟩ := u
            try dsimp only at hw_15 hB
            obtain ⟨hP1, hK1, hD1⟩ := hB
            rw [htC] at hP1
            have hK1 := va_K.moved hvm.symm hK1
            obtain ⟨hP, hD⟩ := va_join (wr := []) (w1 := [(zo14irriiiiiirriirrrrlriiii m0 th aS aI im ac sp en wg op aB aT se9_18 dn9_19 aG aO aN aD bv aY rn kd nu tv), (zaI aS cS 901 f2), (zaI aB cB 6 fB9_16), (zaI aT cT 64 fT9_17), (zaI aG cG 9 fG9_20)]) hP hD [0, 1, 2, 3, 4] [] rfl rfl (by decide) (by decide) hk1 hFc hP1 hD1
            have hK := (hK.sub (tys' := []) [] rfl).app hK1
            generalize H1 = H at hP hS ⊢
            have hP : va_P (dC, dI) vwCl [(zo14irriiiiiirriirrrrlriiii m0 th aS aI im ac sp en wg op aB aT se9_18 dn9_19 aG aO aN aD bv aY rn kd nu tv), (zaI aS cS 901 f2), (zaI aB cB 6 fB9_16), (zaI aT cT 64 fT9_17), (zaI aG cG 9 fG9_20)] H := hP
            have hD : va_D A [(zo14irriiiiiirriirrrrlriiii m0 th aS aI im ac sp en wg op aB aT se9_18 dn9_19 aG aO aN aD bv aY rn kd nu tv), (zaI aS cS 901 f2), (zaI aB cB 6 fB9_16), (zaI aT cT 64 fT9_17), (zaI aG cG 9 fG9_20)] := hD
            have hK : va_K (dC, dI) vwCl [(cS, .int), (cB, .int), (cT, .boolean), (cG, .int)] s := hK
            obtain ⟨hs1, rfl⟩ := hw_15
            refine lv_bipush (v := (-5)) hx hb dX12_bears_55 (by decide) ?_
            refine lv_icmp_ne (tgt := 65) hx hb dX12_bears_57 (by decide) (fun c_21 => ?_) (fun c_21 => ?_)
            · skip
              refine lv_iload hx hb dX12_bears_65 (lv_at hl 5 rfl) ?_
              refine lv_istore (lv' := [(4, .int (nI i)), (0, .ref m0), (1, .int (nI j_3)), (2, .int (nI j_9)), (3, .int (fS 7)), (5, .int (nI i))]) hx hb dX12_bears_67 hl (by decide) rfl (fun ls hl => ?_)
              refine lv_iinc (v := nI (i + 1)) (lv' := [(5, .int (nI (i + 1))), (4, .int (nI i)), (0, .ref m0), (1, .int (nI j_3)), (2, .int (nI j_9)), (3, .int (fS 7))]) hx hb dX12_bears_69 hl (k := 5) rfl (nI_add i 1) (by decide) rfl (fun ls hl => ?_)
              refine lv_goto (tgt := 33) hx hb dX12_bears_72 (by decide) ?_
              exact ih33 (i + 1) _ _ _ _ _ (nI i) (f2) (by omega) (by omega) (z2) (be_y hB9 hq9 (fun z9 => c_21 ((fsR_cg (row_m hs1 (fun k hk => (z2 _ (by omega)).trans (zkd k hk)) (fun k hk => (z2 _ (by omega)).trans (zvv k hk)) (fun k hk => (z2 _ (by omega)).trans (zc k hk)) ((z2 6 (by omega)).trans zmi) (by rw [ef2]; exact pk_us))).trans z9))) _ _ (hK.sub [0, 1, 2, 3] rfl) (hP.sub [0, 1, 2, 3, 4] rfl) (hD.sub [0, 1, 2, 3, 4] (by decide) rfl) hS ls (lv_sub hl [2, 3, 4, 5, 1, 0] rfl)
            · skip
              refine lv_iload hx hb dX12_bears_60 (lv_at hl 4 rfl) ?_
              refine lv_goto (tgt := 67) hx hb dX12_bears_62 (by decide) ?_
              refine lv_istore (lv' := [(4, .int q), (0, .ref m0), (1, .int (nI j_3)), (2, .int (nI j_9)), (3, .int (fS 7)), (5, .int (nI i))]) hx hb dX12_bears_67 hl (by decide) rfl (fun ls hl => ?_)
              refine lv_iinc (v := nI (i + 1)) (lv' := [(5, .int (nI (i + 1))), (4, .int q), (0, .ref m0), (1, .int (nI j_3)), (2, .int (nI j_9)), (3, .int (fS 7))]) hx hb dX12_bears_69 hl (k := 5) rfl (nI_add i 1) (by decide) rfl (fun ls hl => ?_)
              refine lv_goto (tgt := 33) hx hb dX12_bears_72 (by decide) ?_
              exact ih33 (i + 1) _ _ _ _ _ (q) (f2) (by omega) (by omega) (z2) (be_n hB9 hq9 (fun z9 => z9 ((fsR_cg (row_m hs1 (fun k hk => (z2 _ (by omega)).trans (zkd k hk)) (fun k hk => (z2 _ (by omega)).trans (zvv k hk)) (fun k hk => (z2 _ (by omega)).trans (zc k hk)) ((z2 6 (by omega)).trans zmi) (by rw [ef2]; exact pk_us))).symm.trans c_21))) _ _ (hK.sub [0, 1, 2, 3] rfl) (hP.sub [0, 1, 2, 3, 4] rfl) (hD.sub [0, 1, 2, 3, 4] (by decide) rfl) hS ls (lv_sub hl [2, 3, 4, 5, 1, 0] rfl)
      exact L33 _ (0) _ _ _ _ _ (-5) _ (Nat.lt_succ_self _) (by omega) (fun _ _ => rfl) (by rw [hB9]; rfl) _ _ (hK.sub [0, 1, 2, 3] rfl) (hP.sub [0, 1, 2, 3, 4] rfl) (hD.sub [0, 1, 2, 3, 4] (by decide) rfl) hS ls (lv_sub hl [3, 4, 5, 2, 1, 0] rfl)
    · skip
      refine lv_if_ne (tgt := 18) hx hb dX12_bears_13 (by decide) (fun c_22 => absurd c_22 (by decide)) (fun _ => ?_)
      refine lv_iconst (v := (-1)) hx hb dX12_bears_16 (by decide) ?_
      rw [hQ]
      have hP9 := hP.sub (ws' := [(zo14irriiiiiirriirrrrlriiii m0 th aS aI im ac sp en wg op aB aT se dn aG aO aN aD bv aY rn kd nu tv), (zaI aS cS 901 fS), (zaI aB cB 6 fB), (zaI aT cT 64 fT), (zaI aG cG 9 fG)]) [0, 1, 2, 3, 4] rfl
      have hD9 := hD.sub (ws' := [(zo14irriiiiiirriirrrrlriiii m0 th aS aI im ac sp en wg op aB aT se dn aG aO aN aD bv aY rn kd nu tv), (zaI aS cS 901 fS), (zaI aB cB 6 fB), (zaI aT cT 64 fT), (zaI aG cG 9 fG)]) [0, 1, 2, 3, 4] (by decide) rfl
      have hK9 := hK.sub (tys' := [(cS, .int), (cB, .int), (cT, .boolean), (cG, .int)]) [0, 1, 2, 3] rfl
      exact W.iret (v := (-1)) hx hb hr (fun tQ htQ hWQ => ⟨⟨(-1), (fB, fT, se, dn, fG), rfl, by first | exact two_no1 (by assumption) | exact two_no2 (by assumption), by rw [htQ]; exact hP9, va_K.moved hWQ.alike hK9, hD9⟩, hS.F htQ⟩) hS.2.2 dX12_bears_17
  · skip
    refine lv_if_eq (tgt := 16) hx hb dX12_bears_5 (by decide) (fun _ => ?_) (fun c_23 => absurd c_23 (by decide))
    refine lv_iconst (v := (-1)) hx hb dX12_bears_16 (by decide) ?_
    rw [hQ]
    have hP9 := hP.sub (ws' := [(zo14irriiiiiirriirrrrlriiii m0 th aS aI im ac sp en wg op aB aT se dn aG aO aN aD bv aY rn kd nu tv), (zaI aS cS 901 fS), (zaI aB cB 6 fB), (zaI aT cT 64 fT), (zaI aG cG 9 fG)]) [0, 1, 2, 3, 4] rfl
    have hD9 := hD.sub (ws' := [(zo14irriiiiiirriirrrrlriiii m0 th aS aI im ac sp en wg op aB aT se dn aG aO aN aD bv aY rn kd nu tv), (zaI aS cS 901 fS), (zaI aB cB 6 fB), (zaI aT cT 64 fT), (zaI aG cG 9 fG)]) [0, 1, 2, 3, 4] (by decide) rfl
    have hK9 := hK.sub (tys' := [(cS, .int), (cB, .int), (cT, .boolean), (cG, .int)]) [0, 1, 2, 3] rfl
    exact W.iret (v := (-1)) hx hb hr (fun tQ htQ hWQ => ⟨⟨(-1), (fB, fT, se, dn, fG), rfl, by first | exact two_no1 (by assumption) | exact two_no2 (by assumption), by rw [htQ]; exact hP9, va_K.moved hWQ.alike hK9, hD9⟩, hS.F htQ⟩) hS.2.2 dX12_bears_17

theorem kc_mBuild_0 : ∀ w ∈ wsX120, w ∈ wsX12_build := fun w h => List.mem_cons_of_mem _ (gin_wsX120 w h)
theorem kc_mBuild_1 : (.fieldLink RX12 9 "MistHeapsModel" "s" "[I" : Cond) ∈ wsX12_build := kc_of 1141 rfl rfl rfl
set_option maxHeartbeats 4000000 in
set_option maxRecDepth 100000 in
theorem c_mBuild (l : Launch) (dC : Nat → ClassId) (dI : Nat → Nat → Nat) (m0 aS aI aB aT aG aO aN aD aY : Nat) (th im ac sp en wg op se dn rn kd nu tv : Int32) (bv : Int64) (cS cB cT cG : ClassId) (fS : Nat → Int32) (fB : Nat → Int32) (fT : Nat → Int32) (fG : Nat → Int32) (n : Nat) (yk yv yc : Nat → Int32) (mi sn : Int32) (x y z : Int32) (cz : List pCla) (sz : Nat) (zn : fS 0 = nI n) (hn : n ≤ 8) (zh : hol fS cz) (zkd : ∀ k, k < n → fS (10 + k) = yk k) (zvv : ∀ k, k < n → fS (19 + k) = yv k) (zc : ∀ k, k < n → fS (28 + k) = yc k) (zmi : fS 6 = mi) (zsn : fS 7 = sn) : Met l yX12_build wsX12_build ({ frames := 6, cells := 0, slots := 0, locals := 147 } : Room) (va_Pc [.ref m0, .int x, .int y, .int z] (fun U => U.heap.size = sz ∧ va_P (dC, dI) vwCl [(zo14irriiiiiirriirrrrlriiii m0 th aS aI im ac sp en wg op aB aT se dn aG aO aN aD bv aY rn kd nu tv), (zaI aS cS 901 fS), (zaI aB cB 6 fB), (zaI aT cT 64 fT), (zaI aG cG 9 fG)] U.heap ∧ va_K (dC, dI) vwCl [(cS, .int), (cB, .int), (cT, .boolean), (cG, .int)] U ∧ va_D (fun _ => True) [(zo14irriiiiiirriirrrrlriiii m0 th aS aI im ac sp en wg op aB aT se dn aG aO aN aD bv aY rn kd nu tv), (zaI aS cS 901 fS), (zaI aB cB 6 fB), (zaI aT cT 64 fT), (zaI aG cG 9 fG)])) (va_Qi (fun (r : Int32) (u : (Nat → Int32) × (Nat → Int32) × (Int32) × (Int32) × (Nat → Int32) × (Nat → Int32)) => match u with | (fB9, fT9, se9, dn9, fG9, fS9) => r = bdR n yk yv yc cz mi sn x y z ∧ ∀ i, i ≠ 10 + n → i ≠ 19 + n → i ≠ 28 + n → fS9 i = fS i) (fun (u : (Nat → Int32) × (Nat → Int32) × (Int32) × (Int32) × (Nat → Int32) × (Nat → Int32)) (t : State) => match u with | (fB9, fT9, se9, dn9, fG9, fS9) => va_P (dC, dI) vwCl [(zo14irriiiiiirriirrrrlriiii m0 th aS aI im ac sp en wg op aB aT se9 dn9 aG aO aN aD bv aY rn kd nu tv), (zaI aS cS 901 fS9), (zaI aB cB 6 fB9), (zaI aT cT 64 fT9), (zaI aG cG 9 fG9)] t.heap ∧ va_K (dC, dI) vwCl [(cS, .int), (cB, .int), (cT, .boolean), (cG, .int)] t ∧ va_D (va_A [(zo14irriiiiiirriirrrrlriiii m0 th aS aI im ac sp en wg op aB aT se dn aG aO aN aD bv aY rn kd nu tv), (zaI aS cS 901 fS), (zaI aB cB 6 fB), (zaI aT cT 64 fT), (zaI aG cG 9 fG)] sz) [(zo14irriiiiiirriirrrrlriiii m0 th aS aI im ac sp en wg op aB aT se9 dn9 aG aO aN aD bv aY rn kd nu tv), (zaI aS cS 901 fS9), (zaI aB cB 6 fB9), (zaI aT cT 64 fT9), (zaI aG cG 9 fG9)]) (va_A [(zo14irriiiiiirriirrrrlriiii m0 th aS aI im ac sp en wg op aB aT se dn aG aO aN aD bv aY rn kd nu tv), (zaI aS cS 901 fS), (zaI aB cB 6 fB), (zaI aT cT 64 fT), (zaI aG cG 9 fG)] sz)) 0 0 (va_A [(zo14irriiiiiirriirrrrlriiii m0 th aS aI im ac sp en wg op aB aT se dn aG aO aN aD bv aY rn kd nu tv), (zaI aS cS 901 fS), (zaI aB cB 6 fB), (zaI aT cT 64 fT), (zaI aG cG 9 fG)] sz) := by
  refine met_ofQ (cc := cX12_build) (maxL := 9) (ret := (some .int)) (by decide) rfl ?_
  intro p e s m args below meth c s₁ Q B hml hv hQ
  obtain ⟨rfl, hsz, hP, hK, hD0⟩ := hv
  have hx := B.exec
  have hb := B.bytes
  have hr := B.returns
  have hts := atoms_spec (ws := wsX12_build) B.pre
  have hown : s.vm.findClass RX12 = some m.cls := findClass_of_methodNamed B.named
  have hlocks := B.notSynchronized
  subst hsz
  have hD := hD0.self (sz := s.heap.size)
  generalize hAe : va_A [(zo14irriiiiiirriirrrrlriiii m0 th aS aI im ac sp en wg op aB aT se dn aG aO aN aD bv aY rn kd nu tv), (zaI aS cS 901 fS), (zaI aB cB 6 fB), (zaI aT cT 64 fT), (zaI aG cG 9 fG)] s.heap.size = A at hD hQ ⊢
  have hA : ∀ q : Nat, s.heap.size ≤ q → A q := fun q h => by rw [← hAe]; exact Or.inr h
  have hS : va_S A s.heap s.heap [] := va_S.rf
  have hl := lv_entry [.ref m0, .int x, .int y, .int z] (n := 9) (Nat.le_of_ble_eq_true rfl)
  rw [lg_entry_eq]
  generalize (lg_sl [.ref m0, .int x, .int y, .int z] ++ List.replicate (9 - (lg_sl [.ref m0, .int x, .int y, .int z]).length) Slot.unset).toArray = ls at hl ⊢
  generalize hag : ([.ref m0, .int x, .int y, .int z] : List Value).toArray = args at hts hQ ⊢
  have hl : lv_has ls 9 [(0, .ref m0), (1, .int x), (2, .int y), (3, .int z)] := hl
  obtain ⟨H, hH⟩ : ∃ H : Heap, H = s.heap := ⟨_, rfl⟩
  rw [← hH] at hP
  rw [← hH]
  have hS : va_S A s.heap H [] := by rw [hH]; exact hS
  obtain ⟨locs, hlo⟩ : ∃ L : List Loc, L = [] := ⟨_, rfl⟩
  rw [← hlo] at hS
  rw [← hlo]
  clear hH hlo
  refine lv_aload_n hx hb dX12_build_0 rfl (lv_at hl 0 rfl) ?_
  refine lv_iload_n hx hb dX12_build_1 rfl (lv_at hl 1 rfl) ?_
  have hPc := hP.sub (ws' := [(zo14irriiiiiirriirrrrlriiii m0 th aS aI im ac sp en wg op aB aT se dn aG aO aN aD bv aY rn kd nu tv), (zaI aS cS 901 fS)]) [0, 1] rfl
  have hKc := hK.sub (tys' := [(cS, .int)]) [0] rfl
  refine vp_callSi (va_runV (As := [.int x]) (rest := []) ⟨hx, hb, hml, hown, hts⟩ (c_isHeap l dC dI m0 aS aI aB aT aG aO aN aD aY th im ac sp en wg op se dn rn kd nu tv bv cS fS n x (zn) (hn)) (cwV 1 hts gX12_build_X12_isHeap rfl rfl rfl hd_yX12_isHeap ⟨Nat.le_of_ble_eq_true rfl, Nat.le_of_ble_eq_true rfl⟩) ⟨fun a U g mk q => by obtain ⟨q0, qP, qK⟩ := q; exact ⟨q0, qP, va_K.moved (u := U) (U := U.calling g mk a) (Vm.Alike.refl U.vm) qK⟩, va_recv hK hP (ci := 14) (q := (RX12, TX12, 23)) (q0 := 0) rfl rfl, fun U hU hW => ⟨rfl, by rw [hU]; exact hPc, va_K.moved hW.alike hKc⟩⟩ rfl rfl hl.1 rfl (lv_room (Nat.le_of_ble_eq_true rfl)) dX12_build_2 ⟨Nat.le_of_ble_eq_true rfl, Nat.le_of_ble_eq_true rfl⟩).run (fun r_1 hw_2 => ?_)
  rcases hw_2 with ⟨rfl, j_3, hj_4, rfl⟩ | ⟨rfl, h_5⟩
  · skip
    refine lv_if_eq (tgt := 25) hx hb dX12_build_5 (by decide) (fun c_6 => absurd c_6 (by decide)) (fun _ => ?_)
    refine lv_aload_n hx hb dX12_build_8 rfl (lv_at hl 0 rfl) ?_
    refine lv_iload_n hx hb dX12_build_9 rfl (lv_at hl 2 rfl) ?_
    have hPc := hP.sub (ws' := [(zo14irriiiiiirriirrrrlriiii m0 th aS aI im ac sp en wg op aB aT se dn aG aO aN aD bv aY rn kd nu tv), (zaI aS cS 901 fS)]) [0, 1] rfl
    have hKc := hK.sub (tys' := [(cS, .int)]) [0] rfl
    refine vp_callSi (va_runV (As := [.int y]) (rest := []) ⟨hx, hb, hml, hown, hts⟩ (c_isHeap l dC dI m0 aS aI aB aT aG aO aN aD aY th im ac sp en wg op se dn rn kd nu tv bv cS fS n y (zn) (hn)) (cwV 1 hts gX12_build_X12_isHeap rfl rfl rfl hd_yX12_isHeap ⟨Nat.le_of_ble_eq_true rfl, Nat.le_of_ble_eq_true rfl⟩) ⟨fun a U g mk q => by obtain ⟨q0, qP, qK⟩ := q; exact ⟨q0, qP, va_K.moved (u := U) (U := U.calling g mk a) (Vm.Alike.refl U.vm) qK⟩, va_recv hK hP (ci := 14) (q := (RX12, TX12, 23)) (q0 := 0) rfl rfl, fun U hU hW => ⟨rfl, by rw [hU]; exact hPc, va_K.moved hW.alike hKc⟩⟩ rfl rfl hl.1 rfl (lv_room (Nat.le_of_ble_eq_true rfl)) dX12_build_10 ⟨Nat.le_of_ble_eq_true rfl, Nat.le_of_ble_eq_true rfl⟩).run (fun r_7 hw_8 => ?_)
    rcases hw_8 with ⟨rfl, j_9, hj_10, rfl⟩ | ⟨rfl, h_11⟩
    · skip
      refine lv_if_eq (tgt := 25) hx hb dX12_build_13 (by decide) (fun c_12 => absurd c_12 (by decide)) (fun _ => ?_)
      refine lv_iload_n hx hb dX12_build_16 rfl (lv_at hl 3 rfl) ?_
      refine lv_iconst (v := 0) hx hb dX12_build_17 (by decide) ?_
      refine lv_iconst (v := 1) hx hb dX12_build_18 (by decide) ?_
      refine vp_callSi (va_runS (As := [.int z, .int 0, .int 1]) (rest := []) ⟨hx, hb, hml, hown, hts⟩ (c_in l dC dI z 0 1) (va_cwS 3 hts gX12_build_X12_in rfl rfl rfl hd_yX12_in.2 ⟨Nat.le_of_ble_eq_true rfl, Nat.le_of_ble_eq_true rfl⟩) ⟨fun a U g mk q => ⟨q.1, trivial⟩, fun U hU hW => ⟨rfl, trivial⟩⟩ rfl rfl hl.1 rfl (lv_room (Nat.le_of_ble_eq_true rfl)) dX12_build_19 ⟨Nat.le_of_ble_eq_true rfl, Nat.le_of_ble_eq_true rfl⟩).run (fun r_13 hw_14 => ?_)
      rcases hw_14 with ⟨rfl, h_15, h_16⟩ | ⟨rfl, h_17⟩
      · skip
        refine lv_if_ne (tgt := 27) hx hb dX12_build_22 (by decide) (fun _ => ?_) (fun c_18 => absurd c_18 (by decide))
        refine lv_aload_n hx hb dX12_build_27 rfl (lv_at hl 0 rfl) ?_
        refine va_get (D := (dC, dI)) (ci := 14) (v := .ref aS) (C := RX12) (T := TX12) (N := 23) hx hb hts kc_mBuild_0 hown hK hP 0 rfl rfl 1 (by decide) (hts (.fieldLink RX12 9 "MistHeapsModel" "s" "[I") kc_mBuild_1) (fun _ h9 => h9) rfl dX12_build_28 ?_
        refine lv_iconst (v := 0) hx hb dX12_build_31 (by decide) ?_
        refine va_iald hx hb hK hP 1 0 rfl rfl (vp_in_nI (n := 0) (N := 901) (by omega) (by omega)) dX12_build_32 ?_
        refine qi_as (y := nI n) ((show fS (0 : Int32).toNatClampNeg = fS 0 from rfl).trans (zn)) ?_
        refine lv_bipush (v := 8) hx hb dX12_build_33 (by decide) ?_
        refine lv_icmp_ne (tgt := 41) hx hb dX12_build_35 (by decide) (fun c_19 => ?_) (fun c_19 => ?_)
        · skip
          have c_19 : ¬ n = 8 := fun q => c_19 ((nI_eq (a := n) (b := 8) (by omega) (by omega)).mpr q)
          refine lv_aload_n hx hb dX12_build_41 rfl (lv_at hl 0 rfl) ?_
          refine lv_iload_n hx hb dX12_build_42 rfl (lv_at hl 1 rfl) ?_
          refine lv_iload_n hx hb dX12_build_43 rfl (lv_at hl 2 rfl) ?_
          have hPc := hP.sub (ws' := [(zo14irriiiiiirriirrrrlriiii m0 th aS aI im ac sp en wg op aB aT se dn aG aO aN aD bv aY rn kd nu tv), (zaI aS cS 901 fS), (zaI aB cB 6 fB), (zaI aT cT 64 fT), (zaI aG cG 9 fG)]) [0, 1, 2, 3, 4] rfl
          have hDc := hD.sub (ws' := [(zo14irriiiiiirriirrrrlriiii m0 th aS aI im ac sp en wg op aB aT se dn aG aO aN aD bv aY rn kd nu tv), (zaI aS cS 901 fS), (zaI aB cB 6 fB), (zaI aT cT 64 fT), (zaI aG cG 9 fG)]) [0, 1, 2, 3, 4] (by decide) rfl
          have hKc := hK.sub (tys' := [(cS, .int), (cB, .int), (cT, .boolean), (cG, .int)]) [0, 1, 2, 3] rfl
          have hFc := va_free (wc := [(zo14irriiiiiirriirrrrlriiii m0 th aS aI im ac sp en wg op aB aT se dn aG aO aN aD bv aY rn kd nu tv), (zaI aS cS 901 fS), (zaI aB cB 6 fB), (zaI aT cT 64 fT), (zaI aG cG 9 fG)]) hD hS hA [0, 1, 2, 3, 4] rfl
          refine va_calli (va_runV (As := [.int (nI j_3), .int (nI j_9)]) (rest := []) ⟨hx, hb, hml, hown, hts⟩ (c_stepsOf l dC dI m0 aS aI aB aT aG aO aN aD aY th im ac sp en wg op se dn rn kd nu tv bv cS cB cT cG fS fB fT fG n (nI j_3) (nI j_9) cz H.size (zn) (hn) (zh)) (cwV 2 hts gX12_build_X12_stepsOf rfl rfl rfl hd_yX12_stepsOf ⟨Nat.le_of_ble_eq_true rfl, Nat.le_of_ble_eq_true rfl⟩) ⟨fun a U g mk q => by obtain ⟨q0, q1, qP, qK, qD⟩ := q; exact ⟨q0, q1, qP, va_K.moved (u := U) (U := U.calling g mk a) (Vm.Alike.refl U.vm) qK, qD⟩, va_recv hK hP (ci := 14) (q := (RX12, TX12, 23)) (q0 := 0) rfl rfl, fun U hU hW => ⟨rfl, by rw [hU], by rw [hU]; exact hPc, va_K.moved hW.alike hKc, hDc.weaken (fun _ _ _ _ => trivial)⟩⟩ rfl rfl hl.1 rfl (lv_room (Nat.le_of_ble_eq_true rfl)) dX12_build_44 ⟨Nat.le_of_ble_eq_true rfl, Nat.le_of_ble_eq_true rfl⟩) hS (fun q _ h => hFc q h) hFc (fun r_20 u tC H1 locs htC hvm hw_21 hB hz1 hk1 hS => ?_)
          obtain ⟨fB9_22, fT9_23, se9_24, dn9_25, fG9_26⟩ := u
          try dsimp only at hw_21 hB
          obtain ⟨hP1, hK1, hD1⟩ := hB
          rw [htC] at hP1
          have hK1 := va_K.moved hvm.symm hK1
          obtain ⟨hP, hD⟩ := va_join (wr := []) (w1 := [(zo14irriiiiiirriirrrrlriiii m0 th aS aI im ac sp en wg op aB aT se9_24 dn9_25 aG aO aN aD bv aY rn kd nu tv), (zaI aS cS 901 fS), (zaI aB cB 6 fB9_22), (zaI aT cT 64 fT9_23), (zaI aG cG 9 fG9_26)]) hP hD [0, 1, 2, 3, 4] [] rfl rfl (by decide) (by decide) hk1 hFc hP1 hD1
          have hK := (hK.sub (tys' := []) [] rfl).app hK1
          generalize H1 = H at hP hS ⊢
          have hP : va_P (dC, dI) vwCl [(zo14irriiiiiirriirrrrlriiii m0 th aS aI im ac sp en wg op aB aT se9_24 dn9_25 aG aO aN aD bv aY rn kd nu tv), (zaI aS cS 901 fS), (zaI aB cB 6 fB9_22), (zaI aT cT 64 fT9_23), (zaI aG cG 9 fG9_26)] H := hP
          have hD : va_D A [(zo14irriiiiiirriirrrrlriiii m0 th aS aI im ac sp en wg op aB aT se9_24 dn9_25 aG aO aN aD bv aY rn kd nu tv), (zaI aS cS 901 fS), (zaI aB cB 6 fB9_22), (zaI aT cT 64 fT9_23), (zaI aG cG 9 fG9_26)] := hD
          have hK : va_K (dC, dI) vwCl [(cS, .int), (cB, .int), (cT, .boolean), (cG, .int)] s := hK
          obtain ⟨hs1, rfl⟩ := hw_21
          refine lv_istore (lv' := [(4, .int (fsR fG9_26 n (nI j_3) (nI j_9) 0)), (0, .ref m0), (1, .int (nI j_3)), (2, .int (nI j_9)), (3, .int z)]) hx hb dX12_build_47 hl (by decide) rfl (fun ls hl => ?_)
          obtain ⟨G9, hG9⟩ : ∃ G : Nat → Int32 × Int32, G = bdP n yk yv yc cz mi sn (nI j_3) (nI j_9) := ⟨_, rfl⟩
          refine lv_bipush (v := (-5)) hx hb dX12_build_49 (by decide) ?_
          refine lv_istore (lv' := [(5, .int (-5)), (4, .int (fsR fG9_26 n (nI j_3) (nI j_9) 0)), (0, .ref m0), (1, .int (nI j_3)), (2, .int (nI j_9)), (3, .int z)]) hx hb dX12_build_51 hl (by decide) rfl (fun ls hl => ?_)
          refine lv_iconst (v := 0) hx hb dX12_build_53 (by decide) ?_
          refine lv_istore (lv' := [(6, .int 0), (5, .int (-5)), (4, .int (fsR fG9_26 n (nI j_3) (nI j_9) 0)), (0, .ref m0), (1, .int (nI j_3)), (2, .int (nI j_9)), (3, .int z)]) hx hb dX12_build_54 hl (by decide) rfl (fun ls hl => ?_)
          have L56 : ∀ (nF : Nat) (i : Nat) (se2 : Int32) (dn2 : Int32) (fB2 : Nat → Int32) (fT2 : Nat → Int32) (fG2 : Nat → Int32) (q : Int32) (q2 : Int32) (f : Nat → Int32), 36 - i < nF → (i ≤ 36) → (∀ i, i ≠ 10 + n → i ≠ 19 + n → i ≠ 28 + n → f i = fS i) → (q2 = (G9 i).1 ∧ q = (G9 i).2) → ∀ (H : Heap) (locs : List Loc), va_K (dC, dI) vwCl [(cS, .int), (cB, .int), (cT, .boolean), (cG, .int)] s → va_P (dC, dI) vwCl [(zo14irriiiiiirriirrrrlriiii m0 th aS aI im ac sp en wg op aB aT se2 dn2 aG aO aN aD bv aY rn kd nu tv), (zaI aS cS 901 f), (zaI aB cB 6 fB2), (zaI aT cT 64 fT2), (zaI aG cG 9 fG2)] H → va_D A [(zo14irriiiiiirriirrrrlriiii m0 th aS aI im ac sp en wg op aB aT se2 dn2 aG aO aN aD bv aY rn kd nu tv), (zaI aS cS 901 f), (zaI aB cB 6 fB2), (zaI aT cT 64 fT2), (zaI aG cG 9 fG2)] → va_S A s.heap H locs → ∀ (ls : Array Slot), lv_has ls 9 [(0, .ref m0), (1, .int (nI j_3)), (2, .int (nI j_9)), (3, .int z), (4, .int q), (5, .int q2), (6, .int (nI i))] → W p l e ({ frames := 6, cells := 0, slots := 0, locals := 147 } : Room) s m args below meth c H locs 0 0 Q (F0 m 56 ls []) := by
            intro nF
            induction nF with
            | zero => intro i se2 dn2 fB2 fT2 fG2 q q2 f hm; exact absurd hm (Nat.not_lt_zero _)
            | succ nF ih56 =>
              intro i se2 dn2 fB2 fT2 fG2 q q2 f hm hii zf hq9 H locs hK hP hD hS ls hl
              refine lv_iload hx hb dX12_build_56 (lv_at hl 6 rfl) ?_
              refine lv_bipush (v := 36) hx hb dX12_build_58 (by decide) ?_
              refine lv_icmp_ge (tgt := 162) hx hb dX12_build_60 (by decide) (fun c_27 => ?_) (fun c_27 => ?_)
              · skip
                have c_27 : 36 ≤ i := (nI_leI (a := 36) (b := i) (by omega) (by omega)).mp c_27
                refine lv_iload hx hb dX12_build_162 (lv_at hl 5 rfl) ?_
                refine lv_bipush (v := (-5)) hx hb dX12_build_164 (by decide) ?_
                refine lv_icmp_eq (tgt := 173) hx hb dX12_build_166 (by decide) (fun c_28 => ?_) (fun c_28 => ?_)
                · skip
                  refine lv_iload hx hb dX12_build_173 (lv_at hl 5 rfl) ?_
                  refine lv_goto (tgt := 180) hx hb dX12_build_175 (by decide) ?_
                  rw [hQ]
                  have hP9 := hP.sub (ws' := [(zo14irriiiiiirriirrrrlriiii m0 th aS aI im ac sp en wg op aB aT se2 dn2 aG aO aN aD bv aY rn kd nu tv), (zaI aS cS 901 f), (zaI aB cB 6 fB2), (zaI aT cT 64 fT2), (zaI aG cG 9 fG2)]) [0, 1, 2, 3, 4] rfl
                  have hD9 := hD.sub (ws' := [(zo14irriiiiiirriirrrrlriiii m0 th aS aI im ac sp en wg op aB aT se2 dn2 aG aO aN aD bv aY rn kd nu tv), (zaI aS cS 901 f), (zaI aB cB 6 fB2), (zaI aT cT 64 fT2), (zaI aG cG 9 fG2)]) [0, 1, 2, 3, 4] (by decide) rfl
                  have hK9 := hK.sub (tys' := [(cS, .int), (cB, .int), (cT, .boolean), (cG, .int)]) [0, 1, 2, 3] rfl
                  exact W.iret (v := q2) hx hb hr (fun tQ htQ hWQ => ⟨⟨q2, (fB2, fT2, se2, dn2, fG2, f), rfl, ⟨bd_a (by omega) (by omega) (by assumption) (by assumption) (by omega) hG9 hq9 (by omega) (Or.inl c_28), zf⟩, by rw [htQ]; exact hP9, va_K.moved hWQ.alike hK9, hD9⟩, hS.F htQ⟩) hS.2.2 dX12_build_180
                · skip
                  refine lv_iload_n hx hb dX12_build_169 rfl (lv_at hl 3 rfl) ?_
                  refine lv_if_ne (tgt := 178) hx hb dX12_build_170 (by decide) (fun c_29 => ?_) (fun c_29 => ?_)
                  · skip
                    refine lv_iload hx hb dX12_build_178 (lv_at hl 4 rfl) ?_
                    rw [hQ]
                    have hP9 := hP.sub (ws' := [(zo14irriiiiiirriirrrrlriiii m0 th aS aI im ac sp en wg op aB aT se2 dn2 aG aO aN aD bv aY rn kd nu tv), (zaI aS cS 901 f), (zaI aB cB 6 fB2), (zaI aT cT 64 fT2), (zaI aG cG 9 fG2)]) [0, 1, 2, 3, 4] rfl
                    have hD9 := hD.sub (ws' := [(zo14irriiiiiirriirrrrlriiii m0 th aS aI im ac sp en wg op aB aT se2 dn2 aG aO aN aD bv aY rn kd nu tv), (zaI aS cS 901 f), (zaI aB cB 6 fB2), (zaI aT cT 64 fT2), (zaI aG cG 9 fG2)]) [0, 1, 2, 3, 4] (by decide) rfl
                    have hK9 := hK.sub (tys' := [(cS, .int), (cB, .int), (cT, .boolean), (cG, .int)]) [0, 1, 2, 3] rfl
                    exact W.iret (v := q) hx hb hr (fun tQ htQ hWQ => ⟨⟨q, (fB2, fT2, se2, dn2, fG2, f), rfl, ⟨bd_b (by omega) (by omega) (by assumption) (by assumption) (by omega) hG9 hq9 (by omega) c_28 c_29, zf⟩, by rw [htQ]; exact hP9, va_K.moved hWQ.alike hK9, hD9⟩, hS.F htQ⟩) hS.2.2 dX12_build_180
                  · skip
                    refine lv_iload hx hb dX12_build_173 (lv_at hl 5 rfl) ?_
                    refine lv_goto (tgt := 180) hx hb dX12_build_175 (by decide) ?_
                    rw [hQ]
                    have hP9 := hP.sub (ws' := [(zo14irriiiiiirriirrrrlriiii m0 th aS aI im ac sp en wg op aB aT se2 dn2 aG aO aN aD bv aY rn kd nu tv), (zaI aS cS 901 f), (zaI aB cB 6 fB2), (zaI aT cT 64 fT2), (zaI aG cG 9 fG2)]) [0, 1, 2, 3, 4] rfl
                    have hD9 := hD.sub (ws' := [(zo14irriiiiiirriirrrrlriiii m0 th aS aI im ac sp en wg op aB aT se2 dn2 aG aO aN aD bv aY rn kd nu tv), (zaI aS cS 901 f), (zaI aB cB 6 fB2), (zaI aT cT 64 fT2), (zaI aG cG 9 fG2)]) [0, 1, 2, 3, 4] (by decide) rfl
                    have hK9 := hK.sub (tys' := [(cS, .int), (cB, .int), (cT, .boolean), (cG, .int)]) [0, 1, 2, 3] rfl
                    exact W.iret (v := q2) hx hb hr (fun tQ htQ hWQ => ⟨⟨q2, (fB2, fT2, se2, dn2, fG2, f), rfl, ⟨bd_a (by omega) (by omega) (by assumption) (by assumption) (by omega) hG9 hq9 (by omega) (Or.inr c_29), zf⟩, by rw [htQ]; exact hP9, va_K.moved hWQ.alike hK9, hD9⟩, hS.F htQ⟩) hS.2.2 dX12_build_180
              · skip
                have c_27 : ¬ 36 ≤ i := fun q => c_27 ((nI_leI (a := 36) (b := i) (by omega) (by omega)).mpr q)
                refine lv_aload_n hx hb dX12_build_63 rfl (lv_at hl 0 rfl) ?_
                refine lv_iload hx hb dX12_build_64 (lv_at hl 6 rfl) ?_
                have hPc := hP.sub (ws' := [(zo14irriiiiiirriirrrrlriiii m0 th aS aI im ac sp en wg op aB aT se2 dn2 aG aO aN aD bv aY rn kd nu tv), (zaI aS cS 901 f)]) [0, 1] rfl
                have hKc := hK.sub (tys' := [(cS, .int)]) [0] rfl
                refine vp_callSi (va_runV (As := [.int (nI i)]) (rest := []) ⟨hx, hb, hml, hown, hts⟩ (c_heapOn l dC dI m0 aS aI aB aT aG aO aN aD aY th im ac sp en wg op se2 dn2 rn kd nu tv bv cS f n yc (nI i) ((zf 0 (by omega) (by omega) (by omega)).trans zn) (hn) (fun k hk => (zf _ (by omega) (by omega) (by omega)).trans (zc k hk))) (cwV 1 hts gX12_build_X12_heapOn rfl rfl rfl hd_yX12_heapOn ⟨Nat.le_of_ble_eq_true rfl, Nat.le_of_ble_eq_true rfl⟩) ⟨fun a U g mk q => by obtain ⟨q0, qP, qK⟩ := q; exact ⟨q0, qP, va_K.moved (u := U) (U := U.calling g mk a) (Vm.Alike.refl U.vm) qK⟩, va_recv hK hP (ci := 14) (q := (RX12, TX12, 23)) (q0 := 0) rfl rfl, fun U hU hW => ⟨rfl, by rw [hU]; exact hPc, va_K.moved hW.alike hKc⟩⟩ rfl rfl hl.1 rfl (lv_room (Nat.le_of_ble_eq_true rfl)) dX12_build_66 ⟨Nat.le_of_ble_eq_true rfl, Nat.le_of_ble_eq_true rfl⟩).run (fun r_30 hw_31 => ?_)
                refine lv_iconst (v := (-1)) hx hb dX12_build_69 (by decide) ?_
                refine lv_icmp_ne (tgt := 156) hx hb dX12_build_70 (by decide) (fun c_32 => ?_) (fun c_32 => ?_)
                · skip
                  have ht9 : ∃ k, k < n ∧ yc k = nI i := by rcases hw_31 with ⟨z1, _⟩ | ⟨_, z2⟩; exact absurd z1 c_32; exact z2
                  refine lv_iinc (v := nI (i + 1)) (lv' := [(6, .int (nI (i + 1))), (0, .ref m0), (1, .int (nI j_3)), (2, .int (nI j_9)), (3, .int z), (4, .int q), (5, .int q2)]) hx hb dX12_build_156 hl (k := 6) rfl (nI_add i 1) (by decide) rfl (fun ls hl => ?_)
                  refine lv_goto (tgt := 56) hx hb dX12_build_159 (by decide) ?_
                  exact ih56 (i + 1) _ _ _ _ _ (q) (q2) (f) (by omega) (by omega) (zf) (bc_t hG9 hq9 ht9) _ _ (hK.sub [0, 1, 2, 3] rfl) (hP.sub [0, 1, 2, 3, 4] rfl) (hD.sub [0, 1, 2, 3, 4] (by decide) rfl) hS ls (lv_sub hl [1, 2, 3, 4, 5, 6, 0] rfl)
                · skip
                  have ht9 : ¬ ∃ k, k < n ∧ yc k = nI i := by rcases hw_31 with ⟨_, z2⟩ | ⟨z1, _⟩; exact fun ⟨k9, h8, h9⟩ => z2 k9 h8 h9; exact absurd c_32 z1
                  refine lv_aload_n hx hb dX12_build_73 rfl (lv_at hl 0 rfl) ?_
                  refine lv_iconst (v := 0) hx hb dX12_build_74 (by decide) ?_
                  refine lv_iconst (v := 0) hx hb dX12_build_75 (by decide) ?_
                  refine lv_iload hx hb dX12_build_76 (lv_at hl 6 rfl) ?_
                  have hPc := hP.sub (ws' := [(zo14irriiiiiirriirrrrlriiii m0 th aS aI im ac sp en wg op aB aT se2 dn2 aG aO aN aD bv aY rn kd nu tv), (zaI aS cS 901 f)]) [0, 1] rfl
                  have hDc := hD.sub (ws' := [(zo14irriiiiiirriirrrrlriiii m0 th aS aI im ac sp en wg op aB aT se2 dn2 aG aO aN aD bv aY rn kd nu tv), (zaI aS cS 901 f)]) [0, 1] (by decide) rfl
                  have hKc := hK.sub (tys' := [(cS, .int)]) [0] rfl
                  have hFc := va_free (wc := [(zo14irriiiiiirriirrrrlriiii m0 th aS aI im ac sp en wg op aB aT se2 dn2 aG aO aN aD bv aY rn kd nu tv), (zaI aS cS 901 f)]) hD hS hA [0, 1] rfl
                  refine va_calli (va_runV (As := [.int 0, .int 0, .int (nI i)]) (rest := []) ⟨hx, hb, hml, hown, hts⟩ (c_puts l dC dI m0 aS aI aB aT aG aO aN aD aY th im ac sp en wg op se2 dn2 rn kd nu tv bv cS f n 0 0 (nI i) H.size ((zf 0 (by omega) (by omega) (by omega)).trans zn) (hn)) (cwV 3 hts gX12_build_X12_puts rfl rfl rfl hd_yX12_puts ⟨Nat.le_of_ble_eq_true rfl, Nat.le_of_ble_eq_true rfl⟩) ⟨fun a U g mk q => by obtain ⟨q0, q1, qP, qK, qD⟩ := q; exact ⟨q0, q1, qP, va_K.moved (u := U) (U := U.calling g mk a) (Vm.Alike.refl U.vm) qK, qD⟩, va_recv hK hP (ci := 14) (q := (RX12, TX12, 23)) (q0 := 0) rfl rfl, fun U hU hW => ⟨rfl, by rw [hU], by rw [hU]; exact hPc, va_K.moved hW.alike hKc, hDc.weaken (fun _ _ _ _ => trivial)⟩⟩ rfl rfl hl.1 rfl (lv_room (Nat.le_of_ble_eq_true rfl)) dX12_build_78 ⟨Nat.le_of_ble_eq_true rfl, Nat.le_of_ble_eq_true rfl⟩) hS (fun q _ h => hFc q h) hFc (fun r_33 u tC H1 locs htC hvm hw_34 hB hz1 hk1 hS => ?_)
                  obtain ⟨fS9_35, rfl⟩ : ∃ z, z = u := ⟨_, rfl⟩
                  try dsimp only at hw_34 hB
                  obtain ⟨hP1, hK1, hD1⟩ := hB
                  rw [htC] at hP1
                  have hK1 := va_K.moved hvm.symm hK1
                  obtain ⟨hP, hD⟩ := va_join (wr := [(zaI aB cB 6 fB2), (zaI aT cT 64 fT2), (zaI aG cG 9 fG2)]) (w1 := [(zo14irriiiiiirriirrrrlriiii m0 th aS aI im ac sp en wg op aB aT se2 dn2 aG aO aN aD bv aY rn kd nu tv), (zaI aS cS 901 fS9_35)]) hP hD [0, 1] [2, 3, 4] rfl rfl (by decide) (by decide) hk1 hFc hP1 hD1
                  have hK := (hK.sub (tys' := [(cB, .int), (cT, .boolean), (cG, .int)]) [1, 2, 3] rfl).app hK1
                  generalize H1 = H at hP hS ⊢
                  have hP : va_P (dC, dI) vwCl [(zaI aB cB 6 fB2), (zaI aT cT 64 fT2), (zaI aG cG 9 fG2), (zo14irriiiiiirriirrrrlriiii m0 th aS aI im ac sp en wg op aB aT se2 dn2 aG aO aN aD bv aY rn kd nu tv), (zaI aS cS 901 fS9_35)] H := hP
                  have hD : va_D A [(zaI aB cB 6 fB2), (zaI aT cT 64 fT2), (zaI aG cG 9 fG2), (zo14irriiiiiirriirrrrlriiii m0 th aS aI im ac sp en wg op aB aT se2 dn2 aG aO aN aD bv aY rn kd nu tv), (zaI aS cS 901 fS9_35)] := hD
                  have hK : va_K (dC, dI) vwCl [(cB, .int), (cT, .boolean), (cG, .int), (cS, .int)] s := hK
                  obtain ⟨er, e9⟩ := hw_34
                  have hp9 := put_row (show n < 8 by omega) e9 zf zkd zvv zc zmi zsn
                  have y0 : fS9_35 0 = nI (n + 1) := by rw [e9]; exact pk_us
                  have y1 : ∀ i, i ≠ 0 → i ≠ 10 + n → i ≠ 19 + n → i ≠ 28 + n → fS9_35 i = fS i := fun k k0 k1 k2 k3 => by rw [e9, pk_un k0, pk_un k3, pk_un k2, pk_un k1]; exact zf k k1 k2 k3
                  refine lv_pop hx hb dX12_build_81 rfl ?_
                  refine lv_aload_n hx hb dX12_build_82 rfl (lv_at hl 0 rfl) ?_
                  refine lv_iload_n hx hb dX12_build_83 rfl (lv_at hl 1 rfl) ?_
                  refine lv_iload_n hx hb dX12_build_84 rfl (lv_at hl 2 rfl) ?_
                  have hPc := hP.sub (ws' := [(zo14irriiiiiirriirrrrlriiii m0 th aS aI im ac sp en wg op aB aT se2 dn2 aG aO aN aD bv aY rn kd nu tv), (zaI aS cS 901 fS9_35), (zaI aB cB 6 fB2), (zaI aT cT 64 fT2), (zaI aG cG 9 fG2)]) [3, 4, 0, 1, 2] rfl
                  have hDc := hD.sub (ws' := [(zo14irriiiiiirriirrrrlriiii m0 th aS aI im ac sp en wg op aB aT se2 dn2 aG aO aN aD bv aY rn kd nu tv), (zaI aS cS 901 fS9_35), (zaI aB cB 6 fB2), (zaI aT cT 64 fT2), (zaI aG cG 9 fG2)]) [3, 4, 0, 1, 2] (by decide) rfl
                  have hKc := hK.sub (tys' := [(cS, .int), (cB, .int), (cT, .boolean), (cG, .int)]) [3, 0, 1, 2] rfl
                  have hFc := va_free (wc := [(zo14irriiiiiirriirrrrlriiii m0 th aS aI im ac sp en wg op aB aT se2 dn2 aG aO aN aD bv aY rn kd nu tv), (zaI aS cS 901 fS9_35), (zaI aB cB 6 fB2), (zaI aT cT 64 fT2), (zaI aG cG 9 fG2)]) hD hS hA [3, 4, 0, 1, 2] rfl
                  refine va_calli (va_runV (As := [.int (nI j_3), .int (nI j_9)]) (rest := []) ⟨hx, hb, hml, hown, hts⟩ (c_stepsOf l dC dI m0 aS aI aB aT aG aO aN aD aY th im ac sp en wg op se2 dn2 rn kd nu tv bv cS cB cT cG fS9_35 fB2 fT2 fG2 (n + 1) (nI j_3) (nI j_9) cz H.size (y0) (by omega) (hol_of zh (fun i _ hi => y1 i (by omega) (by omega) (by omega) (by omega)))) (cwV 2 hts gX12_build_X12_stepsOf rfl rfl rfl hd_yX12_stepsOf ⟨Nat.le_of_ble_eq_true rfl, Nat.le_of_ble_eq_true rfl⟩) ⟨fun a U g mk q => by obtain ⟨q0, q1, qP, qK, qD⟩ := q; exact ⟨q0, q1, qP, va_K.moved (u := U) (U := U.calling g mk a) (Vm.Alike.refl U.vm) qK, qD⟩, va_recv hK hP (ci := 14) (q := (RX12, TX12, 23)) (q0 := 3) rfl rfl, fun U hU hW => ⟨rfl, by rw [hU], by rw [hU]; exact hPc, va_K.moved hW.alike hKc, hDc.weaken (fun _ _ _ _ => trivial)⟩⟩ rfl rfl hl.1 rfl (lv_room (Nat.le_of_ble_eq_true rfl)) dX12_build_85 ⟨Nat.le_of_ble_eq_true rfl, Nat.le_of_ble_eq_true rfl⟩) hS (fun q _ h => hFc q h) hFc (fun r_36 u tC H1 locs htC hvm hw_37 hB hz1 hk1 hS => ?_)
                  obtain ⟨fB9_38, fT9_39, se9_40, dn9_41, fG9_42⟩ := u
                  try dsimp only at hw_37 hB
                  obtain ⟨hP1, hK1, hD1⟩ := hB
                  rw [htC] at hP1
                  have hK1 := va_K.moved hvm.symm hK1
                  obtain ⟨hP, hD⟩ := va_join (wr := []) (w1 := [(zo14irriiiiiirriirrrrlriiii m0 th aS aI im ac sp en wg op aB aT se9_40 dn9_41 aG aO aN aD bv aY rn kd nu tv), (zaI aS cS 901 fS9_35), (zaI aB cB 6 fB9_38), (zaI aT cT 64 fT9_39), (zaI aG cG 9 fG9_42)]) hP hD [3, 4, 0, 1, 2] [] rfl rfl (by decide) (by decide) hk1 hFc hP1 hD1
                  have hK := (hK.sub (tys' := []) [] rfl).app hK1
                  generalize H1 = H at hP hS ⊢
                  have hP : va_P (dC, dI) vwCl [(zo14irriiiiiirriirrrrlriiii m0 th aS aI im ac sp en wg op aB aT se9_40 dn9_41 aG aO aN aD bv aY rn kd nu tv), (zaI aS cS 901 fS9_35), (zaI aB cB 6 fB9_38), (zaI aT cT 64 fT9_39), (zaI aG cG 9 fG9_42)] H := hP
                  have hD : va_D A [(zo14irriiiiiirriirrrrlriiii m0 th aS aI im ac sp en wg op aB aT se9_40 dn9_41 aG aO aN aD bv aY rn kd nu tv), (zaI aS cS 901 fS9_35), (zaI aB cB 6 fB9_38), (zaI aT cT 64 fT9_39), (zaI aG cG 9 fG9_42)] := hD
                  have hK : va_K (dC, dI) vwCl [(cS, .int), (cB, .int), (cT, .boolean), (cG, .int)] s := hK
                  obtain ⟨hs1, rfl⟩ := hw_37
                  refine lv_istore (lv' := [(7, .int (fsR fG9_42 (n + 1) (nI j_3) (nI j_9) 0)), (0, .ref m0), (1, .int (nI j_3)), (2, .int (nI j_9)), (3, .int z), (4, .int q), (5, .int q2), (6, .int (nI i))]) hx hb dX12_build_88 hl (by decide) rfl (fun ls hl => ?_)
                  refine lv_aload_n hx hb dX12_build_90 rfl (lv_at hl 1 rfl) ?_
                  refine va_get (D := (dC, dI)) (ci := 14) (v := .ref aS) (C := RX12) (T := TX12) (N := 23) hx hb hts kc_mBuild_0 hown hK hP 0 rfl rfl 1 (by decide) (hts (.fieldLink RX12 9 "MistHeapsModel" "s" "[I") kc_mBuild_1) (fun _ h9 => h9) rfl dX12_build_91 ?_
                  refine lv_iconst (v := 0) hx hb dX12_build_94 (by decide) ?_
                  refine lv_dup2_11 hx hb dX12_build_95 rfl rfl ?_
                  refine va_iald hx hb hK hP 1 0 rfl rfl (vp_in_nI (n := 0) (N := 901) (by omega) (by omega)) dX12_build_96 ?_
                  refine qi_as (y := nI (n + 1)) ((show fS9_35 (0 : Int32).toNatClampNeg = fS9_35 0 from rfl).trans (y0)) ?_
                  refine lv_iconst (v := 1) hx hb dX12_build_97 (by decide) ?_
                  refine lv_isub hx hb dX12_build_98 ?_
                  refine qi_as (y := nI ((n + 1) - 1)) (pk_sub (a := n + 1) (b := 1) (by omega)) ?_
                  refine va_iast hx hb hK hP hD hS 1 0 rfl rfl (vp_in_nI (n := 0) (N := 901) (by omega) (by omega)) dX12_build_99 (fun H locs hP hD hS => ?_)
                  have hP : va_P (dC, dI) vwCl [(zo14irriiiiiirriirrrrlriiii m0 th aS aI im ac sp en wg op aB aT se9_40 dn9_41 aG aO aN aD bv aY rn kd nu tv), (zaI aS cS 901 (upd fS9_35 0 (nI ((n + 1) - 1)))), (zaI aB cB 6 fB9_38), (zaI aT cT 64 fT9_39), (zaI aG cG 9 fG9_42)] H := hP
                  have hD : va_D A [(zo14irriiiiiirriirrrrlriiii m0 th aS aI im ac sp en wg op aB aT se9_40 dn9_41 aG aO aN aD bv aY rn kd nu tv), (zaI aS cS 901 (upd fS9_35 0 (nI ((n + 1) - 1)))), (zaI aB cB 6 fB9_38), (zaI aT cT 64 fT9_39), (zaI aG cG 9 fG9_42)] := hD
                  obtain ⟨f3, ef3⟩ : ∃ g : Nat → Int32, g = upd fS9_35 0 (nI (n + 1 - 1)) := ⟨_, rfl⟩
                  have z3 : ∀ i, i ≠ 10 + n → i ≠ 19 + n → i ≠ 28 + n → f3 i = fS i := fun k k1 k2 k3 => by
                    by_cases k0 : k = 0
                    · subst k0; rw [ef3]; exact pk_us.trans ((congrArg nI (show n + 1 - 1 = n by omega)).trans zn.symm)
                    · rw [ef3, pk_un k0]; exact y1 k k0 k1 k2 k3
                  rw [show upd fS9_35 0 (nI ((n + 1) - 1)) = f3 from ef3.symm] at hP hD
                  have hP : va_P (dC, dI) vwCl [(zo14irriiiiiirriirrrrlriiii m0 th aS aI im ac sp en wg op aB aT se9_40 dn9_41 aG aO aN aD bv aY rn kd nu tv), (zaI aS cS 901 f3), (zaI aB cB 6 fB9_38), (zaI aT cT 64 fT9_39), (zaI aG cG 9 fG9_42)] H := hP
                  have hD : va_D A [(zo14irriiiiiirriirrrrlriiii m0 th aS aI im ac sp en wg op aB aT se9_40 dn9_41 aG aO aN aD bv aY rn kd nu tv), (zaI aS cS 901 f3), (zaI aB cB 6 fB9_38), (zaI aT cT 64 fT9_39), (zaI aG cG 9 fG9_42)] := hD
                  refine lv_iload hx hb dX12_build_100 (lv_at hl 0 rfl) ?_
                  refine lv_bipush (v := (-5)) hx hb dX12_build_102 (by decide) ?_
                  refine lv_icmp_eq (tgt := 125) hx hb dX12_build_104 (by decide) (fun c_43 => ?_) (fun c_43 => ?_)
                  · skip
                    refine lv_iconst (v := 0) hx hb dX12_build_125 (by decide) ?_
                    refine lv_istore (lv' := [(8, .int 0), (7, .int (fsR fG9_42 (n + 1) (nI j_3) (nI j_9) 0)), (0, .ref m0), (1, .int (nI j_3)), (2, .int (nI j_9)), (3, .int z), (4, .int q), (5, .int q2), (6, .int (nI i))]) hx hb dX12_build_126 hl (by decide) rfl (fun ls hl => ?_)
                    refine lv_iload hx hb dX12_build_128 (lv_at hl 0 rfl) ?_
                    refine lv_if_eq (tgt := 138) hx hb dX12_build_130 (by decide) (fun _ => ?_) (fun c_44 => absurd c_44 (by decide))
                    refine lv_iload hx hb dX12_build_138 (lv_at hl 7 rfl) ?_
                    refine lv_istore (lv' := [(5, .int q2), (8, .int 0), (7, .int (fsR fG9_42 (n + 1) (nI j_3) (nI j_9) 0)), (0, .ref m0), (1, .int (nI j_3)), (2, .int (nI j_9)), (3, .int z), (4, .int q), (6, .int (nI i))]) hx hb dX12_build_140 hl (by decide) rfl (fun ls hl => ?_)
                    refine lv_iload hx hb dX12_build_142 (lv_at hl 1 rfl) ?_
                    refine lv_if_eq (tgt := 152) hx hb dX12_build_144 (by decide) (fun _ => ?_) (fun c_45 => absurd c_45 (by decide))
                    refine lv_iload hx hb dX12_build_152 (lv_at hl 7 rfl) ?_
                    refine lv_istore (lv' := [(4, .int q), (5, .int q2), (8, .int 0), (7, .int (fsR fG9_42 (n + 1) (nI j_3) (nI j_9) 0)), (0, .ref m0), (1, .int (nI j_3)), (2, .int (nI j_9)), (3, .int z), (6, .int (nI i))]) hx hb dX12_build_154 hl (by decide) rfl (fun ls hl => ?_)
                    refine lv_iinc (v := nI (i + 1)) (lv' := [(6, .int (nI (i + 1))), (4, .int q), (5, .int q2), (8, .int 0), (7, .int (fsR fG9_42 (n + 1) (nI j_3) (nI j_9) 0)), (0, .ref m0), (1, .int (nI j_3)), (2, .int (nI j_9)), (3, .int z)]) hx hb dX12_build_156 hl (k := 8) rfl (nI_add i 1) (by decide) rfl (fun ls hl => ?_)
                    refine lv_goto (tgt := 56) hx hb dX12_build_159 (by decide) ?_
                    exact ih56 (i + 1) _ _ _ _ _ (q) (q2) (f3) (by omega) (by omega) (z3) (bc_n hG9 hq9 ht9 (bd_T hs1 hp9) (Or.inl c_43)) _ _ (hK.sub [0, 1, 2, 3] rfl) (hP.sub [0, 1, 2, 3, 4] rfl) (hD.sub [0, 1, 2, 3, 4] (by decide) rfl) hS ls (lv_sub hl [5, 6, 7, 8, 1, 2, 0] rfl)
                  · skip
                    refine lv_iload hx hb dX12_build_107 (lv_at hl 5 rfl) ?_
                    refine lv_bipush (v := (-5)) hx hb dX12_build_109 (by decide) ?_
                    refine lv_icmp_eq (tgt := 121) hx hb dX12_build_111 (by decide) (fun c_46 => ?_) (fun c_46 => ?_)
                    · skip
                      refine lv_iconst (v := 1) hx hb dX12_build_121 (by decide) ?_
                      refine lv_goto (tgt := 126) hx hb dX12_build_122 (by decide) ?_
                      refine lv_istore (lv' := [(8, .int 1), (7, .int (fsR fG9_42 (n + 1) (nI j_3) (nI j_9) 0)), (0, .ref m0), (1, .int (nI j_3)), (2, .int (nI j_9)), (3, .int z), (4, .int q), (5, .int q2), (6, .int (nI i))]) hx hb dX12_build_126 hl (by decide) rfl (fun ls hl => ?_)
                      refine lv_iload hx hb dX12_build_128 (lv_at hl 0 rfl) ?_
                      refine lv_if_eq (tgt := 138) hx hb dX12_build_130 (by decide) (fun c_47 => absurd c_47 (by decide)) (fun _ => ?_)
                      refine lv_iload hx hb dX12_build_133 (lv_at hl 8 rfl) ?_
                      refine lv_goto (tgt := 140) hx hb dX12_build_135 (by decide) ?_
                      refine lv_istore (lv' := [(5, .int (nI i)), (8, .int 1), (7, .int (fsR fG9_42 (n + 1) (nI j_3) (nI j_9) 0)), (0, .ref m0), (1, .int (nI j_3)), (2, .int (nI j_9)), (3, .int z), (4, .int q), (6, .int (nI i))]) hx hb dX12_build_140 hl (by decide) rfl (fun ls hl => ?_)
                      refine lv_iload hx hb dX12_build_142 (lv_at hl 1 rfl) ?_
                      refine lv_if_eq (tgt := 152) hx hb dX12_build_144 (by decide) (fun c_48 => absurd c_48 (by decide)) (fun _ => ?_)
                      refine lv_iload hx hb dX12_build_147 (lv_at hl 2 rfl) ?_
                      refine lv_goto (tgt := 154) hx hb dX12_build_149 (by decide) ?_
                      refine lv_istore (lv' := [(4, .int (fsR fG9_42 (n + 1) (nI j_3) (nI j_9) 0)), (5, .int (nI i)), (8, .int 1), (7, .int (fsR fG9_42 (n + 1) (nI j_3) (nI j_9) 0)), (0, .ref m0), (1, .int (nI j_3)), (2, .int (nI j_9)), (3, .int z), (6, .int (nI i))]) hx hb dX12_build_154 hl (by decide) rfl (fun ls hl => ?_)
                      refine lv_iinc (v := nI (i + 1)) (lv' := [(6, .int (nI (i + 1))), (4, .int (fsR fG9_42 (n + 1) (nI j_3) (nI j_9) 0)), (5, .int (nI i)), (8, .int 1), (7, .int (fsR fG9_42 (n + 1) (nI j_3) (nI j_9) 0)), (0, .ref m0), (1, .int (nI j_3)), (2, .int (nI j_9)), (3, .int z)]) hx hb dX12_build_156 hl (k := 8) rfl (nI_add i 1) (by decide) rfl (fun ls hl => ?_)
                      refine lv_goto (tgt := 56) hx hb dX12_build_159 (by decide) ?_
                      exact ih56 (i + 1) _ _ _ _ _ (fsR fG9_42 (n + 1) (nI j_3) (nI j_9) 0) (nI i) (f3) (by omega) (by omega) (z3) (bc_y hG9 hq9 ht9 (bd_T hs1 hp9) c_43 (Or.inl c_46)) _ _ (hK.sub [0, 1, 2, 3] rfl) (hP.sub [0, 1, 2, 3, 4] rfl) (hD.sub [0, 1, 2, 3, 4] (by decide) rfl) hS ls (lv_sub hl [5, 6, 7, 8, 1, 2, 0] rfl)
                    · skip
                      refine lv_iload hx hb dX12_build_114 (lv_at hl 0 rfl) ?_
                      refine lv_iload hx hb dX12_build_116 (lv_at hl 5 rfl) ?_
                      refine lv_icmp_ge (tgt := 125) hx hb dX12_build_118 (by decide) (fun c_49 => ?_) (fun c_49 => ?_)
                      · skip
                        refine lv_iconst (v := 0) hx hb dX12_build_125 (by decide) ?_
                        refine lv_istore (lv' := [(8, .int 0), (7, .int (fsR fG9_42 (n + 1) (nI j_3) (nI j_9) 0)), (0, .ref m0), (1, .int (nI j_3)), (2, .int (nI j_9)), (3, .int z), (4, .int q), (5, .int q2), (6, .int (nI i))]) hx hb dX12_build_126 hl (by decide) rfl (fun ls hl => ?_)
                        refine lv_iload hx hb dX12_build_128 (lv_at hl 0 rfl) ?_
                        refine lv_if_eq (tgt := 138) hx hb dX12_build_130 (by decide) (fun _ => ?_) (fun c_50 => absurd c_50 (by decide))
                        refine lv_iload hx hb dX12_build_138 (lv_at hl 7 rfl) ?_
                        refine lv_istore (lv' := [(5, .int q2), (8, .int 0), (7, .int (fsR fG9_42 (n + 1) (nI j_3) (nI j_9) 0)), (0, .ref m0), (1, .int (nI j_3)), (2, .int (nI j_9)), (3, .int z), (4, .int q), (6, .int (nI i))]) hx hb dX12_build_140 hl (by decide) rfl (fun ls hl => ?_)
                        refine lv_iload hx hb dX12_build_142 (lv_at hl 1 rfl) ?_
                        refine lv_if_eq (tgt := 152) hx hb dX12_build_144 (by decide) (fun _ => ?_) (fun c_51 => absurd c_51 (by decide))
                        refine lv_iload hx hb dX12_build_152 (lv_at hl 7 rfl) ?_
                        refine lv_istore (lv' := [(4, .int q), (5, .int q2), (8, .int 0), (7, .int (fsR fG9_42 (n + 1) (nI j_3) (nI j_9) 0)), (0, .ref m0), (1, .int (nI j_3)), (2, .int (nI j_9)), (3, .int z), (6, .int (nI i))]) hx hb dX12_build_154 hl (by decide) rfl (fun ls hl => ?_)
                        refine lv_iinc (v := nI (i + 1)) (lv' := [(6, .int (nI (i + 1))), (4, .int q), (5, .int q2), (8, .int 0), (7, .int (fsR fG9_42 (n + 1) (nI j_3) (nI j_9) 0)), (0, .ref m0), (1, .int (nI j_3)), (2, .int (nI j_9)), (3, .int z)]) hx hb dX12_build_156 hl (k := 8) rfl (nI_add i 1) (by decide) rfl (fun ls hl => ?_)
                        refine lv_goto (tgt := 56) hx hb dX12_build_159 (by decide) ?_
                        exact ih56 (i + 1) _ _ _ _ _ (q) (q2) (f3) (by omega) (by omega) (z3) (bc_n hG9 hq9 ht9 (bd_T hs1 hp9) (Or.inr ⟨c_46, Int32.not_lt.mpr c_49⟩)) _ _ (hK.sub [0, 1, 2, 3] rfl) (hP.sub [0, 1, 2, 3, 4] rfl) (hD.sub [0, 1, 2, 3, 4] (by decide) rfl) hS ls (lv_sub hl [5, 6, 7, 8, 1, 2, 0] rfl)
                      · skip
                        refine lv_iconst (v := 1) hx hb dX12_build_121 (by decide) ?_
                        refine lv_goto (tgt := 126) hx hb dX12_build_122 (by decide) ?_
                        refine lv_istore (lv' := [(8, .int 1), (7, .int (fsR fG9_42 (n + 1) (nI j_3) (nI j_9) 0)), (0, .ref m0), (1, .int (nI j_3)), (2, .int (nI j_9)), (3, .int z), (4, .int q), (5, .int q2), (6, .int (nI i))]) hx hb dX12_build_126 hl (by decide) rfl (fun ls hl => ?_)
                        refine lv_iload hx hb dX12_build_128 (lv_at hl 0 rfl) ?_
                        refine lv_if_eq (tgt := 138) hx hb dX12_build_130 (by decide) (fun c_52 => absurd c_52 (by decide)) (fun _ => ?_)
                        refine lv_iload hx hb dX12_build_133 (lv_at hl 8 rfl) ?_
                        refine lv_goto (tgt := 140) hx hb dX12_build_135 (by decide) ?_
                        refine lv_istore (lv' := [(5, .int (nI i)), (8, .int 1), (7, .int (fsR fG9_42 (n + 1) (nI j_3) (nI j_9) 0)), (0, .ref m0), (1, .int (nI j_3)), (2, .int (nI j_9)), (3, .int z), (4, .int q), (6, .int (nI i))]) hx hb dX12_build_140 hl (by decide) rfl (fun ls hl => ?_)
                        refine lv_iload hx hb dX12_build_142 (lv_at hl 1 rfl) ?_
                        refine lv_if_eq (tgt := 152) hx hb dX12_build_144 (by decide) (fun c_53 => absurd c_53 (by decide)) (fun _ => ?_)
                        refine lv_iload hx hb dX12_build_147 (lv_at hl 2 rfl) ?_
                        refine lv_goto (tgt := 154) hx hb dX12_build_149 (by decide) ?_
                        refine lv_istore (lv' := [(4, .int (fsR fG9_42 (n + 1) (nI j_3) (nI j_9) 0)), (5, .int (nI i)), (8, .int 1), (7, .int (fsR fG9_42 (n + 1) (nI j_3) (nI j_9) 0)), (0, .ref m0), (1, .int (nI j_3)), (2, .int (nI j_9)), (3, .int z), (6, .int (nI i))]) hx hb dX12_build_154 hl (by decide) rfl (fun ls hl => ?_)
                        refine lv_iinc (v := nI (i + 1)) (lv' := [(6, .int (nI (i + 1))), (4, .int (fsR fG9_42 (n + 1) (nI j_3) (nI j_9) 0)), (5, .int (nI i)), (8, .int 1), (7, .int (fsR fG9_42 (n + 1) (nI j_3) (nI j_9) 0)), (0, .ref m0), (1, .int (nI j_3)), (2, .int (nI j_9)), (3, .int z)]) hx hb dX12_build_156 hl (k := 8) rfl (nI_add i 1) (by decide) rfl (fun ls hl => ?_)
                        refine lv_goto (tgt := 56) hx hb dX12_build_159 (by decide) ?_
                        exact ih56 (i + 1) _ _ _ _ _ (fsR fG9_42 (n + 1) (nI j_3) (nI j_9) 0) (nI i) (f3) (by omega) (by omega) (z3) (bc_y hG9 hq9 ht9 (bd_T hs1 hp9) c_43 (Or.inr (Int32.not_le.mp c_49))) _ _ (hK.sub [0, 1, 2, 3] rfl) (hP.sub [0, 1, 2, 3, 4] rfl) (hD.sub [0, 1, 2, 3, 4] (by decide) rfl) hS ls (lv_sub hl [5, 6, 7, 8, 1, 2, 0] rfl)
          exact L56 _ (0) _ _ _ _ _ (fsR fG9_26 n (nI j_3) (nI j_9) 0) (-5) (fS) (Nat.lt_succ_self _) (by omega) (fun _ _ _ _ => rfl) (⟨by rw [hG9]; rfl, by rw [hG9]; exact fsR_cg (row_m hs1 zkd zvv zc zmi zsn)⟩) _ _ (hK.sub [0, 1, 2, 3] rfl) (hP.sub [0, 1, 2, 3, 4] rfl) (hD.sub [0, 1, 2, 3, 4] (by decide) rfl) hS ls (lv_sub hl [3, 4, 5, 6, 2, 1, 0] rfl)
        · skip
          have c_19 : n = 8 := (nI_eq (a := n) (b := 8) (by omega) (by omega)).mp c_19
          refine lv_bipush (v := (-5)) hx hb dX12_build_38 (by decide) ?_
          rw [hQ]
          have hP9 := hP.sub (ws' := [(zo14irriiiiiirriirrrrlriiii m0 th aS aI im ac sp en wg op aB aT se dn aG aO aN aD bv aY rn kd nu tv), (zaI aS cS 901 fS), (zaI aB cB 6 fB), (zaI aT cT 64 fT), (zaI aG cG 9 fG)]) [0, 1, 2, 3, 4] rfl
          have hD9 := hD.sub (ws' := [(zo14irriiiiiirriirrrrlriiii m0 th aS aI im ac sp en wg op aB aT se dn aG aO aN aD bv aY rn kd nu tv), (zaI aS cS 901 fS), (zaI aB cB 6 fB), (zaI aT cT 64 fT), (zaI aG cG 9 fG)]) [0, 1, 2, 3, 4] (by decide) rfl
          have hK9 := hK.sub (tys' := [(cS, .int), (cB, .int), (cT, .boolean), (cG, .int)]) [0, 1, 2, 3] rfl
          exact W.iret (v := (-5)) hx hb hr (fun tQ htQ hWQ => ⟨⟨(-5), (fB, fT, se, dn, fG, fS), rfl, ⟨bd_8 (by omega) (by omega) (by assumption) (by assumption) (by omega), by first | exact fun _ _ _ _ => rfl | exact zf⟩, by rw [htQ]; exact hP9, va_K.moved hWQ.alike hK9, hD9⟩, hS.F htQ⟩) hS.2.2 dX12_build_40
      · skip
        refine lv_if_ne (tgt := 27) hx hb dX12_build_22 (by decide) (fun c_54 => absurd c_54 (by decide)) (fun _ => ?_)
        refine lv_iconst (v := (-1)) hx hb dX12_build_25 (by decide) ?_
        rw [hQ]
        have hP9 := hP.sub (ws' := [(zo14irriiiiiirriirrrrlriiii m0 th aS aI im ac sp en wg op aB aT se dn aG aO aN aD bv aY rn kd nu tv), (zaI aS cS 901 fS), (zaI aB cB 6 fB), (zaI aT cT 64 fT), (zaI aG cG 9 fG)]) [0, 1, 2, 3, 4] rfl
        have hD9 := hD.sub (ws' := [(zo14irriiiiiirriirrrrlriiii m0 th aS aI im ac sp en wg op aB aT se dn aG aO aN aD bv aY rn kd nu tv), (zaI aS cS 901 fS), (zaI aB cB 6 fB), (zaI aT cT 64 fT), (zaI aG cG 9 fG)]) [0, 1, 2, 3, 4] (by decide) rfl
        have hK9 := hK.sub (tys' := [(cS, .int), (cB, .int), (cT, .boolean), (cG, .int)]) [0, 1, 2, 3] rfl
        exact W.iret (v := (-1)) hx hb hr (fun tQ htQ hWQ => ⟨⟨(-1), (fB, fT, se, dn, fG, fS), rfl, ⟨by first | exact bd_no1 (by assumption) | exact bd_no2 (by assumption) | exact bd_no3 (by assumption), by first | exact fun _ _ _ _ => rfl | exact zf⟩, by rw [htQ]; exact hP9, va_K.moved hWQ.alike hK9, hD9⟩, hS.F htQ⟩) hS.2.2 dX12_build_26
    · skip
      refine lv_if_eq (tgt := 25) hx hb dX12_build_13 (by decide) (fun _ => ?_) (fun c_55 => absurd c_55 (by decide))
      refine lv_iconst (v := (-1)) hx hb dX12_build_25 (by decide) ?_
      rw [hQ]
      have hP9 := hP.sub (ws' := [(zo14irriiiiiirriirrrrlriiii m0 th aS aI im ac sp en wg op aB aT se dn aG aO aN aD bv aY rn kd nu tv), (zaI aS cS 901 fS), (zaI aB cB 6 fB), (zaI aT cT 64 fT), (zaI aG cG 9 fG)]) [0, 1, 2, 3, 4] rfl
      have hD9 := hD.sub (ws' := [(zo14irriiiiiirriirrrrlriiii m0 th aS aI im ac sp en wg op aB aT se dn aG aO aN aD bv aY rn kd nu tv), (zaI aS cS 901 fS), (zaI aB cB 6 fB), (zaI aT cT 64 fT), (zaI aG cG 9 fG)]) [0, 1, 2, 3, 4] (by decide) rfl
      have hK9 := hK.sub (tys' := [(cS, .int), (cB, .int), (cT, .boolean), (cG, .int)]) [0, 1, 2, 3] rfl
      exact W.iret (v := (-1)) hx hb hr (fun tQ htQ hWQ => ⟨⟨(-1), (fB, fT, se, dn, fG, fS), rfl, ⟨by first | exact bd_no1 (by assumption) | exact bd_no2 (by assumption) | exact bd_no3 (by assumption), by first | exact fun _ _ _ _ => rfl | exact zf⟩, by rw [htQ]; exact hP9, va_K.moved hWQ.alike hK9, hD9⟩, hS.F htQ⟩) hS.2.2 dX12_build_26
  · skip
    refine lv_if_eq (tgt := 25) hx hb dX12_build_5 (by decide) (fun _ => ?_) (fun c_56 => absurd c_56 (by decide))
    refine lv_iconst (v := (-1)) hx hb dX12_build_25 (by decide) ?_
    rw [hQ]
    have hP9 := hP.sub (ws' := [(zo14irriiiiiirriirrrrlriiii m0 th aS aI im ac sp en wg op aB aT se dn aG aO aN aD bv aY rn kd nu tv), (zaI aS cS 901 fS), (zaI aB cB 6 fB), (zaI aT cT 64 fT), (zaI aG cG 9 fG)]) [0, 1, 2, 3, 4] rfl
    have hD9 := hD.sub (ws' := [(zo14irriiiiiirriirrrrlriiii m0 th aS aI im ac sp en wg op aB aT se dn aG aO aN aD bv aY rn kd nu tv), (zaI aS cS 901 fS), (zaI aB cB 6 fB), (zaI aT cT 64 fT), (zaI aG cG 9 fG)]) [0, 1, 2, 3, 4] (by decide) rfl
    have hK9 := hK.sub (tys' := [(cS, .int), (cB, .int), (cT, .boolean), (cG, .int)]) [0, 1, 2, 3] rfl
    exact W.iret (v := (-1)) hx hb hr (fun tQ htQ hWQ => ⟨⟨(-1), (fB, fT, se, dn, fG, fS), rfl, ⟨by first | exact bd_no1 (by assumption) | exact bd_no2 (by assumption) | exact bd_no3 (by assumption), by first | exact fun _ _ _ _ => rfl | exact zf⟩, by rw [htQ]; exact hP9, va_K.moved hWQ.alike hK9, hD9⟩, hS.F htQ⟩) hS.2.2 dX12_build_26
