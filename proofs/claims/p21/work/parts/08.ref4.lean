section mg08
theorem ggX12_bears_X12_isHeap : GoodIn wsX12_bears wsX12_isHeap := gga_of 1320 rfl rfl rfl
theorem gX12_bears_X12_isHeap : GoodIn wsX12_bears (wsV RX12 164 RX12 yX12_isHeap wsX12_isHeap) := goodIn_app (ggh_of [1317, 1319, 37, 72] rfl rfl rfl) ggX12_bears_X12_isHeap
theorem ggX12_bears_X12_stepsOf : GoodIn wsX12_bears wsX12_stepsOf := gga_of 1359 rfl rfl rfl
theorem gX12_bears_X12_stepsOf : GoodIn wsX12_bears (wsV RX12 198 RX12 yX12_stepsOf wsX12_stepsOf) := goodIn_app (ggh_of [1356, 1358, 42, 72] rfl rfl rfl) ggX12_bears_X12_stepsOf
theorem ggX12_build_X12_isHeap : GoodIn wsX12_build wsX12_isHeap := gga_of 1320 rfl rfl rfl
theorem gX12_build_X12_isHeap : GoodIn wsX12_build (wsV RX12 164 RX12 yX12_isHeap wsX12_isHeap) := goodIn_app (ggh_of [1317, 1319, 37, 72] rfl rfl rfl) ggX12_build_X12_isHeap
theorem ggX12_build_X12_in : GoodIn wsX12_build wsX12_in := gga_of 1217 rfl rfl rfl
theorem gX12_build_X12_in : GoodIn wsX12_build (va_wsS RX12 45 yX12_in wsX12_in) := goodIn_app (ggh_of [1215, 1216, 72] rfl rfl rfl) ggX12_build_X12_in
theorem ggX12_build_X12_stepsOf : GoodIn wsX12_build wsX12_stepsOf := gga_of 1359 rfl rfl rfl
theorem gX12_build_X12_stepsOf : GoodIn wsX12_build (wsV RX12 198 RX12 yX12_stepsOf wsX12_stepsOf) := goodIn_app (ggh_of [1356, 1358, 42, 72] rfl rfl rfl) ggX12_build_X12_stepsOf
theorem ggX12_build_X12_heapOn : GoodIn wsX12_build wsX12_heapOn := gga_of 1308 rfl rfl rfl
theorem gX12_build_X12_heapOn : GoodIn wsX12_build (wsV RX12 153 RX12 yX12_heapOn wsX12_heapOn) := goodIn_app (ggh_of [1305, 1307, 35, 72] rfl rfl rfl) ggX12_build_X12_heapOn
theorem ggX12_build_X12_puts : GoodIn wsX12_build wsX12_puts := gga_of 1312 rfl rfl rfl
theorem gX12_build_X12_puts : GoodIn wsX12_build (wsV RX12 156 RX12 yX12_puts wsX12_puts) := goodIn_app (ggh_of [1309, 1311, 36, 72] rfl rfl rfl) ggX12_build_X12_puts
noncomputable def dk08ref4_cX12_heapOn_0 : List (Nat × List Nat) := [(0, [2]), (1, [61]), (2, [3]), (3, [62]), (4, [29]), (5, [42]), (6, [180, 0, 9]), (9, [3]), (10, [46]), (11, [162, 0, 28]), (14, [42]), (15, [180, 0, 9]), (18, [16, 28]), (20, [29]), (21, [96]), (22, [46]), (23, [27]), (24, [160, 0, 7]), (27, [29]), (28, [167, 0, 4]), (31, [28]), (32, [61]), (33, [132, 3, 1]), (36, [167, 255, 224]), (39, [28]), (40, [172])]
set_option maxRecDepth 100000 in
theorem dk08ref4_cX12_heapOn_0_a : btA cX12_heapOn dk08ref4_cX12_heapOn_0 = true := by decide +kernel
theorem dX12_heapOn_0 : decode cX12_heapOn 0 = .ok (.iconst (-1), 1) := bd2 (btAt dk08ref4_cX12_heapOn_0_a 0 rfl)
theorem dX12_heapOn_1 : decode cX12_heapOn 1 = .ok (.istore_n 2, 1) := bd61 (btAt dk08ref4_cX12_heapOn_0_a 1 rfl)
theorem dX12_heapOn_2 : decode cX12_heapOn 2 = .ok (.iconst 0, 1) := bd3 (btAt dk08ref4_cX12_heapOn_0_a 2 rfl)
theorem dX12_heapOn_3 : decode cX12_heapOn 3 = .ok (.istore_n 3, 1) := bd62 (btAt dk08ref4_cX12_heapOn_0_a 3 rfl)
theorem dX12_heapOn_4 : decode cX12_heapOn 4 = .ok (.iload_n 3, 1) := bd29 (btAt dk08ref4_cX12_heapOn_0_a 4 rfl)
theorem dX12_heapOn_5 : decode cX12_heapOn 5 = .ok (.aload_n 0, 1) := bd42 (btAt dk08ref4_cX12_heapOn_0_a 5 rfl)
theorem dX12_heapOn_6 : decode cX12_heapOn 6 = .ok (.getfield 9, 3) := bd180 (a := 0) (b := 9) (btAt dk08ref4_cX12_heapOn_0_a 6 rfl)
theorem dX12_heapOn_9 : decode cX12_heapOn 9 = .ok (.iconst 0, 1) := bd3 (btAt dk08ref4_cX12_heapOn_0_a 7 rfl)
theorem dX12_heapOn_10 : decode cX12_heapOn 10 = .ok (.iaload, 1) := bd46 (btAt dk08ref4_cX12_heapOn_0_a 8 rfl)
theorem dX12_heapOn_11 : decode cX12_heapOn 11 = .ok (.if_icmp .ge 28, 3) := bd162 (a := 0) (b := 28) (btAt dk08ref4_cX12_heapOn_0_a 9 rfl)
theorem dX12_heapOn_14 : decode cX12_heapOn 14 = .ok (.aload_n 0, 1) := bd42 (btAt dk08ref4_cX12_heapOn_0_a 10 rfl)
theorem dX12_heapOn_15 : decode cX12_heapOn 15 = .ok (.getfield 9, 3) := bd180 (a := 0) (b := 9) (btAt dk08ref4_cX12_heapOn_0_a 11 rfl)
theorem dX12_heapOn_18 : decode cX12_heapOn 18 = .ok (.bipush 28, 2) := bd16 (a := 28) (btAt dk08ref4_cX12_heapOn_0_a 12 rfl)
theorem dX12_heapOn_20 : decode cX12_heapOn 20 = .ok (.iload_n 3, 1) := bd29 (btAt dk08ref4_cX12_heapOn_0_a 13 rfl)
theorem dX12_heapOn_21 : decode cX12_heapOn 21 = .ok (.iadd, 1) := bd96 (btAt dk08ref4_cX12_heapOn_0_a 14 rfl)
theorem dX12_heapOn_22 : decode cX12_heapOn 22 = .ok (.iaload, 1) := bd46 (btAt dk08ref4_cX12_heapOn_0_a 15 rfl)
theorem dX12_heapOn_23 : decode cX12_heapOn 23 = .ok (.iload_n 1, 1) := bd27 (btAt dk08ref4_cX12_heapOn_0_a 16 rfl)
theorem dX12_heapOn_24 : decode cX12_heapOn 24 = .ok (.if_icmp .ne 7, 3) := bd160 (a := 0) (b := 7) (btAt dk08ref4_cX12_heapOn_0_a 17 rfl)
theorem dX12_heapOn_27 : decode cX12_heapOn 27 = .ok (.iload_n 3, 1) := bd29 (btAt dk08ref4_cX12_heapOn_0_a 18 rfl)
theorem dX12_heapOn_28 : decode cX12_heapOn 28 = .ok (.goto 4, 3) := bd167 (a := 0) (b := 4) (btAt dk08ref4_cX12_heapOn_0_a 19 rfl)
theorem dX12_heapOn_31 : decode cX12_heapOn 31 = .ok (.iload_n 2, 1) := bd28 (btAt dk08ref4_cX12_heapOn_0_a 20 rfl)
theorem dX12_heapOn_32 : decode cX12_heapOn 32 = .ok (.istore_n 2, 1) := bd61 (btAt dk08ref4_cX12_heapOn_0_a 21 rfl)
theorem dX12_heapOn_33 : decode cX12_heapOn 33 = .ok (.iinc 3 1, 3) := bd132 (a := 3) (b := 1) (btAt dk08ref4_cX12_heapOn_0_a 22 rfl)
theorem dX12_heapOn_36 : decode cX12_heapOn 36 = .ok (.goto (-32), 3) := bd167 (a := 255) (b := 224) (btAt dk08ref4_cX12_heapOn_0_a 23 rfl)
theorem dX12_heapOn_39 : decode cX12_heapOn 39 = .ok (.iload_n 2, 1) := bd28 (btAt dk08ref4_cX12_heapOn_0_a 24 rfl)
theorem dX12_heapOn_40 : decode cX12_heapOn 40 = .ok (.ireturn, 1) := bd172 (btAt dk08ref4_cX12_heapOn_0_a 25 rfl)
noncomputable def dk08ref4_cX12_puts_0 : List (Nat × List Nat) := [(0, [42]), (1, [180, 0, 9]), (4, [3]), (5, [46]), (6, [54, 4]), (8, [42]), (9, [180, 0, 9]), (12, [16, 10]), (14, [21, 4]), (16, [96]), (17, [27]), (18, [79]), (19, [42]), (20, [180, 0, 9]), (23, [16, 19]), (25, [21, 4]), (27, [96]), (28, [28]), (29, [79]), (30, [42]), (31, [180, 0, 9]), (34, [16, 28]), (36, [21, 4]), (38, [96]), (39, [29]), (40, [79]), (41, [42]), (42, [180, 0, 9]), (45, [3]), (46, [92]), (47, [46]), (48, [4]), (49, [96]), (50, [79]), (51, [21, 4]), (53, [172])]
set_option maxRecDepth 100000 in
theorem dk08ref4_cX12_puts_0_a : btA cX12_puts dk08ref4_cX12_puts_0 = true := by decide +kernel
theorem dX12_puts_0 : decode cX12_puts 0 = .ok (.aload_n 0, 1) := bd42 (btAt dk08ref4_cX12_puts_0_a 0 rfl)
theorem dX12_puts_1 : decode cX12_puts 1 = .ok (.getfield 9, 3) := bd180 (a := 0) (b := 9) (btAt dk08ref4_cX12_puts_0_a 1 rfl)
theorem dX12_puts_4 : decode cX12_puts 4 = .ok (.iconst 0, 1) := bd3 (btAt dk08ref4_cX12_puts_0_a 2 rfl)
theorem dX12_puts_5 : decode cX12_puts 5 = .ok (.iaload, 1) := bd46 (btAt dk08ref4_cX12_puts_0_a 3 rfl)
theorem dX12_puts_6 : decode cX12_puts 6 = .ok (.istore 4, 2) := bd54 (a := 4) (btAt dk08ref4_cX12_puts_0_a 4 rfl)
theorem dX12_puts_8 : decode cX12_puts 8 = .ok (.aload_n 0, 1) := bd42 (btAt dk08ref4_cX12_puts_0_a 5 rfl)
theorem dX12_puts_9 : decode cX12_puts 9 = .ok (.getfield 9, 3) := bd180 (a := 0) (b := 9) (btAt dk08ref4_cX12_puts_0_a 6 rfl)
theorem dX12_puts_12 : decode cX12_puts 12 = .ok (.bipush 10, 2) := bd16 (a := 10) (btAt dk08ref4_cX12_puts_0_a 7 rfl)
theorem dX12_puts_14 : decode cX12_puts 14 = .ok (.iload 4, 2) := bd21 (a := 4) (btAt dk08ref4_cX12_puts_0_a 8 rfl)
theorem dX12_puts_16 : decode cX12_puts 16 = .ok (.iadd, 1) := bd96 (btAt dk08ref4_cX12_puts_0_a 9 rfl)
theorem dX12_puts_17 : decode cX12_puts 17 = .ok (.iload_n 1, 1) := bd27 (btAt dk08ref4_cX12_puts_0_a 10 rfl)
theorem dX12_puts_18 : decode cX12_puts 18 = .ok (.iastore, 1) := bd79 (btAt dk08ref4_cX12_puts_0_a 11 rfl)
theorem dX12_puts_19 : decode cX12_puts 19 = .ok (.aload_n 0, 1) := bd42 (btAt dk08ref4_cX12_puts_0_a 12 rfl)
theorem dX12_puts_20 : decode cX12_puts 20 = .ok (.getfield 9, 3) := bd180 (a := 0) (b := 9) (btAt dk08ref4_cX12_puts_0_a 13 rfl)
theorem dX12_puts_23 : decode cX12_puts 23 = .ok (.bipush 19, 2) := bd16 (a := 19) (btAt dk08ref4_cX12_puts_0_a 14 rfl)
theorem dX12_puts_25 : decode cX12_puts 25 = .ok (.iload 4, 2) := bd21 (a := 4) (btAt dk08ref4_cX12_puts_0_a 15 rfl)
theorem dX12_puts_27 : decode cX12_puts 27 = .ok (.iadd, 1) := bd96 (btAt dk08ref4_cX12_puts_0_a 16 rfl)
theorem dX12_puts_28 : decode cX12_puts 28 = .ok (.iload_n 2, 1) := bd28 (btAt dk08ref4_cX12_puts_0_a 17 rfl)
theorem dX12_puts_29 : decode cX12_puts 29 = .ok (.iastore, 1) := bd79 (btAt dk08ref4_cX12_puts_0_a 18 rfl)
theorem dX12_puts_30 : decode cX12_puts 30 = .ok (.aload_n 0, 1) := bd42 (btAt dk08ref4_cX12_puts_0_a 19 rfl)
theorem dX12_puts_31 : decode cX12_puts 31 = .ok (.getfield 9, 3) := bd180 (a := 0) (b := 9) (btAt dk08ref4_cX12_puts_0_a 20 rfl)
theorem dX12_puts_34 : decode cX12_puts 34 = .ok (.bipush 28, 2) := bd16 (a := 28) (btAt dk08ref4_cX12_puts_0_a 21 rfl)
theorem dX12_puts_36 : decode cX12_puts 36 = .ok (.iload 4, 2) := bd21 (a := 4) (btAt dk08ref4_cX12_puts_0_a 22 rfl)
theorem dX12_puts_38 : decode cX12_puts 38 = .ok (.iadd, 1) := bd96 (btAt dk08ref4_cX12_puts_0_a 23 rfl)
theorem dX12_puts_39 : decode cX12_puts 39 = .ok (.iload_n 3, 1) := bd29 (btAt dk08ref4_cX12_puts_0_a 24 rfl)
theorem dX12_puts_40 : decode cX12_puts 40 = .ok (.iastore, 1) := bd79 (btAt dk08ref4_cX12_puts_0_a 25 rfl)
theorem dX12_puts_41 : decode cX12_puts 41 = .ok (.aload_n 0, 1) := bd42 (btAt dk08ref4_cX12_puts_0_a 26 rfl)
theorem dX12_puts_42 : decode cX12_puts 42 = .ok (.getfield 9, 3) := bd180 (a := 0) (b := 9) (btAt dk08ref4_cX12_puts_0_a 27 rfl)
theorem dX12_puts_45 : decode cX12_puts 45 = .ok (.iconst 0, 1) := bd3 (btAt dk08ref4_cX12_puts_0_a 28 rfl)
theorem dX12_puts_46 : decode cX12_puts 46 = .ok (.dup2, 1) := bd92 (btAt dk08ref4_cX12_puts_0_a 29 rfl)
theorem dX12_puts_47 : decode cX12_puts 47 = .ok (.iaload, 1) := bd46 (btAt dk08ref4_cX12_puts_0_a 30 rfl)
theorem dX12_puts_48 : decode cX12_puts 48 = .ok (.iconst 1, 1) := bd4 (btAt dk08ref4_cX12_puts_0_a 31 rfl)
theorem dX12_puts_49 : decode cX12_puts 49 = .ok (.iadd, 1) := bd96 (btAt dk08ref4_cX12_puts_0_a 32 rfl)
theorem dX12_puts_50 : decode cX12_puts 50 = .ok (.iastore, 1) := bd79 (btAt dk08ref4_cX12_puts_0_a 33 rfl)
theorem dX12_puts_51 : decode cX12_puts 51 = .ok (.iload 4, 2) := bd21 (a := 4) (btAt dk08ref4_cX12_puts_0_a 34 rfl)
theorem dX12_puts_53 : decode cX12_puts 53 = .ok (.ireturn, 1) := bd172 (btAt dk08ref4_cX12_puts_0_a 35 rfl)
noncomputable def dk08ref4_cX12_bears_0 : List (Nat × List Nat) := [(0, [42]), (1, [27]), (2, [182, 0, 164]), (5, [153, 0, 11]), (8, [42]), (9, [28]), (10, [182, 0, 164]), (13, [154, 0, 5]), (18, [42]), (19, [180, 0, 9]), (22, [16, 7]), (24, [46]), (25, [62]), (26, [16, 251]), (28, [54, 4]), (30, [3]), (31, [54, 5]), (33, [21, 5]), (35, [16, 10]), (37, [162, 0, 38]), (40, [42]), (41, [180, 0, 9]), (44, [16, 7]), (46, [21, 5]), (48, [79]), (49, [42]), (50, [27]), (51, [28]), (52, [182, 0, 198]), (55, [16, 251]), (57, [160, 0, 8]), (65, [21, 5]), (67, [54, 4]), (75, [42]), (76, [180, 0, 9]), (79, [16, 7]), (81, [29]), (82, [79]), (83, [21, 4]), (85, [172])]
set_option maxRecDepth 100000 in
theorem dk08ref4_cX12_bears_0_a : btA cX12_bears dk08ref4_cX12_bears_0 = true := by decide +kernel
theorem dX12_bears_0 : decode cX12_bears 0 = .ok (.aload_n 0, 1) := bd42 (btAt dk08ref4_cX12_bears_0_a 0 rfl)
theorem dX12_bears_1 : decode cX12_bears 1 = .ok (.iload_n 1, 1) := bd27 (btAt dk08ref4_cX12_bears_0_a 1 rfl)
theorem dX12_bears_2 : decode cX12_bears 2 = .ok (.invokevirtual 164, 3) := bd182 (a := 0) (b := 164) (btAt dk08ref4_cX12_bears_0_a 2 rfl)
theorem dX12_bears_5 : decode cX12_bears 5 = .ok (.ifCond .eq 11, 3) := bd153 (a := 0) (b := 11) (btAt dk08ref4_cX12_bears_0_a 3 rfl)
theorem dX12_bears_8 : decode cX12_bears 8 = .ok (.aload_n 0, 1) := bd42 (btAt dk08ref4_cX12_bears_0_a 4 rfl)
theorem dX12_bears_9 : decode cX12_bears 9 = .ok (.iload_n 2, 1) := bd28 (btAt dk08ref4_cX12_bears_0_a 5 rfl)
theorem dX12_bears_10 : decode cX12_bears 10 = .ok (.invokevirtual 164, 3) := bd182 (a := 0) (b := 164) (btAt dk08ref4_cX12_bears_0_a 6 rfl)
theorem dX12_bears_13 : decode cX12_bears 13 = .ok (.ifCond .ne 5, 3) := bd154 (a := 0) (b := 5) (btAt dk08ref4_cX12_bears_0_a 7 rfl)
theorem dX12_bears_18 : decode cX12_bears 18 = .ok (.aload_n 0, 1) := bd42 (btAt dk08ref4_cX12_bears_0_a 8 rfl)
theorem dX12_bears_19 : decode cX12_bears 19 = .ok (.getfield 9, 3) := bd180 (a := 0) (b := 9) (btAt dk08ref4_cX12_bears_0_a 9 rfl)
theorem dX12_bears_22 : decode cX12_bears 22 = .ok (.bipush 7, 2) := bd16 (a := 7) (btAt dk08ref4_cX12_bears_0_a 10 rfl)
theorem dX12_bears_24 : decode cX12_bears 24 = .ok (.iaload, 1) := bd46 (btAt dk08ref4_cX12_bears_0_a 11 rfl)
theorem dX12_bears_25 : decode cX12_bears 25 = .ok (.istore_n 3, 1) := bd62 (btAt dk08ref4_cX12_bears_0_a 12 rfl)
theorem dX12_bears_26 : decode cX12_bears 26 = .ok (.bipush (-5), 2) := bd16 (a := 251) (btAt dk08ref4_cX12_bears_0_a 13 rfl)
theorem dX12_bears_28 : decode cX12_bears 28 = .ok (.istore 4, 2) := bd54 (a := 4) (btAt dk08ref4_cX12_bears_0_a 14 rfl)
theorem dX12_bears_30 : decode cX12_bears 30 = .ok (.iconst 0, 1) := bd3 (btAt dk08ref4_cX12_bears_0_a 15 rfl)
theorem dX12_bears_31 : decode cX12_bears 31 = .ok (.istore 5, 2) := bd54 (a := 5) (btAt dk08ref4_cX12_bears_0_a 16 rfl)
theorem dX12_bears_33 : decode cX12_bears 33 = .ok (.iload 5, 2) := bd21 (a := 5) (btAt dk08ref4_cX12_bears_0_a 17 rfl)
theorem dX12_bears_35 : decode cX12_bears 35 = .ok (.bipush 10, 2) := bd16 (a := 10) (btAt dk08ref4_cX12_bears_0_a 18 rfl)
theorem dX12_bears_37 : decode cX12_bears 37 = .ok (.if_icmp .ge 38, 3) := bd162 (a := 0) (b := 38) (btAt dk08ref4_cX12_bears_0_a 19 rfl)
theorem dX12_bears_40 : decode cX12_bears 40 = .ok (.aload_n 0, 1) := bd42 (btAt dk08ref4_cX12_bears_0_a 20 rfl)
theorem dX12_bears_41 : decode cX12_bears 41 = .ok (.getfield 9, 3) := bd180 (a := 0) (b := 9) (btAt dk08ref4_cX12_bears_0_a 21 rfl)
theorem dX12_bears_44 : decode cX12_bears 44 = .ok (.bipush 7, 2) := bd16 (a := 7) (btAt dk08ref4_cX12_bears_0_a 22 rfl)
theorem dX12_bears_46 : decode cX12_bears 46 = .ok (.iload 5, 2) := bd21 (a := 5) (btAt dk08ref4_cX12_bears_0_a 23 rfl)
theorem dX12_bears_48 : decode cX12_bears 48 = .ok (.iastore, 1) := bd79 (btAt dk08ref4_cX12_bears_0_a 24 rfl)
theorem dX12_bears_49 : decode cX12_bears 49 = .ok (.aload_n 0, 1) := bd42 (btAt dk08ref4_cX12_bears_0_a 25 rfl)
theorem dX12_bears_50 : decode cX12_bears 50 = .ok (.iload_n 1, 1) := bd27 (btAt dk08ref4_cX12_bears_0_a 26 rfl)
theorem dX12_bears_51 : decode cX12_bears 51 = .ok (.iload_n 2, 1) := bd28 (btAt dk08ref4_cX12_bears_0_a 27 rfl)
theorem dX12_bears_52 : decode cX12_bears 52 = .ok (.invokevirtual 198, 3) := bd182 (a := 0) (b := 198) (btAt dk08ref4_cX12_bears_0_a 28 rfl)
theorem dX12_bears_55 : decode cX12_bears 55 = .ok (.bipush (-5), 2) := bd16 (a := 251) (btAt dk08ref4_cX12_bears_0_a 29 rfl)
theorem dX12_bears_57 : decode cX12_bears 57 = .ok (.if_icmp .ne 8, 3) := bd160 (a := 0) (b := 8) (btAt dk08ref4_cX12_bears_0_a 30 rfl)
theorem dX12_bears_65 : decode cX12_bears 65 = .ok (.iload 5, 2) := bd21 (a := 5) (btAt dk08ref4_cX12_bears_0_a 31 rfl)
theorem dX12_bears_67 : decode cX12_bears 67 = .ok (.istore 4, 2) := bd54 (a := 4) (btAt dk08ref4_cX12_bears_0_a 32 rfl)
theorem dX12_bears_75 : decode cX12_bears 75 = .ok (.aload_n 0, 1) := bd42 (btAt dk08ref4_cX12_bears_0_a 33 rfl)
theorem dX12_bears_76 : decode cX12_bears 76 = .ok (.getfield 9, 3) := bd180 (a := 0) (b := 9) (btAt dk08ref4_cX12_bears_0_a 34 rfl)
theorem dX12_bears_79 : decode cX12_bears 79 = .ok (.bipush 7, 2) := bd16 (a := 7) (btAt dk08ref4_cX12_bears_0_a 35 rfl)
theorem dX12_bears_81 : decode cX12_bears 81 = .ok (.iload_n 3, 1) := bd29 (btAt dk08ref4_cX12_bears_0_a 36 rfl)
theorem dX12_bears_82 : decode cX12_bears 82 = .ok (.iastore, 1) := bd79 (btAt dk08ref4_cX12_bears_0_a 37 rfl)
theorem dX12_bears_83 : decode cX12_bears 83 = .ok (.iload 4, 2) := bd21 (a := 4) (btAt dk08ref4_cX12_bears_0_a 38 rfl)
theorem dX12_bears_85 : decode cX12_bears 85 = .ok (.ireturn, 1) := bd172 (btAt dk08ref4_cX12_bears_0_a 39 rfl)
noncomputable def dk08ref4_cX12_bears_40 : List (Nat × List Nat) := [(16, [2]), (17, [172]), (60, [21, 4]), (62, [167, 0, 5]), (69, [132, 5, 1]), (72, [167, 255, 217])]
set_option maxRecDepth 100000 in
theorem dk08ref4_cX12_bears_40_a : btA cX12_bears dk08ref4_cX12_bears_40 = true := by decide +kernel
theorem dX12_bears_16 : decode cX12_bears 16 = .ok (.iconst (-1), 1) := bd2 (btAt dk08ref4_cX12_bears_40_a 0 rfl)
theorem dX12_bears_17 : decode cX12_bears 17 = .ok (.ireturn, 1) := bd172 (btAt dk08ref4_cX12_bears_40_a 1 rfl)
theorem dX12_bears_60 : decode cX12_bears 60 = .ok (.iload 4, 2) := bd21 (a := 4) (btAt dk08ref4_cX12_bears_40_a 2 rfl)
theorem dX12_bears_62 : decode cX12_bears 62 = .ok (.goto 5, 3) := bd167 (a := 0) (b := 5) (btAt dk08ref4_cX12_bears_40_a 3 rfl)
theorem dX12_bears_69 : decode cX12_bears 69 = .ok (.iinc 5 1, 3) := bd132 (a := 5) (b := 1) (btAt dk08ref4_cX12_bears_40_a 4 rfl)
theorem dX12_bears_72 : decode cX12_bears 72 = .ok (.goto (-39), 3) := bd167 (a := 255) (b := 217) (btAt dk08ref4_cX12_bears_40_a 5 rfl)
noncomputable def dk08ref4_cX12_build_0 : List (Nat × List Nat) := [(0, [42]), (1, [27]), (2, [182, 0, 164]), (5, [153, 0, 20]), (8, [42]), (9, [28]), (10, [182, 0, 164]), (13, [153, 0, 12]), (16, [29]), (17, [3]), (18, [4]), (19, [184, 0, 45]), (22, [154, 0, 5]), (27, [42]), (28, [180, 0, 9]), (31, [3]), (32, [46]), (33, [16, 8]), (35, [160, 0, 6]), (41, [42]), (42, [27]), (43, [28]), (44, [182, 0, 198]), (47, [54, 4]), (49, [16, 251]), (51, [54, 5]), (53, [3]), (54, [54, 6]), (56, [21, 6]), (58, [16, 36]), (60, [162, 0, 102]), (162, [21, 5]), (164, [16, 251]), (166, [159, 0, 7]), (169, [29]), (170, [154, 0, 8]), (173, [21, 5]), (175, [167, 0, 5]), (178, [21, 4]), (180, [172])]
set_option maxRecDepth 100000 in
theorem dk08ref4_cX12_build_0_a : btA cX12_build dk08ref4_cX12_build_0 = true := by decide +kernel
theorem dX12_build_0 : decode cX12_build 0 = .ok (.aload_n 0, 1) := bd42 (btAt dk08ref4_cX12_build_0_a 0 rfl)
theorem dX12_build_1 : decode cX12_build 1 = .ok (.iload_n 1, 1) := bd27 (btAt dk08ref4_cX12_build_0_a 1 rfl)
theorem dX12_build_2 : decode cX12_build 2 = .ok (.invokevirtual 164, 3) := bd182 (a := 0) (b := 164) (btAt dk08ref4_cX12_build_0_a 2 rfl)
theorem dX12_build_5 : decode cX12_build 5 = .ok (.ifCond .eq 20, 3) := bd153 (a := 0) (b := 20) (btAt dk08ref4_cX12_build_0_a 3 rfl)
theorem dX12_build_8 : decode cX12_build 8 = .ok (.aload_n 0, 1) := bd42 (btAt dk08ref4_cX12_build_0_a 4 rfl)
theorem dX12_build_9 : decode cX12_build 9 = .ok (.iload_n 2, 1) := bd28 (btAt dk08ref4_cX12_build_0_a 5 rfl)
theorem dX12_build_10 : decode cX12_build 10 = .ok (.invokevirtual 164, 3) := bd182 (a := 0) (b := 164) (btAt dk08ref4_cX12_build_0_a 6 rfl)
theorem dX12_build_13 : decode cX12_build 13 = .ok (.ifCond .eq 12, 3) := bd153 (a := 0) (b := 12) (btAt dk08ref4_cX12_build_0_a 7 rfl)
theorem dX12_build_16 : decode cX12_build 16 = .ok (.iload_n 3, 1) := bd29 (btAt dk08ref4_cX12_build_0_a 8 rfl)
theorem dX12_build_17 : decode cX12_build 17 = .ok (.iconst 0, 1) := bd3 (btAt dk08ref4_cX12_build_0_a 9 rfl)
theorem dX12_build_18 : decode cX12_build 18 = .ok (.iconst 1, 1) := bd4 (btAt dk08ref4_cX12_build_0_a 10 rfl)
theorem dX12_build_19 : decode cX12_build 19 = .ok (.invokestatic 45, 3) := bd184 (a := 0) (b := 45) (btAt dk08ref4_cX12_build_0_a 11 rfl)
theorem dX12_build_22 : decode cX12_build 22 = .ok (.ifCond .ne 5, 3) := bd154 (a := 0) (b := 5) (btAt dk08ref4_cX12_build_0_a 12 rfl)
theorem dX12_build_27 : decode cX12_build 27 = .ok (.aload_n 0, 1) := bd42 (btAt dk08ref4_cX12_build_0_a 13 rfl)
theorem dX12_build_28 : decode cX12_build 28 = .ok (.getfield 9, 3) := bd180 (a := 0) (b := 9) (btAt dk08ref4_cX12_build_0_a 14 rfl)
theorem dX12_build_31 : decode cX12_build 31 = .ok (.iconst 0, 1) := bd3 (btAt dk08ref4_cX12_build_0_a 15 rfl)
theorem dX12_build_32 : decode cX12_build 32 = .ok (.iaload, 1) := bd46 (btAt dk08ref4_cX12_build_0_a 16 rfl)
theorem dX12_build_33 : decode cX12_build 33 = .ok (.bipush 8, 2) := bd16 (a := 8) (btAt dk08ref4_cX12_build_0_a 17 rfl)
theorem dX12_build_35 : decode cX12_build 35 = .ok (.if_icmp .ne 6, 3) := bd160 (a := 0) (b := 6) (btAt dk08ref4_cX12_build_0_a 18 rfl)
theorem dX12_build_41 : decode cX12_build 41 = .ok (.aload_n 0, 1) := bd42 (btAt dk08ref4_cX12_build_0_a 19 rfl)
theorem dX12_build_42 : decode cX12_build 42 = .ok (.iload_n 1, 1) := bd27 (btAt dk08ref4_cX12_build_0_a 20 rfl)
theorem dX12_build_43 : decode cX12_build 43 = .ok (.iload_n 2, 1) := bd28 (btAt dk08ref4_cX12_build_0_a 21 rfl)
theorem dX12_build_44 : decode cX12_build 44 = .ok (.invokevirtual 198, 3) := bd182 (a := 0) (b := 198) (btAt dk08ref4_cX12_build_0_a 22 rfl)
theorem dX12_build_47 : decode cX12_build 47 = .ok (.istore 4, 2) := bd54 (a := 4) (btAt dk08ref4_cX12_build_0_a 23 rfl)
theorem dX12_build_49 : decode cX12_build 49 = .ok (.bipush (-5), 2) := bd16 (a := 251) (btAt dk08ref4_cX12_build_0_a 24 rfl)
theorem dX12_build_51 : decode cX12_build 51 = .ok (.istore 5, 2) := bd54 (a := 5) (btAt dk08ref4_cX12_build_0_a 25 rfl)
theorem dX12_build_53 : decode cX12_build 53 = .ok (.iconst 0, 1) := bd3 (btAt dk08ref4_cX12_build_0_a 26 rfl)
theorem dX12_build_54 : decode cX12_build 54 = .ok (.istore 6, 2) := bd54 (a := 6) (btAt dk08ref4_cX12_build_0_a 27 rfl)
theorem dX12_build_56 : decode cX12_build 56 = .ok (.iload 6, 2) := bd21 (a := 6) (btAt dk08ref4_cX12_build_0_a 28 rfl)
theorem dX12_build_58 : decode cX12_build 58 = .ok (.bipush 36, 2) := bd16 (a := 36) (btAt dk08ref4_cX12_build_0_a 29 rfl)
theorem dX12_build_60 : decode cX12_build 60 = .ok (.if_icmp .ge 102, 3) := bd162 (a := 0) (b := 102) (btAt dk08ref4_cX12_build_0_a 30 rfl)
theorem dX12_build_162 : decode cX12_build 162 = .ok (.iload 5, 2) := bd21 (a := 5) (btAt dk08ref4_cX12_build_0_a 31 rfl)
theorem dX12_build_164 : decode cX12_build 164 = .ok (.bipush (-5), 2) := bd16 (a := 251) (btAt dk08ref4_cX12_build_0_a 32 rfl)
theorem dX12_build_166 : decode cX12_build 166 = .ok (.if_icmp .eq 7, 3) := bd159 (a := 0) (b := 7) (btAt dk08ref4_cX12_build_0_a 33 rfl)
theorem dX12_build_169 : decode cX12_build 169 = .ok (.iload_n 3, 1) := bd29 (btAt dk08ref4_cX12_build_0_a 34 rfl)
theorem dX12_build_170 : decode cX12_build 170 = .ok (.ifCond .ne 8, 3) := bd154 (a := 0) (b := 8) (btAt dk08ref4_cX12_build_0_a 35 rfl)
theorem dX12_build_173 : decode cX12_build 173 = .ok (.iload 5, 2) := bd21 (a := 5) (btAt dk08ref4_cX12_build_0_a 36 rfl)
theorem dX12_build_175 : decode cX12_build 175 = .ok (.goto 5, 3) := bd167 (a := 0) (b := 5) (btAt dk08ref4_cX12_build_0_a 37 rfl)
theorem dX12_build_178 : decode cX12_build 178 = .ok (.iload 4, 2) := bd21 (a := 4) (btAt dk08ref4_cX12_build_0_a 38 rfl)
theorem dX12_build_180 : decode cX12_build 180 = .ok (.ireturn, 1) := bd172 (btAt dk08ref4_cX12_build_0_a 39 rfl)
noncomputable def dk08ref4_cX12_build_40 : List (Nat × List Nat) := [(63, [42]), (64, [21, 6]), (66, [182, 0, 153]), (69, [2]), (70, [160, 0, 86]), (73, [42]), (74, [3]), (75, [3]), (76, [21, 6]), (78, [182, 0, 156]), (81, [87]), (82, [42]), (83, [27]), (84, [28]), (85, [182, 0, 198]), (88, [54, 7]), (90, [42]), (91, [180, 0, 9]), (94, [3]), (95, [92]), (96, [46]), (97, [4]), (98, [100]), (99, [79]), (100, [21, 7]), (102, [16, 251]), (104, [159, 0, 21]), (107, [21, 4]), (125, [3]), (126, [54, 8]), (128, [21, 8]), (130, [153, 0, 8]), (138, [21, 5]), (140, [54, 5]), (142, [21, 8]), (144, [153, 0, 8]), (152, [21, 4]), (154, [54, 4]), (156, [132, 6, 1]), (159, [167, 255, 153])]
set_option maxRecDepth 100000 in
theorem dk08ref4_cX12_build_40_a : btA cX12_build dk08ref4_cX12_build_40 = true := by decide +kernel
theorem dX12_build_63 : decode cX12_build 63 = .ok (.aload_n 0, 1) := bd42 (btAt dk08ref4_cX12_build_40_a 0 rfl)
theorem dX12_build_64 : decode cX12_build 64 = .ok (.iload 6, 2) := bd21 (a := 6) (btAt dk08ref4_cX12_build_40_a 1 rfl)
theorem dX12_build_66 : decode cX12_build 66 = .ok (.invokevirtual 153, 3) := bd182 (a := 0) (b := 153) (btAt dk08ref4_cX12_build_40_a 2 rfl)
theorem dX12_build_69 : decode cX12_build 69 = .ok (.iconst (-1), 1) := bd2 (btAt dk08ref4_cX12_build_40_a 3 rfl)
theorem dX12_build_70 : decode cX12_build 70 = .ok (.if_icmp .ne 86, 3) := bd160 (a := 0) (b := 86) (btAt dk08ref4_cX12_build_40_a 4 rfl)
theorem dX12_build_73 : decode cX12_build 73 = .ok (.aload_n 0, 1) := bd42 (btAt dk08ref4_cX12_build_40_a 5 rfl)
theorem dX12_build_74 : decode cX12_build 74 = .ok (.iconst 0, 1) := bd3 (btAt dk08ref4_cX12_build_40_a 6 rfl)
theorem dX12_build_75 : decode cX12_build 75 = .ok (.iconst 0, 1) := bd3 (btAt dk08ref4_cX12_build_40_a 7 rfl)
theorem dX12_build_76 : decode cX12_build 76 = .ok (.iload 6, 2) := bd21 (a := 6) (btAt dk08ref4_cX12_build_40_a 8 rfl)
theorem dX12_build_78 : decode cX12_build 78 = .ok (.invokevirtual 156, 3) := bd182 (a := 0) (b := 156) (btAt dk08ref4_cX12_build_40_a 9 rfl)
theorem dX12_build_81 : decode cX12_build 81 = .ok (.pop, 1) := bd87 (btAt dk08ref4_cX12_build_40_a 10 rfl)
theorem dX12_build_82 : decode cX12_build 82 = .ok (.aload_n 0, 1) := bd42 (btAt dk08ref4_cX12_build_40_a 11 rfl)
theorem dX12_build_83 : decode cX12_build 83 = .ok (.iload_n 1, 1) := bd27 (btAt dk08ref4_cX12_build_40_a 12 rfl)
theorem dX12_build_84 : decode cX12_build 84 = .ok (.iload_n 2, 1) := bd28 (btAt dk08ref4_cX12_build_40_a 13 rfl)
theorem dX12_build_85 : decode cX12_build 85 = .ok (.invokevirtual 198, 3) := bd182 (a := 0) (b := 198) (btAt dk08ref4_cX12_build_40_a 14 rfl)
theorem dX12_build_88 : decode cX12_build 88 = .ok (.istore 7, 2) := bd54 (a := 7) (btAt dk08ref4_cX12_build_40_a 15 rfl)
theorem dX12_build_90 : decode cX12_build 90 = .ok (.aload_n 0, 1) := bd42 (btAt dk08ref4_cX12_build_40_a 16 rfl)
theorem dX12_build_91 : decode cX12_build 91 = .ok (.getfield 9, 3) := bd180 (a := 0) (b := 9) (btAt dk08ref4_cX12_build_40_a 17 rfl)
theorem dX12_build_94 : decode cX12_build 94 = .ok (.iconst 0, 1) := bd3 (btAt dk08ref4_cX12_build_40_a 18 rfl)
theorem dX12_build_95 : decode cX12_build 95 = .ok (.dup2, 1) := bd92 (btAt dk08ref4_cX12_build_40_a 19 rfl)
theorem dX12_build_96 : decode cX12_build 96 = .ok (.iaload, 1) := bd46 (btAt dk08ref4_cX12_build_40_a 20 rfl)
theorem dX12_build_97 : decode cX12_build 97 = .ok (.iconst 1, 1) := bd4 (btAt dk08ref4_cX12_build_40_a 21 rfl)
theorem dX12_build_98 : decode cX12_build 98 = .ok (.isub, 1) := bd100 (btAt dk08ref4_cX12_build_40_a 22 rfl)
theorem dX12_build_99 : decode cX12_build 99 = .ok (.iastore, 1) := bd79 (btAt dk08ref4_cX12_build_40_a 23 rfl)
theorem dX12_build_100 : decode cX12_build 100 = .ok (.iload 7, 2) := bd21 (a := 7) (btAt dk08ref4_cX12_build_40_a 24 rfl)
theorem dX12_build_102 : decode cX12_build 102 = .ok (.bipush (-5), 2) := bd16 (a := 251) (btAt dk08ref4_cX12_build_40_a 25 rfl)
theorem dX12_build_104 : decode cX12_build 104 = .ok (.if_icmp .eq 21, 3) := bd159 (a := 0) (b := 21) (btAt dk08ref4_cX12_build_40_a 26 rfl)
theorem dX12_build_107 : decode cX12_build 107 = .ok (.iload 4, 2) := bd21 (a := 4) (btAt dk08ref4_cX12_build_40_a 27 rfl)
theorem dX12_build_125 : decode cX12_build 125 = .ok (.iconst 0, 1) := bd3 (btAt dk08ref4_cX12_build_40_a 28 rfl)
theorem dX12_build_126 : decode cX12_build 126 = .ok (.istore 8, 2) := bd54 (a := 8) (btAt dk08ref4_cX12_build_40_a 29 rfl)
theorem dX12_build_128 : decode cX12_build 128 = .ok (.iload 8, 2) := bd21 (a := 8) (btAt dk08ref4_cX12_build_40_a 30 rfl)
theorem dX12_build_130 : decode cX12_build 130 = .ok (.ifCond .eq 8, 3) := bd153 (a := 0) (b := 8) (btAt dk08ref4_cX12_build_40_a 31 rfl)
theorem dX12_build_138 : decode cX12_build 138 = .ok (.iload 5, 2) := bd21 (a := 5) (btAt dk08ref4_cX12_build_40_a 32 rfl)
theorem dX12_build_140 : decode cX12_build 140 = .ok (.istore 5, 2) := bd54 (a := 5) (btAt dk08ref4_cX12_build_40_a 33 rfl)
theorem dX12_build_142 : decode cX12_build 142 = .ok (.iload 8, 2) := bd21 (a := 8) (btAt dk08ref4_cX12_build_40_a 34 rfl)
theorem dX12_build_144 : decode cX12_build 144 = .ok (.ifCond .eq 8, 3) := bd153 (a := 0) (b := 8) (btAt dk08ref4_cX12_build_40_a 35 rfl)
theorem dX12_build_152 : decode cX12_build 152 = .ok (.iload 4, 2) := bd21 (a := 4) (btAt dk08ref4_cX12_build_40_a 36 rfl)
theorem dX12_build_154 : decode cX12_build 154 = .ok (.istore 4, 2) := bd54 (a := 4) (btAt dk08ref4_cX12_build_40_a 37 rfl)
theorem dX12_build_156 : decode cX12_build 156 = .ok (.iinc 6 1, 3) := bd132 (a := 6) (b := 1) (btAt dk08ref4_cX12_build_40_a 38 rfl)
theorem dX12_build_159 : decode cX12_build 159 = .ok (.goto (-103), 3) := bd167 (a := 255) (b := 153) (btAt dk08ref4_cX12_build_40_a 39 rfl)
noncomputable def dk08ref4_cX12_build_80 : List (Nat × List Nat) := [(25, [2]), (26, [172]), (38, [16, 251]), (40, [172]), (109, [16, 251]), (111, [159, 0, 10]), (114, [21, 7]), (116, [21, 4]), (118, [162, 0, 7]), (121, [4]), (122, [167, 0, 4]), (133, [21, 6]), (135, [167, 0, 5]), (147, [21, 7]), (149, [167, 0, 5])]
set_option maxRecDepth 100000 in
theorem dk08ref4_cX12_build_80_a : btA cX12_build dk08ref4_cX12_build_80 = true := by decide +kernel
theorem dX12_build_25 : decode cX12_build 25 = .ok (.iconst (-1), 1) := bd2 (btAt dk08ref4_cX12_build_80_a 0 rfl)
theorem dX12_build_26 : decode cX12_build 26 = .ok (.ireturn, 1) := bd172 (btAt dk08ref4_cX12_build_80_a 1 rfl)
theorem dX12_build_38 : decode cX12_build 38 = .ok (.bipush (-5), 2) := bd16 (a := 251) (btAt dk08ref4_cX12_build_80_a 2 rfl)
theorem dX12_build_40 : decode cX12_build 40 = .ok (.ireturn, 1) := bd172 (btAt dk08ref4_cX12_build_80_a 3 rfl)
theorem dX12_build_109 : decode cX12_build 109 = .ok (.bipush (-5), 2) := bd16 (a := 251) (btAt dk08ref4_cX12_build_80_a 4 rfl)
theorem dX12_build_111 : decode cX12_build 111 = .ok (.if_icmp .eq 10, 3) := bd159 (a := 0) (b := 10) (btAt dk08ref4_cX12_build_80_a 5 rfl)
theorem dX12_build_114 : decode cX12_build 114 = .ok (.iload 7, 2) := bd21 (a := 7) (btAt dk08ref4_cX12_build_80_a 6 rfl)
theorem dX12_build_116 : decode cX12_build 116 = .ok (.iload 4, 2) := bd21 (a := 4) (btAt dk08ref4_cX12_build_80_a 7 rfl)
theorem dX12_build_118 : decode cX12_build 118 = .ok (.if_icmp .ge 7, 3) := bd162 (a := 0) (b := 7) (btAt dk08ref4_cX12_build_80_a 8 rfl)
theorem dX12_build_121 : decode cX12_build 121 = .ok (.iconst 1, 1) := bd4 (btAt dk08ref4_cX12_build_80_a 9 rfl)
theorem dX12_build_122 : decode cX12_build 122 = .ok (.goto 4, 3) := bd167 (a := 0) (b := 4) (btAt dk08ref4_cX12_build_80_a 10 rfl)
theorem dX12_build_133 : decode cX12_build 133 = .ok (.iload 6, 2) := bd21 (a := 6) (btAt dk08ref4_cX12_build_80_a 11 rfl)
theorem dX12_build_135 : decode cX12_build 135 = .ok (.goto 5, 3) := bd167 (a := 0) (b := 5) (btAt dk08ref4_cX12_build_80_a 12 rfl)
theorem dX12_build_147 : decode cX12_build 147 = .ok (.iload 7, 2) := bd21 (a := 7) (btAt dk08ref4_cX12_build_80_a 13 rfl)
theorem dX12_build_149 : decode cX12_build 149 = .ok (.goto 5, 3) := bd167 (a := 0) (b := 5) (btAt dk08ref4_cX12_build_80_a 14 rfl)
theorem kc_heapOn_0 : ∀ w ∈ wsX120, w ∈ wsX12_heapOn := fun w h => List.mem_cons_of_mem _ (gin_wsX120 w h)
theorem kc_heapOn_1 : (.fieldLink RX12 9 "MistHeapsModel" "s" "[I" : Cond) ∈ wsX12_heapOn := kc_of 1141 rfl rfl rfl
set_option maxHeartbeats 4000000 in
set_option maxRecDepth 100000 in
theorem c_heapOn (l : Launch) (dC : Nat → ClassId) (dI : Nat → Nat → Nat) (m0 aS aI aB aT aG aO aN aD aY : Nat) (th im ac sp en wg op se dn rn kd nu tv : Int32) (bv : Int64) (cS : ClassId) (fS : Nat → Int32) (n : Nat) (yc : Nat → Int32) (x : Int32) (zn : fS 0 = nI n) (hn : n ≤ 8) (zc : ∀ k, k < n → fS (28 + k) = yc k) : Met l yX12_heapOn wsX12_heapOn ({ frames := 0, cells := 0, slots := 0, locals := 0 } : Room) (va_Pc [.ref m0, .int x] (fun U => va_P (dC, dI) vwCl [(zo14irriiiiiirriirrrrlriiii m0 th aS aI im ac sp en wg op aB aT se dn aG aO aN aD bv aY rn kd nu tv), (zaI aS cS 901 fS)] U.heap ∧ va_K (dC, dI) vwCl [(cS, .int)] U)) (vp_Si (fun r => hoI yc x n r)) 0 0 (fun _ => False) := by
  refine met_ofQ (cc := cX12_heapOn) (maxL := 4) (ret := (some .int)) (by decide) rfl ?_
  intro p e s m args below meth c s₁ Q B hml hv hQ
  obtain ⟨rfl, hP, hK⟩ := hv
  have hx := B.exec
  have hb := B.bytes
  have hr := B.returns
  have hts := atoms_spec (ws := wsX12_heapOn) B.pre
  have hown : s.vm.findClass RX12 = some m.cls := findClass_of_methodNamed B.named
  have hlocks := B.notSynchronized
  obtain ⟨A, hAe⟩ : ∃ A : Nat → Prop, A = fun _ => False := ⟨_, rfl⟩
  rw [← hAe] at hQ
  have hS : va_S A s.heap s.heap [] := va_S.rf
  have hl := lv_entry [.ref m0, .int x] (n := 4) (Nat.le_of_ble_eq_true rfl)
  rw [lg_entry_eq]
  generalize (lg_sl [.ref m0, .int x] ++ List.replicate (4 - (lg_sl [.ref m0, .int x]).length) Slot.unset).toArray = ls at hl ⊢
  generalize hag : ([.ref m0, .int x] : List Value).toArray = args at hts hQ ⊢
  have hl : lv_has ls 4 [(0, .ref m0), (1, .int x)] := hl
  refine lv_iconst (v := (-1)) hx hb dX12_heapOn_0 (by decide) ?_
  refine lv_istore_n (lv' := [(2, .int (-1)), (0, .ref m0), (1, .int x)]) hx hb dX12_heapOn_1 rfl hl (by decide) rfl (fun ls hl => ?_)
  refine lv_iconst (v := 0) hx hb dX12_heapOn_2 (by decide) ?_
  refine lv_istore_n (lv' := [(3, .int 0), (2, .int (-1)), (0, .ref m0), (1, .int x)]) hx hb dX12_heapOn_3 rfl hl (by decide) rfl (fun ls hl => ?_)
  have L4 : ∀ (nF : Nat) (i : Nat) (q : Int32), n - i < nF → (i ≤ n) → (hoI yc x i q) → ∀ (ls : Array Slot), lv_has ls 4 [(0, .ref m0), (1, .int x), (2, .int q), (3, .int (nI i))] → W p l e ({ frames := 0, cells := 0, slots := 0, locals := 0 } : Room) s m args below meth c s.heap [] 0 0 Q (F0 m 4 ls []) := by
    intro nF
    induction nF with
    | zero => intro i q hm; exact absurd hm (Nat.not_lt_zero _)
    | succ nF ih4 =>
      intro i q hm hi hq9 ls hl
      refine lv_iload_n hx hb dX12_heapOn_4 rfl (lv_at hl 3 rfl) ?_
      refine lv_aload_n hx hb dX12_heapOn_5 rfl (lv_at hl 0 rfl) ?_
      refine va_get (D := (dC, dI)) (ci := 14) (v := .ref aS) (C := RX12) (T := TX12) (N := 23) hx hb hts kc_heapOn_0 hown hK hP 0 rfl rfl 1 (by decide) (hts (.fieldLink RX12 9 "MistHeapsModel" "s" "[I") kc_heapOn_1) (fun _ h9 => h9) rfl dX12_heapOn_6 ?_
      refine lv_iconst (v := 0) hx hb dX12_heapOn_9 (by decide) ?_
      refine va_iald hx hb hK hP 1 0 rfl rfl (vp_in_nI (n := 0) (N := 901) (by omega) (by omega)) dX12_heapOn_10 ?_
      refine qi_as (y := nI n) ((show fS (0 : Int32).toNatClampNeg = fS 0 from rfl).trans (zn)) ?_
      refine lv_icmp_ge (tgt := 39) hx hb dX12_heapOn_11 (by decide) (fun c_1 => ?_) (fun c_1 => ?_)
      · skip
        have c_1 : n ≤ i := (nI_leI (a := n) (b := i) (by omega) (by omega)).mp c_1
        refine lv_iload_n hx hb dX12_heapOn_39 rfl (lv_at hl 2 rfl) ?_
        rw [hQ]
        exact W.iret (v := q) hx hb hr (fun tQ htQ hWQ => ⟨q, rfl, ho_end (by omega) hi hq9, by rw [htQ]⟩) (fun q hq => absurd hq List.not_mem_nil) dX12_heapOn_40
      · skip
        have c_1 : ¬ n ≤ i := fun q => c_1 ((nI_leI (a := n) (b := i) (by omega) (by omega)).mpr q)
        refine lv_aload_n hx hb dX12_heapOn_14 rfl (lv_at hl 0 rfl) ?_
        refine va_get (D := (dC, dI)) (ci := 14) (v := .ref aS) (C := RX12) (T := TX12) (N := 23) hx hb hts kc_heapOn_0 hown hK hP 0 rfl rfl 1 (by decide) (hts (.fieldLink RX12 9 "MistHeapsModel" "s" "[I") kc_heapOn_1) (fun _ h9 => h9) rfl dX12_heapOn_15 ?_
        refine lv_bipush (v := 28) hx hb dX12_heapOn_18 (by decide) ?_
        refine lv_iload_n hx hb dX12_heapOn_20 rfl (lv_at hl 3 rfl) ?_
        refine lv_iadd hx hb dX12_heapOn_21 ?_
        refine qi_as (y := nI (28 + i)) (nI_add 28 i) ?_
        refine va_iald hx hb hK hP 1 0 rfl rfl (vp_in_nI (n := 28 + i) (N := 901) (by omega) (by omega)) dX12_heapOn_22 ?_
        refine qi_as (y := yc i) ((show fS (nI (28 + i) : Int32).toNatClampNeg = fS (28 + i) from by rw [nI_clamp (by omega)]).trans (zc i (by omega))) ?_
        refine lv_iload_n hx hb dX12_heapOn_23 rfl (lv_at hl 1 rfl) ?_
        refine lv_icmp_ne (tgt := 31) hx hb dX12_heapOn_24 (by decide) (fun c_2 => ?_) (fun c_2 => ?_)
        · skip
          refine lv_iload_n hx hb dX12_heapOn_31 rfl (lv_at hl 2 rfl) ?_
          refine lv_istore_n (lv' := [(2, .int q), (0, .ref m0), (1, .int x), (3, .int (nI i))]) hx hb dX12_heapOn_32 rfl hl (by decide) rfl (fun ls hl => ?_)
          refine lv_iinc (v := nI (i + 1)) (lv' := [(3, .int (nI (i + 1))), (2, .int q), (0, .ref m0), (1, .int x)]) hx hb dX12_heapOn_33 hl (k := 3) rfl (nI_add i 1) (by decide) rfl (fun ls hl => ?_)
          refine lv_goto (tgt := 4) hx hb dX12_heapOn_36 (by decide) ?_
          exact ih4 (i + 1) _ (by omega) (by omega) (ho_miss hq9 c_2) ls (lv_sub hl [2, 3, 1, 0] rfl)
        · skip
          refine lv_iload_n hx hb dX12_heapOn_27 rfl (lv_at hl 3 rfl) ?_
          refine lv_goto (tgt := 32) hx hb dX12_heapOn_28 (by decide) ?_
          refine lv_istore_n (lv' := [(2, .int (nI i)), (0, .ref m0), (1, .int x), (3, .int (nI i))]) hx hb dX12_heapOn_32 rfl hl (by decide) rfl (fun ls hl => ?_)
          refine lv_iinc (v := nI (i + 1)) (lv' := [(3, .int (nI (i + 1))), (2, .int (nI i)), (0, .ref m0), (1, .int x)]) hx hb dX12_heapOn_33 hl (k := 3) rfl (nI_add i 1) (by decide) rfl (fun ls hl => ?_)
          refine lv_goto (tgt := 4) hx hb dX12_heapOn_36 (by decide) ?_
          exact ih4 (i + 1) _ (by omega) (by omega) (ho_hit (by omega) c_2) ls (lv_sub hl [2, 3, 1, 0] rfl)
  exact L4 _ (0) ((-1)) (Nat.lt_succ_self _) (by omega) (ho_0) ls (lv_sub hl [2, 3, 1, 0] rfl)

theorem kc_puts_0 : ∀ w ∈ wsX120, w ∈ wsX12_puts := fun w h => List.mem_cons_of_mem _ (gin_wsX120 w h)
theorem kc_puts_1 : (.fieldLink RX12 9 "MistHeapsModel" "s" "[I" : Cond) ∈ wsX12_puts := kc_of 1141 rfl rfl rfl
set_option maxHeartbeats 4000000 in
set_option maxRecDepth 100000 in
theorem c_puts (l : Launch) (dC : Nat → ClassId) (dI : Nat → Nat → Nat) (m0 aS aI aB aT aG aO aN aD aY : Nat) (th im ac sp en wg op se dn rn kd nu tv : Int32) (bv : Int64) (cS : ClassId) (fS : Nat → Int32) (n : Nat) (x y z : Int32) (sz : Nat) (zn : fS 0 = nI n) (hn : n ≤ 8) : Met l yX12_puts wsX12_puts ({ frames := 0, cells := 0, slots := 0, locals := 0 } : Room) (va_Pc [.ref m0, .int x, .int y, .int z] (fun U => U.heap.size = sz ∧ va_P (dC, dI) vwCl [(zo14irriiiiiirriirrrrlriiii m0 th aS aI im ac sp en wg op aB aT se dn aG aO aN aD bv aY rn kd nu tv), (zaI aS cS 901 fS)] U.heap ∧ va_K (dC, dI) vwCl [(cS, .int)] U ∧ va_D (fun _ => True) [(zo14irriiiiiirriirrrrlriiii m0 th aS aI im ac sp en wg op aB aT se dn aG aO aN aD bv aY rn kd nu tv), (zaI aS cS 901 fS)])) (va_Qi (fun (r : Int32) (u : Nat → Int32) => match u with | fS9 => r = nI n ∧ fS9 = upd (upd (upd (upd fS (10 + n) x) (19 + n) y) (28 + n) z) 0 (nI (n + 1))) (fun (u : Nat → Int32) (t : State) => match u with | fS9 => va_P (dC, dI) vwCl [(zo14irriiiiiirriirrrrlriiii m0 th aS aI im ac sp en wg op aB aT se dn aG aO aN aD bv aY rn kd nu tv), (zaI aS cS 901 fS9)] t.heap ∧ va_K (dC, dI) vwCl [(cS, .int)] t ∧ va_D (va_A [(zo14irriiiiiirriirrrrlriiii m0 th aS aI im ac sp en wg op aB aT se dn aG aO aN aD bv aY rn kd nu tv), (zaI aS cS 901 fS)] sz) [(zo14irriiiiiirriirrrrlriiii m0 th aS aI im ac sp en wg op aB aT se dn aG aO aN aD bv aY rn kd nu tv), (zaI aS cS 901 fS9)]) (va_A [(zo14irriiiiiirriirrrrlriiii m0 th aS aI im ac sp en wg op aB aT se dn aG aO aN aD bv aY rn kd nu tv), (zaI aS cS 901 fS)] sz)) 0 0 (va_A [(zo14irriiiiiirriirrrrlriiii m0 th aS aI im ac sp en wg op aB aT se dn aG aO aN aD bv aY rn kd nu tv), (zaI aS cS 901 fS)] sz) := by
  refine met_ofQ (cc := cX12_puts) (maxL := 5) (ret := (some .int)) (by decide) rfl ?_
  intro p e s m args below meth c s₁ Q B hml hv hQ
  obtain ⟨rfl, hsz, hP, hK, hD0⟩ := hv
  have hx := B.exec
  have hb := B.bytes
  have hr := B.returns
  have hts := atoms_spec (ws := wsX12_puts) B.pre
  have hown : s.vm.findClass RX12 = some m.cls := findClass_of_methodNamed B.named
  have hlocks := B.notSynchronized
  subst hsz
  have hD := hD0.self (sz := s.heap.size)
  generalize hAe : va_A [(zo14irriiiiiirriirrrrlriiii m0 th aS aI im ac sp en wg op aB aT se dn aG aO aN aD bv aY rn kd nu tv), (zaI aS cS 901 fS)] s.heap.size = A at hD hQ ⊢
  have hA : ∀ q : Nat, s.heap.size ≤ q → A q := fun q h => by rw [← hAe]; exact Or.inr h
  have hS : va_S A s.heap s.heap [] := va_S.rf
  have hl := lv_entry [.ref m0, .int x, .int y, .int z] (n := 5) (Nat.le_of_ble_eq_true rfl)
  rw [lg_entry_eq]
  generalize (lg_sl [.ref m0, .int x, .int y, .int z] ++ List.replicate (5 - (lg_sl [.ref m0, .int x, .int y, .int z]).length) Slot.unset).toArray = ls at hl ⊢
  generalize hag : ([.ref m0, .int x, .int y, .int z] : List Value).toArray = args at hts hQ ⊢
  have hl : lv_has ls 5 [(0, .ref m0), (1, .int x), (2, .int y), (3, .int z)] := hl
  obtain ⟨H, hH⟩ : ∃ H : Heap, H = s.heap := ⟨_, rfl⟩
  rw [← hH] at hP
  rw [← hH]
  have hS : va_S A s.heap H [] := by rw [hH]; exact hS
  obtain ⟨locs, hlo⟩ : ∃ L : List Loc, L = [] := ⟨_, rfl⟩
  rw [← hlo] at hS
  rw [← hlo]
  clear hH hlo
  refine lv_aload_n hx hb dX12_puts_0 rfl (lv_at hl 0 rfl) ?_
  refine va_get (D := (dC, dI)) (ci := 14) (v := .ref aS) (C := RX12) (T := TX12) (N := 23) hx hb hts kc_puts_0 hown hK hP 0 rfl rfl 1 (by decide) (hts (.fieldLink RX12 9 "MistHeapsModel" "s" "[I") kc_puts_1) (fun _ h9 => h9) rfl dX12_puts_1 ?_
  refine lv_iconst (v := 0) hx hb dX12_puts_4 (by decide) ?_
  refine va_iald hx hb hK hP 1 0 rfl rfl (vp_in_nI (n := 0) (N := 901) (by omega) (by omega)) dX12_puts_5 ?_
  refine qi_as (y := nI n) ((show fS (0 : Int32).toNatClampNeg = fS 0 from rfl).trans (zn)) ?_
  refine lv_istore (lv' := [(4, .int (nI n)), (0, .ref m0), (1, .int x), (2, .int y), (3, .int z)]) hx hb dX12_puts_6 hl (by decide) rfl (fun ls hl => ?_)
  refine lv_aload_n hx hb dX12_puts_8 rfl (lv_at hl 1 rfl) ?_
  refine va_get (D := (dC, dI)) (ci := 14) (v := .ref aS) (C := RX12) (T := TX12) (N := 23) hx hb hts kc_puts_0 hown hK hP 0 rfl rfl 1 (by decide) (hts (.fieldLink RX12 9 "MistHeapsModel" "s" "[I") kc_puts_1) (fun _ h9 => h9) rfl dX12_puts_9 ?_
  refine lv_bipush (v := 10) hx hb dX12_puts_12 (by decide) ?_
  refine lv_iload hx hb dX12_puts_14 (lv_at hl 0 rfl) ?_
  refine lv_iadd hx hb dX12_puts_16 ?_
  refine qi_as (y := nI (10 + n)) (nI_add 10 n) ?_
  refine lv_iload_n hx hb dX12_puts_17 rfl (lv_at hl 2 rfl) ?_
  refine va_iast hx hb hK hP hD hS 1 0 rfl rfl (vp_in_nI (n := 10 + n) (N := 901) (by omega) (by omega)) dX12_puts_18 (fun H locs hP hD hS => ?_)
  rw [nI_clamp (n := 10 + n) (by omega)] at hP hD
  have hP : va_P (dC, dI) vwCl [(zo14irriiiiiirriirrrrlriiii m0 th aS aI im ac sp en wg op aB aT se dn aG aO aN aD bv aY rn kd nu tv), (zaI aS cS 901 (upd fS (10 + n) x))] H := hP
  have hD : va_D A [(zo14irriiiiiirriirrrrlriiii m0 th aS aI im ac sp en wg op aB aT se dn aG aO aN aD bv aY rn kd nu tv), (zaI aS cS 901 (upd fS (10 + n) x))] := hD
  refine lv_aload_n hx hb dX12_puts_19 rfl (lv_at hl 1 rfl) ?_
  refine va_get (D := (dC, dI)) (ci := 14) (v := .ref aS) (C := RX12) (T := TX12) (N := 23) hx hb hts kc_puts_0 hown hK hP 0 rfl rfl 1 (by decide) (hts (.fieldLink RX12 9 "MistHeapsModel" "s" "[I") kc_puts_1) (fun _ h9 => h9) rfl dX12_puts_20 ?_
  refine lv_bipush (v := 19) hx hb dX12_puts_23 (by decide) ?_
  refine lv_iload hx hb dX12_puts_25 (lv_at hl 0 rfl) ?_
  refine lv_iadd hx hb dX12_puts_27 ?_
  refine qi_as (y := nI (19 + n)) (nI_add 19 n) ?_
  refine lv_iload_n hx hb dX12_puts_28 rfl (lv_at hl 3 rfl) ?_
  refine va_iast hx hb hK hP hD hS 1 0 rfl rfl (vp_in_nI (n := 19 + n) (N := 901) (by omega) (by omega)) dX12_puts_29 (fun H locs hP hD hS => ?_)
  rw [nI_clamp (n := 19 + n) (by omega)] at hP hD
  have hP : va_P (dC, dI) vwCl [(zo14irriiiiiirriirrrrlriiii m0 th aS aI im ac sp en wg op aB aT se dn aG aO aN aD bv aY rn kd nu tv), (zaI aS cS 901 (upd (upd fS (10 + n) x) (19 + n) y))] H := hP
  have hD : va_D A [(zo14irriiiiiirriirrrrlriiii m0 th aS aI im ac sp en wg op aB aT se dn aG aO aN aD bv aY rn kd nu tv), (zaI aS cS 901 (upd (upd fS (10 + n) x) (19 + n) y))] := hD
  refine lv_aload_n hx hb dX12_puts_30 rfl (lv_at hl 1 rfl) ?_
  refine va_get (D := (dC, dI)) (ci := 14) (v := .ref aS) (C := RX12) (T := TX12) (N := 23) hx hb hts kc_puts_0 hown hK hP 0 rfl rfl 1 (by decide) (hts (.fieldLink RX12 9 "MistHeapsModel" "s" "[I") kc_puts_1) (fun _ h9 => h9) rfl dX12_puts_31 ?_
  refine lv_bipush (v := 28) hx hb dX12_puts_34 (by decide) ?_
  refine lv_iload hx hb dX12_puts_36 (lv_at hl 0 rfl) ?_
  refine lv_iadd hx hb dX12_puts_38 ?_
  refine qi_as (y := nI (28 + n)) (nI_add 28 n) ?_
  refine lv_iload_n hx hb dX12_puts_39 rfl (lv_at hl 4 rfl) ?_
  refine va_iast hx hb hK hP hD hS 1 0 rfl rfl (vp_in_nI (n := 28 + n) (N := 901) (by omega) (by omega)) dX12_puts_40 (fun H locs hP hD hS => ?_)
  rw [nI_clamp (n := 28 + n) (by omega)] at hP hD
  have hP : va_P (dC, dI) vwCl [(zo14irriiiiiirriirrrrlriiii m0 th aS aI im ac sp en wg op aB aT se dn aG aO aN aD bv aY rn kd nu tv), (zaI aS cS 901 (upd (upd (upd fS (10 + n) x) (19 + n) y) (28 + n) z))] H := hP
  have hD : va_D A [(zo14irriiiiiirriirrrrlriiii m0 th aS aI im ac sp en wg op aB aT se dn aG aO aN aD bv aY rn kd nu tv), (zaI aS cS 901 (upd (upd (upd fS (10 + n) x) (19 + n) y) (28 + n) z))] := hD
  refine lv_aload_n hx hb dX12_puts_41 rfl (lv_at hl 1 rfl) ?_
  refine va_get (D := (dC, dI)) (ci := 14) (v := .ref aS) (C := RX12) (T := TX12) (N := 23) hx hb hts kc_puts_0 hown hK hP 0 rfl rfl 1 (by decide) (hts (.fieldLink RX12 9 "MistHeapsModel" "s" "[I") kc_puts_1) (fun _ h9 => h9) rfl dX12_puts_42 ?_
  refine lv_iconst (v := 0) hx hb dX12_puts_45 (by decide) ?_
  refine lv_dup2_11 hx hb dX12_puts_46 rfl rfl ?_
  refine va_iald hx hb hK hP 1 0 rfl rfl (vp_in_nI (n := 0) (N := 901) (by omega) (by omega)) dX12_puts_47 ?_
  refine qi_as (y := nI n) ((show (upd (upd (upd fS (10 + n) x) (19 + n) y) (28 + n) z) (0 : Int32).toNatClampNeg = (upd (upd (upd fS (10 + n) x) (19 + n) y) (28 + n) z) 0 from rfl).trans (by rw [pk_un (by omega), pk_un (by omega), pk_un (by omega)]; exact zn)) ?_
  refine lv_iconst (v := 1) hx hb dX12_puts_48 (by decide) ?_
  refine lv_iadd hx hb dX12_puts_49 ?_
  refine qi_as (y := nI (n + 1)) (nI_add n 1) ?_
  refine va_iast hx hb hK hP hD hS 1 0 rfl rfl (vp_in_nI (n := 0) (N := 901) (by omega) (by omega)) dX12_puts_50 (fun H locs hP hD hS => ?_)
  have hP : va_P (dC, dI) vwCl [(zo14irriiiiiirriirrrrlriiii m0 th aS aI im ac sp en wg op aB aT se dn aG aO aN aD bv aY rn kd nu tv), (zaI aS cS 901 (upd (upd (upd (upd fS (10 + n) x) (19 + n) y) (28 + n) z) 0 (nI (n + 1))))] H := hP
  have hD : va_D A [(zo14irriiiiiirriirrrrlriiii m0 th aS aI im ac sp en wg op aB aT se dn aG aO aN aD bv aY rn kd nu tv), (zaI aS cS 901 (upd (upd (upd (upd fS (10 + n) x) (19 + n) y) (28 + n) z) 0 (nI (n + 1))))] := hD
  refine lv_iload hx hb dX12_puts_51 (lv_at hl 0 rfl) ?_
  rw [hQ]
  have hP9 := hP.sub (ws' := [(zo14irriiiiiirriirrrrlriiii m0 th aS aI im ac sp en wg op aB aT se dn aG aO aN aD bv aY rn kd nu tv), (zaI aS cS 901 (upd (upd (upd (upd fS (10 + n) x) (19 + n) y) (28 + n) z) 0 (nI (n + 1))))]) [0, 1] rfl
  have hD9 := hD.sub (ws' := [(zo14irriiiiiirriirrrrlriiii m0 th aS aI im ac sp en wg op aB aT se dn aG aO aN aD bv aY rn kd nu tv), (zaI aS cS 901 (upd (upd (upd (upd fS (10 + n) x) (19 + n) y) (28 + n) z) 0 (nI (n + 1))))]) [0, 1] (by decide) rfl
  have hK9 := hK.sub (tys' := [(cS, .int)]) [0] rfl
  exact W.iret (v := nI n) hx hb hr (fun tQ htQ hWQ => ⟨⟨(nI n), (upd (upd (upd (upd fS (10 + n) x) (19 + n) y) (28 + n) z) 0 (nI (n + 1))), rfl, ⟨rfl, rfl⟩, by rw [htQ]; exact hP9, va_K.moved hWQ.alike hK9, hD9⟩, hS.F htQ⟩) hS.2.2 dX12_puts_53

theorem kc_mBears_0 : ∀ w ∈ wsX120, w ∈ wsX12_bears := fun w h => List.mem_cons_of_mem _ (gin_wsX120 w h)
theorem kc_mBears_1 : (.fieldLink RX12 9 "MistHeapsModel" "s" "[I" : Cond) ∈ wsX12_bears := kc_of 1141 rfl rfl rfl
set_option maxHeartbeats 4000000 in
set_option maxRecDepth 100000 in
theorem c_mBears (l : Launch) (dC : Nat → ClassId) (dI : Nat → Nat → Nat) (m0 aS aI aB aT aG aO aN aD aY : Nat) (th im ac sp en wg op se dn rn kd nu tv : Int32) (bv : Int64) (cS cB cT cG : ClassId) (fS : Nat → Int32) (fB : Nat → Int32) (fT : Nat → Int32) (fG : Nat → Int32) (n : Nat) (yk yv yc : Nat → Int32) (mi sn : Int32) (x y : Int32) (cz : List pCla) (sz : Nat) (zn : fS 0 = nI n) (hn : n ≤ 8) (zh : hol fS cz) (zkd : ∀ k, k < n → fS (10 + k) = yk k) (zvv : ∀ k, k < n → fS (19 + k) = yv k) (zc : ∀ k, k < n → fS (28 + k) = yc k) (zmi : fS 6 = mi) (zsn : fS 7 = sn) : Met l yX12_bears wsX12_bears ({ frames := 6, cells := 0, slots := 0, locals := 147 } : Room) (va_Pc [.ref m0, .int x, .int y] (fun U => U.heap.size = sz ∧ va_P (dC, dI) vwCl [(zo14irriiiiiirriirrrrlriiii m0 th aS aI im ac sp en wg op aB aT se dn aG aO aN aD bv aY rn kd nu tv), (zaI aS cS 901 fS), (zaI aB cB 6 fB), (zaI aT cT 64 fT), (zaI aG cG 9 fG)] U.heap ∧ va_K (dC, dI) vwCl [(cS, .int), (cB, .int), (cT, .boolean), (cG, .int)] U ∧ va_D (fun _ => True) [(zo14irriiiiiirriirrrrlriiii m0 th aS aI im ac sp en wg op aB aT se dn aG aO aN aD bv aY rn kd nu tv), (zaI aS cS 901 fS), (zaI aB cB 6 fB), (zaI aT cT 64 fT), (zaI aG cG 9 fG)])) (va_Qi (fun (r : Int32) (u : (Nat → Int32) × (Nat → Int32) × (Int32) × (Int32) × (Nat → Int32)) => match u with | (fB9, fT9, se9, dn9, fG9) => r = beR_ n yk yv yc cz mi x y) (fun (u : (Nat → Int32) × (Nat → Int32) × (Int32) × (Int32) × (Nat → Int32)) (t : State) => match u with | (fB9, fT9, se9, dn9, fG9) => va_P (dC, dI) vwCl [(zo14irriiiiiirriirrrrlriiii m0 th aS aI im ac sp en wg op aB aT se9 dn9 aG aO aN aD bv aY rn kd nu tv), (zaI aS cS 901 fS), (zaI aB cB 6 fB9), (zaI aT cT 64 fT9), (zaI aG cG 9 fG9)] t.heap ∧ va_K (dC, dI) vwCl [(cS, .int), (cB, .int), (cT, .boolean), (cG, .int)] t ∧ va_D (va_A [(zo14irriiiiiirriirrrrlriiii m0 th aS aI im ac sp en wg op aB aT se dn aG aO aN aD bv aY rn kd nu tv), (zaI aS cS 901 fS), (zaI aB cB 6 fB), (zaI aT cT 64 fT), (zaI aG cG 9 fG)] sz) [(zo14irriiiiiirriirrrrlriiii m0 th aS aI im ac sp en wg op aB aT se9 dn9 aG aO aN aD bv aY rn kd nu tv), (zaI aS cS 901 fS), (zaI aB cB 6 fB9), (zaI aT cT 64 fT9), (zaI aG cG 9 fG9)]) (va_A [(zo14irriiiiiirriirrrrlriiii m0 th aS aI im ac sp en wg op aB aT se dn aG aO aN aD bv aY rn kd nu tv), (zaI aS cS 901 fS), (zaI aB cB 6 fB), (zaI aT cT 64 fT), (zaI aG cG 9 fG)] sz)) 0 0 (va_A [(zo14irriiiiiirriirrrrlriiii m0 th aS aI im ac sp en wg op aB aT se dn aG aO aN aD bv aY rn kd nu tv), (zaI aS cS 901 fS), (zaI aB cB 6 fB), (zaI aT cT 64 fT), (zaI aG cG 9 fG)] sz) := by
  refine met_ofQ (cc := cX12_bears) (maxL := 6) (ret := (some .int)) (by decide) rfl ?_
  intro p e s m args below meth c s₁ Q B hml hv hQ
  obtain ⟨rfl, hsz, hP, hK, hD0⟩ := hv
  have hx := B.exec
  have hb := B.bytes
  have hr := B.returns
  have hts := atoms_spec (ws := wsX12_bears) B.pre
  have hown : s.vm.findClass RX12 = some m.cls := findClass_of_methodNamed B.named
  have hlocks := B.notSynchronized
  subst hsz
  have hD := hD0.self (sz := s.heap.size)
  generalize hAe : va_A [(zo14irriiiiiirriirrrrlriiii m0 th aS aI im ac sp en wg op aB aT se dn aG aO aN aD bv aY rn kd nu tv), (zaI aS cS 901 fS), (zaI aB cB 6 fB), (zaI aT cT 64 fT), (zaI aG cG 9 fG)] s.heap.size = A at hD hQ ⊢
  have hA : ∀ q : Nat, s.heap.size ≤ q → A q := fun q h => by rw [← hAe]; exact Or.inr h
  have hS : va_S A s.heap s.heap [] := va_S.rf
  have hl := lv_entry [.ref m0, .int x, .int y] (n := 6) (Nat.le_of_ble_eq_true rfl)
  rw [lg_entry_eq]
  generalize (lg_sl [.ref m0, .int x, .int y] ++ List.replicate (6 - (lg_sl [.ref m0, .int x, .int y]).length) Slot.unset).toArray = ls at hl ⊢
  generalize hag : ([.ref m0, .int x, .int y] : List Value).toArray = args at hts hQ ⊢
  have hl : lv_has ls 6 [(0, .ref m0), (1, .int x), (2, .int y)] := hl
  obtain ⟨H, hH⟩ : ∃ H : Heap, H = s.heap := ⟨_, rfl⟩
  rw [← hH] at hP
  rw [← hH]
  have hS : va_S A s.heap H [] := by rw [hH]; exact hS
  obtain ⟨locs, hlo⟩ : ∃ L : List Loc, L = [] := ⟨_, rfl⟩
  rw [← hlo] at hS
  rw [← hlo]
  clear hH hlo
  refine lv_aload_n hx hb dX12_bears_0 rfl (lv_at hl 0 rfl) ?_
  refine lv_iload_n hx hb dX12_bears_1 rfl (lv_at hl 1 rfl) ?_
  have hPc := hP.sub (ws' := [(zo14irriiiiiirriirrrrlriiii m0 th aS aI im ac sp en wg op aB aT se dn aG aO aN aD bv aY rn kd nu tv), (zaI aS cS 901 fS)]) [0, 1] rfl
  have hKc := hK.sub (tys' := [(cS, .int)]) [0] rfl
  refine vp_callSi (va_runV (As := [.int x]) (rest := []) ⟨hx, hb, hml, hown, hts⟩ (c_isHeap l dC dI m0 aS aI aB aT aG aO aN aD aY th im ac sp en wg op se dn rn kd nu tv bv cS fS n x (zn) (hn)) (cwV 1 hts gX12_bears_X12_isHeap rfl rfl rfl hd_yX12_isHeap ⟨Nat.le_of_ble_eq_true rfl, Nat.le_of_ble_eq_true rfl⟩) ⟨fun a U g mk q => by obtain ⟨q0, qP, qK⟩ := q; exact ⟨q0, mvP g mk a qP, mvK g mk a qK⟩, va_recv hK hP (ci := 14) (q := (RX12, TX12, 23)) (q0 := 0) rfl rfl, fun U hU hW => ⟨rfl, by rw [hU]; exact hPc, va_K.moved hW.alike hKc⟩⟩ rfl rfl hl.1 rfl (lv_room (Nat.le_of_ble_eq_true rfl)) dX12_bears_2 ⟨Nat.le_of_ble_eq_true rfl, Nat.le_of_ble_eq_true rfl⟩).run (fun r_1 hw_2 => ?_)
  rcases hw_2 with ⟨rfl, j_3, hj_4, rfl⟩ | ⟨rfl, h_5⟩
  · skip
    refine lv_if_eq (tgt := 16) hx hb dX12_bears_5 (by decide) (fun c_6 => absurd c_6 (by decide)) (fun _ => ?_)
    refine lv_aload_n hx hb dX12_bears_8 rfl (lv_at hl 0 rfl) ?_
    refine lv_iload_n hx hb dX12_bears_9 rfl (lv_at hl 2 rfl) ?_
    have hPc := hP.sub (ws' := [(zo14irriiiiiirriirrrrlriiii m0 th aS aI im ac sp en wg op aB aT se dn aG aO aN aD bv aY rn kd nu tv), (zaI aS cS 901 fS)]) [0, 1] rfl
    have hKc := hK.sub (tys' := [(cS, .int)]) [0] rfl
    refine vp_callSi (va_runV (As := [.int y]) (rest := []) ⟨hx, hb, hml, hown, hts⟩ (c_isHeap l dC dI m0 aS aI aB aT aG aO aN aD aY th im ac sp en wg op se dn rn kd nu tv bv cS fS n y (zn) (hn)) (cwV 1 hts gX12_bears_X12_isHeap rfl rfl rfl hd_yX12_isHeap ⟨Nat.le_of_ble_eq_true rfl, Nat.le_of_ble_eq_true rfl⟩) ⟨fun a U g mk q => by obtain ⟨q0, qP, qK⟩ := q; exact ⟨q0, mvP g mk a qP, mvK g mk a qK⟩, va_recv hK hP (ci := 14) (q := (RX12, TX12, 23)) (q0 := 0) rfl rfl, fun U hU hW => ⟨rfl, by rw [hU]; exact hPc, va_K.moved hW.alike hKc⟩⟩ rfl rfl hl.1 rfl (lv_room (Nat.le_of_ble_eq_true rfl)) dX12_bears_10 ⟨Nat.le_of_ble_eq_true rfl, Nat.le_of_ble_eq_true rfl⟩).run (fun r_7 hw_8 => ?_)
    rcases hw_8 with ⟨rfl, j_9, hj_10, rfl⟩ | ⟨rfl, h_11⟩
    · skip
      refine lv_if_ne (tgt := 18) hx hb dX12_bears_13 (by decide) (fun _ => ?_) (fun c_12 => absurd c_12 (by decide))
      obtain ⟨B9, hB9⟩ : ∃ B : Nat → Int32, B = beF (fun k => ¬ fsR (gRow n yk yv yc cz mi (nI k)) n (nI j_3) (nI j_9) 0 = -5) := ⟨_, rfl⟩
      refine lv_aload_n hx hb dX12_bears_18 rfl (lv_at hl 0 rfl) ?_
      refine va_get (D := (dC, dI)) (ci := 14) (v := .ref aS) (C := RX12) (T := TX12) (N := 23) hx hb hts kc_mBears_0 hown hK hP 0 rfl rfl 1 (by decide) (hts (.fieldLink RX12 9 "MistHeapsModel" "s" "[I") kc_mBears_1) (fun _ h9 => h9) rfl dX12_bears_19 ?_
      refine lv_bipush (v := 7) hx hb dX12_bears_22 (by decide) ?_
      refine va_iald hx hb hK hP 1 0 rfl rfl (vp_in_nI (n := 7) (N := 901) (by omega) (by omega)) dX12_bears_24 ?_
      refine qi_as (y := fS 7) (rfl) ?_
      refine lv_istore_n (lv' := [(3, .int (fS 7)), (0, .ref m0), (1, .int (nI j_3)), (2, .int (nI j_9))]) hx hb dX12_bears_25 rfl hl (by decide) rfl (fun ls hl => ?_)
      refine lv_bipush (v := (-5)) hx hb dX12_bears_26 (by decide) ?_
      refine lv_istore (lv' := [(4, .int (-5)), (3, .int (fS 7)), (0, .ref m0), (1, .int (nI j_3)), (2, .int (nI j_9))]) hx hb dX12_bears_28 hl (by decide) rfl (fun ls hl => ?_)
      refine lv_iconst (v := 0) hx hb dX12_bears_30 (by decide) ?_
      refine lv_istore (lv' := [(5, .int 0), (4, .int (-5)), (3, .int (fS 7)), (0, .ref m0), (1, .int (nI j_3)), (2, .int (nI j_9))]) hx hb dX12_bears_31 hl (by decide) rfl (fun ls hl => ?_)
      have L33 : ∀ (nF : Nat) (i : Nat) (se2 : Int32) (dn2 : Int32) (fB2 : Nat → Int32) (fT2 : Nat → Int32) (fG2 : Nat → Int32) (q : Int32) (f : Nat → Int32), 10 - i < nF → (i ≤ 10) → (∀ i, i ≠ 7 → f i = fS i) → (q = B9 i) → ∀ (H : Heap) (locs : List Loc), va_K (dC, dI) vwCl [(cS, .int), (cB, .int), (cT, .boolean), (cG, .int)] s → va_P (dC, dI) vwCl [(zo14irriiiiiirriirrrrlriiii m0 th aS aI im ac sp en wg op aB aT se2 dn2 aG aO aN aD bv aY rn kd nu tv), (zaI aS cS 901 f), (zaI aB cB 6 fB2), (zaI aT cT 64 fT2), (zaI aG cG 9 fG2)] H → va_D A [(zo14irriiiiiirriirrrrlriiii m0 th aS aI im ac sp en wg op aB aT se2 dn2 aG aO aN aD bv aY rn kd nu tv), (zaI aS cS 901 f), (zaI aB cB 6 fB2), (zaI aT cT 64 fT2), (zaI aG cG 9 fG2)] → va_S A s.heap H locs → ∀ (ls : Array Slot), lv_has ls 6 [(0, .ref m0), (1, .int (nI j_3)), (2, .int (nI j_9)), (3, .int (fS 7)), (4, .int q), (5, .int (nI i))] → W p l e ({ frames := 6, cells := 0, slots := 0, locals := 147 } : Room) s m args below meth c H locs 0 0 Q (F0 m 33 ls []) := by
        intro nF
        induction nF with
        | zero => intro i se2 dn2 fB2 fT2 fG2 q f hm; exact absurd hm (Nat.not_lt_zero _)
        | succ nF ih33 =>
          intro i se2 dn2 fB2 fT2 fG2 q f hm hii zf hq9 H locs hK hP hD hS ls hl
          refine lv_iload hx hb dX12_bears_33 (lv_at hl 5 rfl) ?_
          refine lv_bipush (v := 10) hx hb dX12_bears_35 (by decide) ?_
          refine lv_icmp_ge (tgt := 75) hx hb dX12_bears_37 (by decide) (fun c_13 => ?_) (fun c_13 => ?_)
          · skip
            have c_13 : 10 ≤ i := (nI_leI (a := 10) (b := i) (by omega) (by omega)).mp c_13
            refine lv_aload_n hx hb dX12_bears_75 rfl (lv_at hl 0 rfl) ?_
            refine va_get (D := (dC, dI)) (ci := 14) (v := .ref aS) (C := RX12) (T := TX12) (N := 23) hx hb hts kc_mBears_0 hown hK hP 0 rfl rfl 1 (by decide) (hts (.fieldLink RX12 9 "MistHeapsModel" "s" "[I") kc_mBears_1) (fun _ h9 => h9) rfl dX12_bears_76 ?_
            refine lv_bipush (v := 7) hx hb dX12_bears_79 (by decide) ?_
            refine lv_iload_n hx hb dX12_bears_81 rfl (lv_at hl 3 rfl) ?_
            refine va_iast hx hb hK hP hD hS 1 0 rfl rfl (vp_in_nI (n := 7) (N := 901) (by omega) (by omega)) dX12_bears_82 (fun H locs hP hD hS => ?_)
            have hP : va_P (dC, dI) vwCl [(zo14irriiiiiirriirrrrlriiii m0 th aS aI im ac sp en wg op aB aT se2 dn2 aG aO aN aD bv aY rn kd nu tv), (zaI aS cS 901 (upd f 7 (fS 7))), (zaI aB cB 6 fB2), (zaI aT cT 64 fT2), (zaI aG cG 9 fG2)] H := hP
            have hD : va_D A [(zo14irriiiiiirriirrrrlriiii m0 th aS aI im ac sp en wg op aB aT se2 dn2 aG aO aN aD bv aY rn kd nu tv), (zaI aS cS 901 (upd f 7 (fS 7))), (zaI aB cB 6 fB2), (zaI aT cT 64 fT2), (zaI aG cG 9 fG2)] := hD
            rw [show upd f 7 (fS 7) = fS from funext fun k => by by_cases q7 : k = 7 <;> simp [upd, q7] <;> exact zf k q7] at hP hD
            have hP : va_P (dC, dI) vwCl [(zo14irriiiiiirriirrrrlriiii m0 th aS aI im ac sp en wg op aB aT se2 dn2 aG aO aN aD bv aY rn kd nu tv), (zaI aS cS 901 fS), (zaI aB cB 6 fB2), (zaI aT cT 64 fT2), (zaI aG cG 9 fG2)] H := hP
            have hD : va_D A [(zo14irriiiiiirriirrrrlriiii m0 th aS aI im ac sp en wg op aB aT se2 dn2 aG aO aN aD bv aY rn kd nu tv), (zaI aS cS 901 fS), (zaI aB cB 6 fB2), (zaI aT cT 64 fT2), (zaI aG cG 9 fG2)] := hD
            refine lv_iload hx hb dX12_bears_83 (lv_at hl 4 rfl) ?_
            rw [hQ]
            have hP9 := hP.sub (ws' := [(zo14irriiiiiirriirrrrlriiii m0 th aS aI im ac sp en wg op aB aT se2 dn2 aG aO aN aD bv aY rn kd nu tv), (zaI aS cS 901 fS), (zaI aB cB 6 fB2), (zaI aT cT 64 fT2), (zaI aG cG 9 fG2)]) [0, 1, 2, 3, 4] rfl
            have hD9 := hD.sub (ws' := [(zo14irriiiiiirriirrrrlriiii m0 th aS aI im ac sp en wg op aB aT se2 dn2 aG aO aN aD bv aY rn kd nu tv), (zaI aS cS 901 fS), (zaI aB cB 6 fB2), (zaI aT cT 64 fT2), (zaI aG cG 9 fG2)]) [0, 1, 2, 3, 4] (by decide) rfl
            have hK9 := hK.sub (tys' := [(cS, .int), (cB, .int), (cT, .boolean), (cG, .int)]) [0, 1, 2, 3] rfl
            exact W.iret (v := q) hx hb hr (fun tQ htQ hWQ => ⟨⟨q, (fB2, fT2, se2, dn2, fG2), rfl, be_m hn (by omega) (by omega) (be_e hB9 hq9 (by omega)), by rw [htQ]; exact hP9, va_K.moved hWQ.alike hK9, hD9⟩, hS.F htQ⟩) hS.2.2 dX12_bears_85
          · skip
            have c_13 : ¬ 10 ≤ i := fun q => c_13 ((nI_leI (a := 10) (b := i) (by omega) (by omega)).mpr q)
            refine lv_aload_n hx hb dX12_bears_40 rfl (lv_at hl 0 rfl) ?_
            refine va_get (D := (dC, dI)) (ci := 14) (v := .ref aS) (C := RX12) (T := TX12) (N := 23) hx hb hts kc_mBears_0 hown hK hP 0 rfl rfl 1 (by decide) (hts (.fieldLink RX12 9 "MistHeapsModel" "s" "[I") kc_mBears_1) (fun _ h9 => h9) rfl dX12_bears_41 ?_
            refine lv_bipush (v := 7) hx hb dX12_bears_44 (by decide) ?_
            refine lv_iload hx hb dX12_bears_46 (lv_at hl 5 rfl) ?_
            refine va_iast hx hb hK hP hD hS 1 0 rfl rfl (vp_in_nI (n := 7) (N := 901) (by omega) (by omega)) dX12_bears_48 (fun H locs hP hD hS => ?_)
            have hP : va_P (dC, dI) vwCl [(zo14irriiiiiirriirrrrlriiii m0 th aS aI im ac sp en wg op aB aT se2 dn2 aG aO aN aD bv aY rn kd nu tv), (zaI aS cS 901 (upd f 7 (nI i))), (zaI aB cB 6 fB2), (zaI aT cT 64 fT2), (zaI aG cG 9 fG2)] H := hP
            have hD : va_D A [(zo14irriiiiiirriirrrrlriiii m0 th aS aI im ac sp en wg op aB aT se2 dn2 aG aO aN aD bv aY rn kd nu tv), (zaI aS cS 901 (upd f 7 (nI i))), (zaI aB cB 6 fB2), (zaI aT cT 64 fT2), (zaI aG cG 9 fG2)] := hD
            obtain ⟨f2, ef2⟩ : ∃ g : Nat → Int32, g = upd f 7 (nI i) := ⟨_, rfl⟩
            have z2 : ∀ i, i ≠ 7 → f2 i = fS i := fun k hk => by rw [ef2, pk_un hk]; exact zf k hk
            rw [show upd f 7 (nI i) = f2 from ef2.symm] at hP hD
            have hP : va_P (dC, dI) vwCl [(zo14irriiiiiirriirrrrlriiii m0 th aS aI im ac sp en wg op aB aT se2 dn2 aG aO aN aD bv aY rn kd nu tv), (zaI aS cS 901 f2), (zaI aB cB 6 fB2), (zaI aT cT 64 fT2), (zaI aG cG 9 fG2)] H := hP
            have hD : va_D A [(zo14irriiiiiirriirrrrlriiii m0 th aS aI im ac sp en wg op aB aT se2 dn2 aG aO aN aD bv aY rn kd nu tv), (zaI aS cS 901 f2), (zaI aB cB 6 fB2), (zaI aT cT 64 fT2), (zaI aG cG 9 fG2)] := hD
            refine lv_aload_n hx hb dX12_bears_49 rfl (lv_at hl 0 rfl) ?_
            refine lv_iload_n hx hb dX12_bears_50 rfl (lv_at hl 1 rfl) ?_
            refine lv_iload_n hx hb dX12_bears_51 rfl (lv_at hl 2 rfl) ?_
            have hPc := hP.sub (ws' := [(zo14irriiiiiirriirrrrlriiii m0 th aS aI im ac sp en wg op aB aT se2 dn2 aG aO aN aD bv aY rn kd nu tv), (zaI aS cS 901 f2), (zaI aB cB 6 fB2), (zaI aT cT 64 fT2), (zaI aG cG 9 fG2)]) [0, 1, 2, 3, 4] rfl
            have hDc := hD.sub (ws' := [(zo14irriiiiiirriirrrrlriiii m0 th aS aI im ac sp en wg op aB aT se2 dn2 aG aO aN aD bv aY rn kd nu tv), (zaI aS cS 901 f2), (zaI aB cB 6 fB2), (zaI aT cT 64 fT2), (zaI aG cG 9 fG2)]) [0, 1, 2, 3, 4] (by decide) rfl
            have hKc := hK.sub (tys' := [(cS, .int), (cB, .int), (cT, .boolean), (cG, .int)]) [0, 1, 2, 3] rfl
            have hFc := va_free (wc := [(zo14irriiiiiirriirrrrlriiii m0 th aS aI im ac sp en wg op aB aT se2 dn2 aG aO aN aD bv aY rn kd nu tv), (zaI aS cS 901 f2), (zaI aB cB 6 fB2), (zaI aT cT 64 fT2), (zaI aG cG 9 fG2)]) hD hS hA [0, 1, 2, 3, 4] rfl
            refine va_calli (va_runV (As := [.int (nI j_3), .int (nI j_9)]) (rest := []) ⟨hx, hb, hml, hown, hts⟩ (c_stepsOf l dC dI m0 aS aI aB aT aG aO aN aD aY th im ac sp en wg op se2 dn2 rn kd nu tv bv cS cB cT cG f2 fB2 fT2 fG2 n (nI j_3) (nI j_9) cz H.size ((z2 0 (by decide)).trans zn) (hn) (hol_of zh (fun i _ hi => z2 i (by omega)))) (cwV 2 hts gX12_bears_X12_stepsOf rfl rfl rfl hd_yX12_stepsOf ⟨Nat.le_of_ble_eq_true rfl, Nat.le_of_ble_eq_true rfl⟩) ⟨fun a U g mk q => by obtain ⟨q0, q1, qP, qK, qD⟩ := q; exact ⟨q0, mvz g mk a q1, mvP g mk a qP, mvK g mk a qK, qD⟩, va_recv hK hP (ci := 14) (q := (RX12, TX12, 23)) (q0 := 0) rfl rfl, fun U hU hW => ⟨rfl, by rw [hU], by rw [hU]; exact hPc, va_K.moved hW.alike hKc, hDc.weaken (fun _ _ _ _ => trivial)⟩⟩ rfl rfl hl.1 rfl (lv_room (Nat.le_of_ble_eq_true rfl)) dX12_bears_52 ⟨Nat.le_of_ble_eq_true rfl, Nat.le_of_ble_eq_true rfl⟩) hS (fun q _ h => hFc q h) hFc (fun r_14 u tC H1 locs htC hvm hw_15 hB hz1 hk1 hS => ?_)
            obtain ⟨fB9_16, fT9_17, se9_18, dn9_19, fG9_20⟩ := u
            try dsimp only at hw_15 hB
            obtain ⟨hP1, hK1, hD1⟩ := hB
            rw [htC] at hP1
            have hK1 := va_K.moved hvm.symm hK1
            obtain ⟨hP, hD⟩ := va_join (wr := []) (w1 := [(zo14irriiiiiirriirrrrlriiii m0 th aS aI im ac sp en wg op aB aT se9_18 dn9_19 aG aO aN aD bv aY rn kd nu tv), (zaI aS cS 901 f2), (zaI aB cB 6 fB9_16), (zaI aT cT 64 fT9_17), (zaI aG cG 9 fG9_20)]) hP hD [0, 1, 2, 3, 4] [] rfl rfl (by decide) (by decide) hk1 hFc hP1 hD1
            have hK := (hK.sub (tys' := []) [] rfl).app hK1
            generalize H1 = H at hP hS ⊢
            have hP : va_P (dC, dI) vwCl [(zo14irriiiiiirriirrrrlriiii m0 th aS aI im ac sp en wg op aB aT se9_18 dn9_19 aG aO aN aD bv aY rn kd nu tv), (zaI aS cS 901 f2), (zaI aB cB 6 fB9_16), (zaI aT cT 64 fT9_17), (zaI aG cG 9 fG9_20)] H := hP
            have hD : va_D A [(zo14irriiiiiirriirrrrlriiii m0 th aS aI im ac sp en wg op aB aT se9_18 dn9_19 aG aO aN aD bv aY rn kd nu tv), (zaI aS cS 901 f2), (zaI aB cB 6 fB9_16), (zaI aT cT 64 fT9_17), (zaI aG cG 9 fG9_20)] := hD
            have hK : va_K (dC, dI) vwCl [(cS, .int), (cB, .int), (cT, .boolean), (cG, .int)] s := hK
            obtain ⟨hs1, rfl⟩ := hw_15
            refine lv_bipush (v := (-5)) hx hb dX12_bears_55 (by decide) ?_
            refine lv_icmp_ne (tgt := 65) hx hb dX12_bears_57 (by decide) (fun c_21 => ?_) (fun c_21 => ?_)
            · skip
              refine lv_iload hx hb dX12_bears_65 (lv_at hl 5 rfl) ?_
              refine lv_istore (lv' := [(4, .int (nI i)), (0, .ref m0), (1, .int (nI j_3)), (2, .int (nI j_9)), (3, .int (fS 7)), (5, .int (nI i))]) hx hb dX12_bears_67 hl (by decide) rfl (fun ls hl => ?_)
              refine lv_iinc (v := nI (i + 1)) (lv' := [(5, .int (nI (i + 1))), (4, .int (nI i)), (0, .ref m0), (1, .int (nI j_3)), (2, .int (nI j_9)), (3, .int (fS 7))]) hx hb dX12_bears_69 hl (k := 5) rfl (nI_add i 1) (by decide) rfl (fun ls hl => ?_)
              refine lv_goto (tgt := 33) hx hb dX12_bears_72 (by decide) ?_
              exact ih33 (i + 1) _ _ _ _ _ (nI i) (f2) (by omega) (by omega) (z2) (be_y hB9 hq9 (fun z9 => c_21 ((fsR_cg (row_m hs1 (fun k hk => (z2 _ (by omega)).trans (zkd k hk)) (fun k hk => (z2 _ (by omega)).trans (zvv k hk)) (fun k hk => (z2 _ (by omega)).trans (zc k hk)) ((z2 6 (by omega)).trans zmi) (by rw [ef2]; exact pk_us))).trans z9))) _ _ (hK.sub [0, 1, 2, 3] rfl) (hP.sub [0, 1, 2, 3, 4] rfl) (hD.sub [0, 1, 2, 3, 4] (by decide) rfl) hS ls (lv_sub hl [2, 3, 4, 5, 1, 0] rfl)
            · skip
              refine lv_iload hx hb dX12_bears_60 (lv_at hl 4 rfl) ?_
              refine lv_goto (tgt := 67) hx hb dX12_bears_62 (by decide) ?_
              refine lv_istore (lv' := [(4, .int q), (0, .ref m0), (1, .int (nI j_3)), (2, .int (nI j_9)), (3, .int (fS 7)), (5, .int (nI i))]) hx hb dX12_bears_67 hl (by decide) rfl (fun ls hl => ?_)
              refine lv_iinc (v := nI (i + 1)) (lv' := [(5, .int (nI (i + 1))), (4, .int q), (0, .ref m0), (1, .int (nI j_3)), (2, .int (nI j_9)), (3, .int (fS 7))]) hx hb dX12_bears_69 hl (k := 5) rfl (nI_add i 1) (by decide) rfl (fun ls hl => ?_)
              refine lv_goto (tgt := 33) hx hb dX12_bears_72 (by decide) ?_
              exact ih33 (i + 1) _ _ _ _ _ (q) (f2) (by omega) (by omega) (z2) (be_n hB9 hq9 (fun z9 => z9 ((fsR_cg (row_m hs1 (fun k hk => (z2 _ (by omega)).trans (zkd k hk)) (fun k hk => (z2 _ (by omega)).trans (zvv k hk)) (fun k hk => (z2 _ (by omega)).trans (zc k hk)) ((z2 6 (by omega)).trans zmi) (by rw [ef2]; exact pk_us))).symm.trans c_21))) _ _ (hK.sub [0, 1, 2, 3] rfl) (hP.sub [0, 1, 2, 3, 4] rfl) (hD.sub [0, 1, 2, 3, 4] (by decide) rfl) hS ls (lv_sub hl [2, 3, 4, 5, 1, 0] rfl)
      exact L33 _ (0) _ _ _ _ _ (-5) _ (Nat.lt_succ_self _) (by omega) (fun _ _ => rfl) (by rw [hB9]; rfl) _ _ (hK.sub [0, 1, 2, 3] rfl) (hP.sub [0, 1, 2, 3, 4] rfl) (hD.sub [0, 1, 2, 3, 4] (by decide) rfl) hS ls (lv_sub hl [3, 4, 5, 2, 1, 0] rfl)
    · skip
      refine lv_if_ne (tgt := 18) hx hb dX12_bears_13 (by decide) (fun c_22 => absurd c_22 (by decide)) (fun _ => ?_)
      refine lv_iconst (v := (-1)) hx hb dX12_bears_16 (by decide) ?_
      rw [hQ]
      have hP9 := hP.sub (ws' := [(zo14irriiiiiirriirrrrlriiii m0 th aS aI im ac sp en wg op aB aT se dn aG aO aN aD bv aY rn kd nu tv), (zaI aS cS 901 fS), (zaI aB cB 6 fB), (zaI aT cT 64 fT), (zaI aG cG 9 fG)]) [0, 1, 2, 3, 4] rfl
      have hD9 := hD.sub (ws' := [(zo14irriiiiiirriirrrrlriiii m0 th aS aI im ac sp en wg op aB aT se dn aG aO aN aD bv aY rn kd nu tv), (zaI aS cS 901 fS), (zaI aB cB 6 fB), (zaI aT cT 64 fT), (zaI aG cG 9 fG)]) [0, 1, 2, 3, 4] (by decide) rfl
      have hK9 := hK.sub (tys' := [(cS, .int), (cB, .int), (cT, .boolean), (cG, .int)]) [0, 1, 2, 3] rfl
      exact W.iret (v := (-1)) hx hb hr (fun tQ htQ hWQ => ⟨⟨(-1), (fB, fT, se, dn, fG), rfl, by first | exact two_no1 (by assumption) | exact two_no2 (by assumption), by rw [htQ]; exact hP9, va_K.moved hWQ.alike hK9, hD9⟩, hS.F htQ⟩) hS.2.2 dX12_bears_17
  · skip
    refine lv_if_eq (tgt := 16) hx hb dX12_bears_5 (by decide) (fun _ => ?_) (fun c_23 => absurd c_23 (by decide))
    refine lv_iconst (v := (-1)) hx hb dX12_bears_16 (by decide) ?_
    rw [hQ]
    have hP9 := hP.sub (ws' := [(zo14irriiiiiirriirrrrlriiii m0 th aS aI im ac sp en wg op aB aT se dn aG aO aN aD bv aY rn kd nu tv), (zaI aS cS 901 fS), (zaI aB cB 6 fB), (zaI aT cT 64 fT), (zaI aG cG 9 fG)]) [0, 1, 2, 3, 4] rfl
    have hD9 := hD.sub (ws' := [(zo14irriiiiiirriirrrrlriiii m0 th aS aI im ac sp en wg op aB aT se dn aG aO aN aD bv aY rn kd nu tv), (zaI aS cS 901 fS), (zaI aB cB 6 fB), (zaI aT cT 64 fT), (zaI aG cG 9 fG)]) [0, 1, 2, 3, 4] (by decide) rfl
    have hK9 := hK.sub (tys' := [(cS, .int), (cB, .int), (cT, .boolean), (cG, .int)]) [0, 1, 2, 3] rfl
    exact W.iret (v := (-1)) hx hb hr (fun tQ htQ hWQ => ⟨⟨(-1), (fB, fT, se, dn, fG), rfl, by first | exact two_no1 (by assumption) | exact two_no2 (by assumption), by rw [htQ]; exact hP9, va_K.moved hWQ.alike hK9, hD9⟩, hS.F htQ⟩) hS.2.2 dX12_bears_17

theorem kc_mBuild_0 : ∀ w ∈ wsX120, w ∈ wsX12_build := fun w h => List.mem_cons_of_mem _ (gin_wsX120 w h)
theorem kc_mBuild_1 : (.fieldLink RX12 9 "MistHeapsModel" "s" "[I" : Cond) ∈ wsX12_build := kc_of 1141 rfl rfl rfl
set_option maxHeartbeats 4000000 in
set_option maxRecDepth 100000 in
theorem c_mBuild (l : Launch) (dC : Nat → ClassId) (dI : Nat → Nat → Nat) (m0 aS aI aB aT aG aO aN aD aY : Nat) (th im ac sp en wg op se dn rn kd nu tv : Int32) (bv : Int64) (cS cB cT cG : ClassId) (fS : Nat → Int32) (fB : Nat → Int32) (fT : Nat → Int32) (fG : Nat → Int32) (n : Nat) (yk yv yc : Nat → Int32) (mi sn : Int32) (x y z : Int32) (cz : List pCla) (sz : Nat) (zn : fS 0 = nI n) (hn : n ≤ 8) (zh : hol fS cz) (zkd : ∀ k, k < n → fS (10 + k) = yk k) (zvv : ∀ k, k < n → fS (19 + k) = yv k) (zc : ∀ k, k < n → fS (28 + k) = yc k) (zmi : fS 6 = mi) (zsn : fS 7 = sn) : Met l yX12_build wsX12_build ({ frames := 6, cells := 0, slots := 0, locals := 147 } : Room) (va_Pc [.ref m0, .int x, .int y, .int z] (fun U => U.heap.size = sz ∧ va_P (dC, dI) vwCl [(zo14irriiiiiirriirrrrlriiii m0 th aS aI im ac sp en wg op aB aT se dn aG aO aN aD bv aY rn kd nu tv), (zaI aS cS 901 fS), (zaI aB cB 6 fB), (zaI aT cT 64 fT), (zaI aG cG 9 fG)] U.heap ∧ va_K (dC, dI) vwCl [(cS, .int), (cB, .int), (cT, .boolean), (cG, .int)] U ∧ va_D (fun _ => True) [(zo14irriiiiiirriirrrrlriiii m0 th aS aI im ac sp en wg op aB aT se dn aG aO aN aD bv aY rn kd nu tv), (zaI aS cS 901 fS), (zaI aB cB 6 fB), (zaI aT cT 64 fT), (zaI aG cG 9 fG)])) (va_Qi (fun (r : Int32) (u : (Nat → Int32) × (Nat → Int32) × (Int32) × (Int32) × (Nat → Int32) × (Nat → Int32)) => match u with | (fB9, fT9, se9, dn9, fG9, fS9) => r = bdR n yk yv yc cz mi sn x y z ∧ ∀ i, i ≠ 10 + n → i ≠ 19 + n → i ≠ 28 + n → fS9 i = fS i) (fun (u : (Nat → Int32) × (Nat → Int32) × (Int32) × (Int32) × (Nat → Int32) × (Nat → Int32)) (t : State) => match u with | (fB9, fT9, se9, dn9, fG9, fS9) => va_P (dC, dI) vwCl [(zo14irriiiiiirriirrrrlriiii m0 th aS aI im ac sp en wg op aB aT se9 dn9 aG aO aN aD bv aY rn kd nu tv), (zaI aS cS 901 fS9), (zaI aB cB 6 fB9), (zaI aT cT 64 fT9), (zaI aG cG 9 fG9)] t.heap ∧ va_K (dC, dI) vwCl [(cS, .int), (cB, .int), (cT, .boolean), (cG, .int)] t ∧ va_D (va_A [(zo14irriiiiiirriirrrrlriiii m0 th aS aI im ac sp en wg op aB aT se dn aG aO aN aD bv aY rn kd nu tv), (zaI aS cS 901 fS), (zaI aB cB 6 fB), (zaI aT cT 64 fT), (zaI aG cG 9 fG)] sz) [(zo14irriiiiiirriirrrrlriiii m0 th aS aI im ac sp en wg op aB aT se9 dn9 aG aO aN aD bv aY rn kd nu tv), (zaI aS cS 901 fS9), (zaI aB cB 6 fB9), (zaI aT cT 64 fT9), (zaI aG cG 9 fG9)]) (va_A [(zo14irriiiiiirriirrrrlriiii m0 th aS aI im ac sp en wg op aB aT se dn aG aO aN aD bv aY rn kd nu tv), (zaI aS cS 901 fS), (zaI aB cB 6 fB), (zaI aT cT 64 fT), (zaI aG cG 9 fG)] sz)) 0 0 (va_A [(zo14irriiiiiirriirrrrlriiii m0 th aS aI im ac sp en wg op aB aT se dn aG aO aN aD bv aY rn kd nu tv), (zaI aS cS 901 fS), (zaI aB cB 6 fB), (zaI aT cT 64 fT), (zaI aG cG 9 fG)] sz) := by
  refine met_ofQ (cc := cX12_build) (maxL := 9) (ret := (some .int)) (by decide) rfl ?_
  intro p e s m args below meth c s₁ Q B hml hv hQ
  obtain ⟨rfl, hsz, hP, hK, hD0⟩ := hv
  have hx := B.exec
  have hb := B.bytes
  have hr := B.returns
  have hts := atoms_spec (ws := wsX12_build) B.pre
  have hown : s.vm.findClass RX12 = some m.cls := findClass_of_methodNamed B.named
  have hlocks := B.notSynchronized
  subst hsz
  have hD := hD0.self (sz := s.heap.size)
  generalize hAe : va_A [(zo14irriiiiiirriirrrrlriiii m0 th aS aI im ac sp en wg op aB aT se dn aG aO aN aD bv aY rn kd nu tv), (zaI aS cS 901 fS), (zaI aB cB 6 fB), (zaI aT cT 64 fT), (zaI aG cG 9 fG)] s.heap.size = A at hD hQ ⊢
  have hA : ∀ q : Nat, s.heap.size ≤ q → A q := fun q h => by rw [← hAe]; exact Or.inr h
  have hS : va_S A s.heap s.heap [] := va_S.rf
  have hl := lv_entry [.ref m0, .int x, .int y, .int z] (n := 9) (Nat.le_of_ble_eq_true rfl)
  rw [lg_entry_eq]
  generalize (lg_sl [.ref m0, .int x, .int y, .int z] ++ List.replicate (9 - (lg_sl [.ref m0, .int x, .int y, .int z]).length) Slot.unset).toArray = ls at hl ⊢
  generalize hag : ([.ref m0, .int x, .int y, .int z] : List Value).toArray = args at hts hQ ⊢
  have hl : lv_has ls 9 [(0, .ref m0), (1, .int x), (2, .int y), (3, .int z)] := hl
  obtain ⟨H, hH⟩ : ∃ H : Heap, H = s.heap := ⟨_, rfl⟩
  rw [← hH] at hP
  rw [← hH]
  have hS : va_S A s.heap H [] := by rw [hH]; exact hS
  obtain ⟨locs, hlo⟩ : ∃ L : List Loc, L = [] := ⟨_, rfl⟩
  rw [← hlo] at hS
  rw [← hlo]
  clear hH hlo
  refine lv_aload_n hx hb dX12_build_0 rfl (lv_at hl 0 rfl) ?_
  refine lv_iload_n hx hb dX12_build_1 rfl (lv_at hl 1 rfl) ?_
  have hPc := hP.sub (ws' := [(zo14irriiiiiirriirrrrlriiii m0 th aS aI im ac sp en wg op aB aT se dn aG aO aN aD bv aY rn kd nu tv), (zaI aS cS 901 fS)]) [0, 1] rfl
  have hKc := hK.sub (tys' := [(cS, .int)]) [0] rfl
  refine vp_callSi (va_runV (As := [.int x]) (rest := []) ⟨hx, hb, hml, hown, hts⟩ (c_isHeap l dC dI m0 aS aI aB aT aG aO aN aD aY th im ac sp en wg op se dn rn kd nu tv bv cS fS n x (zn) (hn)) (cwV 1 hts gX12_build_X12_isHeap rfl rfl rfl hd_yX12_isHeap ⟨Nat.le_of_ble_eq_true rfl, Nat.le_of_ble_eq_true rfl⟩) ⟨fun a U g mk q => by obtain ⟨q0, qP, qK⟩ := q; exact ⟨q0, mvP g mk a qP, mvK g mk a qK⟩, va_recv hK hP (ci := 14) (q := (RX12, TX12, 23)) (q0 := 0) rfl rfl, fun U hU hW => ⟨rfl, by rw [hU]; exact hPc, va_K.moved hW.alike hKc⟩⟩ rfl rfl hl.1 rfl (lv_room (Nat.le_of_ble_eq_true rfl)) dX12_build_2 ⟨Nat.le_of_ble_eq_true rfl, Nat.le_of_ble_eq_true rfl⟩).run (fun r_1 hw_2 => ?_)
  rcases hw_2 with ⟨rfl, j_3, hj_4, rfl⟩ | ⟨rfl, h_5⟩
  · skip
    refine lv_if_eq (tgt := 25) hx hb dX12_build_5 (by decide) (fun c_6 => absurd c_6 (by decide)) (fun _ => ?_)
    refine lv_aload_n hx hb dX12_build_8 rfl (lv_at hl 0 rfl) ?_
    refine lv_iload_n hx hb dX12_build_9 rfl (lv_at hl 2 rfl) ?_
    have hPc := hP.sub (ws' := [(zo14irriiiiiirriirrrrlriiii m0 th aS aI im ac sp en wg op aB aT se dn aG aO aN aD bv aY rn kd nu tv), (zaI aS cS 901 fS)]) [0, 1] rfl
    have hKc := hK.sub (tys' := [(cS, .int)]) [0] rfl
    refine vp_callSi (va_runV (As := [.int y]) (rest := []) ⟨hx, hb, hml, hown, hts⟩ (c_isHeap l dC dI m0 aS aI aB aT aG aO aN aD aY th im ac sp en wg op se dn rn kd nu tv bv cS fS n y (zn) (hn)) (cwV 1 hts gX12_build_X12_isHeap rfl rfl rfl hd_yX12_isHeap ⟨Nat.le_of_ble_eq_true rfl, Nat.le_of_ble_eq_true rfl⟩) ⟨fun a U g mk q => by obtain ⟨q0, qP, qK⟩ := q; exact ⟨q0, mvP g mk a qP, mvK g mk a qK⟩, va_recv hK hP (ci := 14) (q := (RX12, TX12, 23)) (q0 := 0) rfl rfl, fun U hU hW => ⟨rfl, by rw [hU]; exact hPc, va_K.moved hW.alike hKc⟩⟩ rfl rfl hl.1 rfl (lv_room (Nat.le_of_ble_eq_true rfl)) dX12_build_10 ⟨Nat.le_of_ble_eq_true rfl, Nat.le_of_ble_eq_true rfl⟩).run (fun r_7 hw_8 => ?_)
    rcases hw_8 with ⟨rfl, j_9, hj_10, rfl⟩ | ⟨rfl, h_11⟩
    · skip
      refine lv_if_eq (tgt := 25) hx hb dX12_build_13 (by decide) (fun c_12 => absurd c_12 (by decide)) (fun _ => ?_)
      refine lv_iload_n hx hb dX12_build_16 rfl (lv_at hl 3 rfl) ?_
      refine lv_iconst (v := 0) hx hb dX12_build_17 (by decide) ?_
      refine lv_iconst (v := 1) hx hb dX12_build_18 (by decide) ?_
      refine vp_callSi (va_runS (As := [.int z, .int 0, .int 1]) (rest := []) ⟨hx, hb, hml, hown, hts⟩ (c_in l dC dI z 0 1) (va_cwS 3 hts gX12_build_X12_in rfl rfl rfl hd_yX12_in.2 ⟨Nat.le_of_ble_eq_true rfl, Nat.le_of_ble_eq_true rfl⟩) ⟨fun a U g mk q => ⟨q.1, trivial⟩, fun U hU hW => ⟨rfl, trivial⟩⟩ rfl rfl hl.1 rfl (lv_room (Nat.le_of_ble_eq_true rfl)) dX12_build_19 ⟨Nat.le_of_ble_eq_true rfl, Nat.le_of_ble_eq_true rfl⟩).run (fun r_13 hw_14 => ?_)
      rcases hw_14 with ⟨rfl, h_15, h_16⟩ | ⟨rfl, h_17⟩
      · skip
        refine lv_if_ne (tgt := 27) hx hb dX12_build_22 (by decide) (fun _ => ?_) (fun c_18 => absurd c_18 (by decide))
        refine lv_aload_n hx hb dX12_build_27 rfl (lv_at hl 0 rfl) ?_
        refine va_get (D := (dC, dI)) (ci := 14) (v := .ref aS) (C := RX12) (T := TX12) (N := 23) hx hb hts kc_mBuild_0 hown hK hP 0 rfl rfl 1 (by decide) (hts (.fieldLink RX12 9 "MistHeapsModel" "s" "[I") kc_mBuild_1) (fun _ h9 => h9) rfl dX12_build_28 ?_
        refine lv_iconst (v := 0) hx hb dX12_build_31 (by decide) ?_
        refine va_iald hx hb hK hP 1 0 rfl rfl (vp_in_nI (n := 0) (N := 901) (by omega) (by omega)) dX12_build_32 ?_
        refine qi_as (y := nI n) ((show fS (0 : Int32).toNatClampNeg = fS 0 from rfl).trans (zn)) ?_
        refine lv_bipush (v := 8) hx hb dX12_build_33 (by decide) ?_
        refine lv_icmp_ne (tgt := 41) hx hb dX12_build_35 (by decide) (fun c_19 => ?_) (fun c_19 => ?_)
        · skip
          have c_19 : ¬ n = 8 := fun q => c_19 ((nI_eq (a := n) (b := 8) (by omega) (by omega)).mpr q)
          refine lv_aload_n hx hb dX12_build_41 rfl (lv_at hl 0 rfl) ?_
          refine lv_iload_n hx hb dX12_build_42 rfl (lv_at hl 1 rfl) ?_
          refine lv_iload_n hx hb dX12_build_43 rfl (lv_at hl 2 rfl) ?_
          have hPc := hP.sub (ws' := [(zo14irriiiiiirriirrrrlriiii m0 th aS aI im ac sp en wg op aB aT se dn aG aO aN aD bv aY rn kd nu tv), (zaI aS cS 901 fS), (zaI aB cB 6 fB), (zaI aT cT 64 fT), (zaI aG cG 9 fG)]) [0, 1, 2, 3, 4] rfl
          have hDc := hD.sub (ws' := [(zo14irriiiiiirriirrrrlriiii m0 th aS aI im ac sp en wg op aB aT se dn aG aO aN aD bv aY rn kd nu tv), (zaI aS cS 901 fS), (zaI aB cB 6 fB), (zaI aT cT 64 fT), (zaI aG cG 9 fG)]) [0, 1, 2, 3, 4] (by decide) rfl
          have hKc := hK.sub (tys' := [(cS, .int), (cB, .int), (cT, .boolean), (cG, .int)]) [0, 1, 2, 3] rfl
          have hFc := va_free (wc := [(zo14irriiiiiirriirrrrlriiii m0 th aS aI im ac sp en wg op aB aT se dn aG aO aN aD bv aY rn kd nu tv), (zaI aS cS 901 fS), (zaI aB cB 6 fB), (zaI aT cT 64 fT), (zaI aG cG 9 fG)]) hD hS hA [0, 1, 2, 3, 4] rfl
          refine va_calli (va_runV (As := [.int (nI j_3), .int (nI j_9)]) (rest := []) ⟨hx, hb, hml, hown, hts⟩ (c_stepsOf l dC dI m0 aS aI aB aT aG aO aN aD aY th im ac sp en wg op se dn rn kd nu tv bv cS cB cT cG fS fB fT fG n (nI j_3) (nI j_9) cz H.size (zn) (hn) (zh)) (cwV 2 hts gX12_build_X12_stepsOf rfl rfl rfl hd_yX12_stepsOf ⟨Nat.le_of_ble_eq_true rfl, Nat.le_of_ble_eq_true rfl⟩) ⟨fun a U g mk q => by obtain ⟨q0, q1, qP, qK, qD⟩ := q; exact ⟨q0, mvz g mk a q1, mvP g mk a qP, mvK g mk a qK, qD⟩, va_recv hK hP (ci := 14) (q := (RX12, TX12, 23)) (q0 := 0) rfl rfl, fun U hU hW => ⟨rfl, by rw [hU], by rw [hU]; exact hPc, va_K.moved hW.alike hKc, hDc.weaken (fun _ _ _ _ => trivial)⟩⟩ rfl rfl hl.1 rfl (lv_room (Nat.le_of_ble_eq_true rfl)) dX12_build_44 ⟨Nat.le_of_ble_eq_true rfl, Nat.le_of_ble_eq_true rfl⟩) hS (fun q _ h => hFc q h) hFc (fun r_20 u tC H1 locs htC hvm hw_21 hB hz1 hk1 hS => ?_)
          obtain ⟨fB9_22, fT9_23, se9_24, dn9_25, fG9_26⟩ := u
          try dsimp only at hw_21 hB
          obtain ⟨hP1, hK1, hD1⟩ := hB
          rw [htC] at hP1
          have hK1 := va_K.moved hvm.symm hK1
          obtain ⟨hP, hD⟩ := va_join (wr := []) (w1 := [(zo14irriiiiiirriirrrrlriiii m0 th aS aI im ac sp en wg op aB aT se9_24 dn9_25 aG aO aN aD bv aY rn kd nu tv), (zaI aS cS 901 fS), (zaI aB cB 6 fB9_22), (zaI aT cT 64 fT9_23), (zaI aG cG 9 fG9_26)]) hP hD [0, 1, 2, 3, 4] [] rfl rfl (by decide) (by decide) hk1 hFc hP1 hD1
          have hK := (hK.sub (tys' := []) [] rfl).app hK1
          generalize H1 = H at hP hS ⊢
          have hP : va_P (dC, dI) vwCl [(zo14irriiiiiirriirrrrlriiii m0 th aS aI im ac sp en wg op aB aT se9_24 dn9_25 aG aO aN aD bv aY rn kd nu tv), (zaI aS cS 901 fS), (zaI aB cB 6 fB9_22), (zaI aT cT 64 fT9_23), (zaI aG cG 9 fG9_26)] H := hP
          have hD : va_D A [(zo14irriiiiiirriirrrrlriiii m0 th aS aI im ac sp en wg op aB aT se9_24 dn9_25 aG aO aN aD bv aY rn kd nu tv), (zaI aS cS 901 fS), (zaI aB cB 6 fB9_22), (zaI aT cT 64 fT9_23), (zaI aG cG 9 fG9_26)] := hD
          have hK : va_K (dC, dI) vwCl [(cS, .int), (cB, .int), (cT, .boolean), (cG, .int)] s := hK
          obtain ⟨hs1, rfl⟩ := hw_21
          refine lv_istore (lv' := [(4, .int (fsR fG9_26 n (nI j_3) (nI j_9) 0)), (0, .ref m0), (1, .int (nI j_3)), (2, .int (nI j_9)), (3, .int z)]) hx hb dX12_build_47 hl (by decide) rfl (fun ls hl => ?_)
          obtain ⟨G9, hG9⟩ : ∃ G : Nat → Int32 × Int32, G = bdP n yk yv yc cz mi sn (nI j_3) (nI j_9) := ⟨_, rfl⟩
          refine lv_bipush (v := (-5)) hx hb dX12_build_49 (by decide) ?_
          refine lv_istore (lv' := [(5, .int (-5)), (4, .int (fsR fG9_26 n (nI j_3) (nI j_9) 0)), (0, .ref m0), (1, .int (nI j_3)), (2, .int (nI j_9)), (3, .int z)]) hx hb dX12_build_51 hl (by decide) rfl (fun ls hl => ?_)
          refine lv_iconst (v := 0) hx hb dX12_build_53 (by decide) ?_
          refine lv_istore (lv' := [(6, .int 0), (5, .int (-5)), (4, .int (fsR fG9_26 n (nI j_3) (nI j_9) 0)), (0, .ref m0), (1, .int (nI j_3)), (2, .int (nI j_9)), (3, .int z)]) hx hb dX12_build_54 hl (by decide) rfl (fun ls hl => ?_)
          have L56 : ∀ (nF : Nat) (i : Nat) (se2 : Int32) (dn2 : Int32) (fB2 : Nat → Int32) (fT2 : Nat → Int32) (fG2 : Nat → Int32) (q : Int32) (q2 : Int32) (f : Nat → Int32), 36 - i < nF → (i ≤ 36) → (∀ i, i ≠ 10 + n → i ≠ 19 + n → i ≠ 28 + n → f i = fS i) → (q2 = (G9 i).1 ∧ q = (G9 i).2) → ∀ (H : Heap) (locs : List Loc), va_K (dC, dI) vwCl [(cS, .int), (cB, .int), (cT, .boolean), (cG, .int)] s → va_P (dC, dI) vwCl [(zo14irriiiiiirriirrrrlriiii m0 th aS aI im ac sp en wg op aB aT se2 dn2 aG aO aN aD bv aY rn kd nu tv), (zaI aS cS 901 f), (zaI aB cB 6 fB2), (zaI aT cT 64 fT2), (zaI aG cG 9 fG2)] H → va_D A [(zo14irriiiiiirriirrrrlriiii m0 th aS aI im ac sp en wg op aB aT se2 dn2 aG aO aN aD bv aY rn kd nu tv), (zaI aS cS 901 f), (zaI aB cB 6 fB2), (zaI aT cT 64 fT2), (zaI aG cG 9 fG2)] → va_S A s.heap H locs → ∀ (ls : Array Slot), lv_has ls 9 [(0, .ref m0), (1, .int (nI j_3)), (2, .int (nI j_9)), (3, .int z), (4, .int q), (5, .int q2), (6, .int (nI i))] → W p l e ({ frames := 6, cells := 0, slots := 0, locals := 147 } : Room) s m args below meth c H locs 0 0 Q (F0 m 56 ls []) := by
            intro nF
            induction nF with
            | zero => intro i se2 dn2 fB2 fT2 fG2 q q2 f hm; exact absurd hm (Nat.not_lt_zero _)
            | succ nF ih56 =>
              intro i se2 dn2 fB2 fT2 fG2 q q2 f hm hii zf hq9 H locs hK hP hD hS ls hl
              refine lv_iload hx hb dX12_build_56 (lv_at hl 6 rfl) ?_
              refine lv_bipush (v := 36) hx hb dX12_build_58 (by decide) ?_
              refine lv_icmp_ge (tgt := 162) hx hb dX12_build_60 (by decide) (fun c_27 => ?_) (fun c_27 => ?_)
              · skip
                have c_27 : 36 ≤ i := (nI_leI (a := 36) (b := i) (by omega) (by omega)).mp c_27
                refine lv_iload hx hb dX12_build_162 (lv_at hl 5 rfl) ?_
                refine lv_bipush (v := (-5)) hx hb dX12_build_164 (by decide) ?_
                refine lv_icmp_eq (tgt := 173) hx hb dX12_build_166 (by decide) (fun c_28 => ?_) (fun c_28 => ?_)
                · skip
                  refine lv_iload hx hb dX12_build_173 (lv_at hl 5 rfl) ?_
                  refine lv_goto (tgt := 180) hx hb dX12_build_175 (by decide) ?_
                  rw [hQ]
                  have hP9 := hP.sub (ws' := [(zo14irriiiiiirriirrrrlriiii m0 th aS aI im ac sp en wg op aB aT se2 dn2 aG aO aN aD bv aY rn kd nu tv), (zaI aS cS 901 f), (zaI aB cB 6 fB2), (zaI aT cT 64 fT2), (zaI aG cG 9 fG2)]) [0, 1, 2, 3, 4] rfl
                  have hD9 := hD.sub (ws' := [(zo14irriiiiiirriirrrrlriiii m0 th aS aI im ac sp en wg op aB aT se2 dn2 aG aO aN aD bv aY rn kd nu tv), (zaI aS cS 901 f), (zaI aB cB 6 fB2), (zaI aT cT 64 fT2), (zaI aG cG 9 fG2)]) [0, 1, 2, 3, 4] (by decide) rfl
                  have hK9 := hK.sub (tys' := [(cS, .int), (cB, .int), (cT, .boolean), (cG, .int)]) [0, 1, 2, 3] rfl
                  exact W.iret (v := q2) hx hb hr (fun tQ htQ hWQ => ⟨⟨q2, (fB2, fT2, se2, dn2, fG2, f), rfl, ⟨bd_a (by omega) (by omega) (by assumption) (by assumption) (by omega) hG9 hq9 (by omega) (Or.inl c_28), zf⟩, by rw [htQ]; exact hP9, va_K.moved hWQ.alike hK9, hD9⟩, hS.F htQ⟩) hS.2.2 dX12_build_180
                · skip
                  refine lv_iload_n hx hb dX12_build_169 rfl (lv_at hl 3 rfl) ?_
                  refine lv_if_ne (tgt := 178) hx hb dX12_build_170 (by decide) (fun c_29 => ?_) (fun c_29 => ?_)
                  · skip
                    refine lv_iload hx hb dX12_build_178 (lv_at hl 4 rfl) ?_
                    rw [hQ]
                    have hP9 := hP.sub (ws' := [(zo14irriiiiiirriirrrrlriiii m0 th aS aI im ac sp en wg op aB aT se2 dn2 aG aO aN aD bv aY rn kd nu tv), (zaI aS cS 901 f), (zaI aB cB 6 fB2), (zaI aT cT 64 fT2), (zaI aG cG 9 fG2)]) [0, 1, 2, 3, 4] rfl
                    have hD9 := hD.sub (ws' := [(zo14irriiiiiirriirrrrlriiii m0 th aS aI im ac sp en wg op aB aT se2 dn2 aG aO aN aD bv aY rn kd nu tv), (zaI aS cS 901 f), (zaI aB cB 6 fB2), (zaI aT cT 64 fT2), (zaI aG cG 9 fG2)]) [0, 1, 2, 3, 4] (by decide) rfl
                    have hK9 := hK.sub (tys' := [(cS, .int), (cB, .int), (cT, .boolean), (cG, .int)]) [0, 1, 2, 3] rfl
                    exact W.iret (v := q) hx hb hr (fun tQ htQ hWQ => ⟨⟨q, (fB2, fT2, se2, dn2, fG2, f), rfl, ⟨bd_b (by omega) (by omega) (by assumption) (by assumption) (by omega) hG9 hq9 (by omega) c_28 c_29, zf⟩, by rw [htQ]; exact hP9, va_K.moved hWQ.alike hK9, hD9⟩, hS.F htQ⟩) hS.2.2 dX12_build_180
                  · skip
                    refine lv_iload hx hb dX12_build_173 (lv_at hl 5 rfl) ?_
                    refine lv_goto (tgt := 180) hx hb dX12_build_175 (by decide) ?_
                    rw [hQ]
                    have hP9 := hP.sub (ws' := [(zo14irriiiiiirriirrrrlriiii m0 th aS aI im ac sp en wg op aB aT se2 dn2 aG aO aN aD bv aY rn kd nu tv), (zaI aS cS 901 f), (zaI aB cB 6 fB2), (zaI aT cT 64 fT2), (zaI aG cG 9 fG2)]) [0, 1, 2, 3, 4] rfl
                    have hD9 := hD.sub (ws' := [(zo14irriiiiiirriirrrrlriiii m0 th aS aI im ac sp en wg op aB aT se2 dn2 aG aO aN aD bv aY rn kd nu tv), (zaI aS cS 901 f), (zaI aB cB 6 fB2), (zaI aT cT 64 fT2), (zaI aG cG 9 fG2)]) [0, 1, 2, 3, 4] (by decide) rfl
                    have hK9 := hK.sub (tys' := [(cS, .int), (cB, .int), (cT, .boolean), (cG, .int)]) [0, 1, 2, 3] rfl
                    exact W.iret (v := q2) hx hb hr (fun tQ htQ hWQ => ⟨⟨q2, (fB2, fT2, se2, dn2, fG2, f), rfl, ⟨bd_a (by omega) (by omega) (by assumption) (by assumption) (by omega) hG9 hq9 (by omega) (Or.inr c_29), zf⟩, by rw [htQ]; exact hP9, va_K.moved hWQ.alike hK9, hD9⟩, hS.F htQ⟩) hS.2.2 dX12_build_180
              · skip
                have c_27 : ¬ 36 ≤ i := fun q => c_27 ((nI_leI (a := 36) (b := i) (by omega) (by omega)).mpr q)
                refine lv_aload_n hx hb dX12_build_63 rfl (lv_at hl 0 rfl) ?_
                refine lv_iload hx hb dX12_build_64 (lv_at hl 6 rfl) ?_
                have hPc := hP.sub (ws' := [(zo14irriiiiiirriirrrrlriiii m0 th aS aI im ac sp en wg op aB aT se2 dn2 aG aO aN aD bv aY rn kd nu tv), (zaI aS cS 901 f)]) [0, 1] rfl
                have hKc := hK.sub (tys' := [(cS, .int)]) [0] rfl
                refine vp_callSi (va_runV (As := [.int (nI i)]) (rest := []) ⟨hx, hb, hml, hown, hts⟩ (c_heapOn l dC dI m0 aS aI aB aT aG aO aN aD aY th im ac sp en wg op se2 dn2 rn kd nu tv bv cS f n yc (nI i) ((zf 0 (by omega) (by omega) (by omega)).trans zn) (hn) (fun k hk => (zf _ (by omega) (by omega) (by omega)).trans (zc k hk))) (cwV 1 hts gX12_build_X12_heapOn rfl rfl rfl hd_yX12_heapOn ⟨Nat.le_of_ble_eq_true rfl, Nat.le_of_ble_eq_true rfl⟩) ⟨fun a U g mk q => by obtain ⟨q0, qP, qK⟩ := q; exact ⟨q0, mvP g mk a qP, mvK g mk a qK⟩, va_recv hK hP (ci := 14) (q := (RX12, TX12, 23)) (q0 := 0) rfl rfl, fun U hU hW => ⟨rfl, by rw [hU]; exact hPc, va_K.moved hW.alike hKc⟩⟩ rfl rfl hl.1 rfl (lv_room (Nat.le_of_ble_eq_true rfl)) dX12_build_66 ⟨Nat.le_of_ble_eq_true rfl, Nat.le_of_ble_eq_true rfl⟩).run (fun r_30 hw_31 => ?_)
                refine lv_iconst (v := (-1)) hx hb dX12_build_69 (by decide) ?_
                refine lv_icmp_ne (tgt := 156) hx hb dX12_build_70 (by decide) (fun c_32 => ?_) (fun c_32 => ?_)
                · skip
                  have ht9 : ∃ k, k < n ∧ yc k = nI i := by rcases hw_31 with ⟨z1, _⟩ | ⟨_, z2⟩; exact absurd z1 c_32; exact z2
                  refine lv_iinc (v := nI (i + 1)) (lv' := [(6, .int (nI (i + 1))), (0, .ref m0), (1, .int (nI j_3)), (2, .int (nI j_9)), (3, .int z), (4, .int q), (5, .int q2)]) hx hb dX12_build_156 hl (k := 6) rfl (nI_add i 1) (by decide) rfl (fun ls hl => ?_)
                  refine lv_goto (tgt := 56) hx hb dX12_build_159 (by decide) ?_
                  exact ih56 (i + 1) _ _ _ _ _ (q) (q2) (f) (by omega) (by omega) (zf) (bc_t hG9 hq9 ht9) _ _ (hK.sub [0, 1, 2, 3] rfl) (hP.sub [0, 1, 2, 3, 4] rfl) (hD.sub [0, 1, 2, 3, 4] (by decide) rfl) hS ls (lv_sub hl [1, 2, 3, 4, 5, 6, 0] rfl)
                · skip
                  have ht9 : ¬ ∃ k, k < n ∧ yc k = nI i := by rcases hw_31 with ⟨_, z2⟩ | ⟨z1, _⟩; exact fun ⟨k9, h8, h9⟩ => z2 k9 h8 h9; exact absurd c_32 z1
                  refine lv_aload_n hx hb dX12_build_73 rfl (lv_at hl 0 rfl) ?_
                  refine lv_iconst (v := 0) hx hb dX12_build_74 (by decide) ?_
                  refine lv_iconst (v := 0) hx hb dX12_build_75 (by decide) ?_
                  refine lv_iload hx hb dX12_build_76 (lv_at hl 6 rfl) ?_
                  have hPc := hP.sub (ws' := [(zo14irriiiiiirriirrrrlriiii m0 th aS aI im ac sp en wg op aB aT se2 dn2 aG aO aN aD bv aY rn kd nu tv), (zaI aS cS 901 f)]) [0, 1] rfl
                  have hDc := hD.sub (ws' := [(zo14irriiiiiirriirrrrlriiii m0 th aS aI im ac sp en wg op aB aT se2 dn2 aG aO aN aD bv aY rn kd nu tv), (zaI aS cS 901 f)]) [0, 1] (by decide) rfl
                  have hKc := hK.sub (tys' := [(cS, .int)]) [0] rfl
                  have hFc := va_free (wc := [(zo14irriiiiiirriirrrrlriiii m0 th aS aI im ac sp en wg op aB aT se2 dn2 aG aO aN aD bv aY rn kd nu tv), (zaI aS cS 901 f)]) hD hS hA [0, 1] rfl
                  refine va_calli (va_runV (As := [.int 0, .int 0, .int (nI i)]) (rest := []) ⟨hx, hb, hml, hown, hts⟩ (c_puts l dC dI m0 aS aI aB aT aG aO aN aD aY th im ac sp en wg op se2 dn2 rn kd nu tv bv cS f n 0 0 (nI i) H.size ((zf 0 (by omega) (by omega) (by omega)).trans zn) (hn)) (cwV 3 hts gX12_build_X12_puts rfl rfl rfl hd_yX12_puts ⟨Nat.le_of_ble_eq_true rfl, Nat.le_of_ble_eq_true rfl⟩) ⟨fun a U g mk q => by obtain ⟨q0, q1, qP, qK, qD⟩ := q; exact ⟨q0, mvz g mk a q1, mvP g mk a qP, mvK g mk a qK, qD⟩, va_recv hK hP (ci := 14) (q := (RX12, TX12, 23)) (q0 := 0) rfl rfl, fun U hU hW => ⟨rfl, by rw [hU], by rw [hU]; exact hPc, va_K.moved hW.alike hKc, hDc.weaken (fun _ _ _ _ => trivial)⟩⟩ rfl rfl hl.1 rfl (lv_room (Nat.le_of_ble_eq_true rfl)) dX12_build_78 ⟨Nat.le_of_ble_eq_true rfl, Nat.le_of_ble_eq_true rfl⟩) hS (fun q _ h => hFc q h) hFc (fun r_33 u tC H1 locs htC hvm hw_34 hB hz1 hk1 hS => ?_)
                  obtain ⟨fS9_35, rfl⟩ : ∃ z, z = u := ⟨_, rfl⟩
                  try dsimp only at hw_34 hB
                  obtain ⟨hP1, hK1, hD1⟩ := hB
                  rw [htC] at hP1
                  have hK1 := va_K.moved hvm.symm hK1
                  obtain ⟨hP, hD⟩ := va_join (wr := [(zaI aB cB 6 fB2), (zaI aT cT 64 fT2), (zaI aG cG 9 fG2)]) (w1 := [(zo14irriiiiiirriirrrrlriiii m0 th aS aI im ac sp en wg op aB aT se2 dn2 aG aO aN aD bv aY rn kd nu tv), (zaI aS cS 901 fS9_35)]) hP hD [0, 1] [2, 3, 4] rfl rfl (by decide) (by decide) hk1 hFc hP1 hD1
                  have hK := (hK.sub (tys' := [(cB, .int), (cT, .boolean), (cG, .int)]) [1, 2, 3] rfl).app hK1
                  generalize H1 = H at hP hS ⊢
                  have hP : va_P (dC, dI) vwCl [(zaI aB cB 6 fB2), (zaI aT cT 64 fT2), (zaI aG cG 9 fG2), (zo14irriiiiiirriirrrrlriiii m0 th aS aI im ac sp en wg op aB aT se2 dn2 aG aO aN aD bv aY rn kd nu tv), (zaI aS cS 901 fS9_35)] H := hP
                  have hD : va_D A [(zaI aB cB 6 fB2), (zaI aT cT 64 fT2), (zaI aG cG 9 fG2), (zo14irriiiiiirriirrrrlriiii m0 th aS aI im ac sp en wg op aB aT se2 dn2 aG aO aN aD bv aY rn kd nu tv), (zaI aS cS 901 fS9_35)] := hD
                  have hK : va_K (dC, dI) vwCl [(cB, .int), (cT, .boolean), (cG, .int), (cS, .int)] s := hK
                  obtain ⟨er, e9⟩ := hw_34
                  have hp9 := put_row (show n < 8 by omega) e9 zf zkd zvv zc zmi zsn
                  have y0 : fS9_35 0 = nI (n + 1) := by rw [e9]; exact pk_us
                  have y1 : ∀ i, i ≠ 0 → i ≠ 10 + n → i ≠ 19 + n → i ≠ 28 + n → fS9_35 i = fS i := fun k k0 k1 k2 k3 => by rw [e9, pk_un k0, pk_un k3, pk_un k2, pk_un k1]; exact zf k k1 k2 k3
                  refine lv_pop hx hb dX12_build_81 rfl ?_
                  refine lv_aload_n hx hb dX12_build_82 rfl (lv_at hl 0 rfl) ?_
                  refine lv_iload_n hx hb dX12_build_83 rfl (lv_at hl 1 rfl) ?_
                  refine lv_iload_n hx hb dX12_build_84 rfl (lv_at hl 2 rfl) ?_
                  have hPc := hP.sub (ws' := [(zo14irriiiiiirriirrrrlriiii m0 th aS aI im ac sp en wg op aB aT se2 dn2 aG aO aN aD bv aY rn kd nu tv), (zaI aS cS 901 fS9_35), (zaI aB cB 6 fB2), (zaI aT cT 64 fT2), (zaI aG cG 9 fG2)]) [3, 4, 0, 1, 2] rfl
                  have hDc := hD.sub (ws' := [(zo14irriiiiiirriirrrrlriiii m0 th aS aI im ac sp en wg op aB aT se2 dn2 aG aO aN aD bv aY rn kd nu tv), (zaI aS cS 901 fS9_35), (zaI aB cB 6 fB2), (zaI aT cT 64 fT2), (zaI aG cG 9 fG2)]) [3, 4, 0, 1, 2] (by decide) rfl
                  have hKc := hK.sub (tys' := [(cS, .int), (cB, .int), (cT, .boolean), (cG, .int)]) [3, 0, 1, 2] rfl
                  have hFc := va_free (wc := [(zo14irriiiiiirriirrrrlriiii m0 th aS aI im ac sp en wg op aB aT se2 dn2 aG aO aN aD bv aY rn kd nu tv), (zaI aS cS 901 fS9_35), (zaI aB cB 6 fB2), (zaI aT cT 64 fT2), (zaI aG cG 9 fG2)]) hD hS hA [3, 4, 0, 1, 2] rfl
                  refine va_calli (va_runV (As := [.int (nI j_3), .int (nI j_9)]) (rest := []) ⟨hx, hb, hml, hown, hts⟩ (c_stepsOf l dC dI m0 aS aI aB aT aG aO aN aD aY th im ac sp en wg op se2 dn2 rn kd nu tv bv cS cB cT cG fS9_35 fB2 fT2 fG2 (n + 1) (nI j_3) (nI j_9) cz H.size (y0) (by omega) (hol_of zh (fun i _ hi => y1 i (by omega) (by omega) (by omega) (by omega)))) (cwV 2 hts gX12_build_X12_stepsOf rfl rfl rfl hd_yX12_stepsOf ⟨Nat.le_of_ble_eq_true rfl, Nat.le_of_ble_eq_true rfl⟩) ⟨fun a U g mk q => by obtain ⟨q0, q1, qP, qK, qD⟩ := q; exact ⟨q0, mvz g mk a q1, mvP g mk a qP, mvK g mk a qK, qD⟩, va_recv hK hP (ci := 14) (q := (RX12, TX12, 23)) (q0 := 3) rfl rfl, fun U hU hW => ⟨rfl, by rw [hU], by rw [hU]; exact hPc, va_K.moved hW.alike hKc, hDc.weaken (fun _ _ _ _ => trivial)⟩⟩ rfl rfl hl.1 rfl (lv_room (Nat.le_of_ble_eq_true rfl)) dX12_build_85 ⟨Nat.le_of_ble_eq_true rfl, Nat.le_of_ble_eq_true rfl⟩) hS (fun q _ h => hFc q h) hFc (fun r_36 u tC H1 locs htC hvm hw_37 hB hz1 hk1 hS => ?_)
                  obtain ⟨fB9_38, fT9_39, se9_40, dn9_41, fG9_42⟩ := u
                  try dsimp only at hw_37 hB
                  obtain ⟨hP1, hK1, hD1⟩ := hB
                  rw [htC] at hP1
                  have hK1 := va_K.moved hvm.symm hK1
                  obtain ⟨hP, hD⟩ := va_join (wr := []) (w1 := [(zo14irriiiiiirriirrrrlriiii m0 th aS aI im ac sp en wg op aB aT se9_40 dn9_41 aG aO aN aD bv aY rn kd nu tv), (zaI aS cS 901 fS9_35), (zaI aB cB 6 fB9_38), (zaI aT cT 64 fT9_39), (zaI aG cG 9 fG9_42)]) hP hD [3, 4, 0, 1, 2] [] rfl rfl (by decide) (by decide) hk1 hFc hP1 hD1
                  have hK := (hK.sub (tys' := []) [] rfl).app hK1
                  generalize H1 = H at hP hS ⊢
                  have hP : va_P (dC, dI) vwCl [(zo14irriiiiiirriirrrrlriiii m0 th aS aI im ac sp en wg op aB aT se9_40 dn9_41 aG aO aN aD bv aY rn kd nu tv), (zaI aS cS 901 fS9_35), (zaI aB cB 6 fB9_38), (zaI aT cT 64 fT9_39), (zaI aG cG 9 fG9_42)] H := hP
                  have hD : va_D A [(zo14irriiiiiirriirrrrlriiii m0 th aS aI im ac sp en wg op aB aT se9_40 dn9_41 aG aO aN aD bv aY rn kd nu tv), (zaI aS cS 901 fS9_35), (zaI aB cB 6 fB9_38), (zaI aT cT 64 fT9_39), (zaI aG cG 9 fG9_42)] := hD
                  have hK : va_K (dC, dI) vwCl [(cS, .int), (cB, .int), (cT, .boolean), (cG, .int)] s := hK
                  obtain ⟨hs1, rfl⟩ := hw_37
                  refine lv_istore (lv' := [(7, .int (fsR fG9_42 (n + 1) (nI j_3) (nI j_9) 0)), (0, .ref m0), (1, .int (nI j_3)), (2, .int (nI j_9)), (3, .int z), (4, .int q), (5, .int q2), (6, .int (nI i))]) hx hb dX12_build_88 hl (by decide) rfl (fun ls hl => ?_)
                  refine lv_aload_n hx hb dX12_build_90 rfl (lv_at hl 1 rfl) ?_
                  refine va_get (D := (dC, dI)) (ci := 14) (v := .ref aS) (C := RX12) (T := TX12) (N := 23) hx hb hts kc_mBuild_0 hown hK hP 0 rfl rfl 1 (by decide) (hts (.fieldLink RX12 9 "MistHeapsModel" "s" "[I") kc_mBuild_1) (fun _ h9 => h9) rfl dX12_build_91 ?_
                  refine lv_iconst (v := 0) hx hb dX12_build_94 (by decide) ?_
                  refine lv_dup2_11 hx hb dX12_build_95 rfl rfl ?_
                  refine va_iald hx hb hK hP 1 0 rfl rfl (vp_in_nI (n := 0) (N := 901) (by omega) (by omega)) dX12_build_96 ?_
                  refine qi_as (y := nI (n + 1)) ((show fS9_35 (0 : Int32).toNatClampNeg = fS9_35 0 from rfl).trans (y0)) ?_
                  refine lv_iconst (v := 1) hx hb dX12_build_97 (by decide) ?_
                  refine lv_isub hx hb dX12_build_98 ?_
                  refine qi_as (y := nI ((n + 1) - 1)) (pk_sub (a := n + 1) (b := 1) (by omega)) ?_
                  refine va_iast hx hb hK hP hD hS 1 0 rfl rfl (vp_in_nI (n := 0) (N := 901) (by omega) (by omega)) dX12_build_99 (fun H locs hP hD hS => ?_)
                  have hP : va_P (dC, dI) vwCl [(zo14irriiiiiirriirrrrlriiii m0 th aS aI im ac sp en wg op aB aT se9_40 dn9_41 aG aO aN aD bv aY rn kd nu tv), (zaI aS cS 901 (upd fS9_35 0 (nI ((n + 1) - 1)))), (zaI aB cB 6 fB9_38), (zaI aT cT 64 fT9_39), (zaI aG cG 9 fG9_42)] H := hP
                  have hD : va_D A [(zo14irriiiiiirriirrrrlriiii m0 th aS aI im ac sp en wg op aB aT se9_40 dn9_41 aG aO aN aD bv aY rn kd nu tv), (zaI aS cS 901 (upd fS9_35 0 (nI ((n + 1) - 1)))), (zaI aB cB 6 fB9_38), (zaI aT cT 64 fT9_39), (zaI aG cG 9 fG9_42)] := hD
                  obtain ⟨f3, ef3⟩ : ∃ g : Nat → Int32, g = upd fS9_35 0 (nI (n + 1 - 1)) := ⟨_, rfl⟩
                  have z3 : ∀ i, i ≠ 10 + n → i ≠ 19 + n → i ≠ 28 + n → f3 i = fS i := fun k k1 k2 k3 => by
                    by_cases k0 : k = 0
                    · subst k0; rw [ef3]; exact pk_us.trans ((congrArg nI (show n + 1 - 1 = n by omega)).trans zn.symm)
                    · rw [ef3, pk_un k0]; exact y1 k k0 k1 k2 k3
                  rw [show upd fS9_35 0 (nI ((n + 1) - 1)) = f3 from ef3.symm] at hP hD
                  have hP : va_P (dC, dI) vwCl [(zo14irriiiiiirriirrrrlriiii m0 th aS aI im ac sp en wg op aB aT se9_40 dn9_41 aG aO aN aD bv aY rn kd nu tv), (zaI aS cS 901 f3), (zaI aB cB 6 fB9_38), (zaI aT cT 64 fT9_39), (zaI aG cG 9 fG9_42)] H := hP
                  have hD : va_D A [(zo14irriiiiiirriirrrrlriiii m0 th aS aI im ac sp en wg op aB aT se9_40 dn9_41 aG aO aN aD bv aY rn kd nu tv), (zaI aS cS 901 f3), (zaI aB cB 6 fB9_38), (zaI aT cT 64 fT9_39), (zaI aG cG 9 fG9_42)] := hD
                  refine lv_iload hx hb dX12_build_100 (lv_at hl 0 rfl) ?_
                  refine lv_bipush (v := (-5)) hx hb dX12_build_102 (by decide) ?_
                  refine lv_icmp_eq (tgt := 125) hx hb dX12_build_104 (by decide) (fun c_43 => ?_) (fun c_43 => ?_)
                  · skip
                    refine lv_iconst (v := 0) hx hb dX12_build_125 (by decide) ?_
                    refine lv_istore (lv' := [(8, .int 0), (7, .int (fsR fG9_42 (n + 1) (nI j_3) (nI j_9) 0)), (0, .ref m0), (1, .int (nI j_3)), (2, .int (nI j_9)), (3, .int z), (4, .int q), (5, .int q2), (6, .int (nI i))]) hx hb dX12_build_126 hl (by decide) rfl (fun ls hl => ?_)
                    refine lv_iload hx hb dX12_build_128 (lv_at hl 0 rfl) ?_
                    refine lv_if_eq (tgt := 138) hx hb dX12_build_130 (by decide) (fun _ => ?_) (fun c_44 => absurd c_44 (by decide))
                    refine lv_iload hx hb dX12_build_138 (lv_at hl 7 rfl) ?_
                    refine lv_istore (lv' := [(5, .int q2), (8, .int 0), (7, .int (fsR fG9_42 (n + 1) (nI j_3) (nI j_9) 0)), (0, .ref m0), (1, .int (nI j_3)), (2, .int (nI j_9)), (3, .int z), (4, .int q), (6, .int (nI i))]) hx hb dX12_build_140 hl (by decide) rfl (fun ls hl => ?_)
                    refine lv_iload hx hb dX12_build_142 (lv_at hl 1 rfl) ?_
                    refine lv_if_eq (tgt := 152) hx hb dX12_build_144 (by decide) (fun _ => ?_) (fun c_45 => absurd c_45 (by decide))
                    refine lv_iload hx hb dX12_build_152 (lv_at hl 7 rfl) ?_
                    refine lv_istore (lv' := [(4, .int q), (5, .int q2), (8, .int 0), (7, .int (fsR fG9_42 (n + 1) (nI j_3) (nI j_9) 0)), (0, .ref m0), (1, .int (nI j_3)), (2, .int (nI j_9)), (3, .int z), (6, .int (nI i))]) hx hb dX12_build_154 hl (by decide) rfl (fun ls hl => ?_)
                    refine lv_iinc (v := nI (i + 1)) (lv' := [(6, .int (nI (i + 1))), (4, .int q), (5, .int q2), (8, .int 0), (7, .int (fsR fG9_42 (n + 1) (nI j_3) (nI j_9) 0)), (0, .ref m0), (1, .int (nI j_3)), (2, .int (nI j_9)), (3, .int z)]) hx hb dX12_build_156 hl (k := 8) rfl (nI_add i 1) (by decide) rfl (fun ls hl => ?_)
                    refine lv_goto (tgt := 56) hx hb dX12_build_159 (by decide) ?_
                    exact ih56 (i + 1) _ _ _ _ _ (q) (q2) (f3) (by omega) (by omega) (z3) (bc_n hG9 hq9 ht9 (bd_T hs1 hp9) (Or.inl c_43)) _ _ (hK.sub [0, 1, 2, 3] rfl) (hP.sub [0, 1, 2, 3, 4] rfl) (hD.sub [0, 1, 2, 3, 4] (by decide) rfl) hS ls (lv_sub hl [5, 6, 7, 8, 1, 2, 0] rfl)
                  · skip
                    refine lv_iload hx hb dX12_build_107 (lv_at hl 5 rfl) ?_
                    refine lv_bipush (v := (-5)) hx hb dX12_build_109 (by decide) ?_
                    refine lv_icmp_eq (tgt := 121) hx hb dX12_build_111 (by decide) (fun c_46 => ?_) (fun c_46 => ?_)
                    · skip
                      refine lv_iconst (v := 1) hx hb dX12_build_121 (by decide) ?_
                      refine lv_goto (tgt := 126) hx hb dX12_build_122 (by decide) ?_
                      refine lv_istore (lv' := [(8, .int 1), (7, .int (fsR fG9_42 (n + 1) (nI j_3) (nI j_9) 0)), (0, .ref m0), (1, .int (nI j_3)), (2, .int (nI j_9)), (3, .int z), (4, .int q), (5, .int q2), (6, .int (nI i))]) hx hb dX12_build_126 hl (by decide) rfl (fun ls hl => ?_)
                      refine lv_iload hx hb dX12_build_128 (lv_at hl 0 rfl) ?_
                      refine lv_if_eq (tgt := 138) hx hb dX12_build_130 (by decide) (fun c_47 => absurd c_47 (by decide)) (fun _ => ?_)
                      refine lv_iload hx hb dX12_build_133 (lv_at hl 8 rfl) ?_
                      refine lv_goto (tgt := 140) hx hb dX12_build_135 (by decide) ?_
                      refine lv_istore (lv' := [(5, .int (nI i)), (8, .int 1), (7, .int (fsR fG9_42 (n + 1) (nI j_3) (nI j_9) 0)), (0, .ref m0), (1, .int (nI j_3)), (2, .int (nI j_9)), (3, .int z), (4, .int q), (6, .int (nI i))]) hx hb dX12_build_140 hl (by decide) rfl (fun ls hl => ?_)
                      refine lv_iload hx hb dX12_build_142 (lv_at hl 1 rfl) ?_
                      refine lv_if_eq (tgt := 152) hx hb dX12_build_144 (by decide) (fun c_48 => absurd c_48 (by decide)) (fun _ => ?_)
                      refine lv_iload hx hb dX12_build_147 (lv_at hl 2 rfl) ?_
                      refine lv_goto (tgt := 154) hx hb dX12_build_149 (by decide) ?_
                      refine lv_istore (lv' := [(4, .int (fsR fG9_42 (n + 1) (nI j_3) (nI j_9) 0)), (5, .int (nI i)), (8, .int 1), (7, .int (fsR fG9_42 (n + 1) (nI j_3) (nI j_9) 0)), (0, .ref m0), (1, .int (nI j_3)), (2, .int (nI j_9)), (3, .int z), (6, .int (nI i))]) hx hb dX12_build_154 hl (by decide) rfl (fun ls hl => ?_)
                      refine lv_iinc (v := nI (i + 1)) (lv' := [(6, .int (nI (i + 1))), (4, .int (fsR fG9_42 (n + 1) (nI j_3) (nI j_9) 0)), (5, .int (nI i)), (8, .int 1), (7, .int (fsR fG9_42 (n + 1) (nI j_3) (nI j_9) 0)), (0, .ref m0), (1, .int (nI j_3)), (2, .int (nI j_9)), (3, .int z)]) hx hb dX12_build_156 hl (k := 8) rfl (nI_add i 1) (by decide) rfl (fun ls hl => ?_)
                      refine lv_goto (tgt := 56) hx hb dX12_build_159 (by decide) ?_
                      exact ih56 (i + 1) _ _ _ _ _ (fsR fG9_42 (n + 1) (nI j_3) (nI j_9) 0) (nI i) (f3) (by omega) (by omega) (z3) (bc_y hG9 hq9 ht9 (bd_T hs1 hp9) c_43 (Or.inl c_46)) _ _ (hK.sub [0, 1, 2, 3] rfl) (hP.sub [0, 1, 2, 3, 4] rfl) (hD.sub [0, 1, 2, 3, 4] (by decide) rfl) hS ls (lv_sub hl [5, 6, 7, 8, 1, 2, 0] rfl)
                    · skip
                      refine lv_iload hx hb dX12_build_114 (lv_at hl 0 rfl) ?_
                      refine lv_iload hx hb dX12_build_116 (lv_at hl 5 rfl) ?_
                      refine lv_icmp_ge (tgt := 125) hx hb dX12_build_118 (by decide) (fun c_49 => ?_) (fun c_49 => ?_)
                      · skip
                        refine lv_iconst (v := 0) hx hb dX12_build_125 (by decide) ?_
                        refine lv_istore (lv' := [(8, .int 0), (7, .int (fsR fG9_42 (n + 1) (nI j_3) (nI j_9) 0)), (0, .ref m0), (1, .int (nI j_3)), (2, .int (nI j_9)), (3, .int z), (4, .int q), (5, .int q2), (6, .int (nI i))]) hx hb dX12_build_126 hl (by decide) rfl (fun ls hl => ?_)
                        refine lv_iload hx hb dX12_build_128 (lv_at hl 0 rfl) ?_
                        refine lv_if_eq (tgt := 138) hx hb dX12_build_130 (by decide) (fun _ => ?_) (fun c_50 => absurd c_50 (by decide))
                        refine lv_iload hx hb dX12_build_138 (lv_at hl 7 rfl) ?_
                        refine lv_istore (lv' := [(5, .int q2), (8, .int 0), (7, .int (fsR fG9_42 (n + 1) (nI j_3) (nI j_9) 0)), (0, .ref m0), (1, .int (nI j_3)), (2, .int (nI j_9)), (3, .int z), (4, .int q), (6, .int (nI i))]) hx hb dX12_build_140 hl (by decide) rfl (fun ls hl => ?_)
                        refine lv_iload hx hb dX12_build_142 (lv_at hl 1 rfl) ?_
                        refine lv_if_eq (tgt := 152) hx hb dX12_build_144 (by decide) (fun _ => ?_) (fun c_51 => absurd c_51 (by decide))
                        refine lv_iload hx hb dX12_build_152 (lv_at hl 7 rfl) ?_
                        refine lv_istore (lv' := [(4, .int q), (5, .int q2), (8, .int 0), (7, .int (fsR fG9_42 (n + 1) (nI j_3) (nI j_9) 0)), (0, .ref m0), (1, .int (nI j_3)), (2, .int (nI j_9)), (3, .int z), (6, .int (nI i))]) hx hb dX12_build_154 hl (by decide) rfl (fun ls hl => ?_)
                        refine lv_iinc (v := nI (i + 1)) (lv' := [(6, .int (nI (i + 1))), (4, .int q), (5, .int q2), (8, .int 0), (7, .int (fsR fG9_42 (n + 1) (nI j_3) (nI j_9) 0)), (0, .ref m0), (1, .int (nI j_3)), (2, .int (nI j_9)), (3, .int z)]) hx hb dX12_build_156 hl (k := 8) rfl (nI_add i 1) (by decide) rfl (fun ls hl => ?_)
                        refine lv_goto (tgt := 56) hx hb dX12_build_159 (by decide) ?_
                        exact ih56 (i + 1) _ _ _ _ _ (q) (q2) (f3) (by omega) (by omega) (z3) (bc_n hG9 hq9 ht9 (bd_T hs1 hp9) (Or.inr ⟨c_46, Int32.not_lt.mpr c_49⟩)) _ _ (hK.sub [0, 1, 2, 3] rfl) (hP.sub [0, 1, 2, 3, 4] rfl) (hD.sub [0, 1, 2, 3, 4] (by decide) rfl) hS ls (lv_sub hl [5, 6, 7, 8, 1, 2, 0] rfl)
                      · skip
                        refine lv_iconst (v := 1) hx hb dX12_build_121 (by decide) ?_
                        refine lv_goto (tgt := 126) hx hb dX12_build_122 (by decide) ?_
                        refine lv_istore (lv' := [(8, .int 1), (7, .int (fsR fG9_42 (n + 1) (nI j_3) (nI j_9) 0)), (0, .ref m0), (1, .int (nI j_3)), (2, .int (nI j_9)), (3, .int z), (4, .int q), (5, .int q2), (6, .int (nI i))]) hx hb dX12_build_126 hl (by decide) rfl (fun ls hl => ?_)
                        refine lv_iload hx hb dX12_build_128 (lv_at hl 0 rfl) ?_
                        refine lv_if_eq (tgt := 138) hx hb dX12_build_130 (by decide) (fun c_52 => absurd c_52 (by decide)) (fun _ => ?_)
                        refine lv_iload hx hb dX12_build_133 (lv_at hl 8 rfl) ?_
                        refine lv_goto (tgt := 140) hx hb dX12_build_135 (by decide) ?_
                        refine lv_istore (lv' := [(5, .int (nI i)), (8, .int 1), (7, .int (fsR fG9_42 (n + 1) (nI j_3) (nI j_9) 0)), (0, .ref m0), (1, .int (nI j_3)), (2, .int (nI j_9)), (3, .int z), (4, .int q), (6, .int (nI i))]) hx hb dX12_build_140 hl (by decide) rfl (fun ls hl => ?_)
                        refine lv_iload hx hb dX12_build_142 (lv_at hl 1 rfl) ?_
                        refine lv_if_eq (tgt := 152) hx hb dX12_build_144 (by decide) (fun c_53 => absurd c_53 (by decide)) (fun _ => ?_)
                        refine lv_iload hx hb dX12_build_147 (lv_at hl 2 rfl) ?_
                        refine lv_goto (tgt := 154) hx hb dX12_build_149 (by decide) ?_
                        refine lv_istore (lv' := [(4, .int (fsR fG9_42 (n + 1) (nI j_3) (nI j_9) 0)), (5, .int (nI i)), (8, .int 1), (7, .int (fsR fG9_42 (n + 1) (nI j_3) (nI j_9) 0)), (0, .ref m0), (1, .int (nI j_3)), (2, .int (nI j_9)), (3, .int z), (6, .int (nI i))]) hx hb dX12_build_154 hl (by decide) rfl (fun ls hl => ?_)
                        refine lv_iinc (v := nI (i + 1)) (lv' := [(6, .int (nI (i + 1))), (4, .int (fsR fG9_42 (n + 1) (nI j_3) (nI j_9) 0)), (5, .int (nI i)), (8, .int 1), (7, .int (fsR fG9_42 (n + 1) (nI j_3) (nI j_9) 0)), (0, .ref m0), (1, .int (nI j_3)), (2, .int (nI j_9)), (3, .int z)]) hx hb dX12_build_156 hl (k := 8) rfl (nI_add i 1) (by decide) rfl (fun ls hl => ?_)
                        refine lv_goto (tgt := 56) hx hb dX12_build_159 (by decide) ?_
                        exact ih56 (i + 1) _ _ _ _ _ (fsR fG9_42 (n + 1) (nI j_3) (nI j_9) 0) (nI i) (f3) (by omega) (by omega) (z3) (bc_y hG9 hq9 ht9 (bd_T hs1 hp9) c_43 (Or.inr (Int32.not_le.mp c_49))) _ _ (hK.sub [0, 1, 2, 3] rfl) (hP.sub [0, 1, 2, 3, 4] rfl) (hD.sub [0, 1, 2, 3, 4] (by decide) rfl) hS ls (lv_sub hl [5, 6, 7, 8, 1, 2, 0] rfl)
          exact L56 _ (0) _ _ _ _ _ (fsR fG9_26 n (nI j_3) (nI j_9) 0) (-5) (fS) (Nat.lt_succ_self _) (by omega) (fun _ _ _ _ => rfl) (⟨by rw [hG9]; rfl, by rw [hG9]; exact fsR_cg (row_m hs1 zkd zvv zc zmi zsn)⟩) _ _ (hK.sub [0, 1, 2, 3] rfl) (hP.sub [0, 1, 2, 3, 4] rfl) (hD.sub [0, 1, 2, 3, 4] (by decide) rfl) hS ls (lv_sub hl [3, 4, 5, 6, 2, 1, 0] rfl)
        · skip
          have c_19 : n = 8 := (nI_eq (a := n) (b := 8) (by omega) (by omega)).mp c_19
          refine lv_bipush (v := (-5)) hx hb dX12_build_38 (by decide) ?_
          rw [hQ]
          have hP9 := hP.sub (ws' := [(zo14irriiiiiirriirrrrlriiii m0 th aS aI im ac sp en wg op aB aT se dn aG aO aN aD bv aY rn kd nu tv), (zaI aS cS 901 fS), (zaI aB cB 6 fB), (zaI aT cT 64 fT), (zaI aG cG 9 fG)]) [0, 1, 2, 3, 4] rfl
          have hD9 := hD.sub (ws' := [(zo14irriiiiiirriirrrrlriiii m0 th aS aI im ac sp en wg op aB aT se dn aG aO aN aD bv aY rn kd nu tv), (zaI aS cS 901 fS), (zaI aB cB 6 fB), (zaI aT cT 64 fT), (zaI aG cG 9 fG)]) [0, 1, 2, 3, 4] (by decide) rfl
          have hK9 := hK.sub (tys' := [(cS, .int), (cB, .int), (cT, .boolean), (cG, .int)]) [0, 1, 2, 3] rfl
          exact W.iret (v := (-5)) hx hb hr (fun tQ htQ hWQ => ⟨⟨(-5), (fB, fT, se, dn, fG, fS), rfl, ⟨bd_8 (by omega) (by omega) (by assumption) (by assumption) (by omega), by first | exact fun _ _ _ _ => rfl | exact zf⟩, by rw [htQ]; exact hP9, va_K.moved hWQ.alike hK9, hD9⟩, hS.F htQ⟩) hS.2.2 dX12_build_40
      · skip
        refine lv_if_ne (tgt := 27) hx hb dX12_build_22 (by decide) (fun c_54 => absurd c_54 (by decide)) (fun _ => ?_)
        refine lv_iconst (v := (-1)) hx hb dX12_build_25 (by decide) ?_
        rw [hQ]
        have hP9 := hP.sub (ws' := [(zo14irriiiiiirriirrrrlriiii m0 th aS aI im ac sp en wg op aB aT se dn aG aO aN aD bv aY rn kd nu tv), (zaI aS cS 901 fS), (zaI aB cB 6 fB), (zaI aT cT 64 fT), (zaI aG cG 9 fG)]) [0, 1, 2, 3, 4] rfl
        have hD9 := hD.sub (ws' := [(zo14irriiiiiirriirrrrlriiii m0 th aS aI im ac sp en wg op aB aT se dn aG aO aN aD bv aY rn kd nu tv), (zaI aS cS 901 fS), (zaI aB cB 6 fB), (zaI aT cT 64 fT), (zaI aG cG 9 fG)]) [0, 1, 2, 3, 4] (by decide) rfl
        have hK9 := hK.sub (tys' := [(cS, .int), (cB, .int), (cT, .boolean), (cG, .int)]) [0, 1, 2, 3] rfl
        exact W.iret (v := (-1)) hx hb hr (fun tQ htQ hWQ => ⟨⟨(-1), (fB, fT, se, dn, fG, fS), rfl, ⟨by first | exact bd_no1 (by assumption) | exact bd_no2 (by assumption) | exact bd_no3 (by assumption), by first | exact fun _ _ _ _ => rfl | exact zf⟩, by rw [htQ]; exact hP9, va_K.moved hWQ.alike hK9, hD9⟩, hS.F htQ⟩) hS.2.2 dX12_build_26
    · skip
      refine lv_if_eq (tgt := 25) hx hb dX12_build_13 (by decide) (fun _ => ?_) (fun c_55 => absurd c_55 (by decide))
      refine lv_iconst (v := (-1)) hx hb dX12_build_25 (by decide) ?_
      rw [hQ]
      have hP9 := hP.sub (ws' := [(zo14irriiiiiirriirrrrlriiii m0 th aS aI im ac sp en wg op aB aT se dn aG aO aN aD bv aY rn kd nu tv), (zaI aS cS 901 fS), (zaI aB cB 6 fB), (zaI aT cT 64 fT), (zaI aG cG 9 fG)]) [0, 1, 2, 3, 4] rfl
      have hD9 := hD.sub (ws' := [(zo14irriiiiiirriirrrrlriiii m0 th aS aI im ac sp en wg op aB aT se dn aG aO aN aD bv aY rn kd nu tv), (zaI aS cS 901 fS), (zaI aB cB 6 fB), (zaI aT cT 64 fT), (zaI aG cG 9 fG)]) [0, 1, 2, 3, 4] (by decide) rfl
      have hK9 := hK.sub (tys' := [(cS, .int), (cB, .int), (cT, .boolean), (cG, .int)]) [0, 1, 2, 3] rfl
      exact W.iret (v := (-1)) hx hb hr (fun tQ htQ hWQ => ⟨⟨(-1), (fB, fT, se, dn, fG, fS), rfl, ⟨by first | exact bd_no1 (by assumption) | exact bd_no2 (by assumption) | exact bd_no3 (by assumption), by first | exact fun _ _ _ _ => rfl | exact zf⟩, by rw [htQ]; exact hP9, va_K.moved hWQ.alike hK9, hD9⟩, hS.F htQ⟩) hS.2.2 dX12_build_26
  · skip
    refine lv_if_eq (tgt := 25) hx hb dX12_build_5 (by decide) (fun _ => ?_) (fun c_56 => absurd c_56 (by decide))
    refine lv_iconst (v := (-1)) hx hb dX12_build_25 (by decide) ?_
    rw [hQ]
    have hP9 := hP.sub (ws' := [(zo14irriiiiiirriirrrrlriiii m0 th aS aI im ac sp en wg op aB aT se dn aG aO aN aD bv aY rn kd nu tv), (zaI aS cS 901 fS), (zaI aB cB 6 fB), (zaI aT cT 64 fT), (zaI aG cG 9 fG)]) [0, 1, 2, 3, 4] rfl
    have hD9 := hD.sub (ws' := [(zo14irriiiiiirriirrrrlriiii m0 th aS aI im ac sp en wg op aB aT se dn aG aO aN aD bv aY rn kd nu tv), (zaI aS cS 901 fS), (zaI aB cB 6 fB), (zaI aT cT 64 fT), (zaI aG cG 9 fG)]) [0, 1, 2, 3, 4] (by decide) rfl
    have hK9 := hK.sub (tys' := [(cS, .int), (cB, .int), (cT, .boolean), (cG, .int)]) [0, 1, 2, 3] rfl
    exact W.iret (v := (-1)) hx hb hr (fun tQ htQ hWQ => ⟨⟨(-1), (fB, fT, se, dn, fG, fS), rfl, ⟨by first | exact bd_no1 (by assumption) | exact bd_no2 (by assumption) | exact bd_no3 (by assumption), by first | exact fun _ _ _ _ => rfl | exact zf⟩, by rw [htQ]; exact hP9, va_K.moved hWQ.alike hK9, hD9⟩, hS.F htQ⟩) hS.2.2 dX12_build_26
end mg08
section mg08
theorem ggX12_driftOf_X12_looks : GoodIn wsX12_driftOf wsX12_looks := gga_of 1328 rfl rfl rfl
theorem gX12_driftOf_X12_looks : GoodIn wsX12_driftOf (wsV RX12 160 RX12 yX12_looks wsX12_looks) := goodIn_app (ggh_of [1325, 1327, 39, 72] rfl rfl rfl) ggX12_driftOf_X12_looks
theorem ggX12_drift_X12_isCell : GoodIn wsX12_drift wsX12_isCell := gga_of 1304 rfl rfl rfl
theorem gX12_drift_X12_isCell : GoodIn wsX12_drift (va_wsS RX12 149 yX12_isCell wsX12_isCell) := goodIn_app (ggh_of [1302, 1303, 72] rfl rfl rfl) ggX12_drift_X12_isCell
theorem ggX12_drift_X12_driftOf : GoodIn wsX12_drift wsX12_driftOf := gga_of 1408 rfl rfl rfl
theorem gX12_drift_X12_driftOf : GoodIn wsX12_drift (wsV RX12 201 RX12 yX12_driftOf wsX12_driftOf) := goodIn_app (ggh_of [1405, 1407, 47, 72] rfl rfl rfl) ggX12_drift_X12_driftOf
theorem ggX12_looksForDrifts_X12_driftOf : GoodIn wsX12_looksForDrifts wsX12_driftOf := gga_of 1408 rfl rfl rfl
theorem gX12_looksForDrifts_X12_driftOf : GoodIn wsX12_looksForDrifts (wsV RX12 201 RX12 yX12_driftOf wsX12_driftOf) := goodIn_app (ggh_of [1405, 1407, 47, 72] rfl rfl rfl) ggX12_looksForDrifts_X12_driftOf
theorem ggX12_goesOn_X12_nextTo : GoodIn wsX12_goesOn wsX12_nextTo := gga_of 1432 rfl rfl rfl
theorem gX12_goesOn_X12_nextTo : GoodIn wsX12_goesOn (va_wsS RX12 206 yX12_nextTo wsX12_nextTo) := goodIn_app (ggh_of [1430, 1431, 72] rfl rfl rfl) ggX12_goesOn_X12_nextTo
theorem ggX12_seen_X12_isSeen : GoodIn wsX12_seen wsX12_isSeen := gga_of 1340 rfl rfl rfl
theorem gX12_seen_X12_isSeen : GoodIn wsX12_seen (wsV RX12 174 RX12 yX12_isSeen wsX12_isSeen) := goodIn_app (ggh_of [1337, 1339, 41, 72] rfl rfl rfl) ggX12_seen_X12_isSeen
noncomputable def dk09aref5_cX12_driftOf_0 : List (Nat × List Nat) := [(0, [42]), (1, [16, 99]), (3, [16, 99]), (5, [27]), (6, [182, 0, 160]), (9, [42]), (10, [180, 0, 146]), (13, [8]), (14, [164, 0, 7]), (17, [8]), (18, [167, 0, 7]), (21, [42]), (22, [180, 0, 146]), (25, [172])]
set_option maxRecDepth 100000 in
theorem dk09aref5_cX12_driftOf_0_a : btA cX12_driftOf dk09aref5_cX12_driftOf_0 = true := by decide +kernel
theorem dX12_driftOf_0 : decode cX12_driftOf 0 = .ok (.aload_n 0, 1) := bd42 (btAt dk09aref5_cX12_driftOf_0_a 0 rfl)
theorem dX12_driftOf_1 : decode cX12_driftOf 1 = .ok (.bipush 99, 2) := bd16 (a := 99) (btAt dk09aref5_cX12_driftOf_0_a 1 rfl)
theorem dX12_driftOf_3 : decode cX12_driftOf 3 = .ok (.bipush 99, 2) := bd16 (a := 99) (btAt dk09aref5_cX12_driftOf_0_a 2 rfl)
theorem dX12_driftOf_5 : decode cX12_driftOf 5 = .ok (.iload_n 1, 1) := bd27 (btAt dk09aref5_cX12_driftOf_0_a 3 rfl)
theorem dX12_driftOf_6 : decode cX12_driftOf 6 = .ok (.invokevirtual 160, 3) := bd182 (a := 0) (b := 160) (btAt dk09aref5_cX12_driftOf_0_a 4 rfl)
theorem dX12_driftOf_9 : decode cX12_driftOf 9 = .ok (.aload_n 0, 1) := bd42 (btAt dk09aref5_cX12_driftOf_0_a 5 rfl)
theorem dX12_driftOf_10 : decode cX12_driftOf 10 = .ok (.getfield 146, 3) := bd180 (a := 0) (b := 146) (btAt dk09aref5_cX12_driftOf_0_a 6 rfl)
theorem dX12_driftOf_13 : decode cX12_driftOf 13 = .ok (.iconst 5, 1) := bd8 (btAt dk09aref5_cX12_driftOf_0_a 7 rfl)
theorem dX12_driftOf_14 : decode cX12_driftOf 14 = .ok (.if_icmp .le 7, 3) := bd164 (a := 0) (b := 7) (btAt dk09aref5_cX12_driftOf_0_a 8 rfl)
theorem dX12_driftOf_17 : decode cX12_driftOf 17 = .ok (.iconst 5, 1) := bd8 (btAt dk09aref5_cX12_driftOf_0_a 9 rfl)
theorem dX12_driftOf_18 : decode cX12_driftOf 18 = .ok (.goto 7, 3) := bd167 (a := 0) (b := 7) (btAt dk09aref5_cX12_driftOf_0_a 10 rfl)
theorem dX12_driftOf_21 : decode cX12_driftOf 21 = .ok (.aload_n 0, 1) := bd42 (btAt dk09aref5_cX12_driftOf_0_a 11 rfl)
theorem dX12_driftOf_22 : decode cX12_driftOf 22 = .ok (.getfield 146, 3) := bd180 (a := 0) (b := 146) (btAt dk09aref5_cX12_driftOf_0_a 12 rfl)
theorem dX12_driftOf_25 : decode cX12_driftOf 25 = .ok (.ireturn, 1) := bd172 (btAt dk09aref5_cX12_driftOf_0_a 13 rfl)
noncomputable def dk09aref5_cX12_drift_0 : List (Nat × List Nat) := [(0, [27]), (1, [184, 0, 149]), (4, [153, 0, 11]), (7, [42]), (8, [27]), (9, [182, 0, 201]), (12, [167, 0, 4]), (15, [2]), (16, [172])]
set_option maxRecDepth 100000 in
theorem dk09aref5_cX12_drift_0_a : btA cX12_drift dk09aref5_cX12_drift_0 = true := by decide +kernel
theorem dX12_drift_0 : decode cX12_drift 0 = .ok (.iload_n 1, 1) := bd27 (btAt dk09aref5_cX12_drift_0_a 0 rfl)
theorem dX12_drift_1 : decode cX12_drift 1 = .ok (.invokestatic 149, 3) := bd184 (a := 0) (b := 149) (btAt dk09aref5_cX12_drift_0_a 1 rfl)
theorem dX12_drift_4 : decode cX12_drift 4 = .ok (.ifCond .eq 11, 3) := bd153 (a := 0) (b := 11) (btAt dk09aref5_cX12_drift_0_a 2 rfl)
theorem dX12_drift_7 : decode cX12_drift 7 = .ok (.aload_n 0, 1) := bd42 (btAt dk09aref5_cX12_drift_0_a 3 rfl)
theorem dX12_drift_8 : decode cX12_drift 8 = .ok (.iload_n 1, 1) := bd27 (btAt dk09aref5_cX12_drift_0_a 4 rfl)
theorem dX12_drift_9 : decode cX12_drift 9 = .ok (.invokevirtual 201, 3) := bd182 (a := 0) (b := 201) (btAt dk09aref5_cX12_drift_0_a 5 rfl)
theorem dX12_drift_12 : decode cX12_drift 12 = .ok (.goto 4, 3) := bd167 (a := 0) (b := 4) (btAt dk09aref5_cX12_drift_0_a 6 rfl)
theorem dX12_drift_15 : decode cX12_drift 15 = .ok (.iconst (-1), 1) := bd2 (btAt dk09aref5_cX12_drift_0_a 7 rfl)
theorem dX12_drift_16 : decode cX12_drift 16 = .ok (.ireturn, 1) := bd172 (btAt dk09aref5_cX12_drift_0_a 8 rfl)
noncomputable def dk09aref5_cX12_looksForDrifts_0 : List (Nat × List Nat) := [(0, [3]), (1, [60]), (2, [27]), (3, [16, 36]), (5, [162, 0, 20]), (8, [42]), (9, [180, 0, 35]), (12, [27]), (13, [42]), (14, [27]), (15, [182, 0, 201]), (18, [79]), (19, [132, 1, 1]), (22, [167, 255, 236]), (25, [177])]
set_option maxRecDepth 100000 in
theorem dk09aref5_cX12_looksForDrifts_0_a : btA cX12_looksForDrifts dk09aref5_cX12_looksForDrifts_0 = true := by decide +kernel
theorem dX12_looksForDrifts_0 : decode cX12_looksForDrifts 0 = .ok (.iconst 0, 1) := bd3 (btAt dk09aref5_cX12_looksForDrifts_0_a 0 rfl)
theorem dX12_looksForDrifts_1 : decode cX12_looksForDrifts 1 = .ok (.istore_n 1, 1) := bd60 (btAt dk09aref5_cX12_looksForDrifts_0_a 1 rfl)
theorem dX12_looksForDrifts_2 : decode cX12_looksForDrifts 2 = .ok (.iload_n 1, 1) := bd27 (btAt dk09aref5_cX12_looksForDrifts_0_a 2 rfl)
theorem dX12_looksForDrifts_3 : decode cX12_looksForDrifts 3 = .ok (.bipush 36, 2) := bd16 (a := 36) (btAt dk09aref5_cX12_looksForDrifts_0_a 3 rfl)
theorem dX12_looksForDrifts_5 : decode cX12_looksForDrifts 5 = .ok (.if_icmp .ge 20, 3) := bd162 (a := 0) (b := 20) (btAt dk09aref5_cX12_looksForDrifts_0_a 4 rfl)
theorem dX12_looksForDrifts_8 : decode cX12_looksForDrifts 8 = .ok (.aload_n 0, 1) := bd42 (btAt dk09aref5_cX12_looksForDrifts_0_a 5 rfl)
theorem dX12_looksForDrifts_9 : decode cX12_looksForDrifts 9 = .ok (.getfield 35, 3) := bd180 (a := 0) (b := 35) (btAt dk09aref5_cX12_looksForDrifts_0_a 6 rfl)
theorem dX12_looksForDrifts_12 : decode cX12_looksForDrifts 12 = .ok (.iload_n 1, 1) := bd27 (btAt dk09aref5_cX12_looksForDrifts_0_a 7 rfl)
theorem dX12_looksForDrifts_13 : decode cX12_looksForDrifts 13 = .ok (.aload_n 0, 1) := bd42 (btAt dk09aref5_cX12_looksForDrifts_0_a 8 rfl)
theorem dX12_looksForDrifts_14 : decode cX12_looksForDrifts 14 = .ok (.iload_n 1, 1) := bd27 (btAt dk09aref5_cX12_looksForDrifts_0_a 9 rfl)
theorem dX12_looksForDrifts_15 : decode cX12_looksForDrifts 15 = .ok (.invokevirtual 201, 3) := bd182 (a := 0) (b := 201) (btAt dk09aref5_cX12_looksForDrifts_0_a 10 rfl)
theorem dX12_looksForDrifts_18 : decode cX12_looksForDrifts 18 = .ok (.iastore, 1) := bd79 (btAt dk09aref5_cX12_looksForDrifts_0_a 11 rfl)
theorem dX12_looksForDrifts_19 : decode cX12_looksForDrifts 19 = .ok (.iinc 1 1, 3) := bd132 (a := 1) (b := 1) (btAt dk09aref5_cX12_looksForDrifts_0_a 12 rfl)
theorem dX12_looksForDrifts_22 : decode cX12_looksForDrifts 22 = .ok (.goto (-20), 3) := bd167 (a := 255) (b := 236) (btAt dk09aref5_cX12_looksForDrifts_0_a 13 rfl)
theorem dX12_looksForDrifts_25 : decode cX12_looksForDrifts 25 = .ok (.return_, 1) := bd177 (btAt dk09aref5_cX12_looksForDrifts_0_a 14 rfl)
noncomputable def dk09aref5_cX12_begins_0 : List (Nat × List Nat) := [(0, [3]), (1, [61]), (2, [28]), (3, [16, 36]), (5, [162, 0, 25]), (8, [42]), (9, [180, 0, 28]), (12, [28]), (13, [28]), (14, [27]), (15, [160, 0, 7]), (18, [10]), (19, [167, 0, 4]), (22, [9]), (23, [80]), (24, [132, 2, 1]), (27, [167, 255, 231]), (30, [177])]
set_option maxRecDepth 100000 in
theorem dk09aref5_cX12_begins_0_a : btA cX12_begins dk09aref5_cX12_begins_0 = true := by decide +kernel
theorem dX12_begins_0 : decode cX12_begins 0 = .ok (.iconst 0, 1) := bd3 (btAt dk09aref5_cX12_begins_0_a 0 rfl)
theorem dX12_begins_1 : decode cX12_begins 1 = .ok (.istore_n 2, 1) := bd61 (btAt dk09aref5_cX12_begins_0_a 1 rfl)
theorem dX12_begins_2 : decode cX12_begins 2 = .ok (.iload_n 2, 1) := bd28 (btAt dk09aref5_cX12_begins_0_a 2 rfl)
theorem dX12_begins_3 : decode cX12_begins 3 = .ok (.bipush 36, 2) := bd16 (a := 36) (btAt dk09aref5_cX12_begins_0_a 3 rfl)
theorem dX12_begins_5 : decode cX12_begins 5 = .ok (.if_icmp .ge 25, 3) := bd162 (a := 0) (b := 25) (btAt dk09aref5_cX12_begins_0_a 4 rfl)
theorem dX12_begins_8 : decode cX12_begins 8 = .ok (.aload_n 0, 1) := bd42 (btAt dk09aref5_cX12_begins_0_a 5 rfl)
theorem dX12_begins_9 : decode cX12_begins 9 = .ok (.getfield 28, 3) := bd180 (a := 0) (b := 28) (btAt dk09aref5_cX12_begins_0_a 6 rfl)
theorem dX12_begins_12 : decode cX12_begins 12 = .ok (.iload_n 2, 1) := bd28 (btAt dk09aref5_cX12_begins_0_a 7 rfl)
theorem dX12_begins_13 : decode cX12_begins 13 = .ok (.iload_n 2, 1) := bd28 (btAt dk09aref5_cX12_begins_0_a 8 rfl)
theorem dX12_begins_14 : decode cX12_begins 14 = .ok (.iload_n 1, 1) := bd27 (btAt dk09aref5_cX12_begins_0_a 9 rfl)
theorem dX12_begins_15 : decode cX12_begins 15 = .ok (.if_icmp .ne 7, 3) := bd160 (a := 0) (b := 7) (btAt dk09aref5_cX12_begins_0_a 10 rfl)
theorem dX12_begins_18 : decode cX12_begins 18 = .ok (.lconst 1, 1) := bd10 (btAt dk09aref5_cX12_begins_0_a 11 rfl)
theorem dX12_begins_19 : decode cX12_begins 19 = .ok (.goto 4, 3) := bd167 (a := 0) (b := 4) (btAt dk09aref5_cX12_begins_0_a 12 rfl)
theorem dX12_begins_22 : decode cX12_begins 22 = .ok (.lconst 0, 1) := bd9 (btAt dk09aref5_cX12_begins_0_a 13 rfl)
theorem dX12_begins_23 : decode cX12_begins 23 = .ok (.lastore, 1) := bd80 (btAt dk09aref5_cX12_begins_0_a 14 rfl)
theorem dX12_begins_24 : decode cX12_begins 24 = .ok (.iinc 2 1, 3) := bd132 (a := 2) (b := 1) (btAt dk09aref5_cX12_begins_0_a 15 rfl)
theorem dX12_begins_27 : decode cX12_begins 27 = .ok (.goto (-25), 3) := bd167 (a := 255) (b := 231) (btAt dk09aref5_cX12_begins_0_a 16 rfl)
theorem dX12_begins_30 : decode cX12_begins 30 = .ok (.return_, 1) := bd177 (btAt dk09aref5_cX12_begins_0_a 17 rfl)
noncomputable def dk09aref5_cX12_goesOn_0 : List (Nat × List Nat) := [(0, [3]), (1, [61]), (2, [28]), (3, [16, 36]), (5, [162, 0, 16]), (21, [3]), (22, [61]), (23, [28]), (24, [16, 36]), (26, [162, 0, 155]), (29, [42]), (30, [180, 0, 28]), (33, [28]), (34, [47]), (35, [9]), (36, [148]), (37, [158, 0, 38]), (75, [42]), (76, [180, 0, 28]), (79, [28]), (80, [47]), (81, [9]), (82, [148]), (83, [158, 0, 92]), (181, [3]), (182, [61]), (183, [28]), (184, [16, 36]), (186, [162, 0, 21]), (189, [42]), (190, [180, 0, 28]), (193, [28]), (194, [42]), (195, [180, 0, 32]), (198, [28]), (199, [47]), (200, [80]), (201, [132, 2, 1]), (204, [167, 255, 235]), (207, [177])]
set_option maxRecDepth 100000 in
theorem dk09aref5_cX12_goesOn_0_a : btA cX12_goesOn dk09aref5_cX12_goesOn_0 = true := by decide +kernel
theorem dX12_goesOn_0 : decode cX12_goesOn 0 = .ok (.iconst 0, 1) := bd3 (btAt dk09aref5_cX12_goesOn_0_a 0 rfl)
theorem dX12_goesOn_1 : decode cX12_goesOn 1 = .ok (.istore_n 2, 1) := bd61 (btAt dk09aref5_cX12_goesOn_0_a 1 rfl)
theorem dX12_goesOn_2 : decode cX12_goesOn 2 = .ok (.iload_n 2, 1) := bd28 (btAt dk09aref5_cX12_goesOn_0_a 2 rfl)
theorem dX12_goesOn_3 : decode cX12_goesOn 3 = .ok (.bipush 36, 2) := bd16 (a := 36) (btAt dk09aref5_cX12_goesOn_0_a 3 rfl)
theorem dX12_goesOn_5 : decode cX12_goesOn 5 = .ok (.if_icmp .ge 16, 3) := bd162 (a := 0) (b := 16) (btAt dk09aref5_cX12_goesOn_0_a 4 rfl)
theorem dX12_goesOn_21 : decode cX12_goesOn 21 = .ok (.iconst 0, 1) := bd3 (btAt dk09aref5_cX12_goesOn_0_a 5 rfl)
theorem dX12_goesOn_22 : decode cX12_goesOn 22 = .ok (.istore_n 2, 1) := bd61 (btAt dk09aref5_cX12_goesOn_0_a 6 rfl)
theorem dX12_goesOn_23 : decode cX12_goesOn 23 = .ok (.iload_n 2, 1) := bd28 (btAt dk09aref5_cX12_goesOn_0_a 7 rfl)
theorem dX12_goesOn_24 : decode cX12_goesOn 24 = .ok (.bipush 36, 2) := bd16 (a := 36) (btAt dk09aref5_cX12_goesOn_0_a 8 rfl)
theorem dX12_goesOn_26 : decode cX12_goesOn 26 = .ok (.if_icmp .ge 155, 3) := bd162 (a := 0) (b := 155) (btAt dk09aref5_cX12_goesOn_0_a 9 rfl)
theorem dX12_goesOn_29 : decode cX12_goesOn 29 = .ok (.aload_n 0, 1) := bd42 (btAt dk09aref5_cX12_goesOn_0_a 10 rfl)
theorem dX12_goesOn_30 : decode cX12_goesOn 30 = .ok (.getfield 28, 3) := bd180 (a := 0) (b := 28) (btAt dk09aref5_cX12_goesOn_0_a 11 rfl)
theorem dX12_goesOn_33 : decode cX12_goesOn 33 = .ok (.iload_n 2, 1) := bd28 (btAt dk09aref5_cX12_goesOn_0_a 12 rfl)
theorem dX12_goesOn_34 : decode cX12_goesOn 34 = .ok (.laload, 1) := bd47 (btAt dk09aref5_cX12_goesOn_0_a 13 rfl)
theorem dX12_goesOn_35 : decode cX12_goesOn 35 = .ok (.lconst 0, 1) := bd9 (btAt dk09aref5_cX12_goesOn_0_a 14 rfl)
theorem dX12_goesOn_36 : decode cX12_goesOn 36 = .ok (.lcmp, 1) := bd148 (btAt dk09aref5_cX12_goesOn_0_a 15 rfl)
theorem dX12_goesOn_37 : decode cX12_goesOn 37 = .ok (.ifCond .le 38, 3) := bd158 (a := 0) (b := 38) (btAt dk09aref5_cX12_goesOn_0_a 16 rfl)
theorem dX12_goesOn_75 : decode cX12_goesOn 75 = .ok (.aload_n 0, 1) := bd42 (btAt dk09aref5_cX12_goesOn_0_a 17 rfl)
theorem dX12_goesOn_76 : decode cX12_goesOn 76 = .ok (.getfield 28, 3) := bd180 (a := 0) (b := 28) (btAt dk09aref5_cX12_goesOn_0_a 18 rfl)
theorem dX12_goesOn_79 : decode cX12_goesOn 79 = .ok (.iload_n 2, 1) := bd28 (btAt dk09aref5_cX12_goesOn_0_a 19 rfl)
theorem dX12_goesOn_80 : decode cX12_goesOn 80 = .ok (.laload, 1) := bd47 (btAt dk09aref5_cX12_goesOn_0_a 20 rfl)
theorem dX12_goesOn_81 : decode cX12_goesOn 81 = .ok (.lconst 0, 1) := bd9 (btAt dk09aref5_cX12_goesOn_0_a 21 rfl)
theorem dX12_goesOn_82 : decode cX12_goesOn 82 = .ok (.lcmp, 1) := bd148 (btAt dk09aref5_cX12_goesOn_0_a 22 rfl)
theorem dX12_goesOn_83 : decode cX12_goesOn 83 = .ok (.ifCond .le 92, 3) := bd158 (a := 0) (b := 92) (btAt dk09aref5_cX12_goesOn_0_a 23 rfl)
theorem dX12_goesOn_181 : decode cX12_goesOn 181 = .ok (.iconst 0, 1) := bd3 (btAt dk09aref5_cX12_goesOn_0_a 24 rfl)
theorem dX12_goesOn_182 : decode cX12_goesOn 182 = .ok (.istore_n 2, 1) := bd61 (btAt dk09aref5_cX12_goesOn_0_a 25 rfl)
theorem dX12_goesOn_183 : decode cX12_goesOn 183 = .ok (.iload_n 2, 1) := bd28 (btAt dk09aref5_cX12_goesOn_0_a 26 rfl)
theorem dX12_goesOn_184 : decode cX12_goesOn 184 = .ok (.bipush 36, 2) := bd16 (a := 36) (btAt dk09aref5_cX12_goesOn_0_a 27 rfl)
theorem dX12_goesOn_186 : decode cX12_goesOn 186 = .ok (.if_icmp .ge 21, 3) := bd162 (a := 0) (b := 21) (btAt dk09aref5_cX12_goesOn_0_a 28 rfl)
theorem dX12_goesOn_189 : decode cX12_goesOn 189 = .ok (.aload_n 0, 1) := bd42 (btAt dk09aref5_cX12_goesOn_0_a 29 rfl)
theorem dX12_goesOn_190 : decode cX12_goesOn 190 = .ok (.getfield 28, 3) := bd180 (a := 0) (b := 28) (btAt dk09aref5_cX12_goesOn_0_a 30 rfl)
theorem dX12_goesOn_193 : decode cX12_goesOn 193 = .ok (.iload_n 2, 1) := bd28 (btAt dk09aref5_cX12_goesOn_0_a 31 rfl)
theorem dX12_goesOn_194 : decode cX12_goesOn 194 = .ok (.aload_n 0, 1) := bd42 (btAt dk09aref5_cX12_goesOn_0_a 32 rfl)
theorem dX12_goesOn_195 : decode cX12_goesOn 195 = .ok (.getfield 32, 3) := bd180 (a := 0) (b := 32) (btAt dk09aref5_cX12_goesOn_0_a 33 rfl)
theorem dX12_goesOn_198 : decode cX12_goesOn 198 = .ok (.iload_n 2, 1) := bd28 (btAt dk09aref5_cX12_goesOn_0_a 34 rfl)
theorem dX12_goesOn_199 : decode cX12_goesOn 199 = .ok (.laload, 1) := bd47 (btAt dk09aref5_cX12_goesOn_0_a 35 rfl)
theorem dX12_goesOn_200 : decode cX12_goesOn 200 = .ok (.lastore, 1) := bd80 (btAt dk09aref5_cX12_goesOn_0_a 36 rfl)
theorem dX12_goesOn_201 : decode cX12_goesOn 201 = .ok (.iinc 2 1, 3) := bd132 (a := 2) (b := 1) (btAt dk09aref5_cX12_goesOn_0_a 37 rfl)
theorem dX12_goesOn_204 : decode cX12_goesOn 204 = .ok (.goto (-21), 3) := bd167 (a := 255) (b := 235) (btAt dk09aref5_cX12_goesOn_0_a 38 rfl)
theorem dX12_goesOn_207 : decode cX12_goesOn 207 = .ok (.return_, 1) := bd177 (btAt dk09aref5_cX12_goesOn_0_a 39 rfl)
noncomputable def dk09aref5_cX12_goesOn_40 : List (Nat × List Nat) := [(40, [42]), (41, [180, 0, 9]), (44, [16, 37]), (46, [28]), (47, [96]), (48, [46]), (49, [4]), (50, [160, 0, 25]), (53, [42]), (54, [180, 0, 32]), (57, [28]), (58, [92]), (59, [47]), (60, [20, 0, 204]), (63, [42]), (64, [180, 0, 28]), (67, [28]), (68, [47]), (69, [105]), (70, [97]), (71, [80]), (72, [167, 0, 103]), (86, [42]), (87, [180, 0, 35]), (90, [28]), (91, [46]), (92, [62]), (93, [42]), (94, [180, 0, 32]), (97, [28]), (98, [27]), (99, [184, 0, 206]), (102, [92]), (103, [47]), (104, [16, 20]), (106, [5]), (107, [29]), (108, [104]), (175, [132, 2, 1]), (178, [167, 255, 101])]
set_option maxRecDepth 100000 in
theorem dk09aref5_cX12_goesOn_40_a : btA cX12_goesOn dk09aref5_cX12_goesOn_40 = true := by decide +kernel
theorem dX12_goesOn_40 : decode cX12_goesOn 40 = .ok (.aload_n 0, 1) := bd42 (btAt dk09aref5_cX12_goesOn_40_a 0 rfl)
theorem dX12_goesOn_41 : decode cX12_goesOn 41 = .ok (.getfield 9, 3) := bd180 (a := 0) (b := 9) (btAt dk09aref5_cX12_goesOn_40_a 1 rfl)
theorem dX12_goesOn_44 : decode cX12_goesOn 44 = .ok (.bipush 37, 2) := bd16 (a := 37) (btAt dk09aref5_cX12_goesOn_40_a 2 rfl)
theorem dX12_goesOn_46 : decode cX12_goesOn 46 = .ok (.iload_n 2, 1) := bd28 (btAt dk09aref5_cX12_goesOn_40_a 3 rfl)
theorem dX12_goesOn_47 : decode cX12_goesOn 47 = .ok (.iadd, 1) := bd96 (btAt dk09aref5_cX12_goesOn_40_a 4 rfl)
theorem dX12_goesOn_48 : decode cX12_goesOn 48 = .ok (.iaload, 1) := bd46 (btAt dk09aref5_cX12_goesOn_40_a 5 rfl)
theorem dX12_goesOn_49 : decode cX12_goesOn 49 = .ok (.iconst 1, 1) := bd4 (btAt dk09aref5_cX12_goesOn_40_a 6 rfl)
theorem dX12_goesOn_50 : decode cX12_goesOn 50 = .ok (.if_icmp .ne 25, 3) := bd160 (a := 0) (b := 25) (btAt dk09aref5_cX12_goesOn_40_a 7 rfl)
theorem dX12_goesOn_53 : decode cX12_goesOn 53 = .ok (.aload_n 0, 1) := bd42 (btAt dk09aref5_cX12_goesOn_40_a 8 rfl)
theorem dX12_goesOn_54 : decode cX12_goesOn 54 = .ok (.getfield 32, 3) := bd180 (a := 0) (b := 32) (btAt dk09aref5_cX12_goesOn_40_a 9 rfl)
theorem dX12_goesOn_57 : decode cX12_goesOn 57 = .ok (.iload_n 2, 1) := bd28 (btAt dk09aref5_cX12_goesOn_40_a 10 rfl)
theorem dX12_goesOn_58 : decode cX12_goesOn 58 = .ok (.dup2, 1) := bd92 (btAt dk09aref5_cX12_goesOn_40_a 11 rfl)
theorem dX12_goesOn_59 : decode cX12_goesOn 59 = .ok (.laload, 1) := bd47 (btAt dk09aref5_cX12_goesOn_40_a 12 rfl)
theorem dX12_goesOn_60 : decode cX12_goesOn 60 = .ok (.ldc2_w 204, 3) := bd20 (a := 0) (b := 204) (btAt dk09aref5_cX12_goesOn_40_a 13 rfl)
theorem dX12_goesOn_63 : decode cX12_goesOn 63 = .ok (.aload_n 0, 1) := bd42 (btAt dk09aref5_cX12_goesOn_40_a 14 rfl)
theorem dX12_goesOn_64 : decode cX12_goesOn 64 = .ok (.getfield 28, 3) := bd180 (a := 0) (b := 28) (btAt dk09aref5_cX12_goesOn_40_a 15 rfl)
theorem dX12_goesOn_67 : decode cX12_goesOn 67 = .ok (.iload_n 2, 1) := bd28 (btAt dk09aref5_cX12_goesOn_40_a 16 rfl)
theorem dX12_goesOn_68 : decode cX12_goesOn 68 = .ok (.laload, 1) := bd47 (btAt dk09aref5_cX12_goesOn_40_a 17 rfl)
theorem dX12_goesOn_69 : decode cX12_goesOn 69 = .ok (.lmul, 1) := bd105 (btAt dk09aref5_cX12_goesOn_40_a 18 rfl)
theorem dX12_goesOn_70 : decode cX12_goesOn 70 = .ok (.ladd, 1) := bd97 (btAt dk09aref5_cX12_goesOn_40_a 19 rfl)
theorem dX12_goesOn_71 : decode cX12_goesOn 71 = .ok (.lastore, 1) := bd80 (btAt dk09aref5_cX12_goesOn_40_a 20 rfl)
theorem dX12_goesOn_72 : decode cX12_goesOn 72 = .ok (.goto 103, 3) := bd167 (a := 0) (b := 103) (btAt dk09aref5_cX12_goesOn_40_a 21 rfl)
theorem dX12_goesOn_86 : decode cX12_goesOn 86 = .ok (.aload_n 0, 1) := bd42 (btAt dk09aref5_cX12_goesOn_40_a 22 rfl)
theorem dX12_goesOn_87 : decode cX12_goesOn 87 = .ok (.getfield 35, 3) := bd180 (a := 0) (b := 35) (btAt dk09aref5_cX12_goesOn_40_a 23 rfl)
theorem dX12_goesOn_90 : decode cX12_goesOn 90 = .ok (.iload_n 2, 1) := bd28 (btAt dk09aref5_cX12_goesOn_40_a 24 rfl)
theorem dX12_goesOn_91 : decode cX12_goesOn 91 = .ok (.iaload, 1) := bd46 (btAt dk09aref5_cX12_goesOn_40_a 25 rfl)
theorem dX12_goesOn_92 : decode cX12_goesOn 92 = .ok (.istore_n 3, 1) := bd62 (btAt dk09aref5_cX12_goesOn_40_a 26 rfl)
theorem dX12_goesOn_93 : decode cX12_goesOn 93 = .ok (.aload_n 0, 1) := bd42 (btAt dk09aref5_cX12_goesOn_40_a 27 rfl)
theorem dX12_goesOn_94 : decode cX12_goesOn 94 = .ok (.getfield 32, 3) := bd180 (a := 0) (b := 32) (btAt dk09aref5_cX12_goesOn_40_a 28 rfl)
theorem dX12_goesOn_97 : decode cX12_goesOn 97 = .ok (.iload_n 2, 1) := bd28 (btAt dk09aref5_cX12_goesOn_40_a 29 rfl)
theorem dX12_goesOn_98 : decode cX12_goesOn 98 = .ok (.iload_n 1, 1) := bd27 (btAt dk09aref5_cX12_goesOn_40_a 30 rfl)
theorem dX12_goesOn_99 : decode cX12_goesOn 99 = .ok (.invokestatic 206, 3) := bd184 (a := 0) (b := 206) (btAt dk09aref5_cX12_goesOn_40_a 31 rfl)
theorem dX12_goesOn_102 : decode cX12_goesOn 102 = .ok (.dup2, 1) := bd92 (btAt dk09aref5_cX12_goesOn_40_a 32 rfl)
theorem dX12_goesOn_103 : decode cX12_goesOn 103 = .ok (.laload, 1) := bd47 (btAt dk09aref5_cX12_goesOn_40_a 33 rfl)
theorem dX12_goesOn_104 : decode cX12_goesOn 104 = .ok (.bipush 20, 2) := bd16 (a := 20) (btAt dk09aref5_cX12_goesOn_40_a 34 rfl)
theorem dX12_goesOn_106 : decode cX12_goesOn 106 = .ok (.iconst 2, 1) := bd5 (btAt dk09aref5_cX12_goesOn_40_a 35 rfl)
theorem dX12_goesOn_107 : decode cX12_goesOn 107 = .ok (.iload_n 3, 1) := bd29 (btAt dk09aref5_cX12_goesOn_40_a 36 rfl)
theorem dX12_goesOn_108 : decode cX12_goesOn 108 = .ok (.imul, 1) := bd104 (btAt dk09aref5_cX12_goesOn_40_a 37 rfl)
theorem dX12_goesOn_175 : decode cX12_goesOn 175 = .ok (.iinc 2 1, 3) := bd132 (a := 2) (b := 1) (btAt dk09aref5_cX12_goesOn_40_a 38 rfl)
theorem dX12_goesOn_178 : decode cX12_goesOn 178 = .ok (.goto (-155), 3) := bd167 (a := 255) (b := 101) (btAt dk09aref5_cX12_goesOn_40_a 39 rfl)
noncomputable def dk09aref5_cX12_goesOn_80 : List (Nat × List Nat) := [(109, [100]), (110, [133]), (111, [42]), (112, [180, 0, 28]), (115, [28]), (116, [47]), (117, [105]), (118, [97]), (119, [80]), (120, [42]), (121, [180, 0, 32]), (124, [28]), (125, [27]), (126, [16, 7]), (128, [96]), (129, [16, 8]), (131, [112]), (132, [184, 0, 206]), (135, [92]), (136, [47]), (137, [29]), (138, [133]), (139, [42]), (140, [180, 0, 28]), (143, [28]), (144, [47]), (145, [105]), (146, [97]), (147, [80]), (148, [42]), (149, [180, 0, 32]), (152, [28]), (153, [27]), (154, [4]), (155, [96]), (156, [16, 8]), (158, [112]), (159, [184, 0, 206]), (162, [92]), (163, [47])]
set_option maxRecDepth 100000 in
theorem dk09aref5_cX12_goesOn_80_a : btA cX12_goesOn dk09aref5_cX12_goesOn_80 = true := by decide +kernel
theorem dX12_goesOn_109 : decode cX12_goesOn 109 = .ok (.isub, 1) := bd100 (btAt dk09aref5_cX12_goesOn_80_a 0 rfl)
theorem dX12_goesOn_110 : decode cX12_goesOn 110 = .ok (.i2l, 1) := bd133 (btAt dk09aref5_cX12_goesOn_80_a 1 rfl)
theorem dX12_goesOn_111 : decode cX12_goesOn 111 = .ok (.aload_n 0, 1) := bd42 (btAt dk09aref5_cX12_goesOn_80_a 2 rfl)
theorem dX12_goesOn_112 : decode cX12_goesOn 112 = .ok (.getfield 28, 3) := bd180 (a := 0) (b := 28) (btAt dk09aref5_cX12_goesOn_80_a 3 rfl)
theorem dX12_goesOn_115 : decode cX12_goesOn 115 = .ok (.iload_n 2, 1) := bd28 (btAt dk09aref5_cX12_goesOn_80_a 4 rfl)
theorem dX12_goesOn_116 : decode cX12_goesOn 116 = .ok (.laload, 1) := bd47 (btAt dk09aref5_cX12_goesOn_80_a 5 rfl)
theorem dX12_goesOn_117 : decode cX12_goesOn 117 = .ok (.lmul, 1) := bd105 (btAt dk09aref5_cX12_goesOn_80_a 6 rfl)
theorem dX12_goesOn_118 : decode cX12_goesOn 118 = .ok (.ladd, 1) := bd97 (btAt dk09aref5_cX12_goesOn_80_a 7 rfl)
theorem dX12_goesOn_119 : decode cX12_goesOn 119 = .ok (.lastore, 1) := bd80 (btAt dk09aref5_cX12_goesOn_80_a 8 rfl)
theorem dX12_goesOn_120 : decode cX12_goesOn 120 = .ok (.aload_n 0, 1) := bd42 (btAt dk09aref5_cX12_goesOn_80_a 9 rfl)
theorem dX12_goesOn_121 : decode cX12_goesOn 121 = .ok (.getfield 32, 3) := bd180 (a := 0) (b := 32) (btAt dk09aref5_cX12_goesOn_80_a 10 rfl)
theorem dX12_goesOn_124 : decode cX12_goesOn 124 = .ok (.iload_n 2, 1) := bd28 (btAt dk09aref5_cX12_goesOn_80_a 11 rfl)
theorem dX12_goesOn_125 : decode cX12_goesOn 125 = .ok (.iload_n 1, 1) := bd27 (btAt dk09aref5_cX12_goesOn_80_a 12 rfl)
theorem dX12_goesOn_126 : decode cX12_goesOn 126 = .ok (.bipush 7, 2) := bd16 (a := 7) (btAt dk09aref5_cX12_goesOn_80_a 13 rfl)
theorem dX12_goesOn_128 : decode cX12_goesOn 128 = .ok (.iadd, 1) := bd96 (btAt dk09aref5_cX12_goesOn_80_a 14 rfl)
theorem dX12_goesOn_129 : decode cX12_goesOn 129 = .ok (.bipush 8, 2) := bd16 (a := 8) (btAt dk09aref5_cX12_goesOn_80_a 15 rfl)
theorem dX12_goesOn_131 : decode cX12_goesOn 131 = .ok (.irem, 1) := bd112 (btAt dk09aref5_cX12_goesOn_80_a 16 rfl)
theorem dX12_goesOn_132 : decode cX12_goesOn 132 = .ok (.invokestatic 206, 3) := bd184 (a := 0) (b := 206) (btAt dk09aref5_cX12_goesOn_80_a 17 rfl)
theorem dX12_goesOn_135 : decode cX12_goesOn 135 = .ok (.dup2, 1) := bd92 (btAt dk09aref5_cX12_goesOn_80_a 18 rfl)
theorem dX12_goesOn_136 : decode cX12_goesOn 136 = .ok (.laload, 1) := bd47 (btAt dk09aref5_cX12_goesOn_80_a 19 rfl)
theorem dX12_goesOn_137 : decode cX12_goesOn 137 = .ok (.iload_n 3, 1) := bd29 (btAt dk09aref5_cX12_goesOn_80_a 20 rfl)
theorem dX12_goesOn_138 : decode cX12_goesOn 138 = .ok (.i2l, 1) := bd133 (btAt dk09aref5_cX12_goesOn_80_a 21 rfl)
theorem dX12_goesOn_139 : decode cX12_goesOn 139 = .ok (.aload_n 0, 1) := bd42 (btAt dk09aref5_cX12_goesOn_80_a 22 rfl)
theorem dX12_goesOn_140 : decode cX12_goesOn 140 = .ok (.getfield 28, 3) := bd180 (a := 0) (b := 28) (btAt dk09aref5_cX12_goesOn_80_a 23 rfl)
theorem dX12_goesOn_143 : decode cX12_goesOn 143 = .ok (.iload_n 2, 1) := bd28 (btAt dk09aref5_cX12_goesOn_80_a 24 rfl)
theorem dX12_goesOn_144 : decode cX12_goesOn 144 = .ok (.laload, 1) := bd47 (btAt dk09aref5_cX12_goesOn_80_a 25 rfl)
theorem dX12_goesOn_145 : decode cX12_goesOn 145 = .ok (.lmul, 1) := bd105 (btAt dk09aref5_cX12_goesOn_80_a 26 rfl)
theorem dX12_goesOn_146 : decode cX12_goesOn 146 = .ok (.ladd, 1) := bd97 (btAt dk09aref5_cX12_goesOn_80_a 27 rfl)
theorem dX12_goesOn_147 : decode cX12_goesOn 147 = .ok (.lastore, 1) := bd80 (btAt dk09aref5_cX12_goesOn_80_a 28 rfl)
theorem dX12_goesOn_148 : decode cX12_goesOn 148 = .ok (.aload_n 0, 1) := bd42 (btAt dk09aref5_cX12_goesOn_80_a 29 rfl)
theorem dX12_goesOn_149 : decode cX12_goesOn 149 = .ok (.getfield 32, 3) := bd180 (a := 0) (b := 32) (btAt dk09aref5_cX12_goesOn_80_a 30 rfl)
theorem dX12_goesOn_152 : decode cX12_goesOn 152 = .ok (.iload_n 2, 1) := bd28 (btAt dk09aref5_cX12_goesOn_80_a 31 rfl)
theorem dX12_goesOn_153 : decode cX12_goesOn 153 = .ok (.iload_n 1, 1) := bd27 (btAt dk09aref5_cX12_goesOn_80_a 32 rfl)
theorem dX12_goesOn_154 : decode cX12_goesOn 154 = .ok (.iconst 1, 1) := bd4 (btAt dk09aref5_cX12_goesOn_80_a 33 rfl)
theorem dX12_goesOn_155 : decode cX12_goesOn 155 = .ok (.iadd, 1) := bd96 (btAt dk09aref5_cX12_goesOn_80_a 34 rfl)
theorem dX12_goesOn_156 : decode cX12_goesOn 156 = .ok (.bipush 8, 2) := bd16 (a := 8) (btAt dk09aref5_cX12_goesOn_80_a 35 rfl)
theorem dX12_goesOn_158 : decode cX12_goesOn 158 = .ok (.irem, 1) := bd112 (btAt dk09aref5_cX12_goesOn_80_a 36 rfl)
theorem dX12_goesOn_159 : decode cX12_goesOn 159 = .ok (.invokestatic 206, 3) := bd184 (a := 0) (b := 206) (btAt dk09aref5_cX12_goesOn_80_a 37 rfl)
theorem dX12_goesOn_162 : decode cX12_goesOn 162 = .ok (.dup2, 1) := bd92 (btAt dk09aref5_cX12_goesOn_80_a 38 rfl)
theorem dX12_goesOn_163 : decode cX12_goesOn 163 = .ok (.laload, 1) := bd47 (btAt dk09aref5_cX12_goesOn_80_a 39 rfl)
noncomputable def dk09aref5_cX12_goesOn_120 : List (Nat × List Nat) := [(8, [42]), (9, [180, 0, 32]), (12, [28]), (13, [9]), (14, [80]), (15, [132, 2, 1]), (18, [167, 255, 240]), (164, [29]), (165, [133]), (166, [42]), (167, [180, 0, 28]), (170, [28]), (171, [47]), (172, [105]), (173, [97]), (174, [80])]
set_option maxRecDepth 100000 in
theorem dk09aref5_cX12_goesOn_120_a : btA cX12_goesOn dk09aref5_cX12_goesOn_120 = true := by decide +kernel
theorem dX12_goesOn_8 : decode cX12_goesOn 8 = .ok (.aload_n 0, 1) := bd42 (btAt dk09aref5_cX12_goesOn_120_a 0 rfl)
theorem dX12_goesOn_9 : decode cX12_goesOn 9 = .ok (.getfield 32, 3) := bd180 (a := 0) (b := 32) (btAt dk09aref5_cX12_goesOn_120_a 1 rfl)
theorem dX12_goesOn_12 : decode cX12_goesOn 12 = .ok (.iload_n 2, 1) := bd28 (btAt dk09aref5_cX12_goesOn_120_a 2 rfl)
theorem dX12_goesOn_13 : decode cX12_goesOn 13 = .ok (.lconst 0, 1) := bd9 (btAt dk09aref5_cX12_goesOn_120_a 3 rfl)
theorem dX12_goesOn_14 : decode cX12_goesOn 14 = .ok (.lastore, 1) := bd80 (btAt dk09aref5_cX12_goesOn_120_a 4 rfl)
theorem dX12_goesOn_15 : decode cX12_goesOn 15 = .ok (.iinc 2 1, 3) := bd132 (a := 2) (b := 1) (btAt dk09aref5_cX12_goesOn_120_a 5 rfl)
theorem dX12_goesOn_18 : decode cX12_goesOn 18 = .ok (.goto (-16), 3) := bd167 (a := 255) (b := 240) (btAt dk09aref5_cX12_goesOn_120_a 6 rfl)
theorem dX12_goesOn_164 : decode cX12_goesOn 164 = .ok (.iload_n 3, 1) := bd29 (btAt dk09aref5_cX12_goesOn_120_a 7 rfl)
theorem dX12_goesOn_165 : decode cX12_goesOn 165 = .ok (.i2l, 1) := bd133 (btAt dk09aref5_cX12_goesOn_120_a 8 rfl)
theorem dX12_goesOn_166 : decode cX12_goesOn 166 = .ok (.aload_n 0, 1) := bd42 (btAt dk09aref5_cX12_goesOn_120_a 9 rfl)
theorem dX12_goesOn_167 : decode cX12_goesOn 167 = .ok (.getfield 28, 3) := bd180 (a := 0) (b := 28) (btAt dk09aref5_cX12_goesOn_120_a 10 rfl)
theorem dX12_goesOn_170 : decode cX12_goesOn 170 = .ok (.iload_n 2, 1) := bd28 (btAt dk09aref5_cX12_goesOn_120_a 11 rfl)
theorem dX12_goesOn_171 : decode cX12_goesOn 171 = .ok (.laload, 1) := bd47 (btAt dk09aref5_cX12_goesOn_120_a 12 rfl)
theorem dX12_goesOn_172 : decode cX12_goesOn 172 = .ok (.lmul, 1) := bd105 (btAt dk09aref5_cX12_goesOn_120_a 13 rfl)
theorem dX12_goesOn_173 : decode cX12_goesOn 173 = .ok (.ladd, 1) := bd97 (btAt dk09aref5_cX12_goesOn_120_a 14 rfl)
theorem dX12_goesOn_174 : decode cX12_goesOn 174 = .ok (.lastore, 1) := bd80 (btAt dk09aref5_cX12_goesOn_120_a 15 rfl)
noncomputable def dk09aref5_cX12_over_0 : List (Nat × List Nat) := [(0, [9]), (1, [64]), (2, [3]), (3, [62]), (4, [29]), (5, [16, 36]), (7, [162, 0, 35]), (10, [31]), (11, [42]), (12, [180, 0, 9]), (15, [16, 37]), (17, [29]), (18, [96]), (19, [46]), (20, [4]), (21, [160, 0, 12]), (24, [42]), (25, [180, 0, 28]), (28, [29]), (29, [47]), (30, [167, 0, 4]), (33, [9]), (34, [97]), (35, [64]), (36, [132, 3, 1]), (39, [167, 255, 221]), (42, [31]), (43, [173])]
set_option maxRecDepth 100000 in
theorem dk09aref5_cX12_over_0_a : btA cX12_over dk09aref5_cX12_over_0 = true := by decide +kernel
theorem dX12_over_0 : decode cX12_over 0 = .ok (.lconst 0, 1) := bd9 (btAt dk09aref5_cX12_over_0_a 0 rfl)
theorem dX12_over_1 : decode cX12_over 1 = .ok (.lstore_n 1, 1) := bd64 (btAt dk09aref5_cX12_over_0_a 1 rfl)
theorem dX12_over_2 : decode cX12_over 2 = .ok (.iconst 0, 1) := bd3 (btAt dk09aref5_cX12_over_0_a 2 rfl)
theorem dX12_over_3 : decode cX12_over 3 = .ok (.istore_n 3, 1) := bd62 (btAt dk09aref5_cX12_over_0_a 3 rfl)
theorem dX12_over_4 : decode cX12_over 4 = .ok (.iload_n 3, 1) := bd29 (btAt dk09aref5_cX12_over_0_a 4 rfl)
theorem dX12_over_5 : decode cX12_over 5 = .ok (.bipush 36, 2) := bd16 (a := 36) (btAt dk09aref5_cX12_over_0_a 5 rfl)
theorem dX12_over_7 : decode cX12_over 7 = .ok (.if_icmp .ge 35, 3) := bd162 (a := 0) (b := 35) (btAt dk09aref5_cX12_over_0_a 6 rfl)
theorem dX12_over_10 : decode cX12_over 10 = .ok (.lload_n 1, 1) := bd31 (btAt dk09aref5_cX12_over_0_a 7 rfl)
theorem dX12_over_11 : decode cX12_over 11 = .ok (.aload_n 0, 1) := bd42 (btAt dk09aref5_cX12_over_0_a 8 rfl)
theorem dX12_over_12 : decode cX12_over 12 = .ok (.getfield 9, 3) := bd180 (a := 0) (b := 9) (btAt dk09aref5_cX12_over_0_a 9 rfl)
theorem dX12_over_15 : decode cX12_over 15 = .ok (.bipush 37, 2) := bd16 (a := 37) (btAt dk09aref5_cX12_over_0_a 10 rfl)
theorem dX12_over_17 : decode cX12_over 17 = .ok (.iload_n 3, 1) := bd29 (btAt dk09aref5_cX12_over_0_a 11 rfl)
theorem dX12_over_18 : decode cX12_over 18 = .ok (.iadd, 1) := bd96 (btAt dk09aref5_cX12_over_0_a 12 rfl)
theorem dX12_over_19 : decode cX12_over 19 = .ok (.iaload, 1) := bd46 (btAt dk09aref5_cX12_over_0_a 13 rfl)
theorem dX12_over_20 : decode cX12_over 20 = .ok (.iconst 1, 1) := bd4 (btAt dk09aref5_cX12_over_0_a 14 rfl)
theorem dX12_over_21 : decode cX12_over 21 = .ok (.if_icmp .ne 12, 3) := bd160 (a := 0) (b := 12) (btAt dk09aref5_cX12_over_0_a 15 rfl)
theorem dX12_over_24 : decode cX12_over 24 = .ok (.aload_n 0, 1) := bd42 (btAt dk09aref5_cX12_over_0_a 16 rfl)
theorem dX12_over_25 : decode cX12_over 25 = .ok (.getfield 28, 3) := bd180 (a := 0) (b := 28) (btAt dk09aref5_cX12_over_0_a 17 rfl)
theorem dX12_over_28 : decode cX12_over 28 = .ok (.iload_n 3, 1) := bd29 (btAt dk09aref5_cX12_over_0_a 18 rfl)
theorem dX12_over_29 : decode cX12_over 29 = .ok (.laload, 1) := bd47 (btAt dk09aref5_cX12_over_0_a 19 rfl)
theorem dX12_over_30 : decode cX12_over 30 = .ok (.goto 4, 3) := bd167 (a := 0) (b := 4) (btAt dk09aref5_cX12_over_0_a 20 rfl)
theorem dX12_over_33 : decode cX12_over 33 = .ok (.lconst 0, 1) := bd9 (btAt dk09aref5_cX12_over_0_a 21 rfl)
theorem dX12_over_34 : decode cX12_over 34 = .ok (.ladd, 1) := bd97 (btAt dk09aref5_cX12_over_0_a 22 rfl)
theorem dX12_over_35 : decode cX12_over 35 = .ok (.lstore_n 1, 1) := bd64 (btAt dk09aref5_cX12_over_0_a 23 rfl)
theorem dX12_over_36 : decode cX12_over 36 = .ok (.iinc 3 1, 3) := bd132 (a := 3) (b := 1) (btAt dk09aref5_cX12_over_0_a 24 rfl)
theorem dX12_over_39 : decode cX12_over 39 = .ok (.goto (-35), 3) := bd167 (a := 255) (b := 221) (btAt dk09aref5_cX12_over_0_a 25 rfl)
theorem dX12_over_42 : decode cX12_over 42 = .ok (.lload_n 1, 1) := bd31 (btAt dk09aref5_cX12_over_0_a 26 rfl)
theorem dX12_over_43 : decode cX12_over 43 = .ok (.lreturn, 1) := bd173 (btAt dk09aref5_cX12_over_0_a 27 rfl)
noncomputable def dk09aref5_cX12_seen_0 : List (Nat × List Nat) := [(0, [9]), (1, [65]), (2, [3]), (3, [54, 4]), (5, [21, 4]), (7, [16, 36]), (9, [162, 0, 46]), (12, [32]), (13, [42]), (14, [180, 0, 9]), (17, [16, 37]), (19, [21, 4]), (21, [96]), (22, [46]), (23, [154, 0, 23]), (26, [42]), (27, [27]), (28, [21, 4]), (30, [182, 0, 174]), (33, [153, 0, 13]), (36, [42]), (37, [180, 0, 28]), (40, [21, 4]), (42, [47]), (43, [167, 0, 4]), (46, [9]), (47, [97]), (48, [65]), (49, [132, 4, 1]), (52, [167, 255, 209]), (55, [32]), (56, [173])]
set_option maxRecDepth 100000 in
theorem dk09aref5_cX12_seen_0_a : btA cX12_seen dk09aref5_cX12_seen_0 = true := by decide +kernel
theorem dX12_seen_0 : decode cX12_seen 0 = .ok (.lconst 0, 1) := bd9 (btAt dk09aref5_cX12_seen_0_a 0 rfl)
theorem dX12_seen_1 : decode cX12_seen 1 = .ok (.lstore_n 2, 1) := bd65 (btAt dk09aref5_cX12_seen_0_a 1 rfl)
theorem dX12_seen_2 : decode cX12_seen 2 = .ok (.iconst 0, 1) := bd3 (btAt dk09aref5_cX12_seen_0_a 2 rfl)
theorem dX12_seen_3 : decode cX12_seen 3 = .ok (.istore 4, 2) := bd54 (a := 4) (btAt dk09aref5_cX12_seen_0_a 3 rfl)
theorem dX12_seen_5 : decode cX12_seen 5 = .ok (.iload 4, 2) := bd21 (a := 4) (btAt dk09aref5_cX12_seen_0_a 4 rfl)
theorem dX12_seen_7 : decode cX12_seen 7 = .ok (.bipush 36, 2) := bd16 (a := 36) (btAt dk09aref5_cX12_seen_0_a 5 rfl)
theorem dX12_seen_9 : decode cX12_seen 9 = .ok (.if_icmp .ge 46, 3) := bd162 (a := 0) (b := 46) (btAt dk09aref5_cX12_seen_0_a 6 rfl)
theorem dX12_seen_12 : decode cX12_seen 12 = .ok (.lload_n 2, 1) := bd32 (btAt dk09aref5_cX12_seen_0_a 7 rfl)
theorem dX12_seen_13 : decode cX12_seen 13 = .ok (.aload_n 0, 1) := bd42 (btAt dk09aref5_cX12_seen_0_a 8 rfl)
theorem dX12_seen_14 : decode cX12_seen 14 = .ok (.getfield 9, 3) := bd180 (a := 0) (b := 9) (btAt dk09aref5_cX12_seen_0_a 9 rfl)
theorem dX12_seen_17 : decode cX12_seen 17 = .ok (.bipush 37, 2) := bd16 (a := 37) (btAt dk09aref5_cX12_seen_0_a 10 rfl)
theorem dX12_seen_19 : decode cX12_seen 19 = .ok (.iload 4, 2) := bd21 (a := 4) (btAt dk09aref5_cX12_seen_0_a 11 rfl)
theorem dX12_seen_21 : decode cX12_seen 21 = .ok (.iadd, 1) := bd96 (btAt dk09aref5_cX12_seen_0_a 12 rfl)
theorem dX12_seen_22 : decode cX12_seen 22 = .ok (.iaload, 1) := bd46 (btAt dk09aref5_cX12_seen_0_a 13 rfl)
theorem dX12_seen_23 : decode cX12_seen 23 = .ok (.ifCond .ne 23, 3) := bd154 (a := 0) (b := 23) (btAt dk09aref5_cX12_seen_0_a 14 rfl)
theorem dX12_seen_26 : decode cX12_seen 26 = .ok (.aload_n 0, 1) := bd42 (btAt dk09aref5_cX12_seen_0_a 15 rfl)
theorem dX12_seen_27 : decode cX12_seen 27 = .ok (.iload_n 1, 1) := bd27 (btAt dk09aref5_cX12_seen_0_a 16 rfl)
theorem dX12_seen_28 : decode cX12_seen 28 = .ok (.iload 4, 2) := bd21 (a := 4) (btAt dk09aref5_cX12_seen_0_a 17 rfl)
theorem dX12_seen_30 : decode cX12_seen 30 = .ok (.invokevirtual 174, 3) := bd182 (a := 0) (b := 174) (btAt dk09aref5_cX12_seen_0_a 18 rfl)
theorem dX12_seen_33 : decode cX12_seen 33 = .ok (.ifCond .eq 13, 3) := bd153 (a := 0) (b := 13) (btAt dk09aref5_cX12_seen_0_a 19 rfl)
theorem dX12_seen_36 : decode cX12_seen 36 = .ok (.aload_n 0, 1) := bd42 (btAt dk09aref5_cX12_seen_0_a 20 rfl)
theorem dX12_seen_37 : decode cX12_seen 37 = .ok (.getfield 28, 3) := bd180 (a := 0) (b := 28) (btAt dk09aref5_cX12_seen_0_a 21 rfl)
theorem dX12_seen_40 : decode cX12_seen 40 = .ok (.iload 4, 2) := bd21 (a := 4) (btAt dk09aref5_cX12_seen_0_a 22 rfl)
theorem dX12_seen_42 : decode cX12_seen 42 = .ok (.laload, 1) := bd47 (btAt dk09aref5_cX12_seen_0_a 23 rfl)
theorem dX12_seen_43 : decode cX12_seen 43 = .ok (.goto 4, 3) := bd167 (a := 0) (b := 4) (btAt dk09aref5_cX12_seen_0_a 24 rfl)
theorem dX12_seen_46 : decode cX12_seen 46 = .ok (.lconst 0, 1) := bd9 (btAt dk09aref5_cX12_seen_0_a 25 rfl)
theorem dX12_seen_47 : decode cX12_seen 47 = .ok (.ladd, 1) := bd97 (btAt dk09aref5_cX12_seen_0_a 26 rfl)
theorem dX12_seen_48 : decode cX12_seen 48 = .ok (.lstore_n 2, 1) := bd65 (btAt dk09aref5_cX12_seen_0_a 27 rfl)
theorem dX12_seen_49 : decode cX12_seen 49 = .ok (.iinc 4 1, 3) := bd132 (a := 4) (b := 1) (btAt dk09aref5_cX12_seen_0_a 28 rfl)
theorem dX12_seen_52 : decode cX12_seen 52 = .ok (.goto (-47), 3) := bd167 (a := 255) (b := 209) (btAt dk09aref5_cX12_seen_0_a 29 rfl)
theorem dX12_seen_55 : decode cX12_seen 55 = .ok (.lload_n 2, 1) := bd32 (btAt dk09aref5_cX12_seen_0_a 30 rfl)
theorem dX12_seen_56 : decode cX12_seen 56 = .ok (.lreturn, 1) := bd173 (btAt dk09aref5_cX12_seen_0_a 31 rfl)
noncomputable def dk09aref5_cX12_lowest_0 : List (Nat × List Nat) := [(0, [30]), (1, [55, 5]), (3, [32]), (4, [55, 7]), (6, [22, 7]), (8, [9]), (9, [148]), (10, [153, 0, 21]), (13, [22, 5]), (15, [22, 7]), (17, [113]), (18, [55, 9]), (20, [22, 7]), (22, [55, 5]), (24, [22, 9]), (26, [55, 7]), (28, [167, 255, 234]), (31, [21, 4]), (33, [154, 0, 7]), (36, [30]), (37, [167, 0, 4]), (40, [32]), (41, [22, 5]), (43, [109]), (44, [173])]
set_option maxRecDepth 100000 in
theorem dk09aref5_cX12_lowest_0_a : btA cX12_lowest dk09aref5_cX12_lowest_0 = true := by decide +kernel
theorem dX12_lowest_0 : decode cX12_lowest 0 = .ok (.lload_n 0, 1) := bd30 (btAt dk09aref5_cX12_lowest_0_a 0 rfl)
theorem dX12_lowest_1 : decode cX12_lowest 1 = .ok (.lstore 5, 2) := bd55 (a := 5) (btAt dk09aref5_cX12_lowest_0_a 1 rfl)
theorem dX12_lowest_3 : decode cX12_lowest 3 = .ok (.lload_n 2, 1) := bd32 (btAt dk09aref5_cX12_lowest_0_a 2 rfl)
theorem dX12_lowest_4 : decode cX12_lowest 4 = .ok (.lstore 7, 2) := bd55 (a := 7) (btAt dk09aref5_cX12_lowest_0_a 3 rfl)
theorem dX12_lowest_6 : decode cX12_lowest 6 = .ok (.lload 7, 2) := bd22 (a := 7) (btAt dk09aref5_cX12_lowest_0_a 4 rfl)
theorem dX12_lowest_8 : decode cX12_lowest 8 = .ok (.lconst 0, 1) := bd9 (btAt dk09aref5_cX12_lowest_0_a 5 rfl)
theorem dX12_lowest_9 : decode cX12_lowest 9 = .ok (.lcmp, 1) := bd148 (btAt dk09aref5_cX12_lowest_0_a 6 rfl)
theorem dX12_lowest_10 : decode cX12_lowest 10 = .ok (.ifCond .eq 21, 3) := bd153 (a := 0) (b := 21) (btAt dk09aref5_cX12_lowest_0_a 7 rfl)
theorem dX12_lowest_13 : decode cX12_lowest 13 = .ok (.lload 5, 2) := bd22 (a := 5) (btAt dk09aref5_cX12_lowest_0_a 8 rfl)
theorem dX12_lowest_15 : decode cX12_lowest 15 = .ok (.lload 7, 2) := bd22 (a := 7) (btAt dk09aref5_cX12_lowest_0_a 9 rfl)
theorem dX12_lowest_17 : decode cX12_lowest 17 = .ok (.lrem, 1) := bd113 (btAt dk09aref5_cX12_lowest_0_a 10 rfl)
theorem dX12_lowest_18 : decode cX12_lowest 18 = .ok (.lstore 9, 2) := bd55 (a := 9) (btAt dk09aref5_cX12_lowest_0_a 11 rfl)
theorem dX12_lowest_20 : decode cX12_lowest 20 = .ok (.lload 7, 2) := bd22 (a := 7) (btAt dk09aref5_cX12_lowest_0_a 12 rfl)
theorem dX12_lowest_22 : decode cX12_lowest 22 = .ok (.lstore 5, 2) := bd55 (a := 5) (btAt dk09aref5_cX12_lowest_0_a 13 rfl)
theorem dX12_lowest_24 : decode cX12_lowest 24 = .ok (.lload 9, 2) := bd22 (a := 9) (btAt dk09aref5_cX12_lowest_0_a 14 rfl)
theorem dX12_lowest_26 : decode cX12_lowest 26 = .ok (.lstore 7, 2) := bd55 (a := 7) (btAt dk09aref5_cX12_lowest_0_a 15 rfl)
theorem dX12_lowest_28 : decode cX12_lowest 28 = .ok (.goto (-22), 3) := bd167 (a := 255) (b := 234) (btAt dk09aref5_cX12_lowest_0_a 16 rfl)
theorem dX12_lowest_31 : decode cX12_lowest 31 = .ok (.iload 4, 2) := bd21 (a := 4) (btAt dk09aref5_cX12_lowest_0_a 17 rfl)
theorem dX12_lowest_33 : decode cX12_lowest 33 = .ok (.ifCond .ne 7, 3) := bd154 (a := 0) (b := 7) (btAt dk09aref5_cX12_lowest_0_a 18 rfl)
theorem dX12_lowest_36 : decode cX12_lowest 36 = .ok (.lload_n 0, 1) := bd30 (btAt dk09aref5_cX12_lowest_0_a 19 rfl)
theorem dX12_lowest_37 : decode cX12_lowest 37 = .ok (.goto 4, 3) := bd167 (a := 0) (b := 4) (btAt dk09aref5_cX12_lowest_0_a 20 rfl)
theorem dX12_lowest_40 : decode cX12_lowest 40 = .ok (.lload_n 2, 1) := bd32 (btAt dk09aref5_cX12_lowest_0_a 21 rfl)
theorem dX12_lowest_41 : decode cX12_lowest 41 = .ok (.lload 5, 2) := bd22 (a := 5) (btAt dk09aref5_cX12_lowest_0_a 22 rfl)
theorem dX12_lowest_43 : decode cX12_lowest 43 = .ok (.ldiv, 1) := bd109 (btAt dk09aref5_cX12_lowest_0_a 23 rfl)
theorem dX12_lowest_44 : decode cX12_lowest 44 = .ok (.lreturn, 1) := bd173 (btAt dk09aref5_cX12_lowest_0_a 24 rfl)
noncomputable def dk09aref5_cX12_twenties_0 : List (Nat × List Nat) := [(0, [10]), (1, [64]), (2, [3]), (3, [62]), (4, [29]), (5, [26]), (6, [162, 0, 15]), (9, [31]), (10, [20, 0, 204]), (13, [105]), (14, [64]), (15, [132, 3, 1]), (18, [167, 255, 242]), (21, [31]), (22, [173])]
set_option maxRecDepth 100000 in
theorem dk09aref5_cX12_twenties_0_a : btA cX12_twenties dk09aref5_cX12_twenties_0 = true := by decide +kernel
theorem dX12_twenties_0 : decode cX12_twenties 0 = .ok (.lconst 1, 1) := bd10 (btAt dk09aref5_cX12_twenties_0_a 0 rfl)
theorem dX12_twenties_1 : decode cX12_twenties 1 = .ok (.lstore_n 1, 1) := bd64 (btAt dk09aref5_cX12_twenties_0_a 1 rfl)
theorem dX12_twenties_2 : decode cX12_twenties 2 = .ok (.iconst 0, 1) := bd3 (btAt dk09aref5_cX12_twenties_0_a 2 rfl)
theorem dX12_twenties_3 : decode cX12_twenties 3 = .ok (.istore_n 3, 1) := bd62 (btAt dk09aref5_cX12_twenties_0_a 3 rfl)
theorem dX12_twenties_4 : decode cX12_twenties 4 = .ok (.iload_n 3, 1) := bd29 (btAt dk09aref5_cX12_twenties_0_a 4 rfl)
theorem dX12_twenties_5 : decode cX12_twenties 5 = .ok (.iload_n 0, 1) := bd26 (btAt dk09aref5_cX12_twenties_0_a 5 rfl)
theorem dX12_twenties_6 : decode cX12_twenties 6 = .ok (.if_icmp .ge 15, 3) := bd162 (a := 0) (b := 15) (btAt dk09aref5_cX12_twenties_0_a 6 rfl)
theorem dX12_twenties_9 : decode cX12_twenties 9 = .ok (.lload_n 1, 1) := bd31 (btAt dk09aref5_cX12_twenties_0_a 7 rfl)
theorem dX12_twenties_10 : decode cX12_twenties 10 = .ok (.ldc2_w 204, 3) := bd20 (a := 0) (b := 204) (btAt dk09aref5_cX12_twenties_0_a 8 rfl)
theorem dX12_twenties_13 : decode cX12_twenties 13 = .ok (.lmul, 1) := bd105 (btAt dk09aref5_cX12_twenties_0_a 9 rfl)
theorem dX12_twenties_14 : decode cX12_twenties 14 = .ok (.lstore_n 1, 1) := bd64 (btAt dk09aref5_cX12_twenties_0_a 10 rfl)
theorem dX12_twenties_15 : decode cX12_twenties 15 = .ok (.iinc 3 1, 3) := bd132 (a := 3) (b := 1) (btAt dk09aref5_cX12_twenties_0_a 11 rfl)
theorem dX12_twenties_18 : decode cX12_twenties 18 = .ok (.goto (-14), 3) := bd167 (a := 255) (b := 242) (btAt dk09aref5_cX12_twenties_0_a 12 rfl)
theorem dX12_twenties_21 : decode cX12_twenties 21 = .ok (.lload_n 1, 1) := bd31 (btAt dk09aref5_cX12_twenties_0_a 13 rfl)
theorem dX12_twenties_22 : decode cX12_twenties 22 = .ok (.lreturn, 1) := bd173 (btAt dk09aref5_cX12_twenties_0_a 14 rfl)
theorem kc_driftOf_0 : ∀ w ∈ wsX120, w ∈ wsX12_driftOf := fun w h => List.mem_cons_of_mem _ (gin_wsX120 w h)
theorem kc_driftOf_1 : (.fieldLink RX12 146 "MistHeapsModel" "drifting" "I" : Cond) ∈ wsX12_driftOf := kc_of 1152 rfl rfl rfl
set_option maxHeartbeats 4000000 in
set_option maxRecDepth 100000 in
theorem c_driftOf (l : Launch) (dC : Nat → ClassId) (dI : Nat → Nat → Nat) (m0 aS aI aB aT aG aO aN aD aY : Nat) (th im ac sp en wg op se dn rn kd nu tv : Int32) (bv : Int64) (cS cB cT : ClassId) (fS : Nat → Int32) (fB : Nat → Int32) (fT : Nat → Int32) (x : Int32) (cz : List pCla) (sz : Nat) (zh : hol fS cz) : Met l yX12_driftOf wsX12_driftOf ({ frames := 1, cells := 0, slots := 0, locals := 31 } : Room) (va_Pc [.ref m0, .int x] (fun U => U.heap.size = sz ∧ va_P (dC, dI) vwCl [(zo14irriiiiiirriirrrrlriiii m0 th aS aI im ac sp en wg op aB aT se dn aG aO aN aD bv aY rn kd nu tv), (zaI aS cS 901 fS), (zaI aB cB 6 fB), (zaI aT cT 64 fT)] U.heap ∧ va_K (dC, dI) vwCl [(cS, .int), (cB, .int), (cT, .boolean)] U ∧ va_D (fun _ => True) [(zo14irriiiiiirriirrrrlriiii m0 th aS aI im ac sp en wg op aB aT se dn aG aO aN aD bv aY rn kd nu tv), (zaI aS cS 901 fS), (zaI aB cB 6 fB), (zaI aT cT 64 fT)])) (va_Qi (fun (r : Int32) (u : (Nat → Int32) × (Nat → Int32) × (Int32) × (Int32)) => match u with | (fB9, fT9, se9, dn9) => r = DRV cz (fS 6) (fS 7) x) (fun (u : (Nat → Int32) × (Nat → Int32) × (Int32) × (Int32)) (t : State) => match u with | (fB9, fT9, se9, dn9) => va_P (dC, dI) vwCl [(zo14irriiiiiirriirrrrlriiii m0 th aS aI im ac sp en wg op aB aT se9 dn9 aG aO aN aD bv aY rn kd nu tv), (zaI aS cS 901 fS), (zaI aB cB 6 fB9), (zaI aT cT 64 fT9)] t.heap ∧ va_K (dC, dI) vwCl [(cS, .int), (cB, .int), (cT, .boolean)] t ∧ va_D (va_A [(zo14irriiiiiirriirrrrlriiii m0 th aS aI im ac sp en wg op aB aT se dn aG aO aN aD bv aY rn kd nu tv), (zaI aS cS 901 fS), (zaI aB cB 6 fB), (zaI aT cT 64 fT)] sz) [(zo14irriiiiiirriirrrrlriiii m0 th aS aI im ac sp en wg op aB aT se9 dn9 aG aO aN aD bv aY rn kd nu tv), (zaI aS cS 901 fS), (zaI aB cB 6 fB9), (zaI aT cT 64 fT9)]) (va_A [(zo14irriiiiiirriirrrrlriiii m0 th aS aI im ac sp en wg op aB aT se dn aG aO aN aD bv aY rn kd nu tv), (zaI aS cS 901 fS), (zaI aB cB 6 fB), (zaI aT cT 64 fT)] sz)) 0 0 (va_A [(zo14irriiiiiirriirrrrlriiii m0 th aS aI im ac sp en wg op aB aT se dn aG aO aN aD bv aY rn kd nu tv), (zaI aS cS 901 fS), (zaI aB cB 6 fB), (zaI aT cT 64 fT)] sz) := by
  refine met_ofQ (cc := cX12_driftOf) (maxL := 2) (ret := (some .int)) (by decide) rfl ?_
  intro p e s m args below meth c s₁ Q B hml hv hQ
  obtain ⟨rfl, hsz, hP, hK, hD0⟩ := hv
  have hx := B.exec
  have hb := B.bytes
  have hr := B.returns
  have hts := atoms_spec (ws := wsX12_driftOf) B.pre
  have hown : s.vm.findClass RX12 = some m.cls := findClass_of_methodNamed B.named
  have hlocks := B.notSynchronized
  subst hsz
  have hD := hD0.self (sz := s.heap.size)
  generalize hAe : va_A [(zo14irriiiiiirriirrrrlriiii m0 th aS aI im ac sp en wg op aB aT se dn aG aO aN aD bv aY rn kd nu tv), (zaI aS cS 901 fS), (zaI aB cB 6 fB), (zaI aT cT 64 fT)] s.heap.size = A at hD hQ ⊢
  have hA : ∀ q : Nat, s.heap.size ≤ q → A q := fun q h => by rw [← hAe]; exact Or.inr h
  have hS : va_S A s.heap s.heap [] := va_S.rf
  have hl := lv_entry [.ref m0, .int x] (n := 2) (Nat.le_of_ble_eq_true rfl)
  rw [lg_entry_eq]
  generalize (lg_sl [.ref m0, .int x] ++ List.replicate (2 - (lg_sl [.ref m0, .int x]).length) Slot.unset).toArray = ls at hl ⊢
  generalize hag : ([.ref m0, .int x] : List Value).toArray = args at hts hQ ⊢
  have hl : lv_has ls 2 [(0, .ref m0), (1, .int x)] := hl
  obtain ⟨H, hH⟩ : ∃ H : Heap, H = s.heap := ⟨_, rfl⟩
  rw [← hH] at hP
  rw [← hH]
  have hS : va_S A s.heap H [] := by rw [hH]; exact hS
  obtain ⟨locs, hlo⟩ : ∃ L : List Loc, L = [] := ⟨_, rfl⟩
  rw [← hlo] at hS
  rw [← hlo]
  clear hH hlo
  refine lv_aload_n hx hb dX12_driftOf_0 rfl (lv_at hl 0 rfl) ?_
  refine lv_bipush (v := 99) hx hb dX12_driftOf_1 (by decide) ?_
  refine lv_bipush (v := 99) hx hb dX12_driftOf_3 (by decide) ?_
  refine lv_iload_n hx hb dX12_driftOf_5 rfl (lv_at hl 1 rfl) ?_
  have hPc := hP.sub (ws' := [(zo14irriiiiiirriirrrrlriiii m0 th aS aI im ac sp en wg op aB aT se dn aG aO aN aD bv aY rn kd nu tv), (zaI aS cS 901 fS), (zaI aB cB 6 fB), (zaI aT cT 64 fT)]) [0, 1, 2, 3] rfl
  have hDc := hD.sub (ws' := [(zo14irriiiiiirriirrrrlriiii m0 th aS aI im ac sp en wg op aB aT se dn aG aO aN aD bv aY rn kd nu tv), (zaI aS cS 901 fS), (zaI aB cB 6 fB), (zaI aT cT 64 fT)]) [0, 1, 2, 3] (by decide) rfl
  have hKc := hK.sub (tys' := [(cS, .int), (cB, .int), (cT, .boolean)]) [0, 1, 2] rfl
  have hFc := va_free (wc := [(zo14irriiiiiirriirrrrlriiii m0 th aS aI im ac sp en wg op aB aT se dn aG aO aN aD bv aY rn kd nu tv), (zaI aS cS 901 fS), (zaI aB cB 6 fB), (zaI aT cT 64 fT)]) hD hS hA [0, 1, 2, 3] rfl
  refine va_callv (va_runV (As := [.int 99, .int 99, .int x]) (rest := []) ⟨hx, hb, hml, hown, hts⟩ (c_looks l dC dI m0 aS aI aB aT aG aO aN aD aY th im ac sp en wg op se dn rn kd nu tv bv cS cB cT fS fB fT 99 99 x cz H.size (zh)) (cwV 3 hts gX12_driftOf_X12_looks rfl rfl rfl hd_yX12_looks ⟨Nat.le_of_ble_eq_true rfl, Nat.le_of_ble_eq_true rfl⟩) ⟨fun a U g mk q => by obtain ⟨q0, q1, qP, qK, qD⟩ := q; exact ⟨q0, mvz g mk a q1, mvP g mk a qP, mvK g mk a qK, qD⟩, va_recv hK hP (ci := 14) (q := (RX12, TX12, 23)) (q0 := 0) rfl rfl, fun U hU hW => ⟨rfl, by rw [hU], by rw [hU]; exact hPc, va_K.moved hW.alike hKc, hDc.weaken (fun _ _ _ _ => trivial)⟩⟩ rfl rfl hl.1 rfl (lv_room (Nat.le_of_ble_eq_true rfl)) dX12_driftOf_6 ⟨Nat.le_of_ble_eq_true rfl, Nat.le_of_ble_eq_true rfl⟩) hS (fun q _ h => hFc q h) hFc (fun u tC H1 locs htC hvm hw_2 hB hz1 hk1 hS => ?_)
  obtain ⟨fB9_3, fT9_4, se9_5, dn9_6⟩ := u
  try dsimp only at hw_2 hB
  obtain ⟨hP1, hK1, hD1⟩ := hB
  rw [htC] at hP1
  have hK1 := va_K.moved hvm.symm hK1
  obtain ⟨hP, hD⟩ := va_join (wr := []) (w1 := [(zo14irriiiiiirriirrrrlriiii m0 th aS aI im ac sp en wg op aB aT se9_5 dn9_6 aG aO aN aD bv aY rn kd nu tv), (zaI aS cS 901 fS), (zaI aB cB 6 fB9_3), (zaI aT cT 64 fT9_4)]) hP hD [0, 1, 2, 3] [] rfl rfl (by decide) (by decide) hk1 hFc hP1 hD1
  have hK := (hK.sub (tys' := []) [] rfl).app hK1
  generalize H1 = H at hP hS ⊢
  have hP : va_P (dC, dI) vwCl [(zo14irriiiiiirriirrrrlriiii m0 th aS aI im ac sp en wg op aB aT se9_5 dn9_6 aG aO aN aD bv aY rn kd nu tv), (zaI aS cS 901 fS), (zaI aB cB 6 fB9_3), (zaI aT cT 64 fT9_4)] H := hP
  have hD : va_D A [(zo14irriiiiiirriirrrrlriiii m0 th aS aI im ac sp en wg op aB aT se9_5 dn9_6 aG aO aN aD bv aY rn kd nu tv), (zaI aS cS 901 fS), (zaI aB cB 6 fB9_3), (zaI aT cT 64 fT9_4)] := hD
  have hK : va_K (dC, dI) vwCl [(cS, .int), (cB, .int), (cT, .boolean)] s := hK
  obtain ⟨ese, edn⟩ := hw_2
  refine lv_aload_n hx hb dX12_driftOf_9 rfl (lv_at hl 0 rfl) ?_
  refine va_get (D := (dC, dI)) (ci := 14) (v := .int dn9_6) (C := RX12) (T := TX12) (N := 23) hx hb hts kc_driftOf_0 hown hK hP 0 rfl rfl 12 (by decide) (hts (.fieldLink RX12 146 "MistHeapsModel" "drifting" "I") kc_driftOf_1) (fun _ h9 => h9) rfl dX12_driftOf_10 ?_
  refine lv_iconst (v := 5) hx hb dX12_driftOf_13 (by decide) ?_
  refine lv_icmp_le (tgt := 21) hx hb dX12_driftOf_14 (by decide) (fun c_7 => ?_) (fun c_7 => ?_)
  · skip
    refine lv_aload_n hx hb dX12_driftOf_21 rfl (lv_at hl 0 rfl) ?_
    refine va_get (D := (dC, dI)) (ci := 14) (v := .int dn9_6) (C := RX12) (T := TX12) (N := 23) hx hb hts kc_driftOf_0 hown hK hP 0 rfl rfl 12 (by decide) (hts (.fieldLink RX12 146 "MistHeapsModel" "drifting" "I") kc_driftOf_1) (fun _ h9 => h9) rfl dX12_driftOf_22 ?_
    rw [hQ]
    have hP9 := hP.sub (ws' := [(zo14irriiiiiirriirrrrlriiii m0 th aS aI im ac sp en wg op aB aT se9_5 dn9_6 aG aO aN aD bv aY rn kd nu tv), (zaI aS cS 901 fS), (zaI aB cB 6 fB9_3), (zaI aT cT 64 fT9_4)]) [0, 1, 2, 3] rfl
    have hD9 := hD.sub (ws' := [(zo14irriiiiiirriirrrrlriiii m0 th aS aI im ac sp en wg op aB aT se9_5 dn9_6 aG aO aN aD bv aY rn kd nu tv), (zaI aS cS 901 fS), (zaI aB cB 6 fB9_3), (zaI aT cT 64 fT9_4)]) [0, 1, 2, 3] (by decide) rfl
    have hK9 := hK.sub (tys' := [(cS, .int), (cB, .int), (cT, .boolean)]) [0, 1, 2] rfl
    exact W.iret (v := dn9_6) hx hb hr (fun tQ htQ hWQ => ⟨⟨dn9_6, (fB9_3, fT9_4, se9_5, dn9_6), rfl, by first | exact dr_a edn (by assumption) | exact dr_b edn (by assumption), by rw [htQ]; exact hP9, va_K.moved hWQ.alike hK9, hD9⟩, hS.F htQ⟩) hS.2.2 dX12_driftOf_25
  · skip
    refine lv_iconst (v := 5) hx hb dX12_driftOf_17 (by decide) ?_
    refine lv_goto (tgt := 25) hx hb dX12_driftOf_18 (by decide) ?_
    rw [hQ]
    have hP9 := hP.sub (ws' := [(zo14irriiiiiirriirrrrlriiii m0 th aS aI im ac sp en wg op aB aT se9_5 dn9_6 aG aO aN aD bv aY rn kd nu tv), (zaI aS cS 901 fS), (zaI aB cB 6 fB9_3), (zaI aT cT 64 fT9_4)]) [0, 1, 2, 3] rfl
    have hD9 := hD.sub (ws' := [(zo14irriiiiiirriirrrrlriiii m0 th aS aI im ac sp en wg op aB aT se9_5 dn9_6 aG aO aN aD bv aY rn kd nu tv), (zaI aS cS 901 fS), (zaI aB cB 6 fB9_3), (zaI aT cT 64 fT9_4)]) [0, 1, 2, 3] (by decide) rfl
    have hK9 := hK.sub (tys' := [(cS, .int), (cB, .int), (cT, .boolean)]) [0, 1, 2] rfl
    exact W.iret (v := 5) hx hb hr (fun tQ htQ hWQ => ⟨⟨5, (fB9_3, fT9_4, se9_5, dn9_6), rfl, by first | exact dr_a edn (by assumption) | exact dr_b edn (by assumption), by rw [htQ]; exact hP9, va_K.moved hWQ.alike hK9, hD9⟩, hS.F htQ⟩) hS.2.2 dX12_driftOf_25

set_option maxHeartbeats 4000000 in
set_option maxRecDepth 100000 in
theorem c_mDrift (l : Launch) (dC : Nat → ClassId) (dI : Nat → Nat → Nat) (m0 aS aI aB aT aG aO aN aD aY : Nat) (th im ac sp en wg op se dn rn kd nu tv : Int32) (bv : Int64) (cS cB cT : ClassId) (fS : Nat → Int32) (fB : Nat → Int32) (fT : Nat → Int32) (mi sn x : Int32) (cz : List pCla) (sz : Nat) (zh : hol fS cz) (zmi : fS 6 = mi) (zsn : fS 7 = sn) : Met l yX12_drift wsX12_drift ({ frames := 2, cells := 0, slots := 0, locals := 52 } : Room) (va_Pc [.ref m0, .int x] (fun U => U.heap.size = sz ∧ va_P (dC, dI) vwCl [(zo14irriiiiiirriirrrrlriiii m0 th aS aI im ac sp en wg op aB aT se dn aG aO aN aD bv aY rn kd nu tv), (zaI aS cS 901 fS), (zaI aB cB 6 fB), (zaI aT cT 64 fT)] U.heap ∧ va_K (dC, dI) vwCl [(cS, .int), (cB, .int), (cT, .boolean)] U ∧ va_D (fun _ => True) [(zo14irriiiiiirriirrrrlriiii m0 th aS aI im ac sp en wg op aB aT se dn aG aO aN aD bv aY rn kd nu tv), (zaI aS cS 901 fS), (zaI aB cB 6 fB), (zaI aT cT 64 fT)])) (va_Qi (fun (r : Int32) (u : (Nat → Int32) × (Nat → Int32) × (Int32) × (Int32)) => match u with | (fB9, fT9, se9, dn9) => r = drR cz mi sn x) (fun (u : (Nat → Int32) × (Nat → Int32) × (Int32) × (Int32)) (t : State) => match u with | (fB9, fT9, se9, dn9) => va_P (dC, dI) vwCl [(zo14irriiiiiirriirrrrlriiii m0 th aS aI im ac sp en wg op aB aT se9 dn9 aG aO aN aD bv aY rn kd nu tv), (zaI aS cS 901 fS), (zaI aB cB 6 fB9), (zaI aT cT 64 fT9)] t.heap ∧ va_K (dC, dI) vwCl [(cS, .int), (cB, .int), (cT, .boolean)] t ∧ va_D (va_A [(zo14irriiiiiirriirrrrlriiii m0 th aS aI im ac sp en wg op aB aT se dn aG aO aN aD bv aY rn kd nu tv), (zaI aS cS 901 fS), (zaI aB cB 6 fB), (zaI aT cT 64 fT)] sz) [(zo14irriiiiiirriirrrrlriiii m0 th aS aI im ac sp en wg op aB aT se9 dn9 aG aO aN aD bv aY rn kd nu tv), (zaI aS cS 901 fS), (zaI aB cB 6 fB9), (zaI aT cT 64 fT9)]) (va_A [(zo14irriiiiiirriirrrrlriiii m0 th aS aI im ac sp en wg op aB aT se dn aG aO aN aD bv aY rn kd nu tv), (zaI aS cS 901 fS), (zaI aB cB 6 fB), (zaI aT cT 64 fT)] sz)) 0 0 (va_A [(zo14irriiiiiirriirrrrlriiii m0 th aS aI im ac sp en wg op aB aT se dn aG aO aN aD bv aY rn kd nu tv), (zaI aS cS 901 fS), (zaI aB cB 6 fB), (zaI aT cT 64 fT)] sz) := by
  refine met_ofQ (cc := cX12_drift) (maxL := 2) (ret := (some .int)) (by decide) rfl ?_
  intro p e s m args below meth c s₁ Q B hml hv hQ
  obtain ⟨rfl, hsz, hP, hK, hD0⟩ := hv
  have hx := B.exec
  have hb := B.bytes
  have hr := B.returns
  have hts := atoms_spec (ws := wsX12_drift) B.pre
  have hown : s.vm.findClass RX12 = some m.cls := findClass_of_methodNamed B.named
  have hlocks := B.notSynchronized
  subst hsz
  have hD := hD0.self (sz := s.heap.size)
  generalize hAe : va_A [(zo14irriiiiiirriirrrrlriiii m0 th aS aI im ac sp en wg op aB aT se dn aG aO aN aD bv aY rn kd nu tv), (zaI aS cS 901 fS), (zaI aB cB 6 fB), (zaI aT cT 64 fT)] s.heap.size = A at hD hQ ⊢
  have hA : ∀ q : Nat, s.heap.size ≤ q → A q := fun q h => by rw [← hAe]; exact Or.inr h
  have hS : va_S A s.heap s.heap [] := va_S.rf
  have hl := lv_entry [.ref m0, .int x] (n := 2) (Nat.le_of_ble_eq_true rfl)
  rw [lg_entry_eq]
  generalize (lg_sl [.ref m0, .int x] ++ List.replicate (2 - (lg_sl [.ref m0, .int x]).length) Slot.unset).toArray = ls at hl ⊢
  generalize hag : ([.ref m0, .int x] : List Value).toArray = args at hts hQ ⊢
  have hl : lv_has ls 2 [(0, .ref m0), (1, .int x)] := hl
  obtain ⟨H, hH⟩ : ∃ H : Heap, H = s.heap := ⟨_, rfl⟩
  rw [← hH] at hP
  rw [← hH]
  have hS : va_S A s.heap H [] := by rw [hH]; exact hS
  obtain ⟨locs, hlo⟩ : ∃ L : List Loc, L = [] := ⟨_, rfl⟩
  rw [← hlo] at hS
  rw [← hlo]
  clear hH hlo
  refine lv_iload_n hx hb dX12_drift_0 rfl (lv_at hl 1 rfl) ?_
  refine vp_callSi (va_runS (As := [.int x]) (rest := []) ⟨hx, hb, hml, hown, hts⟩ (c_mCell l dC dI x) (va_cwS 1 hts gX12_drift_X12_isCell rfl rfl rfl hd_yX12_isCell.2 ⟨Nat.le_of_ble_eq_true rfl, Nat.le_of_ble_eq_true rfl⟩) ⟨fun a U g mk q => ⟨q.1, trivial⟩, fun U hU hW => ⟨rfl, trivial⟩⟩ rfl rfl hl.1 rfl (lv_room (Nat.le_of_ble_eq_true rfl)) dX12_drift_1 ⟨Nat.le_of_ble_eq_true rfl, Nat.le_of_ble_eq_true rfl⟩).run (fun r_1 hw_2 => ?_)
  rcases hw_2 with ⟨rfl, h_3, h_4⟩ | ⟨rfl, h_5⟩
  · skip
    refine lv_if_eq (tgt := 15) hx hb dX12_drift_4 (by decide) (fun c_6 => absurd c_6 (by decide)) (fun _ => ?_)
    refine lv_aload_n hx hb dX12_drift_7 rfl (lv_at hl 0 rfl) ?_
    refine lv_iload_n hx hb dX12_drift_8 rfl (lv_at hl 1 rfl) ?_
    have hPc := hP.sub (ws' := [(zo14irriiiiiirriirrrrlriiii m0 th aS aI im ac sp en wg op aB aT se dn aG aO aN aD bv aY rn kd nu tv), (zaI aS cS 901 fS), (zaI aB cB 6 fB), (zaI aT cT 64 fT)]) [0, 1, 2, 3] rfl
    have hDc := hD.sub (ws' := [(zo14irriiiiiirriirrrrlriiii m0 th aS aI im ac sp en wg op aB aT se dn aG aO aN aD bv aY rn kd nu tv), (zaI aS cS 901 fS), (zaI aB cB 6 fB), (zaI aT cT 64 fT)]) [0, 1, 2, 3] (by decide) rfl
    have hKc := hK.sub (tys' := [(cS, .int), (cB, .int), (cT, .boolean)]) [0, 1, 2] rfl
    have hFc := va_free (wc := [(zo14irriiiiiirriirrrrlriiii m0 th aS aI im ac sp en wg op aB aT se dn aG aO aN aD bv aY rn kd nu tv), (zaI aS cS 901 fS), (zaI aB cB 6 fB), (zaI aT cT 64 fT)]) hD hS hA [0, 1, 2, 3] rfl
    refine va_calli (va_runV (As := [.int x]) (rest := []) ⟨hx, hb, hml, hown, hts⟩ (c_driftOf l dC dI m0 aS aI aB aT aG aO aN aD aY th im ac sp en wg op se dn rn kd nu tv bv cS cB cT fS fB fT x cz H.size (zh)) (cwV 1 hts gX12_drift_X12_driftOf rfl rfl rfl hd_yX12_driftOf ⟨Nat.le_of_ble_eq_true rfl, Nat.le_of_ble_eq_true rfl⟩) ⟨fun a U g mk q => by obtain ⟨q0, q1, qP, qK, qD⟩ := q; exact ⟨q0, mvz g mk a q1, mvP g mk a qP, mvK g mk a qK, qD⟩, va_recv hK hP (ci := 14) (q := (RX12, TX12, 23)) (q0 := 0) rfl rfl, fun U hU hW => ⟨rfl, by rw [hU], by rw [hU]; exact hPc, va_K.moved hW.alike hKc, hDc.weaken (fun _ _ _ _ => trivial)⟩⟩ rfl rfl hl.1 rfl (lv_room (Nat.le_of_ble_eq_true rfl)) dX12_drift_9 ⟨Nat.le_of_ble_eq_true rfl, Nat.le_of_ble_eq_true rfl⟩) hS (fun q _ h => hFc q h) hFc (fun r_7 u tC H1 locs htC hvm hw_8 hB hz1 hk1 hS => ?_)
    obtain ⟨fB9_9, fT9_10, se9_11, dn9_12⟩ := u
    try dsimp only at hw_8 hB
    obtain ⟨hP1, hK1, hD1⟩ := hB
    rw [htC] at hP1
    have hK1 := va_K.moved hvm.symm hK1
    obtain ⟨hP, hD⟩ := va_join (wr := []) (w1 := [(zo14irriiiiiirriirrrrlriiii m0 th aS aI im ac sp en wg op aB aT se9_11 dn9_12 aG aO aN aD bv aY rn kd nu tv), (zaI aS cS 901 fS), (zaI aB cB 6 fB9_9), (zaI aT cT 64 fT9_10)]) hP hD [0, 1, 2, 3] [] rfl rfl (by decide) (by decide) hk1 hFc hP1 hD1
    have hK := (hK.sub (tys' := []) [] rfl).app hK1
    generalize H1 = H at hP hS ⊢
    have hP : va_P (dC, dI) vwCl [(zo14irriiiiiirriirrrrlriiii m0 th aS aI im ac sp en wg op aB aT se9_11 dn9_12 aG aO aN aD bv aY rn kd nu tv), (zaI aS cS 901 fS), (zaI aB cB 6 fB9_9), (zaI aT cT 64 fT9_10)] H := hP
    have hD : va_D A [(zo14irriiiiiirriirrrrlriiii m0 th aS aI im ac sp en wg op aB aT se9_11 dn9_12 aG aO aN aD bv aY rn kd nu tv), (zaI aS cS 901 fS), (zaI aB cB 6 fB9_9), (zaI aT cT 64 fT9_10)] := hD
    have hK : va_K (dC, dI) vwCl [(cS, .int), (cB, .int), (cT, .boolean)] s := hK
    obtain rfl := hw_8
    refine lv_goto (tgt := 16) hx hb dX12_drift_12 (by decide) ?_
    rw [hQ]
    have hP9 := hP.sub (ws' := [(zo14irriiiiiirriirrrrlriiii m0 th aS aI im ac sp en wg op aB aT se9_11 dn9_12 aG aO aN aD bv aY rn kd nu tv), (zaI aS cS 901 fS), (zaI aB cB 6 fB9_9), (zaI aT cT 64 fT9_10)]) [0, 1, 2, 3] rfl
    have hD9 := hD.sub (ws' := [(zo14irriiiiiirriirrrrlriiii m0 th aS aI im ac sp en wg op aB aT se9_11 dn9_12 aG aO aN aD bv aY rn kd nu tv), (zaI aS cS 901 fS), (zaI aB cB 6 fB9_9), (zaI aT cT 64 fT9_10)]) [0, 1, 2, 3] (by decide) rfl
    have hK9 := hK.sub (tys' := [(cS, .int), (cB, .int), (cT, .boolean)]) [0, 1, 2] rfl
    exact W.iret (v := DRV cz (fS 6) (fS 7) x) hx hb hr (fun tQ htQ hWQ => ⟨⟨(DRV cz (fS 6) (fS 7) x), (fB9_9, fT9_10, se9_11, dn9_12), rfl, by first | exact drR_no (by assumption) | exact drR_m (by assumption) (by assumption) zmi zsn, by rw [htQ]; exact hP9, va_K.moved hWQ.alike hK9, hD9⟩, hS.F htQ⟩) hS.2.2 dX12_drift_16
  · skip
    refine lv_if_eq (tgt := 15) hx hb dX12_drift_4 (by decide) (fun _ => ?_) (fun c_13 => absurd c_13 (by decide))
    refine lv_iconst (v := (-1)) hx hb dX12_drift_15 (by decide) ?_
    rw [hQ]
    have hP9 := hP.sub (ws' := [(zo14irriiiiiirriirrrrlriiii m0 th aS aI im ac sp en wg op aB aT se dn aG aO aN aD bv aY rn kd nu tv), (zaI aS cS 901 fS), (zaI aB cB 6 fB), (zaI aT cT 64 fT)]) [0, 1, 2, 3] rfl
    have hD9 := hD.sub (ws' := [(zo14irriiiiiirriirrrrlriiii m0 th aS aI im ac sp en wg op aB aT se dn aG aO aN aD bv aY rn kd nu tv), (zaI aS cS 901 fS), (zaI aB cB 6 fB), (zaI aT cT 64 fT)]) [0, 1, 2, 3] (by decide) rfl
    have hK9 := hK.sub (tys' := [(cS, .int), (cB, .int), (cT, .boolean)]) [0, 1, 2] rfl
    exact W.iret (v := (-1)) hx hb hr (fun tQ htQ hWQ => ⟨⟨(-1), (fB, fT, se, dn), rfl, by first | exact drR_no (by assumption) | exact drR_m (by assumption) (by assumption) zmi zsn, by rw [htQ]; exact hP9, va_K.moved hWQ.alike hK9, hD9⟩, hS.F htQ⟩) hS.2.2 dX12_drift_16

theorem kc_lookDrifts_0 : ∀ w ∈ wsX120, w ∈ wsX12_looksForDrifts := fun w h => List.mem_cons_of_mem _ (gin_wsX120 w h)
theorem kc_lookDrifts_1 : (.fieldLink RX12 35 "MistHeapsModel" "drifts" "[I" : Cond) ∈ wsX12_looksForDrifts := kc_of 1156 rfl rfl rfl
set_option maxHeartbeats 4000000 in
set_option maxRecDepth 100000 in
theorem c_lookDrifts (l : Launch) (dC : Nat → ClassId) (dI : Nat → Nat → Nat) (m0 aS aI aB aT aG aO aN aD aY : Nat) (th im ac sp en wg op se dn rn kd nu tv : Int32) (bv : Int64) (cS cB cT cD : ClassId) (fS : Nat → Int32) (fB : Nat → Int32) (fT : Nat → Int32) (fD : Nat → Int32) (cz : List pCla) (sz : Nat) (zh : hol fS cz) : Met l yX12_looksForDrifts wsX12_looksForDrifts ({ frames := 2, cells := 0, slots := 0, locals := 52 } : Room) (va_Pc [.ref m0] (fun U => U.heap.size = sz ∧ va_P (dC, dI) vwCl [(zo14irriiiiiirriirrrrlriiii m0 th aS aI im ac sp en wg op aB aT se dn aG aO aN aD bv aY rn kd nu tv), (zaI aS cS 901 fS), (zaI aB cB 6 fB), (zaI aT cT 64 fT), (zaI aD cD 36 fD)] U.heap ∧ va_K (dC, dI) vwCl [(cS, .int), (cB, .int), (cT, .boolean), (cD, .int)] U ∧ va_D (fun _ => True) [(zo14irriiiiiirriirrrrlriiii m0 th aS aI im ac sp en wg op aB aT se dn aG aO aN aD bv aY rn kd nu tv), (zaI aS cS 901 fS), (zaI aB cB 6 fB), (zaI aT cT 64 fT), (zaI aD cD 36 fD)])) (va_Qv (fun (u : (Nat → Int32) × (Nat → Int32) × (Int32) × (Int32) × (Nat → Int32)) => match u with | (fB9, fT9, se9, dn9, fD9) => ∀ k, k < 36 → fD9 k = DRV cz (fS 6) (fS 7) (nI k)) (fun (u : (Nat → Int32) × (Nat → Int32) × (Int32) × (Int32) × (Nat → Int32)) (t : State) => match u with | (fB9, fT9, se9, dn9, fD9) => va_P (dC, dI) vwCl [(zo14irriiiiiirriirrrrlriiii m0 th aS aI im ac sp en wg op aB aT se9 dn9 aG aO aN aD bv aY rn kd nu tv), (zaI aS cS 901 fS), (zaI aB cB 6 fB9), (zaI aT cT 64 fT9), (zaI aD cD 36 fD9)] t.heap ∧ va_K (dC, dI) vwCl [(cS, .int), (cB, .int), (cT, .boolean), (cD, .int)] t ∧ va_D (va_A [(zo14irriiiiiirriirrrrlriiii m0 th aS aI im ac sp en wg op aB aT se dn aG aO aN aD bv aY rn kd nu tv), (zaI aS cS 901 fS), (zaI aB cB 6 fB), (zaI aT cT 64 fT), (zaI aD cD 36 fD)] sz) [(zo14irriiiiiirriirrrrlriiii m0 th aS aI im ac sp en wg op aB aT se9 dn9 aG aO aN aD bv aY rn kd nu tv), (zaI aS cS 901 fS), (zaI aB cB 6 fB9), (zaI aT cT 64 fT9), (zaI aD cD 36 fD9)]) (va_A [(zo14irriiiiiirriirrrrlriiii m0 th aS aI im ac sp en wg op aB aT se dn aG aO aN aD bv aY rn kd nu tv), (zaI aS cS 901 fS), (zaI aB cB 6 fB), (zaI aT cT 64 fT), (zaI aD cD 36 fD)] sz)) 0 0 (va_A [(zo14irriiiiiirriirrrrlriiii m0 th aS aI im ac sp en wg op aB aT se dn aG aO aN aD bv aY rn kd nu tv), (zaI aS cS 901 fS), (zaI aB cB 6 fB), (zaI aT cT 64 fT), (zaI aD cD 36 fD)] sz) := by
  refine met_ofQ (cc := cX12_looksForDrifts) (maxL := 2) (ret := none) (by decide) rfl ?_
  intro p e s m args below meth c s₁ Q B hml hv hQ
  obtain ⟨rfl, hsz, hP, hK, hD0⟩ := hv
  have hx := B.exec
  have hb := B.bytes
  have hr := B.returns
  have hts := atoms_spec (ws := wsX12_looksForDrifts) B.pre
  have hown : s.vm.findClass RX12 = some m.cls := findClass_of_methodNamed B.named
  have hlocks := B.notSynchronized
  subst hsz
  have hD := hD0.self (sz := s.heap.size)
  generalize hAe : va_A [(zo14irriiiiiirriirrrrlriiii m0 th aS aI im ac sp en wg op aB aT se dn aG aO aN aD bv aY rn kd nu tv), (zaI aS cS 901 fS), (zaI aB cB 6 fB), (zaI aT cT 64 fT), (zaI aD cD 36 fD)] s.heap.size = A at hD hQ ⊢
  have hA : ∀ q : Nat, s.heap.size ≤ q → A q := fun q h => by rw [← hAe]; exact Or.inr h
  have hS : va_S A s.heap s.heap [] := va_S.rf
  have hl := lv_entry [.ref m0] (n := 2) (Nat.le_of_ble_eq_true rfl)
  rw [lg_entry_eq]
  generalize (lg_sl [.ref m0] ++ List.replicate (2 - (lg_sl [.ref m0]).length) Slot.unset).toArray = ls at hl ⊢
  generalize hag : ([.ref m0] : List Value).toArray = args at hts hQ ⊢
  have hl : lv_has ls 2 [(0, .ref m0)] := hl
  obtain ⟨H, hH⟩ : ∃ H : Heap, H = s.heap := ⟨_, rfl⟩
  rw [← hH] at hP
  rw [← hH]
  have hS : va_S A s.heap H [] := by rw [hH]; exact hS
  obtain ⟨locs, hlo⟩ : ∃ L : List Loc, L = [] := ⟨_, rfl⟩
  rw [← hlo] at hS
  rw [← hlo]
  clear hH hlo
  refine lv_iconst (v := 0) hx hb dX12_looksForDrifts_0 (by decide) ?_
  refine lv_istore_n (lv' := [(1, .int 0), (0, .ref m0)]) hx hb dX12_looksForDrifts_1 rfl hl (by decide) rfl (fun ls hl => ?_)
  have L2 : ∀ (nF : Nat) (i : Nat) (se2 : Int32) (dn2 : Int32) (fB2 : Nat → Int32) (fT2 : Nat → Int32) (fD2 : Nat → Int32), 36 - i < nF → (i ≤ 36) → (∀ k, k < i → fD2 k = DRV cz (fS 6) (fS 7) (nI k)) → ∀ (H : Heap) (locs : List Loc), va_K (dC, dI) vwCl [(cS, .int), (cB, .int), (cT, .boolean), (cD, .int)] s → va_P (dC, dI) vwCl [(zo14irriiiiiirriirrrrlriiii m0 th aS aI im ac sp en wg op aB aT se2 dn2 aG aO aN aD bv aY rn kd nu tv), (zaI aS cS 901 fS), (zaI aB cB 6 fB2), (zaI aT cT 64 fT2), (zaI aD cD 36 fD2)] H → va_D A [(zo14irriiiiiirriirrrrlriiii m0 th aS aI im ac sp en wg op aB aT se2 dn2 aG aO aN aD bv aY rn kd nu tv), (zaI aS cS 901 fS), (zaI aB cB 6 fB2), (zaI aT cT 64 fT2), (zaI aD cD 36 fD2)] → va_S A s.heap H locs → ∀ (ls : Array Slot), lv_has ls 2 [(0, .ref m0), (1, .int (nI i))] → W p l e ({ frames := 2, cells := 0, slots := 0, locals := 52 } : Room) s m args below meth c H locs 0 0 Q (F0 m 2 ls []) := by
    intro nF
    induction nF with
    | zero => intro i se2 dn2 fB2 fT2 fD2 hm; exact absurd hm (Nat.not_lt_zero _)
    | succ nF ih2 =>
      intro i se2 dn2 fB2 fT2 fD2 hm hii hd9 H locs hK hP hD hS ls hl
      refine lv_iload_n hx hb dX12_looksForDrifts_2 rfl (lv_at hl 1 rfl) ?_
      refine lv_bipush (v := 36) hx hb dX12_looksForDrifts_3 (by decide) ?_
      refine lv_icmp_ge (tgt := 25) hx hb dX12_looksForDrifts_5 (by decide) (fun c_1 => ?_) (fun c_1 => ?_)
      · skip
        have c_1 : 36 ≤ i := (nI_leI (a := 36) (b := i) (by omega) (by omega)).mp c_1
        rw [hQ]
        have hP9 := hP.sub (ws' := [(zo14irriiiiiirriirrrrlriiii m0 th aS aI im ac sp en wg op aB aT se2 dn2 aG aO aN aD bv aY rn kd nu tv), (zaI aS cS 901 fS), (zaI aB cB 6 fB2), (zaI aT cT 64 fT2), (zaI aD cD 36 fD2)]) [0, 1, 2, 3, 4] rfl
        have hD9 := hD.sub (ws' := [(zo14irriiiiiirriirrrrlriiii m0 th aS aI im ac sp en wg op aB aT se2 dn2 aG aO aN aD bv aY rn kd nu tv), (zaI aS cS 901 fS), (zaI aB cB 6 fB2), (zaI aT cT 64 fT2), (zaI aD cD 36 fD2)]) [0, 1, 2, 3, 4] (by decide) rfl
        have hK9 := hK.sub (tys' := [(cS, .int), (cB, .int), (cT, .boolean), (cD, .int)]) [0, 1, 2, 3] rfl
        exact W.vret hx hb hr (fun tQ htQ hWQ => ⟨⟨(fB2, fT2, se2, dn2, fD2), rfl, fun k hk => hd9 k (by omega), by rw [htQ]; exact hP9, va_K.moved hWQ.alike hK9, hD9⟩, hS.F htQ⟩) hS.2.2 dX12_looksForDrifts_25
      · skip
        have c_1 : ¬ 36 ≤ i := fun q => c_1 ((nI_leI (a := 36) (b := i) (by omega) (by omega)).mpr q)
        refine lv_aload_n hx hb dX12_looksForDrifts_8 rfl (lv_at hl 0 rfl) ?_
        refine va_get (D := (dC, dI)) (ci := 14) (v := .ref aD) (C := RX12) (T := TX12) (N := 23) hx hb hts kc_lookDrifts_0 hown hK hP 0 rfl rfl 16 (by decide) (hts (.fieldLink RX12 35 "MistHeapsModel" "drifts" "[I") kc_lookDrifts_1) (fun _ h9 => h9) rfl dX12_looksForDrifts_9 ?_
        refine lv_iload_n hx hb dX12_looksForDrifts_12 rfl (lv_at hl 1 rfl) ?_
        refine lv_aload_n hx hb dX12_looksForDrifts_13 rfl (lv_at hl 0 rfl) ?_
        refine lv_iload_n hx hb dX12_looksForDrifts_14 rfl (lv_at hl 1 rfl) ?_
        have hPc := hP.sub (ws' := [(zo14irriiiiiirriirrrrlriiii m0 th aS aI im ac sp en wg op aB aT se2 dn2 aG aO aN aD bv aY rn kd nu tv), (zaI aS cS 901 fS), (zaI aB cB 6 fB2), (zaI aT cT 64 fT2)]) [0, 1, 2, 3] rfl
        have hDc := hD.sub (ws' := [(zo14irriiiiiirriirrrrlriiii m0 th aS aI im ac sp en wg op aB aT se2 dn2 aG aO aN aD bv aY rn kd nu tv), (zaI aS cS 901 fS), (zaI aB cB 6 fB2), (zaI aT cT 64 fT2)]) [0, 1, 2, 3] (by decide) rfl
        have hKc := hK.sub (tys' := [(cS, .int), (cB, .int), (cT, .boolean)]) [0, 1, 2] rfl
        have hFc := va_free (wc := [(zo14irriiiiiirriirrrrlriiii m0 th aS aI im ac sp en wg op aB aT se2 dn2 aG aO aN aD bv aY rn kd nu tv), (zaI aS cS 901 fS), (zaI aB cB 6 fB2), (zaI aT cT 64 fT2)]) hD hS hA [0, 1, 2, 3] rfl
        refine va_calli (va_runV (As := [.int (nI i)]) (rest := [.int (nI i), .ref aD]) ⟨hx, hb, hml, hown, hts⟩ (c_driftOf l dC dI m0 aS aI aB aT aG aO aN aD aY th im ac sp en wg op se2 dn2 rn kd nu tv bv cS cB cT fS fB2 fT2 (nI i) cz H.size (zh)) (cwV 1 hts gX12_looksForDrifts_X12_driftOf rfl rfl rfl hd_yX12_driftOf ⟨Nat.le_of_ble_eq_true rfl, Nat.le_of_ble_eq_true rfl⟩) ⟨fun a U g mk q => by obtain ⟨q0, q1, qP, qK, qD⟩ := q; exact ⟨q0, mvz g mk a q1, mvP g mk a qP, mvK g mk a qK, qD⟩, va_recv hK hP (ci := 14) (q := (RX12, TX12, 23)) (q0 := 0) rfl rfl, fun U hU hW => ⟨rfl, by rw [hU], by rw [hU]; exact hPc, va_K.moved hW.alike hKc, hDc.weaken (fun _ _ _ _ => trivial)⟩⟩ rfl rfl hl.1 rfl (lv_room (Nat.le_of_ble_eq_true rfl)) dX12_looksForDrifts_15 ⟨Nat.le_of_ble_eq_true rfl, Nat.le_of_ble_eq_true rfl⟩) hS (fun q _ h => hFc q h) hFc (fun r_2 u tC H1 locs htC hvm hw_3 hB hz1 hk1 hS => ?_)
        obtain ⟨fB9_4, fT9_5, se9_6, dn9_7⟩ := u
        try dsimp only at hw_3 hB
        obtain ⟨hP1, hK1, hD1⟩ := hB
        rw [htC] at hP1
        have hK1 := va_K.moved hvm.symm hK1
        obtain ⟨hP, hD⟩ := va_join (wr := [(zaI aD cD 36 fD2)]) (w1 := [(zo14irriiiiiirriirrrrlriiii m0 th aS aI im ac sp en wg op aB aT se9_6 dn9_7 aG aO aN aD bv aY rn kd nu tv), (zaI aS cS 901 fS), (zaI aB cB 6 fB9_4), (zaI aT cT 64 fT9_5)]) hP hD [0, 1, 2, 3] [4] rfl rfl (by decide) (by decide) hk1 hFc hP1 hD1
        have hK := (hK.sub (tys' := [(cD, .int)]) [3] rfl).app hK1
        generalize H1 = H at hP hS ⊢
        have hP : va_P (dC, dI) vwCl [(zaI aD cD 36 fD2), (zo14irriiiiiirriirrrrlriiii m0 th aS aI im ac sp en wg op aB aT se9_6 dn9_7 aG aO aN aD bv aY rn kd nu tv), (zaI aS cS 901 fS), (zaI aB cB 6 fB9_4), (zaI aT cT 64 fT9_5)] H := hP
        have hD : va_D A [(zaI aD cD 36 fD2), (zo14irriiiiiirriirrrrlriiii m0 th aS aI im ac sp en wg op aB aT se9_6 dn9_7 aG aO aN aD bv aY rn kd nu tv), (zaI aS cS 901 fS), (zaI aB cB 6 fB9_4), (zaI aT cT 64 fT9_5)] := hD
        have hK : va_K (dC, dI) vwCl [(cD, .int), (cS, .int), (cB, .int), (cT, .boolean)] s := hK
        obtain rfl := hw_3
        refine va_iast hx hb hK hP hD hS 0 0 rfl rfl (vp_in_nI (n := i) (N := 36) (by omega) (by omega)) dX12_looksForDrifts_18 (fun H locs hP hD hS => ?_)
        rw [nI_clamp (n := i) (by omega)] at hP hD
        have hP : va_P (dC, dI) vwCl [(zaI aD cD 36 (upd fD2 i (DRV cz (fS 6) (fS 7) (nI i)))), (zo14irriiiiiirriirrrrlriiii m0 th aS aI im ac sp en wg op aB aT se9_6 dn9_7 aG aO aN aD bv aY rn kd nu tv), (zaI aS cS 901 fS), (zaI aB cB 6 fB9_4), (zaI aT cT 64 fT9_5)] H := hP
        have hD : va_D A [(zaI aD cD 36 (upd fD2 i (DRV cz (fS 6) (fS 7) (nI i)))), (zo14irriiiiiirriirrrrlriiii m0 th aS aI im ac sp en wg op aB aT se9_6 dn9_7 aG aO aN aD bv aY rn kd nu tv), (zaI aS cS 901 fS), (zaI aB cB 6 fB9_4), (zaI aT cT 64 fT9_5)] := hD
        refine lv_iinc (v := nI (i + 1)) (lv' := [(1, .int (nI (i + 1))), (0, .ref m0)]) hx hb dX12_looksForDrifts_19 hl (k := 1) rfl (nI_add i 1) (by decide) rfl (fun ls hl => ?_)
        refine lv_goto (tgt := 2) hx hb dX12_looksForDrifts_22 (by decide) ?_
        exact ih2 (i + 1) _ _ _ _ ((upd fD2 i (DRV cz (fS 6) (fS 7) (nI i)))) (by omega) (by omega) (me_up (g := fun k => DRV cz (fS 6) (fS 7) (nI k)) hd9) _ _ (hK.sub [1, 2, 3, 0] rfl) (hP.sub [1, 2, 3, 4, 0] rfl) (hD.sub [1, 2, 3, 4, 0] (by decide) rfl) hS ls (lv_sub hl [1, 0] rfl)
  exact L2 _ (0) _ _ _ _ (fD) (Nat.lt_succ_self _) (by omega) (fun k hk => absurd hk (Nat.not_lt_zero k)) _ _ (hK.sub [0, 1, 2, 3] rfl) (hP.sub [0, 1, 2, 3, 4] rfl) (hD.sub [0, 1, 2, 3, 4] (by decide) rfl) hS ls (lv_sub hl [1, 0] rfl)

theorem kc_begins_0 : ∀ w ∈ wsX120, w ∈ wsX12_begins := fun w h => List.mem_cons_of_mem _ (gin_wsX120 w h)
theorem kc_begins_1 : (.fieldLink RX12 28 "MistHeapsModel" "often" "[J" : Cond) ∈ wsX12_begins := kc_of 1154 rfl rfl rfl
set_option maxHeartbeats 4000000 in
set_option maxRecDepth 100000 in
theorem c_begins (l : Launch) (dC : Nat → ClassId) (dI : Nat → Nat → Nat) (m0 aS aI aB aT aG aO aN aD aY : Nat) (th im ac sp en wg op se dn rn kd nu tv : Int32) (bv : Int64) (cO : ClassId) (fO : Nat → Int64) (c0 : Nat) (sz : Nat) (hc0 : c0 < 36) : Met l yX12_begins wsX12_begins ({ frames := 0, cells := 0, slots := 0, locals := 0 } : Room) (va_Pc [.ref m0, .int (nI c0)] (fun U => U.heap.size = sz ∧ va_P (dC, dI) vwCl [(zo14irriiiiiirriirrrrlriiii m0 th aS aI im ac sp en wg op aB aT se dn aG aO aN aD bv aY rn kd nu tv), (zaL aO cO 36 fO)] U.heap ∧ va_K (dC, dI) vwCl [(cO, .long)] U ∧ va_D (fun _ => True) [(zo14irriiiiiirriirrrrlriiii m0 th aS aI im ac sp en wg op aB aT se dn aG aO aN aD bv aY rn kd nu tv), (zaL aO cO 36 fO)])) (va_Qv (fun (u : Nat → Int64) => match u with | fO9 => lnA fO9 (fun k => if k = c0 then 1 else 0)) (fun (u : Nat → Int64) (t : State) => match u with | fO9 => va_P (dC, dI) vwCl [(zo14irriiiiiirriirrrrlriiii m0 th aS aI im ac sp en wg op aB aT se dn aG aO aN aD bv aY rn kd nu tv), (zaL aO cO 36 fO9)] t.heap ∧ va_K (dC, dI) vwCl [(cO, .long)] t ∧ va_D (va_A [(zo14irriiiiiirriirrrrlriiii m0 th aS aI im ac sp en wg op aB aT se dn aG aO aN aD bv aY rn kd nu tv), (zaL aO cO 36 fO)] sz) [(zo14irriiiiiirriirrrrlriiii m0 th aS aI im ac sp en wg op aB aT se dn aG aO aN aD bv aY rn kd nu tv), (zaL aO cO 36 fO9)]) (va_A [(zo14irriiiiiirriirrrrlriiii m0 th aS aI im ac sp en wg op aB aT se dn aG aO aN aD bv aY rn kd nu tv), (zaL aO cO 36 fO)] sz)) 0 0 (va_A [(zo14irriiiiiirriirrrrlriiii m0 th aS aI im ac sp en wg op aB aT se dn aG aO aN aD bv aY rn kd nu tv), (zaL aO cO 36 fO)] sz) := by
  refine met_ofQ (cc := cX12_begins) (maxL := 3) (ret := none) (by decide) rfl ?_
  intro p e s m args below meth c s₁ Q B hml hv hQ
  obtain ⟨rfl, hsz, hP, hK, hD0⟩ := hv
  have hx := B.exec
  have hb := B.bytes
  have hr := B.returns
  have hts := atoms_spec (ws := wsX12_begins) B.pre
  have hown : s.vm.findClass RX12 = some m.cls := findClass_of_methodNamed B.named
  have hlocks := B.notSynchronized
  subst hsz
  have hD := hD0.self (sz := s.heap.size)
  generalize hAe : va_A [(zo14irriiiiiirriirrrrlriiii m0 th aS aI im ac sp en wg op aB aT se dn aG aO aN aD bv aY rn kd nu tv), (zaL aO cO 36 fO)] s.heap.size = A at hD hQ ⊢
  have hA : ∀ q : Nat, s.heap.size ≤ q → A q := fun q h => by rw [← hAe]; exact Or.inr h
  have hS : va_S A s.heap s.heap [] := va_S.rf
  have hl := lv_entry [.ref m0, .int (nI c0)] (n := 3) (Nat.le_of_ble_eq_true rfl)
  rw [lg_entry_eq]
  generalize (lg_sl [.ref m0, .int (nI c0)] ++ List.replicate (3 - (lg_sl [.ref m0, .int (nI c0)]).length) Slot.unset).toArray = ls at hl ⊢
  generalize hag : ([.ref m0, .int (nI c0)] : List Value).toArray = args at hts hQ ⊢
  have hl : lv_has ls 3 [(0, .ref m0), (1, .int (nI c0))] := hl
  obtain ⟨H, hH⟩ : ∃ H : Heap, H = s.heap := ⟨_, rfl⟩
  rw [← hH] at hP
  rw [← hH]
  have hS : va_S A s.heap H [] := by rw [hH]; exact hS
  obtain ⟨locs, hlo⟩ : ∃ L : List Loc, L = [] := ⟨_, rfl⟩
  rw [← hlo] at hS
  rw [← hlo]
  clear hH hlo
  refine lv_iconst (v := 0) hx hb dX12_begins_0 (by decide) ?_
  refine lv_istore_n (lv' := [(2, .int 0), (0, .ref m0), (1, .int (nI c0))]) hx hb dX12_begins_1 rfl hl (by decide) rfl (fun ls hl => ?_)
  have L2 : ∀ (nF : Nat) (i : Nat) (fO2 : Nat → Int64), 36 - i < nF → (i ≤ 36) → (∀ k, k < i → fO2 k = lN (if k = c0 then 1 else 0)) → ∀ (H : Heap) (locs : List Loc), va_K (dC, dI) vwCl [(cO, .long)] s → va_P (dC, dI) vwCl [(zo14irriiiiiirriirrrrlriiii m0 th aS aI im ac sp en wg op aB aT se dn aG aO aN aD bv aY rn kd nu tv), (zaL aO cO 36 fO2)] H → va_D A [(zo14irriiiiiirriirrrrlriiii m0 th aS aI im ac sp en wg op aB aT se dn aG aO aN aD bv aY rn kd nu tv), (zaL aO cO 36 fO2)] → va_S A s.heap H locs → ∀ (ls : Array Slot), lv_has ls 3 [(0, .ref m0), (1, .int (nI c0)), (2, .int (nI i))] → W p l e ({ frames := 0, cells := 0, slots := 0, locals := 0 } : Room) s m args below meth c H locs 0 0 Q (F0 m 2 ls []) := by
    intro nF
    induction nF with
    | zero => intro i fO2 hm; exact absurd hm (Nat.not_lt_zero _)
    | succ nF ih2 =>
      intro i fO2 hm hi hb9 H locs hK hP hD hS ls hl
      refine lv_iload_n hx hb dX12_begins_2 rfl (lv_at hl 2 rfl) ?_
      refine lv_bipush (v := 36) hx hb dX12_begins_3 (by decide) ?_
      refine lv_icmp_ge (tgt := 30) hx hb dX12_begins_5 (by decide) (fun c_1 => ?_) (fun c_1 => ?_)
      · skip
        have c_1 : 36 ≤ i := (nI_leI (a := 36) (b := i) (by omega) (by omega)).mp c_1
        rw [hQ]
        have hP9 := hP.sub (ws' := [(zo14irriiiiiirriirrrrlriiii m0 th aS aI im ac sp en wg op aB aT se dn aG aO aN aD bv aY rn kd nu tv), (zaL aO cO 36 fO2)]) [0, 1] rfl
        have hD9 := hD.sub (ws' := [(zo14irriiiiiirriirrrrlriiii m0 th aS aI im ac sp en wg op aB aT se dn aG aO aN aD bv aY rn kd nu tv), (zaL aO cO 36 fO2)]) [0, 1] (by decide) rfl
        have hK9 := hK.sub (tys' := [(cO, .long)]) [0] rfl
        exact W.vret hx hb hr (fun tQ htQ hWQ => ⟨⟨fO2, rfl, fun k hk => hb9 k (by omega), by rw [htQ]; exact hP9, va_K.moved hWQ.alike hK9, hD9⟩, hS.F htQ⟩) hS.2.2 dX12_begins_30
      · skip
        have c_1 : ¬ 36 ≤ i := fun q => c_1 ((nI_leI (a := 36) (b := i) (by omega) (by omega)).mpr q)
        refine lv_aload_n hx hb dX12_begins_8 rfl (lv_at hl 0 rfl) ?_
        refine va_get (D := (dC, dI)) (ci := 14) (v := .ref aO) (C := RX12) (T := TX12) (N := 23) hx hb hts kc_begins_0 hown hK hP 0 rfl rfl 14 (by decide) (hts (.fieldLink RX12 28 "MistHeapsModel" "often" "[J") kc_begins_1) (fun _ h9 => h9) rfl dX12_begins_9 ?_
        refine lv_iload_n hx hb dX12_begins_12 rfl (lv_at hl 2 rfl) ?_
        refine lv_iload_n hx hb dX12_begins_13 rfl (lv_at hl 2 rfl) ?_
        refine lv_iload_n hx hb dX12_begins_14 rfl (lv_at hl 1 rfl) ?_
        refine lv_icmp_ne (tgt := 22) hx hb dX12_begins_15 (by decide) (fun c_2 => ?_) (fun c_2 => ?_)
        · skip
          have c_2 : ¬ i = c0 := fun q => c_2 ((nI_eq (a := i) (b := c0) (by omega) (by omega)).mpr q)
          refine lv_lconst (v := 0) hx hb dX12_begins_22 (by decide) ?_
          refine va_last hx hb hK hP hD hS 1 0 rfl rfl (vp_in_nI (n := i) (N := 36) (by omega) (by omega)) dX12_begins_23 (fun H locs hP hD hS => ?_)
          rw [nI_clamp (n := i) (by omega)] at hP hD
          have hP : va_P (dC, dI) vwCl [(zo14irriiiiiirriirrrrlriiii m0 th aS aI im ac sp en wg op aB aT se dn aG aO aN aD bv aY rn kd nu tv), (zaL aO cO 36 (vp_updL fO2 i 0))] H := hP
          have hD : va_D A [(zo14irriiiiiirriirrrrlriiii m0 th aS aI im ac sp en wg op aB aT se dn aG aO aN aD bv aY rn kd nu tv), (zaL aO cO 36 (vp_updL fO2 i 0))] := hD
          refine lv_iinc (v := nI (i + 1)) (lv' := [(2, .int (nI (i + 1))), (0, .ref m0), (1, .int (nI c0))]) hx hb dX12_begins_24 hl (k := 2) rfl (nI_add i 1) (by decide) rfl (fun ls hl => ?_)
          refine lv_goto (tgt := 2) hx hb dX12_begins_27 (by decide) ?_
          exact ih2 (i + 1) ((vp_updL fO2 i 0)) (by omega) (by omega) (bg_f hb9 (by omega)) _ _ (hK.sub [0] rfl) (hP.sub [0, 1] rfl) (hD.sub [0, 1] (by decide) rfl) hS ls (lv_sub hl [1, 2, 0] rfl)
        · skip
          have c_2 : i = c0 := (nI_eq (a := i) (b := c0) (by omega) (by omega)).mp c_2
          refine lv_lconst (v := 1) hx hb dX12_begins_18 (by decide) ?_
          refine lv_goto (tgt := 23) hx hb dX12_begins_19 (by decide) ?_
          refine va_last hx hb hK hP hD hS 1 0 rfl rfl (vp_in_nI (n := i) (N := 36) (by omega) (by omega)) dX12_begins_23 (fun H locs hP hD hS => ?_)
          rw [nI_clamp (n := i) (by omega)] at hP hD
          have hP : va_P (dC, dI) vwCl [(zo14irriiiiiirriirrrrlriiii m0 th aS aI im ac sp en wg op aB aT se dn aG aO aN aD bv aY rn kd nu tv), (zaL aO cO 36 (vp_updL fO2 i 1))] H := hP
          have hD : va_D A [(zo14irriiiiiirriirrrrlriiii m0 th aS aI im ac sp en wg op aB aT se dn aG aO aN aD bv aY rn kd nu tv), (zaL aO cO 36 (vp_updL fO2 i 1))] := hD
          refine lv_iinc (v := nI (i + 1)) (lv' := [(2, .int (nI (i + 1))), (0, .ref m0), (1, .int (nI c0))]) hx hb dX12_begins_24 hl (k := 2) rfl (nI_add i 1) (by decide) rfl (fun ls hl => ?_)
          refine lv_goto (tgt := 2) hx hb dX12_begins_27 (by decide) ?_
          exact ih2 (i + 1) ((vp_updL fO2 i 1)) (by omega) (by omega) (bg_t hb9 (by omega)) _ _ (hK.sub [0] rfl) (hP.sub [0, 1] rfl) (hD.sub [0, 1] (by decide) rfl) hS ls (lv_sub hl [1, 2, 0] rfl)
  exact L2 _ (0) (fO) (Nat.lt_succ_self _) (by omega) (fun k hk => absurd hk (Nat.not_lt_zero k)) _ _ (hK.sub [0] rfl) (hP.sub [0, 1] rfl) (hD.sub [0, 1] (by decide) rfl) hS ls (lv_sub hl [1, 2, 0] rfl)

theorem kc_goesOn_0 : ∀ w ∈ wsX120, w ∈ wsX12_goesOn := fun w h => List.mem_cons_of_mem _ (gin_wsX120 w h)
theorem kc_goesOn_1 : (.fieldLink RX12 28 "MistHeapsModel" "often" "[J" : Cond) ∈ wsX12_goesOn := kc_of 1154 rfl rfl rfl
theorem kc_goesOn_2 : (.fieldLink RX12 32 "MistHeapsModel" "then" "[J" : Cond) ∈ wsX12_goesOn := kc_of 1155 rfl rfl rfl
theorem kc_goesOn_3 : (.fieldLink RX12 9 "MistHeapsModel" "s" "[I" : Cond) ∈ wsX12_goesOn := kc_of 1141 rfl rfl rfl
theorem kc_goesOn_4 : (.constantLong RX12 204 (20) : Cond) ∈ wsX12_goesOn := kc_of 1429 rfl rfl rfl
theorem kc_goesOn_5 : (.fieldLink RX12 35 "MistHeapsModel" "drifts" "[I" : Cond) ∈ wsX12_goesOn := kc_of 1156 rfl rfl rfl
set_option maxHeartbeats 4000000 in
set_option maxRecDepth 100000 in
theorem c_goesOn (l : Launch) (dC : Nat → ClassId) (dI : Nat → Nat → Nat) (m0 aS aI aB aT aG aO aN aD aY : Nat) (th im ac sp en wg op se dn rn kd nu tv : Int32) (bv : Int64) (cS cO cN cD : ClassId) (fS : Nat → Int32) (fO : Nat → Int64) (fN : Nat → Int64) (fD : Nat → Int32) (w : Nat) (T dr : Nat → Nat) (ed : Nat → Bool) (sz : Nat) (hw8 : w < 8) (hT : lnA fO T) (hTb : ∀ k, k < 36 → T k ≤ 64000000) (hdr : ∀ k, k < 36 → fD k = nI (dr k) ∧ dr k ≤ 5) (hed : ∀ k, k < 36 → fS (37 + k) = nI (if ed k = true then 1 else 0)) : Met l yX12_goesOn wsX12_goesOn ({ frames := 3, cells := 0, slots := 0, locals := 65 } : Room) (va_Pc [.ref m0, .int (nI w)] (fun U => U.heap.size = sz ∧ va_P (dC, dI) vwCl [(zo14irriiiiiirriirrrrlriiii m0 th aS aI im ac sp en wg op aB aT se dn aG aO aN aD bv aY rn kd nu tv), (zaI aS cS 901 fS), (zaL aO cO 36 fO), (zaL aN cN 36 fN), (zaI aD cD 36 fD)] U.heap ∧ va_K (dC, dI) vwCl [(cS, .int), (cO, .long), (cN, .long), (cD, .int)] U ∧ va_D (fun _ => True) [(zo14irriiiiiirriirrrrlriiii m0 th aS aI im ac sp en wg op aB aT se dn aG aO aN aD bv aY rn kd nu tv), (zaI aS cS 901 fS), (zaL aO cO 36 fO), (zaL aN cN 36 fN), (zaI aD cD 36 fD)])) (va_Qv (fun (u : (Nat → Int64) × (Nat → Int64)) => match u with | (fO9, fN9) => lnA fO9 (gsF ed dr w T 36)) (fun (u : (Nat → Int64) × (Nat → Int64)) (t : State) => match u with | (fO9, fN9) => va_P (dC, dI) vwCl [(zo14irriiiiiirriirrrrlriiii m0 th aS aI im ac sp en wg op aB aT se dn aG aO aN aD bv aY rn kd nu tv), (zaI aS cS 901 fS), (zaL aO cO 36 fO9), (zaL aN cN 36 fN9), (zaI aD cD 36 fD)] t.heap ∧ va_K (dC, dI) vwCl [(cS, .int), (cO, .long), (cN, .long), (cD, .int)] t ∧ va_D (va_A [(zo14irriiiiiirriirrrrlriiii m0 th aS aI im ac sp en wg op aB aT se dn aG aO aN aD bv aY rn kd nu tv), (zaI aS cS 901 fS), (zaL aO cO 36 fO), (zaL aN cN 36 fN), (zaI aD cD 36 fD)] sz) [(zo14irriiiiiirriirrrrlriiii m0 th aS aI im ac sp en wg op aB aT se dn aG aO aN aD bv aY rn kd nu tv), (zaI aS cS 901 fS), (zaL aO cO 36 fO9), (zaL aN cN 36 fN9), (zaI aD cD 36 fD)]) (va_A [(zo14irriiiiiirriirrrrlriiii m0 th aS aI im ac sp en wg op aB aT se dn aG aO aN aD bv aY rn kd nu tv), (zaI aS cS 901 fS), (zaL aO cO 36 fO), (zaL aN cN 36 fN), (zaI aD cD 36 fD)] sz)) 0 0 (va_A [(zo14irriiiiiirriirrrrlriiii m0 th aS aI im ac sp en wg op aB aT se dn aG aO aN aD bv aY rn kd nu tv), (zaI aS cS 901 fS), (zaL aO cO 36 fO), (zaL aN cN 36 fN), (zaI aD cD 36 fD)] sz) := by
  refine met_ofQ (cc := cX12_goesOn) (maxL := 4) (ret := none) (by decide) rfl ?_
  intro p e s m args below meth c s₁ Q B hml hv hQ
  obtain ⟨rfl, hsz, hP, hK, hD0⟩ := hv
  have hx := B.exec
  have hb := B.bytes
  have hr := B.returns
  have hts := atoms_spec (ws := wsX12_goesOn) B.pre
  have hown : s.vm.findClass RX12 = some m.cls := findClass_of_methodNamed B.named
  have hlocks := B.notSynchronized
  subst hsz
  have hD := hD0.self (sz := s.heap.size)
  generalize hAe : va_A [(zo14irriiiiiirriirrrrlriiii m0 th aS aI im ac sp en wg op aB aT se dn aG aO aN aD bv aY rn kd nu tv), (zaI aS cS 901 fS), (zaL aO cO 36 fO), (zaL aN cN 36 fN), (zaI aD cD 36 fD)] s.heap.size = A at hD hQ ⊢
  have hA : ∀ q : Nat, s.heap.size ≤ q → A q := fun q h => by rw [← hAe]; exact Or.inr h
  have hS : va_S A s.heap s.heap [] := va_S.rf
  have hl := lv_entry [.ref m0, .int (nI w)] (n := 4) (Nat.le_of_ble_eq_true rfl)
  rw [lg_entry_eq]
  generalize (lg_sl [.ref m0, .int (nI w)] ++ List.replicate (4 - (lg_sl [.ref m0, .int (nI w)]).length) Slot.unset).toArray = ls at hl ⊢
  generalize hag : ([.ref m0, .int (nI w)] : List Value).toArray = args at hts hQ ⊢
  have hl : lv_has ls 4 [(0, .ref m0), (1, .int (nI w))] := hl
  obtain ⟨H, hH⟩ : ∃ H : Heap, H = s.heap := ⟨_, rfl⟩
  rw [← hH] at hP
  rw [← hH]
  have hS : va_S A s.heap H [] := by rw [hH]; exact hS
  obtain ⟨locs, hlo⟩ : ∃ L : List Loc, L = [] := ⟨_, rfl⟩
  rw [← hlo] at hS
  rw [← hlo]
  clear hH hlo
  refine lv_iconst (v := 0) hx hb dX12_goesOn_0 (by decide) ?_
  refine lv_istore_n (lv' := [(2, .int 0), (0, .ref m0), (1, .int (nI w))]) hx hb dX12_goesOn_1 rfl hl (by decide) rfl (fun ls hl => ?_)
  have L2 : ∀ (nF : Nat) (i : Nat) (fN2 : Nat → Int64), 36 - i < nF → (i ≤ 36) → (∀ k, k < i → fN2 k = 0) → ∀ (H : Heap) (locs : List Loc), va_K (dC, dI) vwCl [(cS, .int), (cO, .long), (cN, .long), (cD, .int)] s → va_P (dC, dI) vwCl [(zo14irriiiiiirriirrrrlriiii m0 th aS aI im ac sp en wg op aB aT se dn aG aO aN aD bv aY rn kd nu tv), (zaI aS cS 901 fS), (zaL aO cO 36 fO), (zaL aN cN 36 fN2), (zaI aD cD 36 fD)] H → va_D A [(zo14irriiiiiirriirrrrlriiii m0 th aS aI im ac sp en wg op aB aT se dn aG aO aN aD bv aY rn kd nu tv), (zaI aS cS 901 fS), (zaL aO cO 36 fO), (zaL aN cN 36 fN2), (zaI aD cD 36 fD)] → va_S A s.heap H locs → ∀ (ls : Array Slot), lv_has ls 4 [(0, .ref m0), (1, .int (nI w)), (2, .int (nI i))] → W p l e ({ frames := 3, cells := 0, slots := 0, locals := 65 } : Room) s m args below meth c H locs 0 0 Q (F0 m 2 ls []) := by
    intro nF
    induction nF with
    | zero => intro i fN2 hm; exact absurd hm (Nat.not_lt_zero _)
    | succ nF ih2 =>
      intro i fN2 hm hi hz9 H locs hK hP hD hS ls hl
      refine lv_iload_n hx hb dX12_goesOn_2 rfl (lv_at hl 2 rfl) ?_
      refine lv_bipush (v := 36) hx hb dX12_goesOn_3 (by decide) ?_
      refine lv_icmp_ge (tgt := 21) hx hb dX12_goesOn_5 (by decide) (fun c_1 => ?_) (fun c_1 => ?_)
      · skip
        have c_1 : 36 ≤ i := (nI_leI (a := 36) (b := i) (by omega) (by omega)).mp c_1
        refine lv_iconst (v := 0) hx hb dX12_goesOn_21 (by decide) ?_
        refine lv_istore_n (lv' := [(2, .int 0), (0, .ref m0), (1, .int (nI w))]) hx hb dX12_goesOn_22 rfl hl (by decide) rfl (fun ls hl => ?_)
        have L23 : ∀ (nF : Nat) (i : Nat) (fN2 : Nat → Int64), 36 - i < nF → (i ≤ 36) → (lnA fN2 (gsF ed dr w T i)) → ∀ (H : Heap) (locs : List Loc), va_K (dC, dI) vwCl [(cS, .int), (cO, .long), (cN, .long), (cD, .int)] s → va_P (dC, dI) vwCl [(zo14irriiiiiirriirrrrlriiii m0 th aS aI im ac sp en wg op aB aT se dn aG aO aN aD bv aY rn kd nu tv), (zaI aS cS 901 fS), (zaL aO cO 36 fO), (zaL aN cN 36 fN2), (zaI aD cD 36 fD)] H → va_D A [(zo14irriiiiiirriirrrrlriiii m0 th aS aI im ac sp en wg op aB aT se dn aG aO aN aD bv aY rn kd nu tv), (zaI aS cS 901 fS), (zaL aO cO 36 fO), (zaL aN cN 36 fN2), (zaI aD cD 36 fD)] → va_S A s.heap H locs → ∀ (ls : Array Slot), lv_has ls 4 [(0, .ref m0), (1, .int (nI w)), (2, .int (nI i))] → W p l e ({ frames := 3, cells := 0, slots := 0, locals := 65 } : Room) s m args below meth c H locs 0 0 Q (F0 m 23 ls []) := by
          intro nF
          induction nF with
          | zero => intro i fN2 hm; exact absurd hm (Nat.not_lt_zero _)
          | succ nF ih23 =>
            intro i fN2 hm hi hg9 H locs hK hP hD hS ls hl
            refine lv_iload_n hx hb dX12_goesOn_23 rfl (lv_at hl 2 rfl) ?_
            refine lv_bipush (v := 36) hx hb dX12_goesOn_24 (by decide) ?_
            refine lv_icmp_ge (tgt := 181) hx hb dX12_goesOn_26 (by decide) (fun c_2 => ?_) (fun c_2 => ?_)
            · skip
              have c_2 : 36 ≤ i := (nI_leI (a := 36) (b := i) (by omega) (by omega)).mp c_2
              have hg8 : lnA fN2 (gsF ed dr w T 36) := by rw [show i = 36 by omega] at hg9; exact hg9
              refine lv_iconst (v := 0) hx hb dX12_goesOn_181 (by decide) ?_
              refine lv_istore_n (lv' := [(2, .int 0), (0, .ref m0), (1, .int (nI w))]) hx hb dX12_goesOn_182 rfl hl (by decide) rfl (fun ls hl => ?_)
              have L183 : ∀ (nF : Nat) (i : Nat) (fO2 : Nat → Int64), 36 - i < nF → (i ≤ 36) → (∀ k, k < i → fO2 k = fN2 k) → ∀ (H : Heap) (locs : List Loc), va_K (dC, dI) vwCl [(cS, .int), (cO, .long), (cN, .long), (cD, .int)] s → va_P (dC, dI) vwCl [(zo14irriiiiiirriirrrrlriiii m0 th aS aI im ac sp en wg op aB aT se dn aG aO aN aD bv aY rn kd nu tv), (zaI aS cS 901 fS), (zaL aO cO 36 fO2), (zaL aN cN 36 fN2), (zaI aD cD 36 fD)] H → va_D A [(zo14irriiiiiirriirrrrlriiii m0 th aS aI im ac sp en wg op aB aT se dn aG aO aN aD bv aY rn kd nu tv), (zaI aS cS 901 fS), (zaL aO cO 36 fO2), (zaL aN cN 36 fN2), (zaI aD cD 36 fD)] → va_S A s.heap H locs → ∀ (ls : Array Slot), lv_has ls 4 [(0, .ref m0), (1, .int (nI w)), (2, .int (nI i))] → W p l e ({ frames := 3, cells := 0, slots := 0, locals := 65 } : Room) s m args below meth c H locs 0 0 Q (F0 m 183 ls []) := by
                intro nF
                induction nF with
                | zero => intro i fO2 hm; exact absurd hm (Nat.not_lt_zero _)
                | succ nF ih183 =>
                  intro i fO2 hm hi hc9 H locs hK hP hD hS ls hl
                  refine lv_iload_n hx hb dX12_goesOn_183 rfl (lv_at hl 2 rfl) ?_
                  refine lv_bipush (v := 36) hx hb dX12_goesOn_184 (by decide) ?_
                  refine lv_icmp_ge (tgt := 207) hx hb dX12_goesOn_186 (by decide) (fun c_3 => ?_) (fun c_3 => ?_)
                  · skip
                    have c_3 : 36 ≤ i := (nI_leI (a := 36) (b := i) (by omega) (by omega)).mp c_3
                    rw [hQ]
                    have hP9 := hP.sub (ws' := [(zo14irriiiiiirriirrrrlriiii m0 th aS aI im ac sp en wg op aB aT se dn aG aO aN aD bv aY rn kd nu tv), (zaI aS cS 901 fS), (zaL aO cO 36 fO2), (zaL aN cN 36 fN2), (zaI aD cD 36 fD)]) [0, 1, 2, 3, 4] rfl
                    have hD9 := hD.sub (ws' := [(zo14irriiiiiirriirrrrlriiii m0 th aS aI im ac sp en wg op aB aT se dn aG aO aN aD bv aY rn kd nu tv), (zaI aS cS 901 fS), (zaL aO cO 36 fO2), (zaL aN cN 36 fN2), (zaI aD cD 36 fD)]) [0, 1, 2, 3, 4] (by decide) rfl
                    have hK9 := hK.sub (tys' := [(cS, .int), (cO, .long), (cN, .long), (cD, .int)]) [0, 1, 2, 3] rfl
                    exact W.vret hx hb hr (fun tQ htQ hWQ => ⟨⟨(fO2, fN2), rfl, fun k hk => (hc9 k (by omega)).trans (hg8 k hk), by rw [htQ]; exact hP9, va_K.moved hWQ.alike hK9, hD9⟩, hS.F htQ⟩) hS.2.2 dX12_goesOn_207
                  · skip
                    have c_3 : ¬ 36 ≤ i := fun q => c_3 ((nI_leI (a := 36) (b := i) (by omega) (by omega)).mpr q)
                    refine lv_aload_n hx hb dX12_goesOn_189 rfl (lv_at hl 0 rfl) ?_
                    refine va_get (D := (dC, dI)) (ci := 14) (v := .ref aO) (C := RX12) (T := TX12) (N := 23) hx hb hts kc_goesOn_0 hown hK hP 0 rfl rfl 14 (by decide) (hts (.fieldLink RX12 28 "MistHeapsModel" "often" "[J") kc_goesOn_1) (fun _ h9 => h9) rfl dX12_goesOn_190 ?_
                    refine lv_iload_n hx hb dX12_goesOn_193 rfl (lv_at hl 2 rfl) ?_
                    refine lv_aload_n hx hb dX12_goesOn_194 rfl (lv_at hl 0 rfl) ?_
                    refine va_get (D := (dC, dI)) (ci := 14) (v := .ref aN) (C := RX12) (T := TX12) (N := 23) hx hb hts kc_goesOn_0 hown hK hP 0 rfl rfl 15 (by decide) (hts (.fieldLink RX12 32 "MistHeapsModel" "then" "[J") kc_goesOn_2) (fun _ h9 => h9) rfl dX12_goesOn_195 ?_
                    refine lv_iload_n hx hb dX12_goesOn_198 rfl (lv_at hl 2 rfl) ?_
                    refine va_lald hx hb hK hP 3 2 rfl rfl (vp_in_nI (n := i) (N := 36) (by omega) (by omega)) dX12_goesOn_199 ?_
                    refine ql_as (y := fN2 i) (by rw [nI_clamp (by omega)]) ?_
                    refine va_last hx hb hK hP hD hS 2 1 rfl rfl (vp_in_nI (n := i) (N := 36) (by omega) (by omega)) dX12_goesOn_200 (fun H locs hP hD hS => ?_)
                    rw [nI_clamp (n := i) (by omega)] at hP hD
                    have hP : va_P (dC, dI) vwCl [(zo14irriiiiiirriirrrrlriiii m0 th aS aI im ac sp en wg op aB aT se dn aG aO aN aD bv aY rn kd nu tv), (zaI aS cS 901 fS), (zaL aO cO 36 (vp_updL fO2 i (fN2 i))), (zaL aN cN 36 fN2), (zaI aD cD 36 fD)] H := hP
                    have hD : va_D A [(zo14irriiiiiirriirrrrlriiii m0 th aS aI im ac sp en wg op aB aT se dn aG aO aN aD bv aY rn kd nu tv), (zaI aS cS 901 fS), (zaL aO cO 36 (vp_updL fO2 i (fN2 i))), (zaL aN cN 36 fN2), (zaI aD cD 36 fD)] := hD
                    refine lv_iinc (v := nI (i + 1)) (lv' := [(2, .int (nI (i + 1))), (0, .ref m0), (1, .int (nI w))]) hx hb dX12_goesOn_201 hl (k := 2) rfl (nI_add i 1) (by decide) rfl (fun ls hl => ?_)
                    refine lv_goto (tgt := 183) hx hb dX12_goesOn_204 (by decide) ?_
                    exact ih183 (i + 1) ((vp_updL fO2 i (fN2 i))) (by omega) (by omega) (c_up hc9) _ _ (hK.sub [0, 1, 2, 3] rfl) (hP.sub [0, 1, 2, 3, 4] rfl) (hD.sub [0, 1, 2, 3, 4] (by decide) rfl) hS ls (lv_sub hl [1, 2, 0] rfl)
              exact L183 _ (0) (fO) (Nat.lt_succ_self _) (by omega) (fun k hk => absurd hk (Nat.not_lt_zero k)) _ _ (hK.sub [0, 1, 2, 3] rfl) (hP.sub [0, 1, 2, 3, 4] rfl) (hD.sub [0, 1, 2, 3, 4] (by decide) rfl) hS ls (lv_sub hl [1, 2, 0] rfl)
            · skip
              have c_2 : ¬ 36 ≤ i := fun q => c_2 ((nI_leI (a := 36) (b := i) (by omega) (by omega)).mpr q)
              have hTi := hTb i (by omega)
              have hd5 := (hdr i (by omega)).2
              by_cases hz : T i = 0
              · skip
                refine lv_aload_n hx hb dX12_goesOn_29 rfl (lv_at hl 0 rfl) ?_
                refine va_get (D := (dC, dI)) (ci := 14) (v := .ref aO) (C := RX12) (T := TX12) (N := 23) hx hb hts kc_goesOn_0 hown hK hP 0 rfl rfl 14 (by decide) (hts (.fieldLink RX12 28 "MistHeapsModel" "often" "[J") kc_goesOn_1) (fun _ h9 => h9) rfl dX12_goesOn_30 ?_
                refine lv_iload_n hx hb dX12_goesOn_33 rfl (lv_at hl 2 rfl) ?_
                refine va_lald hx hb hK hP 2 1 rfl rfl (vp_in_nI (n := i) (N := 36) (by omega) (by omega)) dX12_goesOn_34 ?_
                refine ql_as (y := lN (T i)) ((show fO (nI i : Int32).toNatClampNeg = fO i from by rw [nI_clamp (by omega)]).trans (hT i (by omega))) ?_
                refine lv_lconst (v := 0) hx hb dX12_goesOn_35 (by decide) ?_
                refine W.lcmp hx hb dX12_goesOn_36 ?_
                refine lv_if_le (tgt := 75) hx hb dX12_goesOn_37 (by decide) (fun c_4 => ?_) (fun c_4 => absurd c_4 (fun q9 => q9 ((tz_le hTi).mpr hz)))
                refine lv_aload_n hx hb dX12_goesOn_75 rfl (lv_at hl 0 rfl) ?_
                refine va_get (D := (dC, dI)) (ci := 14) (v := .ref aO) (C := RX12) (T := TX12) (N := 23) hx hb hts kc_goesOn_0 hown hK hP 0 rfl rfl 14 (by decide) (hts (.fieldLink RX12 28 "MistHeapsModel" "often" "[J") kc_goesOn_1) (fun _ h9 => h9) rfl dX12_goesOn_76 ?_
                refine lv_iload_n hx hb dX12_goesOn_79 rfl (lv_at hl 2 rfl) ?_
                refine va_lald hx hb hK hP 2 1 rfl rfl (vp_in_nI (n := i) (N := 36) (by omega) (by omega)) dX12_goesOn_80 ?_
                refine ql_as (y := lN (T i)) ((show fO (nI i : Int32).toNatClampNeg = fO i from by rw [nI_clamp (by omega)]).trans (hT i (by omega))) ?_
                refine lv_lconst (v := 0) hx hb dX12_goesOn_81 (by decide) ?_
                refine W.lcmp hx hb dX12_goesOn_82 ?_
                refine lv_if_le (tgt := 175) hx hb dX12_goesOn_83 (by decide) (fun c_5 => ?_) (fun c_5 => absurd c_5 (fun q9 => q9 ((tz_le hTi).mpr hz)))
                refine lv_iinc (v := nI (i + 1)) (lv' := [(2, .int (nI (i + 1))), (0, .ref m0), (1, .int (nI w))]) hx hb dX12_goesOn_175 hl (k := 2) rfl (nI_add i 1) (by decide) rfl (fun ls hl => ?_)
                refine lv_goto (tgt := 23) hx hb dX12_goesOn_178 (by decide) ?_
                exact ih23 (i + 1) (fN2) (by omega) (by omega) (by rw [gs_0 hz]; exact hg9) _ _ (hK.sub [0, 1, 2, 3] rfl) (hP.sub [0, 1, 2, 3, 4] rfl) (hD.sub [0, 1, 2, 3, 4] (by decide) rfl) hS ls (lv_sub hl [1, 2, 0] rfl)
              · skip
                by_cases he : ed i = true
                · skip
                  refine lv_aload_n hx hb dX12_goesOn_29 rfl (lv_at hl 0 rfl) ?_
                  refine va_get (D := (dC, dI)) (ci := 14) (v := .ref aO) (C := RX12) (T := TX12) (N := 23) hx hb hts kc_goesOn_0 hown hK hP 0 rfl rfl 14 (by decide) (hts (.fieldLink RX12 28 "MistHeapsModel" "often" "[J") kc_goesOn_1) (fun _ h9 => h9) rfl dX12_goesOn_30 ?_
                  refine lv_iload_n hx hb dX12_goesOn_33 rfl (lv_at hl 2 rfl) ?_
                  refine va_lald hx hb hK hP 2 1 rfl rfl (vp_in_nI (n := i) (N := 36) (by omega) (by omega)) dX12_goesOn_34 ?_
                  refine ql_as (y := lN (T i)) ((show fO (nI i : Int32).toNatClampNeg = fO i from by rw [nI_clamp (by omega)]).trans (hT i (by omega))) ?_
                  refine lv_lconst (v := 0) hx hb dX12_goesOn_35 (by decide) ?_
                  refine W.lcmp hx hb dX12_goesOn_36 ?_
                  refine lv_if_le (tgt := 75) hx hb dX12_goesOn_37 (by decide) (fun c_6 => absurd c_6 (fun q9 => hz ((tz_le hTi).mp q9))) (fun c_6 => ?_)
                  refine lv_aload_n hx hb dX12_goesOn_40 rfl (lv_at hl 0 rfl) ?_
                  refine va_get (D := (dC, dI)) (ci := 14) (v := .ref aS) (C := RX12) (T := TX12) (N := 23) hx hb hts kc_goesOn_0 hown hK hP 0 rfl rfl 1 (by decide) (hts (.fieldLink RX12 9 "MistHeapsModel" "s" "[I") kc_goesOn_3) (fun _ h9 => h9) rfl dX12_goesOn_41 ?_
                  refine lv_bipush (v := 37) hx hb dX12_goesOn_44 (by decide) ?_
                  refine lv_iload_n hx hb dX12_goesOn_46 rfl (lv_at hl 2 rfl) ?_
                  refine lv_iadd hx hb dX12_goesOn_47 ?_
                  refine qi_as (y := nI (37 + i)) (nI_add 37 i) ?_
                  refine va_iald hx hb hK hP 1 0 rfl rfl (vp_in_nI (n := 37 + i) (N := 901) (by omega) (by omega)) dX12_goesOn_48 ?_
                  refine qi_as (y := 1) ((show fS (nI (37 + i) : Int32).toNatClampNeg = fS (37 + i) from by rw [nI_clamp (by omega)]).trans ((hed i (by omega)).trans (by rw [if_pos he]; rfl))) ?_
                  refine lv_iconst (v := 1) hx hb dX12_goesOn_49 (by decide) ?_
                  refine lv_icmp_ne (tgt := 75) hx hb dX12_goesOn_50 (by decide) (fun c_7 => absurd c_7 (by decide)) (fun _ => ?_)
                  refine lv_aload_n hx hb dX12_goesOn_53 rfl (lv_at hl 0 rfl) ?_
                  refine va_get (D := (dC, dI)) (ci := 14) (v := .ref aN) (C := RX12) (T := TX12) (N := 23) hx hb hts kc_goesOn_0 hown hK hP 0 rfl rfl 15 (by decide) (hts (.fieldLink RX12 32 "MistHeapsModel" "then" "[J") kc_goesOn_2) (fun _ h9 => h9) rfl dX12_goesOn_54 ?_
                  refine lv_iload_n hx hb dX12_goesOn_57 rfl (lv_at hl 2 rfl) ?_
                  refine lv_dup2_11 hx hb dX12_goesOn_58 rfl rfl ?_
                  refine va_lald hx hb hK hP 3 2 rfl rfl (vp_in_nI (n := i) (N := 36) (by omega) (by omega)) dX12_goesOn_59 ?_
                  refine ql_as (y := fN2 i) (by rw [nI_clamp (by omega)]) ?_
                  refine lv_ldc2 (v := 20) hx hb hown (hts (.constantLong RX12 204 (20)) kc_goesOn_4) dX12_goesOn_60 ?_
                  refine lv_aload_n hx hb dX12_goesOn_63 rfl (lv_at hl 0 rfl) ?_
                  refine va_get (D := (dC, dI)) (ci := 14) (v := .ref aO) (C := RX12) (T := TX12) (N := 23) hx hb hts kc_goesOn_0 hown hK hP 0 rfl rfl 14 (by decide) (hts (.fieldLink RX12 28 "MistHeapsModel" "often" "[J") kc_goesOn_1) (fun _ h9 => h9) rfl dX12_goesOn_64 ?_
                  refine lv_iload_n hx hb dX12_goesOn_67 rfl (lv_at hl 2 rfl) ?_
                  refine va_lald hx hb hK hP 2 1 rfl rfl (vp_in_nI (n := i) (N := 36) (by omega) (by omega)) dX12_goesOn_68 ?_
                  refine ql_as (y := lN (T i)) ((show fO (nI i : Int32).toNatClampNeg = fO i from by rw [nI_clamp (by omega)]).trans (hT i (by omega))) ?_
                  refine lv_lmul hx hb dX12_goesOn_69 ?_
                  refine ql_as (y := lN (20 * T i)) (l20 _) ?_
                  refine lv_ladd hx hb dX12_goesOn_70 ?_
                  refine va_last hx hb hK hP hD hS 3 2 rfl rfl (vp_in_nI (n := i) (N := 36) (by omega) (by omega)) dX12_goesOn_71 (fun H locs hP hD hS => ?_)
                  rw [nI_clamp (n := i) (by omega)] at hP hD
                  have hP : va_P (dC, dI) vwCl [(zo14irriiiiiirriirrrrlriiii m0 th aS aI im ac sp en wg op aB aT se dn aG aO aN aD bv aY rn kd nu tv), (zaI aS cS 901 fS), (zaL aO cO 36 fO), (zaL aN cN 36 (vp_updL fN2 i ((fN2 i) + (lN (20 * T i))))), (zaI aD cD 36 fD)] H := hP
                  have hD : va_D A [(zo14irriiiiiirriirrrrlriiii m0 th aS aI im ac sp en wg op aB aT se dn aG aO aN aD bv aY rn kd nu tv), (zaI aS cS 901 fS), (zaL aO cO 36 fO), (zaL aN cN 36 (vp_updL fN2 i ((fN2 i) + (lN (20 * T i))))), (zaI aD cD 36 fD)] := hD
                  refine lv_goto (tgt := 175) hx hb dX12_goesOn_72 (by decide) ?_
                  refine lv_iinc (v := nI (i + 1)) (lv' := [(2, .int (nI (i + 1))), (0, .ref m0), (1, .int (nI w))]) hx hb dX12_goesOn_175 hl (k := 2) rfl (nI_add i 1) (by decide) rfl (fun ls hl => ?_)
                  refine lv_goto (tgt := 23) hx hb dX12_goesOn_178 (by decide) ?_
                  exact ih23 (i + 1) ((vp_updL fN2 i ((fN2 i) + (lN (20 * T i))))) (by omega) (by omega) (by rw [gs_e hz he]; exact ln_ad hg9 (by omega)) _ _ (hK.sub [0, 1, 2, 3] rfl) (hP.sub [0, 1, 2, 3, 4] rfl) (hD.sub [0, 1, 2, 3, 4] (by decide) rfl) hS ls (lv_sub hl [1, 2, 0] rfl)
                · skip
                  refine lv_aload_n hx hb dX12_goesOn_29 rfl (lv_at hl 0 rfl) ?_
                  refine va_get (D := (dC, dI)) (ci := 14) (v := .ref aO) (C := RX12) (T := TX12) (N := 23) hx hb hts kc_goesOn_0 hown hK hP 0 rfl rfl 14 (by decide) (hts (.fieldLink RX12 28 "MistHeapsModel" "often" "[J") kc_goesOn_1) (fun _ h9 => h9) rfl dX12_goesOn_30 ?_
                  refine lv_iload_n hx hb dX12_goesOn_33 rfl (lv_at hl 2 rfl) ?_
                  refine va_lald hx hb hK hP 2 1 rfl rfl (vp_in_nI (n := i) (N := 36) (by omega) (by omega)) dX12_goesOn_34 ?_
                  refine ql_as (y := lN (T i)) ((show fO (nI i : Int32).toNatClampNeg = fO i from by rw [nI_clamp (by omega)]).trans (hT i (by omega))) ?_
                  refine lv_lconst (v := 0) hx hb dX12_goesOn_35 (by decide) ?_
                  refine W.lcmp hx hb dX12_goesOn_36 ?_
                  refine lv_if_le (tgt := 75) hx hb dX12_goesOn_37 (by decide) (fun c_8 => absurd c_8 (fun q9 => hz ((tz_le hTi).mp q9))) (fun c_8 => ?_)
                  refine lv_aload_n hx hb dX12_goesOn_40 rfl (lv_at hl 0 rfl) ?_
                  refine va_get (D := (dC, dI)) (ci := 14) (v := .ref aS) (C := RX12) (T := TX12) (N := 23) hx hb hts kc_goesOn_0 hown hK hP 0 rfl rfl 1 (by decide) (hts (.fieldLink RX12 9 "MistHeapsModel" "s" "[I") kc_goesOn_3) (fun _ h9 => h9) rfl dX12_goesOn_41 ?_
                  refine lv_bipush (v := 37) hx hb dX12_goesOn_44 (by decide) ?_
                  refine lv_iload_n hx hb dX12_goesOn_46 rfl (lv_at hl 2 rfl) ?_
                  refine lv_iadd hx hb dX12_goesOn_47 ?_
                  refine qi_as (y := nI (37 + i)) (nI_add 37 i) ?_
                  refine va_iald hx hb hK hP 1 0 rfl rfl (vp_in_nI (n := 37 + i) (N := 901) (by omega) (by omega)) dX12_goesOn_48 ?_
                  refine qi_as (y := 0) ((show fS (nI (37 + i) : Int32).toNatClampNeg = fS (37 + i) from by rw [nI_clamp (by omega)]).trans ((hed i (by omega)).trans (by rw [if_neg he]; rfl))) ?_
                  refine lv_iconst (v := 1) hx hb dX12_goesOn_49 (by decide) ?_
                  refine lv_icmp_ne (tgt := 75) hx hb dX12_goesOn_50 (by decide) (fun _ => ?_) (fun c_9 => absurd c_9 (by decide))
                  refine lv_aload_n hx hb dX12_goesOn_75 rfl (lv_at hl 0 rfl) ?_
                  refine va_get (D := (dC, dI)) (ci := 14) (v := .ref aO) (C := RX12) (T := TX12) (N := 23) hx hb hts kc_goesOn_0 hown hK hP 0 rfl rfl 14 (by decide) (hts (.fieldLink RX12 28 "MistHeapsModel" "often" "[J") kc_goesOn_1) (fun _ h9 => h9) rfl dX12_goesOn_76 ?_
                  refine lv_iload_n hx hb dX12_goesOn_79 rfl (lv_at hl 2 rfl) ?_
                  refine va_lald hx hb hK hP 2 1 rfl rfl (vp_in_nI (n := i) (N := 36) (by omega) (by omega)) dX12_goesOn_80 ?_
                  refine ql_as (y := lN (T i)) ((show fO (nI i : Int32).toNatClampNeg = fO i from by rw [nI_clamp (by omega)]).trans (hT i (by omega))) ?_
                  refine lv_lconst (v := 0) hx hb dX12_goesOn_81 (by decide) ?_
                  refine W.lcmp hx hb dX12_goesOn_82 ?_
                  refine lv_if_le (tgt := 175) hx hb dX12_goesOn_83 (by decide) (fun c_10 => absurd c_10 (fun q9 => hz ((tz_le hTi).mp q9))) (fun c_10 => ?_)
                  refine lv_aload_n hx hb dX12_goesOn_86 rfl (lv_at hl 0 rfl) ?_
                  refine va_get (D := (dC, dI)) (ci := 14) (v := .ref aD) (C := RX12) (T := TX12) (N := 23) hx hb hts kc_goesOn_0 hown hK hP 0 rfl rfl 16 (by decide) (hts (.fieldLink RX12 35 "MistHeapsModel" "drifts" "[I") kc_goesOn_5) (fun _ h9 => h9) rfl dX12_goesOn_87 ?_
                  refine lv_iload_n hx hb dX12_goesOn_90 rfl (lv_at hl 2 rfl) ?_
                  refine va_iald hx hb hK hP 4 3 rfl rfl (vp_in_nI (n := i) (N := 36) (by omega) (by omega)) dX12_goesOn_91 ?_
                  refine qi_as (y := nI (dr i)) ((show fD (nI i : Int32).toNatClampNeg = fD i from by rw [nI_clamp (by omega)]).trans ((hdr i (by omega)).1)) ?_
                  refine lv_istore_n (lv' := [(3, .int (nI (dr i))), (0, .ref m0), (1, .int (nI w)), (2, .int (nI i))]) hx hb dX12_goesOn_92 rfl hl (by decide) rfl (fun ls hl => ?_)
                  refine lv_aload_n hx hb dX12_goesOn_93 rfl (lv_at hl 1 rfl) ?_
                  refine va_get (D := (dC, dI)) (ci := 14) (v := .ref aN) (C := RX12) (T := TX12) (N := 23) hx hb hts kc_goesOn_0 hown hK hP 0 rfl rfl 15 (by decide) (hts (.fieldLink RX12 32 "MistHeapsModel" "then" "[J") kc_goesOn_2) (fun _ h9 => h9) rfl dX12_goesOn_94 ?_
                  refine lv_iload_n hx hb dX12_goesOn_97 rfl (lv_at hl 3 rfl) ?_
                  refine lv_iload_n hx hb dX12_goesOn_98 rfl (lv_at hl 2 rfl) ?_
                  have hnx := nx_lt i (by omega) w (by omega)
                  refine vp_callSi (va_runS (As := [.int (nI i), .int (nI w)]) (rest := [.ref aN]) ⟨hx, hb, hml, hown, hts⟩ (c_nextTo l dC dI i w (by omega) (by omega)) (va_cwS 2 hts gX12_goesOn_X12_nextTo rfl rfl rfl hd_yX12_nextTo.2 ⟨Nat.le_of_ble_eq_true rfl, Nat.le_of_ble_eq_true rfl⟩) ⟨fun a U g mk q => ⟨q.1, trivial⟩, fun U hU hW => ⟨rfl, trivial⟩⟩ rfl rfl hl.1 rfl (lv_room (Nat.le_of_ble_eq_true rfl)) dX12_goesOn_99 ⟨Nat.le_of_ble_eq_true rfl, Nat.le_of_ble_eq_true rfl⟩).run (fun r_11 hw_12 => ?_)
                  obtain rfl := hw_12
                  refine lv_dup2_11 hx hb dX12_goesOn_102 rfl rfl ?_
                  refine va_lald hx hb hK hP 3 2 rfl rfl (vp_in_nI (n := nxN i w) (N := 36) (by omega) (by omega)) dX12_goesOn_103 ?_
                  refine ql_as (y := fN2 (nxN i w)) (by rw [nI_clamp (by omega)]) ?_
                  refine lv_bipush (v := 20) hx hb dX12_goesOn_104 (by decide) ?_
                  refine lv_iconst (v := 2) hx hb dX12_goesOn_106 (by decide) ?_
                  refine lv_iload_n hx hb dX12_goesOn_107 rfl (lv_at hl 0 rfl) ?_
                  refine lv_imul hx hb dX12_goesOn_108 ?_
                  refine qi_as (y := nI (2 * (dr i))) (pk_mul 2 (dr i)) ?_
                  refine lv_isub hx hb dX12_goesOn_109 ?_
                  refine qi_as (y := nI (20 - (2 * (dr i)))) (pk_sub (a := 20) (b := 2 * (dr i)) (by omega)) ?_
                  refine lv_i2l (v := lN (20 - 2 * dr i)) hx hb dX12_goesOn_110 (nI_l (by omega)) ?_
                  refine lv_aload_n hx hb dX12_goesOn_111 rfl (lv_at hl 1 rfl) ?_
                  refine va_get (D := (dC, dI)) (ci := 14) (v := .ref aO) (C := RX12) (T := TX12) (N := 23) hx hb hts kc_goesOn_0 hown hK hP 0 rfl rfl 14 (by decide) (hts (.fieldLink RX12 28 "MistHeapsModel" "often" "[J") kc_goesOn_1) (fun _ h9 => h9) rfl dX12_goesOn_112 ?_
                  refine lv_iload_n hx hb dX12_goesOn_115 rfl (lv_at hl 3 rfl) ?_
                  refine va_lald hx hb hK hP 2 1 rfl rfl (vp_in_nI (n := i) (N := 36) (by omega) (by omega)) dX12_goesOn_116 ?_
                  refine ql_as (y := lN (T i)) ((show fO (nI i : Int32).toNatClampNeg = fO i from by rw [nI_clamp (by omega)]).trans (hT i (by omega))) ?_
                  refine lv_lmul hx hb dX12_goesOn_117 ?_
                  refine ql_as (y := lN ((20 - 2 * dr i) * T i)) (lN_mul _ _) ?_
                  refine lv_ladd hx hb dX12_goesOn_118 ?_
                  refine va_last hx hb hK hP hD hS 3 2 rfl rfl (vp_in_nI (n := nxN i w) (N := 36) (by omega) (by omega)) dX12_goesOn_119 (fun H locs hP hD hS => ?_)
                  rw [nI_clamp (n := nxN i w) (by omega)] at hP hD
                  have hP : va_P (dC, dI) vwCl [(zo14irriiiiiirriirrrrlriiii m0 th aS aI im ac sp en wg op aB aT se dn aG aO aN aD bv aY rn kd nu tv), (zaI aS cS 901 fS), (zaL aO cO 36 fO), (zaL aN cN 36 (vp_updL fN2 (nxN i w) ((fN2 (nxN i w)) + (lN ((20 - 2 * dr i) * T i))))), (zaI aD cD 36 fD)] H := hP
                  have hD : va_D A [(zo14irriiiiiirriirrrrlriiii m0 th aS aI im ac sp en wg op aB aT se dn aG aO aN aD bv aY rn kd nu tv), (zaI aS cS 901 fS), (zaL aO cO 36 fO), (zaL aN cN 36 (vp_updL fN2 (nxN i w) ((fN2 (nxN i w)) + (lN ((20 - 2 * dr i) * T i))))), (zaI aD cD 36 fD)] := hD
                  refine lv_aload_n hx hb dX12_goesOn_120 rfl (lv_at hl 1 rfl) ?_
                  refine va_get (D := (dC, dI)) (ci := 14) (v := .ref aN) (C := RX12) (T := TX12) (N := 23) hx hb hts kc_goesOn_0 hown hK hP 0 rfl rfl 15 (by decide) (hts (.fieldLink RX12 32 "MistHeapsModel" "then" "[J") kc_goesOn_2) (fun _ h9 => h9) rfl dX12_goesOn_121 ?_
                  refine lv_iload_n hx hb dX12_goesOn_124 rfl (lv_at hl 3 rfl) ?_
                  refine lv_iload_n hx hb dX12_goesOn_125 rfl (lv_at hl 2 rfl) ?_
                  refine lv_bipush (v := 7) hx hb dX12_goesOn_126 (by decide) ?_
                  refine lv_iadd hx hb dX12_goesOn_128 ?_
                  refine qi_as (y := nI (w + 7)) (nI_add w 7) ?_
                  refine lv_bipush (v := 8) hx hb dX12_goesOn_129 (by decide) ?_
                  refine lv_irem hx hb dX12_goesOn_131 (by decide) ?_
                  refine qi_as (y := nI ((w + 7) % 8)) (pk_rem (a := w + 7) (d := 8) (by omega) (by omega) (by omega)) ?_
                  have hnx := nx_lt i (by omega) ((w + 7) % 8) (by omega)
                  refine vp_callSi (va_runS (As := [.int (nI i), .int (nI ((w + 7) % 8))]) (rest := [.ref aN]) ⟨hx, hb, hml, hown, hts⟩ (c_nextTo l dC dI i ((w + 7) % 8) (by omega) (by omega)) (va_cwS 2 hts gX12_goesOn_X12_nextTo rfl rfl rfl hd_yX12_nextTo.2 ⟨Nat.le_of_ble_eq_true rfl, Nat.le_of_ble_eq_true rfl⟩) ⟨fun a U g mk q => ⟨q.1, trivial⟩, fun U hU hW => ⟨rfl, trivial⟩⟩ rfl rfl hl.1 rfl (lv_room (Nat.le_of_ble_eq_true rfl)) dX12_goesOn_132 ⟨Nat.le_of_ble_eq_true rfl, Nat.le_of_ble_eq_true rfl⟩).run (fun r_13 hw_14 => ?_)
                  obtain rfl := hw_14
                  refine lv_dup2_11 hx hb dX12_goesOn_135 rfl rfl ?_
                  refine va_lald hx hb hK hP 3 2 rfl rfl (vp_in_nI (n := nxN i ((w + 7) % 8)) (N := 36) (by omega) (by omega)) dX12_goesOn_136 ?_
                  refine ql_as (y := (vp_updL fN2 (nxN i w) ((fN2 (nxN i w)) + (lN ((20 - 2 * dr i) * T i)))) (nxN i ((w + 7) % 8))) (by rw [nI_clamp (by omega)]) ?_
                  refine lv_iload_n hx hb dX12_goesOn_137 rfl (lv_at hl 0 rfl) ?_
                  refine lv_i2l (v := lN (dr i)) hx hb dX12_goesOn_138 (nI_l (by omega)) ?_
                  refine lv_aload_n hx hb dX12_goesOn_139 rfl (lv_at hl 1 rfl) ?_
                  refine va_get (D := (dC, dI)) (ci := 14) (v := .ref aO) (C := RX12) (T := TX12) (N := 23) hx hb hts kc_goesOn_0 hown hK hP 0 rfl rfl 14 (by decide) (hts (.fieldLink RX12 28 "MistHeapsModel" "often" "[J") kc_goesOn_1) (fun _ h9 => h9) rfl dX12_goesOn_140 ?_
                  refine lv_iload_n hx hb dX12_goesOn_143 rfl (lv_at hl 3 rfl) ?_
                  refine va_lald hx hb hK hP 2 1 rfl rfl (vp_in_nI (n := i) (N := 36) (by omega) (by omega)) dX12_goesOn_144 ?_
                  refine ql_as (y := lN (T i)) ((show fO (nI i : Int32).toNatClampNeg = fO i from by rw [nI_clamp (by omega)]).trans (hT i (by omega))) ?_
                  refine lv_lmul hx hb dX12_goesOn_145 ?_
                  refine ql_as (y := lN (dr i * T i)) (lN_mul _ _) ?_
                  refine lv_ladd hx hb dX12_goesOn_146 ?_
                  refine va_last hx hb hK hP hD hS 3 2 rfl rfl (vp_in_nI (n := nxN i ((w + 7) % 8)) (N := 36) (by omega) (by omega)) dX12_goesOn_147 (fun H locs hP hD hS => ?_)
                  rw [nI_clamp (n := nxN i ((w + 7) % 8)) (by omega)] at hP hD
                  have hP : va_P (dC, dI) vwCl [(zo14irriiiiiirriirrrrlriiii m0 th aS aI im ac sp en wg op aB aT se dn aG aO aN aD bv aY rn kd nu tv), (zaI aS cS 901 fS), (zaL aO cO 36 fO), (zaL aN cN 36 (vp_updL (vp_updL fN2 (nxN i w) ((fN2 (nxN i w)) + (lN ((20 - 2 * dr i) * T i)))) (nxN i ((w + 7) % 8)) (((vp_updL fN2 (nxN i w) ((fN2 (nxN i w)) + (lN ((20 - 2 * dr i) * T i)))) (nxN i ((w + 7) % 8))) + (lN (dr i * T i))))), (zaI aD cD 36 fD)] H := hP
                  have hD : va_D A [(zo14irriiiiiirriirrrrlriiii m0 th aS aI im ac sp en wg op aB aT se dn aG aO aN aD bv aY rn kd nu tv), (zaI aS cS 901 fS), (zaL aO cO 36 fO), (zaL aN cN 36 (vp_updL (vp_updL fN2 (nxN i w) ((fN2 (nxN i w)) + (lN ((20 - 2 * dr i) * T i)))) (nxN i ((w + 7) % 8)) (((vp_updL fN2 (nxN i w) ((fN2 (nxN i w)) + (lN ((20 - 2 * dr i) * T i)))) (nxN i ((w + 7) % 8))) + (lN (dr i * T i))))), (zaI aD cD 36 fD)] := hD
                  refine lv_aload_n hx hb dX12_goesOn_148 rfl (lv_at hl 1 rfl) ?_
                  refine va_get (D := (dC, dI)) (ci := 14) (v := .ref aN) (C := RX12) (T := TX12) (N := 23) hx hb hts kc_goesOn_0 hown hK hP 0 rfl rfl 15 (by decide) (hts (.fieldLink RX12 32 "MistHeapsModel" "then" "[J") kc_goesOn_2) (fun _ h9 => h9) rfl dX12_goesOn_149 ?_
                  refine lv_iload_n hx hb dX12_goesOn_152 rfl (lv_at hl 3 rfl) ?_
                  refine lv_iload_n hx hb dX12_goesOn_153 rfl (lv_at hl 2 rfl) ?_
                  refine lv_iconst (v := 1) hx hb dX12_goesOn_154 (by decide) ?_
                  refine lv_iadd hx hb dX12_goesOn_155 ?_
                  refine qi_as (y := nI (w + 1)) (nI_add w 1) ?_
                  refine lv_bipush (v := 8) hx hb dX12_goesOn_156 (by decide) ?_
                  refine lv_irem hx hb dX12_goesOn_158 (by decide) ?_
                  refine qi_as (y := nI ((w + 1) % 8)) (pk_rem (a := w + 1) (d := 8) (by omega) (by omega) (by omega)) ?_
                  have hnx := nx_lt i (by omega) ((w + 1) % 8) (by omega)
                  refine vp_callSi (va_runS (As := [.int (nI i), .int (nI ((w + 1) % 8))]) (rest := [.ref aN]) ⟨hx, hb, hml, hown, hts⟩ (c_nextTo l dC dI i ((w + 1) % 8) (by omega) (by omega)) (va_cwS 2 hts gX12_goesOn_X12_nextTo rfl rfl rfl hd_yX12_nextTo.2 ⟨Nat.le_of_ble_eq_true rfl, Nat.le_of_ble_eq_true rfl⟩) ⟨fun a U g mk q => ⟨q.1, trivial⟩, fun U hU hW => ⟨rfl, trivial⟩⟩ rfl rfl hl.1 rfl (lv_room (Nat.le_of_ble_eq_true rfl)) dX12_goesOn_159 ⟨Nat.le_of_ble_eq_true rfl, Nat.le_of_ble_eq_true rfl⟩).run (fun r_15 hw_16 => ?_)
                  obtain rfl := hw_16
                  refine lv_dup2_11 hx hb dX12_goesOn_162 rfl rfl ?_
                  refine va_lald hx hb hK hP 3 2 rfl rfl (vp_in_nI (n := nxN i ((w + 1) % 8)) (N := 36) (by omega) (by omega)) dX12_goesOn_163 ?_
                  refine ql_as (y := (vp_updL (vp_updL fN2 (nxN i w) ((fN2 (nxN i w)) + (lN ((20 - 2 * dr i) * T i)))) (nxN i ((w + 7) % 8)) (((vp_updL fN2 (nxN i w) ((fN2 (nxN i w)) + (lN ((20 - 2 * dr i) * T i)))) (nxN i ((w + 7) % 8))) + (lN (dr i * T i)))) (nxN i ((w + 1) % 8))) (by rw [nI_clamp (by omega)]) ?_
                  refine lv_iload_n hx hb dX12_goesOn_164 rfl (lv_at hl 0 rfl) ?_
                  refine lv_i2l (v := lN (dr i)) hx hb dX12_goesOn_165 (nI_l (by omega)) ?_
                  refine lv_aload_n hx hb dX12_goesOn_166 rfl (lv_at hl 1 rfl) ?_
                  refine va_get (D := (dC, dI)) (ci := 14) (v := .ref aO) (C := RX12) (T := TX12) (N := 23) hx hb hts kc_goesOn_0 hown hK hP 0 rfl rfl 14 (by decide) (hts (.fieldLink RX12 28 "MistHeapsModel" "often" "[J") kc_goesOn_1) (fun _ h9 => h9) rfl dX12_goesOn_167 ?_
                  refine lv_iload_n hx hb dX12_goesOn_170 rfl (lv_at hl 3 rfl) ?_
                  refine va_lald hx hb hK hP 2 1 rfl rfl (vp_in_nI (n := i) (N := 36) (by omega) (by omega)) dX12_goesOn_171 ?_
                  refine ql_as (y := lN (T i)) ((show fO (nI i : Int32).toNatClampNeg = fO i from by rw [nI_clamp (by omega)]).trans (hT i (by omega))) ?_
                  refine lv_lmul hx hb dX12_goesOn_172 ?_
                  refine ql_as (y := lN (dr i * T i)) (lN_mul _ _) ?_
                  refine lv_ladd hx hb dX12_goesOn_173 ?_
                  refine va_last hx hb hK hP hD hS 3 2 rfl rfl (vp_in_nI (n := nxN i ((w + 1) % 8)) (N := 36) (by omega) (by omega)) dX12_goesOn_174 (fun H locs hP hD hS => ?_)
                  rw [nI_clamp (n := nxN i ((w + 1) % 8)) (by omega)] at hP hD
                  have hP : va_P (dC, dI) vwCl [(zo14irriiiiiirriirrrrlriiii m0 th aS aI im ac sp en wg op aB aT se dn aG aO aN aD bv aY rn kd nu tv), (zaI aS cS 901 fS), (zaL aO cO 36 fO), (zaL aN cN 36 (vp_updL (vp_updL (vp_updL fN2 (nxN i w) ((fN2 (nxN i w)) + (lN ((20 - 2 * dr i) * T i)))) (nxN i ((w + 7) % 8)) (((vp_updL fN2 (nxN i w) ((fN2 (nxN i w)) + (lN ((20 - 2 * dr i) * T i)))) (nxN i ((w + 7) % 8))) + (lN (dr i * T i)))) (nxN i ((w + 1) % 8)) (((vp_updL (vp_updL fN2 (nxN i w) ((fN2 (nxN i w)) + (lN ((20 - 2 * dr i) * T i)))) (nxN i ((w + 7) % 8)) (((vp_updL fN2 (nxN i w) ((fN2 (nxN i w)) + (lN ((20 - 2 * dr i) * T i)))) (nxN i ((w + 7) % 8))) + (lN (dr i * T i)))) (nxN i ((w + 1) % 8))) + (lN (dr i * T i))))), (zaI aD cD 36 fD)] H := hP
                  have hD : va_D A [(zo14irriiiiiirriirrrrlriiii m0 th aS aI im ac sp en wg op aB aT se dn aG aO aN aD bv aY rn kd nu tv), (zaI aS cS 901 fS), (zaL aO cO 36 fO), (zaL aN cN 36 (vp_updL (vp_updL (vp_updL fN2 (nxN i w) ((fN2 (nxN i w)) + (lN ((20 - 2 * dr i) * T i)))) (nxN i ((w + 7) % 8)) (((vp_updL fN2 (nxN i w) ((fN2 (nxN i w)) + (lN ((20 - 2 * dr i) * T i)))) (nxN i ((w + 7) % 8))) + (lN (dr i * T i)))) (nxN i ((w + 1) % 8)) (((vp_updL (vp_updL fN2 (nxN i w) ((fN2 (nxN i w)) + (lN ((20 - 2 * dr i) * T i)))) (nxN i ((w + 7) % 8)) (((vp_updL fN2 (nxN i w) ((fN2 (nxN i w)) + (lN ((20 - 2 * dr i) * T i)))) (nxN i ((w + 7) % 8))) + (lN (dr i * T i)))) (nxN i ((w + 1) % 8))) + (lN (dr i * T i))))), (zaI aD cD 36 fD)] := hD
                  refine lv_iinc (v := nI (i + 1)) (lv' := [(2, .int (nI (i + 1))), (3, .int (nI (dr i))), (0, .ref m0), (1, .int (nI w))]) hx hb dX12_goesOn_175 hl (k := 3) rfl (nI_add i 1) (by decide) rfl (fun ls hl => ?_)
                  refine lv_goto (tgt := 23) hx hb dX12_goesOn_178 (by decide) ?_
                  exact ih23 (i + 1) ((vp_updL (vp_updL (vp_updL fN2 (nxN i w) ((fN2 (nxN i w)) + (lN ((20 - 2 * dr i) * T i)))) (nxN i ((w + 7) % 8)) (((vp_updL fN2 (nxN i w) ((fN2 (nxN i w)) + (lN ((20 - 2 * dr i) * T i)))) (nxN i ((w + 7) % 8))) + (lN (dr i * T i)))) (nxN i ((w + 1) % 8)) (((vp_updL (vp_updL fN2 (nxN i w) ((fN2 (nxN i w)) + (lN ((20 - 2 * dr i) * T i)))) (nxN i ((w + 7) % 8)) (((vp_updL fN2 (nxN i w) ((fN2 (nxN i w)) + (lN ((20 - 2 * dr i) * T i)))) (nxN i ((w + 7) % 8))) + (lN (dr i * T i)))) (nxN i ((w + 1) % 8))) + (lN (dr i * T i))))) (by omega) (by omega) (by rw [gs_n hz he]; exact ln_ad (ln_ad (ln_ad hg9 (nx_lt i (by omega) w hw8)) (nx_lt i (by omega) _ (Nat.mod_lt _ (by decide)))) (nx_lt i (by omega) _ (Nat.mod_lt _ (by decide)))) _ _ (hK.sub [0, 1, 2, 3] rfl) (hP.sub [0, 1, 2, 3, 4] rfl) (hD.sub [0, 1, 2, 3, 4] (by decide) rfl) hS ls (lv_sub hl [2, 3, 0] rfl)
        exact L23 _ (0) (fN2) (Nat.lt_succ_self _) (by omega) (fun k hk => (hz9 k (by omega)).trans (show (0 : Int64) = lN 0 from rfl)) _ _ (hK.sub [0, 1, 2, 3] rfl) (hP.sub [0, 1, 2, 3, 4] rfl) (hD.sub [0, 1, 2, 3, 4] (by decide) rfl) hS ls (lv_sub hl [1, 2, 0] rfl)
      · skip
        have c_1 : ¬ 36 ≤ i := fun q => c_1 ((nI_leI (a := 36) (b := i) (by omega) (by omega)).mpr q)
        refine lv_aload_n hx hb dX12_goesOn_8 rfl (lv_at hl 0 rfl) ?_
        refine va_get (D := (dC, dI)) (ci := 14) (v := .ref aN) (C := RX12) (T := TX12) (N := 23) hx hb hts kc_goesOn_0 hown hK hP 0 rfl rfl 15 (by decide) (hts (.fieldLink RX12 32 "MistHeapsModel" "then" "[J") kc_goesOn_2) (fun _ h9 => h9) rfl dX12_goesOn_9 ?_
        refine lv_iload_n hx hb dX12_goesOn_12 rfl (lv_at hl 2 rfl) ?_
        refine lv_lconst (v := 0) hx hb dX12_goesOn_13 (by decide) ?_
        refine va_last hx hb hK hP hD hS 3 2 rfl rfl (vp_in_nI (n := i) (N := 36) (by omega) (by omega)) dX12_goesOn_14 (fun H locs hP hD hS => ?_)
        rw [nI_clamp (n := i) (by omega)] at hP hD
        have hP : va_P (dC, dI) vwCl [(zo14irriiiiiirriirrrrlriiii m0 th aS aI im ac sp en wg op aB aT se dn aG aO aN aD bv aY rn kd nu tv), (zaI aS cS 901 fS), (zaL aO cO 36 fO), (zaL aN cN 36 (vp_updL fN2 i 0)), (zaI aD cD 36 fD)] H := hP
        have hD : va_D A [(zo14irriiiiiirriirrrrlriiii m0 th aS aI im ac sp en wg op aB aT se dn aG aO aN aD bv aY rn kd nu tv), (zaI aS cS 901 fS), (zaL aO cO 36 fO), (zaL aN cN 36 (vp_updL fN2 i 0)), (zaI aD cD 36 fD)] := hD
        refine lv_iinc (v := nI (i + 1)) (lv' := [(2, .int (nI (i + 1))), (0, .ref m0), (1, .int (nI w))]) hx hb dX12_goesOn_15 hl (k := 2) rfl (nI_add i 1) (by decide) rfl (fun ls hl => ?_)
        refine lv_goto (tgt := 2) hx hb dX12_goesOn_18 (by decide) ?_
        exact ih2 (i + 1) ((vp_updL fN2 i 0)) (by omega) (by omega) (z_up hz9) _ _ (hK.sub [0, 1, 2, 3] rfl) (hP.sub [0, 1, 2, 3, 4] rfl) (hD.sub [0, 1, 2, 3, 4] (by decide) rfl) hS ls (lv_sub hl [1, 2, 0] rfl)
  exact L2 _ (0) (fN) (Nat.lt_succ_self _) (by omega) (fun k hk => absurd hk (Nat.not_lt_zero k)) _ _ (hK.sub [0, 1, 2, 3] rfl) (hP.sub [0, 1, 2, 3, 4] rfl) (hD.sub [0, 1, 2, 3, 4] (by decide) rfl) hS ls (lv_sub hl [1, 2, 0] rfl)

theorem kc_over_0 : ∀ w ∈ wsX120, w ∈ wsX12_over := fun w h => List.mem_cons_of_mem _ (gin_wsX120 w h)
theorem kc_over_1 : (.fieldLink RX12 9 "MistHeapsModel" "s" "[I" : Cond) ∈ wsX12_over := kc_of 1141 rfl rfl rfl
theorem kc_over_2 : (.fieldLink RX12 28 "MistHeapsModel" "often" "[J" : Cond) ∈ wsX12_over := kc_of 1154 rfl rfl rfl
set_option maxHeartbeats 4000000 in
set_option maxRecDepth 100000 in
theorem c_over (l : Launch) (dC : Nat → ClassId) (dI : Nat → Nat → Nat) (m0 aS aI aB aT aG aO aN aD aY : Nat) (th im ac sp en wg op se dn rn kd nu tv : Int32) (bv : Int64) (cS cO : ClassId) (fS : Nat → Int32) (fO : Nat → Int64) (T : Nat → Nat) (ed : Nat → Bool) (hT : lnA fO T) (hed : ∀ k, k < 36 → fS (37 + k) = nI (if ed k = true then 1 else 0)) : Met l yX12_over wsX12_over ({ frames := 0, cells := 0, slots := 0, locals := 0 } : Room) (va_Pc [.ref m0] (fun U => va_P (dC, dI) vwCl [(zo14irriiiiiirriirrrrlriiii m0 th aS aI im ac sp en wg op aB aT se dn aG aO aN aD bv aY rn kd nu tv), (zaI aS cS 901 fS), (zaL aO cO 36 fO)] U.heap ∧ va_K (dC, dI) vwCl [(cS, .int), (cO, .long)] U)) (vp_Sl (fun r => r = lN (msN (fun k => ed k = true) T 36))) 0 0 (fun _ => False) := by
  refine met_ofQ (cc := cX12_over) (maxL := 4) (ret := (some .long)) (by decide) rfl ?_
  intro p e s m args below meth c s₁ Q B hml hv hQ
  obtain ⟨rfl, hP, hK⟩ := hv
  have hx := B.exec
  have hb := B.bytes
  have hr := B.returns
  have hts := atoms_spec (ws := wsX12_over) B.pre
  have hown : s.vm.findClass RX12 = some m.cls := findClass_of_methodNamed B.named
  have hlocks := B.notSynchronized
  obtain ⟨A, hAe⟩ : ∃ A : Nat → Prop, A = fun _ => False := ⟨_, rfl⟩
  rw [← hAe] at hQ
  have hS : va_S A s.heap s.heap [] := va_S.rf
  have hl := lv_entry [.ref m0] (n := 4) (Nat.le_of_ble_eq_true rfl)
  rw [lg_entry_eq]
  generalize (lg_sl [.ref m0] ++ List.replicate (4 - (lg_sl [.ref m0]).length) Slot.unset).toArray = ls at hl ⊢
  generalize hag : ([.ref m0] : List Value).toArray = args at hts hQ ⊢
  have hl : lv_has ls 4 [(0, .ref m0)] := hl
  refine lv_lconst (v := 0) hx hb dX12_over_0 (by decide) ?_
  refine lv_lstore_n (lv' := [(1, .long 0), (0, .ref m0)]) hx hb dX12_over_1 rfl hl (by decide) rfl (fun ls hl => ?_)
  refine lv_iconst (v := 0) hx hb dX12_over_2 (by decide) ?_
  refine lv_istore_n (lv' := [(3, .int 0), (1, .long 0), (0, .ref m0)]) hx hb dX12_over_3 rfl hl (by decide) rfl (fun ls hl => ?_)
  have L4 : ∀ (nF : Nat) (i : Nat) (q : Int64), 36 - i < nF → (i ≤ 36) → (q = lN (msN (fun k => ed k = true) T i)) → ∀ (ls : Array Slot), lv_has ls 4 [(0, .ref m0), (1, .long q), (3, .int (nI i))] → W p l e ({ frames := 0, cells := 0, slots := 0, locals := 0 } : Room) s m args below meth c s.heap [] 0 0 Q (F0 m 4 ls []) := by
    intro nF
    induction nF with
    | zero => intro i q hm; exact absurd hm (Nat.not_lt_zero _)
    | succ nF ih4 =>
      intro i q hm hi hq9 ls hl
      refine lv_iload_n hx hb dX12_over_4 rfl (lv_at hl 2 rfl) ?_
      refine lv_bipush (v := 36) hx hb dX12_over_5 (by decide) ?_
      refine lv_icmp_ge (tgt := 42) hx hb dX12_over_7 (by decide) (fun c_1 => ?_) (fun c_1 => ?_)
      · skip
        have c_1 : 36 ≤ i := (nI_leI (a := 36) (b := i) (by omega) (by omega)).mp c_1
        refine lv_lload_n hx hb dX12_over_42 rfl (lv_at hl 1 rfl) ?_
        rw [hQ]
        exact W.lret (v := q) hx hb hr (fun tQ htQ hWQ => ⟨q, rfl, ms_e hq9 (by omega), by rw [htQ]⟩) (fun q hq => absurd hq List.not_mem_nil) dX12_over_43
      · skip
        have c_1 : ¬ 36 ≤ i := fun q => c_1 ((nI_leI (a := 36) (b := i) (by omega) (by omega)).mpr q)
        by_cases he : ed i = true
        · skip
          refine lv_lload_n hx hb dX12_over_10 rfl (lv_at hl 1 rfl) ?_
          refine lv_aload_n hx hb dX12_over_11 rfl (lv_at hl 0 rfl) ?_
          refine va_get (D := (dC, dI)) (ci := 14) (v := .ref aS) (C := RX12) (T := TX12) (N := 23) hx hb hts kc_over_0 hown hK hP 0 rfl rfl 1 (by decide) (hts (.fieldLink RX12 9 "MistHeapsModel" "s" "[I") kc_over_1) (fun _ h9 => h9) rfl dX12_over_12 ?_
          refine lv_bipush (v := 37) hx hb dX12_over_15 (by decide) ?_
          refine lv_iload_n hx hb dX12_over_17 rfl (lv_at hl 2 rfl) ?_
          refine lv_iadd hx hb dX12_over_18 ?_
          refine qi_as (y := nI (37 + i)) (nI_add 37 i) ?_
          refine va_iald hx hb hK hP 1 0 rfl rfl (vp_in_nI (n := 37 + i) (N := 901) (by omega) (by omega)) dX12_over_19 ?_
          refine qi_as (y := 1) ((show fS (nI (37 + i) : Int32).toNatClampNeg = fS (37 + i) from by rw [nI_clamp (by omega)]).trans ((hed i (by omega)).trans (by rw [if_pos he]; rfl))) ?_
          refine lv_iconst (v := 1) hx hb dX12_over_20 (by decide) ?_
          refine lv_icmp_ne (tgt := 33) hx hb dX12_over_21 (by decide) (fun c_2 => absurd c_2 (by decide)) (fun _ => ?_)
          refine lv_aload_n hx hb dX12_over_24 rfl (lv_at hl 0 rfl) ?_
          refine va_get (D := (dC, dI)) (ci := 14) (v := .ref aO) (C := RX12) (T := TX12) (N := 23) hx hb hts kc_over_0 hown hK hP 0 rfl rfl 14 (by decide) (hts (.fieldLink RX12 28 "MistHeapsModel" "often" "[J") kc_over_2) (fun _ h9 => h9) rfl dX12_over_25 ?_
          refine lv_iload_n hx hb dX12_over_28 rfl (lv_at hl 2 rfl) ?_
          refine va_lald hx hb hK hP 2 1 rfl rfl (vp_in_nI (n := i) (N := 36) (by omega) (by omega)) dX12_over_29 ?_
          refine ql_as (y := lN (T i)) ((show fO (nI i : Int32).toNatClampNeg = fO i from by rw [nI_clamp (by omega)]).trans (hT i (by omega))) ?_
          refine lv_goto (tgt := 34) hx hb dX12_over_30 (by decide) ?_
          refine lv_ladd hx hb dX12_over_34 ?_
          refine lv_lstore_n (lv' := [(1, .long (q + (lN (T i)))), (0, .ref m0), (3, .int (nI i))]) hx hb dX12_over_35 rfl hl (by decide) rfl (fun ls hl => ?_)
          refine lv_iinc (v := nI (i + 1)) (lv' := [(3, .int (nI (i + 1))), (1, .long (q + (lN (T i)))), (0, .ref m0)]) hx hb dX12_over_36 hl (k := 2) rfl (nI_add i 1) (by decide) rfl (fun ls hl => ?_)
          refine lv_goto (tgt := 4) hx hb dX12_over_39 (by decide) ?_
          exact ih4 (i + 1) (q + (lN (T i))) (by omega) (by omega) (ms_t hq9 he) ls (lv_sub hl [2, 1, 0] rfl)
        · skip
          refine lv_lload_n hx hb dX12_over_10 rfl (lv_at hl 1 rfl) ?_
          refine lv_aload_n hx hb dX12_over_11 rfl (lv_at hl 0 rfl) ?_
          refine va_get (D := (dC, dI)) (ci := 14) (v := .ref aS) (C := RX12) (T := TX12) (N := 23) hx hb hts kc_over_0 hown hK hP 0 rfl rfl 1 (by decide) (hts (.fieldLink RX12 9 "MistHeapsModel" "s" "[I") kc_over_1) (fun _ h9 => h9) rfl dX12_over_12 ?_
          refine lv_bipush (v := 37) hx hb dX12_over_15 (by decide) ?_
          refine lv_iload_n hx hb dX12_over_17 rfl (lv_at hl 2 rfl) ?_
          refine lv_iadd hx hb dX12_over_18 ?_
          refine qi_as (y := nI (37 + i)) (nI_add 37 i) ?_
          refine va_iald hx hb hK hP 1 0 rfl rfl (vp_in_nI (n := 37 + i) (N := 901) (by omega) (by omega)) dX12_over_19 ?_
          refine qi_as (y := 0) ((show fS (nI (37 + i) : Int32).toNatClampNeg = fS (37 + i) from by rw [nI_clamp (by omega)]).trans ((hed i (by omega)).trans (by rw [if_neg he]; rfl))) ?_
          refine lv_iconst (v := 1) hx hb dX12_over_20 (by decide) ?_
          refine lv_icmp_ne (tgt := 33) hx hb dX12_over_21 (by decide) (fun _ => ?_) (fun c_3 => absurd c_3 (by decide))
          refine lv_lconst (v := 0) hx hb dX12_over_33 (by decide) ?_
          refine lv_ladd hx hb dX12_over_34 ?_
          refine lv_lstore_n (lv' := [(1, .long (q + 0)), (0, .ref m0), (3, .int (nI i))]) hx hb dX12_over_35 rfl hl (by decide) rfl (fun ls hl => ?_)
          refine lv_iinc (v := nI (i + 1)) (lv' := [(3, .int (nI (i + 1))), (1, .long (q + 0)), (0, .ref m0)]) hx hb dX12_over_36 hl (k := 2) rfl (nI_add i 1) (by decide) rfl (fun ls hl => ?_)
          refine lv_goto (tgt := 4) hx hb dX12_over_39 (by decide) ?_
          exact ih4 (i + 1) (q + 0) (by omega) (by omega) (ms_f0 hq9 he) ls (lv_sub hl [2, 1, 0] rfl)
  exact L4 _ (0) (0) (Nat.lt_succ_self _) (by omega) (rfl) ls (lv_sub hl [2, 1, 0] rfl)

theorem kc_seen_0 : ∀ w ∈ wsX120, w ∈ wsX12_seen := fun w h => List.mem_cons_of_mem _ (gin_wsX120 w h)
theorem kc_seen_1 : (.fieldLink RX12 9 "MistHeapsModel" "s" "[I" : Cond) ∈ wsX12_seen := kc_of 1141 rfl rfl rfl
theorem kc_seen_2 : (.fieldLink RX12 28 "MistHeapsModel" "often" "[J" : Cond) ∈ wsX12_seen := kc_of 1154 rfl rfl rfl
set_option maxHeartbeats 4000000 in
set_option maxRecDepth 100000 in
theorem c_seen (l : Launch) (dC : Nat → ClassId) (dI : Nat → Nat → Nat) (m0 aS aI aB aT aG aO aN aD aY : Nat) (th im ac sp en wg op se dn rn kd nu tv : Int32) (bv : Int64) (cS cB cT cO : ClassId) (fS : Nat → Int32) (fB : Nat → Int32) (fT : Nat → Int32) (fO : Nat → Int64) (h : Nat) (T : Nat → Nat) (ed : Nat → Bool) (cz : List pCla) (sz : Nat) (hh : h ≤ 8) (zh : hol fS cz) (hT : lnA fO T) (hed : ∀ k, k < 36 → fS (37 + k) = nI (if ed k = true then 1 else 0)) : Met l yX12_seen wsX12_seen ({ frames := 3, cells := 0, slots := 0, locals := 77 } : Room) (va_Pc [.ref m0, .int (nI h)] (fun U => U.heap.size = sz ∧ va_P (dC, dI) vwCl [(zo14irriiiiiirriirrrrlriiii m0 th aS aI im ac sp en wg op aB aT se dn aG aO aN aD bv aY rn kd nu tv), (zaI aS cS 901 fS), (zaI aB cB 6 fB), (zaI aT cT 64 fT), (zaL aO cO 36 fO)] U.heap ∧ va_K (dC, dI) vwCl [(cS, .int), (cB, .int), (cT, .boolean), (cO, .long)] U ∧ va_D (fun _ => True) [(zo14irriiiiiirriirrrrlriiii m0 th aS aI im ac sp en wg op aB aT se dn aG aO aN aD bv aY rn kd nu tv), (zaI aS cS 901 fS), (zaI aB cB 6 fB), (zaI aT cT 64 fT), (zaL aO cO 36 fO)])) (va_Ql (fun (r : Int64) (u : (Nat → Int32) × (Nat → Int32) × (Int32) × (Int32)) => match u with | (fB9, fT9, se9, dn9) => r = lN (msN (fun k => ¬ ed k = true ∧ ¬ RR fS cz h < apR (nI k) (fS (28 + h))) T 36)) (fun (u : (Nat → Int32) × (Nat → Int32) × (Int32) × (Int32)) (t : State) => match u with | (fB9, fT9, se9, dn9) => va_P (dC, dI) vwCl [(zo14irriiiiiirriirrrrlriiii m0 th aS aI im ac sp en wg op aB aT se9 dn9 aG aO aN aD bv aY rn kd nu tv), (zaI aS cS 901 fS), (zaI aB cB 6 fB9), (zaI aT cT 64 fT9), (zaL aO cO 36 fO)] t.heap ∧ va_K (dC, dI) vwCl [(cS, .int), (cB, .int), (cT, .boolean), (cO, .long)] t ∧ va_D (va_A [(zo14irriiiiiirriirrrrlriiii m0 th aS aI im ac sp en wg op aB aT se dn aG aO aN aD bv aY rn kd nu tv), (zaI aS cS 901 fS), (zaI aB cB 6 fB), (zaI aT cT 64 fT), (zaL aO cO 36 fO)] sz) [(zo14irriiiiiirriirrrrlriiii m0 th aS aI im ac sp en wg op aB aT se9 dn9 aG aO aN aD bv aY rn kd nu tv), (zaI aS cS 901 fS), (zaI aB cB 6 fB9), (zaI aT cT 64 fT9), (zaL aO cO 36 fO)]) (va_A [(zo14irriiiiiirriirrrrlriiii m0 th aS aI im ac sp en wg op aB aT se dn aG aO aN aD bv aY rn kd nu tv), (zaI aS cS 901 fS), (zaI aB cB 6 fB), (zaI aT cT 64 fT), (zaL aO cO 36 fO)] sz)) 0 0 (va_A [(zo14irriiiiiirriirrrrlriiii m0 th aS aI im ac sp en wg op aB aT se dn aG aO aN aD bv aY rn kd nu tv), (zaI aS cS 901 fS), (zaI aB cB 6 fB), (zaI aT cT 64 fT), (zaL aO cO 36 fO)] sz) := by
  refine met_ofQ (cc := cX12_seen) (maxL := 5) (ret := (some .long)) (by decide) rfl ?_
  intro p e s m args below meth c s₁ Q B hml hv hQ
  obtain ⟨rfl, hsz, hP, hK, hD0⟩ := hv
  have hx := B.exec
  have hb := B.bytes
  have hr := B.returns
  have hts := atoms_spec (ws := wsX12_seen) B.pre
  have hown : s.vm.findClass RX12 = some m.cls := findClass_of_methodNamed B.named
  have hlocks := B.notSynchronized
  subst hsz
  have hD := hD0.self (sz := s.heap.size)
  generalize hAe : va_A [(zo14irriiiiiirriirrrrlriiii m0 th aS aI im ac sp en wg op aB aT se dn aG aO aN aD bv aY rn kd nu tv), (zaI aS cS 901 fS), (zaI aB cB 6 fB), (zaI aT cT 64 fT), (zaL aO cO 36 fO)] s.heap.size = A at hD hQ ⊢
  have hA : ∀ q : Nat, s.heap.size ≤ q → A q := fun q h => by rw [← hAe]; exact Or.inr h
  have hS : va_S A s.heap s.heap [] := va_S.rf
  have hl := lv_entry [.ref m0, .int (nI h)] (n := 5) (Nat.le_of_ble_eq_true rfl)
  rw [lg_entry_eq]
  generalize (lg_sl [.ref m0, .int (nI h)] ++ List.replicate (5 - (lg_sl [.ref m0, .int (nI h)]).length) Slot.unset).toArray = ls at hl ⊢
  generalize hag : ([.ref m0, .int (nI h)] : List Value).toArray = args at hts hQ ⊢
  have hl : lv_has ls 5 [(0, .ref m0), (1, .int (nI h))] := hl
  obtain ⟨H, hH⟩ : ∃ H : Heap, H = s.heap := ⟨_, rfl⟩
  rw [← hH] at hP
  rw [← hH]
  have hS : va_S A s.heap H [] := by rw [hH]; exact hS
  obtain ⟨locs, hlo⟩ : ∃ L : List Loc, L = [] := ⟨_, rfl⟩
  rw [← hlo] at hS
  rw [← hlo]
  clear hH hlo
  refine lv_lconst (v := 0) hx hb dX12_seen_0 (by decide) ?_
  refine lv_lstore_n (lv' := [(2, .long 0), (0, .ref m0), (1, .int (nI h))]) hx hb dX12_seen_1 rfl hl (by decide) rfl (fun ls hl => ?_)
  refine lv_iconst (v := 0) hx hb dX12_seen_2 (by decide) ?_
  refine lv_istore (lv' := [(4, .int 0), (2, .long 0), (0, .ref m0), (1, .int (nI h))]) hx hb dX12_seen_3 hl (by decide) rfl (fun ls hl => ?_)
  have L5 : ∀ (nF : Nat) (i : Nat) (se2 : Int32) (dn2 : Int32) (fB2 : Nat → Int32) (fT2 : Nat → Int32) (q : Int64), 36 - i < nF → (i ≤ 36) → (q = lN (msN (fun k => ¬ ed k = true ∧ ¬ RR fS cz h < apR (nI k) (fS (28 + h))) T i)) → ∀ (H : Heap) (locs : List Loc), va_K (dC, dI) vwCl [(cS, .int), (cB, .int), (cT, .boolean), (cO, .long)] s → va_P (dC, dI) vwCl [(zo14irriiiiiirriirrrrlriiii m0 th aS aI im ac sp en wg op aB aT se2 dn2 aG aO aN aD bv aY rn kd nu tv), (zaI aS cS 901 fS), (zaI aB cB 6 fB2), (zaI aT cT 64 fT2), (zaL aO cO 36 fO)] H → va_D A [(zo14irriiiiiirriirrrrlriiii m0 th aS aI im ac sp en wg op aB aT se2 dn2 aG aO aN aD bv aY rn kd nu tv), (zaI aS cS 901 fS), (zaI aB cB 6 fB2), (zaI aT cT 64 fT2), (zaL aO cO 36 fO)] → va_S A s.heap H locs → ∀ (ls : Array Slot), lv_has ls 5 [(0, .ref m0), (1, .int (nI h)), (2, .long q), (4, .int (nI i))] → W p l e ({ frames := 3, cells := 0, slots := 0, locals := 77 } : Room) s m args below meth c H locs 0 0 Q (F0 m 5 ls []) := by
    intro nF
    induction nF with
    | zero => intro i se2 dn2 fB2 fT2 q hm; exact absurd hm (Nat.not_lt_zero _)
    | succ nF ih5 =>
      intro i se2 dn2 fB2 fT2 q hm hii hq9 H locs hK hP hD hS ls hl
      refine lv_iload hx hb dX12_seen_5 (lv_at hl 3 rfl) ?_
      refine lv_bipush (v := 36) hx hb dX12_seen_7 (by decide) ?_
      refine lv_icmp_ge (tgt := 55) hx hb dX12_seen_9 (by decide) (fun c_1 => ?_) (fun c_1 => ?_)
      · skip
        have c_1 : 36 ≤ i := (nI_leI (a := 36) (b := i) (by omega) (by omega)).mp c_1
        refine lv_lload_n hx hb dX12_seen_55 rfl (lv_at hl 2 rfl) ?_
        rw [hQ]
        have hP9 := hP.sub (ws' := [(zo14irriiiiiirriirrrrlriiii m0 th aS aI im ac sp en wg op aB aT se2 dn2 aG aO aN aD bv aY rn kd nu tv), (zaI aS cS 901 fS), (zaI aB cB 6 fB2), (zaI aT cT 64 fT2), (zaL aO cO 36 fO)]) [0, 1, 2, 3, 4] rfl
        have hD9 := hD.sub (ws' := [(zo14irriiiiiirriirrrrlriiii m0 th aS aI im ac sp en wg op aB aT se2 dn2 aG aO aN aD bv aY rn kd nu tv), (zaI aS cS 901 fS), (zaI aB cB 6 fB2), (zaI aT cT 64 fT2), (zaL aO cO 36 fO)]) [0, 1, 2, 3, 4] (by decide) rfl
        have hK9 := hK.sub (tys' := [(cS, .int), (cB, .int), (cT, .boolean), (cO, .long)]) [0, 1, 2, 3] rfl
        exact W.lret (v := q) hx hb hr (fun tQ htQ hWQ => ⟨⟨q, (fB2, fT2, se2, dn2), rfl, ms_e hq9 (by omega), by rw [htQ]; exact hP9, va_K.moved hWQ.alike hK9, hD9⟩, hS.F htQ⟩) hS.2.2 dX12_seen_56
      · skip
        have c_1 : ¬ 36 ≤ i := fun q => c_1 ((nI_leI (a := 36) (b := i) (by omega) (by omega)).mpr q)
        by_cases he : ed i = true
        · skip
          refine lv_lload_n hx hb dX12_seen_12 rfl (lv_at hl 2 rfl) ?_
          refine lv_aload_n hx hb dX12_seen_13 rfl (lv_at hl 0 rfl) ?_
          refine va_get (D := (dC, dI)) (ci := 14) (v := .ref aS) (C := RX12) (T := TX12) (N := 23) hx hb hts kc_seen_0 hown hK hP 0 rfl rfl 1 (by decide) (hts (.fieldLink RX12 9 "MistHeapsModel" "s" "[I") kc_seen_1) (fun _ h9 => h9) rfl dX12_seen_14 ?_
          refine lv_bipush (v := 37) hx hb dX12_seen_17 (by decide) ?_
          refine lv_iload hx hb dX12_seen_19 (lv_at hl 3 rfl) ?_
          refine lv_iadd hx hb dX12_seen_21 ?_
          refine qi_as (y := nI (37 + i)) (nI_add 37 i) ?_
          refine va_iald hx hb hK hP 1 0 rfl rfl (vp_in_nI (n := 37 + i) (N := 901) (by omega) (by omega)) dX12_seen_22 ?_
          refine qi_as (y := 1) ((show fS (nI (37 + i) : Int32).toNatClampNeg = fS (37 + i) from by rw [nI_clamp (by omega)]).trans ((hed i (by omega)).trans (by rw [if_pos he]; rfl))) ?_
          refine lv_if_ne (tgt := 46) hx hb dX12_seen_23 (by decide) (fun _ => ?_) (fun c_2 => absurd c_2 (by decide))
          refine lv_lconst (v := 0) hx hb dX12_seen_46 (by decide) ?_
          refine lv_ladd hx hb dX12_seen_47 ?_
          refine lv_lstore_n (lv' := [(2, .long (q + 0)), (0, .ref m0), (1, .int (nI h)), (4, .int (nI i))]) hx hb dX12_seen_48 rfl hl (by decide) rfl (fun ls hl => ?_)
          refine lv_iinc (v := nI (i + 1)) (lv' := [(4, .int (nI (i + 1))), (2, .long (q + 0)), (0, .ref m0), (1, .int (nI h))]) hx hb dX12_seen_49 hl (k := 3) rfl (nI_add i 1) (by decide) rfl (fun ls hl => ?_)
          refine lv_goto (tgt := 5) hx hb dX12_seen_52 (by decide) ?_
          exact ih5 (i + 1) _ _ _ _ (q + 0) (by omega) (by omega) (ms_f0 hq9 (fun z9 => z9.1 he)) _ _ (hK.sub [0, 1, 2, 3] rfl) (hP.sub [0, 1, 2, 3, 4] rfl) (hD.sub [0, 1, 2, 3, 4] (by decide) rfl) hS ls (lv_sub hl [2, 3, 1, 0] rfl)
        · skip
          refine lv_lload_n hx hb dX12_seen_12 rfl (lv_at hl 2 rfl) ?_
          refine lv_aload_n hx hb dX12_seen_13 rfl (lv_at hl 0 rfl) ?_
          refine va_get (D := (dC, dI)) (ci := 14) (v := .ref aS) (C := RX12) (T := TX12) (N := 23) hx hb hts kc_seen_0 hown hK hP 0 rfl rfl 1 (by decide) (hts (.fieldLink RX12 9 "MistHeapsModel" "s" "[I") kc_seen_1) (fun _ h9 => h9) rfl dX12_seen_14 ?_
          refine lv_bipush (v := 37) hx hb dX12_seen_17 (by decide) ?_
          refine lv_iload hx hb dX12_seen_19 (lv_at hl 3 rfl) ?_
          refine lv_iadd hx hb dX12_seen_21 ?_
          refine qi_as (y := nI (37 + i)) (nI_add 37 i) ?_
          refine va_iald hx hb hK hP 1 0 rfl rfl (vp_in_nI (n := 37 + i) (N := 901) (by omega) (by omega)) dX12_seen_22 ?_
          refine qi_as (y := 0) ((show fS (nI (37 + i) : Int32).toNatClampNeg = fS (37 + i) from by rw [nI_clamp (by omega)]).trans ((hed i (by omega)).trans (by rw [if_neg he]; rfl))) ?_
          refine lv_if_ne (tgt := 46) hx hb dX12_seen_23 (by decide) (fun c_3 => absurd c_3 (by decide)) (fun _ => ?_)
          refine lv_aload_n hx hb dX12_seen_26 rfl (lv_at hl 0 rfl) ?_
          refine lv_iload_n hx hb dX12_seen_27 rfl (lv_at hl 1 rfl) ?_
          refine lv_iload hx hb dX12_seen_28 (lv_at hl 3 rfl) ?_
          have hPc := hP.sub (ws' := [(zo14irriiiiiirriirrrrlriiii m0 th aS aI im ac sp en wg op aB aT se2 dn2 aG aO aN aD bv aY rn kd nu tv), (zaI aS cS 901 fS), (zaI aB cB 6 fB2), (zaI aT cT 64 fT2)]) [0, 1, 2, 3] rfl
          have hDc := hD.sub (ws' := [(zo14irriiiiiirriirrrrlriiii m0 th aS aI im ac sp en wg op aB aT se2 dn2 aG aO aN aD bv aY rn kd nu tv), (zaI aS cS 901 fS), (zaI aB cB 6 fB2), (zaI aT cT 64 fT2)]) [0, 1, 2, 3] (by decide) rfl
          have hKc := hK.sub (tys' := [(cS, .int), (cB, .int), (cT, .boolean)]) [0, 1, 2] rfl
          have hFc := va_free (wc := [(zo14irriiiiiirriirrrrlriiii m0 th aS aI im ac sp en wg op aB aT se2 dn2 aG aO aN aD bv aY rn kd nu tv), (zaI aS cS 901 fS), (zaI aB cB 6 fB2), (zaI aT cT 64 fT2)]) hD hS hA [0, 1, 2, 3] rfl
          refine va_calli (va_runV (As := [.int (nI h), .int (nI i)]) (rest := [.long q]) ⟨hx, hb, hml, hown, hts⟩ (c_isSeen l dC dI m0 aS aI aB aT aG aO aN aD aY th im ac sp en wg op se2 dn2 rn kd nu tv bv cS cB cT fS fB2 fT2 h (nI i) cz H.size (by omega) (zh)) (cwV 2 hts gX12_seen_X12_isSeen rfl rfl rfl hd_yX12_isSeen ⟨Nat.le_of_ble_eq_true rfl, Nat.le_of_ble_eq_true rfl⟩) ⟨fun a U g mk q => by obtain ⟨q0, q1, qP, qK, qD⟩ := q; exact ⟨q0, mvz g mk a q1, mvP g mk a qP, mvK g mk a qK, qD⟩, va_recv hK hP (ci := 14) (q := (RX12, TX12, 23)) (q0 := 0) rfl rfl, fun U hU hW => ⟨rfl, by rw [hU], by rw [hU]; exact hPc, va_K.moved hW.alike hKc, hDc.weaken (fun _ _ _ _ => trivial)⟩⟩ rfl rfl hl.1 rfl (lv_room (Nat.le_of_ble_eq_true rfl)) dX12_seen_30 ⟨Nat.le_of_ble_eq_true rfl, Nat.le_of_ble_eq_true rfl⟩) hS (fun q _ h => hFc q h) hFc (fun r_4 u tC H1 locs htC hvm hw_5 hB hz1 hk1 hS => ?_)
          obtain ⟨fB9_6, fT9_7, se9_8, dn9_9⟩ := u
          try dsimp only at hw_5 hB
          obtain ⟨hP1, hK1, hD1⟩ := hB
          rw [htC] at hP1
          have hK1 := va_K.moved hvm.symm hK1
          obtain ⟨hP, hD⟩ := va_join (wr := [(zaL aO cO 36 fO)]) (w1 := [(zo14irriiiiiirriirrrrlriiii m0 th aS aI im ac sp en wg op aB aT se9_8 dn9_9 aG aO aN aD bv aY rn kd nu tv), (zaI aS cS 901 fS), (zaI aB cB 6 fB9_6), (zaI aT cT 64 fT9_7)]) hP hD [0, 1, 2, 3] [4] rfl rfl (by decide) (by decide) hk1 hFc hP1 hD1
          have hK := (hK.sub (tys' := [(cO, .long)]) [3] rfl).app hK1
          generalize H1 = H at hP hS ⊢
          have hP : va_P (dC, dI) vwCl [(zaL aO cO 36 fO), (zo14irriiiiiirriirrrrlriiii m0 th aS aI im ac sp en wg op aB aT se9_8 dn9_9 aG aO aN aD bv aY rn kd nu tv), (zaI aS cS 901 fS), (zaI aB cB 6 fB9_6), (zaI aT cT 64 fT9_7)] H := hP
          have hD : va_D A [(zaL aO cO 36 fO), (zo14irriiiiiirriirrrrlriiii m0 th aS aI im ac sp en wg op aB aT se9_8 dn9_9 aG aO aN aD bv aY rn kd nu tv), (zaI aS cS 901 fS), (zaI aB cB 6 fB9_6), (zaI aT cT 64 fT9_7)] := hD
          have hK : va_K (dC, dI) vwCl [(cO, .long), (cS, .int), (cB, .int), (cT, .boolean)] s := hK
          rcases hw_5 with ⟨rfl, hs_10⟩ | ⟨rfl, hs_10⟩
          · skip
            refine lv_if_eq (tgt := 46) hx hb dX12_seen_33 (by decide) (fun c_11 => absurd c_11 (by decide)) (fun _ => ?_)
            refine lv_aload_n hx hb dX12_seen_36 rfl (lv_at hl 0 rfl) ?_
            refine va_get (D := (dC, dI)) (ci := 14) (v := .ref aO) (C := RX12) (T := TX12) (N := 23) hx hb hts kc_seen_0 hown hK hP 1 rfl rfl 14 (by decide) (hts (.fieldLink RX12 28 "MistHeapsModel" "often" "[J") kc_seen_2) (fun _ h9 => h9) rfl dX12_seen_37 ?_
            refine lv_iload hx hb dX12_seen_40 (lv_at hl 3 rfl) ?_
            refine va_lald hx hb hK hP 0 0 rfl rfl (vp_in_nI (n := i) (N := 36) (by omega) (by omega)) dX12_seen_42 ?_
            refine ql_as (y := lN (T i)) ((show fO (nI i : Int32).toNatClampNeg = fO i from by rw [nI_clamp (by omega)]).trans (hT i (by omega))) ?_
            refine lv_goto (tgt := 47) hx hb dX12_seen_43 (by decide) ?_
            refine lv_ladd hx hb dX12_seen_47 ?_
            refine lv_lstore_n (lv' := [(2, .long (q + (lN (T i)))), (0, .ref m0), (1, .int (nI h)), (4, .int (nI i))]) hx hb dX12_seen_48 rfl hl (by decide) rfl (fun ls hl => ?_)
            refine lv_iinc (v := nI (i + 1)) (lv' := [(4, .int (nI (i + 1))), (2, .long (q + (lN (T i)))), (0, .ref m0), (1, .int (nI h))]) hx hb dX12_seen_49 hl (k := 3) rfl (nI_add i 1) (by decide) rfl (fun ls hl => ?_)
            refine lv_goto (tgt := 5) hx hb dX12_seen_52 (by decide) ?_
            exact ih5 (i + 1) _ _ _ _ (q + (lN (T i))) (by omega) (by omega) (ms_t hq9 ⟨he, hs_10⟩) _ _ (hK.sub [1, 2, 3, 0] rfl) (hP.sub [1, 2, 3, 4, 0] rfl) (hD.sub [1, 2, 3, 4, 0] (by decide) rfl) hS ls (lv_sub hl [2, 3, 1, 0] rfl)
          · skip
            refine lv_if_eq (tgt := 46) hx hb dX12_seen_33 (by decide) (fun _ => ?_) (fun c_12 => absurd c_12 (by decide))
            refine lv_lconst (v := 0) hx hb dX12_seen_46 (by decide) ?_
            refine lv_ladd hx hb dX12_seen_47 ?_
            refine lv_lstore_n (lv' := [(2, .long (q + 0)), (0, .ref m0), (1, .int (nI h)), (4, .int (nI i))]) hx hb dX12_seen_48 rfl hl (by decide) rfl (fun ls hl => ?_)
            refine lv_iinc (v := nI (i + 1)) (lv' := [(4, .int (nI (i + 1))), (2, .long (q + 0)), (0, .ref m0), (1, .int (nI h))]) hx hb dX12_seen_49 hl (k := 3) rfl (nI_add i 1) (by decide) rfl (fun ls hl => ?_)
            refine lv_goto (tgt := 5) hx hb dX12_seen_52 (by decide) ?_
            exact ih5 (i + 1) _ _ _ _ (q + 0) (by omega) (by omega) (ms_f0 hq9 (fun z9 => z9.2 hs_10)) _ _ (hK.sub [1, 2, 3, 0] rfl) (hP.sub [1, 2, 3, 4, 0] rfl) (hD.sub [1, 2, 3, 4, 0] (by decide) rfl) hS ls (lv_sub hl [2, 3, 1, 0] rfl)
  exact L5 _ (0) _ _ _ _ (0) (Nat.lt_succ_self _) (by omega) (rfl) _ _ (hK.sub [0, 1, 2, 3] rfl) (hP.sub [0, 1, 2, 3, 4] rfl) (hD.sub [0, 1, 2, 3, 4] (by decide) rfl) hS ls (lv_sub hl [2, 3, 1, 0] rfl)

set_option maxHeartbeats 4000000 in
set_option maxRecDepth 100000 in
theorem c_lowest (l : Launch) (dC : Nat → ClassId) (dI : Nat → Nat → Nat) (a b : Nat) (x : Int32) (zb : 0 < b) (zA : a < 2 ^ 62) (zB : b < 2 ^ 62) : Met l yX12_lowest wsX12_lowest ({ frames := 0, cells := 0, slots := 0, locals := 0 } : Room) (va_Pc [.long (lN a), .long (lN b), .int x] (fun U => True)) (vp_Sl (fun r => r = ptR a b x)) 0 0 (fun _ => False) := by
  refine met_ofQ (cc := cX12_lowest) (maxL := 11) (ret := (some .long)) (by decide) rfl ?_
  intro p e s m args below meth c s₁ Q B hml hv hQ
  obtain ⟨rfl, -⟩ := hv
  have hx := B.exec
  have hb := B.bytes
  have hr := B.returns
  have hts := atoms_spec (ws := wsX12_lowest) B.pre
  have hown : s.vm.findClass RX12 = some m.cls := findClass_of_methodNamed B.named
  have hlocks := B.notSynchronized
  obtain ⟨A, hAe⟩ : ∃ A : Nat → Prop, A = fun _ => False := ⟨_, rfl⟩
  rw [← hAe] at hQ
  have hS : va_S A s.heap s.heap [] := va_S.rf
  have hl := lv_entry [.long (lN a), .long (lN b), .int x] (n := 11) (Nat.le_of_ble_eq_true rfl)
  rw [lg_entry_eq]
  generalize (lg_sl [.long (lN a), .long (lN b), .int x] ++ List.replicate (11 - (lg_sl [.long (lN a), .long (lN b), .int x]).length) Slot.unset).toArray = ls at hl ⊢
  generalize hag : ([.long (lN a), .long (lN b), .int x] : List Value).toArray = args at hts hQ ⊢
  have hl : lv_has ls 11 [(0, .long (lN a)), (2, .long (lN b)), (4, .int x)] := hl
  refine lv_lload_n hx hb dX12_lowest_0 rfl (lv_at hl 0 rfl) ?_
  refine lv_lstore (lv' := [(5, .long (lN a)), (0, .long (lN a)), (2, .long (lN b)), (4, .int x)]) hx hb dX12_lowest_1 hl (by decide) rfl (fun ls hl => ?_)
  refine lv_lload_n hx hb dX12_lowest_3 rfl (lv_at hl 2 rfl) ?_
  refine lv_lstore (lv' := [(7, .long (lN b)), (5, .long (lN a)), (0, .long (lN a)), (2, .long (lN b)), (4, .int x)]) hx hb dX12_lowest_4 hl (by decide) rfl (fun ls hl => ?_)
  have L6 : ∀ (nF : Nat) (a1 : Nat) (b1 : Nat), b1 < nF → (Nat.gcd a1 b1 = Nat.gcd a b) → (a1 < 2 ^ 62) → (b1 < 2 ^ 62) → (b1 = 0 → 0 < a1) → ∀ (ls : Array Slot), lv_has ls 11 [(0, .long (lN a)), (2, .long (lN b)), (4, .int x), (5, .long (lN a1)), (7, .long (lN b1))] → W p l e ({ frames := 0, cells := 0, slots := 0, locals := 0 } : Room) s m args below meth c s.heap [] 0 0 Q (F0 m 6 ls []) := by
    intro nF
    induction nF with
    | zero => intro a1 b1 hm; exact absurd hm (Nat.not_lt_zero _)
    | succ nF ih6 =>
      intro a1 b1 hm hG9 hA9 hB9 hz ls hl
      refine lv_lload hx hb dX12_lowest_6 (lv_at hl 4 rfl) ?_
      refine lv_lconst (v := 0) hx hb dX12_lowest_8 (by decide) ?_
      refine W.lcmp hx hb dX12_lowest_9 ?_
      refine lv_if_eq (tgt := 31) hx hb dX12_lowest_10 (by decide) (fun c_1 => ?_) (fun c_1 => ?_)
      · skip
        have cz9 : b1 = 0 := (tz_eq (by omega)).mp c_1
        refine lv_iload hx hb dX12_lowest_31 (lv_at hl 2 rfl) ?_
        refine lv_if_ne (tgt := 40) hx hb dX12_lowest_33 (by decide) (fun c_2 => ?_) (fun c_2 => ?_)
        · skip
          refine lv_lload_n hx hb dX12_lowest_40 rfl (lv_at hl 1 rfl) ?_
          refine lv_lload hx hb dX12_lowest_41 (lv_at hl 3 rfl) ?_
          refine lv_ldiv hx hb dX12_lowest_43 (fun z9 => absurd ((pk_lEQ (b := 0) (by omega) (by omega)).mp z9) (by have := hz cz9; omega)) ?_
          refine ql_as (y := lN (b / a1)) (pk_lDiv (by omega) (hz cz9) (by omega)) ?_
          rw [hQ]
          exact W.lret (v := lN (b / a1)) hx hb hr (fun tQ htQ hWQ => ⟨lN (b / a1), rfl, pq_1 (by assumption) hG9 cz9, by rw [htQ]⟩) (fun q hq => absurd hq List.not_mem_nil) dX12_lowest_44
        · skip
          refine lv_lload_n hx hb dX12_lowest_36 rfl (lv_at hl 0 rfl) ?_
          refine lv_goto (tgt := 41) hx hb dX12_lowest_37 (by decide) ?_
          refine lv_lload hx hb dX12_lowest_41 (lv_at hl 3 rfl) ?_
          refine lv_ldiv hx hb dX12_lowest_43 (fun z9 => absurd ((pk_lEQ (b := 0) (by omega) (by omega)).mp z9) (by have := hz cz9; omega)) ?_
          refine ql_as (y := lN (a / a1)) (pk_lDiv (by omega) (hz cz9) (by omega)) ?_
          rw [hQ]
          exact W.lret (v := lN (a / a1)) hx hb hr (fun tQ htQ hWQ => ⟨lN (a / a1), rfl, pq_0 (by assumption) hG9 cz9, by rw [htQ]⟩) (fun q hq => absurd hq List.not_mem_nil) dX12_lowest_44
      · skip
        have cz9 : ¬ b1 = 0 := fun z9 => c_1 ((tz_eq (by omega)).mpr z9)
        refine lv_lload hx hb dX12_lowest_13 (lv_at hl 3 rfl) ?_
        refine lv_lload hx hb dX12_lowest_15 (lv_at hl 4 rfl) ?_
        refine lv_lrem hx hb dX12_lowest_17 (fun z9 => cz9 ((pk_lEQ (by omega) (by omega)).mp z9)) ?_
        refine ql_as (y := lN (a1 % b1)) (pk_lRem (by omega) (by omega) (by omega)) ?_
        refine lv_lstore (lv' := [(9, .long (lN (a1 % b1))), (0, .long (lN a)), (2, .long (lN b)), (4, .int x), (5, .long (lN a1)), (7, .long (lN b1))]) hx hb dX12_lowest_18 hl (by decide) rfl (fun ls hl => ?_)
        refine lv_lload hx hb dX12_lowest_20 (lv_at hl 5 rfl) ?_
        refine lv_lstore (lv' := [(5, .long (lN b1)), (9, .long (lN (a1 % b1))), (0, .long (lN a)), (2, .long (lN b)), (4, .int x), (7, .long (lN b1))]) hx hb dX12_lowest_22 hl (by decide) rfl (fun ls hl => ?_)
        refine lv_lload hx hb dX12_lowest_24 (lv_at hl 1 rfl) ?_
        refine lv_lstore (lv' := [(7, .long (lN (a1 % b1))), (5, .long (lN b1)), (9, .long (lN (a1 % b1))), (0, .long (lN a)), (2, .long (lN b)), (4, .int x)]) hx hb dX12_lowest_26 hl (by decide) rfl (fun ls hl => ?_)
        refine lv_goto (tgt := 6) hx hb dX12_lowest_28 (by decide) ?_
        exact ih6 (b1) (a1 % b1) (Nat.lt_of_lt_of_le (Nat.mod_lt _ (by omega)) (by omega)) ((gcd_st cz9).symm.trans hG9) (hB9) (Nat.lt_trans (Nat.mod_lt _ (by omega)) hB9) (fun _ => by omega) ls (lv_sub hl [3, 4, 5, 1, 0] rfl)
  exact L6 _ (a) (b) (Nat.lt_succ_self _) (rfl) (zA) (zB) (fun e => absurd e (by omega)) ls (lv_sub hl [2, 3, 4, 1, 0] rfl)

theorem tw_step : ∀ i : Nat, i < 6 → lN (20 ^ i) * 20 = lN (20 ^ (i + 1)) := by decide +kernel

theorem kc_twenties_0 : (.constantLong RX12 204 (20) : Cond) ∈ wsX12_twenties := kc_of 1429 rfl rfl rfl
set_option maxHeartbeats 4000000 in
set_option maxRecDepth 100000 in
theorem c_twenties (l : Launch) (dC : Nat → ClassId) (dI : Nat → Nat → Nat) (n : Nat) (zn : n ≤ 6) : Met l yX12_twenties wsX12_twenties ({ frames := 0, cells := 0, slots := 0, locals := 0 } : Room) (va_Pc [.int (nI n)] (fun U => True)) (vp_Sl (fun r => r = lN (20 ^ n))) 0 0 (fun _ => False) := by
  refine met_ofQ (cc := cX12_twenties) (maxL := 4) (ret := (some .long)) (by decide) rfl ?_
  intro p e s m args below meth c s₁ Q B hml hv hQ
  obtain ⟨rfl, -⟩ := hv
  have hx := B.exec
  have hb := B.bytes
  have hr := B.returns
  have hts := atoms_spec (ws := wsX12_twenties) B.pre
  have hown : s.vm.findClass RX12 = some m.cls := findClass_of_methodNamed B.named
  have hlocks := B.notSynchronized
  obtain ⟨A, hAe⟩ : ∃ A : Nat → Prop, A = fun _ => False := ⟨_, rfl⟩
  rw [← hAe] at hQ
  have hS : va_S A s.heap s.heap [] := va_S.rf
  have hl := lv_entry [.int (nI n)] (n := 4) (Nat.le_of_ble_eq_true rfl)
  rw [lg_entry_eq]
  generalize (lg_sl [.int (nI n)] ++ List.replicate (4 - (lg_sl [.int (nI n)]).length) Slot.unset).toArray = ls at hl ⊢
  generalize hag : ([.int (nI n)] : List Value).toArray = args at hts hQ ⊢
  have hl : lv_has ls 4 [(0, .int (nI n))] := hl
  refine lv_lconst (v := 1) hx hb dX12_twenties_0 (by decide) ?_
  refine lv_lstore_n (lv' := [(1, .long 1), (0, .int (nI n))]) hx hb dX12_twenties_1 rfl hl (by decide) rfl (fun ls hl => ?_)
  refine lv_iconst (v := 0) hx hb dX12_twenties_2 (by decide) ?_
  refine lv_istore_n (lv' := [(3, .int 0), (1, .long 1), (0, .int (nI n))]) hx hb dX12_twenties_3 rfl hl (by decide) rfl (fun ls hl => ?_)
  have L4 : ∀ (nF : Nat) (i : Nat), n - i < nF → (i ≤ n) → ∀ (ls : Array Slot), lv_has ls 4 [(0, .int (nI n)), (1, .long (lN (20 ^ i))), (3, .int (nI i))] → W p l e ({ frames := 0, cells := 0, slots := 0, locals := 0 } : Room) s m args below meth c s.heap [] 0 0 Q (F0 m 4 ls []) := by
    intro nF
    induction nF with
    | zero => intro i hm; exact absurd hm (Nat.not_lt_zero _)
    | succ nF ih4 =>
      intro i hm hi ls hl
      refine lv_iload_n hx hb dX12_twenties_4 rfl (lv_at hl 2 rfl) ?_
      refine lv_iload_n hx hb dX12_twenties_5 rfl (lv_at hl 0 rfl) ?_
      refine lv_icmp_ge (tgt := 21) hx hb dX12_twenties_6 (by decide) (fun c_1 => ?_) (fun c_1 => ?_)
      · skip
        have c_1 : n ≤ i := (nI_leI (a := n) (b := i) (by omega) (by omega)).mp c_1
        refine lv_lload_n hx hb dX12_twenties_21 rfl (lv_at hl 1 rfl) ?_
        rw [hQ]
        exact W.lret (v := lN (20 ^ i)) hx hb hr (fun tQ htQ hWQ => ⟨lN (20 ^ i), rfl, by rw [show i = n by omega], by rw [htQ]⟩) (fun q hq => absurd hq List.not_mem_nil) dX12_twenties_22
      · skip
        have c_1 : ¬ n ≤ i := fun q => c_1 ((nI_leI (a := n) (b := i) (by omega) (by omega)).mpr q)
        refine lv_lload_n hx hb dX12_twenties_9 rfl (lv_at hl 1 rfl) ?_
        refine lv_ldc2 (v := 20) hx hb hown (hts (.constantLong RX12 204 (20)) kc_twenties_0) dX12_twenties_10 ?_
        refine lv_lmul hx hb dX12_twenties_13 ?_
        refine ql_as (y := lN (20 ^ (i + 1))) (tw_step i (by omega)) ?_
        refine lv_lstore_n (lv' := [(1, .long (lN (20 ^ (i + 1)))), (0, .int (nI n)), (3, .int (nI i))]) hx hb dX12_twenties_14 rfl hl (by decide) rfl (fun ls hl => ?_)
        refine lv_iinc (v := nI (i + 1)) (lv' := [(3, .int (nI (i + 1))), (1, .long (lN (20 ^ (i + 1)))), (0, .int (nI n))]) hx hb dX12_twenties_15 hl (k := 2) rfl (nI_add i 1) (by decide) rfl (fun ls hl => ?_)
        refine lv_goto (tgt := 4) hx hb dX12_twenties_18 (by decide) ?_
        exact ih4 (i + 1) (by omega) (by omega) ls (lv_sub hl [2, 1, 0] rfl)
  exact L4 _ (0) (Nat.lt_succ_self _) (by omega) ls (lv_sub hl [2, 1, 0] rfl)
end mg08
section mg08
theorem ggX12_odds_X12_isCell : GoodIn wsX12_odds wsX12_isCell := gga_of 1304 rfl rfl rfl
theorem gX12_odds_X12_isCell : GoodIn wsX12_odds (va_wsS RX12 149 yX12_isCell wsX12_isCell) := goodIn_app (ggh_of [1302, 1303, 72] rfl rfl rfl) ggX12_odds_X12_isCell
theorem ggX12_odds_X12_in : GoodIn wsX12_odds wsX12_in := gga_of 1217 rfl rfl rfl
theorem gX12_odds_X12_in : GoodIn wsX12_odds (va_wsS RX12 45 yX12_in wsX12_in) := goodIn_app (ggh_of [1215, 1216, 72] rfl rfl rfl) ggX12_odds_X12_in
theorem ggX12_odds_X12_looksForDrifts : GoodIn wsX12_odds wsX12_looksForDrifts := gga_of 1420 rfl rfl rfl
theorem gX12_odds_X12_looksForDrifts : GoodIn wsX12_odds (wsV RX12 209 RX12 yX12_looksForDrifts wsX12_looksForDrifts) := goodIn_app (ggh_of [1417, 1419, 48, 72] rfl rfl rfl) ggX12_odds_X12_looksForDrifts
theorem ggX12_odds_X12_begins : GoodIn wsX12_odds wsX12_begins := gga_of 1424 rfl rfl rfl
theorem gX12_odds_X12_begins : GoodIn wsX12_odds (wsV RX12 212 RX12 yX12_begins wsX12_begins) := goodIn_app (ggh_of [1421, 1423, 49, 72] rfl rfl rfl) ggX12_odds_X12_begins
theorem ggX12_odds_X12_twenties : GoodIn wsX12_odds wsX12_twenties := gga_of 1443 rfl rfl rfl
theorem gX12_odds_X12_twenties : GoodIn wsX12_odds (va_wsS RX12 226 yX12_twenties wsX12_twenties) := goodIn_app (ggh_of [1441, 1442, 72] rfl rfl rfl) ggX12_odds_X12_twenties
theorem ggX12_odds_X12_lowest : GoodIn wsX12_odds wsX12_lowest := gga_of 1446 rfl rfl rfl
theorem gX12_odds_X12_lowest : GoodIn wsX12_odds (va_wsS RX12 229 yX12_lowest wsX12_lowest) := goodIn_app (ggh_of [1444, 1445, 72] rfl rfl rfl) ggX12_odds_X12_lowest
theorem ggX12_odds_X12_goesOn : GoodIn wsX12_odds wsX12_goesOn := gga_of 1428 rfl rfl rfl
theorem gX12_odds_X12_goesOn : GoodIn wsX12_odds (wsV RX12 215 RX12 yX12_goesOn wsX12_goesOn) := goodIn_app (ggh_of [1425, 1427, 50, 72] rfl rfl rfl) ggX12_odds_X12_goesOn
theorem ggX12_odds_X12_over : GoodIn wsX12_odds wsX12_over := gga_of 1440 rfl rfl rfl
theorem gX12_odds_X12_over : GoodIn wsX12_odds (wsV RX12 222 RX12 yX12_over wsX12_over) := goodIn_app (ggh_of [1437, 1439, 52, 72] rfl rfl rfl) ggX12_odds_X12_over
theorem ggX12_odds_X12_isHeap : GoodIn wsX12_odds wsX12_isHeap := gga_of 1320 rfl rfl rfl
theorem gX12_odds_X12_isHeap : GoodIn wsX12_odds (wsV RX12 164 RX12 yX12_isHeap wsX12_isHeap) := goodIn_app (ggh_of [1317, 1319, 37, 72] rfl rfl rfl) ggX12_odds_X12_isHeap
theorem ggX12_odds_X12_seen : GoodIn wsX12_odds wsX12_seen := gga_of 1436 rfl rfl rfl
theorem gX12_odds_X12_seen : GoodIn wsX12_odds (wsV RX12 218 RX12 yX12_seen wsX12_seen) := goodIn_app (ggh_of [1433, 1435, 51, 72] rfl rfl rfl) ggX12_odds_X12_seen
noncomputable def dk09bodds_cX12_odds_0 : List (Nat × List Nat) := [(0, [28]), (1, [16, 50]), (3, [161, 0, 18]), (21, [3]), (22, [54, 4]), (24, [27]), (25, [184, 0, 149]), (28, [153, 0, 30]), (31, [28]), (32, [184, 0, 149]), (35, [154, 0, 14]), (49, [29]), (50, [3]), (51, [4]), (52, [184, 0, 45]), (55, [154, 0, 7]), (62, [42]), (63, [182, 0, 209]), (66, [42]), (67, [27]), (68, [182, 0, 212]), (71, [3]), (72, [54, 5]), (74, [21, 5]), (76, [42]), (77, [180, 0, 9]), (80, [5]), (81, [46]), (82, [162, 0, 23]), (105, [21, 4]), (107, [153, 0, 14]), (121, [28]), (122, [16, 40]), (124, [160, 0, 10]), (134, [42]), (135, [180, 0, 28]), (138, [28]), (139, [47]), (140, [55, 5]), (142, [22, 5])]
set_option maxRecDepth 100000 in
theorem dk09bodds_cX12_odds_0_a : btA cX12_odds dk09bodds_cX12_odds_0 = true := by decide +kernel
theorem dX12_odds_0 : decode cX12_odds 0 = .ok (.iload_n 2, 1) := bd28 (btAt dk09bodds_cX12_odds_0_a 0 rfl)
theorem dX12_odds_1 : decode cX12_odds 1 = .ok (.bipush 50, 2) := bd16 (a := 50) (btAt dk09bodds_cX12_odds_0_a 1 rfl)
theorem dX12_odds_3 : decode cX12_odds 3 = .ok (.if_icmp .lt 18, 3) := bd161 (a := 0) (b := 18) (btAt dk09bodds_cX12_odds_0_a 2 rfl)
theorem dX12_odds_21 : decode cX12_odds 21 = .ok (.iconst 0, 1) := bd3 (btAt dk09bodds_cX12_odds_0_a 3 rfl)
theorem dX12_odds_22 : decode cX12_odds 22 = .ok (.istore 4, 2) := bd54 (a := 4) (btAt dk09bodds_cX12_odds_0_a 4 rfl)
theorem dX12_odds_24 : decode cX12_odds 24 = .ok (.iload_n 1, 1) := bd27 (btAt dk09bodds_cX12_odds_0_a 5 rfl)
theorem dX12_odds_25 : decode cX12_odds 25 = .ok (.invokestatic 149, 3) := bd184 (a := 0) (b := 149) (btAt dk09bodds_cX12_odds_0_a 6 rfl)
theorem dX12_odds_28 : decode cX12_odds 28 = .ok (.ifCond .eq 30, 3) := bd153 (a := 0) (b := 30) (btAt dk09bodds_cX12_odds_0_a 7 rfl)
theorem dX12_odds_31 : decode cX12_odds 31 = .ok (.iload_n 2, 1) := bd28 (btAt dk09bodds_cX12_odds_0_a 8 rfl)
theorem dX12_odds_32 : decode cX12_odds 32 = .ok (.invokestatic 149, 3) := bd184 (a := 0) (b := 149) (btAt dk09bodds_cX12_odds_0_a 9 rfl)
theorem dX12_odds_35 : decode cX12_odds 35 = .ok (.ifCond .ne 14, 3) := bd154 (a := 0) (b := 14) (btAt dk09bodds_cX12_odds_0_a 10 rfl)
theorem dX12_odds_49 : decode cX12_odds 49 = .ok (.iload_n 3, 1) := bd29 (btAt dk09bodds_cX12_odds_0_a 11 rfl)
theorem dX12_odds_50 : decode cX12_odds 50 = .ok (.iconst 0, 1) := bd3 (btAt dk09bodds_cX12_odds_0_a 12 rfl)
theorem dX12_odds_51 : decode cX12_odds 51 = .ok (.iconst 1, 1) := bd4 (btAt dk09bodds_cX12_odds_0_a 13 rfl)
theorem dX12_odds_52 : decode cX12_odds 52 = .ok (.invokestatic 45, 3) := bd184 (a := 0) (b := 45) (btAt dk09bodds_cX12_odds_0_a 14 rfl)
theorem dX12_odds_55 : decode cX12_odds 55 = .ok (.ifCond .ne 7, 3) := bd154 (a := 0) (b := 7) (btAt dk09bodds_cX12_odds_0_a 15 rfl)
theorem dX12_odds_62 : decode cX12_odds 62 = .ok (.aload_n 0, 1) := bd42 (btAt dk09bodds_cX12_odds_0_a 16 rfl)
theorem dX12_odds_63 : decode cX12_odds 63 = .ok (.invokevirtual 209, 3) := bd182 (a := 0) (b := 209) (btAt dk09bodds_cX12_odds_0_a 17 rfl)
theorem dX12_odds_66 : decode cX12_odds 66 = .ok (.aload_n 0, 1) := bd42 (btAt dk09bodds_cX12_odds_0_a 18 rfl)
theorem dX12_odds_67 : decode cX12_odds 67 = .ok (.iload_n 1, 1) := bd27 (btAt dk09bodds_cX12_odds_0_a 19 rfl)
theorem dX12_odds_68 : decode cX12_odds 68 = .ok (.invokevirtual 212, 3) := bd182 (a := 0) (b := 212) (btAt dk09bodds_cX12_odds_0_a 20 rfl)
theorem dX12_odds_71 : decode cX12_odds 71 = .ok (.iconst 0, 1) := bd3 (btAt dk09bodds_cX12_odds_0_a 21 rfl)
theorem dX12_odds_72 : decode cX12_odds 72 = .ok (.istore 5, 2) := bd54 (a := 5) (btAt dk09bodds_cX12_odds_0_a 22 rfl)
theorem dX12_odds_74 : decode cX12_odds 74 = .ok (.iload 5, 2) := bd21 (a := 5) (btAt dk09bodds_cX12_odds_0_a 23 rfl)
theorem dX12_odds_76 : decode cX12_odds 76 = .ok (.aload_n 0, 1) := bd42 (btAt dk09bodds_cX12_odds_0_a 24 rfl)
theorem dX12_odds_77 : decode cX12_odds 77 = .ok (.getfield 9, 3) := bd180 (a := 0) (b := 9) (btAt dk09bodds_cX12_odds_0_a 25 rfl)
theorem dX12_odds_80 : decode cX12_odds 80 = .ok (.iconst 2, 1) := bd5 (btAt dk09bodds_cX12_odds_0_a 26 rfl)
theorem dX12_odds_81 : decode cX12_odds 81 = .ok (.iaload, 1) := bd46 (btAt dk09bodds_cX12_odds_0_a 27 rfl)
theorem dX12_odds_82 : decode cX12_odds 82 = .ok (.if_icmp .ge 23, 3) := bd162 (a := 0) (b := 23) (btAt dk09bodds_cX12_odds_0_a 28 rfl)
theorem dX12_odds_105 : decode cX12_odds 105 = .ok (.iload 4, 2) := bd21 (a := 4) (btAt dk09bodds_cX12_odds_0_a 29 rfl)
theorem dX12_odds_107 : decode cX12_odds 107 = .ok (.ifCond .eq 14, 3) := bd153 (a := 0) (b := 14) (btAt dk09bodds_cX12_odds_0_a 30 rfl)
theorem dX12_odds_121 : decode cX12_odds 121 = .ok (.iload_n 2, 1) := bd28 (btAt dk09bodds_cX12_odds_0_a 31 rfl)
theorem dX12_odds_122 : decode cX12_odds 122 = .ok (.bipush 40, 2) := bd16 (a := 40) (btAt dk09bodds_cX12_odds_0_a 32 rfl)
theorem dX12_odds_124 : decode cX12_odds 124 = .ok (.if_icmp .ne 10, 3) := bd160 (a := 0) (b := 10) (btAt dk09bodds_cX12_odds_0_a 33 rfl)
theorem dX12_odds_134 : decode cX12_odds 134 = .ok (.aload_n 0, 1) := bd42 (btAt dk09bodds_cX12_odds_0_a 34 rfl)
theorem dX12_odds_135 : decode cX12_odds 135 = .ok (.getfield 28, 3) := bd180 (a := 0) (b := 28) (btAt dk09bodds_cX12_odds_0_a 35 rfl)
theorem dX12_odds_138 : decode cX12_odds 138 = .ok (.iload_n 2, 1) := bd28 (btAt dk09bodds_cX12_odds_0_a 36 rfl)
theorem dX12_odds_139 : decode cX12_odds 139 = .ok (.laload, 1) := bd47 (btAt dk09bodds_cX12_odds_0_a 37 rfl)
theorem dX12_odds_140 : decode cX12_odds 140 = .ok (.lstore 5, 2) := bd55 (a := 5) (btAt dk09bodds_cX12_odds_0_a 38 rfl)
theorem dX12_odds_142 : decode cX12_odds 142 = .ok (.lload 5, 2) := bd22 (a := 5) (btAt dk09bodds_cX12_odds_0_a 39 rfl)
noncomputable def dk09bodds_cX12_odds_40 : List (Nat × List Nat) := [(6, [42]), (7, [28]), (8, [16, 50]), (10, [100]), (11, [182, 0, 164]), (14, [153, 0, 7]), (17, [4]), (18, [167, 0, 4]), (38, [28]), (39, [16, 40]), (41, [159, 0, 8]), (44, [21, 4]), (46, [153, 0, 12]), (58, [20, 0, 181]), (61, [173]), (85, [42]), (86, [42]), (87, [180, 0, 9]), (90, [16, 73]), (92, [21, 5]), (94, [96]), (95, [46]), (96, [182, 0, 215]), (99, [132, 5, 1]), (102, [167, 255, 228]), (110, [42]), (111, [28]), (112, [16, 50]), (114, [100]), (127, [42]), (128, [182, 0, 222]), (131, [167, 0, 9]), (144, [42]), (145, [180, 0, 9]), (148, [5]), (149, [46]), (150, [184, 0, 226]), (153, [29]), (154, [184, 0, 229]), (157, [173])]
set_option maxRecDepth 100000 in
theorem dk09bodds_cX12_odds_40_a : btA cX12_odds dk09bodds_cX12_odds_40 = true := by decide +kernel
theorem dX12_odds_6 : decode cX12_odds 6 = .ok (.aload_n 0, 1) := bd42 (btAt dk09bodds_cX12_odds_40_a 0 rfl)
theorem dX12_odds_7 : decode cX12_odds 7 = .ok (.iload_n 2, 1) := bd28 (btAt dk09bodds_cX12_odds_40_a 1 rfl)
theorem dX12_odds_8 : decode cX12_odds 8 = .ok (.bipush 50, 2) := bd16 (a := 50) (btAt dk09bodds_cX12_odds_40_a 2 rfl)
theorem dX12_odds_10 : decode cX12_odds 10 = .ok (.isub, 1) := bd100 (btAt dk09bodds_cX12_odds_40_a 3 rfl)
theorem dX12_odds_11 : decode cX12_odds 11 = .ok (.invokevirtual 164, 3) := bd182 (a := 0) (b := 164) (btAt dk09bodds_cX12_odds_40_a 4 rfl)
theorem dX12_odds_14 : decode cX12_odds 14 = .ok (.ifCond .eq 7, 3) := bd153 (a := 0) (b := 7) (btAt dk09bodds_cX12_odds_40_a 5 rfl)
theorem dX12_odds_17 : decode cX12_odds 17 = .ok (.iconst 1, 1) := bd4 (btAt dk09bodds_cX12_odds_40_a 6 rfl)
theorem dX12_odds_18 : decode cX12_odds 18 = .ok (.goto 4, 3) := bd167 (a := 0) (b := 4) (btAt dk09bodds_cX12_odds_40_a 7 rfl)
theorem dX12_odds_38 : decode cX12_odds 38 = .ok (.iload_n 2, 1) := bd28 (btAt dk09bodds_cX12_odds_40_a 8 rfl)
theorem dX12_odds_39 : decode cX12_odds 39 = .ok (.bipush 40, 2) := bd16 (a := 40) (btAt dk09bodds_cX12_odds_40_a 9 rfl)
theorem dX12_odds_41 : decode cX12_odds 41 = .ok (.if_icmp .eq 8, 3) := bd159 (a := 0) (b := 8) (btAt dk09bodds_cX12_odds_40_a 10 rfl)
theorem dX12_odds_44 : decode cX12_odds 44 = .ok (.iload 4, 2) := bd21 (a := 4) (btAt dk09bodds_cX12_odds_40_a 11 rfl)
theorem dX12_odds_46 : decode cX12_odds 46 = .ok (.ifCond .eq 12, 3) := bd153 (a := 0) (b := 12) (btAt dk09bodds_cX12_odds_40_a 12 rfl)
theorem dX12_odds_58 : decode cX12_odds 58 = .ok (.ldc2_w 181, 3) := bd20 (a := 0) (b := 181) (btAt dk09bodds_cX12_odds_40_a 13 rfl)
theorem dX12_odds_61 : decode cX12_odds 61 = .ok (.lreturn, 1) := bd173 (btAt dk09bodds_cX12_odds_40_a 14 rfl)
theorem dX12_odds_85 : decode cX12_odds 85 = .ok (.aload_n 0, 1) := bd42 (btAt dk09bodds_cX12_odds_40_a 15 rfl)
theorem dX12_odds_86 : decode cX12_odds 86 = .ok (.aload_n 0, 1) := bd42 (btAt dk09bodds_cX12_odds_40_a 16 rfl)
theorem dX12_odds_87 : decode cX12_odds 87 = .ok (.getfield 9, 3) := bd180 (a := 0) (b := 9) (btAt dk09bodds_cX12_odds_40_a 17 rfl)
theorem dX12_odds_90 : decode cX12_odds 90 = .ok (.bipush 73, 2) := bd16 (a := 73) (btAt dk09bodds_cX12_odds_40_a 18 rfl)
theorem dX12_odds_92 : decode cX12_odds 92 = .ok (.iload 5, 2) := bd21 (a := 5) (btAt dk09bodds_cX12_odds_40_a 19 rfl)
theorem dX12_odds_94 : decode cX12_odds 94 = .ok (.iadd, 1) := bd96 (btAt dk09bodds_cX12_odds_40_a 20 rfl)
theorem dX12_odds_95 : decode cX12_odds 95 = .ok (.iaload, 1) := bd46 (btAt dk09bodds_cX12_odds_40_a 21 rfl)
theorem dX12_odds_96 : decode cX12_odds 96 = .ok (.invokevirtual 215, 3) := bd182 (a := 0) (b := 215) (btAt dk09bodds_cX12_odds_40_a 22 rfl)
theorem dX12_odds_99 : decode cX12_odds 99 = .ok (.iinc 5 1, 3) := bd132 (a := 5) (b := 1) (btAt dk09bodds_cX12_odds_40_a 23 rfl)
theorem dX12_odds_102 : decode cX12_odds 102 = .ok (.goto (-28), 3) := bd167 (a := 255) (b := 228) (btAt dk09bodds_cX12_odds_40_a 24 rfl)
theorem dX12_odds_110 : decode cX12_odds 110 = .ok (.aload_n 0, 1) := bd42 (btAt dk09bodds_cX12_odds_40_a 25 rfl)
theorem dX12_odds_111 : decode cX12_odds 111 = .ok (.iload_n 2, 1) := bd28 (btAt dk09bodds_cX12_odds_40_a 26 rfl)
theorem dX12_odds_112 : decode cX12_odds 112 = .ok (.bipush 50, 2) := bd16 (a := 50) (btAt dk09bodds_cX12_odds_40_a 27 rfl)
theorem dX12_odds_114 : decode cX12_odds 114 = .ok (.isub, 1) := bd100 (btAt dk09bodds_cX12_odds_40_a 28 rfl)
theorem dX12_odds_127 : decode cX12_odds 127 = .ok (.aload_n 0, 1) := bd42 (btAt dk09bodds_cX12_odds_40_a 29 rfl)
theorem dX12_odds_128 : decode cX12_odds 128 = .ok (.invokevirtual 222, 3) := bd182 (a := 0) (b := 222) (btAt dk09bodds_cX12_odds_40_a 30 rfl)
theorem dX12_odds_131 : decode cX12_odds 131 = .ok (.goto 9, 3) := bd167 (a := 0) (b := 9) (btAt dk09bodds_cX12_odds_40_a 31 rfl)
theorem dX12_odds_144 : decode cX12_odds 144 = .ok (.aload_n 0, 1) := bd42 (btAt dk09bodds_cX12_odds_40_a 32 rfl)
theorem dX12_odds_145 : decode cX12_odds 145 = .ok (.getfield 9, 3) := bd180 (a := 0) (b := 9) (btAt dk09bodds_cX12_odds_40_a 33 rfl)
theorem dX12_odds_148 : decode cX12_odds 148 = .ok (.iconst 2, 1) := bd5 (btAt dk09bodds_cX12_odds_40_a 34 rfl)
theorem dX12_odds_149 : decode cX12_odds 149 = .ok (.iaload, 1) := bd46 (btAt dk09bodds_cX12_odds_40_a 35 rfl)
theorem dX12_odds_150 : decode cX12_odds 150 = .ok (.invokestatic 226, 3) := bd184 (a := 0) (b := 226) (btAt dk09bodds_cX12_odds_40_a 36 rfl)
theorem dX12_odds_153 : decode cX12_odds 153 = .ok (.iload_n 3, 1) := bd29 (btAt dk09bodds_cX12_odds_40_a 37 rfl)
theorem dX12_odds_154 : decode cX12_odds 154 = .ok (.invokestatic 229, 3) := bd184 (a := 0) (b := 229) (btAt dk09bodds_cX12_odds_40_a 38 rfl)
theorem dX12_odds_157 : decode cX12_odds 157 = .ok (.lreturn, 1) := bd173 (btAt dk09bodds_cX12_odds_40_a 39 rfl)
noncomputable def dk09bodds_cX12_odds_80 : List (Nat × List Nat) := [(115, [182, 0, 218]), (118, [167, 0, 22])]
set_option maxRecDepth 100000 in
theorem dk09bodds_cX12_odds_80_a : btA cX12_odds dk09bodds_cX12_odds_80 = true := by decide +kernel
theorem dX12_odds_115 : decode cX12_odds 115 = .ok (.invokevirtual 218, 3) := bd182 (a := 0) (b := 218) (btAt dk09bodds_cX12_odds_80_a 0 rfl)
theorem dX12_odds_118 : decode cX12_odds 118 = .ok (.goto 22, 3) := bd167 (a := 0) (b := 22) (btAt dk09bodds_cX12_odds_80_a 1 rfl)
theorem kc_mOdds_0 : ∀ w ∈ wsX120, w ∈ wsX12_odds := fun w h => List.mem_cons_of_mem _ (gin_wsX120 w h)
theorem kc_mOdds_1 : (.fieldLink RX12 9 "MistHeapsModel" "s" "[I" : Cond) ∈ wsX12_odds := kc_of 1141 rfl rfl rfl
theorem kc_mOdds_2 : (.fieldLink RX12 28 "MistHeapsModel" "often" "[J" : Cond) ∈ wsX12_odds := kc_of 1154 rfl rfl rfl
theorem kc_mOdds_3 : (.constantLong RX12 181 (-9223372036854775808) : Cond) ∈ wsX12_odds := kc_of 1351 rfl rfl rfl
set_option maxHeartbeats 4000000 in
set_option maxRecDepth 100000 in
theorem c_mOdds (l : Launch) (dC : Nat → ClassId) (dI : Nat → Nat → Nat) (m0 aS aI aB aT aG aO aN aD aY : Nat) (th im ac sp en wg op se dn rn kd nu tv : Int32) (bv : Int64) (cS cB cT cO cN cD : ClassId) (fS : Nat → Int32) (fB : Nat → Int32) (fT : Nat → Int32) (fO : Nat → Int64) (fN : Nat → Int64) (fD : Nat → Int32) (n wk : Nat) (yk yv yc : Nat → Int32) (mi sn : Int32) (ee : Nat) (wy : Nat → Nat) (x y z : Int32) (cz : List pCla) (sz : Nat) (zn : fS 0 = nI n) (hn : n ≤ 8) (zh : hol fS cz) (zkd : ∀ k, k < n → fS (10 + k) = yk k) (zvv : ∀ k, k < n → fS (19 + k) = yv k) (zc : ∀ k, k < n → fS (28 + k) = yc k) (zmi : fS 6 = mi) (zsn : fS 7 = sn) (zw : fS 2 = nI wk) (hw6 : wk ≤ 6) (zwy : ∀ k, k < wk → fS (73 + k) = nI (wy k)) (hwy : ∀ k, wy k < 8) (zee : ∀ k, k < 36 → fS (37 + k) = nI (ee / 2 ^ k % 2)) : Met l yX12_odds wsX12_odds ({ frames := 4, cells := 0, slots := 0, locals := 101 } : Room) (va_Pc [.ref m0, .int x, .int y, .int z] (fun U => U.heap.size = sz ∧ va_P (dC, dI) vwCl [(zo14irriiiiiirriirrrrlriiii m0 th aS aI im ac sp en wg op aB aT se dn aG aO aN aD bv aY rn kd nu tv), (zaI aS cS 901 fS), (zaI aB cB 6 fB), (zaI aT cT 64 fT), (zaL aO cO 36 fO), (zaL aN cN 36 fN), (zaI aD cD 36 fD)] U.heap ∧ va_K (dC, dI) vwCl [(cS, .int), (cB, .int), (cT, .boolean), (cO, .long), (cN, .long), (cD, .int)] U ∧ va_D (fun _ => True) [(zo14irriiiiiirriirrrrlriiii m0 th aS aI im ac sp en wg op aB aT se dn aG aO aN aD bv aY rn kd nu tv), (zaI aS cS 901 fS), (zaI aB cB 6 fB), (zaI aT cT 64 fT), (zaL aO cO 36 fO), (zaL aN cN 36 fN), (zaI aD cD 36 fD)])) (va_Ql (fun (r : Int64) (u : (Nat → Int32) × (Nat → Int32) × (Int32) × (Int32) × (Nat → Int32) × (Nat → Int64) × (Nat → Int64)) => match u with | (fB9, fT9, se9, dn9, fD9, fO9, fN9) => r = odR n yk yv yc cz mi sn ee wk wy x y z) (fun (u : (Nat → Int32) × (Nat → Int32) × (Int32) × (Int32) × (Nat → Int32) × (Nat → Int64) × (Nat → Int64)) (t : State) => match u with | (fB9, fT9, se9, dn9, fD9, fO9, fN9) => va_P (dC, dI) vwCl [(zo14irriiiiiirriirrrrlriiii m0 th aS aI im ac sp en wg op aB aT se9 dn9 aG aO aN aD bv aY rn kd nu tv), (zaI aS cS 901 fS), (zaI aB cB 6 fB9), (zaI aT cT 64 fT9), (zaL aO cO 36 fO9), (zaL aN cN 36 fN9), (zaI aD cD 36 fD9)] t.heap ∧ va_K (dC, dI) vwCl [(cS, .int), (cB, .int), (cT, .boolean), (cO, .long), (cN, .long), (cD, .int)] t ∧ va_D (va_A [(zo14irriiiiiirriirrrrlriiii m0 th aS aI im ac sp en wg op aB aT se dn aG aO aN aD bv aY rn kd nu tv), (zaI aS cS 901 fS), (zaI aB cB 6 fB), (zaI aT cT 64 fT), (zaL aO cO 36 fO), (zaL aN cN 36 fN), (zaI aD cD 36 fD)] sz) [(zo14irriiiiiirriirrrrlriiii m0 th aS aI im ac sp en wg op aB aT se9 dn9 aG aO aN aD bv aY rn kd nu tv), (zaI aS cS 901 fS), (zaI aB cB 6 fB9), (zaI aT cT 64 fT9), (zaL aO cO 36 fO9), (zaL aN cN 36 fN9), (zaI aD cD 36 fD9)]) (va_A [(zo14irriiiiiirriirrrrlriiii m0 th aS aI im ac sp en wg op aB aT se dn aG aO aN aD bv aY rn kd nu tv), (zaI aS cS 901 fS), (zaI aB cB 6 fB), (zaI aT cT 64 fT), (zaL aO cO 36 fO), (zaL aN cN 36 fN), (zaI aD cD 36 fD)] sz)) 0 0 (va_A [(zo14irriiiiiirriirrrrlriiii m0 th aS aI im ac sp en wg op aB aT se dn aG aO aN aD bv aY rn kd nu tv), (zaI aS cS 901 fS), (zaI aB cB 6 fB), (zaI aT cT 64 fT), (zaL aO cO 36 fO), (zaL aN cN 36 fN), (zaI aD cD 36 fD)] sz) := by
  refine met_ofQ (cc := cX12_odds) (maxL := 7) (ret := (some .long)) (by decide) rfl ?_
  intro p e s m args below meth c s₁ Q B hml hv hQ
  obtain ⟨rfl, hsz, hP, hK, hD0⟩ := hv
  have hx := B.exec
  have hb := B.bytes
  have hr := B.returns
  have hts := atoms_spec (ws := wsX12_odds) B.pre
  have hown : s.vm.findClass RX12 = some m.cls := findClass_of_methodNamed B.named
  have hlocks := B.notSynchronized
  subst hsz
  have hD := hD0.self (sz := s.heap.size)
  generalize hAe : va_A [(zo14irriiiiiirriirrrrlriiii m0 th aS aI im ac sp en wg op aB aT se dn aG aO aN aD bv aY rn kd nu tv), (zaI aS cS 901 fS), (zaI aB cB 6 fB), (zaI aT cT 64 fT), (zaL aO cO 36 fO), (zaL aN cN 36 fN), (zaI aD cD 36 fD)] s.heap.size = A at hD hQ ⊢
  have hA : ∀ q : Nat, s.heap.size ≤ q → A q := fun q h => by rw [← hAe]; exact Or.inr h
  have hS : va_S A s.heap s.heap [] := va_S.rf
  have hl := lv_entry [.ref m0, .int x, .int y, .int z] (n := 7) (Nat.le_of_ble_eq_true rfl)
  rw [lg_entry_eq]
  generalize (lg_sl [.ref m0, .int x, .int y, .int z] ++ List.replicate (7 - (lg_sl [.ref m0, .int x, .int y, .int z]).length) Slot.unset).toArray = ls at hl ⊢
  generalize hag : ([.ref m0, .int x, .int y, .int z] : List Value).toArray = args at hts hQ ⊢
  have hl : lv_has ls 7 [(0, .ref m0), (1, .int x), (2, .int y), (3, .int z)] := hl
  obtain ⟨H, hH⟩ : ∃ H : Heap, H = s.heap := ⟨_, rfl⟩
  rw [← hH] at hP
  rw [← hH]
  have hS : va_S A s.heap H [] := by rw [hH]; exact hS
  obtain ⟨locs, hlo⟩ : ∃ L : List Loc, L = [] := ⟨_, rfl⟩
  rw [← hlo] at hS
  rw [← hlo]
  clear hH hlo
  refine lv_iload_n hx hb dX12_odds_0 rfl (lv_at hl 2 rfl) ?_
  refine lv_bipush (v := 50) hx hb dX12_odds_1 (by decide) ?_
  refine lv_icmp_lt (tgt := 21) hx hb dX12_odds_3 (by decide) (fun c_1 => ?_) (fun c_1 => ?_)
  · skip
    refine lv_iconst (v := 0) hx hb dX12_odds_21 (by decide) ?_
    refine lv_istore (lv' := [(4, .int 0), (0, .ref m0), (1, .int x), (2, .int y), (3, .int z)]) hx hb dX12_odds_22 hl (by decide) rfl (fun ls hl => ?_)
    refine lv_iload_n hx hb dX12_odds_24 rfl (lv_at hl 2 rfl) ?_
    refine vp_callSi (va_runS (As := [.int x]) (rest := []) ⟨hx, hb, hml, hown, hts⟩ (c_mCell l dC dI x) (va_cwS 1 hts gX12_odds_X12_isCell rfl rfl rfl hd_yX12_isCell.2 ⟨Nat.le_of_ble_eq_true rfl, Nat.le_of_ble_eq_true rfl⟩) ⟨fun a U g mk q => ⟨q.1, trivial⟩, fun U hU hW => ⟨rfl, trivial⟩⟩ rfl rfl hl.1 rfl (lv_room (Nat.le_of_ble_eq_true rfl)) dX12_odds_25 ⟨Nat.le_of_ble_eq_true rfl, Nat.le_of_ble_eq_true rfl⟩).run (fun r_2 hw_3 => ?_)
    rcases hw_3 with ⟨rfl, h_4, h_5⟩ | ⟨rfl, h_6⟩
    · skip
      obtain ⟨j_7, hj_8, rfl⟩ := nI_of2 (n := 35) (M := 35) rfl h_4 (Int32.not_lt.mp h_5)
      refine lv_if_eq (tgt := 58) hx hb dX12_odds_28 (by decide) (fun c_9 => absurd c_9 (by decide)) (fun _ => ?_)
      refine lv_iload_n hx hb dX12_odds_31 rfl (lv_at hl 3 rfl) ?_
      refine vp_callSi (va_runS (As := [.int y]) (rest := []) ⟨hx, hb, hml, hown, hts⟩ (c_mCell l dC dI y) (va_cwS 1 hts gX12_odds_X12_isCell rfl rfl rfl hd_yX12_isCell.2 ⟨Nat.le_of_ble_eq_true rfl, Nat.le_of_ble_eq_true rfl⟩) ⟨fun a U g mk q => ⟨q.1, trivial⟩, fun U hU hW => ⟨rfl, trivial⟩⟩ rfl rfl hl.1 rfl (lv_room (Nat.le_of_ble_eq_true rfl)) dX12_odds_32 ⟨Nat.le_of_ble_eq_true rfl, Nat.le_of_ble_eq_true rfl⟩).run (fun r_10 hw_11 => ?_)
      rcases hw_11 with ⟨rfl, h_12, h_13⟩ | ⟨rfl, h_14⟩
      · skip
        obtain ⟨j_15, hj_16, rfl⟩ := nI_of2 (n := 35) (M := 35) rfl h_12 (Int32.not_lt.mp h_13)
        refine lv_if_ne (tgt := 49) hx hb dX12_odds_35 (by decide) (fun _ => ?_) (fun c_17 => absurd c_17 (by decide))
        refine lv_iload_n hx hb dX12_odds_49 rfl (lv_at hl 4 rfl) ?_
        refine lv_iconst (v := 0) hx hb dX12_odds_50 (by decide) ?_
        refine lv_iconst (v := 1) hx hb dX12_odds_51 (by decide) ?_
        refine vp_callSi (va_runS (As := [.int z, .int 0, .int 1]) (rest := []) ⟨hx, hb, hml, hown, hts⟩ (c_in l dC dI z 0 1) (va_cwS 3 hts gX12_odds_X12_in rfl rfl rfl hd_yX12_in.2 ⟨Nat.le_of_ble_eq_true rfl, Nat.le_of_ble_eq_true rfl⟩) ⟨fun a U g mk q => ⟨q.1, trivial⟩, fun U hU hW => ⟨rfl, trivial⟩⟩ rfl rfl hl.1 rfl (lv_room (Nat.le_of_ble_eq_true rfl)) dX12_odds_52 ⟨Nat.le_of_ble_eq_true rfl, Nat.le_of_ble_eq_true rfl⟩).run (fun r_18 hw_19 => ?_)
        rcases hw_19 with ⟨rfl, h_20, h_21⟩ | ⟨rfl, h_22⟩
        · skip
          refine lv_if_ne (tgt := 62) hx hb dX12_odds_55 (by decide) (fun _ => ?_) (fun c_23 => absurd c_23 (by decide))
          have hw3 := hol_w3 zh
          have hd5 : ∀ c, c < 36 → drN cz mi sn c ≤ 5 := fun c _ => (dr_ok hw3.1 hw3.2 c).2
          have hed := ed_m zee
          obtain ⟨T9, hT9⟩ : ∃ T : Nat → Nat → Nat, T = tmN (edB ee) (drN cz mi sn) wy j_7 := ⟨_, rfl⟩
          have hTB := od_b (show j_7 < 36 by omega) hd5 hwy hT9
          refine lv_aload_n hx hb dX12_odds_62 rfl (lv_at hl 1 rfl) ?_
          have hPc := hP.sub (ws' := [(zo14irriiiiiirriirrrrlriiii m0 th aS aI im ac sp en wg op aB aT se dn aG aO aN aD bv aY rn kd nu tv), (zaI aS cS 901 fS), (zaI aB cB 6 fB), (zaI aT cT 64 fT), (zaI aD cD 36 fD)]) [0, 1, 2, 3, 6] rfl
          have hDc := hD.sub (ws' := [(zo14irriiiiiirriirrrrlriiii m0 th aS aI im ac sp en wg op aB aT se dn aG aO aN aD bv aY rn kd nu tv), (zaI aS cS 901 fS), (zaI aB cB 6 fB), (zaI aT cT 64 fT), (zaI aD cD 36 fD)]) [0, 1, 2, 3, 6] (by decide) rfl
          have hKc := hK.sub (tys' := [(cS, .int), (cB, .int), (cT, .boolean), (cD, .int)]) [0, 1, 2, 5] rfl
          have hFc := va_free (wc := [(zo14irriiiiiirriirrrrlriiii m0 th aS aI im ac sp en wg op aB aT se dn aG aO aN aD bv aY rn kd nu tv), (zaI aS cS 901 fS), (zaI aB cB 6 fB), (zaI aT cT 64 fT), (zaI aD cD 36 fD)]) hD hS hA [0, 1, 2, 3, 6] rfl
          refine va_callv (va_runV (As := []) (rest := []) ⟨hx, hb, hml, hown, hts⟩ (c_lookDrifts l dC dI m0 aS aI aB aT aG aO aN aD aY th im ac sp en wg op se dn rn kd nu tv bv cS cB cT cD fS fB fT fD cz H.size (zh)) (cwV 0 hts gX12_odds_X12_looksForDrifts rfl rfl rfl hd_yX12_looksForDrifts ⟨Nat.le_of_ble_eq_true rfl, Nat.le_of_ble_eq_true rfl⟩) ⟨fun a U g mk q => by obtain ⟨q0, q1, qP, qK, qD⟩ := q; exact ⟨q0, mvz g mk a q1, mvP g mk a qP, mvK g mk a qK, qD⟩, va_recv hK hP (ci := 14) (q := (RX12, TX12, 23)) (q0 := 0) rfl rfl, fun U hU hW => ⟨rfl, by rw [hU], by rw [hU]; exact hPc, va_K.moved hW.alike hKc, hDc.weaken (fun _ _ _ _ => trivial)⟩⟩ rfl rfl hl.1 rfl (lv_room (Nat.le_of_ble_eq_true rfl)) dX12_odds_63 ⟨Nat.le_of_ble_eq_true rfl, Nat.le_of_ble_eq_true rfl⟩) hS (fun q _ h => hFc q h) hFc (fun u tC H1 locs htC hvm hw_25 hB hz1 hk1 hS => ?_)
          obtain ⟨fB9_26, fT9_27, se9_28, dn9_29, fD9_30⟩ := u
          try dsimp only at hw_25 hB
          obtain ⟨hP1, hK1, hD1⟩ := hB
          rw [htC] at hP1
          have hK1 := va_K.moved hvm.symm hK1
          obtain ⟨hP, hD⟩ := va_join (wr := [(zaL aO cO 36 fO), (zaL aN cN 36 fN)]) (w1 := [(zo14irriiiiiirriirrrrlriiii m0 th aS aI im ac sp en wg op aB aT se9_28 dn9_29 aG aO aN aD bv aY rn kd nu tv), (zaI aS cS 901 fS), (zaI aB cB 6 fB9_26), (zaI aT cT 64 fT9_27), (zaI aD cD 36 fD9_30)]) hP hD [0, 1, 2, 3, 6] [4, 5] rfl rfl (by decide) (by decide) hk1 hFc hP1 hD1
          have hK := (hK.sub (tys' := [(cO, .long), (cN, .long)]) [3, 4] rfl).app hK1
          generalize H1 = H at hP hS ⊢
          have hP : va_P (dC, dI) vwCl [(zaL aO cO 36 fO), (zaL aN cN 36 fN), (zo14irriiiiiirriirrrrlriiii m0 th aS aI im ac sp en wg op aB aT se9_28 dn9_29 aG aO aN aD bv aY rn kd nu tv), (zaI aS cS 901 fS), (zaI aB cB 6 fB9_26), (zaI aT cT 64 fT9_27), (zaI aD cD 36 fD9_30)] H := hP
          have hD : va_D A [(zaL aO cO 36 fO), (zaL aN cN 36 fN), (zo14irriiiiiirriirrrrlriiii m0 th aS aI im ac sp en wg op aB aT se9_28 dn9_29 aG aO aN aD bv aY rn kd nu tv), (zaI aS cS 901 fS), (zaI aB cB 6 fB9_26), (zaI aT cT 64 fT9_27), (zaI aD cD 36 fD9_30)] := hD
          have hK : va_K (dC, dI) vwCl [(cO, .long), (cN, .long), (cS, .int), (cB, .int), (cT, .boolean), (cD, .int)] s := hK
          have hdr : ∀ k, k < 36 → fD9_30 k = nI (drN cz mi sn k) ∧ drN cz mi sn k ≤ 5 := fun k hk => by rw [hw_25 k hk, zmi, zsn]; exact dr_ok (hol_w3 zh).1 (hol_w3 zh).2 k
          refine lv_aload_n hx hb dX12_odds_66 rfl (lv_at hl 1 rfl) ?_
          refine lv_iload_n hx hb dX12_odds_67 rfl (lv_at hl 2 rfl) ?_
          have hPc := hP.sub (ws' := [(zo14irriiiiiirriirrrrlriiii m0 th aS aI im ac sp en wg op aB aT se9_28 dn9_29 aG aO aN aD bv aY rn kd nu tv), (zaL aO cO 36 fO)]) [2, 0] rfl
          have hDc := hD.sub (ws' := [(zo14irriiiiiirriirrrrlriiii m0 th aS aI im ac sp en wg op aB aT se9_28 dn9_29 aG aO aN aD bv aY rn kd nu tv), (zaL aO cO 36 fO)]) [2, 0] (by decide) rfl
          have hKc := hK.sub (tys' := [(cO, .long)]) [0] rfl
          have hFc := va_free (wc := [(zo14irriiiiiirriirrrrlriiii m0 th aS aI im ac sp en wg op aB aT se9_28 dn9_29 aG aO aN aD bv aY rn kd nu tv), (zaL aO cO 36 fO)]) hD hS hA [2, 0] rfl
          refine va_callv (va_runV (As := [.int (nI j_7)]) (rest := []) ⟨hx, hb, hml, hown, hts⟩ (c_begins l dC dI m0 aS aI aB aT aG aO aN aD aY th im ac sp en wg op se9_28 dn9_29 rn kd nu tv bv cO fO j_7 H.size (by omega)) (cwV 1 hts gX12_odds_X12_begins rfl rfl rfl hd_yX12_begins ⟨Nat.le_of_ble_eq_true rfl, Nat.le_of_ble_eq_true rfl⟩) ⟨fun a U g mk q => by obtain ⟨q0, q1, qP, qK, qD⟩ := q; exact ⟨q0, mvz g mk a q1, mvP g mk a qP, mvK g mk a qK, qD⟩, va_recv hK hP (ci := 14) (q := (RX12, TX12, 23)) (q0 := 2) rfl rfl, fun U hU hW => ⟨rfl, by rw [hU], by rw [hU]; exact hPc, va_K.moved hW.alike hKc, hDc.weaken (fun _ _ _ _ => trivial)⟩⟩ rfl rfl hl.1 rfl (lv_room (Nat.le_of_ble_eq_true rfl)) dX12_odds_68 ⟨Nat.le_of_ble_eq_true rfl, Nat.le_of_ble_eq_true rfl⟩) hS (fun q _ h => hFc q h) hFc (fun u tC H1 locs htC hvm hw_32 hB hz1 hk1 hS => ?_)
          obtain ⟨fO9_33, rfl⟩ : ∃ z, z = u := ⟨_, rfl⟩
          try dsimp only at hw_32 hB
          obtain ⟨hP1, hK1, hD1⟩ := hB
          rw [htC] at hP1
          have hK1 := va_K.moved hvm.symm hK1
          obtain ⟨hP, hD⟩ := va_join (wr := [(zaL aN cN 36 fN), (zaI aS cS 901 fS), (zaI aB cB 6 fB9_26), (zaI aT cT 64 fT9_27), (zaI aD cD 36 fD9_30)]) (w1 := [(zo14irriiiiiirriirrrrlriiii m0 th aS aI im ac sp en wg op aB aT se9_28 dn9_29 aG aO aN aD bv aY rn kd nu tv), (zaL aO cO 36 fO9_33)]) hP hD [2, 0] [1, 3, 4, 5, 6] rfl rfl (by decide) (by decide) hk1 hFc hP1 hD1
          have hK := (hK.sub (tys' := [(cN, .long), (cS, .int), (cB, .int), (cT, .boolean), (cD, .int)]) [1, 2, 3, 4, 5] rfl).app hK1
          generalize H1 = H at hP hS ⊢
          have hP : va_P (dC, dI) vwCl [(zaL aN cN 36 fN), (zaI aS cS 901 fS), (zaI aB cB 6 fB9_26), (zaI aT cT 64 fT9_27), (zaI aD cD 36 fD9_30), (zo14irriiiiiirriirrrrlriiii m0 th aS aI im ac sp en wg op aB aT se9_28 dn9_29 aG aO aN aD bv aY rn kd nu tv), (zaL aO cO 36 fO9_33)] H := hP
          have hD : va_D A [(zaL aN cN 36 fN), (zaI aS cS 901 fS), (zaI aB cB 6 fB9_26), (zaI aT cT 64 fT9_27), (zaI aD cD 36 fD9_30), (zo14irriiiiiirriirrrrlriiii m0 th aS aI im ac sp en wg op aB aT se9_28 dn9_29 aG aO aN aD bv aY rn kd nu tv), (zaL aO cO 36 fO9_33)] := hD
          have hK : va_K (dC, dI) vwCl [(cN, .long), (cS, .int), (cB, .int), (cT, .boolean), (cD, .int), (cO, .long)] s := hK
          have hT0 : lnA fO9_33 (T9 0) := by rw [hT9]; exact hw_32
          refine lv_iconst (v := 0) hx hb dX12_odds_71 (by decide) ?_
          refine lv_istore (lv' := [(5, .int 0), (4, .int 0), (0, .ref m0), (1, .int (nI j_7)), (2, .int (nI j_15)), (3, .int z)]) hx hb dX12_odds_72 hl (by decide) rfl (fun ls hl => ?_)
          have L74 : ∀ (nF : Nat) (i : Nat) (fO2 : Nat → Int64) (fN2 : Nat → Int64), wk - i < nF → (i ≤ wk) → (lnA fO2 (T9 i)) → ∀ (H : Heap) (locs : List Loc), va_K (dC, dI) vwCl [(cS, .int), (cB, .int), (cT, .boolean), (cO, .long), (cN, .long), (cD, .int)] s → va_P (dC, dI) vwCl [(zo14irriiiiiirriirrrrlriiii m0 th aS aI im ac sp en wg op aB aT se9_28 dn9_29 aG aO aN aD bv aY rn kd nu tv), (zaI aS cS 901 fS), (zaI aB cB 6 fB9_26), (zaI aT cT 64 fT9_27), (zaL aO cO 36 fO2), (zaL aN cN 36 fN2), (zaI aD cD 36 fD9_30)] H → va_D A [(zo14irriiiiiirriirrrrlriiii m0 th aS aI im ac sp en wg op aB aT se9_28 dn9_29 aG aO aN aD bv aY rn kd nu tv), (zaI aS cS 901 fS), (zaI aB cB 6 fB9_26), (zaI aT cT 64 fT9_27), (zaL aO cO 36 fO2), (zaL aN cN 36 fN2), (zaI aD cD 36 fD9_30)] → va_S A s.heap H locs → ∀ (ls : Array Slot), lv_has ls 7 [(0, .ref m0), (1, .int (nI j_7)), (2, .int (nI j_15)), (3, .int z), (4, .int 0), (5, .int (nI i))] → W p l e ({ frames := 4, cells := 0, slots := 0, locals := 101 } : Room) s m args below meth c H locs 0 0 Q (F0 m 74 ls []) := by
            intro nF
            induction nF with
            | zero => intro i fO2 fN2 hm; exact absurd hm (Nat.not_lt_zero _)
            | succ nF ih74 =>
              intro i fO2 fN2 hm hi hTi H locs hK hP hD hS ls hl
              refine lv_iload hx hb dX12_odds_74 (lv_at hl 5 rfl) ?_
              refine lv_aload_n hx hb dX12_odds_76 rfl (lv_at hl 0 rfl) ?_
              refine va_get (D := (dC, dI)) (ci := 14) (v := .ref aS) (C := RX12) (T := TX12) (N := 23) hx hb hts kc_mOdds_0 hown hK hP 0 rfl rfl 1 (by decide) (hts (.fieldLink RX12 9 "MistHeapsModel" "s" "[I") kc_mOdds_1) (fun _ h9 => h9) rfl dX12_odds_77 ?_
              refine lv_iconst (v := 2) hx hb dX12_odds_80 (by decide) ?_
              refine va_iald hx hb hK hP 1 0 rfl rfl (vp_in_nI (n := 2) (N := 901) (by omega) (by omega)) dX12_odds_81 ?_
              refine qi_as (y := nI wk) ((show fS (2 : Int32).toNatClampNeg = fS 2 from rfl).trans (zw)) ?_
              refine lv_icmp_ge (tgt := 105) hx hb dX12_odds_82 (by decide) (fun c_34 => ?_) (fun c_34 => ?_)
              · skip
                have c_34 : wk ≤ i := (nI_leI (a := wk) (b := i) (by omega) (by omega)).mp c_34
                refine lv_iload hx hb dX12_odds_105 (lv_at hl 4 rfl) ?_
                refine lv_if_eq (tgt := 121) hx hb dX12_odds_107 (by decide) (fun _ => ?_) (fun c_35 => absurd c_35 (by decide))
                refine lv_iload_n hx hb dX12_odds_121 rfl (lv_at hl 2 rfl) ?_
                refine lv_bipush (v := 40) hx hb dX12_odds_122 (by decide) ?_
                refine lv_icmp_ne (tgt := 134) hx hb dX12_odds_124 (by decide) (fun c_36 => ?_) (fun c_36 => ?_)
                · skip
                  have c_36 : ¬ j_15 = 40 := fun q => c_36 ((nI_eq (a := j_15) (b := 40) (by omega) (by omega)).mpr q)
                  refine lv_aload_n hx hb dX12_odds_134 rfl (lv_at hl 0 rfl) ?_
                  refine va_get (D := (dC, dI)) (ci := 14) (v := .ref aO) (C := RX12) (T := TX12) (N := 23) hx hb hts kc_mOdds_0 hown hK hP 0 rfl rfl 14 (by decide) (hts (.fieldLink RX12 28 "MistHeapsModel" "often" "[J") kc_mOdds_2) (fun _ h9 => h9) rfl dX12_odds_135 ?_
                  refine lv_iload_n hx hb dX12_odds_138 rfl (lv_at hl 2 rfl) ?_
                  refine va_lald hx hb hK hP 4 3 rfl rfl (vp_in_nI (n := j_15) (N := 36) (by omega) (by omega)) dX12_odds_139 ?_
                  refine ql_as (y := lN (T9 i j_15)) ((show fO2 (nI j_15 : Int32).toNatClampNeg = fO2 j_15 from by rw [nI_clamp (by omega)]).trans (hTi j_15 (by omega))) ?_
                  refine lv_lstore (lv' := [(5, .long (lN (T9 i j_15))), (0, .ref m0), (1, .int (nI j_7)), (2, .int (nI j_15)), (3, .int z), (4, .int 0)]) hx hb dX12_odds_140 hl (by decide) rfl (fun ls hl => ?_)
                  refine lv_lload hx hb dX12_odds_142 (lv_at hl 0 rfl) ?_
                  refine lv_aload_n hx hb dX12_odds_144 rfl (lv_at hl 1 rfl) ?_
                  refine va_get (D := (dC, dI)) (ci := 14) (v := .ref aS) (C := RX12) (T := TX12) (N := 23) hx hb hts kc_mOdds_0 hown hK hP 0 rfl rfl 1 (by decide) (hts (.fieldLink RX12 9 "MistHeapsModel" "s" "[I") kc_mOdds_1) (fun _ h9 => h9) rfl dX12_odds_145 ?_
                  refine lv_iconst (v := 2) hx hb dX12_odds_148 (by decide) ?_
                  refine va_iald hx hb hK hP 1 0 rfl rfl (vp_in_nI (n := 2) (N := 901) (by omega) (by omega)) dX12_odds_149 ?_
                  refine qi_as (y := nI wk) ((show fS (2 : Int32).toNatClampNeg = fS 2 from rfl).trans (zw)) ?_
                  refine vp_callSl (va_runS (As := [.int (nI wk)]) (rest := [.long (lN (T9 i j_15))]) ⟨hx, hb, hml, hown, hts⟩ (c_twenties l dC dI wk (by omega)) (va_cwS 1 hts gX12_odds_X12_twenties rfl rfl rfl hd_yX12_twenties.2 ⟨Nat.le_of_ble_eq_true rfl, Nat.le_of_ble_eq_true rfl⟩) ⟨fun a U g mk q => ⟨q.1, trivial⟩, fun U hU hW => ⟨rfl, trivial⟩⟩ rfl rfl hl.1 rfl (lv_room (Nat.le_of_ble_eq_true rfl)) dX12_odds_150 ⟨Nat.le_of_ble_eq_true rfl, Nat.le_of_ble_eq_true rfl⟩).run (fun r_37 hw_38 => ?_)
                  obtain rfl := hw_38
                  refine lv_iload_n hx hb dX12_odds_153 rfl (lv_at hl 4 rfl) ?_
                  refine vp_callSl (va_runS (As := [.long (lN (T9 i j_15)), .long (lN (20 ^ wk)), .int z]) (rest := []) ⟨hx, hb, hml, hown, hts⟩ (c_lowest l dC dI (T9 i j_15) (20 ^ wk) z (Nat.pow_pos (by decide)) (Nat.lt_of_le_of_lt ((hTB i (by omega)).1 j_15 (by omega)) (by decide)) (Nat.lt_of_le_of_lt (tw_p wk (by omega)) (by decide))) (va_cwS 3 hts gX12_odds_X12_lowest rfl rfl rfl hd_yX12_lowest.2 ⟨Nat.le_of_ble_eq_true rfl, Nat.le_of_ble_eq_true rfl⟩) ⟨fun a U g mk q => ⟨q.1, trivial⟩, fun U hU hW => ⟨rfl, trivial⟩⟩ rfl rfl hl.1 rfl (lv_room (Nat.le_of_ble_eq_true rfl)) dX12_odds_154 ⟨Nat.le_of_ble_eq_true rfl, Nat.le_of_ble_eq_true rfl⟩).run (fun r_39 hw_40 => ?_)
                  obtain rfl := hw_40
                  rw [hQ]
                  have hP9 := hP.sub (ws' := [(zo14irriiiiiirriirrrrlriiii m0 th aS aI im ac sp en wg op aB aT se9_28 dn9_29 aG aO aN aD bv aY rn kd nu tv), (zaI aS cS 901 fS), (zaI aB cB 6 fB9_26), (zaI aT cT 64 fT9_27), (zaL aO cO 36 fO2), (zaL aN cN 36 fN2), (zaI aD cD 36 fD9_30)]) [0, 1, 2, 3, 4, 5, 6] rfl
                  have hD9 := hD.sub (ws' := [(zo14irriiiiiirriirrrrlriiii m0 th aS aI im ac sp en wg op aB aT se9_28 dn9_29 aG aO aN aD bv aY rn kd nu tv), (zaI aS cS 901 fS), (zaI aB cB 6 fB9_26), (zaI aT cT 64 fT9_27), (zaL aO cO 36 fO2), (zaL aN cN 36 fN2), (zaI aD cD 36 fD9_30)]) [0, 1, 2, 3, 4, 5, 6] (by decide) rfl
                  have hK9 := hK.sub (tys' := [(cS, .int), (cB, .int), (cT, .boolean), (cO, .long), (cN, .long), (cD, .int)]) [0, 1, 2, 3, 4, 5] rfl
                  exact W.lret (v := ptR (T9 i j_15) (20 ^ wk) z) hx hb hr (fun tQ htQ hWQ => ⟨⟨(ptR (T9 i j_15) (20 ^ wk) z), (fB9_26, fT9_27, se9_28, dn9_29, fD9_30, fO2, fN2), rfl, od_c (by omega) (by omega) (by assumption) (by assumption) hT9 (by omega), by rw [htQ]; exact hP9, va_K.moved hWQ.alike hK9, hD9⟩, hS.F htQ⟩) hS.2.2 dX12_odds_157
                · skip
                  have c_36 : j_15 = 40 := (nI_eq (a := j_15) (b := 40) (by omega) (by omega)).mp c_36
                  exfalso
                  omega
              · skip
                have c_34 : ¬ wk ≤ i := fun q => c_34 ((nI_leI (a := wk) (b := i) (by omega) (by omega)).mpr q)
                refine lv_aload_n hx hb dX12_odds_85 rfl (lv_at hl 0 rfl) ?_
                refine lv_aload_n hx hb dX12_odds_86 rfl (lv_at hl 0 rfl) ?_
                refine va_get (D := (dC, dI)) (ci := 14) (v := .ref aS) (C := RX12) (T := TX12) (N := 23) hx hb hts kc_mOdds_0 hown hK hP 0 rfl rfl 1 (by decide) (hts (.fieldLink RX12 9 "MistHeapsModel" "s" "[I") kc_mOdds_1) (fun _ h9 => h9) rfl dX12_odds_87 ?_
                refine lv_bipush (v := 73) hx hb dX12_odds_90 (by decide) ?_
                refine lv_iload hx hb dX12_odds_92 (lv_at hl 5 rfl) ?_
                refine lv_iadd hx hb dX12_odds_94 ?_
                refine qi_as (y := nI (73 + i)) (nI_add 73 i) ?_
                refine va_iald hx hb hK hP 1 0 rfl rfl (vp_in_nI (n := 73 + i) (N := 901) (by omega) (by omega)) dX12_odds_95 ?_
                refine qi_as (y := nI (wy i)) ((show fS (nI (73 + i) : Int32).toNatClampNeg = fS (73 + i) from by rw [nI_clamp (by omega)]).trans (zwy i (by omega))) ?_
                have hPc := hP.sub (ws' := [(zo14irriiiiiirriirrrrlriiii m0 th aS aI im ac sp en wg op aB aT se9_28 dn9_29 aG aO aN aD bv aY rn kd nu tv), (zaI aS cS 901 fS), (zaL aO cO 36 fO2), (zaL aN cN 36 fN2), (zaI aD cD 36 fD9_30)]) [0, 1, 4, 5, 6] rfl
                have hDc := hD.sub (ws' := [(zo14irriiiiiirriirrrrlriiii m0 th aS aI im ac sp en wg op aB aT se9_28 dn9_29 aG aO aN aD bv aY rn kd nu tv), (zaI aS cS 901 fS), (zaL aO cO 36 fO2), (zaL aN cN 36 fN2), (zaI aD cD 36 fD9_30)]) [0, 1, 4, 5, 6] (by decide) rfl
                have hKc := hK.sub (tys' := [(cS, .int), (cO, .long), (cN, .long), (cD, .int)]) [0, 3, 4, 5] rfl
                have hFc := va_free (wc := [(zo14irriiiiiirriirrrrlriiii m0 th aS aI im ac sp en wg op aB aT se9_28 dn9_29 aG aO aN aD bv aY rn kd nu tv), (zaI aS cS 901 fS), (zaL aO cO 36 fO2), (zaL aN cN 36 fN2), (zaI aD cD 36 fD9_30)]) hD hS hA [0, 1, 4, 5, 6] rfl
                refine va_callv (va_runV (As := [.int (nI (wy i))]) (rest := []) ⟨hx, hb, hml, hown, hts⟩ (c_goesOn l dC dI m0 aS aI aB aT aG aO aN aD aY th im ac sp en wg op se9_28 dn9_29 rn kd nu tv bv cS cO cN cD fS fO2 fN2 fD9_30 (wy i) (T9 i) (drN cz mi sn) (edB ee) H.size (hwy i) (hTi) ((hTB i (by omega)).1) (hdr) (hed)) (cwV 1 hts gX12_odds_X12_goesOn rfl rfl rfl hd_yX12_goesOn ⟨Nat.le_of_ble_eq_true rfl, Nat.le_of_ble_eq_true rfl⟩) ⟨fun a U g mk q => by obtain ⟨q0, q1, qP, qK, qD⟩ := q; exact ⟨q0, mvz g mk a q1, mvP g mk a qP, mvK g mk a qK, qD⟩, va_recv hK hP (ci := 14) (q := (RX12, TX12, 23)) (q0 := 0) rfl rfl, fun U hU hW => ⟨rfl, by rw [hU], by rw [hU]; exact hPc, va_K.moved hW.alike hKc, hDc.weaken (fun _ _ _ _ => trivial)⟩⟩ rfl rfl hl.1 rfl (lv_room (Nat.le_of_ble_eq_true rfl)) dX12_odds_96 ⟨Nat.le_of_ble_eq_true rfl, Nat.le_of_ble_eq_true rfl⟩) hS (fun q _ h => hFc q h) hFc (fun u tC H1 locs htC hvm hw_42 hB hz1 hk1 hS => ?_)
                obtain ⟨fO9_43, fN9_44⟩ := u
                try dsimp only at hw_42 hB
                obtain ⟨hP1, hK1, hD1⟩ := hB
                rw [htC] at hP1
                have hK1 := va_K.moved hvm.symm hK1
                obtain ⟨hP, hD⟩ := va_join (wr := [(zaI aB cB 6 fB9_26), (zaI aT cT 64 fT9_27)]) (w1 := [(zo14irriiiiiirriirrrrlriiii m0 th aS aI im ac sp en wg op aB aT se9_28 dn9_29 aG aO aN aD bv aY rn kd nu tv), (zaI aS cS 901 fS), (zaL aO cO 36 fO9_43), (zaL aN cN 36 fN9_44), (zaI aD cD 36 fD9_30)]) hP hD [0, 1, 4, 5, 6] [2, 3] rfl rfl (by decide) (by decide) hk1 hFc hP1 hD1
                have hK := (hK.sub (tys' := [(cB, .int), (cT, .boolean)]) [1, 2] rfl).app hK1
                generalize H1 = H at hP hS ⊢
                have hP : va_P (dC, dI) vwCl [(zaI aB cB 6 fB9_26), (zaI aT cT 64 fT9_27), (zo14irriiiiiirriirrrrlriiii m0 th aS aI im ac sp en wg op aB aT se9_28 dn9_29 aG aO aN aD bv aY rn kd nu tv), (zaI aS cS 901 fS), (zaL aO cO 36 fO9_43), (zaL aN cN 36 fN9_44), (zaI aD cD 36 fD9_30)] H := hP
                have hD : va_D A [(zaI aB cB 6 fB9_26), (zaI aT cT 64 fT9_27), (zo14irriiiiiirriirrrrlriiii m0 th aS aI im ac sp en wg op aB aT se9_28 dn9_29 aG aO aN aD bv aY rn kd nu tv), (zaI aS cS 901 fS), (zaL aO cO 36 fO9_43), (zaL aN cN 36 fN9_44), (zaI aD cD 36 fD9_30)] := hD
                have hK : va_K (dC, dI) vwCl [(cB, .int), (cT, .boolean), (cS, .int), (cO, .long), (cN, .long), (cD, .int)] s := hK
                have hT8 : lnA fO9_43 (T9 (i + 1)) := by rw [hT9] at hw_42 ⊢; exact hw_42
                refine lv_iinc (v := nI (i + 1)) (lv' := [(5, .int (nI (i + 1))), (0, .ref m0), (1, .int (nI j_7)), (2, .int (nI j_15)), (3, .int z), (4, .int 0)]) hx hb dX12_odds_99 hl (k := 5) rfl (nI_add i 1) (by decide) rfl (fun ls hl => ?_)
                refine lv_goto (tgt := 74) hx hb dX12_odds_102 (by decide) ?_
                exact ih74 (i + 1) (fO9_43) (fN9_44) (by omega) (by omega) (hT8) _ _ (hK.sub [2, 0, 1, 3, 4, 5] rfl) (hP.sub [2, 3, 0, 1, 4, 5, 6] rfl) (hD.sub [2, 3, 0, 1, 4, 5, 6] (by decide) rfl) hS ls (lv_sub hl [1, 2, 3, 4, 5, 0] rfl)
          exact L74 _ (0) (fO9_33) (fN) (Nat.lt_succ_self _) (by omega) (hT0) _ _ (hK.sub [1, 2, 3, 5, 0, 4] rfl) (hP.sub [5, 1, 2, 3, 6, 0, 4] rfl) (hD.sub [5, 1, 2, 3, 6, 0, 4] (by decide) rfl) hS ls (lv_sub hl [2, 3, 4, 5, 1, 0] rfl)
        · skip
          refine lv_if_ne (tgt := 62) hx hb dX12_odds_55 (by decide) (fun c_45 => absurd c_45 (by decide)) (fun _ => ?_)
          refine lv_ldc2 (v := (-9223372036854775808)) hx hb hown (hts (.constantLong RX12 181 (-9223372036854775808)) kc_mOdds_3) dX12_odds_58 ?_
          rw [hQ]
          have hP9 := hP.sub (ws' := [(zo14irriiiiiirriirrrrlriiii m0 th aS aI im ac sp en wg op aB aT se dn aG aO aN aD bv aY rn kd nu tv), (zaI aS cS 901 fS), (zaI aB cB 6 fB), (zaI aT cT 64 fT), (zaL aO cO 36 fO), (zaL aN cN 36 fN), (zaI aD cD 36 fD)]) [0, 1, 2, 3, 4, 5, 6] rfl
          have hD9 := hD.sub (ws' := [(zo14irriiiiiirriirrrrlriiii m0 th aS aI im ac sp en wg op aB aT se dn aG aO aN aD bv aY rn kd nu tv), (zaI aS cS 901 fS), (zaI aB cB 6 fB), (zaI aT cT 64 fT), (zaL aO cO 36 fO), (zaL aN cN 36 fN), (zaI aD cD 36 fD)]) [0, 1, 2, 3, 4, 5, 6] (by decide) rfl
          have hK9 := hK.sub (tys' := [(cS, .int), (cB, .int), (cT, .boolean), (cO, .long), (cN, .long), (cD, .int)]) [0, 1, 2, 3, 4, 5] rfl
          exact W.lret (v := (-9223372036854775808)) hx hb hr (fun tQ htQ hWQ => ⟨⟨(-9223372036854775808), (fB, fT, se, dn, fD, fO, fN), rfl, by first | exact od_no1 (by assumption) | exact od_no3 (by assumption) | exact od_no2 (by assumption) (by assumption) (by first | exact Or.inl (by assumption) | exact Or.inr (by assumption)), by rw [htQ]; exact hP9, va_K.moved hWQ.alike hK9, hD9⟩, hS.F htQ⟩) hS.2.2 dX12_odds_61
      · skip
        refine lv_if_ne (tgt := 49) hx hb dX12_odds_35 (by decide) (fun c_46 => absurd c_46 (by decide)) (fun _ => ?_)
        refine lv_iload_n hx hb dX12_odds_38 rfl (lv_at hl 3 rfl) ?_
        refine lv_bipush (v := 40) hx hb dX12_odds_39 (by decide) ?_
        refine lv_icmp_eq (tgt := 49) hx hb dX12_odds_41 (by decide) (fun c_47 => ?_) (fun c_47 => ?_)
        · skip
          refine lv_iload_n hx hb dX12_odds_49 rfl (lv_at hl 4 rfl) ?_
          refine lv_iconst (v := 0) hx hb dX12_odds_50 (by decide) ?_
          refine lv_iconst (v := 1) hx hb dX12_odds_51 (by decide) ?_
          refine vp_callSi (va_runS (As := [.int z, .int 0, .int 1]) (rest := []) ⟨hx, hb, hml, hown, hts⟩ (c_in l dC dI z 0 1) (va_cwS 3 hts gX12_odds_X12_in rfl rfl rfl hd_yX12_in.2 ⟨Nat.le_of_ble_eq_true rfl, Nat.le_of_ble_eq_true rfl⟩) ⟨fun a U g mk q => ⟨q.1, trivial⟩, fun U hU hW => ⟨rfl, trivial⟩⟩ rfl rfl hl.1 rfl (lv_room (Nat.le_of_ble_eq_true rfl)) dX12_odds_52 ⟨Nat.le_of_ble_eq_true rfl, Nat.le_of_ble_eq_true rfl⟩).run (fun r_48 hw_49 => ?_)
          rcases hw_49 with ⟨rfl, h_50, h_51⟩ | ⟨rfl, h_52⟩
          · skip
            refine lv_if_ne (tgt := 62) hx hb dX12_odds_55 (by decide) (fun _ => ?_) (fun c_53 => absurd c_53 (by decide))
            have hw3 := hol_w3 zh
            have hd5 : ∀ c, c < 36 → drN cz mi sn c ≤ 5 := fun c _ => (dr_ok hw3.1 hw3.2 c).2
            have hed := ed_m zee
            obtain ⟨T9, hT9⟩ : ∃ T : Nat → Nat → Nat, T = tmN (edB ee) (drN cz mi sn) wy j_7 := ⟨_, rfl⟩
            have hTB := od_b (show j_7 < 36 by omega) hd5 hwy hT9
            refine lv_aload_n hx hb dX12_odds_62 rfl (lv_at hl 1 rfl) ?_
            have hPc := hP.sub (ws' := [(zo14irriiiiiirriirrrrlriiii m0 th aS aI im ac sp en wg op aB aT se dn aG aO aN aD bv aY rn kd nu tv), (zaI aS cS 901 fS), (zaI aB cB 6 fB), (zaI aT cT 64 fT), (zaI aD cD 36 fD)]) [0, 1, 2, 3, 6] rfl
            have hDc := hD.sub (ws' := [(zo14irriiiiiirriirrrrlriiii m0 th aS aI im ac sp en wg op aB aT se dn aG aO aN aD bv aY rn kd nu tv), (zaI aS cS 901 fS), (zaI aB cB 6 fB), (zaI aT cT 64 fT), (zaI aD cD 36 fD)]) [0, 1, 2, 3, 6] (by decide) rfl
            have hKc := hK.sub (tys' := [(cS, .int), (cB, .int), (cT, .boolean), (cD, .int)]) [0, 1, 2, 5] rfl
            have hFc := va_free (wc := [(zo14irriiiiiirriirrrrlriiii m0 th aS aI im ac sp en wg op aB aT se dn aG aO aN aD bv aY rn kd nu tv), (zaI aS cS 901 fS), (zaI aB cB 6 fB), (zaI aT cT 64 fT), (zaI aD cD 36 fD)]) hD hS hA [0, 1, 2, 3, 6] rfl
            refine va_callv (va_runV (As := []) (rest := []) ⟨hx, hb, hml, hown, hts⟩ (c_lookDrifts l dC dI m0 aS aI aB aT aG aO aN aD aY th im ac sp en wg op se dn rn kd nu tv bv cS cB cT cD fS fB fT fD cz H.size (zh)) (cwV 0 hts gX12_odds_X12_looksForDrifts rfl rfl rfl hd_yX12_looksForDrifts ⟨Nat.le_of_ble_eq_true rfl, Nat.le_of_ble_eq_true rfl⟩) ⟨fun a U g mk q => by obtain ⟨q0, q1, qP, qK, qD⟩ := q; exact ⟨q0, mvz g mk a q1, mvP g mk a qP, mvK g mk a qK, qD⟩, va_recv hK hP (ci := 14) (q := (RX12, TX12, 23)) (q0 := 0) rfl rfl, fun U hU hW => ⟨rfl, by rw [hU], by rw [hU]; exact hPc, va_K.moved hW.alike hKc, hDc.weaken (fun _ _ _ _ => trivial)⟩⟩ rfl rfl hl.1 rfl (lv_room (Nat.le_of_ble_eq_true rfl)) dX12_odds_63 ⟨Nat.le_of_ble_eq_true rfl, Nat.le_of_ble_eq_true rfl⟩) hS (fun q _ h => hFc q h) hFc (fun u tC H1 locs htC hvm hw_55 hB hz1 hk1 hS => ?_)
            obtain ⟨fB9_56, fT9_57, se9_58, dn9_59, fD9_60⟩ := u
            try dsimp only at hw_55 hB
            obtain ⟨hP1, hK1, hD1⟩ := hB
            rw [htC] at hP1
            have hK1 := va_K.moved hvm.symm hK1
            obtain ⟨hP, hD⟩ := va_join (wr := [(zaL aO cO 36 fO), (zaL aN cN 36 fN)]) (w1 := [(zo14irriiiiiirriirrrrlriiii m0 th aS aI im ac sp en wg op aB aT se9_58 dn9_59 aG aO aN aD bv aY rn kd nu tv), (zaI aS cS 901 fS), (zaI aB cB 6 fB9_56), (zaI aT cT 64 fT9_57), (zaI aD cD 36 fD9_60)]) hP hD [0, 1, 2, 3, 6] [4, 5] rfl rfl (by decide) (by decide) hk1 hFc hP1 hD1
            have hK := (hK.sub (tys' := [(cO, .long), (cN, .long)]) [3, 4] rfl).app hK1
            generalize H1 = H at hP hS ⊢
            have hP : va_P (dC, dI) vwCl [(zaL aO cO 36 fO), (zaL aN cN 36 fN), (zo14irriiiiiirriirrrrlriiii m0 th aS aI im ac sp en wg op aB aT se9_58 dn9_59 aG aO aN aD bv aY rn kd nu tv), (zaI aS cS 901 fS), (zaI aB cB 6 fB9_56), (zaI aT cT 64 fT9_57), (zaI aD cD 36 fD9_60)] H := hP
            have hD : va_D A [(zaL aO cO 36 fO), (zaL aN cN 36 fN), (zo14irriiiiiirriirrrrlriiii m0 th aS aI im ac sp en wg op aB aT se9_58 dn9_59 aG aO aN aD bv aY rn kd nu tv), (zaI aS cS 901 fS), (zaI aB cB 6 fB9_56), (zaI aT cT 64 fT9_57), (zaI aD cD 36 fD9_60)] := hD
            have hK : va_K (dC, dI) vwCl [(cO, .long), (cN, .long), (cS, .int), (cB, .int), (cT, .boolean), (cD, .int)] s := hK
            have hdr : ∀ k, k < 36 → fD9_60 k = nI (drN cz mi sn k) ∧ drN cz mi sn k ≤ 5 := fun k hk => by rw [hw_55 k hk, zmi, zsn]; exact dr_ok (hol_w3 zh).1 (hol_w3 zh).2 k
            refine lv_aload_n hx hb dX12_odds_66 rfl (lv_at hl 1 rfl) ?_
            refine lv_iload_n hx hb dX12_odds_67 rfl (lv_at hl 2 rfl) ?_
            have hPc := hP.sub (ws' := [(zo14irriiiiiirriirrrrlriiii m0 th aS aI im ac sp en wg op aB aT se9_58 dn9_59 aG aO aN aD bv aY rn kd nu tv), (zaL aO cO 36 fO)]) [2, 0] rfl
            have hDc := hD.sub (ws' := [(zo14irriiiiiirriirrrrlriiii m0 th aS aI im ac sp en wg op aB aT se9_58 dn9_59 aG aO aN aD bv aY rn kd nu tv), (zaL aO cO 36 fO)]) [2, 0] (by decide) rfl
            have hKc := hK.sub (tys' := [(cO, .long)]) [0] rfl
            have hFc := va_free (wc := [(zo14irriiiiiirriirrrrlriiii m0 th aS aI im ac sp en wg op aB aT se9_58 dn9_59 aG aO aN aD bv aY rn kd nu tv), (zaL aO cO 36 fO)]) hD hS hA [2, 0] rfl
            refine va_callv (va_runV (As := [.int (nI j_7)]) (rest := []) ⟨hx, hb, hml, hown, hts⟩ (c_begins l dC dI m0 aS aI aB aT aG aO aN aD aY th im ac sp en wg op se9_58 dn9_59 rn kd nu tv bv cO fO j_7 H.size (by omega)) (cwV 1 hts gX12_odds_X12_begins rfl rfl rfl hd_yX12_begins ⟨Nat.le_of_ble_eq_true rfl, Nat.le_of_ble_eq_true rfl⟩) ⟨fun a U g mk q => by obtain ⟨q0, q1, qP, qK, qD⟩ := q; exact ⟨q0, mvz g mk a q1, mvP g mk a qP, mvK g mk a qK, qD⟩, va_recv hK hP (ci := 14) (q := (RX12, TX12, 23)) (q0 := 2) rfl rfl, fun U hU hW => ⟨rfl, by rw [hU], by rw [hU]; exact hPc, va_K.moved hW.alike hKc, hDc.weaken (fun _ _ _ _ => trivial)⟩⟩ rfl rfl hl.1 rfl (lv_room (Nat.le_of_ble_eq_true rfl)) dX12_odds_68 ⟨Nat.le_of_ble_eq_true rfl, Nat.le_of_ble_eq_true rfl⟩) hS (fun q _ h => hFc q h) hFc (fun u tC H1 locs htC hvm hw_62 hB hz1 hk1 hS => ?_)
            obtain ⟨fO9_63, rfl⟩ : ∃ z, z = u := ⟨_, rfl⟩
            try dsimp only at hw_62 hB
            obtain ⟨hP1, hK1, hD1⟩ := hB
            rw [htC] at hP1
            have hK1 := va_K.moved hvm.symm hK1
            obtain ⟨hP, hD⟩ := va_join (wr := [(zaL aN cN 36 fN), (zaI aS cS 901 fS), (zaI aB cB 6 fB9_56), (zaI aT cT 64 fT9_57), (zaI aD cD 36 fD9_60)]) (w1 := [(zo14irriiiiiirriirrrrlriiii m0 th aS aI im ac sp en wg op aB aT se9_58 dn9_59 aG aO aN aD bv aY rn kd nu tv), (zaL aO cO 36 fO9_63)]) hP hD [2, 0] [1, 3, 4, 5, 6] rfl rfl (by decide) (by decide) hk1 hFc hP1 hD1
            have hK := (hK.sub (tys' := [(cN, .long), (cS, .int), (cB, .int), (cT, .boolean), (cD, .int)]) [1, 2, 3, 4, 5] rfl).app hK1
            generalize H1 = H at hP hS ⊢
            have hP : va_P (dC, dI) vwCl [(zaL aN cN 36 fN), (zaI aS cS 901 fS), (zaI aB cB 6 fB9_56), (zaI aT cT 64 fT9_57), (zaI aD cD 36 fD9_60), (zo14irriiiiiirriirrrrlriiii m0 th aS aI im ac sp en wg op aB aT se9_58 dn9_59 aG aO aN aD bv aY rn kd nu tv), (zaL aO cO 36 fO9_63)] H := hP
            have hD : va_D A [(zaL aN cN 36 fN), (zaI aS cS 901 fS), (zaI aB cB 6 fB9_56), (zaI aT cT 64 fT9_57), (zaI aD cD 36 fD9_60), (zo14irriiiiiirriirrrrlriiii m0 th aS aI im ac sp en wg op aB aT se9_58 dn9_59 aG aO aN aD bv aY rn kd nu tv), (zaL aO cO 36 fO9_63)] := hD
            have hK : va_K (dC, dI) vwCl [(cN, .long), (cS, .int), (cB, .int), (cT, .boolean), (cD, .int), (cO, .long)] s := hK
            have hT0 : lnA fO9_63 (T9 0) := by rw [hT9]; exact hw_62
            refine lv_iconst (v := 0) hx hb dX12_odds_71 (by decide) ?_
            refine lv_istore (lv' := [(5, .int 0), (4, .int 0), (0, .ref m0), (1, .int (nI j_7)), (2, .int y), (3, .int z)]) hx hb dX12_odds_72 hl (by decide) rfl (fun ls hl => ?_)
            have L74 : ∀ (nF : Nat) (i : Nat) (fO2 : Nat → Int64) (fN2 : Nat → Int64), wk - i < nF → (i ≤ wk) → (lnA fO2 (T9 i)) → ∀ (H : Heap) (locs : List Loc), va_K (dC, dI) vwCl [(cS, .int), (cB, .int), (cT, .boolean), (cO, .long), (cN, .long), (cD, .int)] s → va_P (dC, dI) vwCl [(zo14irriiiiiirriirrrrlriiii m0 th aS aI im ac sp en wg op aB aT se9_58 dn9_59 aG aO aN aD bv aY rn kd nu tv), (zaI aS cS 901 fS), (zaI aB cB 6 fB9_56), (zaI aT cT 64 fT9_57), (zaL aO cO 36 fO2), (zaL aN cN 36 fN2), (zaI aD cD 36 fD9_60)] H → va_D A [(zo14irriiiiiirriirrrrlriiii m0 th aS aI im ac sp en wg op aB aT se9_58 dn9_59 aG aO aN aD bv aY rn kd nu tv), (zaI aS cS 901 fS), (zaI aB cB 6 fB9_56), (zaI aT cT 64 fT9_57), (zaL aO cO 36 fO2), (zaL aN cN 36 fN2), (zaI aD cD 36 fD9_60)] → va_S A s.heap H locs → ∀ (ls : Array Slot), lv_has ls 7 [(0, .ref m0), (1, .int (nI j_7)), (2, .int y), (3, .int z), (4, .int 0), (5, .int (nI i))] → W p l e ({ frames := 4, cells := 0, slots := 0, locals := 101 } : Room) s m args below meth c H locs 0 0 Q (F0 m 74 ls []) := by
              intro nF
              induction nF with
              | zero => intro i fO2 fN2 hm; exact absurd hm (Nat.not_lt_zero _)
              | succ nF ih74 =>
                intro i fO2 fN2 hm hi hTi H locs hK hP hD hS ls hl
                refine lv_iload hx hb dX12_odds_74 (lv_at hl 5 rfl) ?_
                refine lv_aload_n hx hb dX12_odds_76 rfl (lv_at hl 0 rfl) ?_
                refine va_get (D := (dC, dI)) (ci := 14) (v := .ref aS) (C := RX12) (T := TX12) (N := 23) hx hb hts kc_mOdds_0 hown hK hP 0 rfl rfl 1 (by decide) (hts (.fieldLink RX12 9 "MistHeapsModel" "s" "[I") kc_mOdds_1) (fun _ h9 => h9) rfl dX12_odds_77 ?_
                refine lv_iconst (v := 2) hx hb dX12_odds_80 (by decide) ?_
                refine va_iald hx hb hK hP 1 0 rfl rfl (vp_in_nI (n := 2) (N := 901) (by omega) (by omega)) dX12_odds_81 ?_
                refine qi_as (y := nI wk) ((show fS (2 : Int32).toNatClampNeg = fS 2 from rfl).trans (zw)) ?_
                refine lv_icmp_ge (tgt := 105) hx hb dX12_odds_82 (by decide) (fun c_64 => ?_) (fun c_64 => ?_)
                · skip
                  have c_64 : wk ≤ i := (nI_leI (a := wk) (b := i) (by omega) (by omega)).mp c_64
                  refine lv_iload hx hb dX12_odds_105 (lv_at hl 4 rfl) ?_
                  refine lv_if_eq (tgt := 121) hx hb dX12_odds_107 (by decide) (fun _ => ?_) (fun c_65 => absurd c_65 (by decide))
                  refine lv_iload_n hx hb dX12_odds_121 rfl (lv_at hl 2 rfl) ?_
                  refine lv_bipush (v := 40) hx hb dX12_odds_122 (by decide) ?_
                  refine lv_icmp_ne (tgt := 134) hx hb dX12_odds_124 (by decide) (fun c_66 => ?_) (fun c_66 => ?_)
                  · skip
                    exact absurd c_47 c_66
                  · skip
                    refine lv_aload_n hx hb dX12_odds_127 rfl (lv_at hl 0 rfl) ?_
                    have hPc := hP.sub (ws' := [(zo14irriiiiiirriirrrrlriiii m0 th aS aI im ac sp en wg op aB aT se9_58 dn9_59 aG aO aN aD bv aY rn kd nu tv), (zaI aS cS 901 fS), (zaL aO cO 36 fO2)]) [0, 1, 4] rfl
                    have hKc := hK.sub (tys' := [(cS, .int), (cO, .long)]) [0, 3] rfl
                    refine vp_callSl (va_runV (As := []) (rest := []) ⟨hx, hb, hml, hown, hts⟩ (c_over l dC dI m0 aS aI aB aT aG aO aN aD aY th im ac sp en wg op se9_58 dn9_59 rn kd nu tv bv cS cO fS fO2 (T9 i) (edB ee) (hTi) (hed)) (cwV 0 hts gX12_odds_X12_over rfl rfl rfl hd_yX12_over ⟨Nat.le_of_ble_eq_true rfl, Nat.le_of_ble_eq_true rfl⟩) ⟨fun a U g mk q => by obtain ⟨q0, qP, qK⟩ := q; exact ⟨q0, mvP g mk a qP, mvK g mk a qK⟩, va_recv hK hP (ci := 14) (q := (RX12, TX12, 23)) (q0 := 0) rfl rfl, fun U hU hW => ⟨rfl, by rw [hU]; exact hPc, va_K.moved hW.alike hKc⟩⟩ rfl rfl hl.1 rfl (lv_room (Nat.le_of_ble_eq_true rfl)) dX12_odds_128 ⟨Nat.le_of_ble_eq_true rfl, Nat.le_of_ble_eq_true rfl⟩).run (fun r_67 hw_68 => ?_)
                    obtain rfl := hw_68
                    refine lv_goto (tgt := 140) hx hb dX12_odds_131 (by decide) ?_
                    refine lv_lstore (lv' := [(5, .long (lN (msN (fun k => edB ee k = true) (T9 i) 36))), (0, .ref m0), (1, .int (nI j_7)), (2, .int y), (3, .int z), (4, .int 0)]) hx hb dX12_odds_140 hl (by decide) rfl (fun ls hl => ?_)
                    refine lv_lload hx hb dX12_odds_142 (lv_at hl 0 rfl) ?_
                    refine lv_aload_n hx hb dX12_odds_144 rfl (lv_at hl 1 rfl) ?_
                    refine va_get (D := (dC, dI)) (ci := 14) (v := .ref aS) (C := RX12) (T := TX12) (N := 23) hx hb hts kc_mOdds_0 hown hK hP 0 rfl rfl 1 (by decide) (hts (.fieldLink RX12 9 "MistHeapsModel" "s" "[I") kc_mOdds_1) (fun _ h9 => h9) rfl dX12_odds_145 ?_
                    refine lv_iconst (v := 2) hx hb dX12_odds_148 (by decide) ?_
                    refine va_iald hx hb hK hP 1 0 rfl rfl (vp_in_nI (n := 2) (N := 901) (by omega) (by omega)) dX12_odds_149 ?_
                    refine qi_as (y := nI wk) ((show fS (2 : Int32).toNatClampNeg = fS 2 from rfl).trans (zw)) ?_
                    refine vp_callSl (va_runS (As := [.int (nI wk)]) (rest := [.long (lN (msN (fun k => edB ee k = true) (T9 i) 36))]) ⟨hx, hb, hml, hown, hts⟩ (c_twenties l dC dI wk (by omega)) (va_cwS 1 hts gX12_odds_X12_twenties rfl rfl rfl hd_yX12_twenties.2 ⟨Nat.le_of_ble_eq_true rfl, Nat.le_of_ble_eq_true rfl⟩) ⟨fun a U g mk q => ⟨q.1, trivial⟩, fun U hU hW => ⟨rfl, trivial⟩⟩ rfl rfl hl.1 rfl (lv_room (Nat.le_of_ble_eq_true rfl)) dX12_odds_150 ⟨Nat.le_of_ble_eq_true rfl, Nat.le_of_ble_eq_true rfl⟩).run (fun r_69 hw_70 => ?_)
                    obtain rfl := hw_70
                    refine lv_iload_n hx hb dX12_odds_153 rfl (lv_at hl 4 rfl) ?_
                    refine vp_callSl (va_runS (As := [.long (lN (msN (fun k => edB ee k = true) (T9 i) 36)), .long (lN (20 ^ wk)), .int z]) (rest := []) ⟨hx, hb, hml, hown, hts⟩ (c_lowest l dC dI (msN (fun k => edB ee k = true) (T9 i) 36) (20 ^ wk) z (Nat.pow_pos (by decide)) (Nat.lt_of_le_of_lt ((hTB i (by omega)).2 _) (by decide)) (Nat.lt_of_le_of_lt (tw_p wk (by omega)) (by decide))) (va_cwS 3 hts gX12_odds_X12_lowest rfl rfl rfl hd_yX12_lowest.2 ⟨Nat.le_of_ble_eq_true rfl, Nat.le_of_ble_eq_true rfl⟩) ⟨fun a U g mk q => ⟨q.1, trivial⟩, fun U hU hW => ⟨rfl, trivial⟩⟩ rfl rfl hl.1 rfl (lv_room (Nat.le_of_ble_eq_true rfl)) dX12_odds_154 ⟨Nat.le_of_ble_eq_true rfl, Nat.le_of_ble_eq_true rfl⟩).run (fun r_71 hw_72 => ?_)
                    obtain rfl := hw_72
                    rw [hQ]
                    have hP9 := hP.sub (ws' := [(zo14irriiiiiirriirrrrlriiii m0 th aS aI im ac sp en wg op aB aT se9_58 dn9_59 aG aO aN aD bv aY rn kd nu tv), (zaI aS cS 901 fS), (zaI aB cB 6 fB9_56), (zaI aT cT 64 fT9_57), (zaL aO cO 36 fO2), (zaL aN cN 36 fN2), (zaI aD cD 36 fD9_60)]) [0, 1, 2, 3, 4, 5, 6] rfl
                    have hD9 := hD.sub (ws' := [(zo14irriiiiiirriirrrrlriiii m0 th aS aI im ac sp en wg op aB aT se9_58 dn9_59 aG aO aN aD bv aY rn kd nu tv), (zaI aS cS 901 fS), (zaI aB cB 6 fB9_56), (zaI aT cT 64 fT9_57), (zaL aO cO 36 fO2), (zaL aN cN 36 fN2), (zaI aD cD 36 fD9_60)]) [0, 1, 2, 3, 4, 5, 6] (by decide) rfl
                    have hK9 := hK.sub (tys' := [(cS, .int), (cB, .int), (cT, .boolean), (cO, .long), (cN, .long), (cD, .int)]) [0, 1, 2, 3, 4, 5] rfl
                    exact W.lret (v := ptR (msN (fun k => edB ee k = true) (T9 i) 36) (20 ^ wk) z) hx hb hr (fun tQ htQ hWQ => ⟨⟨(ptR (msN (fun k => edB ee k = true) (T9 i) 36) (20 ^ wk) z), (fB9_56, fT9_57, se9_58, dn9_59, fD9_60, fO2, fN2), rfl, od_o (by omega) c_47 (by assumption) (by assumption) hT9 (by omega), by rw [htQ]; exact hP9, va_K.moved hWQ.alike hK9, hD9⟩, hS.F htQ⟩) hS.2.2 dX12_odds_157
                · skip
                  have c_64 : ¬ wk ≤ i := fun q => c_64 ((nI_leI (a := wk) (b := i) (by omega) (by omega)).mpr q)
                  refine lv_aload_n hx hb dX12_odds_85 rfl (lv_at hl 0 rfl) ?_
                  refine lv_aload_n hx hb dX12_odds_86 rfl (lv_at hl 0 rfl) ?_
                  refine va_get (D := (dC, dI)) (ci := 14) (v := .ref aS) (C := RX12) (T := TX12) (N := 23) hx hb hts kc_mOdds_0 hown hK hP 0 rfl rfl 1 (by decide) (hts (.fieldLink RX12 9 "MistHeapsModel" "s" "[I") kc_mOdds_1) (fun _ h9 => h9) rfl dX12_odds_87 ?_
                  refine lv_bipush (v := 73) hx hb dX12_odds_90 (by decide) ?_
                  refine lv_iload hx hb dX12_odds_92 (lv_at hl 5 rfl) ?_
                  refine lv_iadd hx hb dX12_odds_94 ?_
                  refine qi_as (y := nI (73 + i)) (nI_add 73 i) ?_
                  refine va_iald hx hb hK hP 1 0 rfl rfl (vp_in_nI (n := 73 + i) (N := 901) (by omega) (by omega)) dX12_odds_95 ?_
                  refine qi_as (y := nI (wy i)) ((show fS (nI (73 + i) : Int32).toNatClampNeg = fS (73 + i) from by rw [nI_clamp (by omega)]).trans (zwy i (by omega))) ?_
                  have hPc := hP.sub (ws' := [(zo14irriiiiiirriirrrrlriiii m0 th aS aI im ac sp en wg op aB aT se9_58 dn9_59 aG aO aN aD bv aY rn kd nu tv), (zaI aS cS 901 fS), (zaL aO cO 36 fO2), (zaL aN cN 36 fN2), (zaI aD cD 36 fD9_60)]) [0, 1, 4, 5, 6] rfl
                  have hDc := hD.sub (ws' := [(zo14irriiiiiirriirrrrlriiii m0 th aS aI im ac sp en wg op aB aT se9_58 dn9_59 aG aO aN aD bv aY rn kd nu tv), (zaI aS cS 901 fS), (zaL aO cO 36 fO2), (zaL aN cN 36 fN2), (zaI aD cD 36 fD9_60)]) [0, 1, 4, 5, 6] (by decide) rfl
                  have hKc := hK.sub (tys' := [(cS, .int), (cO, .long), (cN, .long), (cD, .int)]) [0, 3, 4, 5] rfl
                  have hFc := va_free (wc := [(zo14irriiiiiirriirrrrlriiii m0 th aS aI im ac sp en wg op aB aT se9_58 dn9_59 aG aO aN aD bv aY rn kd nu tv), (zaI aS cS 901 fS), (zaL aO cO 36 fO2), (zaL aN cN 36 fN2), (zaI aD cD 36 fD9_60)]) hD hS hA [0, 1, 4, 5, 6] rfl
                  refine va_callv (va_runV (As := [.int (nI (wy i))]) (rest := []) ⟨hx, hb, hml, hown, hts⟩ (c_goesOn l dC dI m0 aS aI aB aT aG aO aN aD aY th im ac sp en wg op se9_58 dn9_59 rn kd nu tv bv cS cO cN cD fS fO2 fN2 fD9_60 (wy i) (T9 i) (drN cz mi sn) (edB ee) H.size (hwy i) (hTi) ((hTB i (by omega)).1) (hdr) (hed)) (cwV 1 hts gX12_odds_X12_goesOn rfl rfl rfl hd_yX12_goesOn ⟨Nat.le_of_ble_eq_true rfl, Nat.le_of_ble_eq_true rfl⟩) ⟨fun a U g mk q => by obtain ⟨q0, q1, qP, qK, qD⟩ := q; exact ⟨q0, mvz g mk a q1, mvP g mk a qP, mvK g mk a qK, qD⟩, va_recv hK hP (ci := 14) (q := (RX12, TX12, 23)) (q0 := 0) rfl rfl, fun U hU hW => ⟨rfl, by rw [hU], by rw [hU]; exact hPc, va_K.moved hW.alike hKc, hDc.weaken (fun _ _ _ _ => trivial)⟩⟩ rfl rfl hl.1 rfl (lv_room (Nat.le_of_ble_eq_true rfl)) dX12_odds_96 ⟨Nat.le_of_ble_eq_true rfl, Nat.le_of_ble_eq_true rfl⟩) hS (fun q _ h => hFc q h) hFc (fun u tC H1 locs htC hvm hw_74 hB hz1 hk1 hS => ?_)
                  obtain ⟨fO9_75, fN9_76⟩ := u
                  try dsimp only at hw_74 hB
                  obtain ⟨hP1, hK1, hD1⟩ := hB
                  rw [htC] at hP1
                  have hK1 := va_K.moved hvm.symm hK1
                  obtain ⟨hP, hD⟩ := va_join (wr := [(zaI aB cB 6 fB9_56), (zaI aT cT 64 fT9_57)]) (w1 := [(zo14irriiiiiirriirrrrlriiii m0 th aS aI im ac sp en wg op aB aT se9_58 dn9_59 aG aO aN aD bv aY rn kd nu tv), (zaI aS cS 901 fS), (zaL aO cO 36 fO9_75), (zaL aN cN 36 fN9_76), (zaI aD cD 36 fD9_60)]) hP hD [0, 1, 4, 5, 6] [2, 3] rfl rfl (by decide) (by decide) hk1 hFc hP1 hD1
                  have hK := (hK.sub (tys' := [(cB, .int), (cT, .boolean)]) [1, 2] rfl).app hK1
                  generalize H1 = H at hP hS ⊢
                  have hP : va_P (dC, dI) vwCl [(zaI aB cB 6 fB9_56), (zaI aT cT 64 fT9_57), (zo14irriiiiiirriirrrrlriiii m0 th aS aI im ac sp en wg op aB aT se9_58 dn9_59 aG aO aN aD bv aY rn kd nu tv), (zaI aS cS 901 fS), (zaL aO cO 36 fO9_75), (zaL aN cN 36 fN9_76), (zaI aD cD 36 fD9_60)] H := hP
                  have hD : va_D A [(zaI aB cB 6 fB9_56), (zaI aT cT 64 fT9_57), (zo14irriiiiiirriirrrrlriiii m0 th aS aI im ac sp en wg op aB aT se9_58 dn9_59 aG aO aN aD bv aY rn kd nu tv), (zaI aS cS 901 fS), (zaL aO cO 36 fO9_75), (zaL aN cN 36 fN9_76), (zaI aD cD 36 fD9_60)] := hD
                  have hK : va_K (dC, dI) vwCl [(cB, .int), (cT, .boolean), (cS, .int), (cO, .long), (cN, .long), (cD, .int)] s := hK
                  have hT8 : lnA fO9_75 (T9 (i + 1)) := by rw [hT9] at hw_74 ⊢; exact hw_74
                  refine lv_iinc (v := nI (i + 1)) (lv' := [(5, .int (nI (i + 1))), (0, .ref m0), (1, .int (nI j_7)), (2, .int y), (3, .int z), (4, .int 0)]) hx hb dX12_odds_99 hl (k := 5) rfl (nI_add i 1) (by decide) rfl (fun ls hl => ?_)
                  refine lv_goto (tgt := 74) hx hb dX12_odds_102 (by decide) ?_
                  exact ih74 (i + 1) (fO9_75) (fN9_76) (by omega) (by omega) (hT8) _ _ (hK.sub [2, 0, 1, 3, 4, 5] rfl) (hP.sub [2, 3, 0, 1, 4, 5, 6] rfl) (hD.sub [2, 3, 0, 1, 4, 5, 6] (by decide) rfl) hS ls (lv_sub hl [1, 2, 3, 4, 5, 0] rfl)
            exact L74 _ (0) (fO9_63) (fN) (Nat.lt_succ_self _) (by omega) (hT0) _ _ (hK.sub [1, 2, 3, 5, 0, 4] rfl) (hP.sub [5, 1, 2, 3, 6, 0, 4] rfl) (hD.sub [5, 1, 2, 3, 6, 0, 4] (by decide) rfl) hS ls (lv_sub hl [2, 3, 4, 5, 1, 0] rfl)
          · skip
            refine lv_if_ne (tgt := 62) hx hb dX12_odds_55 (by decide) (fun c_77 => absurd c_77 (by decide)) (fun _ => ?_)
            refine lv_ldc2 (v := (-9223372036854775808)) hx hb hown (hts (.constantLong RX12 181 (-9223372036854775808)) kc_mOdds_3) dX12_odds_58 ?_
            rw [hQ]
            have hP9 := hP.sub (ws' := [(zo14irriiiiiirriirrrrlriiii m0 th aS aI im ac sp en wg op aB aT se dn aG aO aN aD bv aY rn kd nu tv), (zaI aS cS 901 fS), (zaI aB cB 6 fB), (zaI aT cT 64 fT), (zaL aO cO 36 fO), (zaL aN cN 36 fN), (zaI aD cD 36 fD)]) [0, 1, 2, 3, 4, 5, 6] rfl
            have hD9 := hD.sub (ws' := [(zo14irriiiiiirriirrrrlriiii m0 th aS aI im ac sp en wg op aB aT se dn aG aO aN aD bv aY rn kd nu tv), (zaI aS cS 901 fS), (zaI aB cB 6 fB), (zaI aT cT 64 fT), (zaL aO cO 36 fO), (zaL aN cN 36 fN), (zaI aD cD 36 fD)]) [0, 1, 2, 3, 4, 5, 6] (by decide) rfl
            have hK9 := hK.sub (tys' := [(cS, .int), (cB, .int), (cT, .boolean), (cO, .long), (cN, .long), (cD, .int)]) [0, 1, 2, 3, 4, 5] rfl
            exact W.lret (v := (-9223372036854775808)) hx hb hr (fun tQ htQ hWQ => ⟨⟨(-9223372036854775808), (fB, fT, se, dn, fD, fO, fN), rfl, by first | exact od_no1 (by assumption) | exact od_no3 (by assumption) | exact od_no2 (by assumption) (by assumption) (by first | exact Or.inl (by assumption) | exact Or.inr (by assumption)), by rw [htQ]; exact hP9, va_K.moved hWQ.alike hK9, hD9⟩, hS.F htQ⟩) hS.2.2 dX12_odds_61
        · skip
          refine lv_iload hx hb dX12_odds_44 (lv_at hl 0 rfl) ?_
          refine lv_if_eq (tgt := 58) hx hb dX12_odds_46 (by decide) (fun _ => ?_) (fun c_78 => absurd c_78 (by decide))
          refine lv_ldc2 (v := (-9223372036854775808)) hx hb hown (hts (.constantLong RX12 181 (-9223372036854775808)) kc_mOdds_3) dX12_odds_58 ?_
          rw [hQ]
          have hP9 := hP.sub (ws' := [(zo14irriiiiiirriirrrrlriiii m0 th aS aI im ac sp en wg op aB aT se dn aG aO aN aD bv aY rn kd nu tv), (zaI aS cS 901 fS), (zaI aB cB 6 fB), (zaI aT cT 64 fT), (zaL aO cO 36 fO), (zaL aN cN 36 fN), (zaI aD cD 36 fD)]) [0, 1, 2, 3, 4, 5, 6] rfl
          have hD9 := hD.sub (ws' := [(zo14irriiiiiirriirrrrlriiii m0 th aS aI im ac sp en wg op aB aT se dn aG aO aN aD bv aY rn kd nu tv), (zaI aS cS 901 fS), (zaI aB cB 6 fB), (zaI aT cT 64 fT), (zaL aO cO 36 fO), (zaL aN cN 36 fN), (zaI aD cD 36 fD)]) [0, 1, 2, 3, 4, 5, 6] (by decide) rfl
          have hK9 := hK.sub (tys' := [(cS, .int), (cB, .int), (cT, .boolean), (cO, .long), (cN, .long), (cD, .int)]) [0, 1, 2, 3, 4, 5] rfl
          exact W.lret (v := (-9223372036854775808)) hx hb hr (fun tQ htQ hWQ => ⟨⟨(-9223372036854775808), (fB, fT, se, dn, fD, fO, fN), rfl, by first | exact od_no1 (by assumption) | exact od_no3 (by assumption) | exact od_no2 (by assumption) (by assumption) (by first | exact Or.inl (by assumption) | exact Or.inr (by assumption)), by rw [htQ]; exact hP9, va_K.moved hWQ.alike hK9, hD9⟩, hS.F htQ⟩) hS.2.2 dX12_odds_61
    · skip
      refine lv_if_eq (tgt := 58) hx hb dX12_odds_28 (by decide) (fun _ => ?_) (fun c_79 => absurd c_79 (by decide))
      refine lv_ldc2 (v := (-9223372036854775808)) hx hb hown (hts (.constantLong RX12 181 (-9223372036854775808)) kc_mOdds_3) dX12_odds_58 ?_
      rw [hQ]
      have hP9 := hP.sub (ws' := [(zo14irriiiiiirriirrrrlriiii m0 th aS aI im ac sp en wg op aB aT se dn aG aO aN aD bv aY rn kd nu tv), (zaI aS cS 901 fS), (zaI aB cB 6 fB), (zaI aT cT 64 fT), (zaL aO cO 36 fO), (zaL aN cN 36 fN), (zaI aD cD 36 fD)]) [0, 1, 2, 3, 4, 5, 6] rfl
      have hD9 := hD.sub (ws' := [(zo14irriiiiiirriirrrrlriiii m0 th aS aI im ac sp en wg op aB aT se dn aG aO aN aD bv aY rn kd nu tv), (zaI aS cS 901 fS), (zaI aB cB 6 fB), (zaI aT cT 64 fT), (zaL aO cO 36 fO), (zaL aN cN 36 fN), (zaI aD cD 36 fD)]) [0, 1, 2, 3, 4, 5, 6] (by decide) rfl
      have hK9 := hK.sub (tys' := [(cS, .int), (cB, .int), (cT, .boolean), (cO, .long), (cN, .long), (cD, .int)]) [0, 1, 2, 3, 4, 5] rfl
      exact W.lret (v := (-9223372036854775808)) hx hb hr (fun tQ htQ hWQ => ⟨⟨(-9223372036854775808), (fB, fT, se, dn, fD, fO, fN), rfl, by first | exact od_no1 (by assumption) | exact od_no3 (by assumption) | exact od_no2 (by assumption) (by assumption) (by first | exact Or.inl (by assumption) | exact Or.inr (by assumption)), by rw [htQ]; exact hP9, va_K.moved hWQ.alike hK9, hD9⟩, hS.F htQ⟩) hS.2.2 dX12_odds_61
  · skip
    refine lv_aload_n hx hb dX12_odds_6 rfl (lv_at hl 0 rfl) ?_
    refine lv_iload_n hx hb dX12_odds_7 rfl (lv_at hl 2 rfl) ?_
    refine lv_bipush (v := 50) hx hb dX12_odds_8 (by decide) ?_
    refine lv_isub hx hb dX12_odds_10 ?_
    have hPc := hP.sub (ws' := [(zo14irriiiiiirriirrrrlriiii m0 th aS aI im ac sp en wg op aB aT se dn aG aO aN aD bv aY rn kd nu tv), (zaI aS cS 901 fS)]) [0, 1] rfl
    have hKc := hK.sub (tys' := [(cS, .int)]) [0] rfl
    refine vp_callSi (va_runV (As := [.int (y - 50)]) (rest := []) ⟨hx, hb, hml, hown, hts⟩ (c_isHeap l dC dI m0 aS aI aB aT aG aO aN aD aY th im ac sp en wg op se dn rn kd nu tv bv cS fS n (y - 50) (zn) (hn)) (cwV 1 hts gX12_odds_X12_isHeap rfl rfl rfl hd_yX12_isHeap ⟨Nat.le_of_ble_eq_true rfl, Nat.le_of_ble_eq_true rfl⟩) ⟨fun a U g mk q => by obtain ⟨q0, qP, qK⟩ := q; exact ⟨q0, mvP g mk a qP, mvK g mk a qK⟩, va_recv hK hP (ci := 14) (q := (RX12, TX12, 23)) (q0 := 0) rfl rfl, fun U hU hW => ⟨rfl, by rw [hU]; exact hPc, va_K.moved hW.alike hKc⟩⟩ rfl rfl hl.1 rfl (lv_room (Nat.le_of_ble_eq_true rfl)) dX12_odds_11 ⟨Nat.le_of_ble_eq_true rfl, Nat.le_of_ble_eq_true rfl⟩).run (fun r_80 hw_81 => ?_)
    rcases hw_81 with ⟨rfl, j_82, hj_83, ej_84⟩ | ⟨rfl, h_85⟩
    · skip
      refine lv_if_eq (tgt := 21) hx hb dX12_odds_14 (by decide) (fun c_86 => absurd c_86 (by decide)) (fun _ => ?_)
      refine lv_iconst (v := 1) hx hb dX12_odds_17 (by decide) ?_
      refine lv_goto (tgt := 22) hx hb dX12_odds_18 (by decide) ?_
      refine lv_istore (lv' := [(4, .int 1), (0, .ref m0), (1, .int x), (2, .int y), (3, .int z)]) hx hb dX12_odds_22 hl (by decide) rfl (fun ls hl => ?_)
      refine lv_iload_n hx hb dX12_odds_24 rfl (lv_at hl 2 rfl) ?_
      refine vp_callSi (va_runS (As := [.int x]) (rest := []) ⟨hx, hb, hml, hown, hts⟩ (c_mCell l dC dI x) (va_cwS 1 hts gX12_odds_X12_isCell rfl rfl rfl hd_yX12_isCell.2 ⟨Nat.le_of_ble_eq_true rfl, Nat.le_of_ble_eq_true rfl⟩) ⟨fun a U g mk q => ⟨q.1, trivial⟩, fun U hU hW => ⟨rfl, trivial⟩⟩ rfl rfl hl.1 rfl (lv_room (Nat.le_of_ble_eq_true rfl)) dX12_odds_25 ⟨Nat.le_of_ble_eq_true rfl, Nat.le_of_ble_eq_true rfl⟩).run (fun r_87 hw_88 => ?_)
      rcases hw_88 with ⟨rfl, h_89, h_90⟩ | ⟨rfl, h_91⟩
      · skip
        obtain ⟨j_92, hj_93, rfl⟩ := nI_of2 (n := 35) (M := 35) rfl h_89 (Int32.not_lt.mp h_90)
        refine lv_if_eq (tgt := 58) hx hb dX12_odds_28 (by decide) (fun c_94 => absurd c_94 (by decide)) (fun _ => ?_)
        refine lv_iload_n hx hb dX12_odds_31 rfl (lv_at hl 3 rfl) ?_
        refine vp_callSi (va_runS (As := [.int y]) (rest := []) ⟨hx, hb, hml, hown, hts⟩ (c_mCell l dC dI y) (va_cwS 1 hts gX12_odds_X12_isCell rfl rfl rfl hd_yX12_isCell.2 ⟨Nat.le_of_ble_eq_true rfl, Nat.le_of_ble_eq_true rfl⟩) ⟨fun a U g mk q => ⟨q.1, trivial⟩, fun U hU hW => ⟨rfl, trivial⟩⟩ rfl rfl hl.1 rfl (lv_room (Nat.le_of_ble_eq_true rfl)) dX12_odds_32 ⟨Nat.le_of_ble_eq_true rfl, Nat.le_of_ble_eq_true rfl⟩).run (fun r_95 hw_96 => ?_)
        rcases hw_96 with ⟨rfl, h_97, h_98⟩ | ⟨rfl, h_99⟩
        · skip
          obtain ⟨j_100, hj_101, rfl⟩ := nI_of2 (n := 35) (M := 35) rfl h_97 (Int32.not_lt.mp h_98)
          exact absurd (show nI j_100 < 50 from (nI_ltI (a := j_100) (b := 50) (by omega) (by omega)).mpr (by omega)) c_1
        · skip
          refine lv_if_ne (tgt := 49) hx hb dX12_odds_35 (by decide) (fun c_102 => absurd c_102 (by decide)) (fun _ => ?_)
          refine lv_iload_n hx hb dX12_odds_38 rfl (lv_at hl 3 rfl) ?_
          refine lv_bipush (v := 40) hx hb dX12_odds_39 (by decide) ?_
          refine lv_icmp_eq (tgt := 49) hx hb dX12_odds_41 (by decide) (fun c_103 => ?_) (fun c_103 => ?_)
          · skip
            exact absurd (show y < 50 by rw [c_103]; decide) c_1
          · skip
            refine lv_iload hx hb dX12_odds_44 (lv_at hl 0 rfl) ?_
            refine lv_if_eq (tgt := 58) hx hb dX12_odds_46 (by decide) (fun c_104 => absurd c_104 (by decide)) (fun _ => ?_)
            refine lv_iload_n hx hb dX12_odds_49 rfl (lv_at hl 4 rfl) ?_
            refine lv_iconst (v := 0) hx hb dX12_odds_50 (by decide) ?_
            refine lv_iconst (v := 1) hx hb dX12_odds_51 (by decide) ?_
            refine vp_callSi (va_runS (As := [.int z, .int 0, .int 1]) (rest := []) ⟨hx, hb, hml, hown, hts⟩ (c_in l dC dI z 0 1) (va_cwS 3 hts gX12_odds_X12_in rfl rfl rfl hd_yX12_in.2 ⟨Nat.le_of_ble_eq_true rfl, Nat.le_of_ble_eq_true rfl⟩) ⟨fun a U g mk q => ⟨q.1, trivial⟩, fun U hU hW => ⟨rfl, trivial⟩⟩ rfl rfl hl.1 rfl (lv_room (Nat.le_of_ble_eq_true rfl)) dX12_odds_52 ⟨Nat.le_of_ble_eq_true rfl, Nat.le_of_ble_eq_true rfl⟩).run (fun r_105 hw_106 => ?_)
            rcases hw_106 with ⟨rfl, h_107, h_108⟩ | ⟨rfl, h_109⟩
            · skip
              refine lv_if_ne (tgt := 62) hx hb dX12_odds_55 (by decide) (fun _ => ?_) (fun c_110 => absurd c_110 (by decide))
              have hw3 := hol_w3 zh
              have hd5 : ∀ c, c < 36 → drN cz mi sn c ≤ 5 := fun c _ => (dr_ok hw3.1 hw3.2 c).2
              have hed := ed_m zee
              obtain ⟨T9, hT9⟩ : ∃ T : Nat → Nat → Nat, T = tmN (edB ee) (drN cz mi sn) wy j_92 := ⟨_, rfl⟩
              have hTB := od_b (show j_92 < 36 by omega) hd5 hwy hT9
              refine lv_aload_n hx hb dX12_odds_62 rfl (lv_at hl 1 rfl) ?_
              have hPc := hP.sub (ws' := [(zo14irriiiiiirriirrrrlriiii m0 th aS aI im ac sp en wg op aB aT se dn aG aO aN aD bv aY rn kd nu tv), (zaI aS cS 901 fS), (zaI aB cB 6 fB), (zaI aT cT 64 fT), (zaI aD cD 36 fD)]) [0, 1, 2, 3, 6] rfl
              have hDc := hD.sub (ws' := [(zo14irriiiiiirriirrrrlriiii m0 th aS aI im ac sp en wg op aB aT se dn aG aO aN aD bv aY rn kd nu tv), (zaI aS cS 901 fS), (zaI aB cB 6 fB), (zaI aT cT 64 fT), (zaI aD cD 36 fD)]) [0, 1, 2, 3, 6] (by decide) rfl
              have hKc := hK.sub (tys' := [(cS, .int), (cB, .int), (cT, .boolean), (cD, .int)]) [0, 1, 2, 5] rfl
              have hFc := va_free (wc := [(zo14irriiiiiirriirrrrlriiii m0 th aS aI im ac sp en wg op aB aT se dn aG aO aN aD bv aY rn kd nu tv), (zaI aS cS 901 fS), (zaI aB cB 6 fB), (zaI aT cT 64 fT), (zaI aD cD 36 fD)]) hD hS hA [0, 1, 2, 3, 6] rfl
              refine va_callv (va_runV (As := []) (rest := []) ⟨hx, hb, hml, hown, hts⟩ (c_lookDrifts l dC dI m0 aS aI aB aT aG aO aN aD aY th im ac sp en wg op se dn rn kd nu tv bv cS cB cT cD fS fB fT fD cz H.size (zh)) (cwV 0 hts gX12_odds_X12_looksForDrifts rfl rfl rfl hd_yX12_looksForDrifts ⟨Nat.le_of_ble_eq_true rfl, Nat.le_of_ble_eq_true rfl⟩) ⟨fun a U g mk q => by obtain ⟨q0, q1, qP, qK, qD⟩ := q; exact ⟨q0, mvz g mk a q1, mvP g mk a qP, mvK g mk a qK, qD⟩, va_recv hK hP (ci := 14) (q := (RX12, TX12, 23)) (q0 := 0) rfl rfl, fun U hU hW => ⟨rfl, by rw [hU], by rw [hU]; exact hPc, va_K.moved hW.alike hKc, hDc.weaken (fun _ _ _ _ => trivial)⟩⟩ rfl rfl hl.1 rfl (lv_room (Nat.le_of_ble_eq_true rfl)) dX12_odds_63 ⟨Nat.le_of_ble_eq_true rfl, Nat.le_of_ble_eq_true rfl⟩) hS (fun q _ h => hFc q h) hFc (fun u tC H1 locs htC hvm hw_112 hB hz1 hk1 hS => ?_)
              obtain ⟨fB9_113, fT9_114, se9_115, dn9_116, fD9_117⟩ := u
              try dsimp only at hw_112 hB
              obtain ⟨hP1, hK1, hD1⟩ := hB
              rw [htC] at hP1
              have hK1 := va_K.moved hvm.symm hK1
              obtain ⟨hP, hD⟩ := va_join (wr := [(zaL aO cO 36 fO), (zaL aN cN 36 fN)]) (w1 := [(zo14irriiiiiirriirrrrlriiii m0 th aS aI im ac sp en wg op aB aT se9_115 dn9_116 aG aO aN aD bv aY rn kd nu tv), (zaI aS cS 901 fS), (zaI aB cB 6 fB9_113), (zaI aT cT 64 fT9_114), (zaI aD cD 36 fD9_117)]) hP hD [0, 1, 2, 3, 6] [4, 5] rfl rfl (by decide) (by decide) hk1 hFc hP1 hD1
              have hK := (hK.sub (tys' := [(cO, .long), (cN, .long)]) [3, 4] rfl).app hK1
              generalize H1 = H at hP hS ⊢
              have hP : va_P (dC, dI) vwCl [(zaL aO cO 36 fO), (zaL aN cN 36 fN), (zo14irriiiiiirriirrrrlriiii m0 th aS aI im ac sp en wg op aB aT se9_115 dn9_116 aG aO aN aD bv aY rn kd nu tv), (zaI aS cS 901 fS), (zaI aB cB 6 fB9_113), (zaI aT cT 64 fT9_114), (zaI aD cD 36 fD9_117)] H := hP
              have hD : va_D A [(zaL aO cO 36 fO), (zaL aN cN 36 fN), (zo14irriiiiiirriirrrrlriiii m0 th aS aI im ac sp en wg op aB aT se9_115 dn9_116 aG aO aN aD bv aY rn kd nu tv), (zaI aS cS 901 fS), (zaI aB cB 6 fB9_113), (zaI aT cT 64 fT9_114), (zaI aD cD 36 fD9_117)] := hD
              have hK : va_K (dC, dI) vwCl [(cO, .long), (cN, .long), (cS, .int), (cB, .int), (cT, .boolean), (cD, .int)] s := hK
              have hdr : ∀ k, k < 36 → fD9_117 k = nI (drN cz mi sn k) ∧ drN cz mi sn k ≤ 5 := fun k hk => by rw [hw_112 k hk, zmi, zsn]; exact dr_ok (hol_w3 zh).1 (hol_w3 zh).2 k
              refine lv_aload_n hx hb dX12_odds_66 rfl (lv_at hl 1 rfl) ?_
              refine lv_iload_n hx hb dX12_odds_67 rfl (lv_at hl 2 rfl) ?_
              have hPc := hP.sub (ws' := [(zo14irriiiiiirriirrrrlriiii m0 th aS aI im ac sp en wg op aB aT se9_115 dn9_116 aG aO aN aD bv aY rn kd nu tv), (zaL aO cO 36 fO)]) [2, 0] rfl
              have hDc := hD.sub (ws' := [(zo14irriiiiiirriirrrrlriiii m0 th aS aI im ac sp en wg op aB aT se9_115 dn9_116 aG aO aN aD bv aY rn kd nu tv), (zaL aO cO 36 fO)]) [2, 0] (by decide) rfl
              have hKc := hK.sub (tys' := [(cO, .long)]) [0] rfl
              have hFc := va_free (wc := [(zo14irriiiiiirriirrrrlriiii m0 th aS aI im ac sp en wg op aB aT se9_115 dn9_116 aG aO aN aD bv aY rn kd nu tv), (zaL aO cO 36 fO)]) hD hS hA [2, 0] rfl
              refine va_callv (va_runV (As := [.int (nI j_92)]) (rest := []) ⟨hx, hb, hml, hown, hts⟩ (c_begins l dC dI m0 aS aI aB aT aG aO aN aD aY th im ac sp en wg op se9_115 dn9_116 rn kd nu tv bv cO fO j_92 H.size (by omega)) (cwV 1 hts gX12_odds_X12_begins rfl rfl rfl hd_yX12_begins ⟨Nat.le_of_ble_eq_true rfl, Nat.le_of_ble_eq_true rfl⟩) ⟨fun a U g mk q => by obtain ⟨q0, q1, qP, qK, qD⟩ := q; exact ⟨q0, mvz g mk a q1, mvP g mk a qP, mvK g mk a qK, qD⟩, va_recv hK hP (ci := 14) (q := (RX12, TX12, 23)) (q0 := 2) rfl rfl, fun U hU hW => ⟨rfl, by rw [hU], by rw [hU]; exact hPc, va_K.moved hW.alike hKc, hDc.weaken (fun _ _ _ _ => trivial)⟩⟩ rfl rfl hl.1 rfl (lv_room (Nat.le_of_ble_eq_true rfl)) dX12_odds_68 ⟨Nat.le_of_ble_eq_true rfl, Nat.le_of_ble_eq_true rfl⟩) hS (fun q _ h => hFc q h) hFc (fun u tC H1 locs htC hvm hw_119 hB hz1 hk1 hS => ?_)
              obtain ⟨fO9_120, rfl⟩ : ∃ z, z = u := ⟨_, rfl⟩
              try dsimp only at hw_119 hB
              obtain ⟨hP1, hK1, hD1⟩ := hB
              rw [htC] at hP1
              have hK1 := va_K.moved hvm.symm hK1
              obtain ⟨hP, hD⟩ := va_join (wr := [(zaL aN cN 36 fN), (zaI aS cS 901 fS), (zaI aB cB 6 fB9_113), (zaI aT cT 64 fT9_114), (zaI aD cD 36 fD9_117)]) (w1 := [(zo14irriiiiiirriirrrrlriiii m0 th aS aI im ac sp en wg op aB aT se9_115 dn9_116 aG aO aN aD bv aY rn kd nu tv), (zaL aO cO 36 fO9_120)]) hP hD [2, 0] [1, 3, 4, 5, 6] rfl rfl (by decide) (by decide) hk1 hFc hP1 hD1
              have hK := (hK.sub (tys' := [(cN, .long), (cS, .int), (cB, .int), (cT, .boolean), (cD, .int)]) [1, 2, 3, 4, 5] rfl).app hK1
              generalize H1 = H at hP hS ⊢
              have hP : va_P (dC, dI) vwCl [(zaL aN cN 36 fN), (zaI aS cS 901 fS), (zaI aB cB 6 fB9_113), (zaI aT cT 64 fT9_114), (zaI aD cD 36 fD9_117), (zo14irriiiiiirriirrrrlriiii m0 th aS aI im ac sp en wg op aB aT se9_115 dn9_116 aG aO aN aD bv aY rn kd nu tv), (zaL aO cO 36 fO9_120)] H := hP
              have hD : va_D A [(zaL aN cN 36 fN), (zaI aS cS 901 fS), (zaI aB cB 6 fB9_113), (zaI aT cT 64 fT9_114), (zaI aD cD 36 fD9_117), (zo14irriiiiiirriirrrrlriiii m0 th aS aI im ac sp en wg op aB aT se9_115 dn9_116 aG aO aN aD bv aY rn kd nu tv), (zaL aO cO 36 fO9_120)] := hD
              have hK : va_K (dC, dI) vwCl [(cN, .long), (cS, .int), (cB, .int), (cT, .boolean), (cD, .int), (cO, .long)] s := hK
              have hT0 : lnA fO9_120 (T9 0) := by rw [hT9]; exact hw_119
              refine lv_iconst (v := 0) hx hb dX12_odds_71 (by decide) ?_
              refine lv_istore (lv' := [(5, .int 0), (4, .int 1), (0, .ref m0), (1, .int (nI j_92)), (2, .int y), (3, .int z)]) hx hb dX12_odds_72 hl (by decide) rfl (fun ls hl => ?_)
              have L74 : ∀ (nF : Nat) (i : Nat) (fO2 : Nat → Int64) (fN2 : Nat → Int64), wk - i < nF → (i ≤ wk) → (lnA fO2 (T9 i)) → ∀ (H : Heap) (locs : List Loc), va_K (dC, dI) vwCl [(cS, .int), (cB, .int), (cT, .boolean), (cO, .long), (cN, .long), (cD, .int)] s → va_P (dC, dI) vwCl [(zo14irriiiiiirriirrrrlriiii m0 th aS aI im ac sp en wg op aB aT se9_115 dn9_116 aG aO aN aD bv aY rn kd nu tv), (zaI aS cS 901 fS), (zaI aB cB 6 fB9_113), (zaI aT cT 64 fT9_114), (zaL aO cO 36 fO2), (zaL aN cN 36 fN2), (zaI aD cD 36 fD9_117)] H → va_D A [(zo14irriiiiiirriirrrrlriiii m0 th aS aI im ac sp en wg op aB aT se9_115 dn9_116 aG aO aN aD bv aY rn kd nu tv), (zaI aS cS 901 fS), (zaI aB cB 6 fB9_113), (zaI aT cT 64 fT9_114), (zaL aO cO 36 fO2), (zaL aN cN 36 fN2), (zaI aD cD 36 fD9_117)] → va_S A s.heap H locs → ∀ (ls : Array Slot), lv_has ls 7 [(0, .ref m0), (1, .int (nI j_92)), (2, .int y), (3, .int z), (4, .int 1), (5, .int (nI i))] → W p l e ({ frames := 4, cells := 0, slots := 0, locals := 101 } : Room) s m args below meth c H locs 0 0 Q (F0 m 74 ls []) := by
                intro nF
                induction nF with
                | zero => intro i fO2 fN2 hm; exact absurd hm (Nat.not_lt_zero _)
                | succ nF ih74 =>
                  intro i fO2 fN2 hm hi hTi H locs hK hP hD hS ls hl
                  refine lv_iload hx hb dX12_odds_74 (lv_at hl 5 rfl) ?_
                  refine lv_aload_n hx hb dX12_odds_76 rfl (lv_at hl 0 rfl) ?_
                  refine va_get (D := (dC, dI)) (ci := 14) (v := .ref aS) (C := RX12) (T := TX12) (N := 23) hx hb hts kc_mOdds_0 hown hK hP 0 rfl rfl 1 (by decide) (hts (.fieldLink RX12 9 "MistHeapsModel" "s" "[I") kc_mOdds_1) (fun _ h9 => h9) rfl dX12_odds_77 ?_
                  refine lv_iconst (v := 2) hx hb dX12_odds_80 (by decide) ?_
                  refine va_iald hx hb hK hP 1 0 rfl rfl (vp_in_nI (n := 2) (N := 901) (by omega) (by omega)) dX12_odds_81 ?_
                  refine qi_as (y := nI wk) ((show fS (2 : Int32).toNatClampNeg = fS 2 from rfl).trans (zw)) ?_
                  refine lv_icmp_ge (tgt := 105) hx hb dX12_odds_82 (by decide) (fun c_121 => ?_) (fun c_121 => ?_)
                  · skip
                    have c_121 : wk ≤ i := (nI_leI (a := wk) (b := i) (by omega) (by omega)).mp c_121
                    refine lv_iload hx hb dX12_odds_105 (lv_at hl 4 rfl) ?_
                    refine lv_if_eq (tgt := 121) hx hb dX12_odds_107 (by decide) (fun c_122 => absurd c_122 (by decide)) (fun _ => ?_)
                    refine lv_aload_n hx hb dX12_odds_110 rfl (lv_at hl 0 rfl) ?_
                    refine lv_iload_n hx hb dX12_odds_111 rfl (lv_at hl 2 rfl) ?_
                    refine lv_bipush (v := 50) hx hb dX12_odds_112 (by decide) ?_
                    refine lv_isub hx hb dX12_odds_114 ?_
                    refine qi_as (y := nI j_82) (ej_84) ?_
                    have hPc := hP.sub (ws' := [(zo14irriiiiiirriirrrrlriiii m0 th aS aI im ac sp en wg op aB aT se9_115 dn9_116 aG aO aN aD bv aY rn kd nu tv), (zaI aS cS 901 fS), (zaI aB cB 6 fB9_113), (zaI aT cT 64 fT9_114), (zaL aO cO 36 fO2)]) [0, 1, 2, 3, 4] rfl
                    have hDc := hD.sub (ws' := [(zo14irriiiiiirriirrrrlriiii m0 th aS aI im ac sp en wg op aB aT se9_115 dn9_116 aG aO aN aD bv aY rn kd nu tv), (zaI aS cS 901 fS), (zaI aB cB 6 fB9_113), (zaI aT cT 64 fT9_114), (zaL aO cO 36 fO2)]) [0, 1, 2, 3, 4] (by decide) rfl
                    have hKc := hK.sub (tys' := [(cS, .int), (cB, .int), (cT, .boolean), (cO, .long)]) [0, 1, 2, 3] rfl
                    have hFc := va_free (wc := [(zo14irriiiiiirriirrrrlriiii m0 th aS aI im ac sp en wg op aB aT se9_115 dn9_116 aG aO aN aD bv aY rn kd nu tv), (zaI aS cS 901 fS), (zaI aB cB 6 fB9_113), (zaI aT cT 64 fT9_114), (zaL aO cO 36 fO2)]) hD hS hA [0, 1, 2, 3, 4] rfl
                    refine va_calll (va_runV (As := [.int (nI j_82)]) (rest := []) ⟨hx, hb, hml, hown, hts⟩ (c_seen l dC dI m0 aS aI aB aT aG aO aN aD aY th im ac sp en wg op se9_115 dn9_116 rn kd nu tv bv cS cB cT cO fS fB9_113 fT9_114 fO2 j_82 (T9 i) (edB ee) cz H.size (by omega) (zh) (hTi) (hed)) (cwV 1 hts gX12_odds_X12_seen rfl rfl rfl hd_yX12_seen ⟨Nat.le_of_ble_eq_true rfl, Nat.le_of_ble_eq_true rfl⟩) ⟨fun a U g mk q => by obtain ⟨q0, q1, qP, qK, qD⟩ := q; exact ⟨q0, mvz g mk a q1, mvP g mk a qP, mvK g mk a qK, qD⟩, va_recv hK hP (ci := 14) (q := (RX12, TX12, 23)) (q0 := 0) rfl rfl, fun U hU hW => ⟨rfl, by rw [hU], by rw [hU]; exact hPc, va_K.moved hW.alike hKc, hDc.weaken (fun _ _ _ _ => trivial)⟩⟩ rfl rfl hl.1 rfl (lv_room (Nat.le_of_ble_eq_true rfl)) dX12_odds_115 ⟨Nat.le_of_ble_eq_true rfl, Nat.le_of_ble_eq_true rfl⟩) hS (fun q _ h => hFc q h) hFc (fun r_123 u tC H1 locs htC hvm hw_124 hB hz1 hk1 hS => ?_)
                    obtain ⟨fB9_125, fT9_126, se9_127, dn9_128⟩ := u
                    try dsimp only at hw_124 hB
                    obtain ⟨hP1, hK1, hD1⟩ := hB
                    rw [htC] at hP1
                    have hK1 := va_K.moved hvm.symm hK1
                    obtain ⟨hP, hD⟩ := va_join (wr := [(zaL aN cN 36 fN2), (zaI aD cD 36 fD9_117)]) (w1 := [(zo14irriiiiiirriirrrrlriiii m0 th aS aI im ac sp en wg op aB aT se9_127 dn9_128 aG aO aN aD bv aY rn kd nu tv), (zaI aS cS 901 fS), (zaI aB cB 6 fB9_125), (zaI aT cT 64 fT9_126), (zaL aO cO 36 fO2)]) hP hD [0, 1, 2, 3, 4] [5, 6] rfl rfl (by decide) (by decide) hk1 hFc hP1 hD1
                    have hK := (hK.sub (tys' := [(cN, .long), (cD, .int)]) [4, 5] rfl).app hK1
                    generalize H1 = H at hP hS ⊢
                    have hP : va_P (dC, dI) vwCl [(zaL aN cN 36 fN2), (zaI aD cD 36 fD9_117), (zo14irriiiiiirriirrrrlriiii m0 th aS aI im ac sp en wg op aB aT se9_127 dn9_128 aG aO aN aD bv aY rn kd nu tv), (zaI aS cS 901 fS), (zaI aB cB 6 fB9_125), (zaI aT cT 64 fT9_126), (zaL aO cO 36 fO2)] H := hP
                    have hD : va_D A [(zaL aN cN 36 fN2), (zaI aD cD 36 fD9_117), (zo14irriiiiiirriirrrrlriiii m0 th aS aI im ac sp en wg op aB aT se9_127 dn9_128 aG aO aN aD bv aY rn kd nu tv), (zaI aS cS 901 fS), (zaI aB cB 6 fB9_125), (zaI aT cT 64 fT9_126), (zaL aO cO 36 fO2)] := hD
                    have hK : va_K (dC, dI) vwCl [(cN, .long), (cD, .int), (cS, .int), (cB, .int), (cT, .boolean), (cO, .long)] s := hK
                    rw [RR_eq (n := n) hj_83 zkd zvv zc zmi zsn, zc j_82 hj_83] at hw_124
                    obtain rfl := hw_124
                    refine lv_goto (tgt := 140) hx hb dX12_odds_118 (by decide) ?_
                    refine lv_lstore (lv' := [(5, .long (lN (msN (fun k => ¬ edB ee k = true ∧ ¬ RV cz mi sn j_82 (yk j_82) (yv j_82) (yc j_82) < apR (nI k) (yc j_82)) (T9 i) 36))), (0, .ref m0), (1, .int (nI j_92)), (2, .int y), (3, .int z), (4, .int 1)]) hx hb dX12_odds_140 hl (by decide) rfl (fun ls hl => ?_)
                    refine lv_lload hx hb dX12_odds_142 (lv_at hl 0 rfl) ?_
                    refine lv_aload_n hx hb dX12_odds_144 rfl (lv_at hl 1 rfl) ?_
                    refine va_get (D := (dC, dI)) (ci := 14) (v := .ref aS) (C := RX12) (T := TX12) (N := 23) hx hb hts kc_mOdds_0 hown hK hP 2 rfl rfl 1 (by decide) (hts (.fieldLink RX12 9 "MistHeapsModel" "s" "[I") kc_mOdds_1) (fun _ h9 => h9) rfl dX12_odds_145 ?_
                    refine lv_iconst (v := 2) hx hb dX12_odds_148 (by decide) ?_
                    refine va_iald hx hb hK hP 3 2 rfl rfl (vp_in_nI (n := 2) (N := 901) (by omega) (by omega)) dX12_odds_149 ?_
                    refine qi_as (y := nI wk) ((show fS (2 : Int32).toNatClampNeg = fS 2 from rfl).trans (zw)) ?_
                    refine vp_callSl (va_runS (As := [.int (nI wk)]) (rest := [.long (lN (msN (fun k => ¬ edB ee k = true ∧ ¬ RV cz mi sn j_82 (yk j_82) (yv j_82) (yc j_82) < apR (nI k) (yc j_82)) (T9 i) 36))]) ⟨hx, hb, hml, hown, hts⟩ (c_twenties l dC dI wk (by omega)) (va_cwS 1 hts gX12_odds_X12_twenties rfl rfl rfl hd_yX12_twenties.2 ⟨Nat.le_of_ble_eq_true rfl, Nat.le_of_ble_eq_true rfl⟩) ⟨fun a U g mk q => ⟨q.1, trivial⟩, fun U hU hW => ⟨rfl, trivial⟩⟩ rfl rfl hl.1 rfl (lv_room (Nat.le_of_ble_eq_true rfl)) dX12_odds_150 ⟨Nat.le_of_ble_eq_true rfl, Nat.le_of_ble_eq_true rfl⟩).run (fun r_129 hw_130 => ?_)
                    obtain rfl := hw_130
                    refine lv_iload_n hx hb dX12_odds_153 rfl (lv_at hl 4 rfl) ?_
                    refine vp_callSl (va_runS (As := [.long (lN (msN (fun k => ¬ edB ee k = true ∧ ¬ RV cz mi sn j_82 (yk j_82) (yv j_82) (yc j_82) < apR (nI k) (yc j_82)) (T9 i) 36)), .long (lN (20 ^ wk)), .int z]) (rest := []) ⟨hx, hb, hml, hown, hts⟩ (c_lowest l dC dI (msN (fun k => ¬ edB ee k = true ∧ ¬ RV cz mi sn j_82 (yk j_82) (yv j_82) (yc j_82) < apR (nI k) (yc j_82)) (T9 i) 36) (20 ^ wk) z (Nat.pow_pos (by decide)) (Nat.lt_of_le_of_lt ((hTB i (by omega)).2 _) (by decide)) (Nat.lt_of_le_of_lt (tw_p wk (by omega)) (by decide))) (va_cwS 3 hts gX12_odds_X12_lowest rfl rfl rfl hd_yX12_lowest.2 ⟨Nat.le_of_ble_eq_true rfl, Nat.le_of_ble_eq_true rfl⟩) ⟨fun a U g mk q => ⟨q.1, trivial⟩, fun U hU hW => ⟨rfl, trivial⟩⟩ rfl rfl hl.1 rfl (lv_room (Nat.le_of_ble_eq_true rfl)) dX12_odds_154 ⟨Nat.le_of_ble_eq_true rfl, Nat.le_of_ble_eq_true rfl⟩).run (fun r_131 hw_132 => ?_)
                    obtain rfl := hw_132
                    rw [hQ]
                    have hP9 := hP.sub (ws' := [(zo14irriiiiiirriirrrrlriiii m0 th aS aI im ac sp en wg op aB aT se9_127 dn9_128 aG aO aN aD bv aY rn kd nu tv), (zaI aS cS 901 fS), (zaI aB cB 6 fB9_125), (zaI aT cT 64 fT9_126), (zaL aO cO 36 fO2), (zaL aN cN 36 fN2), (zaI aD cD 36 fD9_117)]) [2, 3, 4, 5, 6, 0, 1] rfl
                    have hD9 := hD.sub (ws' := [(zo14irriiiiiirriirrrrlriiii m0 th aS aI im ac sp en wg op aB aT se9_127 dn9_128 aG aO aN aD bv aY rn kd nu tv), (zaI aS cS 901 fS), (zaI aB cB 6 fB9_125), (zaI aT cT 64 fT9_126), (zaL aO cO 36 fO2), (zaL aN cN 36 fN2), (zaI aD cD 36 fD9_117)]) [2, 3, 4, 5, 6, 0, 1] (by decide) rfl
                    have hK9 := hK.sub (tys' := [(cS, .int), (cB, .int), (cT, .boolean), (cO, .long), (cN, .long), (cD, .int)]) [2, 3, 4, 5, 0, 1] rfl
                    exact W.lret (v := ptR (msN (fun k => ¬ edB ee k = true ∧ ¬ RV cz mi sn j_82 (yk j_82) (yv j_82) (yc j_82) < apR (nI k) (yc j_82)) (T9 i) 36) (20 ^ wk) z) hx hb hr (fun tQ htQ hWQ => ⟨⟨(ptR (msN (fun k => ¬ edB ee k = true ∧ ¬ RV cz mi sn j_82 (yk j_82) (yv j_82) (yc j_82) < apR (nI k) (yc j_82)) (T9 i) 36) (20 ^ wk) z), (fB9_125, fT9_126, se9_127, dn9_128, fD9_117, fO2, fN2), rfl, od_h hn (by omega) hj_83 ej_84 c_1 (by assumption) (by assumption) hT9 (by omega), by rw [htQ]; exact hP9, va_K.moved hWQ.alike hK9, hD9⟩, hS.F htQ⟩) hS.2.2 dX12_odds_157
                  · skip
                    have c_121 : ¬ wk ≤ i := fun q => c_121 ((nI_leI (a := wk) (b := i) (by omega) (by omega)).mpr q)
                    refine lv_aload_n hx hb dX12_odds_85 rfl (lv_at hl 0 rfl) ?_
                    refine lv_aload_n hx hb dX12_odds_86 rfl (lv_at hl 0 rfl) ?_
                    refine va_get (D := (dC, dI)) (ci := 14) (v := .ref aS) (C := RX12) (T := TX12) (N := 23) hx hb hts kc_mOdds_0 hown hK hP 0 rfl rfl 1 (by decide) (hts (.fieldLink RX12 9 "MistHeapsModel" "s" "[I") kc_mOdds_1) (fun _ h9 => h9) rfl dX12_odds_87 ?_
                    refine lv_bipush (v := 73) hx hb dX12_odds_90 (by decide) ?_
                    refine lv_iload hx hb dX12_odds_92 (lv_at hl 5 rfl) ?_
                    refine lv_iadd hx hb dX12_odds_94 ?_
                    refine qi_as (y := nI (73 + i)) (nI_add 73 i) ?_
                    refine va_iald hx hb hK hP 1 0 rfl rfl (vp_in_nI (n := 73 + i) (N := 901) (by omega) (by omega)) dX12_odds_95 ?_
                    refine qi_as (y := nI (wy i)) ((show fS (nI (73 + i) : Int32).toNatClampNeg = fS (73 + i) from by rw [nI_clamp (by omega)]).trans (zwy i (by omega))) ?_
                    have hPc := hP.sub (ws' := [(zo14irriiiiiirriirrrrlriiii m0 th aS aI im ac sp en wg op aB aT se9_115 dn9_116 aG aO aN aD bv aY rn kd nu tv), (zaI aS cS 901 fS), (zaL aO cO 36 fO2), (zaL aN cN 36 fN2), (zaI aD cD 36 fD9_117)]) [0, 1, 4, 5, 6] rfl
                    have hDc := hD.sub (ws' := [(zo14irriiiiiirriirrrrlriiii m0 th aS aI im ac sp en wg op aB aT se9_115 dn9_116 aG aO aN aD bv aY rn kd nu tv), (zaI aS cS 901 fS), (zaL aO cO 36 fO2), (zaL aN cN 36 fN2), (zaI aD cD 36 fD9_117)]) [0, 1, 4, 5, 6] (by decide) rfl
                    have hKc := hK.sub (tys' := [(cS, .int), (cO, .long), (cN, .long), (cD, .int)]) [0, 3, 4, 5] rfl
                    have hFc := va_free (wc := [(zo14irriiiiiirriirrrrlriiii m0 th aS aI im ac sp en wg op aB aT se9_115 dn9_116 aG aO aN aD bv aY rn kd nu tv), (zaI aS cS 901 fS), (zaL aO cO 36 fO2), (zaL aN cN 36 fN2), (zaI aD cD 36 fD9_117)]) hD hS hA [0, 1, 4, 5, 6] rfl
                    refine va_callv (va_runV (As := [.int (nI (wy i))]) (rest := []) ⟨hx, hb, hml, hown, hts⟩ (c_goesOn l dC dI m0 aS aI aB aT aG aO aN aD aY th im ac sp en wg op se9_115 dn9_116 rn kd nu tv bv cS cO cN cD fS fO2 fN2 fD9_117 (wy i) (T9 i) (drN cz mi sn) (edB ee) H.size (hwy i) (hTi) ((hTB i (by omega)).1) (hdr) (hed)) (cwV 1 hts gX12_odds_X12_goesOn rfl rfl rfl hd_yX12_goesOn ⟨Nat.le_of_ble_eq_true rfl, Nat.le_of_ble_eq_true rfl⟩) ⟨fun a U g mk q => by obtain ⟨q0, q1, qP, qK, qD⟩ := q; exact ⟨q0, mvz g mk a q1, mvP g mk a qP, mvK g mk a qK, qD⟩, va_recv hK hP (ci := 14) (q := (RX12, TX12, 23)) (q0 := 0) rfl rfl, fun U hU hW => ⟨rfl, by rw [hU], by rw [hU]; exact hPc, va_K.moved hW.alike hKc, hDc.weaken (fun _ _ _ _ => trivial)⟩⟩ rfl rfl hl.1 rfl (lv_room (Nat.le_of_ble_eq_true rfl)) dX12_odds_96 ⟨Nat.le_of_ble_eq_true rfl, Nat.le_of_ble_eq_true rfl⟩) hS (fun q _ h => hFc q h) hFc (fun u tC H1 locs htC hvm hw_134 hB hz1 hk1 hS => ?_)
                    obtain ⟨fO9_135, fN9_136⟩ := u
                    try dsimp only at hw_134 hB
                    obtain ⟨hP1, hK1, hD1⟩ := hB
                    rw [htC] at hP1
                    have hK1 := va_K.moved hvm.symm hK1
                    obtain ⟨hP, hD⟩ := va_join (wr := [(zaI aB cB 6 fB9_113), (zaI aT cT 64 fT9_114)]) (w1 := [(zo14irriiiiiirriirrrrlriiii m0 th aS aI im ac sp en wg op aB aT se9_115 dn9_116 aG aO aN aD bv aY rn kd nu tv), (zaI aS cS 901 fS), (zaL aO cO 36 fO9_135), (zaL aN cN 36 fN9_136), (zaI aD cD 36 fD9_117)]) hP hD [0, 1, 4, 5, 6] [2, 3] rfl rfl (by decide) (by decide) hk1 hFc hP1 hD1
                    have hK := (hK.sub (tys' := [(cB, .int), (cT, .boolean)]) [1, 2] rfl).app hK1
                    generalize H1 = H at hP hS ⊢
                    have hP : va_P (dC, dI) vwCl [(zaI aB cB 6 fB9_113), (zaI aT cT 64 fT9_114), (zo14irriiiiiirriirrrrlriiii m0 th aS aI im ac sp en wg op aB aT se9_115 dn9_116 aG aO aN aD bv aY rn kd nu tv), (zaI aS cS 901 fS), (zaL aO cO 36 fO9_135), (zaL aN cN 36 fN9_136), (zaI aD cD 36 fD9_117)] H := hP
                    have hD : va_D A [(zaI aB cB 6 fB9_113), (zaI aT cT 64 fT9_114), (zo14irriiiiiirriirrrrlriiii m0 th aS aI im ac sp en wg op aB aT se9_115 dn9_116 aG aO aN aD bv aY rn kd nu tv), (zaI aS cS 901 fS), (zaL aO cO 36 fO9_135), (zaL aN cN 36 fN9_136), (zaI aD cD 36 fD9_117)] := hD
                    have hK : va_K (dC, dI) vwCl [(cB, .int), (cT, .boolean), (cS, .int), (cO, .long), (cN, .long), (cD, .int)] s := hK
                    have hT8 : lnA fO9_135 (T9 (i + 1)) := by rw [hT9] at hw_134 ⊢; exact hw_134
                    refine lv_iinc (v := nI (i + 1)) (lv' := [(5, .int (nI (i + 1))), (0, .ref m0), (1, .int (nI j_92)), (2, .int y), (3, .int z), (4, .int 1)]) hx hb dX12_odds_99 hl (k := 5) rfl (nI_add i 1) (by decide) rfl (fun ls hl => ?_)
                    refine lv_goto (tgt := 74) hx hb dX12_odds_102 (by decide) ?_
                    exact ih74 (i + 1) (fO9_135) (fN9_136) (by omega) (by omega) (hT8) _ _ (hK.sub [2, 0, 1, 3, 4, 5] rfl) (hP.sub [2, 3, 0, 1, 4, 5, 6] rfl) (hD.sub [2, 3, 0, 1, 4, 5, 6] (by decide) rfl) hS ls (lv_sub hl [1, 2, 3, 4, 5, 0] rfl)
              exact L74 _ (0) (fO9_120) (fN) (Nat.lt_succ_self _) (by omega) (hT0) _ _ (hK.sub [1, 2, 3, 5, 0, 4] rfl) (hP.sub [5, 1, 2, 3, 6, 0, 4] rfl) (hD.sub [5, 1, 2, 3, 6, 0, 4] (by decide) rfl) hS ls (lv_sub hl [2, 3, 4, 5, 1, 0] rfl)
            · skip
              refine lv_if_ne (tgt := 62) hx hb dX12_odds_55 (by decide) (fun c_137 => absurd c_137 (by decide)) (fun _ => ?_)
              refine lv_ldc2 (v := (-9223372036854775808)) hx hb hown (hts (.constantLong RX12 181 (-9223372036854775808)) kc_mOdds_3) dX12_odds_58 ?_
              rw [hQ]
              have hP9 := hP.sub (ws' := [(zo14irriiiiiirriirrrrlriiii m0 th aS aI im ac sp en wg op aB aT se dn aG aO aN aD bv aY rn kd nu tv), (zaI aS cS 901 fS), (zaI aB cB 6 fB), (zaI aT cT 64 fT), (zaL aO cO 36 fO), (zaL aN cN 36 fN), (zaI aD cD 36 fD)]) [0, 1, 2, 3, 4, 5, 6] rfl
              have hD9 := hD.sub (ws' := [(zo14irriiiiiirriirrrrlriiii m0 th aS aI im ac sp en wg op aB aT se dn aG aO aN aD bv aY rn kd nu tv), (zaI aS cS 901 fS), (zaI aB cB 6 fB), (zaI aT cT 64 fT), (zaL aO cO 36 fO), (zaL aN cN 36 fN), (zaI aD cD 36 fD)]) [0, 1, 2, 3, 4, 5, 6] (by decide) rfl
              have hK9 := hK.sub (tys' := [(cS, .int), (cB, .int), (cT, .boolean), (cO, .long), (cN, .long), (cD, .int)]) [0, 1, 2, 3, 4, 5] rfl
              exact W.lret (v := (-9223372036854775808)) hx hb hr (fun tQ htQ hWQ => ⟨⟨(-9223372036854775808), (fB, fT, se, dn, fD, fO, fN), rfl, by first | exact od_no1 (by assumption) | exact od_no3 (by assumption) | exact od_no2 (by assumption) (by assumption) (by first | exact Or.inl (by assumption) | exact Or.inr (by assumption)), by rw [htQ]; exact hP9, va_K.moved hWQ.alike hK9, hD9⟩, hS.F htQ⟩) hS.2.2 dX12_odds_61
      · skip
        refine lv_if_eq (tgt := 58) hx hb dX12_odds_28 (by decide) (fun _ => ?_) (fun c_138 => absurd c_138 (by decide))
        refine lv_ldc2 (v := (-9223372036854775808)) hx hb hown (hts (.constantLong RX12 181 (-9223372036854775808)) kc_mOdds_3) dX12_odds_58 ?_
        rw [hQ]
        have hP9 := hP.sub (ws' := [(zo14irriiiiiirriirrrrlriiii m0 th aS aI im ac sp en wg op aB aT se dn aG aO aN aD bv aY rn kd nu tv), (zaI aS cS 901 fS), (zaI aB cB 6 fB), (zaI aT cT 64 fT), (zaL aO cO 36 fO), (zaL aN cN 36 fN), (zaI aD cD 36 fD)]) [0, 1, 2, 3, 4, 5, 6] rfl
        have hD9 := hD.sub (ws' := [(zo14irriiiiiirriirrrrlriiii m0 th aS aI im ac sp en wg op aB aT se dn aG aO aN aD bv aY rn kd nu tv), (zaI aS cS 901 fS), (zaI aB cB 6 fB), (zaI aT cT 64 fT), (zaL aO cO 36 fO), (zaL aN cN 36 fN), (zaI aD cD 36 fD)]) [0, 1, 2, 3, 4, 5, 6] (by decide) rfl
        have hK9 := hK.sub (tys' := [(cS, .int), (cB, .int), (cT, .boolean), (cO, .long), (cN, .long), (cD, .int)]) [0, 1, 2, 3, 4, 5] rfl
        exact W.lret (v := (-9223372036854775808)) hx hb hr (fun tQ htQ hWQ => ⟨⟨(-9223372036854775808), (fB, fT, se, dn, fD, fO, fN), rfl, by first | exact od_no1 (by assumption) | exact od_no3 (by assumption) | exact od_no2 (by assumption) (by assumption) (by first | exact Or.inl (by assumption) | exact Or.inr (by assumption)), by rw [htQ]; exact hP9, va_K.moved hWQ.alike hK9, hD9⟩, hS.F htQ⟩) hS.2.2 dX12_odds_61
    · skip
      refine lv_if_eq (tgt := 21) hx hb dX12_odds_14 (by decide) (fun _ => ?_) (fun c_139 => absurd c_139 (by decide))
      refine lv_iconst (v := 0) hx hb dX12_odds_21 (by decide) ?_
      refine lv_istore (lv' := [(4, .int 0), (0, .ref m0), (1, .int x), (2, .int y), (3, .int z)]) hx hb dX12_odds_22 hl (by decide) rfl (fun ls hl => ?_)
      refine lv_iload_n hx hb dX12_odds_24 rfl (lv_at hl 2 rfl) ?_
      refine vp_callSi (va_runS (As := [.int x]) (rest := []) ⟨hx, hb, hml, hown, hts⟩ (c_mCell l dC dI x) (va_cwS 1 hts gX12_odds_X12_isCell rfl rfl rfl hd_yX12_isCell.2 ⟨Nat.le_of_ble_eq_true rfl, Nat.le_of_ble_eq_true rfl⟩) ⟨fun a U g mk q => ⟨q.1, trivial⟩, fun U hU hW => ⟨rfl, trivial⟩⟩ rfl rfl hl.1 rfl (lv_room (Nat.le_of_ble_eq_true rfl)) dX12_odds_25 ⟨Nat.le_of_ble_eq_true rfl, Nat.le_of_ble_eq_true rfl⟩).run (fun r_140 hw_141 => ?_)
      rcases hw_141 with ⟨rfl, h_142, h_143⟩ | ⟨rfl, h_144⟩
      · skip
        obtain ⟨j_145, hj_146, rfl⟩ := nI_of2 (n := 35) (M := 35) rfl h_142 (Int32.not_lt.mp h_143)
        refine lv_if_eq (tgt := 58) hx hb dX12_odds_28 (by decide) (fun c_147 => absurd c_147 (by decide)) (fun _ => ?_)
        refine lv_iload_n hx hb dX12_odds_31 rfl (lv_at hl 3 rfl) ?_
        refine vp_callSi (va_runS (As := [.int y]) (rest := []) ⟨hx, hb, hml, hown, hts⟩ (c_mCell l dC dI y) (va_cwS 1 hts gX12_odds_X12_isCell rfl rfl rfl hd_yX12_isCell.2 ⟨Nat.le_of_ble_eq_true rfl, Nat.le_of_ble_eq_true rfl⟩) ⟨fun a U g mk q => ⟨q.1, trivial⟩, fun U hU hW => ⟨rfl, trivial⟩⟩ rfl rfl hl.1 rfl (lv_room (Nat.le_of_ble_eq_true rfl)) dX12_odds_32 ⟨Nat.le_of_ble_eq_true rfl, Nat.le_of_ble_eq_true rfl⟩).run (fun r_148 hw_149 => ?_)
        rcases hw_149 with ⟨rfl, h_150, h_151⟩ | ⟨rfl, h_152⟩
        · skip
          obtain ⟨j_153, hj_154, rfl⟩ := nI_of2 (n := 35) (M := 35) rfl h_150 (Int32.not_lt.mp h_151)
          refine lv_if_ne (tgt := 49) hx hb dX12_odds_35 (by decide) (fun _ => ?_) (fun c_155 => absurd c_155 (by decide))
          refine lv_iload_n hx hb dX12_odds_49 rfl (lv_at hl 4 rfl) ?_
          refine lv_iconst (v := 0) hx hb dX12_odds_50 (by decide) ?_
          refine lv_iconst (v := 1) hx hb dX12_odds_51 (by decide) ?_
          refine vp_callSi (va_runS (As := [.int z, .int 0, .int 1]) (rest := []) ⟨hx, hb, hml, hown, hts⟩ (c_in l dC dI z 0 1) (va_cwS 3 hts gX12_odds_X12_in rfl rfl rfl hd_yX12_in.2 ⟨Nat.le_of_ble_eq_true rfl, Nat.le_of_ble_eq_true rfl⟩) ⟨fun a U g mk q => ⟨q.1, trivial⟩, fun U hU hW => ⟨rfl, trivial⟩⟩ rfl rfl hl.1 rfl (lv_room (Nat.le_of_ble_eq_true rfl)) dX12_odds_52 ⟨Nat.le_of_ble_eq_true rfl, Nat.le_of_ble_eq_true rfl⟩).run (fun r_156 hw_157 => ?_)
          rcases hw_157 with ⟨rfl, h_158, h_159⟩ | ⟨rfl, h_160⟩
          · skip
            refine lv_if_ne (tgt := 62) hx hb dX12_odds_55 (by decide) (fun _ => ?_) (fun c_161 => absurd c_161 (by decide))
            have hw3 := hol_w3 zh
            have hd5 : ∀ c, c < 36 → drN cz mi sn c ≤ 5 := fun c _ => (dr_ok hw3.1 hw3.2 c).2
            have hed := ed_m zee
            obtain ⟨T9, hT9⟩ : ∃ T : Nat → Nat → Nat, T = tmN (edB ee) (drN cz mi sn) wy j_145 := ⟨_, rfl⟩
            have hTB := od_b (show j_145 < 36 by omega) hd5 hwy hT9
            refine lv_aload_n hx hb dX12_odds_62 rfl (lv_at hl 1 rfl) ?_
            have hPc := hP.sub (ws' := [(zo14irriiiiiirriirrrrlriiii m0 th aS aI im ac sp en wg op aB aT se dn aG aO aN aD bv aY rn kd nu tv), (zaI aS cS 901 fS), (zaI aB cB 6 fB), (zaI aT cT 64 fT), (zaI aD cD 36 fD)]) [0, 1, 2, 3, 6] rfl
            have hDc := hD.sub (ws' := [(zo14irriiiiiirriirrrrlriiii m0 th aS aI im ac sp en wg op aB aT se dn aG aO aN aD bv aY rn kd nu tv), (zaI aS cS 901 fS), (zaI aB cB 6 fB), (zaI aT cT 64 fT), (zaI aD cD 36 fD)]) [0, 1, 2, 3, 6] (by decide) rfl
            have hKc := hK.sub (tys' := [(cS, .int), (cB, .int), (cT, .boolean), (cD, .int)]) [0, 1, 2, 5] rfl
            have hFc := va_free (wc := [(zo14irriiiiiirriirrrrlriiii m0 th aS aI im ac sp en wg op aB aT se dn aG aO aN aD bv aY rn kd nu tv), (zaI aS cS 901 fS), (zaI aB cB 6 fB), (zaI aT cT 64 fT), (zaI aD cD 36 fD)]) hD hS hA [0, 1, 2, 3, 6] rfl
            refine va_callv (va_runV (As := []) (rest := []) ⟨hx, hb, hml, hown, hts⟩ (c_lookDrifts l dC dI m0 aS aI aB aT aG aO aN aD aY th im ac sp en wg op se dn rn kd nu tv bv cS cB cT cD fS fB fT fD cz H.size (zh)) (cwV 0 hts gX12_odds_X12_looksForDrifts rfl rfl rfl hd_yX12_looksForDrifts ⟨Nat.le_of_ble_eq_true rfl, Nat.le_of_ble_eq_true rfl⟩) ⟨fun a U g mk q => by obtain ⟨q0, q1, qP, qK, qD⟩ := q; exact ⟨q0, mvz g mk a q1, mvP g mk a qP, mvK g mk a qK, qD⟩, va_recv hK hP (ci := 14) (q := (RX12, TX12, 23)) (q0 := 0) rfl rfl, fun U hU hW => ⟨rfl, by rw [hU], by rw [hU]; exact hPc, va_K.moved hW.alike hKc, hDc.weaken (fun _ _ _ _ => trivial)⟩⟩ rfl rfl hl.1 rfl (lv_room (Nat.le_of_ble_eq_true rfl)) dX12_odds_63 ⟨Nat.le_of_ble_eq_true rfl, Nat.le_of_ble_eq_true rfl⟩) hS (fun q _ h => hFc q h) hFc (fun u tC H1 locs htC hvm hw_163 hB hz1 hk1 hS => ?_)
            obtain ⟨fB9_164, fT9_165, se9_166, dn9_167, fD9_168⟩ := u
            try dsimp only at hw_163 hB
            obtain ⟨hP1, hK1, hD1⟩ := hB
            rw [htC] at hP1
            have hK1 := va_K.moved hvm.symm hK1
            obtain ⟨hP, hD⟩ := va_join (wr := [(zaL aO cO 36 fO), (zaL aN cN 36 fN)]) (w1 := [(zo14irriiiiiirriirrrrlriiii m0 th aS aI im ac sp en wg op aB aT se9_166 dn9_167 aG aO aN aD bv aY rn kd nu tv), (zaI aS cS 901 fS), (zaI aB cB 6 fB9_164), (zaI aT cT 64 fT9_165), (zaI aD cD 36 fD9_168)]) hP hD [0, 1, 2, 3, 6] [4, 5] rfl rfl (by decide) (by decide) hk1 hFc hP1 hD1
            have hK := (hK.sub (tys' := [(cO, .long), (cN, .long)]) [3, 4] rfl).app hK1
            generalize H1 = H at hP hS ⊢
            have hP : va_P (dC, dI) vwCl [(zaL aO cO 36 fO), (zaL aN cN 36 fN), (zo14irriiiiiirriirrrrlriiii m0 th aS aI im ac sp en wg op aB aT se9_166 dn9_167 aG aO aN aD bv aY rn kd nu tv), (zaI aS cS 901 fS), (zaI aB cB 6 fB9_164), (zaI aT cT 64 fT9_165), (zaI aD cD 36 fD9_168)] H := hP
            have hD : va_D A [(zaL aO cO 36 fO), (zaL aN cN 36 fN), (zo14irriiiiiirriirrrrlriiii m0 th aS aI im ac sp en wg op aB aT se9_166 dn9_167 aG aO aN aD bv aY rn kd nu tv), (zaI aS cS 901 fS), (zaI aB cB 6 fB9_164), (zaI aT cT 64 fT9_165), (zaI aD cD 36 fD9_168)] := hD
            have hK : va_K (dC, dI) vwCl [(cO, .long), (cN, .long), (cS, .int), (cB, .int), (cT, .boolean), (cD, .int)] s := hK
            have hdr : ∀ k, k < 36 → fD9_168 k = nI (drN cz mi sn k) ∧ drN cz mi sn k ≤ 5 := fun k hk => by rw [hw_163 k hk, zmi, zsn]; exact dr_ok (hol_w3 zh).1 (hol_w3 zh).2 k
            refine lv_aload_n hx hb dX12_odds_66 rfl (lv_at hl 1 rfl) ?_
            refine lv_iload_n hx hb dX12_odds_67 rfl (lv_at hl 2 rfl) ?_
            have hPc := hP.sub (ws' := [(zo14irriiiiiirriirrrrlriiii m0 th aS aI im ac sp en wg op aB aT se9_166 dn9_167 aG aO aN aD bv aY rn kd nu tv), (zaL aO cO 36 fO)]) [2, 0] rfl
            have hDc := hD.sub (ws' := [(zo14irriiiiiirriirrrrlriiii m0 th aS aI im ac sp en wg op aB aT se9_166 dn9_167 aG aO aN aD bv aY rn kd nu tv), (zaL aO cO 36 fO)]) [2, 0] (by decide) rfl
            have hKc := hK.sub (tys' := [(cO, .long)]) [0] rfl
            have hFc := va_free (wc := [(zo14irriiiiiirriirrrrlriiii m0 th aS aI im ac sp en wg op aB aT se9_166 dn9_167 aG aO aN aD bv aY rn kd nu tv), (zaL aO cO 36 fO)]) hD hS hA [2, 0] rfl
            refine va_callv (va_runV (As := [.int (nI j_145)]) (rest := []) ⟨hx, hb, hml, hown, hts⟩ (c_begins l dC dI m0 aS aI aB aT aG aO aN aD aY th im ac sp en wg op se9_166 dn9_167 rn kd nu tv bv cO fO j_145 H.size (by omega)) (cwV 1 hts gX12_odds_X12_begins rfl rfl rfl hd_yX12_begins ⟨Nat.le_of_ble_eq_true rfl, Nat.le_of_ble_eq_true rfl⟩) ⟨fun a U g mk q => by obtain ⟨q0, q1, qP, qK, qD⟩ := q; exact ⟨q0, mvz g mk a q1, mvP g mk a qP, mvK g mk a qK, qD⟩, va_recv hK hP (ci := 14) (q := (RX12, TX12, 23)) (q0 := 2) rfl rfl, fun U hU hW => ⟨rfl, by rw [hU], by rw [hU]; exact hPc, va_K.moved hW.alike hKc, hDc.weaken (fun _ _ _ _ => trivial)⟩⟩ rfl rfl hl.1 rfl (lv_room (Nat.le_of_ble_eq_true rfl)) dX12_odds_68 ⟨Nat.le_of_ble_eq_true rfl, Nat.le_of_ble_eq_true rfl⟩) hS (fun q _ h => hFc q h) hFc (fun u tC H1 locs htC hvm hw_170 hB hz1 hk1 hS => ?_)
            obtain ⟨fO9_171, rfl⟩ : ∃ z, z = u := ⟨_, rfl⟩
            try dsimp only at hw_170 hB
            obtain ⟨hP1, hK1, hD1⟩ := hB
            rw [htC] at hP1
            have hK1 := va_K.moved hvm.symm hK1
            obtain ⟨hP, hD⟩ := va_join (wr := [(zaL aN cN 36 fN), (zaI aS cS 901 fS), (zaI aB cB 6 fB9_164), (zaI aT cT 64 fT9_165), (zaI aD cD 36 fD9_168)]) (w1 := [(zo14irriiiiiirriirrrrlriiii m0 th aS aI im ac sp en wg op aB aT se9_166 dn9_167 aG aO aN aD bv aY rn kd nu tv), (zaL aO cO 36 fO9_171)]) hP hD [2, 0] [1, 3, 4, 5, 6] rfl rfl (by decide) (by decide) hk1 hFc hP1 hD1
            have hK := (hK.sub (tys' := [(cN, .long), (cS, .int), (cB, .int), (cT, .boolean), (cD, .int)]) [1, 2, 3, 4, 5] rfl).app hK1
            generalize H1 = H at hP hS ⊢
            have hP : va_P (dC, dI) vwCl [(zaL aN cN 36 fN), (zaI aS cS 901 fS), (zaI aB cB 6 fB9_164), (zaI aT cT 64 fT9_165), (zaI aD cD 36 fD9_168), (zo14irriiiiiirriirrrrlriiii m0 th aS aI im ac sp en wg op aB aT se9_166 dn9_167 aG aO aN aD bv aY rn kd nu tv), (zaL aO cO 36 fO9_171)] H := hP
            have hD : va_D A [(zaL aN cN 36 fN), (zaI aS cS 901 fS), (zaI aB cB 6 fB9_164), (zaI aT cT 64 fT9_165), (zaI aD cD 36 fD9_168), (zo14irriiiiiirriirrrrlriiii m0 th aS aI im ac sp en wg op aB aT se9_166 dn9_167 aG aO aN aD bv aY rn kd nu tv), (zaL aO cO 36 fO9_171)] := hD
            have hK : va_K (dC, dI) vwCl [(cN, .long), (cS, .int), (cB, .int), (cT, .boolean), (cD, .int), (cO, .long)] s := hK
            have hT0 : lnA fO9_171 (T9 0) := by rw [hT9]; exact hw_170
            refine lv_iconst (v := 0) hx hb dX12_odds_71 (by decide) ?_
            refine lv_istore (lv' := [(5, .int 0), (4, .int 0), (0, .ref m0), (1, .int (nI j_145)), (2, .int (nI j_153)), (3, .int z)]) hx hb dX12_odds_72 hl (by decide) rfl (fun ls hl => ?_)
            have L74 : ∀ (nF : Nat) (i : Nat) (fO2 : Nat → Int64) (fN2 : Nat → Int64), wk - i < nF → (i ≤ wk) → (lnA fO2 (T9 i)) → ∀ (H : Heap) (locs : List Loc), va_K (dC, dI) vwCl [(cS, .int), (cB, .int), (cT, .boolean), (cO, .long), (cN, .long), (cD, .int)] s → va_P (dC, dI) vwCl [(zo14irriiiiiirriirrrrlriiii m0 th aS aI im ac sp en wg op aB aT se9_166 dn9_167 aG aO aN aD bv aY rn kd nu tv), (zaI aS cS 901 fS), (zaI aB cB 6 fB9_164), (zaI aT cT 64 fT9_165), (zaL aO cO 36 fO2), (zaL aN cN 36 fN2), (zaI aD cD 36 fD9_168)] H → va_D A [(zo14irriiiiiirriirrrrlriiii m0 th aS aI im ac sp en wg op aB aT se9_166 dn9_167 aG aO aN aD bv aY rn kd nu tv), (zaI aS cS 901 fS), (zaI aB cB 6 fB9_164), (zaI aT cT 64 fT9_165), (zaL aO cO 36 fO2), (zaL aN cN 36 fN2), (zaI aD cD 36 fD9_168)] → va_S A s.heap H locs → ∀ (ls : Array Slot), lv_has ls 7 [(0, .ref m0), (1, .int (nI j_145)), (2, .int (nI j_153)), (3, .int z), (4, .int 0), (5, .int (nI i))] → W p l e ({ frames := 4, cells := 0, slots := 0, locals := 101 } : Room) s m args below meth c H locs 0 0 Q (F0 m 74 ls []) := by
              intro nF
              induction nF with
              | zero => intro i fO2 fN2 hm; exact absurd hm (Nat.not_lt_zero _)
              | succ nF ih74 =>
                intro i fO2 fN2 hm hi hTi H locs hK hP hD hS ls hl
                refine lv_iload hx hb dX12_odds_74 (lv_at hl 5 rfl) ?_
                refine lv_aload_n hx hb dX12_odds_76 rfl (lv_at hl 0 rfl) ?_
                refine va_get (D := (dC, dI)) (ci := 14) (v := .ref aS) (C := RX12) (T := TX12) (N := 23) hx hb hts kc_mOdds_0 hown hK hP 0 rfl rfl 1 (by decide) (hts (.fieldLink RX12 9 "MistHeapsModel" "s" "[I") kc_mOdds_1) (fun _ h9 => h9) rfl dX12_odds_77 ?_
                refine lv_iconst (v := 2) hx hb dX12_odds_80 (by decide) ?_
                refine va_iald hx hb hK hP 1 0 rfl rfl (vp_in_nI (n := 2) (N := 901) (by omega) (by omega)) dX12_odds_81 ?_
                refine qi_as (y := nI wk) ((show fS (2 : Int32).toNatClampNeg = fS 2 from rfl).trans (zw)) ?_
                refine lv_icmp_ge (tgt := 105) hx hb dX12_odds_82 (by decide) (fun c_172 => ?_) (fun c_172 => ?_)
                · skip
                  have c_172 : wk ≤ i := (nI_leI (a := wk) (b := i) (by omega) (by omega)).mp c_172
                  refine lv_iload hx hb dX12_odds_105 (lv_at hl 4 rfl) ?_
                  refine lv_if_eq (tgt := 121) hx hb dX12_odds_107 (by decide) (fun _ => ?_) (fun c_173 => absurd c_173 (by decide))
                  refine lv_iload_n hx hb dX12_odds_121 rfl (lv_at hl 2 rfl) ?_
                  refine lv_bipush (v := 40) hx hb dX12_odds_122 (by decide) ?_
                  refine lv_icmp_ne (tgt := 134) hx hb dX12_odds_124 (by decide) (fun c_174 => ?_) (fun c_174 => ?_)
                  · skip
                    have c_174 : ¬ j_153 = 40 := fun q => c_174 ((nI_eq (a := j_153) (b := 40) (by omega) (by omega)).mpr q)
                    refine lv_aload_n hx hb dX12_odds_134 rfl (lv_at hl 0 rfl) ?_
                    refine va_get (D := (dC, dI)) (ci := 14) (v := .ref aO) (C := RX12) (T := TX12) (N := 23) hx hb hts kc_mOdds_0 hown hK hP 0 rfl rfl 14 (by decide) (hts (.fieldLink RX12 28 "MistHeapsModel" "often" "[J") kc_mOdds_2) (fun _ h9 => h9) rfl dX12_odds_135 ?_
                    refine lv_iload_n hx hb dX12_odds_138 rfl (lv_at hl 2 rfl) ?_
                    refine va_lald hx hb hK hP 4 3 rfl rfl (vp_in_nI (n := j_153) (N := 36) (by omega) (by omega)) dX12_odds_139 ?_
                    refine ql_as (y := lN (T9 i j_153)) ((show fO2 (nI j_153 : Int32).toNatClampNeg = fO2 j_153 from by rw [nI_clamp (by omega)]).trans (hTi j_153 (by omega))) ?_
                    refine lv_lstore (lv' := [(5, .long (lN (T9 i j_153))), (0, .ref m0), (1, .int (nI j_145)), (2, .int (nI j_153)), (3, .int z), (4, .int 0)]) hx hb dX12_odds_140 hl (by decide) rfl (fun ls hl => ?_)
                    refine lv_lload hx hb dX12_odds_142 (lv_at hl 0 rfl) ?_
                    refine lv_aload_n hx hb dX12_odds_144 rfl (lv_at hl 1 rfl) ?_
                    refine va_get (D := (dC, dI)) (ci := 14) (v := .ref aS) (C := RX12) (T := TX12) (N := 23) hx hb hts kc_mOdds_0 hown hK hP 0 rfl rfl 1 (by decide) (hts (.fieldLink RX12 9 "MistHeapsModel" "s" "[I") kc_mOdds_1) (fun _ h9 => h9) rfl dX12_odds_145 ?_
                    refine lv_iconst (v := 2) hx hb dX12_odds_148 (by decide) ?_
                    refine va_iald hx hb hK hP 1 0 rfl rfl (vp_in_nI (n := 2) (N := 901) (by omega) (by omega)) dX12_odds_149 ?_
                    refine qi_as (y := nI wk) ((show fS (2 : Int32).toNatClampNeg = fS 2 from rfl).trans (zw)) ?_
                    refine vp_callSl (va_runS (As := [.int (nI wk)]) (rest := [.long (lN (T9 i j_153))]) ⟨hx, hb, hml, hown, hts⟩ (c_twenties l dC dI wk (by omega)) (va_cwS 1 hts gX12_odds_X12_twenties rfl rfl rfl hd_yX12_twenties.2 ⟨Nat.le_of_ble_eq_true rfl, Nat.le_of_ble_eq_true rfl⟩) ⟨fun a U g mk q => ⟨q.1, trivial⟩, fun U hU hW => ⟨rfl, trivial⟩⟩ rfl rfl hl.1 rfl (lv_room (Nat.le_of_ble_eq_true rfl)) dX12_odds_150 ⟨Nat.le_of_ble_eq_true rfl, Nat.le_of_ble_eq_true rfl⟩).run (fun r_175 hw_176 => ?_)
                    obtain rfl := hw_176
                    refine lv_iload_n hx hb dX12_odds_153 rfl (lv_at hl 4 rfl) ?_
                    refine vp_callSl (va_runS (As := [.long (lN (T9 i j_153)), .long (lN (20 ^ wk)), .int z]) (rest := []) ⟨hx, hb, hml, hown, hts⟩ (c_lowest l dC dI (T9 i j_153) (20 ^ wk) z (Nat.pow_pos (by decide)) (Nat.lt_of_le_of_lt ((hTB i (by omega)).1 j_153 (by omega)) (by decide)) (Nat.lt_of_le_of_lt (tw_p wk (by omega)) (by decide))) (va_cwS 3 hts gX12_odds_X12_lowest rfl rfl rfl hd_yX12_lowest.2 ⟨Nat.le_of_ble_eq_true rfl, Nat.le_of_ble_eq_true rfl⟩) ⟨fun a U g mk q => ⟨q.1, trivial⟩, fun U hU hW => ⟨rfl, trivial⟩⟩ rfl rfl hl.1 rfl (lv_room (Nat.le_of_ble_eq_true rfl)) dX12_odds_154 ⟨Nat.le_of_ble_eq_true rfl, Nat.le_of_ble_eq_true rfl⟩).run (fun r_177 hw_178 => ?_)
                    obtain rfl := hw_178
                    rw [hQ]
                    have hP9 := hP.sub (ws' := [(zo14irriiiiiirriirrrrlriiii m0 th aS aI im ac sp en wg op aB aT se9_166 dn9_167 aG aO aN aD bv aY rn kd nu tv), (zaI aS cS 901 fS), (zaI aB cB 6 fB9_164), (zaI aT cT 64 fT9_165), (zaL aO cO 36 fO2), (zaL aN cN 36 fN2), (zaI aD cD 36 fD9_168)]) [0, 1, 2, 3, 4, 5, 6] rfl
                    have hD9 := hD.sub (ws' := [(zo14irriiiiiirriirrrrlriiii m0 th aS aI im ac sp en wg op aB aT se9_166 dn9_167 aG aO aN aD bv aY rn kd nu tv), (zaI aS cS 901 fS), (zaI aB cB 6 fB9_164), (zaI aT cT 64 fT9_165), (zaL aO cO 36 fO2), (zaL aN cN 36 fN2), (zaI aD cD 36 fD9_168)]) [0, 1, 2, 3, 4, 5, 6] (by decide) rfl
                    have hK9 := hK.sub (tys' := [(cS, .int), (cB, .int), (cT, .boolean), (cO, .long), (cN, .long), (cD, .int)]) [0, 1, 2, 3, 4, 5] rfl
                    exact W.lret (v := ptR (T9 i j_153) (20 ^ wk) z) hx hb hr (fun tQ htQ hWQ => ⟨⟨(ptR (T9 i j_153) (20 ^ wk) z), (fB9_164, fT9_165, se9_166, dn9_167, fD9_168, fO2, fN2), rfl, od_c (by omega) (by omega) (by assumption) (by assumption) hT9 (by omega), by rw [htQ]; exact hP9, va_K.moved hWQ.alike hK9, hD9⟩, hS.F htQ⟩) hS.2.2 dX12_odds_157
                  · skip
                    have c_174 : j_153 = 40 := (nI_eq (a := j_153) (b := 40) (by omega) (by omega)).mp c_174
                    exfalso
                    omega
                · skip
                  have c_172 : ¬ wk ≤ i := fun q => c_172 ((nI_leI (a := wk) (b := i) (by omega) (by omega)).mpr q)
                  refine lv_aload_n hx hb dX12_odds_85 rfl (lv_at hl 0 rfl) ?_
                  refine lv_aload_n hx hb dX12_odds_86 rfl (lv_at hl 0 rfl) ?_
                  refine va_get (D := (dC, dI)) (ci := 14) (v := .ref aS) (C := RX12) (T := TX12) (N := 23) hx hb hts kc_mOdds_0 hown hK hP 0 rfl rfl 1 (by decide) (hts (.fieldLink RX12 9 "MistHeapsModel" "s" "[I") kc_mOdds_1) (fun _ h9 => h9) rfl dX12_odds_87 ?_
                  refine lv_bipush (v := 73) hx hb dX12_odds_90 (by decide) ?_
                  refine lv_iload hx hb dX12_odds_92 (lv_at hl 5 rfl) ?_
                  refine lv_iadd hx hb dX12_odds_94 ?_
                  refine qi_as (y := nI (73 + i)) (nI_add 73 i) ?_
                  refine va_iald hx hb hK hP 1 0 rfl rfl (vp_in_nI (n := 73 + i) (N := 901) (by omega) (by omega)) dX12_odds_95 ?_
                  refine qi_as (y := nI (wy i)) ((show fS (nI (73 + i) : Int32).toNatClampNeg = fS (73 + i) from by rw [nI_clamp (by omega)]).trans (zwy i (by omega))) ?_
                  have hPc := hP.sub (ws' := [(zo14irriiiiiirriirrrrlriiii m0 th aS aI im ac sp en wg op aB aT se9_166 dn9_167 aG aO aN aD bv aY rn kd nu tv), (zaI aS cS 901 fS), (zaL aO cO 36 fO2), (zaL aN cN 36 fN2), (zaI aD cD 36 fD9_168)]) [0, 1, 4, 5, 6] rfl
                  have hDc := hD.sub (ws' := [(zo14irriiiiiirriirrrrlriiii m0 th aS aI im ac sp en wg op aB aT se9_166 dn9_167 aG aO aN aD bv aY rn kd nu tv), (zaI aS cS 901 fS), (zaL aO cO 36 fO2), (zaL aN cN 36 fN2), (zaI aD cD 36 fD9_168)]) [0, 1, 4, 5, 6] (by decide) rfl
                  have hKc := hK.sub (tys' := [(cS, .int), (cO, .long), (cN, .long), (cD, .int)]) [0, 3, 4, 5] rfl
                  have hFc := va_free (wc := [(zo14irriiiiiirriirrrrlriiii m0 th aS aI im ac sp en wg op aB aT se9_166 dn9_167 aG aO aN aD bv aY rn kd nu tv), (zaI aS cS 901 fS), (zaL aO cO 36 fO2), (zaL aN cN 36 fN2), (zaI aD cD 36 fD9_168)]) hD hS hA [0, 1, 4, 5, 6] rfl
                  refine va_callv (va_runV (As := [.int (nI (wy i))]) (rest := []) ⟨hx, hb, hml, hown, hts⟩ (c_goesOn l dC dI m0 aS aI aB aT aG aO aN aD aY th im ac sp en wg op se9_166 dn9_167 rn kd nu tv bv cS cO cN cD fS fO2 fN2 fD9_168 (wy i) (T9 i) (drN cz mi sn) (edB ee) H.size (hwy i) (hTi) ((hTB i (by omega)).1) (hdr) (hed)) (cwV 1 hts gX12_odds_X12_goesOn rfl rfl rfl hd_yX12_goesOn ⟨Nat.le_of_ble_eq_true rfl, Nat.le_of_ble_eq_true rfl⟩) ⟨fun a U g mk q => by obtain ⟨q0, q1, qP, qK, qD⟩ := q; exact ⟨q0, mvz g mk a q1, mvP g mk a qP, mvK g mk a qK, qD⟩, va_recv hK hP (ci := 14) (q := (RX12, TX12, 23)) (q0 := 0) rfl rfl, fun U hU hW => ⟨rfl, by rw [hU], by rw [hU]; exact hPc, va_K.moved hW.alike hKc, hDc.weaken (fun _ _ _ _ => trivial)⟩⟩ rfl rfl hl.1 rfl (lv_room (Nat.le_of_ble_eq_true rfl)) dX12_odds_96 ⟨Nat.le_of_ble_eq_true rfl, Nat.le_of_ble_eq_true rfl⟩) hS (fun q _ h => hFc q h) hFc (fun u tC H1 locs htC hvm hw_180 hB hz1 hk1 hS => ?_)
                  obtain ⟨fO9_181, fN9_182⟩ := u
                  try dsimp only at hw_180 hB
                  obtain ⟨hP1, hK1, hD1⟩ := hB
                  rw [htC] at hP1
                  have hK1 := va_K.moved hvm.symm hK1
                  obtain ⟨hP, hD⟩ := va_join (wr := [(zaI aB cB 6 fB9_164), (zaI aT cT 64 fT9_165)]) (w1 := [(zo14irriiiiiirriirrrrlriiii m0 th aS aI im ac sp en wg op aB aT se9_166 dn9_167 aG aO aN aD bv aY rn kd nu tv), (zaI aS cS 901 fS), (zaL aO cO 36 fO9_181), (zaL aN cN 36 fN9_182), (zaI aD cD 36 fD9_168)]) hP hD [0, 1, 4, 5, 6] [2, 3] rfl rfl (by decide) (by decide) hk1 hFc hP1 hD1
                  have hK := (hK.sub (tys' := [(cB, .int), (cT, .boolean)]) [1, 2] rfl).app hK1
                  generalize H1 = H at hP hS ⊢
                  have hP : va_P (dC, dI) vwCl [(zaI aB cB 6 fB9_164), (zaI aT cT 64 fT9_165), (zo14irriiiiiirriirrrrlriiii m0 th aS aI im ac sp en wg op aB aT se9_166 dn9_167 aG aO aN aD bv aY rn kd nu tv), (zaI aS cS 901 fS), (zaL aO cO 36 fO9_181), (zaL aN cN 36 fN9_182), (zaI aD cD 36 fD9_168)] H := hP
                  have hD : va_D A [(zaI aB cB 6 fB9_164), (zaI aT cT 64 fT9_165), (zo14irriiiiiirriirrrrlriiii m0 th aS aI im ac sp en wg op aB aT se9_166 dn9_167 aG aO aN aD bv aY rn kd nu tv), (zaI aS cS 901 fS), (zaL aO cO 36 fO9_181), (zaL aN cN 36 fN9_182), (zaI aD cD 36 fD9_168)] := hD
                  have hK : va_K (dC, dI) vwCl [(cB, .int), (cT, .boolean), (cS, .int), (cO, .long), (cN, .long), (cD, .int)] s := hK
                  have hT8 : lnA fO9_181 (T9 (i + 1)) := by rw [hT9] at hw_180 ⊢; exact hw_180
                  refine lv_iinc (v := nI (i + 1)) (lv' := [(5, .int (nI (i + 1))), (0, .ref m0), (1, .int (nI j_145)), (2, .int (nI j_153)), (3, .int z), (4, .int 0)]) hx hb dX12_odds_99 hl (k := 5) rfl (nI_add i 1) (by decide) rfl (fun ls hl => ?_)
                  refine lv_goto (tgt := 74) hx hb dX12_odds_102 (by decide) ?_
                  exact ih74 (i + 1) (fO9_181) (fN9_182) (by omega) (by omega) (hT8) _ _ (hK.sub [2, 0, 1, 3, 4, 5] rfl) (hP.sub [2, 3, 0, 1, 4, 5, 6] rfl) (hD.sub [2, 3, 0, 1, 4, 5, 6] (by decide) rfl) hS ls (lv_sub hl [1, 2, 3, 4, 5, 0] rfl)
            exact L74 _ (0) (fO9_171) (fN) (Nat.lt_succ_self _) (by omega) (hT0) _ _ (hK.sub [1, 2, 3, 5, 0, 4] rfl) (hP.sub [5, 1, 2, 3, 6, 0, 4] rfl) (hD.sub [5, 1, 2, 3, 6, 0, 4] (by decide) rfl) hS ls (lv_sub hl [2, 3, 4, 5, 1, 0] rfl)
          · skip
            refine lv_if_ne (tgt := 62) hx hb dX12_odds_55 (by decide) (fun c_183 => absurd c_183 (by decide)) (fun _ => ?_)
            refine lv_ldc2 (v := (-9223372036854775808)) hx hb hown (hts (.constantLong RX12 181 (-9223372036854775808)) kc_mOdds_3) dX12_odds_58 ?_
            rw [hQ]
            have hP9 := hP.sub (ws' := [(zo14irriiiiiirriirrrrlriiii m0 th aS aI im ac sp en wg op aB aT se dn aG aO aN aD bv aY rn kd nu tv), (zaI aS cS 901 fS), (zaI aB cB 6 fB), (zaI aT cT 64 fT), (zaL aO cO 36 fO), (zaL aN cN 36 fN), (zaI aD cD 36 fD)]) [0, 1, 2, 3, 4, 5, 6] rfl
            have hD9 := hD.sub (ws' := [(zo14irriiiiiirriirrrrlriiii m0 th aS aI im ac sp en wg op aB aT se dn aG aO aN aD bv aY rn kd nu tv), (zaI aS cS 901 fS), (zaI aB cB 6 fB), (zaI aT cT 64 fT), (zaL aO cO 36 fO), (zaL aN cN 36 fN), (zaI aD cD 36 fD)]) [0, 1, 2, 3, 4, 5, 6] (by decide) rfl
            have hK9 := hK.sub (tys' := [(cS, .int), (cB, .int), (cT, .boolean), (cO, .long), (cN, .long), (cD, .int)]) [0, 1, 2, 3, 4, 5] rfl
            exact W.lret (v := (-9223372036854775808)) hx hb hr (fun tQ htQ hWQ => ⟨⟨(-9223372036854775808), (fB, fT, se, dn, fD, fO, fN), rfl, by first | exact od_no1 (by assumption) | exact od_no3 (by assumption) | exact od_no2 (by assumption) (by assumption) (by first | exact Or.inl (by assumption) | exact Or.inr (by assumption)), by rw [htQ]; exact hP9, va_K.moved hWQ.alike hK9, hD9⟩, hS.F htQ⟩) hS.2.2 dX12_odds_61
        · skip
          refine lv_if_ne (tgt := 49) hx hb dX12_odds_35 (by decide) (fun c_184 => absurd c_184 (by decide)) (fun _ => ?_)
          refine lv_iload_n hx hb dX12_odds_38 rfl (lv_at hl 3 rfl) ?_
          refine lv_bipush (v := 40) hx hb dX12_odds_39 (by decide) ?_
          refine lv_icmp_eq (tgt := 49) hx hb dX12_odds_41 (by decide) (fun c_185 => ?_) (fun c_185 => ?_)
          · skip
            refine lv_iload_n hx hb dX12_odds_49 rfl (lv_at hl 4 rfl) ?_
            refine lv_iconst (v := 0) hx hb dX12_odds_50 (by decide) ?_
            refine lv_iconst (v := 1) hx hb dX12_odds_51 (by decide) ?_
            refine vp_callSi (va_runS (As := [.int z, .int 0, .int 1]) (rest := []) ⟨hx, hb, hml, hown, hts⟩ (c_in l dC dI z 0 1) (va_cwS 3 hts gX12_odds_X12_in rfl rfl rfl hd_yX12_in.2 ⟨Nat.le_of_ble_eq_true rfl, Nat.le_of_ble_eq_true rfl⟩) ⟨fun a U g mk q => ⟨q.1, trivial⟩, fun U hU hW => ⟨rfl, trivial⟩⟩ rfl rfl hl.1 rfl (lv_room (Nat.le_of_ble_eq_true rfl)) dX12_odds_52 ⟨Nat.le_of_ble_eq_true rfl, Nat.le_of_ble_eq_true rfl⟩).run (fun r_186 hw_187 => ?_)
            rcases hw_187 with ⟨rfl, h_188, h_189⟩ | ⟨rfl, h_190⟩
            · skip
              refine lv_if_ne (tgt := 62) hx hb dX12_odds_55 (by decide) (fun _ => ?_) (fun c_191 => absurd c_191 (by decide))
              have hw3 := hol_w3 zh
              have hd5 : ∀ c, c < 36 → drN cz mi sn c ≤ 5 := fun c _ => (dr_ok hw3.1 hw3.2 c).2
              have hed := ed_m zee
              obtain ⟨T9, hT9⟩ : ∃ T : Nat → Nat → Nat, T = tmN (edB ee) (drN cz mi sn) wy j_145 := ⟨_, rfl⟩
              have hTB := od_b (show j_145 < 36 by omega) hd5 hwy hT9
              refine lv_aload_n hx hb dX12_odds_62 rfl (lv_at hl 1 rfl) ?_
              have hPc := hP.sub (ws' := [(zo14irriiiiiirriirrrrlriiii m0 th aS aI im ac sp en wg op aB aT se dn aG aO aN aD bv aY rn kd nu tv), (zaI aS cS 901 fS), (zaI aB cB 6 fB), (zaI aT cT 64 fT), (zaI aD cD 36 fD)]) [0, 1, 2, 3, 6] rfl
              have hDc := hD.sub (ws' := [(zo14irriiiiiirriirrrrlriiii m0 th aS aI im ac sp en wg op aB aT se dn aG aO aN aD bv aY rn kd nu tv), (zaI aS cS 901 fS), (zaI aB cB 6 fB), (zaI aT cT 64 fT), (zaI aD cD 36 fD)]) [0, 1, 2, 3, 6] (by decide) rfl
              have hKc := hK.sub (tys' := [(cS, .int), (cB, .int), (cT, .boolean), (cD, .int)]) [0, 1, 2, 5] rfl
              have hFc := va_free (wc := [(zo14irriiiiiirriirrrrlriiii m0 th aS aI im ac sp en wg op aB aT se dn aG aO aN aD bv aY rn kd nu tv), (zaI aS cS 901 fS), (zaI aB cB 6 fB), (zaI aT cT 64 fT), (zaI aD cD 36 fD)]) hD hS hA [0, 1, 2, 3, 6] rfl
              refine va_callv (va_runV (As := []) (rest := []) ⟨hx, hb, hml, hown, hts⟩ (c_lookDrifts l dC dI m0 aS aI aB aT aG aO aN aD aY th im ac sp en wg op se dn rn kd nu tv bv cS cB cT cD fS fB fT fD cz H.size (zh)) (cwV 0 hts gX12_odds_X12_looksForDrifts rfl rfl rfl hd_yX12_looksForDrifts ⟨Nat.le_of_ble_eq_true rfl, Nat.le_of_ble_eq_true rfl⟩) ⟨fun a U g mk q => by obtain ⟨q0, q1, qP, qK, qD⟩ := q; exact ⟨q0, mvz g mk a q1, mvP g mk a qP, mvK g mk a qK, qD⟩, va_recv hK hP (ci := 14) (q := (RX12, TX12, 23)) (q0 := 0) rfl rfl, fun U hU hW => ⟨rfl, by rw [hU], by rw [hU]; exact hPc, va_K.moved hW.alike hKc, hDc.weaken (fun _ _ _ _ => trivial)⟩⟩ rfl rfl hl.1 rfl (lv_room (Nat.le_of_ble_eq_true rfl)) dX12_odds_63 ⟨Nat.le_of_ble_eq_true rfl, Nat.le_of_ble_eq_true rfl⟩) hS (fun q _ h => hFc q h) hFc (fun u tC H1 locs htC hvm hw_193 hB hz1 hk1 hS => ?_)
              obtain ⟨fB9_194, fT9_195, se9_196, dn9_197, fD9_198⟩ := u
              try dsimp only at hw_193 hB
              obtain ⟨hP1, hK1, hD1⟩ := hB
              rw [htC] at hP1
              have hK1 := va_K.moved hvm.symm hK1
              obtain ⟨hP, hD⟩ := va_join (wr := [(zaL aO cO 36 fO), (zaL aN cN 36 fN)]) (w1 := [(zo14irriiiiiirriirrrrlriiii m0 th aS aI im ac sp en wg op aB aT se9_196 dn9_197 aG aO aN aD bv aY rn kd nu tv), (zaI aS cS 901 fS), (zaI aB cB 6 fB9_194), (zaI aT cT 64 fT9_195), (zaI aD cD 36 fD9_198)]) hP hD [0, 1, 2, 3, 6] [4, 5] rfl rfl (by decide) (by decide) hk1 hFc hP1 hD1
              have hK := (hK.sub (tys' := [(cO, .long), (cN, .long)]) [3, 4] rfl).app hK1
              generalize H1 = H at hP hS ⊢
              have hP : va_P (dC, dI) vwCl [(zaL aO cO 36 fO), (zaL aN cN 36 fN), (zo14irriiiiiirriirrrrlriiii m0 th aS aI im ac sp en wg op aB aT se9_196 dn9_197 aG aO aN aD bv aY rn kd nu tv), (zaI aS cS 901 fS), (zaI aB cB 6 fB9_194), (zaI aT cT 64 fT9_195), (zaI aD cD 36 fD9_198)] H := hP
              have hD : va_D A [(zaL aO cO 36 fO), (zaL aN cN 36 fN), (zo14irriiiiiirriirrrrlriiii m0 th aS aI im ac sp en wg op aB aT se9_196 dn9_197 aG aO aN aD bv aY rn kd nu tv), (zaI aS cS 901 fS), (zaI aB cB 6 fB9_194), (zaI aT cT 64 fT9_195), (zaI aD cD 36 fD9_198)] := hD
              have hK : va_K (dC, dI) vwCl [(cO, .long), (cN, .long), (cS, .int), (cB, .int), (cT, .boolean), (cD, .int)] s := hK
              have hdr : ∀ k, k < 36 → fD9_198 k = nI (drN cz mi sn k) ∧ drN cz mi sn k ≤ 5 := fun k hk => by rw [hw_193 k hk, zmi, zsn]; exact dr_ok (hol_w3 zh).1 (hol_w3 zh).2 k
              refine lv_aload_n hx hb dX12_odds_66 rfl (lv_at hl 1 rfl) ?_
              refine lv_iload_n hx hb dX12_odds_67 rfl (lv_at hl 2 rfl) ?_
              have hPc := hP.sub (ws' := [(zo14irriiiiiirriirrrrlriiii m0 th aS aI im ac sp en wg op aB aT se9_196 dn9_197 aG aO aN aD bv aY rn kd nu tv), (zaL aO cO 36 fO)]) [2, 0] rfl
              have hDc := hD.sub (ws' := [(zo14irriiiiiirriirrrrlriiii m0 th aS aI im ac sp en wg op aB aT se9_196 dn9_197 aG aO aN aD bv aY rn kd nu tv), (zaL aO cO 36 fO)]) [2, 0] (by decide) rfl
              have hKc := hK.sub (tys' := [(cO, .long)]) [0] rfl
              have hFc := va_free (wc := [(zo14irriiiiiirriirrrrlriiii m0 th aS aI im ac sp en wg op aB aT se9_196 dn9_197 aG aO aN aD bv aY rn kd nu tv), (zaL aO cO 36 fO)]) hD hS hA [2, 0] rfl
              refine va_callv (va_runV (As := [.int (nI j_145)]) (rest := []) ⟨hx, hb, hml, hown, hts⟩ (c_begins l dC dI m0 aS aI aB aT aG aO aN aD aY th im ac sp en wg op se9_196 dn9_197 rn kd nu tv bv cO fO j_145 H.size (by omega)) (cwV 1 hts gX12_odds_X12_begins rfl rfl rfl hd_yX12_begins ⟨Nat.le_of_ble_eq_true rfl, Nat.le_of_ble_eq_true rfl⟩) ⟨fun a U g mk q => by obtain ⟨q0, q1, qP, qK, qD⟩ := q; exact ⟨q0, mvz g mk a q1, mvP g mk a qP, mvK g mk a qK, qD⟩, va_recv hK hP (ci := 14) (q := (RX12, TX12, 23)) (q0 := 2) rfl rfl, fun U hU hW => ⟨rfl, by rw [hU], by rw [hU]; exact hPc, va_K.moved hW.alike hKc, hDc.weaken (fun _ _ _ _ => trivial)⟩⟩ rfl rfl hl.1 rfl (lv_room (Nat.le_of_ble_eq_true rfl)) dX12_odds_68 ⟨Nat.le_of_ble_eq_true rfl, Nat.le_of_ble_eq_true rfl⟩) hS (fun q _ h => hFc q h) hFc (fun u tC H1 locs htC hvm hw_200 hB hz1 hk1 hS => ?_)
              obtain ⟨fO9_201, rfl⟩ : ∃ z, z = u := ⟨_, rfl⟩
              try dsimp only at hw_200 hB
              obtain ⟨hP1, hK1, hD1⟩ := hB
              rw [htC] at hP1
              have hK1 := va_K.moved hvm.symm hK1
              obtain ⟨hP, hD⟩ := va_join (wr := [(zaL aN cN 36 fN), (zaI aS cS 901 fS), (zaI aB cB 6 fB9_194), (zaI aT cT 64 fT9_195), (zaI aD cD 36 fD9_198)]) (w1 := [(zo14irriiiiiirriirrrrlriiii m0 th aS aI im ac sp en wg op aB aT se9_196 dn9_197 aG aO aN aD bv aY rn kd nu tv), (zaL aO cO 36 fO9_201)]) hP hD [2, 0] [1, 3, 4, 5, 6] rfl rfl (by decide) (by decide) hk1 hFc hP1 hD1
              have hK := (hK.sub (tys' := [(cN, .long), (cS, .int), (cB, .int), (cT, .boolean), (cD, .int)]) [1, 2, 3, 4, 5] rfl).app hK1
              generalize H1 = H at hP hS ⊢
              have hP : va_P (dC, dI) vwCl [(zaL aN cN 36 fN), (zaI aS cS 901 fS), (zaI aB cB 6 fB9_194), (zaI aT cT 64 fT9_195), (zaI aD cD 36 fD9_198), (zo14irriiiiiirriirrrrlriiii m0 th aS aI im ac sp en wg op aB aT se9_196 dn9_197 aG aO aN aD bv aY rn kd nu tv), (zaL aO cO 36 fO9_201)] H := hP
              have hD : va_D A [(zaL aN cN 36 fN), (zaI aS cS 901 fS), (zaI aB cB 6 fB9_194), (zaI aT cT 64 fT9_195), (zaI aD cD 36 fD9_198), (zo14irriiiiiirriirrrrlriiii m0 th aS aI im ac sp en wg op aB aT se9_196 dn9_197 aG aO aN aD bv aY rn kd nu tv), (zaL aO cO 36 fO9_201)] := hD
              have hK : va_K (dC, dI) vwCl [(cN, .long), (cS, .int), (cB, .int), (cT, .boolean), (cD, .int), (cO, .long)] s := hK
              have hT0 : lnA fO9_201 (T9 0) := by rw [hT9]; exact hw_200
              refine lv_iconst (v := 0) hx hb dX12_odds_71 (by decide) ?_
              refine lv_istore (lv' := [(5, .int 0), (4, .int 0), (0, .ref m0), (1, .int (nI j_145)), (2, .int y), (3, .int z)]) hx hb dX12_odds_72 hl (by decide) rfl (fun ls hl => ?_)
              have L74 : ∀ (nF : Nat) (i : Nat) (fO2 : Nat → Int64) (fN2 : Nat → Int64), wk - i < nF → (i ≤ wk) → (lnA fO2 (T9 i)) → ∀ (H : Heap) (locs : List Loc), va_K (dC, dI) vwCl [(cS, .int), (cB, .int), (cT, .boolean), (cO, .long), (cN, .long), (cD, .int)] s → va_P (dC, dI) vwCl [(zo14irriiiiiirriirrrrlriiii m0 th aS aI im ac sp en wg op aB aT se9_196 dn9_197 aG aO aN aD bv aY rn kd nu tv), (zaI aS cS 901 fS), (zaI aB cB 6 fB9_194), (zaI aT cT 64 fT9_195), (zaL aO cO 36 fO2), (zaL aN cN 36 fN2), (zaI aD cD 36 fD9_198)] H → va_D A [(zo14irriiiiiirriirrrrlriiii m0 th aS aI im ac sp en wg op aB aT se9_196 dn9_197 aG aO aN aD bv aY rn kd nu tv), (zaI aS cS 901 fS), (zaI aB cB 6 fB9_194), (zaI aT cT 64 fT9_195), (zaL aO cO 36 fO2), (zaL aN cN 36 fN2), (zaI aD cD 36 fD9_198)] → va_S A s.heap H locs → ∀ (ls : Array Slot), lv_has ls 7 [(0, .ref m0), (1, .int (nI j_145)), (2, .int y), (3, .int z), (4, .int 0), (5, .int (nI i))] → W p l e ({ frames := 4, cells := 0, slots := 0, locals := 101 } : Room) s m args below meth c H locs 0 0 Q (F0 m 74 ls []) := by
                intro nF
                induction nF with
                | zero => intro i fO2 fN2 hm; exact absurd hm (Nat.not_lt_zero _)
                | succ nF ih74 =>
                  intro i fO2 fN2 hm hi hTi H locs hK hP hD hS ls hl
                  refine lv_iload hx hb dX12_odds_74 (lv_at hl 5 rfl) ?_
                  refine lv_aload_n hx hb dX12_odds_76 rfl (lv_at hl 0 rfl) ?_
                  refine va_get (D := (dC, dI)) (ci := 14) (v := .ref aS) (C := RX12) (T := TX12) (N := 23) hx hb hts kc_mOdds_0 hown hK hP 0 rfl rfl 1 (by decide) (hts (.fieldLink RX12 9 "MistHeapsModel" "s" "[I") kc_mOdds_1) (fun _ h9 => h9) rfl dX12_odds_77 ?_
                  refine lv_iconst (v := 2) hx hb dX12_odds_80 (by decide) ?_
                  refine va_iald hx hb hK hP 1 0 rfl rfl (vp_in_nI (n := 2) (N := 901) (by omega) (by omega)) dX12_odds_81 ?_
                  refine qi_as (y := nI wk) ((show fS (2 : Int32).toNatClampNeg = fS 2 from rfl).trans (zw)) ?_
                  refine lv_icmp_ge (tgt := 105) hx hb dX12_odds_82 (by decide) (fun c_202 => ?_) (fun c_202 => ?_)
                  · skip
                    have c_202 : wk ≤ i := (nI_leI (a := wk) (b := i) (by omega) (by omega)).mp c_202
                    refine lv_iload hx hb dX12_odds_105 (lv_at hl 4 rfl) ?_
                    refine lv_if_eq (tgt := 121) hx hb dX12_odds_107 (by decide) (fun _ => ?_) (fun c_203 => absurd c_203 (by decide))
                    refine lv_iload_n hx hb dX12_odds_121 rfl (lv_at hl 2 rfl) ?_
                    refine lv_bipush (v := 40) hx hb dX12_odds_122 (by decide) ?_
                    refine lv_icmp_ne (tgt := 134) hx hb dX12_odds_124 (by decide) (fun c_204 => ?_) (fun c_204 => ?_)
                    · skip
                      exact absurd c_185 c_204
                    · skip
                      refine lv_aload_n hx hb dX12_odds_127 rfl (lv_at hl 0 rfl) ?_
                      have hPc := hP.sub (ws' := [(zo14irriiiiiirriirrrrlriiii m0 th aS aI im ac sp en wg op aB aT se9_196 dn9_197 aG aO aN aD bv aY rn kd nu tv), (zaI aS cS 901 fS), (zaL aO cO 36 fO2)]) [0, 1, 4] rfl
                      have hKc := hK.sub (tys' := [(cS, .int), (cO, .long)]) [0, 3] rfl
                      refine vp_callSl (va_runV (As := []) (rest := []) ⟨hx, hb, hml, hown, hts⟩ (c_over l dC dI m0 aS aI aB aT aG aO aN aD aY th im ac sp en wg op se9_196 dn9_197 rn kd nu tv bv cS cO fS fO2 (T9 i) (edB ee) (hTi) (hed)) (cwV 0 hts gX12_odds_X12_over rfl rfl rfl hd_yX12_over ⟨Nat.le_of_ble_eq_true rfl, Nat.le_of_ble_eq_true rfl⟩) ⟨fun a U g mk q => by obtain ⟨q0, qP, qK⟩ := q; exact ⟨q0, mvP g mk a qP, mvK g mk a qK⟩, va_recv hK hP (ci := 14) (q := (RX12, TX12, 23)) (q0 := 0) rfl rfl, fun U hU hW => ⟨rfl, by rw [hU]; exact hPc, va_K.moved hW.alike hKc⟩⟩ rfl rfl hl.1 rfl (lv_room (Nat.le_of_ble_eq_true rfl)) dX12_odds_128 ⟨Nat.le_of_ble_eq_true rfl, Nat.le_of_ble_eq_true rfl⟩).run (fun r_205 hw_206 => ?_)
                      obtain rfl := hw_206
                      refine lv_goto (tgt := 140) hx hb dX12_odds_131 (by decide) ?_
                      refine lv_lstore (lv' := [(5, .long (lN (msN (fun k => edB ee k = true) (T9 i) 36))), (0, .ref m0), (1, .int (nI j_145)), (2, .int y), (3, .int z), (4, .int 0)]) hx hb dX12_odds_140 hl (by decide) rfl (fun ls hl => ?_)
                      refine lv_lload hx hb dX12_odds_142 (lv_at hl 0 rfl) ?_
                      refine lv_aload_n hx hb dX12_odds_144 rfl (lv_at hl 1 rfl) ?_
                      refine va_get (D := (dC, dI)) (ci := 14) (v := .ref aS) (C := RX12) (T := TX12) (N := 23) hx hb hts kc_mOdds_0 hown hK hP 0 rfl rfl 1 (by decide) (hts (.fieldLink RX12 9 "MistHeapsModel" "s" "[I") kc_mOdds_1) (fun _ h9 => h9) rfl dX12_odds_145 ?_
                      refine lv_iconst (v := 2) hx hb dX12_odds_148 (by decide) ?_
                      refine va_iald hx hb hK hP 1 0 rfl rfl (vp_in_nI (n := 2) (N := 901) (by omega) (by omega)) dX12_odds_149 ?_
                      refine qi_as (y := nI wk) ((show fS (2 : Int32).toNatClampNeg = fS 2 from rfl).trans (zw)) ?_
                      refine vp_callSl (va_runS (As := [.int (nI wk)]) (rest := [.long (lN (msN (fun k => edB ee k = true) (T9 i) 36))]) ⟨hx, hb, hml, hown, hts⟩ (c_twenties l dC dI wk (by omega)) (va_cwS 1 hts gX12_odds_X12_twenties rfl rfl rfl hd_yX12_twenties.2 ⟨Nat.le_of_ble_eq_true rfl, Nat.le_of_ble_eq_true rfl⟩) ⟨fun a U g mk q => ⟨q.1, trivial⟩, fun U hU hW => ⟨rfl, trivial⟩⟩ rfl rfl hl.1 rfl (lv_room (Nat.le_of_ble_eq_true rfl)) dX12_odds_150 ⟨Nat.le_of_ble_eq_true rfl, Nat.le_of_ble_eq_true rfl⟩).run (fun r_207 hw_208 => ?_)
                      obtain rfl := hw_208
                      refine lv_iload_n hx hb dX12_odds_153 rfl (lv_at hl 4 rfl) ?_
                      refine vp_callSl (va_runS (As := [.long (lN (msN (fun k => edB ee k = true) (T9 i) 36)), .long (lN (20 ^ wk)), .int z]) (rest := []) ⟨hx, hb, hml, hown, hts⟩ (c_lowest l dC dI (msN (fun k => edB ee k = true) (T9 i) 36) (20 ^ wk) z (Nat.pow_pos (by decide)) (Nat.lt_of_le_of_lt ((hTB i (by omega)).2 _) (by decide)) (Nat.lt_of_le_of_lt (tw_p wk (by omega)) (by decide))) (va_cwS 3 hts gX12_odds_X12_lowest rfl rfl rfl hd_yX12_lowest.2 ⟨Nat.le_of_ble_eq_true rfl, Nat.le_of_ble_eq_true rfl⟩) ⟨fun a U g mk q => ⟨q.1, trivial⟩, fun U hU hW => ⟨rfl, trivial⟩⟩ rfl rfl hl.1 rfl (lv_room (Nat.le_of_ble_eq_true rfl)) dX12_odds_154 ⟨Nat.le_of_ble_eq_true rfl, Nat.le_of_ble_eq_true rfl⟩).run (fun r_209 hw_210 => ?_)
                      obtain rfl := hw_210
                      rw [hQ]
                      have hP9 := hP.sub (ws' := [(zo14irriiiiiirriirrrrlriiii m0 th aS aI im ac sp en wg op aB aT se9_196 dn9_197 aG aO aN aD bv aY rn kd nu tv), (zaI aS cS 901 fS), (zaI aB cB 6 fB9_194), (zaI aT cT 64 fT9_195), (zaL aO cO 36 fO2), (zaL aN cN 36 fN2), (zaI aD cD 36 fD9_198)]) [0, 1, 2, 3, 4, 5, 6] rfl
                      have hD9 := hD.sub (ws' := [(zo14irriiiiiirriirrrrlriiii m0 th aS aI im ac sp en wg op aB aT se9_196 dn9_197 aG aO aN aD bv aY rn kd nu tv), (zaI aS cS 901 fS), (zaI aB cB 6 fB9_194), (zaI aT cT 64 fT9_195), (zaL aO cO 36 fO2), (zaL aN cN 36 fN2), (zaI aD cD 36 fD9_198)]) [0, 1, 2, 3, 4, 5, 6] (by decide) rfl
                      have hK9 := hK.sub (tys' := [(cS, .int), (cB, .int), (cT, .boolean), (cO, .long), (cN, .long), (cD, .int)]) [0, 1, 2, 3, 4, 5] rfl
                      exact W.lret (v := ptR (msN (fun k => edB ee k = true) (T9 i) 36) (20 ^ wk) z) hx hb hr (fun tQ htQ hWQ => ⟨⟨(ptR (msN (fun k => edB ee k = true) (T9 i) 36) (20 ^ wk) z), (fB9_194, fT9_195, se9_196, dn9_197, fD9_198, fO2, fN2), rfl, od_o (by omega) c_185 (by assumption) (by assumption) hT9 (by omega), by rw [htQ]; exact hP9, va_K.moved hWQ.alike hK9, hD9⟩, hS.F htQ⟩) hS.2.2 dX12_odds_157
                  · skip
                    have c_202 : ¬ wk ≤ i := fun q => c_202 ((nI_leI (a := wk) (b := i) (by omega) (by omega)).mpr q)
                    refine lv_aload_n hx hb dX12_odds_85 rfl (lv_at hl 0 rfl) ?_
                    refine lv_aload_n hx hb dX12_odds_86 rfl (lv_at hl 0 rfl) ?_
                    refine va_get (D := (dC, dI)) (ci := 14) (v := .ref aS) (C := RX12) (T := TX12) (N := 23) hx hb hts kc_mOdds_0 hown hK hP 0 rfl rfl 1 (by decide) (hts (.fieldLink RX12 9 "MistHeapsModel" "s" "[I") kc_mOdds_1) (fun _ h9 => h9) rfl dX12_odds_87 ?_
                    refine lv_bipush (v := 73) hx hb dX12_odds_90 (by decide) ?_
                    refine lv_iload hx hb dX12_odds_92 (lv_at hl 5 rfl) ?_
                    refine lv_iadd hx hb dX12_odds_94 ?_
                    refine qi_as (y := nI (73 + i)) (nI_add 73 i) ?_
                    refine va_iald hx hb hK hP 1 0 rfl rfl (vp_in_nI (n := 73 + i) (N := 901) (by omega) (by omega)) dX12_odds_95 ?_
                    refine qi_as (y := nI (wy i)) ((show fS (nI (73 + i) : Int32).toNatClampNeg = fS (73 + i) from by rw [nI_clamp (by omega)]).trans (zwy i (by omega))) ?_
                    have hPc := hP.sub (ws' := [(zo14irriiiiiirriirrrrlriiii m0 th aS aI im ac sp en wg op aB aT se9_196 dn9_197 aG aO aN aD bv aY rn kd nu tv), (zaI aS cS 901 fS), (zaL aO cO 36 fO2), (zaL aN cN 36 fN2), (zaI aD cD 36 fD9_198)]) [0, 1, 4, 5, 6] rfl
                    have hDc := hD.sub (ws' := [(zo14irriiiiiirriirrrrlriiii m0 th aS aI im ac sp en wg op aB aT se9_196 dn9_197 aG aO aN aD bv aY rn kd nu tv), (zaI aS cS 901 fS), (zaL aO cO 36 fO2), (zaL aN cN 36 fN2), (zaI aD cD 36 fD9_198)]) [0, 1, 4, 5, 6] (by decide) rfl
                    have hKc := hK.sub (tys' := [(cS, .int), (cO, .long), (cN, .long), (cD, .int)]) [0, 3, 4, 5] rfl
                    have hFc := va_free (wc := [(zo14irriiiiiirriirrrrlriiii m0 th aS aI im ac sp en wg op aB aT se9_196 dn9_197 aG aO aN aD bv aY rn kd nu tv), (zaI aS cS 901 fS), (zaL aO cO 36 fO2), (zaL aN cN 36 fN2), (zaI aD cD 36 fD9_198)]) hD hS hA [0, 1, 4, 5, 6] rfl
                    refine va_callv (va_runV (As := [.int (nI (wy i))]) (rest := []) ⟨hx, hb, hml, hown, hts⟩ (c_goesOn l dC dI m0 aS aI aB aT aG aO aN aD aY th im ac sp en wg op se9_196 dn9_197 rn kd nu tv bv cS cO cN cD fS fO2 fN2 fD9_198 (wy i) (T9 i) (drN cz mi sn) (edB ee) H.size (hwy i) (hTi) ((hTB i (by omega)).1) (hdr) (hed)) (cwV 1 hts gX12_odds_X12_goesOn rfl rfl rfl hd_yX12_goesOn ⟨Nat.le_of_ble_eq_true rfl, Nat.le_of_ble_eq_true rfl⟩) ⟨fun a U g mk q => by obtain ⟨q0, q1, qP, qK, qD⟩ := q; exact ⟨q0, mvz g mk a q1, mvP g mk a qP, mvK g mk a qK, qD⟩, va_recv hK hP (ci := 14) (q := (RX12, TX12, 23)) (q0 := 0) rfl rfl, fun U hU hW => ⟨rfl, by rw [hU], by rw [hU]; exact hPc, va_K.moved hW.alike hKc, hDc.weaken (fun _ _ _ _ => trivial)⟩⟩ rfl rfl hl.1 rfl (lv_room (Nat.le_of_ble_eq_true rfl)) dX12_odds_96 ⟨Nat.le_of_ble_eq_true rfl, Nat.le_of_ble_eq_true rfl⟩) hS (fun q _ h => hFc q h) hFc (fun u tC H1 locs htC hvm hw_212 hB hz1 hk1 hS => ?_)
                    obtain ⟨fO9_213, fN9_214⟩ := u
                    try dsimp only at hw_212 hB
                    obtain ⟨hP1, hK1, hD1⟩ := hB
                    rw [htC] at hP1
                    have hK1 := va_K.moved hvm.symm hK1
                    obtain ⟨hP, hD⟩ := va_join (wr := [(zaI aB cB 6 fB9_194), (zaI aT cT 64 fT9_195)]) (w1 := [(zo14irriiiiiirriirrrrlriiii m0 th aS aI im ac sp en wg op aB aT se9_196 dn9_197 aG aO aN aD bv aY rn kd nu tv), (zaI aS cS 901 fS), (zaL aO cO 36 fO9_213), (zaL aN cN 36 fN9_214), (zaI aD cD 36 fD9_198)]) hP hD [0, 1, 4, 5, 6] [2, 3] rfl rfl (by decide) (by decide) hk1 hFc hP1 hD1
                    have hK := (hK.sub (tys' := [(cB, .int), (cT, .boolean)]) [1, 2] rfl).app hK1
                    generalize H1 = H at hP hS ⊢
                    have hP : va_P (dC, dI) vwCl [(zaI aB cB 6 fB9_194), (zaI aT cT 64 fT9_195), (zo14irriiiiiirriirrrrlriiii m0 th aS aI im ac sp en wg op aB aT se9_196 dn9_197 aG aO aN aD bv aY rn kd nu tv), (zaI aS cS 901 fS), (zaL aO cO 36 fO9_213), (zaL aN cN 36 fN9_214), (zaI aD cD 36 fD9_198)] H := hP
                    have hD : va_D A [(zaI aB cB 6 fB9_194), (zaI aT cT 64 fT9_195), (zo14irriiiiiirriirrrrlriiii m0 th aS aI im ac sp en wg op aB aT se9_196 dn9_197 aG aO aN aD bv aY rn kd nu tv), (zaI aS cS 901 fS), (zaL aO cO 36 fO9_213), (zaL aN cN 36 fN9_214), (zaI aD cD 36 fD9_198)] := hD
                    have hK : va_K (dC, dI) vwCl [(cB, .int), (cT, .boolean), (cS, .int), (cO, .long), (cN, .long), (cD, .int)] s := hK
                    have hT8 : lnA fO9_213 (T9 (i + 1)) := by rw [hT9] at hw_212 ⊢; exact hw_212
                    refine lv_iinc (v := nI (i + 1)) (lv' := [(5, .int (nI (i + 1))), (0, .ref m0), (1, .int (nI j_145)), (2, .int y), (3, .int z), (4, .int 0)]) hx hb dX12_odds_99 hl (k := 5) rfl (nI_add i 1) (by decide) rfl (fun ls hl => ?_)
                    refine lv_goto (tgt := 74) hx hb dX12_odds_102 (by decide) ?_
                    exact ih74 (i + 1) (fO9_213) (fN9_214) (by omega) (by omega) (hT8) _ _ (hK.sub [2, 0, 1, 3, 4, 5] rfl) (hP.sub [2, 3, 0, 1, 4, 5, 6] rfl) (hD.sub [2, 3, 0, 1, 4, 5, 6] (by decide) rfl) hS ls (lv_sub hl [1, 2, 3, 4, 5, 0] rfl)
              exact L74 _ (0) (fO9_201) (fN) (Nat.lt_succ_self _) (by omega) (hT0) _ _ (hK.sub [1, 2, 3, 5, 0, 4] rfl) (hP.sub [5, 1, 2, 3, 6, 0, 4] rfl) (hD.sub [5, 1, 2, 3, 6, 0, 4] (by decide) rfl) hS ls (lv_sub hl [2, 3, 4, 5, 1, 0] rfl)
            · skip
              refine lv_if_ne (tgt := 62) hx hb dX12_odds_55 (by decide) (fun c_215 => absurd c_215 (by decide)) (fun _ => ?_)
              refine lv_ldc2 (v := (-9223372036854775808)) hx hb hown (hts (.constantLong RX12 181 (-9223372036854775808)) kc_mOdds_3) dX12_odds_58 ?_
              rw [hQ]
              have hP9 := hP.sub (ws' := [(zo14irriiiiiirriirrrrlriiii m0 th aS aI im ac sp en wg op aB aT se dn aG aO aN aD bv aY rn kd nu tv), (zaI aS cS 901 fS), (zaI aB cB 6 fB), (zaI aT cT 64 fT), (zaL aO cO 36 fO), (zaL aN cN 36 fN), (zaI aD cD 36 fD)]) [0, 1, 2, 3, 4, 5, 6] rfl
              have hD9 := hD.sub (ws' := [(zo14irriiiiiirriirrrrlriiii m0 th aS aI im ac sp en wg op aB aT se dn aG aO aN aD bv aY rn kd nu tv), (zaI aS cS 901 fS), (zaI aB cB 6 fB), (zaI aT cT 64 fT), (zaL aO cO 36 fO), (zaL aN cN 36 fN), (zaI aD cD 36 fD)]) [0, 1, 2, 3, 4, 5, 6] (by decide) rfl
              have hK9 := hK.sub (tys' := [(cS, .int), (cB, .int), (cT, .boolean), (cO, .long), (cN, .long), (cD, .int)]) [0, 1, 2, 3, 4, 5] rfl
              exact W.lret (v := (-9223372036854775808)) hx hb hr (fun tQ htQ hWQ => ⟨⟨(-9223372036854775808), (fB, fT, se, dn, fD, fO, fN), rfl, by first | exact od_no1 (by assumption) | exact od_no3 (by assumption) | exact od_no2 (by assumption) (by assumption) (by first | exact Or.inl (by assumption) | exact Or.inr (by assumption)), by rw [htQ]; exact hP9, va_K.moved hWQ.alike hK9, hD9⟩, hS.F htQ⟩) hS.2.2 dX12_odds_61
          · skip
            refine lv_iload hx hb dX12_odds_44 (lv_at hl 0 rfl) ?_
            refine lv_if_eq (tgt := 58) hx hb dX12_odds_46 (by decide) (fun _ => ?_) (fun c_216 => absurd c_216 (by decide))
            refine lv_ldc2 (v := (-9223372036854775808)) hx hb hown (hts (.constantLong RX12 181 (-9223372036854775808)) kc_mOdds_3) dX12_odds_58 ?_
            rw [hQ]
            have hP9 := hP.sub (ws' := [(zo14irriiiiiirriirrrrlriiii m0 th aS aI im ac sp en wg op aB aT se dn aG aO aN aD bv aY rn kd nu tv), (zaI aS cS 901 fS), (zaI aB cB 6 fB), (zaI aT cT 64 fT), (zaL aO cO 36 fO), (zaL aN cN 36 fN), (zaI aD cD 36 fD)]) [0, 1, 2, 3, 4, 5, 6] rfl
            have hD9 := hD.sub (ws' := [(zo14irriiiiiirriirrrrlriiii m0 th aS aI im ac sp en wg op aB aT se dn aG aO aN aD bv aY rn kd nu tv), (zaI aS cS 901 fS), (zaI aB cB 6 fB), (zaI aT cT 64 fT), (zaL aO cO 36 fO), (zaL aN cN 36 fN), (zaI aD cD 36 fD)]) [0, 1, 2, 3, 4, 5, 6] (by decide) rfl
            have hK9 := hK.sub (tys' := [(cS, .int), (cB, .int), (cT, .boolean), (cO, .long), (cN, .long), (cD, .int)]) [0, 1, 2, 3, 4, 5] rfl
            exact W.lret (v := (-9223372036854775808)) hx hb hr (fun tQ htQ hWQ => ⟨⟨(-9223372036854775808), (fB, fT, se, dn, fD, fO, fN), rfl, by first | exact od_no1 (by assumption) | exact od_no3 (by assumption) | exact od_no2 (by assumption) (by assumption) (by first | exact Or.inl (by assumption) | exact Or.inr (by assumption)), by rw [htQ]; exact hP9, va_K.moved hWQ.alike hK9, hD9⟩, hS.F htQ⟩) hS.2.2 dX12_odds_61
      · skip
        refine lv_if_eq (tgt := 58) hx hb dX12_odds_28 (by decide) (fun _ => ?_) (fun c_217 => absurd c_217 (by decide))
        refine lv_ldc2 (v := (-9223372036854775808)) hx hb hown (hts (.constantLong RX12 181 (-9223372036854775808)) kc_mOdds_3) dX12_odds_58 ?_
        rw [hQ]
        have hP9 := hP.sub (ws' := [(zo14irriiiiiirriirrrrlriiii m0 th aS aI im ac sp en wg op aB aT se dn aG aO aN aD bv aY rn kd nu tv), (zaI aS cS 901 fS), (zaI aB cB 6 fB), (zaI aT cT 64 fT), (zaL aO cO 36 fO), (zaL aN cN 36 fN), (zaI aD cD 36 fD)]) [0, 1, 2, 3, 4, 5, 6] rfl
        have hD9 := hD.sub (ws' := [(zo14irriiiiiirriirrrrlriiii m0 th aS aI im ac sp en wg op aB aT se dn aG aO aN aD bv aY rn kd nu tv), (zaI aS cS 901 fS), (zaI aB cB 6 fB), (zaI aT cT 64 fT), (zaL aO cO 36 fO), (zaL aN cN 36 fN), (zaI aD cD 36 fD)]) [0, 1, 2, 3, 4, 5, 6] (by decide) rfl
        have hK9 := hK.sub (tys' := [(cS, .int), (cB, .int), (cT, .boolean), (cO, .long), (cN, .long), (cD, .int)]) [0, 1, 2, 3, 4, 5] rfl
        exact W.lret (v := (-9223372036854775808)) hx hb hr (fun tQ htQ hWQ => ⟨⟨(-9223372036854775808), (fB, fT, se, dn, fD, fO, fN), rfl, by first | exact od_no1 (by assumption) | exact od_no3 (by assumption) | exact od_no2 (by assumption) (by assumption) (by first | exact Or.inl (by assumption) | exact Or.inr (by assumption)), by rw [htQ]; exact hP9, va_K.moved hWQ.alike hK9, hD9⟩, hS.F htQ⟩) hS.2.2 dX12_odds_61
end mg08
section mg08
theorem ggX12_goesBy_X12_begins : GoodIn wsX12_goesBy wsX12_begins := gga_of 1424 rfl rfl rfl
theorem gX12_goesBy_X12_begins : GoodIn wsX12_goesBy (wsV RX12 212 RX12 yX12_begins wsX12_begins) := goodIn_app (ggh_of [1421, 1423, 49, 72] rfl rfl rfl) ggX12_goesBy_X12_begins
theorem ggX12_goesBy_X12_goesOn : GoodIn wsX12_goesBy wsX12_goesOn := gga_of 1428 rfl rfl rfl
theorem gX12_goesBy_X12_goesOn : GoodIn wsX12_goesBy (wsV RX12 215 RX12 yX12_goesOn wsX12_goesOn) := goodIn_app (ggh_of [1425, 1427, 50, 72] rfl rfl rfl) ggX12_goesBy_X12_goesOn
theorem ggX12_bestRow_X12_looksForDrifts : GoodIn wsX12_bestRow wsX12_looksForDrifts := gga_of 1420 rfl rfl rfl
theorem gX12_bestRow_X12_looksForDrifts : GoodIn wsX12_bestRow (wsV RX12 209 RX12 yX12_looksForDrifts wsX12_looksForDrifts) := goodIn_app (ggh_of [1417, 1419, 48, 72] rfl rfl rfl) ggX12_bestRow_X12_looksForDrifts
theorem ggX12_bestRow_X12_goesBy : GoodIn wsX12_bestRow wsX12_goesBy := gga_of 1458 rfl rfl rfl
theorem gX12_bestRow_X12_goesBy : GoodIn wsX12_bestRow (wsV RX12 233 RX12 yX12_goesBy wsX12_goesBy) := goodIn_app (ggh_of [1455, 1457, 54, 72] rfl rfl rfl) ggX12_bestRow_X12_goesBy
theorem ggX12_bestRow_X12_over : GoodIn wsX12_bestRow wsX12_over := gga_of 1440 rfl rfl rfl
theorem gX12_bestRow_X12_over : GoodIn wsX12_bestRow (wsV RX12 222 RX12 yX12_over wsX12_over) := goodIn_app (ggh_of [1437, 1439, 52, 72] rfl rfl rfl) ggX12_bestRow_X12_over
theorem ggX12_best_X12_isCell : GoodIn wsX12_best wsX12_isCell := gga_of 1304 rfl rfl rfl
theorem gX12_best_X12_isCell : GoodIn wsX12_best (va_wsS RX12 149 yX12_isCell wsX12_isCell) := goodIn_app (ggh_of [1302, 1303, 72] rfl rfl rfl) ggX12_best_X12_isCell
theorem ggX12_best_X12_in : GoodIn wsX12_best wsX12_in := gga_of 1217 rfl rfl rfl
theorem gX12_best_X12_in : GoodIn wsX12_best (va_wsS RX12 45 yX12_in wsX12_in) := goodIn_app (ggh_of [1215, 1216, 72] rfl rfl rfl) ggX12_best_X12_in
theorem ggX12_best_X12_bestRow : GoodIn wsX12_best wsX12_bestRow := gga_of 1454 rfl rfl rfl
theorem gX12_best_X12_bestRow : GoodIn wsX12_best (wsV RX12 240 RX12 yX12_bestRow wsX12_bestRow) := goodIn_app (ggh_of [1451, 1453, 53, 72] rfl rfl rfl) ggX12_best_X12_bestRow
theorem ggX12_best_X12_wayOf : GoodIn wsX12_best wsX12_wayOf := gga_of 1461 rfl rfl rfl
theorem gX12_best_X12_wayOf : GoodIn wsX12_best (va_wsS RX12 243 yX12_wayOf wsX12_wayOf) := goodIn_app (ggh_of [1459, 1460, 72] rfl rfl rfl) ggX12_best_X12_wayOf
theorem ggX12_bestOdds_X12_isCell : GoodIn wsX12_bestOdds wsX12_isCell := gga_of 1304 rfl rfl rfl
theorem gX12_bestOdds_X12_isCell : GoodIn wsX12_bestOdds (va_wsS RX12 149 yX12_isCell wsX12_isCell) := goodIn_app (ggh_of [1302, 1303, 72] rfl rfl rfl) ggX12_bestOdds_X12_isCell
theorem ggX12_bestOdds_X12_in : GoodIn wsX12_bestOdds wsX12_in := gga_of 1217 rfl rfl rfl
theorem gX12_bestOdds_X12_in : GoodIn wsX12_bestOdds (va_wsS RX12 45 yX12_in wsX12_in) := goodIn_app (ggh_of [1215, 1216, 72] rfl rfl rfl) ggX12_bestOdds_X12_in
theorem ggX12_bestOdds_X12_bestRow : GoodIn wsX12_bestOdds wsX12_bestRow := gga_of 1454 rfl rfl rfl
theorem gX12_bestOdds_X12_bestRow : GoodIn wsX12_bestOdds (wsV RX12 240 RX12 yX12_bestRow wsX12_bestRow) := goodIn_app (ggh_of [1451, 1453, 53, 72] rfl rfl rfl) ggX12_bestOdds_X12_bestRow
theorem ggX12_bestOdds_X12_twenties : GoodIn wsX12_bestOdds wsX12_twenties := gga_of 1443 rfl rfl rfl
theorem gX12_bestOdds_X12_twenties : GoodIn wsX12_bestOdds (va_wsS RX12 226 yX12_twenties wsX12_twenties) := goodIn_app (ggh_of [1441, 1442, 72] rfl rfl rfl) ggX12_bestOdds_X12_twenties
theorem ggX12_bestOdds_X12_lowest : GoodIn wsX12_bestOdds wsX12_lowest := gga_of 1446 rfl rfl rfl
theorem gX12_bestOdds_X12_lowest : GoodIn wsX12_bestOdds (va_wsS RX12 229 yX12_lowest wsX12_lowest) := goodIn_app (ggh_of [1444, 1445, 72] rfl rfl rfl) ggX12_bestOdds_X12_lowest
theorem ggX12_safe_X12_isCell : GoodIn wsX12_safe wsX12_isCell := gga_of 1304 rfl rfl rfl
theorem gX12_safe_X12_isCell : GoodIn wsX12_safe (va_wsS RX12 149 yX12_isCell wsX12_isCell) := goodIn_app (ggh_of [1302, 1303, 72] rfl rfl rfl) ggX12_safe_X12_isCell
theorem ggX12_safe_X12_in : GoodIn wsX12_safe wsX12_in := gga_of 1217 rfl rfl rfl
theorem gX12_safe_X12_in : GoodIn wsX12_safe (va_wsS RX12 45 yX12_in wsX12_in) := goodIn_app (ggh_of [1215, 1216, 72] rfl rfl rfl) ggX12_safe_X12_in
theorem ggX12_safe_X12_bestRow : GoodIn wsX12_safe wsX12_bestRow := gga_of 1454 rfl rfl rfl
theorem gX12_safe_X12_bestRow : GoodIn wsX12_safe (wsV RX12 240 RX12 yX12_bestRow wsX12_bestRow) := goodIn_app (ggh_of [1451, 1453, 53, 72] rfl rfl rfl) ggX12_safe_X12_bestRow
theorem ggX12_safe_X12_wayOf : GoodIn wsX12_safe wsX12_wayOf := gga_of 1461 rfl rfl rfl
theorem gX12_safe_X12_wayOf : GoodIn wsX12_safe (va_wsS RX12 243 yX12_wayOf wsX12_wayOf) := goodIn_app (ggh_of [1459, 1460, 72] rfl rfl rfl) ggX12_safe_X12_wayOf
noncomputable def dk09cref6_cX12_goesBy_0 : List (Nat × List Nat) := [(0, [42]), (1, [27]), (2, [182, 0, 212]), (5, [29]), (6, [54, 4]), (8, [21, 4]), (10, [158, 0, 50]), (13, [132, 4, 255]), (16, [21, 4]), (18, [5]), (19, [160, 0, 10]), (22, [28]), (23, [16, 64]), (25, [108]), (26, [167, 0, 23]), (29, [21, 4]), (31, [4]), (32, [160, 0, 13]), (35, [28]), (36, [16, 8]), (38, [108]), (39, [16, 8]), (41, [112]), (42, [167, 0, 7]), (45, [28]), (46, [16, 8]), (48, [112]), (49, [54, 5]), (51, [42]), (52, [21, 5]), (54, [182, 0, 215]), (57, [167, 255, 207]), (60, [177])]
set_option maxRecDepth 100000 in
theorem dk09cref6_cX12_goesBy_0_a : btA cX12_goesBy dk09cref6_cX12_goesBy_0 = true := by decide +kernel
theorem dX12_goesBy_0 : decode cX12_goesBy 0 = .ok (.aload_n 0, 1) := bd42 (btAt dk09cref6_cX12_goesBy_0_a 0 rfl)
theorem dX12_goesBy_1 : decode cX12_goesBy 1 = .ok (.iload_n 1, 1) := bd27 (btAt dk09cref6_cX12_goesBy_0_a 1 rfl)
theorem dX12_goesBy_2 : decode cX12_goesBy 2 = .ok (.invokevirtual 212, 3) := bd182 (a := 0) (b := 212) (btAt dk09cref6_cX12_goesBy_0_a 2 rfl)
theorem dX12_goesBy_5 : decode cX12_goesBy 5 = .ok (.iload_n 3, 1) := bd29 (btAt dk09cref6_cX12_goesBy_0_a 3 rfl)
theorem dX12_goesBy_6 : decode cX12_goesBy 6 = .ok (.istore 4, 2) := bd54 (a := 4) (btAt dk09cref6_cX12_goesBy_0_a 4 rfl)
theorem dX12_goesBy_8 : decode cX12_goesBy 8 = .ok (.iload 4, 2) := bd21 (a := 4) (btAt dk09cref6_cX12_goesBy_0_a 5 rfl)
theorem dX12_goesBy_10 : decode cX12_goesBy 10 = .ok (.ifCond .le 50, 3) := bd158 (a := 0) (b := 50) (btAt dk09cref6_cX12_goesBy_0_a 6 rfl)
theorem dX12_goesBy_13 : decode cX12_goesBy 13 = .ok (.iinc 4 (-1), 3) := bd132 (a := 4) (b := 255) (btAt dk09cref6_cX12_goesBy_0_a 7 rfl)
theorem dX12_goesBy_16 : decode cX12_goesBy 16 = .ok (.iload 4, 2) := bd21 (a := 4) (btAt dk09cref6_cX12_goesBy_0_a 8 rfl)
theorem dX12_goesBy_18 : decode cX12_goesBy 18 = .ok (.iconst 2, 1) := bd5 (btAt dk09cref6_cX12_goesBy_0_a 9 rfl)
theorem dX12_goesBy_19 : decode cX12_goesBy 19 = .ok (.if_icmp .ne 10, 3) := bd160 (a := 0) (b := 10) (btAt dk09cref6_cX12_goesBy_0_a 10 rfl)
theorem dX12_goesBy_22 : decode cX12_goesBy 22 = .ok (.iload_n 2, 1) := bd28 (btAt dk09cref6_cX12_goesBy_0_a 11 rfl)
theorem dX12_goesBy_23 : decode cX12_goesBy 23 = .ok (.bipush 64, 2) := bd16 (a := 64) (btAt dk09cref6_cX12_goesBy_0_a 12 rfl)
theorem dX12_goesBy_25 : decode cX12_goesBy 25 = .ok (.idiv, 1) := bd108 (btAt dk09cref6_cX12_goesBy_0_a 13 rfl)
theorem dX12_goesBy_26 : decode cX12_goesBy 26 = .ok (.goto 23, 3) := bd167 (a := 0) (b := 23) (btAt dk09cref6_cX12_goesBy_0_a 14 rfl)
theorem dX12_goesBy_29 : decode cX12_goesBy 29 = .ok (.iload 4, 2) := bd21 (a := 4) (btAt dk09cref6_cX12_goesBy_0_a 15 rfl)
theorem dX12_goesBy_31 : decode cX12_goesBy 31 = .ok (.iconst 1, 1) := bd4 (btAt dk09cref6_cX12_goesBy_0_a 16 rfl)
theorem dX12_goesBy_32 : decode cX12_goesBy 32 = .ok (.if_icmp .ne 13, 3) := bd160 (a := 0) (b := 13) (btAt dk09cref6_cX12_goesBy_0_a 17 rfl)
theorem dX12_goesBy_35 : decode cX12_goesBy 35 = .ok (.iload_n 2, 1) := bd28 (btAt dk09cref6_cX12_goesBy_0_a 18 rfl)
theorem dX12_goesBy_36 : decode cX12_goesBy 36 = .ok (.bipush 8, 2) := bd16 (a := 8) (btAt dk09cref6_cX12_goesBy_0_a 19 rfl)
theorem dX12_goesBy_38 : decode cX12_goesBy 38 = .ok (.idiv, 1) := bd108 (btAt dk09cref6_cX12_goesBy_0_a 20 rfl)
theorem dX12_goesBy_39 : decode cX12_goesBy 39 = .ok (.bipush 8, 2) := bd16 (a := 8) (btAt dk09cref6_cX12_goesBy_0_a 21 rfl)
theorem dX12_goesBy_41 : decode cX12_goesBy 41 = .ok (.irem, 1) := bd112 (btAt dk09cref6_cX12_goesBy_0_a 22 rfl)
theorem dX12_goesBy_42 : decode cX12_goesBy 42 = .ok (.goto 7, 3) := bd167 (a := 0) (b := 7) (btAt dk09cref6_cX12_goesBy_0_a 23 rfl)
theorem dX12_goesBy_45 : decode cX12_goesBy 45 = .ok (.iload_n 2, 1) := bd28 (btAt dk09cref6_cX12_goesBy_0_a 24 rfl)
theorem dX12_goesBy_46 : decode cX12_goesBy 46 = .ok (.bipush 8, 2) := bd16 (a := 8) (btAt dk09cref6_cX12_goesBy_0_a 25 rfl)
theorem dX12_goesBy_48 : decode cX12_goesBy 48 = .ok (.irem, 1) := bd112 (btAt dk09cref6_cX12_goesBy_0_a 26 rfl)
theorem dX12_goesBy_49 : decode cX12_goesBy 49 = .ok (.istore 5, 2) := bd54 (a := 5) (btAt dk09cref6_cX12_goesBy_0_a 27 rfl)
theorem dX12_goesBy_51 : decode cX12_goesBy 51 = .ok (.aload_n 0, 1) := bd42 (btAt dk09cref6_cX12_goesBy_0_a 28 rfl)
theorem dX12_goesBy_52 : decode cX12_goesBy 52 = .ok (.iload 5, 2) := bd21 (a := 5) (btAt dk09cref6_cX12_goesBy_0_a 29 rfl)
theorem dX12_goesBy_54 : decode cX12_goesBy 54 = .ok (.invokevirtual 215, 3) := bd182 (a := 0) (b := 215) (btAt dk09cref6_cX12_goesBy_0_a 30 rfl)
theorem dX12_goesBy_57 : decode cX12_goesBy 57 = .ok (.goto (-49), 3) := bd167 (a := 255) (b := 207) (btAt dk09cref6_cX12_goesBy_0_a 31 rfl)
theorem dX12_goesBy_60 : decode cX12_goesBy 60 = .ok (.return_, 1) := bd177 (btAt dk09cref6_cX12_goesBy_0_a 32 rfl)
noncomputable def dk09cref6_cX12_bestRow_0 : List (Nat × List Nat) := [(0, [42]), (1, [182, 0, 209]), (4, [29]), (5, [4]), (27, [54, 4]), (29, [2]), (30, [54, 5]), (32, [3]), (33, [54, 6]), (35, [21, 6]), (37, [21, 4]), (39, [162, 0, 93]), (42, [42]), (43, [27]), (44, [21, 6]), (46, [29]), (47, [182, 0, 233]), (50, [28]), (51, [2]), (52, [160, 0, 11]), (63, [42]), (64, [180, 0, 28]), (67, [28]), (68, [47]), (69, [55, 7]), (71, [21, 5]), (73, [2]), (74, [159, 0, 13]), (87, [4]), (88, [167, 0, 4]), (92, [54, 9]), (94, [21, 9]), (96, [153, 0, 8]), (99, [21, 6]), (101, [167, 0, 5]), (106, [54, 5]), (108, [42]), (109, [21, 9]), (132, [21, 5]), (134, [172])]
set_option maxRecDepth 100000 in
theorem dk09cref6_cX12_bestRow_0_a : btA cX12_bestRow dk09cref6_cX12_bestRow_0 = true := by decide +kernel
theorem dX12_bestRow_0 : decode cX12_bestRow 0 = .ok (.aload_n 0, 1) := bd42 (btAt dk09cref6_cX12_bestRow_0_a 0 rfl)
theorem dX12_bestRow_1 : decode cX12_bestRow 1 = .ok (.invokevirtual 209, 3) := bd182 (a := 0) (b := 209) (btAt dk09cref6_cX12_bestRow_0_a 1 rfl)
theorem dX12_bestRow_4 : decode cX12_bestRow 4 = .ok (.iload_n 3, 1) := bd29 (btAt dk09cref6_cX12_bestRow_0_a 2 rfl)
theorem dX12_bestRow_5 : decode cX12_bestRow 5 = .ok (.iconst 1, 1) := bd4 (btAt dk09cref6_cX12_bestRow_0_a 3 rfl)
theorem dX12_bestRow_27 : decode cX12_bestRow 27 = .ok (.istore 4, 2) := bd54 (a := 4) (btAt dk09cref6_cX12_bestRow_0_a 4 rfl)
theorem dX12_bestRow_29 : decode cX12_bestRow 29 = .ok (.iconst (-1), 1) := bd2 (btAt dk09cref6_cX12_bestRow_0_a 5 rfl)
theorem dX12_bestRow_30 : decode cX12_bestRow 30 = .ok (.istore 5, 2) := bd54 (a := 5) (btAt dk09cref6_cX12_bestRow_0_a 6 rfl)
theorem dX12_bestRow_32 : decode cX12_bestRow 32 = .ok (.iconst 0, 1) := bd3 (btAt dk09cref6_cX12_bestRow_0_a 7 rfl)
theorem dX12_bestRow_33 : decode cX12_bestRow 33 = .ok (.istore 6, 2) := bd54 (a := 6) (btAt dk09cref6_cX12_bestRow_0_a 8 rfl)
theorem dX12_bestRow_35 : decode cX12_bestRow 35 = .ok (.iload 6, 2) := bd21 (a := 6) (btAt dk09cref6_cX12_bestRow_0_a 9 rfl)
theorem dX12_bestRow_37 : decode cX12_bestRow 37 = .ok (.iload 4, 2) := bd21 (a := 4) (btAt dk09cref6_cX12_bestRow_0_a 10 rfl)
theorem dX12_bestRow_39 : decode cX12_bestRow 39 = .ok (.if_icmp .ge 93, 3) := bd162 (a := 0) (b := 93) (btAt dk09cref6_cX12_bestRow_0_a 11 rfl)
theorem dX12_bestRow_42 : decode cX12_bestRow 42 = .ok (.aload_n 0, 1) := bd42 (btAt dk09cref6_cX12_bestRow_0_a 12 rfl)
theorem dX12_bestRow_43 : decode cX12_bestRow 43 = .ok (.iload_n 1, 1) := bd27 (btAt dk09cref6_cX12_bestRow_0_a 13 rfl)
theorem dX12_bestRow_44 : decode cX12_bestRow 44 = .ok (.iload 6, 2) := bd21 (a := 6) (btAt dk09cref6_cX12_bestRow_0_a 14 rfl)
theorem dX12_bestRow_46 : decode cX12_bestRow 46 = .ok (.iload_n 3, 1) := bd29 (btAt dk09cref6_cX12_bestRow_0_a 15 rfl)
theorem dX12_bestRow_47 : decode cX12_bestRow 47 = .ok (.invokevirtual 233, 3) := bd182 (a := 0) (b := 233) (btAt dk09cref6_cX12_bestRow_0_a 16 rfl)
theorem dX12_bestRow_50 : decode cX12_bestRow 50 = .ok (.iload_n 2, 1) := bd28 (btAt dk09cref6_cX12_bestRow_0_a 17 rfl)
theorem dX12_bestRow_51 : decode cX12_bestRow 51 = .ok (.iconst (-1), 1) := bd2 (btAt dk09cref6_cX12_bestRow_0_a 18 rfl)
theorem dX12_bestRow_52 : decode cX12_bestRow 52 = .ok (.if_icmp .ne 11, 3) := bd160 (a := 0) (b := 11) (btAt dk09cref6_cX12_bestRow_0_a 19 rfl)
theorem dX12_bestRow_63 : decode cX12_bestRow 63 = .ok (.aload_n 0, 1) := bd42 (btAt dk09cref6_cX12_bestRow_0_a 20 rfl)
theorem dX12_bestRow_64 : decode cX12_bestRow 64 = .ok (.getfield 28, 3) := bd180 (a := 0) (b := 28) (btAt dk09cref6_cX12_bestRow_0_a 21 rfl)
theorem dX12_bestRow_67 : decode cX12_bestRow 67 = .ok (.iload_n 2, 1) := bd28 (btAt dk09cref6_cX12_bestRow_0_a 22 rfl)
theorem dX12_bestRow_68 : decode cX12_bestRow 68 = .ok (.laload, 1) := bd47 (btAt dk09cref6_cX12_bestRow_0_a 23 rfl)
theorem dX12_bestRow_69 : decode cX12_bestRow 69 = .ok (.lstore 7, 2) := bd55 (a := 7) (btAt dk09cref6_cX12_bestRow_0_a 24 rfl)
theorem dX12_bestRow_71 : decode cX12_bestRow 71 = .ok (.iload 5, 2) := bd21 (a := 5) (btAt dk09cref6_cX12_bestRow_0_a 25 rfl)
theorem dX12_bestRow_73 : decode cX12_bestRow 73 = .ok (.iconst (-1), 1) := bd2 (btAt dk09cref6_cX12_bestRow_0_a 26 rfl)
theorem dX12_bestRow_74 : decode cX12_bestRow 74 = .ok (.if_icmp .eq 13, 3) := bd159 (a := 0) (b := 13) (btAt dk09cref6_cX12_bestRow_0_a 27 rfl)
theorem dX12_bestRow_87 : decode cX12_bestRow 87 = .ok (.iconst 1, 1) := bd4 (btAt dk09cref6_cX12_bestRow_0_a 28 rfl)
theorem dX12_bestRow_88 : decode cX12_bestRow 88 = .ok (.goto 4, 3) := bd167 (a := 0) (b := 4) (btAt dk09cref6_cX12_bestRow_0_a 29 rfl)
theorem dX12_bestRow_92 : decode cX12_bestRow 92 = .ok (.istore 9, 2) := bd54 (a := 9) (btAt dk09cref6_cX12_bestRow_0_a 30 rfl)
theorem dX12_bestRow_94 : decode cX12_bestRow 94 = .ok (.iload 9, 2) := bd21 (a := 9) (btAt dk09cref6_cX12_bestRow_0_a 31 rfl)
theorem dX12_bestRow_96 : decode cX12_bestRow 96 = .ok (.ifCond .eq 8, 3) := bd153 (a := 0) (b := 8) (btAt dk09cref6_cX12_bestRow_0_a 32 rfl)
theorem dX12_bestRow_99 : decode cX12_bestRow 99 = .ok (.iload 6, 2) := bd21 (a := 6) (btAt dk09cref6_cX12_bestRow_0_a 33 rfl)
theorem dX12_bestRow_101 : decode cX12_bestRow 101 = .ok (.goto 5, 3) := bd167 (a := 0) (b := 5) (btAt dk09cref6_cX12_bestRow_0_a 34 rfl)
theorem dX12_bestRow_106 : decode cX12_bestRow 106 = .ok (.istore 5, 2) := bd54 (a := 5) (btAt dk09cref6_cX12_bestRow_0_a 35 rfl)
theorem dX12_bestRow_108 : decode cX12_bestRow 108 = .ok (.aload_n 0, 1) := bd42 (btAt dk09cref6_cX12_bestRow_0_a 36 rfl)
theorem dX12_bestRow_109 : decode cX12_bestRow 109 = .ok (.iload 9, 2) := bd21 (a := 9) (btAt dk09cref6_cX12_bestRow_0_a 37 rfl)
theorem dX12_bestRow_132 : decode cX12_bestRow 132 = .ok (.iload 5, 2) := bd21 (a := 5) (btAt dk09cref6_cX12_bestRow_0_a 38 rfl)
theorem dX12_bestRow_134 : decode cX12_bestRow 134 = .ok (.ireturn, 1) := bd172 (btAt dk09cref6_cX12_bestRow_0_a 39 rfl)
noncomputable def dk09cref6_cX12_bestRow_40 : List (Nat × List Nat) := [(6, [160, 0, 8]), (9, [16, 8]), (11, [167, 0, 16]), (14, [29]), (15, [5]), (16, [160, 0, 8]), (19, [16, 64]), (21, [167, 0, 6]), (24, [17, 2, 0]), (55, [42]), (56, [182, 0, 222]), (59, [117]), (60, [167, 0, 9]), (77, [22, 7]), (79, [42]), (80, [180, 0, 236]), (83, [148]), (84, [158, 0, 7]), (91, [3]), (104, [21, 5]), (111, [153, 0, 8]), (114, [22, 7]), (116, [167, 0, 7]), (119, [42]), (120, [180, 0, 236]), (123, [181, 0, 236]), (126, [132, 6, 1]), (129, [167, 255, 162])]
set_option maxRecDepth 100000 in
theorem dk09cref6_cX12_bestRow_40_a : btA cX12_bestRow dk09cref6_cX12_bestRow_40 = true := by decide +kernel
theorem dX12_bestRow_6 : decode cX12_bestRow 6 = .ok (.if_icmp .ne 8, 3) := bd160 (a := 0) (b := 8) (btAt dk09cref6_cX12_bestRow_40_a 0 rfl)
theorem dX12_bestRow_9 : decode cX12_bestRow 9 = .ok (.bipush 8, 2) := bd16 (a := 8) (btAt dk09cref6_cX12_bestRow_40_a 1 rfl)
theorem dX12_bestRow_11 : decode cX12_bestRow 11 = .ok (.goto 16, 3) := bd167 (a := 0) (b := 16) (btAt dk09cref6_cX12_bestRow_40_a 2 rfl)
theorem dX12_bestRow_14 : decode cX12_bestRow 14 = .ok (.iload_n 3, 1) := bd29 (btAt dk09cref6_cX12_bestRow_40_a 3 rfl)
theorem dX12_bestRow_15 : decode cX12_bestRow 15 = .ok (.iconst 2, 1) := bd5 (btAt dk09cref6_cX12_bestRow_40_a 4 rfl)
theorem dX12_bestRow_16 : decode cX12_bestRow 16 = .ok (.if_icmp .ne 8, 3) := bd160 (a := 0) (b := 8) (btAt dk09cref6_cX12_bestRow_40_a 5 rfl)
theorem dX12_bestRow_19 : decode cX12_bestRow 19 = .ok (.bipush 64, 2) := bd16 (a := 64) (btAt dk09cref6_cX12_bestRow_40_a 6 rfl)
theorem dX12_bestRow_21 : decode cX12_bestRow 21 = .ok (.goto 6, 3) := bd167 (a := 0) (b := 6) (btAt dk09cref6_cX12_bestRow_40_a 7 rfl)
theorem dX12_bestRow_24 : decode cX12_bestRow 24 = .ok (.sipush 512, 3) := bd17 (a := 2) (b := 0) (btAt dk09cref6_cX12_bestRow_40_a 8 rfl)
theorem dX12_bestRow_55 : decode cX12_bestRow 55 = .ok (.aload_n 0, 1) := bd42 (btAt dk09cref6_cX12_bestRow_40_a 9 rfl)
theorem dX12_bestRow_56 : decode cX12_bestRow 56 = .ok (.invokevirtual 222, 3) := bd182 (a := 0) (b := 222) (btAt dk09cref6_cX12_bestRow_40_a 10 rfl)
theorem dX12_bestRow_59 : decode cX12_bestRow 59 = .ok (.lneg, 1) := bd117 (btAt dk09cref6_cX12_bestRow_40_a 11 rfl)
theorem dX12_bestRow_60 : decode cX12_bestRow 60 = .ok (.goto 9, 3) := bd167 (a := 0) (b := 9) (btAt dk09cref6_cX12_bestRow_40_a 12 rfl)
theorem dX12_bestRow_77 : decode cX12_bestRow 77 = .ok (.lload 7, 2) := bd22 (a := 7) (btAt dk09cref6_cX12_bestRow_40_a 13 rfl)
theorem dX12_bestRow_79 : decode cX12_bestRow 79 = .ok (.aload_n 0, 1) := bd42 (btAt dk09cref6_cX12_bestRow_40_a 14 rfl)
theorem dX12_bestRow_80 : decode cX12_bestRow 80 = .ok (.getfield 236, 3) := bd180 (a := 0) (b := 236) (btAt dk09cref6_cX12_bestRow_40_a 15 rfl)
theorem dX12_bestRow_83 : decode cX12_bestRow 83 = .ok (.lcmp, 1) := bd148 (btAt dk09cref6_cX12_bestRow_40_a 16 rfl)
theorem dX12_bestRow_84 : decode cX12_bestRow 84 = .ok (.ifCond .le 7, 3) := bd158 (a := 0) (b := 7) (btAt dk09cref6_cX12_bestRow_40_a 17 rfl)
theorem dX12_bestRow_91 : decode cX12_bestRow 91 = .ok (.iconst 0, 1) := bd3 (btAt dk09cref6_cX12_bestRow_40_a 18 rfl)
theorem dX12_bestRow_104 : decode cX12_bestRow 104 = .ok (.iload 5, 2) := bd21 (a := 5) (btAt dk09cref6_cX12_bestRow_40_a 19 rfl)
theorem dX12_bestRow_111 : decode cX12_bestRow 111 = .ok (.ifCond .eq 8, 3) := bd153 (a := 0) (b := 8) (btAt dk09cref6_cX12_bestRow_40_a 20 rfl)
theorem dX12_bestRow_114 : decode cX12_bestRow 114 = .ok (.lload 7, 2) := bd22 (a := 7) (btAt dk09cref6_cX12_bestRow_40_a 21 rfl)
theorem dX12_bestRow_116 : decode cX12_bestRow 116 = .ok (.goto 7, 3) := bd167 (a := 0) (b := 7) (btAt dk09cref6_cX12_bestRow_40_a 22 rfl)
theorem dX12_bestRow_119 : decode cX12_bestRow 119 = .ok (.aload_n 0, 1) := bd42 (btAt dk09cref6_cX12_bestRow_40_a 23 rfl)
theorem dX12_bestRow_120 : decode cX12_bestRow 120 = .ok (.getfield 236, 3) := bd180 (a := 0) (b := 236) (btAt dk09cref6_cX12_bestRow_40_a 24 rfl)
theorem dX12_bestRow_123 : decode cX12_bestRow 123 = .ok (.putfield 236, 3) := bd181 (a := 0) (b := 236) (btAt dk09cref6_cX12_bestRow_40_a 25 rfl)
theorem dX12_bestRow_126 : decode cX12_bestRow 126 = .ok (.iinc 6 1, 3) := bd132 (a := 6) (b := 1) (btAt dk09cref6_cX12_bestRow_40_a 26 rfl)
theorem dX12_bestRow_129 : decode cX12_bestRow 129 = .ok (.goto (-94), 3) := bd167 (a := 255) (b := 162) (btAt dk09cref6_cX12_bestRow_40_a 27 rfl)
noncomputable def dk09cref6_cX12_wayOf_0 : List (Nat × List Nat) := [(0, [27]), (1, [4]), (2, [100]), (3, [28]), (4, [100]), (5, [62]), (6, [29]), (7, [5]), (8, [160, 0, 10]), (11, [26]), (12, [16, 64]), (14, [108]), (15, [167, 0, 22]), (18, [29]), (19, [4]), (20, [160, 0, 13]), (23, [26]), (24, [16, 8]), (26, [108]), (27, [16, 8]), (29, [112]), (30, [167, 0, 7]), (33, [26]), (34, [16, 8]), (36, [112]), (37, [172])]
set_option maxRecDepth 100000 in
theorem dk09cref6_cX12_wayOf_0_a : btA cX12_wayOf dk09cref6_cX12_wayOf_0 = true := by decide +kernel
theorem dX12_wayOf_0 : decode cX12_wayOf 0 = .ok (.iload_n 1, 1) := bd27 (btAt dk09cref6_cX12_wayOf_0_a 0 rfl)
theorem dX12_wayOf_1 : decode cX12_wayOf 1 = .ok (.iconst 1, 1) := bd4 (btAt dk09cref6_cX12_wayOf_0_a 1 rfl)
theorem dX12_wayOf_2 : decode cX12_wayOf 2 = .ok (.isub, 1) := bd100 (btAt dk09cref6_cX12_wayOf_0_a 2 rfl)
theorem dX12_wayOf_3 : decode cX12_wayOf 3 = .ok (.iload_n 2, 1) := bd28 (btAt dk09cref6_cX12_wayOf_0_a 3 rfl)
theorem dX12_wayOf_4 : decode cX12_wayOf 4 = .ok (.isub, 1) := bd100 (btAt dk09cref6_cX12_wayOf_0_a 4 rfl)
theorem dX12_wayOf_5 : decode cX12_wayOf 5 = .ok (.istore_n 3, 1) := bd62 (btAt dk09cref6_cX12_wayOf_0_a 5 rfl)
theorem dX12_wayOf_6 : decode cX12_wayOf 6 = .ok (.iload_n 3, 1) := bd29 (btAt dk09cref6_cX12_wayOf_0_a 6 rfl)
theorem dX12_wayOf_7 : decode cX12_wayOf 7 = .ok (.iconst 2, 1) := bd5 (btAt dk09cref6_cX12_wayOf_0_a 7 rfl)
theorem dX12_wayOf_8 : decode cX12_wayOf 8 = .ok (.if_icmp .ne 10, 3) := bd160 (a := 0) (b := 10) (btAt dk09cref6_cX12_wayOf_0_a 8 rfl)
theorem dX12_wayOf_11 : decode cX12_wayOf 11 = .ok (.iload_n 0, 1) := bd26 (btAt dk09cref6_cX12_wayOf_0_a 9 rfl)
theorem dX12_wayOf_12 : decode cX12_wayOf 12 = .ok (.bipush 64, 2) := bd16 (a := 64) (btAt dk09cref6_cX12_wayOf_0_a 10 rfl)
theorem dX12_wayOf_14 : decode cX12_wayOf 14 = .ok (.idiv, 1) := bd108 (btAt dk09cref6_cX12_wayOf_0_a 11 rfl)
theorem dX12_wayOf_15 : decode cX12_wayOf 15 = .ok (.goto 22, 3) := bd167 (a := 0) (b := 22) (btAt dk09cref6_cX12_wayOf_0_a 12 rfl)
theorem dX12_wayOf_18 : decode cX12_wayOf 18 = .ok (.iload_n 3, 1) := bd29 (btAt dk09cref6_cX12_wayOf_0_a 13 rfl)
theorem dX12_wayOf_19 : decode cX12_wayOf 19 = .ok (.iconst 1, 1) := bd4 (btAt dk09cref6_cX12_wayOf_0_a 14 rfl)
theorem dX12_wayOf_20 : decode cX12_wayOf 20 = .ok (.if_icmp .ne 13, 3) := bd160 (a := 0) (b := 13) (btAt dk09cref6_cX12_wayOf_0_a 15 rfl)
theorem dX12_wayOf_23 : decode cX12_wayOf 23 = .ok (.iload_n 0, 1) := bd26 (btAt dk09cref6_cX12_wayOf_0_a 16 rfl)
theorem dX12_wayOf_24 : decode cX12_wayOf 24 = .ok (.bipush 8, 2) := bd16 (a := 8) (btAt dk09cref6_cX12_wayOf_0_a 17 rfl)
theorem dX12_wayOf_26 : decode cX12_wayOf 26 = .ok (.idiv, 1) := bd108 (btAt dk09cref6_cX12_wayOf_0_a 18 rfl)
theorem dX12_wayOf_27 : decode cX12_wayOf 27 = .ok (.bipush 8, 2) := bd16 (a := 8) (btAt dk09cref6_cX12_wayOf_0_a 19 rfl)
theorem dX12_wayOf_29 : decode cX12_wayOf 29 = .ok (.irem, 1) := bd112 (btAt dk09cref6_cX12_wayOf_0_a 20 rfl)
theorem dX12_wayOf_30 : decode cX12_wayOf 30 = .ok (.goto 7, 3) := bd167 (a := 0) (b := 7) (btAt dk09cref6_cX12_wayOf_0_a 21 rfl)
theorem dX12_wayOf_33 : decode cX12_wayOf 33 = .ok (.iload_n 0, 1) := bd26 (btAt dk09cref6_cX12_wayOf_0_a 22 rfl)
theorem dX12_wayOf_34 : decode cX12_wayOf 34 = .ok (.bipush 8, 2) := bd16 (a := 8) (btAt dk09cref6_cX12_wayOf_0_a 23 rfl)
theorem dX12_wayOf_36 : decode cX12_wayOf 36 = .ok (.irem, 1) := bd112 (btAt dk09cref6_cX12_wayOf_0_a 24 rfl)
theorem dX12_wayOf_37 : decode cX12_wayOf 37 = .ok (.ireturn, 1) := bd172 (btAt dk09cref6_cX12_wayOf_0_a 25 rfl)
noncomputable def dk09cref6_cX12_best_0 : List (Nat × List Nat) := [(0, [27]), (1, [184, 0, 149]), (4, [153, 0, 20]), (7, [28]), (8, [184, 0, 149]), (11, [153, 0, 13]), (14, [21, 4]), (16, [3]), (17, [5]), (18, [184, 0, 45]), (21, [154, 0, 5]), (24, [2]), (25, [172]), (26, [29]), (27, [4]), (28, [6]), (29, [184, 0, 45]), (32, [154, 0, 6]), (35, [16, 254]), (37, [172]), (38, [21, 4]), (40, [29]), (41, [161, 0, 7]), (44, [2]), (45, [167, 0, 16]), (48, [42]), (49, [27]), (50, [28]), (51, [29]), (52, [182, 0, 240]), (55, [29]), (56, [21, 4]), (58, [184, 0, 243]), (61, [172])]
set_option maxRecDepth 100000 in
theorem dk09cref6_cX12_best_0_a : btA cX12_best dk09cref6_cX12_best_0 = true := by decide +kernel
theorem dX12_best_0 : decode cX12_best 0 = .ok (.iload_n 1, 1) := bd27 (btAt dk09cref6_cX12_best_0_a 0 rfl)
theorem dX12_best_1 : decode cX12_best 1 = .ok (.invokestatic 149, 3) := bd184 (a := 0) (b := 149) (btAt dk09cref6_cX12_best_0_a 1 rfl)
theorem dX12_best_4 : decode cX12_best 4 = .ok (.ifCond .eq 20, 3) := bd153 (a := 0) (b := 20) (btAt dk09cref6_cX12_best_0_a 2 rfl)
theorem dX12_best_7 : decode cX12_best 7 = .ok (.iload_n 2, 1) := bd28 (btAt dk09cref6_cX12_best_0_a 3 rfl)
theorem dX12_best_8 : decode cX12_best 8 = .ok (.invokestatic 149, 3) := bd184 (a := 0) (b := 149) (btAt dk09cref6_cX12_best_0_a 4 rfl)
theorem dX12_best_11 : decode cX12_best 11 = .ok (.ifCond .eq 13, 3) := bd153 (a := 0) (b := 13) (btAt dk09cref6_cX12_best_0_a 5 rfl)
theorem dX12_best_14 : decode cX12_best 14 = .ok (.iload 4, 2) := bd21 (a := 4) (btAt dk09cref6_cX12_best_0_a 6 rfl)
theorem dX12_best_16 : decode cX12_best 16 = .ok (.iconst 0, 1) := bd3 (btAt dk09cref6_cX12_best_0_a 7 rfl)
theorem dX12_best_17 : decode cX12_best 17 = .ok (.iconst 2, 1) := bd5 (btAt dk09cref6_cX12_best_0_a 8 rfl)
theorem dX12_best_18 : decode cX12_best 18 = .ok (.invokestatic 45, 3) := bd184 (a := 0) (b := 45) (btAt dk09cref6_cX12_best_0_a 9 rfl)
theorem dX12_best_21 : decode cX12_best 21 = .ok (.ifCond .ne 5, 3) := bd154 (a := 0) (b := 5) (btAt dk09cref6_cX12_best_0_a 10 rfl)
theorem dX12_best_24 : decode cX12_best 24 = .ok (.iconst (-1), 1) := bd2 (btAt dk09cref6_cX12_best_0_a 11 rfl)
theorem dX12_best_25 : decode cX12_best 25 = .ok (.ireturn, 1) := bd172 (btAt dk09cref6_cX12_best_0_a 12 rfl)
theorem dX12_best_26 : decode cX12_best 26 = .ok (.iload_n 3, 1) := bd29 (btAt dk09cref6_cX12_best_0_a 13 rfl)
theorem dX12_best_27 : decode cX12_best 27 = .ok (.iconst 1, 1) := bd4 (btAt dk09cref6_cX12_best_0_a 14 rfl)
theorem dX12_best_28 : decode cX12_best 28 = .ok (.iconst 3, 1) := bd6 (btAt dk09cref6_cX12_best_0_a 15 rfl)
theorem dX12_best_29 : decode cX12_best 29 = .ok (.invokestatic 45, 3) := bd184 (a := 0) (b := 45) (btAt dk09cref6_cX12_best_0_a 16 rfl)
theorem dX12_best_32 : decode cX12_best 32 = .ok (.ifCond .ne 6, 3) := bd154 (a := 0) (b := 6) (btAt dk09cref6_cX12_best_0_a 17 rfl)
theorem dX12_best_35 : decode cX12_best 35 = .ok (.bipush (-2), 2) := bd16 (a := 254) (btAt dk09cref6_cX12_best_0_a 18 rfl)
theorem dX12_best_37 : decode cX12_best 37 = .ok (.ireturn, 1) := bd172 (btAt dk09cref6_cX12_best_0_a 19 rfl)
theorem dX12_best_38 : decode cX12_best 38 = .ok (.iload 4, 2) := bd21 (a := 4) (btAt dk09cref6_cX12_best_0_a 20 rfl)
theorem dX12_best_40 : decode cX12_best 40 = .ok (.iload_n 3, 1) := bd29 (btAt dk09cref6_cX12_best_0_a 21 rfl)
theorem dX12_best_41 : decode cX12_best 41 = .ok (.if_icmp .lt 7, 3) := bd161 (a := 0) (b := 7) (btAt dk09cref6_cX12_best_0_a 22 rfl)
theorem dX12_best_44 : decode cX12_best 44 = .ok (.iconst (-1), 1) := bd2 (btAt dk09cref6_cX12_best_0_a 23 rfl)
theorem dX12_best_45 : decode cX12_best 45 = .ok (.goto 16, 3) := bd167 (a := 0) (b := 16) (btAt dk09cref6_cX12_best_0_a 24 rfl)
theorem dX12_best_48 : decode cX12_best 48 = .ok (.aload_n 0, 1) := bd42 (btAt dk09cref6_cX12_best_0_a 25 rfl)
theorem dX12_best_49 : decode cX12_best 49 = .ok (.iload_n 1, 1) := bd27 (btAt dk09cref6_cX12_best_0_a 26 rfl)
theorem dX12_best_50 : decode cX12_best 50 = .ok (.iload_n 2, 1) := bd28 (btAt dk09cref6_cX12_best_0_a 27 rfl)
theorem dX12_best_51 : decode cX12_best 51 = .ok (.iload_n 3, 1) := bd29 (btAt dk09cref6_cX12_best_0_a 28 rfl)
theorem dX12_best_52 : decode cX12_best 52 = .ok (.invokevirtual 240, 3) := bd182 (a := 0) (b := 240) (btAt dk09cref6_cX12_best_0_a 29 rfl)
theorem dX12_best_55 : decode cX12_best 55 = .ok (.iload_n 3, 1) := bd29 (btAt dk09cref6_cX12_best_0_a 30 rfl)
theorem dX12_best_56 : decode cX12_best 56 = .ok (.iload 4, 2) := bd21 (a := 4) (btAt dk09cref6_cX12_best_0_a 31 rfl)
theorem dX12_best_58 : decode cX12_best 58 = .ok (.invokestatic 243, 3) := bd184 (a := 0) (b := 243) (btAt dk09cref6_cX12_best_0_a 32 rfl)
theorem dX12_best_61 : decode cX12_best 61 = .ok (.ireturn, 1) := bd172 (btAt dk09cref6_cX12_best_0_a 33 rfl)
noncomputable def dk09cref6_cX12_bestOdds_0 : List (Nat × List Nat) := [(0, [27]), (1, [184, 0, 149]), (4, [153, 0, 29]), (7, [28]), (8, [184, 0, 149]), (11, [153, 0, 22]), (14, [29]), (15, [4]), (16, [6]), (17, [184, 0, 45]), (20, [153, 0, 13]), (23, [21, 4]), (25, [3]), (26, [4]), (27, [184, 0, 45]), (30, [154, 0, 7]), (33, [20, 0, 181]), (36, [173]), (37, [42]), (38, [27]), (39, [28]), (40, [29]), (41, [182, 0, 240]), (44, [54, 5]), (46, [21, 5]), (48, [2]), (49, [160, 0, 9]), (58, [42]), (59, [180, 0, 236]), (62, [29]), (63, [184, 0, 226]), (66, [21, 4]), (68, [184, 0, 229]), (71, [173])]
set_option maxRecDepth 100000 in
theorem dk09cref6_cX12_bestOdds_0_a : btA cX12_bestOdds dk09cref6_cX12_bestOdds_0 = true := by decide +kernel
theorem dX12_bestOdds_0 : decode cX12_bestOdds 0 = .ok (.iload_n 1, 1) := bd27 (btAt dk09cref6_cX12_bestOdds_0_a 0 rfl)
theorem dX12_bestOdds_1 : decode cX12_bestOdds 1 = .ok (.invokestatic 149, 3) := bd184 (a := 0) (b := 149) (btAt dk09cref6_cX12_bestOdds_0_a 1 rfl)
theorem dX12_bestOdds_4 : decode cX12_bestOdds 4 = .ok (.ifCond .eq 29, 3) := bd153 (a := 0) (b := 29) (btAt dk09cref6_cX12_bestOdds_0_a 2 rfl)
theorem dX12_bestOdds_7 : decode cX12_bestOdds 7 = .ok (.iload_n 2, 1) := bd28 (btAt dk09cref6_cX12_bestOdds_0_a 3 rfl)
theorem dX12_bestOdds_8 : decode cX12_bestOdds 8 = .ok (.invokestatic 149, 3) := bd184 (a := 0) (b := 149) (btAt dk09cref6_cX12_bestOdds_0_a 4 rfl)
theorem dX12_bestOdds_11 : decode cX12_bestOdds 11 = .ok (.ifCond .eq 22, 3) := bd153 (a := 0) (b := 22) (btAt dk09cref6_cX12_bestOdds_0_a 5 rfl)
theorem dX12_bestOdds_14 : decode cX12_bestOdds 14 = .ok (.iload_n 3, 1) := bd29 (btAt dk09cref6_cX12_bestOdds_0_a 6 rfl)
theorem dX12_bestOdds_15 : decode cX12_bestOdds 15 = .ok (.iconst 1, 1) := bd4 (btAt dk09cref6_cX12_bestOdds_0_a 7 rfl)
theorem dX12_bestOdds_16 : decode cX12_bestOdds 16 = .ok (.iconst 3, 1) := bd6 (btAt dk09cref6_cX12_bestOdds_0_a 8 rfl)
theorem dX12_bestOdds_17 : decode cX12_bestOdds 17 = .ok (.invokestatic 45, 3) := bd184 (a := 0) (b := 45) (btAt dk09cref6_cX12_bestOdds_0_a 9 rfl)
theorem dX12_bestOdds_20 : decode cX12_bestOdds 20 = .ok (.ifCond .eq 13, 3) := bd153 (a := 0) (b := 13) (btAt dk09cref6_cX12_bestOdds_0_a 10 rfl)
theorem dX12_bestOdds_23 : decode cX12_bestOdds 23 = .ok (.iload 4, 2) := bd21 (a := 4) (btAt dk09cref6_cX12_bestOdds_0_a 11 rfl)
theorem dX12_bestOdds_25 : decode cX12_bestOdds 25 = .ok (.iconst 0, 1) := bd3 (btAt dk09cref6_cX12_bestOdds_0_a 12 rfl)
theorem dX12_bestOdds_26 : decode cX12_bestOdds 26 = .ok (.iconst 1, 1) := bd4 (btAt dk09cref6_cX12_bestOdds_0_a 13 rfl)
theorem dX12_bestOdds_27 : decode cX12_bestOdds 27 = .ok (.invokestatic 45, 3) := bd184 (a := 0) (b := 45) (btAt dk09cref6_cX12_bestOdds_0_a 14 rfl)
theorem dX12_bestOdds_30 : decode cX12_bestOdds 30 = .ok (.ifCond .ne 7, 3) := bd154 (a := 0) (b := 7) (btAt dk09cref6_cX12_bestOdds_0_a 15 rfl)
theorem dX12_bestOdds_33 : decode cX12_bestOdds 33 = .ok (.ldc2_w 181, 3) := bd20 (a := 0) (b := 181) (btAt dk09cref6_cX12_bestOdds_0_a 16 rfl)
theorem dX12_bestOdds_36 : decode cX12_bestOdds 36 = .ok (.lreturn, 1) := bd173 (btAt dk09cref6_cX12_bestOdds_0_a 17 rfl)
theorem dX12_bestOdds_37 : decode cX12_bestOdds 37 = .ok (.aload_n 0, 1) := bd42 (btAt dk09cref6_cX12_bestOdds_0_a 18 rfl)
theorem dX12_bestOdds_38 : decode cX12_bestOdds 38 = .ok (.iload_n 1, 1) := bd27 (btAt dk09cref6_cX12_bestOdds_0_a 19 rfl)
theorem dX12_bestOdds_39 : decode cX12_bestOdds 39 = .ok (.iload_n 2, 1) := bd28 (btAt dk09cref6_cX12_bestOdds_0_a 20 rfl)
theorem dX12_bestOdds_40 : decode cX12_bestOdds 40 = .ok (.iload_n 3, 1) := bd29 (btAt dk09cref6_cX12_bestOdds_0_a 21 rfl)
theorem dX12_bestOdds_41 : decode cX12_bestOdds 41 = .ok (.invokevirtual 240, 3) := bd182 (a := 0) (b := 240) (btAt dk09cref6_cX12_bestOdds_0_a 22 rfl)
theorem dX12_bestOdds_44 : decode cX12_bestOdds 44 = .ok (.istore 5, 2) := bd54 (a := 5) (btAt dk09cref6_cX12_bestOdds_0_a 23 rfl)
theorem dX12_bestOdds_46 : decode cX12_bestOdds 46 = .ok (.iload 5, 2) := bd21 (a := 5) (btAt dk09cref6_cX12_bestOdds_0_a 24 rfl)
theorem dX12_bestOdds_48 : decode cX12_bestOdds 48 = .ok (.iconst (-1), 1) := bd2 (btAt dk09cref6_cX12_bestOdds_0_a 25 rfl)
theorem dX12_bestOdds_49 : decode cX12_bestOdds 49 = .ok (.if_icmp .ne 9, 3) := bd160 (a := 0) (b := 9) (btAt dk09cref6_cX12_bestOdds_0_a 26 rfl)
theorem dX12_bestOdds_58 : decode cX12_bestOdds 58 = .ok (.aload_n 0, 1) := bd42 (btAt dk09cref6_cX12_bestOdds_0_a 27 rfl)
theorem dX12_bestOdds_59 : decode cX12_bestOdds 59 = .ok (.getfield 236, 3) := bd180 (a := 0) (b := 236) (btAt dk09cref6_cX12_bestOdds_0_a 28 rfl)
theorem dX12_bestOdds_62 : decode cX12_bestOdds 62 = .ok (.iload_n 3, 1) := bd29 (btAt dk09cref6_cX12_bestOdds_0_a 29 rfl)
theorem dX12_bestOdds_63 : decode cX12_bestOdds 63 = .ok (.invokestatic 226, 3) := bd184 (a := 0) (b := 226) (btAt dk09cref6_cX12_bestOdds_0_a 30 rfl)
theorem dX12_bestOdds_66 : decode cX12_bestOdds 66 = .ok (.iload 4, 2) := bd21 (a := 4) (btAt dk09cref6_cX12_bestOdds_0_a 31 rfl)
theorem dX12_bestOdds_68 : decode cX12_bestOdds 68 = .ok (.invokestatic 229, 3) := bd184 (a := 0) (b := 229) (btAt dk09cref6_cX12_bestOdds_0_a 32 rfl)
theorem dX12_bestOdds_71 : decode cX12_bestOdds 71 = .ok (.lreturn, 1) := bd173 (btAt dk09cref6_cX12_bestOdds_0_a 33 rfl)
noncomputable def dk09cref6_cX12_safe_0 : List (Nat × List Nat) := [(0, [27]), (1, [184, 0, 149]), (4, [153, 0, 12]), (7, [29]), (8, [3]), (9, [5]), (10, [184, 0, 45]), (13, [154, 0, 5]), (16, [2]), (17, [172]), (18, [28]), (19, [4]), (20, [6]), (21, [184, 0, 45]), (24, [154, 0, 6]), (27, [16, 254]), (29, [172]), (30, [29]), (31, [28]), (32, [161, 0, 7]), (35, [2]), (36, [167, 0, 15]), (39, [42]), (40, [27]), (41, [2]), (42, [28]), (43, [182, 0, 240]), (46, [28]), (47, [29]), (48, [184, 0, 243]), (51, [172])]
set_option maxRecDepth 100000 in
theorem dk09cref6_cX12_safe_0_a : btA cX12_safe dk09cref6_cX12_safe_0 = true := by decide +kernel
theorem dX12_safe_0 : decode cX12_safe 0 = .ok (.iload_n 1, 1) := bd27 (btAt dk09cref6_cX12_safe_0_a 0 rfl)
theorem dX12_safe_1 : decode cX12_safe 1 = .ok (.invokestatic 149, 3) := bd184 (a := 0) (b := 149) (btAt dk09cref6_cX12_safe_0_a 1 rfl)
theorem dX12_safe_4 : decode cX12_safe 4 = .ok (.ifCond .eq 12, 3) := bd153 (a := 0) (b := 12) (btAt dk09cref6_cX12_safe_0_a 2 rfl)
theorem dX12_safe_7 : decode cX12_safe 7 = .ok (.iload_n 3, 1) := bd29 (btAt dk09cref6_cX12_safe_0_a 3 rfl)
theorem dX12_safe_8 : decode cX12_safe 8 = .ok (.iconst 0, 1) := bd3 (btAt dk09cref6_cX12_safe_0_a 4 rfl)
theorem dX12_safe_9 : decode cX12_safe 9 = .ok (.iconst 2, 1) := bd5 (btAt dk09cref6_cX12_safe_0_a 5 rfl)
theorem dX12_safe_10 : decode cX12_safe 10 = .ok (.invokestatic 45, 3) := bd184 (a := 0) (b := 45) (btAt dk09cref6_cX12_safe_0_a 6 rfl)
theorem dX12_safe_13 : decode cX12_safe 13 = .ok (.ifCond .ne 5, 3) := bd154 (a := 0) (b := 5) (btAt dk09cref6_cX12_safe_0_a 7 rfl)
theorem dX12_safe_16 : decode cX12_safe 16 = .ok (.iconst (-1), 1) := bd2 (btAt dk09cref6_cX12_safe_0_a 8 rfl)
theorem dX12_safe_17 : decode cX12_safe 17 = .ok (.ireturn, 1) := bd172 (btAt dk09cref6_cX12_safe_0_a 9 rfl)
theorem dX12_safe_18 : decode cX12_safe 18 = .ok (.iload_n 2, 1) := bd28 (btAt dk09cref6_cX12_safe_0_a 10 rfl)
theorem dX12_safe_19 : decode cX12_safe 19 = .ok (.iconst 1, 1) := bd4 (btAt dk09cref6_cX12_safe_0_a 11 rfl)
theorem dX12_safe_20 : decode cX12_safe 20 = .ok (.iconst 3, 1) := bd6 (btAt dk09cref6_cX12_safe_0_a 12 rfl)
theorem dX12_safe_21 : decode cX12_safe 21 = .ok (.invokestatic 45, 3) := bd184 (a := 0) (b := 45) (btAt dk09cref6_cX12_safe_0_a 13 rfl)
theorem dX12_safe_24 : decode cX12_safe 24 = .ok (.ifCond .ne 6, 3) := bd154 (a := 0) (b := 6) (btAt dk09cref6_cX12_safe_0_a 14 rfl)
theorem dX12_safe_27 : decode cX12_safe 27 = .ok (.bipush (-2), 2) := bd16 (a := 254) (btAt dk09cref6_cX12_safe_0_a 15 rfl)
theorem dX12_safe_29 : decode cX12_safe 29 = .ok (.ireturn, 1) := bd172 (btAt dk09cref6_cX12_safe_0_a 16 rfl)
theorem dX12_safe_30 : decode cX12_safe 30 = .ok (.iload_n 3, 1) := bd29 (btAt dk09cref6_cX12_safe_0_a 17 rfl)
theorem dX12_safe_31 : decode cX12_safe 31 = .ok (.iload_n 2, 1) := bd28 (btAt dk09cref6_cX12_safe_0_a 18 rfl)
theorem dX12_safe_32 : decode cX12_safe 32 = .ok (.if_icmp .lt 7, 3) := bd161 (a := 0) (b := 7) (btAt dk09cref6_cX12_safe_0_a 19 rfl)
theorem dX12_safe_35 : decode cX12_safe 35 = .ok (.iconst (-1), 1) := bd2 (btAt dk09cref6_cX12_safe_0_a 20 rfl)
theorem dX12_safe_36 : decode cX12_safe 36 = .ok (.goto 15, 3) := bd167 (a := 0) (b := 15) (btAt dk09cref6_cX12_safe_0_a 21 rfl)
theorem dX12_safe_39 : decode cX12_safe 39 = .ok (.aload_n 0, 1) := bd42 (btAt dk09cref6_cX12_safe_0_a 22 rfl)
theorem dX12_safe_40 : decode cX12_safe 40 = .ok (.iload_n 1, 1) := bd27 (btAt dk09cref6_cX12_safe_0_a 23 rfl)
theorem dX12_safe_41 : decode cX12_safe 41 = .ok (.iconst (-1), 1) := bd2 (btAt dk09cref6_cX12_safe_0_a 24 rfl)
theorem dX12_safe_42 : decode cX12_safe 42 = .ok (.iload_n 2, 1) := bd28 (btAt dk09cref6_cX12_safe_0_a 25 rfl)
theorem dX12_safe_43 : decode cX12_safe 43 = .ok (.invokevirtual 240, 3) := bd182 (a := 0) (b := 240) (btAt dk09cref6_cX12_safe_0_a 26 rfl)
theorem dX12_safe_46 : decode cX12_safe 46 = .ok (.iload_n 2, 1) := bd28 (btAt dk09cref6_cX12_safe_0_a 27 rfl)
theorem dX12_safe_47 : decode cX12_safe 47 = .ok (.iload_n 3, 1) := bd29 (btAt dk09cref6_cX12_safe_0_a 28 rfl)
theorem dX12_safe_48 : decode cX12_safe 48 = .ok (.invokestatic 243, 3) := bd184 (a := 0) (b := 243) (btAt dk09cref6_cX12_safe_0_a 29 rfl)
theorem dX12_safe_51 : decode cX12_safe 51 = .ok (.ireturn, 1) := bd172 (btAt dk09cref6_cX12_safe_0_a 30 rfl)
set_option maxHeartbeats 4000000 in
set_option maxRecDepth 100000 in
theorem c_goesBy (l : Launch) (dC : Nat → ClassId) (dI : Nat → Nat → Nat) (m0 aS aI aB aT aG aO aN aD aY : Nat) (th im ac sp en wg op se dn rn kd nu tv : Int32) (bv : Int64) (cS cO cN cD : ClassId) (fS : Nat → Int32) (fO : Nat → Int64) (fN : Nat → Int64) (fD : Nat → Int32) (c0 r k : Nat) (dr : Nat → Nat) (ed : Nat → Bool) (sz : Nat) (hc0 : c0 < 36) (hr5 : r < 512) (hk3 : k ≤ 3) (hdr : ∀ k, k < 36 → fD k = nI (dr k) ∧ dr k ≤ 5) (hed : ∀ k, k < 36 → fS (37 + k) = nI (if ed k = true then 1 else 0)) : Met l yX12_goesBy wsX12_goesBy ({ frames := 4, cells := 0, slots := 0, locals := 88 } : Room) (va_Pc [.ref m0, .int (nI c0), .int (nI r), .int (nI k)] (fun U => U.heap.size = sz ∧ va_P (dC, dI) vwCl [(zo14irriiiiiirriirrrrlriiii m0 th aS aI im ac sp en wg op aB aT se dn aG aO aN aD bv aY rn kd nu tv), (zaI aS cS 901 fS), (zaL aO cO 36 fO), (zaL aN cN 36 fN), (zaI aD cD 36 fD)] U.heap ∧ va_K (dC, dI) vwCl [(cS, .int), (cO, .long), (cN, .long), (cD, .int)] U ∧ va_D (fun _ => True) [(zo14irriiiiiirriirrrrlriiii m0 th aS aI im ac sp en wg op aB aT se dn aG aO aN aD bv aY rn kd nu tv), (zaI aS cS 901 fS), (zaL aO cO 36 fO), (zaL aN cN 36 fN), (zaI aD cD 36 fD)])) (va_Qv (fun (u : (Nat → Int64) × (Nat → Int64)) => match u with | (fO9, fN9) => lnA fO9 (tmN ed dr (wyR r k) c0 k)) (fun (u : (Nat → Int64) × (Nat → Int64)) (t : State) => match u with | (fO9, fN9) => va_P (dC, dI) vwCl [(zo14irriiiiiirriirrrrlriiii m0 th aS aI im ac sp en wg op aB aT se dn aG aO aN aD bv aY rn kd nu tv), (zaI aS cS 901 fS), (zaL aO cO 36 fO9), (zaL aN cN 36 fN9), (zaI aD cD 36 fD)] t.heap ∧ va_K (dC, dI) vwCl [(cS, .int), (cO, .long), (cN, .long), (cD, .int)] t ∧ va_D (va_A [(zo14irriiiiiirriirrrrlriiii m0 th aS aI im ac sp en wg op aB aT se dn aG aO aN aD bv aY rn kd nu tv), (zaI aS cS 901 fS), (zaL aO cO 36 fO), (zaL aN cN 36 fN), (zaI aD cD 36 fD)] sz) [(zo14irriiiiiirriirrrrlriiii m0 th aS aI im ac sp en wg op aB aT se dn aG aO aN aD bv aY rn kd nu tv), (zaI aS cS 901 fS), (zaL aO cO 36 fO9), (zaL aN cN 36 fN9), (zaI aD cD 36 fD)]) (va_A [(zo14irriiiiiirriirrrrlriiii m0 th aS aI im ac sp en wg op aB aT se dn aG aO aN aD bv aY rn kd nu tv), (zaI aS cS 901 fS), (zaL aO cO 36 fO), (zaL aN cN 36 fN), (zaI aD cD 36 fD)] sz)) 0 0 (va_A [(zo14irriiiiiirriirrrrlriiii m0 th aS aI im ac sp en wg op aB aT se dn aG aO aN aD bv aY rn kd nu tv), (zaI aS cS 901 fS), (zaL aO cO 36 fO), (zaL aN cN 36 fN), (zaI aD cD 36 fD)] sz) := by
  refine met_ofQ (cc := cX12_goesBy) (maxL := 6) (ret := none) (by decide) rfl ?_
  intro p e s m args below meth c s₁ Q B hml hv hQ
  obtain ⟨rfl, hsz, hP, hK, hD0⟩ := hv
  have hx := B.exec
  have hb := B.bytes
  have hr := B.returns
  have hts := atoms_spec (ws := wsX12_goesBy) B.pre
  have hown : s.vm.findClass RX12 = some m.cls := findClass_of_methodNamed B.named
  have hlocks := B.notSynchronized
  subst hsz
  have hD := hD0.self (sz := s.heap.size)
  generalize hAe : va_A [(zo14irriiiiiirriirrrrlriiii m0 th aS aI im ac sp en wg op aB aT se dn aG aO aN aD bv aY rn kd nu tv), (zaI aS cS 901 fS), (zaL aO cO 36 fO), (zaL aN cN 36 fN), (zaI aD cD 36 fD)] s.heap.size = A at hD hQ ⊢
  have hA : ∀ q : Nat, s.heap.size ≤ q → A q := fun q h => by rw [← hAe]; exact Or.inr h
  have hS : va_S A s.heap s.heap [] := va_S.rf
  have hl := lv_entry [.ref m0, .int (nI c0), .int (nI r), .int (nI k)] (n := 6) (Nat.le_of_ble_eq_true rfl)
  rw [lg_entry_eq]
  generalize (lg_sl [.ref m0, .int (nI c0), .int (nI r), .int (nI k)] ++ List.replicate (6 - (lg_sl [.ref m0, .int (nI c0), .int (nI r), .int (nI k)]).length) Slot.unset).toArray = ls at hl ⊢
  generalize hag : ([.ref m0, .int (nI c0), .int (nI r), .int (nI k)] : List Value).toArray = args at hts hQ ⊢
  have hl : lv_has ls 6 [(0, .ref m0), (1, .int (nI c0)), (2, .int (nI r)), (3, .int (nI k))] := hl
  obtain ⟨H, hH⟩ : ∃ H : Heap, H = s.heap := ⟨_, rfl⟩
  rw [← hH] at hP
  rw [← hH]
  have hS : va_S A s.heap H [] := by rw [hH]; exact hS
  obtain ⟨locs, hlo⟩ : ∃ L : List Loc, L = [] := ⟨_, rfl⟩
  rw [← hlo] at hS
  rw [← hlo]
  clear hH hlo
  refine lv_aload_n hx hb dX12_goesBy_0 rfl (lv_at hl 0 rfl) ?_
  refine lv_iload_n hx hb dX12_goesBy_1 rfl (lv_at hl 1 rfl) ?_
  have hPc := hP.sub (ws' := [(zo14irriiiiiirriirrrrlriiii m0 th aS aI im ac sp en wg op aB aT se dn aG aO aN aD bv aY rn kd nu tv), (zaL aO cO 36 fO)]) [0, 2] rfl
  have hDc := hD.sub (ws' := [(zo14irriiiiiirriirrrrlriiii m0 th aS aI im ac sp en wg op aB aT se dn aG aO aN aD bv aY rn kd nu tv), (zaL aO cO 36 fO)]) [0, 2] (by decide) rfl
  have hKc := hK.sub (tys' := [(cO, .long)]) [1] rfl
  have hFc := va_free (wc := [(zo14irriiiiiirriirrrrlriiii m0 th aS aI im ac sp en wg op aB aT se dn aG aO aN aD bv aY rn kd nu tv), (zaL aO cO 36 fO)]) hD hS hA [0, 2] rfl
  refine va_callv (va_runV (As := [.int (nI c0)]) (rest := []) ⟨hx, hb, hml, hown, hts⟩ (c_begins l dC dI m0 aS aI aB aT aG aO aN aD aY th im ac sp en wg op se dn rn kd nu tv bv cO fO c0 H.size (hc0)) (cwV 1 hts gX12_goesBy_X12_begins rfl rfl rfl hd_yX12_begins ⟨Nat.le_of_ble_eq_true rfl, Nat.le_of_ble_eq_true rfl⟩) ⟨fun a U g mk q => by obtain ⟨q0, q1, qP, qK, qD⟩ := q; exact ⟨q0, mvz g mk a q1, mvP g mk a qP, mvK g mk a qK, qD⟩, va_recv hK hP (ci := 14) (q := (RX12, TX12, 23)) (q0 := 0) rfl rfl, fun U hU hW => ⟨rfl, by rw [hU], by rw [hU]; exact hPc, va_K.moved hW.alike hKc, hDc.weaken (fun _ _ _ _ => trivial)⟩⟩ rfl rfl hl.1 rfl (lv_room (Nat.le_of_ble_eq_true rfl)) dX12_goesBy_2 ⟨Nat.le_of_ble_eq_true rfl, Nat.le_of_ble_eq_true rfl⟩) hS (fun q _ h => hFc q h) hFc (fun u tC H1 locs htC hvm hw_2 hB hz1 hk1 hS => ?_)
  obtain ⟨fO9_3, rfl⟩ : ∃ z, z = u := ⟨_, rfl⟩
  try dsimp only at hw_2 hB
  obtain ⟨hP1, hK1, hD1⟩ := hB
  rw [htC] at hP1
  have hK1 := va_K.moved hvm.symm hK1
  obtain ⟨hP, hD⟩ := va_join (wr := [(zaI aS cS 901 fS), (zaL aN cN 36 fN), (zaI aD cD 36 fD)]) (w1 := [(zo14irriiiiiirriirrrrlriiii m0 th aS aI im ac sp en wg op aB aT se dn aG aO aN aD bv aY rn kd nu tv), (zaL aO cO 36 fO9_3)]) hP hD [0, 2] [1, 3, 4] rfl rfl (by decide) (by decide) hk1 hFc hP1 hD1
  have hK := (hK.sub (tys' := [(cS, .int), (cN, .long), (cD, .int)]) [0, 2, 3] rfl).app hK1
  generalize H1 = H at hP hS ⊢
  have hP : va_P (dC, dI) vwCl [(zaI aS cS 901 fS), (zaL aN cN 36 fN), (zaI aD cD 36 fD), (zo14irriiiiiirriirrrrlriiii m0 th aS aI im ac sp en wg op aB aT se dn aG aO aN aD bv aY rn kd nu tv), (zaL aO cO 36 fO9_3)] H := hP
  have hD : va_D A [(zaI aS cS 901 fS), (zaL aN cN 36 fN), (zaI aD cD 36 fD), (zo14irriiiiiirriirrrrlriiii m0 th aS aI im ac sp en wg op aB aT se dn aG aO aN aD bv aY rn kd nu tv), (zaL aO cO 36 fO9_3)] := hD
  have hK : va_K (dC, dI) vwCl [(cS, .int), (cN, .long), (cD, .int), (cO, .long)] s := hK
  have hT0 : lnA fO9_3 (tmN ed dr (wyR r k) c0 0) := hw_2
  refine lv_iload_n hx hb dX12_goesBy_5 rfl (lv_at hl 3 rfl) ?_
  refine lv_istore (lv' := [(4, .int (nI k)), (0, .ref m0), (1, .int (nI c0)), (2, .int (nI r)), (3, .int (nI k))]) hx hb dX12_goesBy_6 hl (by decide) rfl (fun ls hl => ?_)
  have L8 : ∀ (nF : Nat) (i : Nat) (fO2 : Nat → Int64) (fN2 : Nat → Int64), i < nF → (i ≤ k) → (lnA fO2 (tmN ed dr (wyR r k) c0 (k - i))) → ∀ (H : Heap) (locs : List Loc), va_K (dC, dI) vwCl [(cS, .int), (cO, .long), (cN, .long), (cD, .int)] s → va_P (dC, dI) vwCl [(zo14irriiiiiirriirrrrlriiii m0 th aS aI im ac sp en wg op aB aT se dn aG aO aN aD bv aY rn kd nu tv), (zaI aS cS 901 fS), (zaL aO cO 36 fO2), (zaL aN cN 36 fN2), (zaI aD cD 36 fD)] H → va_D A [(zo14irriiiiiirriirrrrlriiii m0 th aS aI im ac sp en wg op aB aT se dn aG aO aN aD bv aY rn kd nu tv), (zaI aS cS 901 fS), (zaL aO cO 36 fO2), (zaL aN cN 36 fN2), (zaI aD cD 36 fD)] → va_S A s.heap H locs → ∀ (ls : Array Slot), lv_has ls 6 [(0, .ref m0), (2, .int (nI r)), (4, .int (nI i))] → W p l e ({ frames := 4, cells := 0, slots := 0, locals := 88 } : Room) s m args below meth c H locs 0 0 Q (F0 m 8 ls []) := by
    intro nF
    induction nF with
    | zero => intro i fO2 fN2 hm; exact absurd hm (Nat.not_lt_zero _)
    | succ nF ih8 =>
      intro i fO2 fN2 hm hi hTi H locs hK hP hD hS ls hl
      refine lv_iload hx hb dX12_goesBy_8 (lv_at hl 2 rfl) ?_
      refine lv_if_le (tgt := 60) hx hb dX12_goesBy_10 (by decide) (fun c_4 => ?_) (fun c_4 => ?_)
      · skip
        have c_4 : i ≤ 0 := (nI_leI (a := i) (b := 0) (by omega) (by omega)).mp c_4
        rw [hQ]
        have hP9 := hP.sub (ws' := [(zo14irriiiiiirriirrrrlriiii m0 th aS aI im ac sp en wg op aB aT se dn aG aO aN aD bv aY rn kd nu tv), (zaI aS cS 901 fS), (zaL aO cO 36 fO2), (zaL aN cN 36 fN2), (zaI aD cD 36 fD)]) [0, 1, 2, 3, 4] rfl
        have hD9 := hD.sub (ws' := [(zo14irriiiiiirriirrrrlriiii m0 th aS aI im ac sp en wg op aB aT se dn aG aO aN aD bv aY rn kd nu tv), (zaI aS cS 901 fS), (zaL aO cO 36 fO2), (zaL aN cN 36 fN2), (zaI aD cD 36 fD)]) [0, 1, 2, 3, 4] (by decide) rfl
        have hK9 := hK.sub (tys' := [(cS, .int), (cO, .long), (cN, .long), (cD, .int)]) [0, 1, 2, 3] rfl
        exact W.vret hx hb hr (fun tQ htQ hWQ => ⟨⟨(fO2, fN2), rfl, by rw [show i = 0 by omega, Nat.sub_zero] at hTi; exact hTi, by rw [htQ]; exact hP9, va_K.moved hWQ.alike hK9, hD9⟩, hS.F htQ⟩) hS.2.2 dX12_goesBy_60
      · skip
        have c_4 : ¬ i ≤ 0 := fun q => c_4 ((nI_leI (a := i) (b := 0) (by omega) (by omega)).mpr q)
        refine lv_iinc (v := nI (i - 1)) (lv' := [(4, .int (nI (i - 1))), (0, .ref m0), (2, .int (nI r))]) hx hb dX12_goesBy_13 hl (k := 2) rfl (nI_dec (by omega)) (by decide) rfl (fun ls hl => ?_)
        refine lv_iload hx hb dX12_goesBy_16 (lv_at hl 0 rfl) ?_
        refine lv_iconst (v := 2) hx hb dX12_goesBy_18 (by decide) ?_
        refine lv_icmp_ne (tgt := 29) hx hb dX12_goesBy_19 (by decide) (fun c_5 => ?_) (fun c_5 => ?_)
        · skip
          have c_5 : ¬ (i - 1) = 2 := fun q => c_5 ((nI_eq (a := (i - 1)) (b := 2) (by omega) (by omega)).mpr q)
          refine lv_iload hx hb dX12_goesBy_29 (lv_at hl 0 rfl) ?_
          refine lv_iconst (v := 1) hx hb dX12_goesBy_31 (by decide) ?_
          refine lv_icmp_ne (tgt := 45) hx hb dX12_goesBy_32 (by decide) (fun c_6 => ?_) (fun c_6 => ?_)
          · skip
            have c_6 : ¬ (i - 1) = 1 := fun q => c_6 ((nI_eq (a := (i - 1)) (b := 1) (by omega) (by omega)).mpr q)
            refine lv_iload_n hx hb dX12_goesBy_45 rfl (lv_at hl 2 rfl) ?_
            refine lv_bipush (v := 8) hx hb dX12_goesBy_46 (by decide) ?_
            refine lv_irem hx hb dX12_goesBy_48 (by decide) ?_
            refine qi_as (y := nI (r % 8)) (pk_rem (a := r) (d := 8) (by omega) (by omega) (by omega)) ?_
            refine lv_istore (lv' := [(5, .int (nI (r % 8))), (4, .int (nI (i - 1))), (0, .ref m0), (2, .int (nI r))]) hx hb dX12_goesBy_49 hl (by decide) rfl (fun ls hl => ?_)
            refine lv_aload_n hx hb dX12_goesBy_51 rfl (lv_at hl 2 rfl) ?_
            refine lv_iload hx hb dX12_goesBy_52 (lv_at hl 0 rfl) ?_
            have hPc := hP.sub (ws' := [(zo14irriiiiiirriirrrrlriiii m0 th aS aI im ac sp en wg op aB aT se dn aG aO aN aD bv aY rn kd nu tv), (zaI aS cS 901 fS), (zaL aO cO 36 fO2), (zaL aN cN 36 fN2), (zaI aD cD 36 fD)]) [0, 1, 2, 3, 4] rfl
            have hDc := hD.sub (ws' := [(zo14irriiiiiirriirrrrlriiii m0 th aS aI im ac sp en wg op aB aT se dn aG aO aN aD bv aY rn kd nu tv), (zaI aS cS 901 fS), (zaL aO cO 36 fO2), (zaL aN cN 36 fN2), (zaI aD cD 36 fD)]) [0, 1, 2, 3, 4] (by decide) rfl
            have hKc := hK.sub (tys' := [(cS, .int), (cO, .long), (cN, .long), (cD, .int)]) [0, 1, 2, 3] rfl
            have hFc := va_free (wc := [(zo14irriiiiiirriirrrrlriiii m0 th aS aI im ac sp en wg op aB aT se dn aG aO aN aD bv aY rn kd nu tv), (zaI aS cS 901 fS), (zaL aO cO 36 fO2), (zaL aN cN 36 fN2), (zaI aD cD 36 fD)]) hD hS hA [0, 1, 2, 3, 4] rfl
            refine va_callv (va_runV (As := [.int (nI (r % 8))]) (rest := []) ⟨hx, hb, hml, hown, hts⟩ (c_goesOn l dC dI m0 aS aI aB aT aG aO aN aD aY th im ac sp en wg op se dn rn kd nu tv bv cS cO cN cD fS fO2 fN2 fD (r % 8) (tmN ed dr (wyR r k) c0 (k - i)) dr ed H.size (by omega) (hTi) (tm_b hc0 (fun c hc => (hdr c hc).2) (fun _ => wyR_lt) (by omega)) (hdr) (hed)) (cwV 1 hts gX12_goesBy_X12_goesOn rfl rfl rfl hd_yX12_goesOn ⟨Nat.le_of_ble_eq_true rfl, Nat.le_of_ble_eq_true rfl⟩) ⟨fun a U g mk q => by obtain ⟨q0, q1, qP, qK, qD⟩ := q; exact ⟨q0, mvz g mk a q1, mvP g mk a qP, mvK g mk a qK, qD⟩, va_recv hK hP (ci := 14) (q := (RX12, TX12, 23)) (q0 := 0) rfl rfl, fun U hU hW => ⟨rfl, by rw [hU], by rw [hU]; exact hPc, va_K.moved hW.alike hKc, hDc.weaken (fun _ _ _ _ => trivial)⟩⟩ rfl rfl hl.1 rfl (lv_room (Nat.le_of_ble_eq_true rfl)) dX12_goesBy_54 ⟨Nat.le_of_ble_eq_true rfl, Nat.le_of_ble_eq_true rfl⟩) hS (fun q _ h => hFc q h) hFc (fun u tC H1 locs htC hvm hw_8 hB hz1 hk1 hS => ?_)
            obtain ⟨fO9_9, fN9_10⟩ := u
            try dsimp only at hw_8 hB
            obtain ⟨hP1, hK1, hD1⟩ := hB
            rw [htC] at hP1
            have hK1 := va_K.moved hvm.symm hK1
            obtain ⟨hP, hD⟩ := va_join (wr := []) (w1 := [(zo14irriiiiiirriirrrrlriiii m0 th aS aI im ac sp en wg op aB aT se dn aG aO aN aD bv aY rn kd nu tv), (zaI aS cS 901 fS), (zaL aO cO 36 fO9_9), (zaL aN cN 36 fN9_10), (zaI aD cD 36 fD)]) hP hD [0, 1, 2, 3, 4] [] rfl rfl (by decide) (by decide) hk1 hFc hP1 hD1
            have hK := (hK.sub (tys' := []) [] rfl).app hK1
            generalize H1 = H at hP hS ⊢
            have hP : va_P (dC, dI) vwCl [(zo14irriiiiiirriirrrrlriiii m0 th aS aI im ac sp en wg op aB aT se dn aG aO aN aD bv aY rn kd nu tv), (zaI aS cS 901 fS), (zaL aO cO 36 fO9_9), (zaL aN cN 36 fN9_10), (zaI aD cD 36 fD)] H := hP
            have hD : va_D A [(zo14irriiiiiirriirrrrlriiii m0 th aS aI im ac sp en wg op aB aT se dn aG aO aN aD bv aY rn kd nu tv), (zaI aS cS 901 fS), (zaL aO cO 36 fO9_9), (zaL aN cN 36 fN9_10), (zaI aD cD 36 fD)] := hD
            have hK : va_K (dC, dI) vwCl [(cS, .int), (cO, .long), (cN, .long), (cD, .int)] s := hK
            have hT8 := tm_s (i := i) (by omega) (by omega) (wy_0 (by omega) (by omega) (by omega)) hw_8
            refine lv_goto (tgt := 8) hx hb dX12_goesBy_57 (by decide) ?_
            exact ih8 (i - 1) (fO9_9) (fN9_10) (by omega) (by omega) (hT8) _ _ (hK.sub [0, 1, 2, 3] rfl) (hP.sub [0, 1, 2, 3, 4] rfl) (hD.sub [0, 1, 2, 3, 4] (by decide) rfl) hS ls (lv_sub hl [2, 3, 1] rfl)
          · skip
            have c_6 : (i - 1) = 1 := (nI_eq (a := (i - 1)) (b := 1) (by omega) (by omega)).mp c_6
            refine lv_iload_n hx hb dX12_goesBy_35 rfl (lv_at hl 2 rfl) ?_
            refine lv_bipush (v := 8) hx hb dX12_goesBy_36 (by decide) ?_
            refine lv_idiv hx hb dX12_goesBy_38 (by decide) ?_
            refine qi_as (y := nI (r / 8)) (pk_div (a := r) (d := 8) (by omega) (by omega) (by omega)) ?_
            refine lv_bipush (v := 8) hx hb dX12_goesBy_39 (by decide) ?_
            refine lv_irem hx hb dX12_goesBy_41 (by decide) ?_
            refine qi_as (y := nI ((r / 8) % 8)) (pk_rem (a := r / 8) (d := 8) (by omega) (by omega) (by omega)) ?_
            refine lv_goto (tgt := 49) hx hb dX12_goesBy_42 (by decide) ?_
            refine lv_istore (lv' := [(5, .int (nI ((r / 8) % 8))), (4, .int (nI (i - 1))), (0, .ref m0), (2, .int (nI r))]) hx hb dX12_goesBy_49 hl (by decide) rfl (fun ls hl => ?_)
            refine lv_aload_n hx hb dX12_goesBy_51 rfl (lv_at hl 2 rfl) ?_
            refine lv_iload hx hb dX12_goesBy_52 (lv_at hl 0 rfl) ?_
            have hPc := hP.sub (ws' := [(zo14irriiiiiirriirrrrlriiii m0 th aS aI im ac sp en wg op aB aT se dn aG aO aN aD bv aY rn kd nu tv), (zaI aS cS 901 fS), (zaL aO cO 36 fO2), (zaL aN cN 36 fN2), (zaI aD cD 36 fD)]) [0, 1, 2, 3, 4] rfl
            have hDc := hD.sub (ws' := [(zo14irriiiiiirriirrrrlriiii m0 th aS aI im ac sp en wg op aB aT se dn aG aO aN aD bv aY rn kd nu tv), (zaI aS cS 901 fS), (zaL aO cO 36 fO2), (zaL aN cN 36 fN2), (zaI aD cD 36 fD)]) [0, 1, 2, 3, 4] (by decide) rfl
            have hKc := hK.sub (tys' := [(cS, .int), (cO, .long), (cN, .long), (cD, .int)]) [0, 1, 2, 3] rfl
            have hFc := va_free (wc := [(zo14irriiiiiirriirrrrlriiii m0 th aS aI im ac sp en wg op aB aT se dn aG aO aN aD bv aY rn kd nu tv), (zaI aS cS 901 fS), (zaL aO cO 36 fO2), (zaL aN cN 36 fN2), (zaI aD cD 36 fD)]) hD hS hA [0, 1, 2, 3, 4] rfl
            refine va_callv (va_runV (As := [.int (nI ((r / 8) % 8))]) (rest := []) ⟨hx, hb, hml, hown, hts⟩ (c_goesOn l dC dI m0 aS aI aB aT aG aO aN aD aY th im ac sp en wg op se dn rn kd nu tv bv cS cO cN cD fS fO2 fN2 fD ((r / 8) % 8) (tmN ed dr (wyR r k) c0 (k - i)) dr ed H.size (by omega) (hTi) (tm_b hc0 (fun c hc => (hdr c hc).2) (fun _ => wyR_lt) (by omega)) (hdr) (hed)) (cwV 1 hts gX12_goesBy_X12_goesOn rfl rfl rfl hd_yX12_goesOn ⟨Nat.le_of_ble_eq_true rfl, Nat.le_of_ble_eq_true rfl⟩) ⟨fun a U g mk q => by obtain ⟨q0, q1, qP, qK, qD⟩ := q; exact ⟨q0, mvz g mk a q1, mvP g mk a qP, mvK g mk a qK, qD⟩, va_recv hK hP (ci := 14) (q := (RX12, TX12, 23)) (q0 := 0) rfl rfl, fun U hU hW => ⟨rfl, by rw [hU], by rw [hU]; exact hPc, va_K.moved hW.alike hKc, hDc.weaken (fun _ _ _ _ => trivial)⟩⟩ rfl rfl hl.1 rfl (lv_room (Nat.le_of_ble_eq_true rfl)) dX12_goesBy_54 ⟨Nat.le_of_ble_eq_true rfl, Nat.le_of_ble_eq_true rfl⟩) hS (fun q _ h => hFc q h) hFc (fun u tC H1 locs htC hvm hw_12 hB hz1 hk1 hS => ?_)
            obtain ⟨fO9_13, fN9_14⟩ := u
            try dsimp only at hw_12 hB
            obtain ⟨hP1, hK1, hD1⟩ := hB
            rw [htC] at hP1
            have hK1 := va_K.moved hvm.symm hK1
            obtain ⟨hP, hD⟩ := va_join (wr := []) (w1 := [(zo14irriiiiiirriirrrrlriiii m0 th aS aI im ac sp en wg op aB aT se dn aG aO aN aD bv aY rn kd nu tv), (zaI aS cS 901 fS), (zaL aO cO 36 fO9_13), (zaL aN cN 36 fN9_14), (zaI aD cD 36 fD)]) hP hD [0, 1, 2, 3, 4] [] rfl rfl (by decide) (by decide) hk1 hFc hP1 hD1
            have hK := (hK.sub (tys' := []) [] rfl).app hK1
            generalize H1 = H at hP hS ⊢
            have hP : va_P (dC, dI) vwCl [(zo14irriiiiiirriirrrrlriiii m0 th aS aI im ac sp en wg op aB aT se dn aG aO aN aD bv aY rn kd nu tv), (zaI aS cS 901 fS), (zaL aO cO 36 fO9_13), (zaL aN cN 36 fN9_14), (zaI aD cD 36 fD)] H := hP
            have hD : va_D A [(zo14irriiiiiirriirrrrlriiii m0 th aS aI im ac sp en wg op aB aT se dn aG aO aN aD bv aY rn kd nu tv), (zaI aS cS 901 fS), (zaL aO cO 36 fO9_13), (zaL aN cN 36 fN9_14), (zaI aD cD 36 fD)] := hD
            have hK : va_K (dC, dI) vwCl [(cS, .int), (cO, .long), (cN, .long), (cD, .int)] s := hK
            have hT8 := tm_s (i := i) (by omega) (by omega) (wy_1 (by omega) (by omega)) hw_12
            refine lv_goto (tgt := 8) hx hb dX12_goesBy_57 (by decide) ?_
            exact ih8 (i - 1) (fO9_13) (fN9_14) (by omega) (by omega) (hT8) _ _ (hK.sub [0, 1, 2, 3] rfl) (hP.sub [0, 1, 2, 3, 4] rfl) (hD.sub [0, 1, 2, 3, 4] (by decide) rfl) hS ls (lv_sub hl [2, 3, 1] rfl)
        · skip
          have c_5 : (i - 1) = 2 := (nI_eq (a := (i - 1)) (b := 2) (by omega) (by omega)).mp c_5
          refine lv_iload_n hx hb dX12_goesBy_22 rfl (lv_at hl 2 rfl) ?_
          refine lv_bipush (v := 64) hx hb dX12_goesBy_23 (by decide) ?_
          refine lv_idiv hx hb dX12_goesBy_25 (by decide) ?_
          refine qi_as (y := nI (r / 64)) (pk_div (a := r) (d := 64) (by omega) (by omega) (by omega)) ?_
          refine lv_goto (tgt := 49) hx hb dX12_goesBy_26 (by decide) ?_
          refine lv_istore (lv' := [(5, .int (nI (r / 64))), (4, .int (nI (i - 1))), (0, .ref m0), (2, .int (nI r))]) hx hb dX12_goesBy_49 hl (by decide) rfl (fun ls hl => ?_)
          refine lv_aload_n hx hb dX12_goesBy_51 rfl (lv_at hl 2 rfl) ?_
          refine lv_iload hx hb dX12_goesBy_52 (lv_at hl 0 rfl) ?_
          have hPc := hP.sub (ws' := [(zo14irriiiiiirriirrrrlriiii m0 th aS aI im ac sp en wg op aB aT se dn aG aO aN aD bv aY rn kd nu tv), (zaI aS cS 901 fS), (zaL aO cO 36 fO2), (zaL aN cN 36 fN2), (zaI aD cD 36 fD)]) [0, 1, 2, 3, 4] rfl
          have hDc := hD.sub (ws' := [(zo14irriiiiiirriirrrrlriiii m0 th aS aI im ac sp en wg op aB aT se dn aG aO aN aD bv aY rn kd nu tv), (zaI aS cS 901 fS), (zaL aO cO 36 fO2), (zaL aN cN 36 fN2), (zaI aD cD 36 fD)]) [0, 1, 2, 3, 4] (by decide) rfl
          have hKc := hK.sub (tys' := [(cS, .int), (cO, .long), (cN, .long), (cD, .int)]) [0, 1, 2, 3] rfl
          have hFc := va_free (wc := [(zo14irriiiiiirriirrrrlriiii m0 th aS aI im ac sp en wg op aB aT se dn aG aO aN aD bv aY rn kd nu tv), (zaI aS cS 901 fS), (zaL aO cO 36 fO2), (zaL aN cN 36 fN2), (zaI aD cD 36 fD)]) hD hS hA [0, 1, 2, 3, 4] rfl
          refine va_callv (va_runV (As := [.int (nI (r / 64))]) (rest := []) ⟨hx, hb, hml, hown, hts⟩ (c_goesOn l dC dI m0 aS aI aB aT aG aO aN aD aY th im ac sp en wg op se dn rn kd nu tv bv cS cO cN cD fS fO2 fN2 fD (r / 64) (tmN ed dr (wyR r k) c0 (k - i)) dr ed H.size (by omega) (hTi) (tm_b hc0 (fun c hc => (hdr c hc).2) (fun _ => wyR_lt) (by omega)) (hdr) (hed)) (cwV 1 hts gX12_goesBy_X12_goesOn rfl rfl rfl hd_yX12_goesOn ⟨Nat.le_of_ble_eq_true rfl, Nat.le_of_ble_eq_true rfl⟩) ⟨fun a U g mk q => by obtain ⟨q0, q1, qP, qK, qD⟩ := q; exact ⟨q0, mvz g mk a q1, mvP g mk a qP, mvK g mk a qK, qD⟩, va_recv hK hP (ci := 14) (q := (RX12, TX12, 23)) (q0 := 0) rfl rfl, fun U hU hW => ⟨rfl, by rw [hU], by rw [hU]; exact hPc, va_K.moved hW.alike hKc, hDc.weaken (fun _ _ _ _ => trivial)⟩⟩ rfl rfl hl.1 rfl (lv_room (Nat.le_of_ble_eq_true rfl)) dX12_goesBy_54 ⟨Nat.le_of_ble_eq_true rfl, Nat.le_of_ble_eq_true rfl⟩) hS (fun q _ h => hFc q h) hFc (fun u tC H1 locs htC hvm hw_16 hB hz1 hk1 hS => ?_)
          obtain ⟨fO9_17, fN9_18⟩ := u
          try dsimp only at hw_16 hB
          obtain ⟨hP1, hK1, hD1⟩ := hB
          rw [htC] at hP1
          have hK1 := va_K.moved hvm.symm hK1
          obtain ⟨hP, hD⟩ := va_join (wr := []) (w1 := [(zo14irriiiiiirriirrrrlriiii m0 th aS aI im ac sp en wg op aB aT se dn aG aO aN aD bv aY rn kd nu tv), (zaI aS cS 901 fS), (zaL aO cO 36 fO9_17), (zaL aN cN 36 fN9_18), (zaI aD cD 36 fD)]) hP hD [0, 1, 2, 3, 4] [] rfl rfl (by decide) (by decide) hk1 hFc hP1 hD1
          have hK := (hK.sub (tys' := []) [] rfl).app hK1
          generalize H1 = H at hP hS ⊢
          have hP : va_P (dC, dI) vwCl [(zo14irriiiiiirriirrrrlriiii m0 th aS aI im ac sp en wg op aB aT se dn aG aO aN aD bv aY rn kd nu tv), (zaI aS cS 901 fS), (zaL aO cO 36 fO9_17), (zaL aN cN 36 fN9_18), (zaI aD cD 36 fD)] H := hP
          have hD : va_D A [(zo14irriiiiiirriirrrrlriiii m0 th aS aI im ac sp en wg op aB aT se dn aG aO aN aD bv aY rn kd nu tv), (zaI aS cS 901 fS), (zaL aO cO 36 fO9_17), (zaL aN cN 36 fN9_18), (zaI aD cD 36 fD)] := hD
          have hK : va_K (dC, dI) vwCl [(cS, .int), (cO, .long), (cN, .long), (cD, .int)] s := hK
          have hT8 := tm_s (i := i) (by omega) (by omega) (wy_2 (by omega) (by omega) hr5) hw_16
          refine lv_goto (tgt := 8) hx hb dX12_goesBy_57 (by decide) ?_
          exact ih8 (i - 1) (fO9_17) (fN9_18) (by omega) (by omega) (hT8) _ _ (hK.sub [0, 1, 2, 3] rfl) (hP.sub [0, 1, 2, 3, 4] rfl) (hD.sub [0, 1, 2, 3, 4] (by decide) rfl) hS ls (lv_sub hl [2, 3, 1] rfl)
  exact L8 _ (k) (fO9_3) (fN) (Nat.lt_succ_self _) (by omega) (by rw [Nat.sub_self]; exact hT0) _ _ (hK.sub [0, 3, 1, 2] rfl) (hP.sub [3, 0, 4, 1, 2] rfl) (hD.sub [3, 0, 4, 1, 2] (by decide) rfl) hS ls (lv_sub hl [1, 3, 0] rfl)

theorem kc_bestRowC_0 : ∀ w ∈ wsX120, w ∈ wsX12_bestRow := fun w h => List.mem_cons_of_mem _ (gin_wsX120 w h)
theorem kc_bestRowC_1 : (.fieldLink RX12 28 "MistHeapsModel" "often" "[J" : Cond) ∈ wsX12_bestRow := kc_of 1154 rfl rfl rfl
theorem kc_bestRowC_2 : (.fieldLink RX12 236 "MistHeapsModel" "bestOften" "J" : Cond) ∈ wsX12_bestRow := kc_of 1157 rfl rfl rfl
set_option maxHeartbeats 4000000 in
set_option maxRecDepth 100000 in
theorem c_bestRowC (l : Launch) (dC : Nat → ClassId) (dI : Nat → Nat → Nat) (m0 aS aI aB aT aG aO aN aD aY : Nat) (th im ac sp en wg op se dn rn kd nu tv : Int32) (bv : Int64) (cS cB cT cO cN cD : ClassId) (fS : Nat → Int32) (fB : Nat → Int32) (fT : Nat → Int32) (fO : Nat → Int64) (fN : Nat → Int64) (fD : Nat → Int32) (j : Nat) (c0 k ee : Nat) (mi sn : Int32) (cz : List pCla) (sz : Nat) (hj : j < 36) (zh : hol fS cz) (zmi : fS 6 = mi) (zsn : fS 7 = sn) (hc0 : c0 < 36) (gk1 : 1 ≤ k) (gk3 : k ≤ 3) (zee : ∀ k, k < 36 → fS (37 + k) = nI (ee / 2 ^ k % 2)) : Met l yX12_bestRow wsX12_bestRow ({ frames := 5, cells := 0, slots := 0, locals := 113 } : Room) (va_Pc [.ref m0, .int (nI c0), .int (nI j), .int (nI k)] (fun U => U.heap.size = sz ∧ va_P (dC, dI) vwCl [(zo14irriiiiiirriirrrrlriiii m0 th aS aI im ac sp en wg op aB aT se dn aG aO aN aD bv aY rn kd nu tv), (zaI aS cS 901 fS), (zaI aB cB 6 fB), (zaI aT cT 64 fT), (zaL aO cO 36 fO), (zaL aN cN 36 fN), (zaI aD cD 36 fD)] U.heap ∧ va_K (dC, dI) vwCl [(cS, .int), (cB, .int), (cT, .boolean), (cO, .long), (cN, .long), (cD, .int)] U ∧ va_D (fun _ => True) [(zo14irriiiiiirriirrrrlriiii m0 th aS aI im ac sp en wg op aB aT se dn aG aO aN aD bv aY rn kd nu tv), (zaI aS cS 901 fS), (zaI aB cB 6 fB), (zaI aT cT 64 fT), (zaL aO cO 36 fO), (zaL aN cN 36 fN), (zaI aD cD 36 fD)])) (va_Qi (fun (r : Int32) (u : (Nat → Int32) × (Nat → Int32) × (Int32) × (Int32) × (Nat → Int32) × (Nat → Int64) × (Nat → Int64) × (Int64)) => match u with | (fB9, fT9, se9, dn9, fD9, fO9, fN9, bv9) => r = nI (fmN (bcU cz mi sn ee c0 k j) (8 ^ k)) ∧ bv9 = lN (bcU cz mi sn ee c0 k j (fmN (bcU cz mi sn ee c0 k j) (8 ^ k)))) (fun (u : (Nat → Int32) × (Nat → Int32) × (Int32) × (Int32) × (Nat → Int32) × (Nat → Int64) × (Nat → Int64) × (Int64)) (t : State) => match u with | (fB9, fT9, se9, dn9, fD9, fO9, fN9, bv9) => va_P (dC, dI) vwCl [(zo14irriiiiiirriirrrrlriiii m0 th aS aI im ac sp en wg op aB aT se9 dn9 aG aO aN aD bv9 aY rn kd nu tv), (zaI aS cS 901 fS), (zaI aB cB 6 fB9), (zaI aT cT 64 fT9), (zaL aO cO 36 fO9), (zaL aN cN 36 fN9), (zaI aD cD 36 fD9)] t.heap ∧ va_K (dC, dI) vwCl [(cS, .int), (cB, .int), (cT, .boolean), (cO, .long), (cN, .long), (cD, .int)] t ∧ va_D (va_A [(zo14irriiiiiirriirrrrlriiii m0 th aS aI im ac sp en wg op aB aT se dn aG aO aN aD bv aY rn kd nu tv), (zaI aS cS 901 fS), (zaI aB cB 6 fB), (zaI aT cT 64 fT), (zaL aO cO 36 fO), (zaL aN cN 36 fN), (zaI aD cD 36 fD)] sz) [(zo14irriiiiiirriirrrrlriiii m0 th aS aI im ac sp en wg op aB aT se9 dn9 aG aO aN aD bv9 aY rn kd nu tv), (zaI aS cS 901 fS), (zaI aB cB 6 fB9), (zaI aT cT 64 fT9), (zaL aO cO 36 fO9), (zaL aN cN 36 fN9), (zaI aD cD 36 fD9)]) (va_A [(zo14irriiiiiirriirrrrlriiii m0 th aS aI im ac sp en wg op aB aT se dn aG aO aN aD bv aY rn kd nu tv), (zaI aS cS 901 fS), (zaI aB cB 6 fB), (zaI aT cT 64 fT), (zaL aO cO 36 fO), (zaL aN cN 36 fN), (zaI aD cD 36 fD)] sz)) 0 0 (va_A [(zo14irriiiiiirriirrrrlriiii m0 th aS aI im ac sp en wg op aB aT se dn aG aO aN aD bv aY rn kd nu tv), (zaI aS cS 901 fS), (zaI aB cB 6 fB), (zaI aT cT 64 fT), (zaL aO cO 36 fO), (zaL aN cN 36 fN), (zaI aD cD 36 fD)] sz) := by
  refine met_ofQ (cc := cX12_bestRow) (maxL := 10) (ret := (some .int)) (by decide) rfl ?_
  intro p e s m args below meth c s₁ Q B hml hv hQ
  obtain ⟨rfl, hsz, hP, hK, hD0⟩ := hv
  have hx := B.exec
  have hb := B.bytes
  have hr := B.returns
  have hts := atoms_spec (ws := wsX12_bestRow) B.pre
  have hown : s.vm.findClass RX12 = some m.cls := findClass_of_methodNamed B.named
  have hlocks := B.notSynchronized
  subst hsz
  have hD := hD0.self (sz := s.heap.size)
  generalize hAe : va_A [(zo14irriiiiiirriirrrrlriiii m0 th aS aI im ac sp en wg op aB aT se dn aG aO aN aD bv aY rn kd nu tv), (zaI aS cS 901 fS), (zaI aB cB 6 fB), (zaI aT cT 64 fT), (zaL aO cO 36 fO), (zaL aN cN 36 fN), (zaI aD cD 36 fD)] s.heap.size = A at hD hQ ⊢
  have hA : ∀ q : Nat, s.heap.size ≤ q → A q := fun q h => by rw [← hAe]; exact Or.inr h
  have hS : va_S A s.heap s.heap [] := va_S.rf
  have hl := lv_entry [.ref m0, .int (nI c0), .int (nI j), .int (nI k)] (n := 10) (Nat.le_of_ble_eq_true rfl)
  rw [lg_entry_eq]
  generalize (lg_sl [.ref m0, .int (nI c0), .int (nI j), .int (nI k)] ++ List.replicate (10 - (lg_sl [.ref m0, .int (nI c0), .int (nI j), .int (nI k)]).length) Slot.unset).toArray = ls at hl ⊢
  generalize hag : ([.ref m0, .int (nI c0), .int (nI j), .int (nI k)] : List Value).toArray = args at hts hQ ⊢
  have hl : lv_has ls 10 [(0, .ref m0), (1, .int (nI c0)), (2, .int (nI j)), (3, .int (nI k))] := hl
  obtain ⟨H, hH⟩ : ∃ H : Heap, H = s.heap := ⟨_, rfl⟩
  rw [← hH] at hP
  rw [← hH]
  have hS : va_S A s.heap H [] := by rw [hH]; exact hS
  obtain ⟨locs, hlo⟩ : ∃ L : List Loc, L = [] := ⟨_, rfl⟩
  rw [← hlo] at hS
  rw [← hlo]
  clear hH hlo
  refine lv_aload_n hx hb dX12_bestRow_0 rfl (lv_at hl 0 rfl) ?_
  have hPc := hP.sub (ws' := [(zo14irriiiiiirriirrrrlriiii m0 th aS aI im ac sp en wg op aB aT se dn aG aO aN aD bv aY rn kd nu tv), (zaI aS cS 901 fS), (zaI aB cB 6 fB), (zaI aT cT 64 fT), (zaI aD cD 36 fD)]) [0, 1, 2, 3, 6] rfl
  have hDc := hD.sub (ws' := [(zo14irriiiiiirriirrrrlriiii m0 th aS aI im ac sp en wg op aB aT se dn aG aO aN aD bv aY rn kd nu tv), (zaI aS cS 901 fS), (zaI aB cB 6 fB), (zaI aT cT 64 fT), (zaI aD cD 36 fD)]) [0, 1, 2, 3, 6] (by decide) rfl
  have hKc := hK.sub (tys' := [(cS, .int), (cB, .int), (cT, .boolean), (cD, .int)]) [0, 1, 2, 5] rfl
  have hFc := va_free (wc := [(zo14irriiiiiirriirrrrlriiii m0 th aS aI im ac sp en wg op aB aT se dn aG aO aN aD bv aY rn kd nu tv), (zaI aS cS 901 fS), (zaI aB cB 6 fB), (zaI aT cT 64 fT), (zaI aD cD 36 fD)]) hD hS hA [0, 1, 2, 3, 6] rfl
  refine va_callv (va_runV (As := []) (rest := []) ⟨hx, hb, hml, hown, hts⟩ (c_lookDrifts l dC dI m0 aS aI aB aT aG aO aN aD aY th im ac sp en wg op se dn rn kd nu tv bv cS cB cT cD fS fB fT fD cz H.size (zh)) (cwV 0 hts gX12_bestRow_X12_looksForDrifts rfl rfl rfl hd_yX12_looksForDrifts ⟨Nat.le_of_ble_eq_true rfl, Nat.le_of_ble_eq_true rfl⟩) ⟨fun a U g mk q => by obtain ⟨q0, q1, qP, qK, qD⟩ := q; exact ⟨q0, mvz g mk a q1, mvP g mk a qP, mvK g mk a qK, qD⟩, va_recv hK hP (ci := 14) (q := (RX12, TX12, 23)) (q0 := 0) rfl rfl, fun U hU hW => ⟨rfl, by rw [hU], by rw [hU]; exact hPc, va_K.moved hW.alike hKc, hDc.weaken (fun _ _ _ _ => trivial)⟩⟩ rfl rfl hl.1 rfl (lv_room (Nat.le_of_ble_eq_true rfl)) dX12_bestRow_1 ⟨Nat.le_of_ble_eq_true rfl, Nat.le_of_ble_eq_true rfl⟩) hS (fun q _ h => hFc q h) hFc (fun u tC H1 locs htC hvm hw_2 hB hz1 hk1 hS => ?_)
  obtain ⟨fB9_3, fT9_4, se9_5, dn9_6, fD9_7⟩ := u
  try dsimp only at hw_2 hB
  obtain ⟨hP1, hK1, hD1⟩ := hB
  rw [htC] at hP1
  have hK1 := va_K.moved hvm.symm hK1
  obtain ⟨hP, hD⟩ := va_join (wr := [(zaL aO cO 36 fO), (zaL aN cN 36 fN)]) (w1 := [(zo14irriiiiiirriirrrrlriiii m0 th aS aI im ac sp en wg op aB aT se9_5 dn9_6 aG aO aN aD bv aY rn kd nu tv), (zaI aS cS 901 fS), (zaI aB cB 6 fB9_3), (zaI aT cT 64 fT9_4), (zaI aD cD 36 fD9_7)]) hP hD [0, 1, 2, 3, 6] [4, 5] rfl rfl (by decide) (by decide) hk1 hFc hP1 hD1
  have hK := (hK.sub (tys' := [(cO, .long), (cN, .long)]) [3, 4] rfl).app hK1
  generalize H1 = H at hP hS ⊢
  have hP : va_P (dC, dI) vwCl [(zaL aO cO 36 fO), (zaL aN cN 36 fN), (zo14irriiiiiirriirrrrlriiii m0 th aS aI im ac sp en wg op aB aT se9_5 dn9_6 aG aO aN aD bv aY rn kd nu tv), (zaI aS cS 901 fS), (zaI aB cB 6 fB9_3), (zaI aT cT 64 fT9_4), (zaI aD cD 36 fD9_7)] H := hP
  have hD : va_D A [(zaL aO cO 36 fO), (zaL aN cN 36 fN), (zo14irriiiiiirriirrrrlriiii m0 th aS aI im ac sp en wg op aB aT se9_5 dn9_6 aG aO aN aD bv aY rn kd nu tv), (zaI aS cS 901 fS), (zaI aB cB 6 fB9_3), (zaI aT cT 64 fT9_4), (zaI aD cD 36 fD9_7)] := hD
  have hK : va_K (dC, dI) vwCl [(cO, .long), (cN, .long), (cS, .int), (cB, .int), (cT, .boolean), (cD, .int)] s := hK
  have hdr : ∀ k, k < 36 → fD9_7 k = nI (drN cz mi sn k) ∧ drN cz mi sn k ≤ 5 := fun k hk => by rw [hw_2 k hk, zmi, zsn]; exact dr_ok (hol_w3 zh).1 (hol_w3 zh).2 k
  have hw3 := hol_w3 zh
  have hd5 : ∀ c, c < 36 → drN cz mi sn c ≤ 5 := fun c _ => (dr_ok hw3.1 hw3.2 c).2
  have hed := ed_m zee
  obtain ⟨U9, hU9⟩ : ∃ U : Nat → Nat, U = bcU cz mi sn ee c0 k j := ⟨_, rfl⟩
  obtain ⟨V9, hV9⟩ : ∃ V : Nat → Int64, V = fun r => lN (bcU cz mi sn ee c0 k j r) := ⟨_, rfl⟩
  have hUV : ∀ a b, V9 a < V9 b ↔ U9 a < U9 b := fun a b => by rw [hU9, hV9]; exact bc_v hc0 hd5 gk3 hj a b
  refine lv_iload_n hx hb dX12_bestRow_4 rfl (lv_at hl 3 rfl) ?_
  refine lv_iconst (v := 1) hx hb dX12_bestRow_5 (by decide) ?_
  have J6 : ∀ v_8 : Int32, (v_8 = nI (8 ^ k)) → W p l e ({ frames := 5, cells := 0, slots := 0, locals := 113 } : Room) s m args below meth c H locs 0 0 Q (F0 m 27 ls [.int v_8]) := by
    intro v_8 hv_9
    obtain ⟨rw, hrw, hr0, hrk⟩ : ∃ rw : Nat, rw ≤ 512 ∧ 0 < rw ∧ rw = 8 ^ k := ⟨8 ^ k, (ps_8 gk1 gk3).1, (ps_8 gk1 gk3).2, rfl⟩
    rw [← hrk] at hv_9
    subst hv_9
    refine lv_istore (lv' := [(4, .int (nI rw)), (0, .ref m0), (1, .int (nI c0)), (2, .int (nI j)), (3, .int (nI k))]) hx hb dX12_bestRow_27 hl (by decide) rfl (fun ls hl => ?_)
    refine lv_iconst (v := (-1)) hx hb dX12_bestRow_29 (by decide) ?_
    refine lv_istore (lv' := [(5, .int (-1)), (4, .int (nI rw)), (0, .ref m0), (1, .int (nI c0)), (2, .int (nI j)), (3, .int (nI k))]) hx hb dX12_bestRow_30 hl (by decide) rfl (fun ls hl => ?_)
    refine lv_iconst (v := 0) hx hb dX12_bestRow_32 (by decide) ?_
    refine lv_istore (lv' := [(6, .int 0), (5, .int (-1)), (4, .int (nI rw)), (0, .ref m0), (1, .int (nI c0)), (2, .int (nI j)), (3, .int (nI k))]) hx hb dX12_bestRow_33 hl (by decide) rfl (fun ls hl => ?_)
    have L35 : ∀ (nF : Nat) (i : Nat) (q : Int32) (fO2 : Nat → Int64) (fN2 : Nat → Int64) (bv2 : Int64), rw - i < nF → (i ≤ rw) → (fmI U9 V9 i q bv2) → ∀ (H : Heap) (locs : List Loc), va_K (dC, dI) vwCl [(cS, .int), (cB, .int), (cT, .boolean), (cO, .long), (cN, .long), (cD, .int)] s → va_P (dC, dI) vwCl [(zo14irriiiiiirriirrrrlriiii m0 th aS aI im ac sp en wg op aB aT se9_5 dn9_6 aG aO aN aD bv2 aY rn kd nu tv), (zaI aS cS 901 fS), (zaI aB cB 6 fB9_3), (zaI aT cT 64 fT9_4), (zaL aO cO 36 fO2), (zaL aN cN 36 fN2), (zaI aD cD 36 fD9_7)] H → va_D A [(zo14irriiiiiirriirrrrlriiii m0 th aS aI im ac sp en wg op aB aT se9_5 dn9_6 aG aO aN aD bv2 aY rn kd nu tv), (zaI aS cS 901 fS), (zaI aB cB 6 fB9_3), (zaI aT cT 64 fT9_4), (zaL aO cO 36 fO2), (zaL aN cN 36 fN2), (zaI aD cD 36 fD9_7)] → va_S A s.heap H locs → ∀ (ls : Array Slot), lv_has ls 10 [(0, .ref m0), (1, .int (nI c0)), (2, .int (nI j)), (3, .int (nI k)), (4, .int (nI rw)), (5, .int q), (6, .int (nI i))] → W p l e ({ frames := 5, cells := 0, slots := 0, locals := 113 } : Room) s m args below meth c H locs 0 0 Q (F0 m 35 ls []) := by
      intro nF
      induction nF with
      | zero => intro i q fO2 fN2 bv2 hm; exact absurd hm (Nat.not_lt_zero _)
      | succ nF ih35 =>
        intro i q fO2 fN2 bv2 hm hi hq9 H locs hK hP hD hS ls hl
        refine lv_iload hx hb dX12_bestRow_35 (lv_at hl 6 rfl) ?_
        refine lv_iload hx hb dX12_bestRow_37 (lv_at hl 4 rfl) ?_
        refine lv_icmp_ge (tgt := 132) hx hb dX12_bestRow_39 (by decide) (fun c_10 => ?_) (fun c_10 => ?_)
        · skip
          have c_10 : rw ≤ i := (nI_leI (a := rw) (b := i) (by omega) (by omega)).mp c_10
          refine lv_iload hx hb dX12_bestRow_132 (lv_at hl 5 rfl) ?_
          rw [hQ]
          have hP9 := hP.sub (ws' := [(zo14irriiiiiirriirrrrlriiii m0 th aS aI im ac sp en wg op aB aT se9_5 dn9_6 aG aO aN aD bv2 aY rn kd nu tv), (zaI aS cS 901 fS), (zaI aB cB 6 fB9_3), (zaI aT cT 64 fT9_4), (zaL aO cO 36 fO2), (zaL aN cN 36 fN2), (zaI aD cD 36 fD9_7)]) [0, 1, 2, 3, 4, 5, 6] rfl
          have hD9 := hD.sub (ws' := [(zo14irriiiiiirriirrrrlriiii m0 th aS aI im ac sp en wg op aB aT se9_5 dn9_6 aG aO aN aD bv2 aY rn kd nu tv), (zaI aS cS 901 fS), (zaI aB cB 6 fB9_3), (zaI aT cT 64 fT9_4), (zaL aO cO 36 fO2), (zaL aN cN 36 fN2), (zaI aD cD 36 fD9_7)]) [0, 1, 2, 3, 4, 5, 6] (by decide) rfl
          have hK9 := hK.sub (tys' := [(cS, .int), (cB, .int), (cT, .boolean), (cO, .long), (cN, .long), (cD, .int)]) [0, 1, 2, 3, 4, 5] rfl
          exact W.iret (v := q) hx hb hr (fun tQ htQ hWQ => ⟨⟨q, (fB9_3, fT9_4, se9_5, dn9_6, fD9_7, fO2, fN2, bv2), rfl, by have h9 := fm_e hq9 (show i = 8 ^ k by omega) (by omega); rw [hU9, hV9] at h9; exact h9, by rw [htQ]; exact hP9, va_K.moved hWQ.alike hK9, hD9⟩, hS.F htQ⟩) hS.2.2 dX12_bestRow_134
        · skip
          have c_10 : ¬ rw ≤ i := fun q => c_10 ((nI_leI (a := rw) (b := i) (by omega) (by omega)).mpr q)
          refine lv_aload_n hx hb dX12_bestRow_42 rfl (lv_at hl 0 rfl) ?_
          refine lv_iload_n hx hb dX12_bestRow_43 rfl (lv_at hl 1 rfl) ?_
          refine lv_iload hx hb dX12_bestRow_44 (lv_at hl 6 rfl) ?_
          refine lv_iload_n hx hb dX12_bestRow_46 rfl (lv_at hl 3 rfl) ?_
          have hPc := hP.sub (ws' := [(zo14irriiiiiirriirrrrlriiii m0 th aS aI im ac sp en wg op aB aT se9_5 dn9_6 aG aO aN aD bv2 aY rn kd nu tv), (zaI aS cS 901 fS), (zaL aO cO 36 fO2), (zaL aN cN 36 fN2), (zaI aD cD 36 fD9_7)]) [0, 1, 4, 5, 6] rfl
          have hDc := hD.sub (ws' := [(zo14irriiiiiirriirrrrlriiii m0 th aS aI im ac sp en wg op aB aT se9_5 dn9_6 aG aO aN aD bv2 aY rn kd nu tv), (zaI aS cS 901 fS), (zaL aO cO 36 fO2), (zaL aN cN 36 fN2), (zaI aD cD 36 fD9_7)]) [0, 1, 4, 5, 6] (by decide) rfl
          have hKc := hK.sub (tys' := [(cS, .int), (cO, .long), (cN, .long), (cD, .int)]) [0, 3, 4, 5] rfl
          have hFc := va_free (wc := [(zo14irriiiiiirriirrrrlriiii m0 th aS aI im ac sp en wg op aB aT se9_5 dn9_6 aG aO aN aD bv2 aY rn kd nu tv), (zaI aS cS 901 fS), (zaL aO cO 36 fO2), (zaL aN cN 36 fN2), (zaI aD cD 36 fD9_7)]) hD hS hA [0, 1, 4, 5, 6] rfl
          refine va_callv (va_runV (As := [.int (nI c0), .int (nI i), .int (nI k)]) (rest := []) ⟨hx, hb, hml, hown, hts⟩ (c_goesBy l dC dI m0 aS aI aB aT aG aO aN aD aY th im ac sp en wg op se9_5 dn9_6 rn kd nu tv bv2 cS cO cN cD fS fO2 fN2 fD9_7 c0 i k (drN cz mi sn) (edB ee) H.size (hc0) (by omega) (gk3) (hdr) (hed)) (cwV 3 hts gX12_bestRow_X12_goesBy rfl rfl rfl hd_yX12_goesBy ⟨Nat.le_of_ble_eq_true rfl, Nat.le_of_ble_eq_true rfl⟩) ⟨fun a U g mk q => by obtain ⟨q0, q1, qP, qK, qD⟩ := q; exact ⟨q0, mvz g mk a q1, mvP g mk a qP, mvK g mk a qK, qD⟩, va_recv hK hP (ci := 14) (q := (RX12, TX12, 23)) (q0 := 0) rfl rfl, fun U hU hW => ⟨rfl, by rw [hU], by rw [hU]; exact hPc, va_K.moved hW.alike hKc, hDc.weaken (fun _ _ _ _ => trivial)⟩⟩ rfl rfl hl.1 rfl (lv_room (Nat.le_of_ble_eq_true rfl)) dX12_bestRow_47 ⟨Nat.le_of_ble_eq_true rfl, Nat.le_of_ble_eq_true rfl⟩) hS (fun q _ h => hFc q h) hFc (fun u tC H1 locs htC hvm hw_12 hB hz1 hk1 hS => ?_)
          obtain ⟨fO9_13, fN9_14⟩ := u
          try dsimp only at hw_12 hB
          obtain ⟨hP1, hK1, hD1⟩ := hB
          rw [htC] at hP1
          have hK1 := va_K.moved hvm.symm hK1
          obtain ⟨hP, hD⟩ := va_join (wr := [(zaI aB cB 6 fB9_3), (zaI aT cT 64 fT9_4)]) (w1 := [(zo14irriiiiiirriirrrrlriiii m0 th aS aI im ac sp en wg op aB aT se9_5 dn9_6 aG aO aN aD bv2 aY rn kd nu tv), (zaI aS cS 901 fS), (zaL aO cO 36 fO9_13), (zaL aN cN 36 fN9_14), (zaI aD cD 36 fD9_7)]) hP hD [0, 1, 4, 5, 6] [2, 3] rfl rfl (by decide) (by decide) hk1 hFc hP1 hD1
          have hK := (hK.sub (tys' := [(cB, .int), (cT, .boolean)]) [1, 2] rfl).app hK1
          generalize H1 = H at hP hS ⊢
          have hP : va_P (dC, dI) vwCl [(zaI aB cB 6 fB9_3), (zaI aT cT 64 fT9_4), (zo14irriiiiiirriirrrrlriiii m0 th aS aI im ac sp en wg op aB aT se9_5 dn9_6 aG aO aN aD bv2 aY rn kd nu tv), (zaI aS cS 901 fS), (zaL aO cO 36 fO9_13), (zaL aN cN 36 fN9_14), (zaI aD cD 36 fD9_7)] H := hP
          have hD : va_D A [(zaI aB cB 6 fB9_3), (zaI aT cT 64 fT9_4), (zo14irriiiiiirriirrrrlriiii m0 th aS aI im ac sp en wg op aB aT se9_5 dn9_6 aG aO aN aD bv2 aY rn kd nu tv), (zaI aS cS 901 fS), (zaL aO cO 36 fO9_13), (zaL aN cN 36 fN9_14), (zaI aD cD 36 fD9_7)] := hD
          have hK : va_K (dC, dI) vwCl [(cB, .int), (cT, .boolean), (cS, .int), (cO, .long), (cN, .long), (cD, .int)] s := hK
          refine lv_iload_n hx hb dX12_bestRow_50 rfl (lv_at hl 2 rfl) ?_
          refine lv_iconst (v := (-1)) hx hb dX12_bestRow_51 (by decide) ?_
          refine lv_icmp_ne (tgt := 63) hx hb dX12_bestRow_52 (by decide) (fun c_15 => ?_) (fun c_15 => absurd c_15 (nI_nm1 (by omega)))
          refine lv_aload_n hx hb dX12_bestRow_63 rfl (lv_at hl 0 rfl) ?_
          refine va_get (D := (dC, dI)) (ci := 14) (v := .ref aO) (C := RX12) (T := TX12) (N := 23) hx hb hts kc_bestRowC_0 hown hK hP 2 rfl rfl 14 (by decide) (hts (.fieldLink RX12 28 "MistHeapsModel" "often" "[J") kc_bestRowC_1) (fun _ h9 => h9) rfl dX12_bestRow_64 ?_
          refine lv_iload_n hx hb dX12_bestRow_67 rfl (lv_at hl 2 rfl) ?_
          refine va_lald hx hb hK hP 4 3 rfl rfl (vp_in_nI (n := j) (N := 36) (by omega) (by omega)) dX12_bestRow_68 ?_
          refine ql_as (y := lN (bcU cz mi sn ee c0 k j i)) ((show fO9_13 (nI j : Int32).toNatClampNeg = fO9_13 j from by rw [nI_clamp (by omega)]).trans (hw_12 j hj)) ?_
          refine lv_lstore (lv' := [(7, .long (lN (bcU cz mi sn ee c0 k j i))), (0, .ref m0), (1, .int (nI c0)), (2, .int (nI j)), (3, .int (nI k)), (4, .int (nI rw)), (5, .int q), (6, .int (nI i))]) hx hb dX12_bestRow_69 hl (by decide) rfl (fun ls hl => ?_)
          refine lv_iload hx hb dX12_bestRow_71 (lv_at hl 6 rfl) ?_
          refine lv_iconst (v := (-1)) hx hb dX12_bestRow_73 (by decide) ?_
          refine lv_icmp_eq (tgt := 87) hx hb dX12_bestRow_74 (by decide) (fun c_16 => ?_) (fun c_16 => ?_)
          · skip
            refine lv_iconst (v := 1) hx hb dX12_bestRow_87 (by decide) ?_
            refine lv_goto (tgt := 92) hx hb dX12_bestRow_88 (by decide) ?_
            refine lv_istore (lv' := [(9, .int 1), (7, .long (lN (bcU cz mi sn ee c0 k j i))), (0, .ref m0), (1, .int (nI c0)), (2, .int (nI j)), (3, .int (nI k)), (4, .int (nI rw)), (5, .int q), (6, .int (nI i))]) hx hb dX12_bestRow_92 hl (by decide) rfl (fun ls hl => ?_)
            refine lv_iload hx hb dX12_bestRow_94 (lv_at hl 0 rfl) ?_
            refine lv_if_eq (tgt := 104) hx hb dX12_bestRow_96 (by decide) (fun c_17 => absurd c_17 (by decide)) (fun _ => ?_)
            refine lv_iload hx hb dX12_bestRow_99 (lv_at hl 8 rfl) ?_
            refine lv_goto (tgt := 106) hx hb dX12_bestRow_101 (by decide) ?_
            refine lv_istore (lv' := [(5, .int (nI i)), (9, .int 1), (7, .long (lN (bcU cz mi sn ee c0 k j i))), (0, .ref m0), (1, .int (nI c0)), (2, .int (nI j)), (3, .int (nI k)), (4, .int (nI rw)), (6, .int (nI i))]) hx hb dX12_bestRow_106 hl (by decide) rfl (fun ls hl => ?_)
            refine lv_aload_n hx hb dX12_bestRow_108 rfl (lv_at hl 3 rfl) ?_
            refine lv_iload hx hb dX12_bestRow_109 (lv_at hl 1 rfl) ?_
            refine lv_if_eq (tgt := 119) hx hb dX12_bestRow_111 (by decide) (fun c_18 => absurd c_18 (by decide)) (fun _ => ?_)
            refine lv_lload hx hb dX12_bestRow_114 (lv_at hl 2 rfl) ?_
            refine lv_goto (tgt := 123) hx hb dX12_bestRow_116 (by decide) ?_
            refine va_put (D := (dC, dI)) (ci := 14) (v := .long (lN (bcU cz mi sn ee c0 k j i))) (ty := .long) (C := RX12) (T := TX12) (N := 23) hx hb hts kc_bestRowC_0 tyX12 tyX12_ok nmX12 hown hK hP hD hS 2 rfl rfl 17 (by decide) (hts (.fieldLink RX12 236 "MistHeapsModel" "bestOften" "J") kc_bestRowC_2) (fun _ h9 => h9) rfl (by decide +kernel) rfl rfl (Nat.le_of_ble_eq_true rfl) dX12_bestRow_123 (fun H locs hP hD hS => ?_)
            have hP : va_P (dC, dI) vwCl [(zaI aB cB 6 fB9_3), (zaI aT cT 64 fT9_4), (zo14irriiiiiirriirrrrlriiii m0 th aS aI im ac sp en wg op aB aT se9_5 dn9_6 aG aO aN aD (lN (bcU cz mi sn ee c0 k j i)) aY rn kd nu tv), (zaI aS cS 901 fS), (zaL aO cO 36 fO9_13), (zaL aN cN 36 fN9_14), (zaI aD cD 36 fD9_7)] H := hP
            have hD : va_D A [(zaI aB cB 6 fB9_3), (zaI aT cT 64 fT9_4), (zo14irriiiiiirriirrrrlriiii m0 th aS aI im ac sp en wg op aB aT se9_5 dn9_6 aG aO aN aD (lN (bcU cz mi sn ee c0 k j i)) aY rn kd nu tv), (zaI aS cS 901 fS), (zaL aO cO 36 fO9_13), (zaL aN cN 36 fN9_14), (zaI aD cD 36 fD9_7)] := hD
            refine lv_iinc (v := nI (i + 1)) (lv' := [(6, .int (nI (i + 1))), (5, .int (nI i)), (9, .int 1), (7, .long (lN (bcU cz mi sn ee c0 k j i))), (0, .ref m0), (1, .int (nI c0)), (2, .int (nI j)), (3, .int (nI k)), (4, .int (nI rw))]) hx hb dX12_bestRow_126 hl (k := 8) rfl (nI_add i 1) (by decide) rfl (fun ls hl => ?_)
            refine lv_goto (tgt := 35) hx hb dX12_bestRow_129 (by decide) ?_
            exact ih35 (i + 1) (nI i) (fO9_13) (fN9_14) ((lN (bcU cz mi sn ee c0 k j i))) (by omega) (by omega) (fm_a hq9 (by omega) c_16 (by rw [hV9])) _ _ (hK.sub [2, 0, 1, 3, 4, 5] rfl) (hP.sub [2, 3, 0, 1, 4, 5, 6] rfl) (hD.sub [2, 3, 0, 1, 4, 5, 6] (by decide) rfl) hS ls (lv_sub hl [4, 5, 6, 7, 8, 1, 0] rfl)
          · skip
            refine lv_lload hx hb dX12_bestRow_77 (lv_at hl 0 rfl) ?_
            refine lv_aload_n hx hb dX12_bestRow_79 rfl (lv_at hl 1 rfl) ?_
            refine va_get (D := (dC, dI)) (ci := 14) (v := .long bv2) (C := RX12) (T := TX12) (N := 23) hx hb hts kc_bestRowC_0 hown hK hP 2 rfl rfl 17 (by decide) (hts (.fieldLink RX12 236 "MistHeapsModel" "bestOften" "J") kc_bestRowC_2) (fun _ h9 => h9) rfl dX12_bestRow_80 ?_
            refine W.lcmp hx hb dX12_bestRow_83 ?_
            refine lv_if_le (tgt := 91) hx hb dX12_bestRow_84 (by decide) (fun c_19 => ?_) (fun c_19 => ?_)
            · skip
              refine lv_iconst (v := 0) hx hb dX12_bestRow_91 (by decide) ?_
              refine lv_istore (lv' := [(9, .int 0), (7, .long (lN (bcU cz mi sn ee c0 k j i))), (0, .ref m0), (1, .int (nI c0)), (2, .int (nI j)), (3, .int (nI k)), (4, .int (nI rw)), (5, .int q), (6, .int (nI i))]) hx hb dX12_bestRow_92 hl (by decide) rfl (fun ls hl => ?_)
              refine lv_iload hx hb dX12_bestRow_94 (lv_at hl 0 rfl) ?_
              refine lv_if_eq (tgt := 104) hx hb dX12_bestRow_96 (by decide) (fun _ => ?_) (fun c_20 => absurd c_20 (by decide))
              refine lv_iload hx hb dX12_bestRow_104 (lv_at hl 7 rfl) ?_
              refine lv_istore (lv' := [(5, .int q), (9, .int 0), (7, .long (lN (bcU cz mi sn ee c0 k j i))), (0, .ref m0), (1, .int (nI c0)), (2, .int (nI j)), (3, .int (nI k)), (4, .int (nI rw)), (6, .int (nI i))]) hx hb dX12_bestRow_106 hl (by decide) rfl (fun ls hl => ?_)
              refine lv_aload_n hx hb dX12_bestRow_108 rfl (lv_at hl 3 rfl) ?_
              refine lv_iload hx hb dX12_bestRow_109 (lv_at hl 1 rfl) ?_
              refine lv_if_eq (tgt := 119) hx hb dX12_bestRow_111 (by decide) (fun _ => ?_) (fun c_21 => absurd c_21 (by decide))
              refine lv_aload_n hx hb dX12_bestRow_119 rfl (lv_at hl 3 rfl) ?_
              refine va_get (D := (dC, dI)) (ci := 14) (v := .long bv2) (C := RX12) (T := TX12) (N := 23) hx hb hts kc_bestRowC_0 hown hK hP 2 rfl rfl 17 (by decide) (hts (.fieldLink RX12 236 "MistHeapsModel" "bestOften" "J") kc_bestRowC_2) (fun _ h9 => h9) rfl dX12_bestRow_120 ?_
              refine va_put (D := (dC, dI)) (ci := 14) (v := .long bv2) (ty := .long) (C := RX12) (T := TX12) (N := 23) hx hb hts kc_bestRowC_0 tyX12 tyX12_ok nmX12 hown hK hP hD hS 2 rfl rfl 17 (by decide) (hts (.fieldLink RX12 236 "MistHeapsModel" "bestOften" "J") kc_bestRowC_2) (fun _ h9 => h9) rfl (by decide +kernel) rfl rfl (Nat.le_of_ble_eq_true rfl) dX12_bestRow_123 (fun H locs hP hD hS => ?_)
              have hP : va_P (dC, dI) vwCl [(zaI aB cB 6 fB9_3), (zaI aT cT 64 fT9_4), (zo14irriiiiiirriirrrrlriiii m0 th aS aI im ac sp en wg op aB aT se9_5 dn9_6 aG aO aN aD bv2 aY rn kd nu tv), (zaI aS cS 901 fS), (zaL aO cO 36 fO9_13), (zaL aN cN 36 fN9_14), (zaI aD cD 36 fD9_7)] H := hP
              have hD : va_D A [(zaI aB cB 6 fB9_3), (zaI aT cT 64 fT9_4), (zo14irriiiiiirriirrrrlriiii m0 th aS aI im ac sp en wg op aB aT se9_5 dn9_6 aG aO aN aD bv2 aY rn kd nu tv), (zaI aS cS 901 fS), (zaL aO cO 36 fO9_13), (zaL aN cN 36 fN9_14), (zaI aD cD 36 fD9_7)] := hD
              refine lv_iinc (v := nI (i + 1)) (lv' := [(6, .int (nI (i + 1))), (5, .int q), (9, .int 0), (7, .long (lN (bcU cz mi sn ee c0 k j i))), (0, .ref m0), (1, .int (nI c0)), (2, .int (nI j)), (3, .int (nI k)), (4, .int (nI rw))]) hx hb dX12_bestRow_126 hl (k := 8) rfl (nI_add i 1) (by decide) rfl (fun ls hl => ?_)
              refine lv_goto (tgt := 35) hx hb dX12_bestRow_129 (by decide) ?_
              exact ih35 (i + 1) (q) (fO9_13) (fN9_14) (bv2) (by omega) (by omega) (fm_c hq9 c_16 (by rw [hV9]) (hUV _ _).mpr ((lg_cmp_le _ _).mp c_19)) _ _ (hK.sub [2, 0, 1, 3, 4, 5] rfl) (hP.sub [2, 3, 0, 1, 4, 5, 6] rfl) (hD.sub [2, 3, 0, 1, 4, 5, 6] (by decide) rfl) hS ls (lv_sub hl [4, 5, 6, 7, 8, 1, 0] rfl)
            · skip
              refine lv_iconst (v := 1) hx hb dX12_bestRow_87 (by decide) ?_
              refine lv_goto (tgt := 92) hx hb dX12_bestRow_88 (by decide) ?_
              refine lv_istore (lv' := [(9, .int 1), (7, .long (lN (bcU cz mi sn ee c0 k j i))), (0, .ref m0), (1, .int (nI c0)), (2, .int (nI j)), (3, .int (nI k)), (4, .int (nI rw)), (5, .int q), (6, .int (nI i))]) hx hb dX12_bestRow_92 hl (by decide) rfl (fun ls hl => ?_)
              refine lv_iload hx hb dX12_bestRow_94 (lv_at hl 0 rfl) ?_
              refine lv_if_eq (tgt := 104) hx hb dX12_bestRow_96 (by decide) (fun c_22 => absurd c_22 (by decide)) (fun _ => ?_)
              refine lv_iload hx hb dX12_bestRow_99 (lv_at hl 8 rfl) ?_
              refine lv_goto (tgt := 106) hx hb dX12_bestRow_101 (by decide) ?_
              refine lv_istore (lv' := [(5, .int (nI i)), (9, .int 1), (7, .long (lN (bcU cz mi sn ee c0 k j i))), (0, .ref m0), (1, .int (nI c0)), (2, .int (nI j)), (3, .int (nI k)), (4, .int (nI rw)), (6, .int (nI i))]) hx hb dX12_bestRow_106 hl (by decide) rfl (fun ls hl => ?_)
              refine lv_aload_n hx hb dX12_bestRow_108 rfl (lv_at hl 3 rfl) ?_
              refine lv_iload hx hb dX12_bestRow_109 (lv_at hl 1 rfl) ?_
              refine lv_if_eq (tgt := 119) hx hb dX12_bestRow_111 (by decide) (fun c_23 => absurd c_23 (by decide)) (fun _ => ?_)
              refine lv_lload hx hb dX12_bestRow_114 (lv_at hl 2 rfl) ?_
              refine lv_goto (tgt := 123) hx hb dX12_bestRow_116 (by decide) ?_
              refine va_put (D := (dC, dI)) (ci := 14) (v := .long (lN (bcU cz mi sn ee c0 k j i))) (ty := .long) (C := RX12) (T := TX12) (N := 23) hx hb hts kc_bestRowC_0 tyX12 tyX12_ok nmX12 hown hK hP hD hS 2 rfl rfl 17 (by decide) (hts (.fieldLink RX12 236 "MistHeapsModel" "bestOften" "J") kc_bestRowC_2) (fun _ h9 => h9) rfl (by decide +kernel) rfl rfl (Nat.le_of_ble_eq_true rfl) dX12_bestRow_123 (fun H locs hP hD hS => ?_)
              have hP : va_P (dC, dI) vwCl [(zaI aB cB 6 fB9_3), (zaI aT cT 64 fT9_4), (zo14irriiiiiirriirrrrlriiii m0 th aS aI im ac sp en wg op aB aT se9_5 dn9_6 aG aO aN aD (lN (bcU cz mi sn ee c0 k j i)) aY rn kd nu tv), (zaI aS cS 901 fS), (zaL aO cO 36 fO9_13), (zaL aN cN 36 fN9_14), (zaI aD cD 36 fD9_7)] H := hP
              have hD : va_D A [(zaI aB cB 6 fB9_3), (zaI aT cT 64 fT9_4), (zo14irriiiiiirriirrrrlriiii m0 th aS aI im ac sp en wg op aB aT se9_5 dn9_6 aG aO aN aD (lN (bcU cz mi sn ee c0 k j i)) aY rn kd nu tv), (zaI aS cS 901 fS), (zaL aO cO 36 fO9_13), (zaL aN cN 36 fN9_14), (zaI aD cD 36 fD9_7)] := hD
              refine lv_iinc (v := nI (i + 1)) (lv' := [(6, .int (nI (i + 1))), (5, .int (nI i)), (9, .int 1), (7, .long (lN (bcU cz mi sn ee c0 k j i))), (0, .ref m0), (1, .int (nI c0)), (2, .int (nI j)), (3, .int (nI k)), (4, .int (nI rw))]) hx hb dX12_bestRow_126 hl (k := 8) rfl (nI_add i 1) (by decide) rfl (fun ls hl => ?_)
              refine lv_goto (tgt := 35) hx hb dX12_bestRow_129 (by decide) ?_
              exact ih35 (i + 1) (nI i) (fO9_13) (fN9_14) ((lN (bcU cz mi sn ee c0 k j i))) (by omega) (by omega) (fm_b hq9 c_16 (by rw [hV9]) (hUV _ _).mp (fun z9 => c_19 ((lg_cmp_le _ _).mpr z9))) _ _ (hK.sub [2, 0, 1, 3, 4, 5] rfl) (hP.sub [2, 3, 0, 1, 4, 5, 6] rfl) (hD.sub [2, 3, 0, 1, 4, 5, 6] (by decide) rfl) hS ls (lv_sub hl [4, 5, 6, 7, 8, 1, 0] rfl)
    exact L35 _ (0) (-1) (fO) (fN) (bv) (Nat.lt_succ_self _) (by omega) (fm_0) _ _ (hK.sub [2, 3, 4, 0, 1, 5] rfl) (hP.sub [2, 3, 4, 5, 0, 1, 6] rfl) (hD.sub [2, 3, 4, 5, 0, 1, 6] (by decide) rfl) hS ls (lv_sub hl [3, 4, 5, 6, 2, 1, 0] rfl)
  refine lv_icmp_ne (tgt := 14) hx hb dX12_bestRow_6 (by decide) (fun c_24 => ?_) (fun c_24 => ?_)
  · skip
    have c_24 : ¬ k = 1 := fun q => c_24 ((nI_eq (a := k) (b := 1) (by omega) (by omega)).mpr q)
    refine lv_iload_n hx hb dX12_bestRow_14 rfl (lv_at hl 3 rfl) ?_
    refine lv_iconst (v := 2) hx hb dX12_bestRow_15 (by decide) ?_
    refine lv_icmp_ne (tgt := 24) hx hb dX12_bestRow_16 (by decide) (fun c_25 => ?_) (fun c_25 => ?_)
    · skip
      have c_25 : ¬ k = 2 := fun q => c_25 ((nI_eq (a := k) (b := 2) (by omega) (by omega)).mpr q)
      refine lv_sipush (v := 512) hx hb dX12_bestRow_24 (by decide) ?_
      exact J6 512 (by first | (rw [show k = 1 by omega]; rfl) | (rw [show k = 2 by omega]; rfl) | (rw [show k = 3 by omega]; rfl))
    · skip
      have c_25 : k = 2 := (nI_eq (a := k) (b := 2) (by omega) (by omega)).mp c_25
      refine lv_bipush (v := 64) hx hb dX12_bestRow_19 (by decide) ?_
      refine lv_goto (tgt := 27) hx hb dX12_bestRow_21 (by decide) ?_
      exact J6 64 (by first | (rw [show k = 1 by omega]; rfl) | (rw [show k = 2 by omega]; rfl) | (rw [show k = 3 by omega]; rfl))
  · skip
    have c_24 : k = 1 := (nI_eq (a := k) (b := 1) (by omega) (by omega)).mp c_24
    refine lv_bipush (v := 8) hx hb dX12_bestRow_9 (by decide) ?_
    refine lv_goto (tgt := 27) hx hb dX12_bestRow_11 (by decide) ?_
    exact J6 8 (by first | (rw [show k = 1 by omega]; rfl) | (rw [show k = 2 by omega]; rfl) | (rw [show k = 3 by omega]; rfl))

theorem kc_bestRowS_0 : ∀ w ∈ wsX120, w ∈ wsX12_bestRow := fun w h => List.mem_cons_of_mem _ (gin_wsX120 w h)
theorem kc_bestRowS_1 : (.fieldLink RX12 236 "MistHeapsModel" "bestOften" "J" : Cond) ∈ wsX12_bestRow := kc_of 1157 rfl rfl rfl
set_option maxHeartbeats 4000000 in
set_option maxRecDepth 100000 in
theorem c_bestRowS (l : Launch) (dC : Nat → ClassId) (dI : Nat → Nat → Nat) (m0 aS aI aB aT aG aO aN aD aY : Nat) (th im ac sp en wg op se dn rn kd nu tv : Int32) (bv : Int64) (cS cB cT cO cN cD : ClassId) (fS : Nat → Int32) (fB : Nat → Int32) (fT : Nat → Int32) (fO : Nat → Int64) (fN : Nat → Int64) (fD : Nat → Int32) (c0 k ee : Nat) (mi sn : Int32) (cz : List pCla) (sz : Nat) (zh : hol fS cz) (zmi : fS 6 = mi) (zsn : fS 7 = sn) (hc0 : c0 < 36) (gk1 : 1 ≤ k) (gk3 : k ≤ 3) (zee : ∀ k, k < 36 → fS (37 + k) = nI (ee / 2 ^ k % 2)) : Met l yX12_bestRow wsX12_bestRow ({ frames := 5, cells := 0, slots := 0, locals := 113 } : Room) (va_Pc [.ref m0, .int (nI c0), .int (-1), .int (nI k)] (fun U => U.heap.size = sz ∧ va_P (dC, dI) vwCl [(zo14irriiiiiirriirrrrlriiii m0 th aS aI im ac sp en wg op aB aT se dn aG aO aN aD bv aY rn kd nu tv), (zaI aS cS 901 fS), (zaI aB cB 6 fB), (zaI aT cT 64 fT), (zaL aO cO 36 fO), (zaL aN cN 36 fN), (zaI aD cD 36 fD)] U.heap ∧ va_K (dC, dI) vwCl [(cS, .int), (cB, .int), (cT, .boolean), (cO, .long), (cN, .long), (cD, .int)] U ∧ va_D (fun _ => True) [(zo14irriiiiiirriirrrrlriiii m0 th aS aI im ac sp en wg op aB aT se dn aG aO aN aD bv aY rn kd nu tv), (zaI aS cS 901 fS), (zaI aB cB 6 fB), (zaI aT cT 64 fT), (zaL aO cO 36 fO), (zaL aN cN 36 fN), (zaI aD cD 36 fD)])) (va_Qi (fun (r : Int32) (u : (Nat → Int32) × (Nat → Int32) × (Int32) × (Int32) × (Nat → Int32) × (Nat → Int64) × (Nat → Int64) × (Int64)) => match u with | (fB9, fT9, se9, dn9, fD9, fO9, fN9, bv9) => r = nI (fmN (bsU cz mi sn ee c0 k) (8 ^ k))) (fun (u : (Nat → Int32) × (Nat → Int32) × (Int32) × (Int32) × (Nat → Int32) × (Nat → Int64) × (Nat → Int64) × (Int64)) (t : State) => match u with | (fB9, fT9, se9, dn9, fD9, fO9, fN9, bv9) => va_P (dC, dI) vwCl [(zo14irriiiiiirriirrrrlriiii m0 th aS aI im ac sp en wg op aB aT se9 dn9 aG aO aN aD bv9 aY rn kd nu tv), (zaI aS cS 901 fS), (zaI aB cB 6 fB9), (zaI aT cT 64 fT9), (zaL aO cO 36 fO9), (zaL aN cN 36 fN9), (zaI aD cD 36 fD9)] t.heap ∧ va_K (dC, dI) vwCl [(cS, .int), (cB, .int), (cT, .boolean), (cO, .long), (cN, .long), (cD, .int)] t ∧ va_D (va_A [(zo14irriiiiiirriirrrrlriiii m0 th aS aI im ac sp en wg op aB aT se dn aG aO aN aD bv aY rn kd nu tv), (zaI aS cS 901 fS), (zaI aB cB 6 fB), (zaI aT cT 64 fT), (zaL aO cO 36 fO), (zaL aN cN 36 fN), (zaI aD cD 36 fD)] sz) [(zo14irriiiiiirriirrrrlriiii m0 th aS aI im ac sp en wg op aB aT se9 dn9 aG aO aN aD bv9 aY rn kd nu tv), (zaI aS cS 901 fS), (zaI aB cB 6 fB9), (zaI aT cT 64 fT9), (zaL aO cO 36 fO9), (zaL aN cN 36 fN9), (zaI aD cD 36 fD9)]) (va_A [(zo14irriiiiiirriirrrrlriiii m0 th aS aI im ac sp en wg op aB aT se dn aG aO aN aD bv aY rn kd nu tv), (zaI aS cS 901 fS), (zaI aB cB 6 fB), (zaI aT cT 64 fT), (zaL aO cO 36 fO), (zaL aN cN 36 fN), (zaI aD cD 36 fD)] sz)) 0 0 (va_A [(zo14irriiiiiirriirrrrlriiii m0 th aS aI im ac sp en wg op aB aT se dn aG aO aN aD bv aY rn kd nu tv), (zaI aS cS 901 fS), (zaI aB cB 6 fB), (zaI aT cT 64 fT), (zaL aO cO 36 fO), (zaL aN cN 36 fN), (zaI aD cD 36 fD)] sz) := by
  refine met_ofQ (cc := cX12_bestRow) (maxL := 10) (ret := (some .int)) (by decide) rfl ?_
  intro p e s m args below meth c s₁ Q B hml hv hQ
  obtain ⟨rfl, hsz, hP, hK, hD0⟩ := hv
  have hx := B.exec
  have hb := B.bytes
  have hr := B.returns
  have hts := atoms_spec (ws := wsX12_bestRow) B.pre
  have hown : s.vm.findClass RX12 = some m.cls := findClass_of_methodNamed B.named
  have hlocks := B.notSynchronized
  subst hsz
  have hD := hD0.self (sz := s.heap.size)
  generalize hAe : va_A [(zo14irriiiiiirriirrrrlriiii m0 th aS aI im ac sp en wg op aB aT se dn aG aO aN aD bv aY rn kd nu tv), (zaI aS cS 901 fS), (zaI aB cB 6 fB), (zaI aT cT 64 fT), (zaL aO cO 36 fO), (zaL aN cN 36 fN), (zaI aD cD 36 fD)] s.heap.size = A at hD hQ ⊢
  have hA : ∀ q : Nat, s.heap.size ≤ q → A q := fun q h => by rw [← hAe]; exact Or.inr h
  have hS : va_S A s.heap s.heap [] := va_S.rf
  have hl := lv_entry [.ref m0, .int (nI c0), .int (-1), .int (nI k)] (n := 10) (Nat.le_of_ble_eq_true rfl)
  rw [lg_entry_eq]
  generalize (lg_sl [.ref m0, .int (nI c0), .int (-1), .int (nI k)] ++ List.replicate (10 - (lg_sl [.ref m0, .int (nI c0), .int (-1), .int (nI k)]).length) Slot.unset).toArray = ls at hl ⊢
  generalize hag : ([.ref m0, .int (nI c0), .int (-1), .int (nI k)] : List Value).toArray = args at hts hQ ⊢
  have hl : lv_has ls 10 [(0, .ref m0), (1, .int (nI c0)), (2, .int (-1)), (3, .int (nI k))] := hl
  obtain ⟨H, hH⟩ : ∃ H : Heap, H = s.heap := ⟨_, rfl⟩
  rw [← hH] at hP
  rw [← hH]
  have hS : va_S A s.heap H [] := by rw [hH]; exact hS
  obtain ⟨locs, hlo⟩ : ∃ L : List Loc, L = [] := ⟨_, rfl⟩
  rw [← hlo] at hS
  rw [← hlo]
  clear hH hlo
  refine lv_aload_n hx hb dX12_bestRow_0 rfl (lv_at hl 0 rfl) ?_
  have hPc := hP.sub (ws' := [(zo14irriiiiiirriirrrrlriiii m0 th aS aI im ac sp en wg op aB aT se dn aG aO aN aD bv aY rn kd nu tv), (zaI aS cS 901 fS), (zaI aB cB 6 fB), (zaI aT cT 64 fT), (zaI aD cD 36 fD)]) [0, 1, 2, 3, 6] rfl
  have hDc := hD.sub (ws' := [(zo14irriiiiiirriirrrrlriiii m0 th aS aI im ac sp en wg op aB aT se dn aG aO aN aD bv aY rn kd nu tv), (zaI aS cS 901 fS), (zaI aB cB 6 fB), (zaI aT cT 64 fT), (zaI aD cD 36 fD)]) [0, 1, 2, 3, 6] (by decide) rfl
  have hKc := hK.sub (tys' := [(cS, .int), (cB, .int), (cT, .boolean), (cD, .int)]) [0, 1, 2, 5] rfl
  have hFc := va_free (wc := [(zo14irriiiiiirriirrrrlriiii m0 th aS aI im ac sp en wg op aB aT se dn aG aO aN aD bv aY rn kd nu tv), (zaI aS cS 901 fS), (zaI aB cB 6 fB), (zaI aT cT 64 fT), (zaI aD cD 36 fD)]) hD hS hA [0, 1, 2, 3, 6] rfl
  refine va_callv (va_runV (As := []) (rest := []) ⟨hx, hb, hml, hown, hts⟩ (c_lookDrifts l dC dI m0 aS aI aB aT aG aO aN aD aY th im ac sp en wg op se dn rn kd nu tv bv cS cB cT cD fS fB fT fD cz H.size (zh)) (cwV 0 hts gX12_bestRow_X12_looksForDrifts rfl rfl rfl hd_yX12_looksForDrifts ⟨Nat.le_of_ble_eq_true rfl, Nat.le_of_ble_eq_true rfl⟩) ⟨fun a U g mk q => by obtain ⟨q0, q1, qP, qK, qD⟩ := q; exact ⟨q0, mvz g mk a q1, mvP g mk a qP, mvK g mk a qK, qD⟩, va_recv hK hP (ci := 14) (q := (RX12, TX12, 23)) (q0 := 0) rfl rfl, fun U hU hW => ⟨rfl, by rw [hU], by rw [hU]; exact hPc, va_K.moved hW.alike hKc, hDc.weaken (fun _ _ _ _ => trivial)⟩⟩ rfl rfl hl.1 rfl (lv_room (Nat.le_of_ble_eq_true rfl)) dX12_bestRow_1 ⟨Nat.le_of_ble_eq_true rfl, Nat.le_of_ble_eq_true rfl⟩) hS (fun q _ h => hFc q h) hFc (fun u tC H1 locs htC hvm hw_2 hB hz1 hk1 hS => ?_)
  obtain ⟨fB9_3, fT9_4, se9_5, dn9_6, fD9_7⟩ := u
  try dsimp only at hw_2 hB
  obtain ⟨hP1, hK1, hD1⟩ := hB
  rw [htC] at hP1
  have hK1 := va_K.moved hvm.symm hK1
  obtain ⟨hP, hD⟩ := va_join (wr := [(zaL aO cO 36 fO), (zaL aN cN 36 fN)]) (w1 := [(zo14irriiiiiirriirrrrlriiii m0 th aS aI im ac sp en wg op aB aT se9_5 dn9_6 aG aO aN aD bv aY rn kd nu tv), (zaI aS cS 901 fS), (zaI aB cB 6 fB9_3), (zaI aT cT 64 fT9_4), (zaI aD cD 36 fD9_7)]) hP hD [0, 1, 2, 3, 6] [4, 5] rfl rfl (by decide) (by decide) hk1 hFc hP1 hD1
  have hK := (hK.sub (tys' := [(cO, .long), (cN, .long)]) [3, 4] rfl).app hK1
  generalize H1 = H at hP hS ⊢
  have hP : va_P (dC, dI) vwCl [(zaL aO cO 36 fO), (zaL aN cN 36 fN), (zo14irriiiiiirriirrrrlriiii m0 th aS aI im ac sp en wg op aB aT se9_5 dn9_6 aG aO aN aD bv aY rn kd nu tv), (zaI aS cS 901 fS), (zaI aB cB 6 fB9_3), (zaI aT cT 64 fT9_4), (zaI aD cD 36 fD9_7)] H := hP
  have hD : va_D A [(zaL aO cO 36 fO), (zaL aN cN 36 fN), (zo14irriiiiiirriirrrrlriiii m0 th aS aI im ac sp en wg op aB aT se9_5 dn9_6 aG aO aN aD bv aY rn kd nu tv), (zaI aS cS 901 fS), (zaI aB cB 6 fB9_3), (zaI aT cT 64 fT9_4), (zaI aD cD 36 fD9_7)] := hD
  have hK : va_K (dC, dI) vwCl [(cO, .long), (cN, .long), (cS, .int), (cB, .int), (cT, .boolean), (cD, .int)] s := hK
  have hdr : ∀ k, k < 36 → fD9_7 k = nI (drN cz mi sn k) ∧ drN cz mi sn k ≤ 5 := fun k hk => by rw [hw_2 k hk, zmi, zsn]; exact dr_ok (hol_w3 zh).1 (hol_w3 zh).2 k
  have hw3 := hol_w3 zh
  have hd5 : ∀ c, c < 36 → drN cz mi sn c ≤ 5 := fun c _ => (dr_ok hw3.1 hw3.2 c).2
  have hed := ed_m zee
  obtain ⟨U9, hU9⟩ : ∃ U : Nat → Nat, U = bsU cz mi sn ee c0 k := ⟨_, rfl⟩
  obtain ⟨V9, hV9⟩ : ∃ V : Nat → Int64, V = fun r => -(lN (boU cz mi sn ee c0 k r)) := ⟨_, rfl⟩
  have hUV : ∀ a b, V9 a < V9 b ↔ U9 a < U9 b := fun a b => by rw [hU9, hV9]; exact bs_v hc0 hd5 gk3 a b
  refine lv_iload_n hx hb dX12_bestRow_4 rfl (lv_at hl 3 rfl) ?_
  refine lv_iconst (v := 1) hx hb dX12_bestRow_5 (by decide) ?_
  have J6 : ∀ v_8 : Int32, (v_8 = nI (8 ^ k)) → W p l e ({ frames := 5, cells := 0, slots := 0, locals := 113 } : Room) s m args below meth c H locs 0 0 Q (F0 m 27 ls [.int v_8]) := by
    intro v_8 hv_9
    obtain ⟨rw, hrw, hr0, hrk⟩ : ∃ rw : Nat, rw ≤ 512 ∧ 0 < rw ∧ rw = 8 ^ k := ⟨8 ^ k, (ps_8 gk1 gk3).1, (ps_8 gk1 gk3).2, rfl⟩
    rw [← hrk] at hv_9
    subst hv_9
    refine lv_istore (lv' := [(4, .int (nI rw)), (0, .ref m0), (1, .int (nI c0)), (2, .int (-1)), (3, .int (nI k))]) hx hb dX12_bestRow_27 hl (by decide) rfl (fun ls hl => ?_)
    refine lv_iconst (v := (-1)) hx hb dX12_bestRow_29 (by decide) ?_
    refine lv_istore (lv' := [(5, .int (-1)), (4, .int (nI rw)), (0, .ref m0), (1, .int (nI c0)), (2, .int (-1)), (3, .int (nI k))]) hx hb dX12_bestRow_30 hl (by decide) rfl (fun ls hl => ?_)
    refine lv_iconst (v := 0) hx hb dX12_bestRow_32 (by decide) ?_
    refine lv_istore (lv' := [(6, .int 0), (5, .int (-1)), (4, .int (nI rw)), (0, .ref m0), (1, .int (nI c0)), (2, .int (-1)), (3, .int (nI k))]) hx hb dX12_bestRow_33 hl (by decide) rfl (fun ls hl => ?_)
    have L35 : ∀ (nF : Nat) (i : Nat) (q : Int32) (fO2 : Nat → Int64) (fN2 : Nat → Int64) (bv2 : Int64), rw - i < nF → (i ≤ rw) → (fmI U9 V9 i q bv2) → ∀ (H : Heap) (locs : List Loc), va_K (dC, dI) vwCl [(cS, .int), (cB, .int), (cT, .boolean), (cO, .long), (cN, .long), (cD, .int)] s → va_P (dC, dI) vwCl [(zo14irriiiiiirriirrrrlriiii m0 th aS aI im ac sp en wg op aB aT se9_5 dn9_6 aG aO aN aD bv2 aY rn kd nu tv), (zaI aS cS 901 fS), (zaI aB cB 6 fB9_3), (zaI aT cT 64 fT9_4), (zaL aO cO 36 fO2), (zaL aN cN 36 fN2), (zaI aD cD 36 fD9_7)] H → va_D A [(zo14irriiiiiirriirrrrlriiii m0 th aS aI im ac sp en wg op aB aT se9_5 dn9_6 aG aO aN aD bv2 aY rn kd nu tv), (zaI aS cS 901 fS), (zaI aB cB 6 fB9_3), (zaI aT cT 64 fT9_4), (zaL aO cO 36 fO2), (zaL aN cN 36 fN2), (zaI aD cD 36 fD9_7)] → va_S A s.heap H locs → ∀ (ls : Array Slot), lv_has ls 10 [(0, .ref m0), (1, .int (nI c0)), (2, .int (-1)), (3, .int (nI k)), (4, .int (nI rw)), (5, .int q), (6, .int (nI i))] → W p l e ({ frames := 5, cells := 0, slots := 0, locals := 113 } : Room) s m args below meth c H locs 0 0 Q (F0 m 35 ls []) := by
      intro nF
      induction nF with
      | zero => intro i q fO2 fN2 bv2 hm; exact absurd hm (Nat.not_lt_zero _)
      | succ nF ih35 =>
        intro i q fO2 fN2 bv2 hm hi hq9 H locs hK hP hD hS ls hl
        refine lv_iload hx hb dX12_bestRow_35 (lv_at hl 6 rfl) ?_
        refine lv_iload hx hb dX12_bestRow_37 (lv_at hl 4 rfl) ?_
        refine lv_icmp_ge (tgt := 132) hx hb dX12_bestRow_39 (by decide) (fun c_10 => ?_) (fun c_10 => ?_)
        · skip
          have c_10 : rw ≤ i := (nI_leI (a := rw) (b := i) (by omega) (by omega)).mp c_10
          refine lv_iload hx hb dX12_bestRow_132 (lv_at hl 5 rfl) ?_
          rw [hQ]
          have hP9 := hP.sub (ws' := [(zo14irriiiiiirriirrrrlriiii m0 th aS aI im ac sp en wg op aB aT se9_5 dn9_6 aG aO aN aD bv2 aY rn kd nu tv), (zaI aS cS 901 fS), (zaI aB cB 6 fB9_3), (zaI aT cT 64 fT9_4), (zaL aO cO 36 fO2), (zaL aN cN 36 fN2), (zaI aD cD 36 fD9_7)]) [0, 1, 2, 3, 4, 5, 6] rfl
          have hD9 := hD.sub (ws' := [(zo14irriiiiiirriirrrrlriiii m0 th aS aI im ac sp en wg op aB aT se9_5 dn9_6 aG aO aN aD bv2 aY rn kd nu tv), (zaI aS cS 901 fS), (zaI aB cB 6 fB9_3), (zaI aT cT 64 fT9_4), (zaL aO cO 36 fO2), (zaL aN cN 36 fN2), (zaI aD cD 36 fD9_7)]) [0, 1, 2, 3, 4, 5, 6] (by decide) rfl
          have hK9 := hK.sub (tys' := [(cS, .int), (cB, .int), (cT, .boolean), (cO, .long), (cN, .long), (cD, .int)]) [0, 1, 2, 3, 4, 5] rfl
          exact W.iret (v := q) hx hb hr (fun tQ htQ hWQ => ⟨⟨q, (fB9_3, fT9_4, se9_5, dn9_6, fD9_7, fO2, fN2, bv2), rfl, by have h9 := fm_e hq9 (show i = 8 ^ k by omega) (by omega); rw [hU9] at h9; exact h9.1, by rw [htQ]; exact hP9, va_K.moved hWQ.alike hK9, hD9⟩, hS.F htQ⟩) hS.2.2 dX12_bestRow_134
        · skip
          have c_10 : ¬ rw ≤ i := fun q => c_10 ((nI_leI (a := rw) (b := i) (by omega) (by omega)).mpr q)
          refine lv_aload_n hx hb dX12_bestRow_42 rfl (lv_at hl 0 rfl) ?_
          refine lv_iload_n hx hb dX12_bestRow_43 rfl (lv_at hl 1 rfl) ?_
          refine lv_iload hx hb dX12_bestRow_44 (lv_at hl 6 rfl) ?_
          refine lv_iload_n hx hb dX12_bestRow_46 rfl (lv_at hl 3 rfl) ?_
          have hPc := hP.sub (ws' := [(zo14irriiiiiirriirrrrlriiii m0 th aS aI im ac sp en wg op aB aT se9_5 dn9_6 aG aO aN aD bv2 aY rn kd nu tv), (zaI aS cS 901 fS), (zaL aO cO 36 fO2), (zaL aN cN 36 fN2), (zaI aD cD 36 fD9_7)]) [0, 1, 4, 5, 6] rfl
          have hDc := hD.sub (ws' := [(zo14irriiiiiirriirrrrlriiii m0 th aS aI im ac sp en wg op aB aT se9_5 dn9_6 aG aO aN aD bv2 aY rn kd nu tv), (zaI aS cS 901 fS), (zaL aO cO 36 fO2), (zaL aN cN 36 fN2), (zaI aD cD 36 fD9_7)]) [0, 1, 4, 5, 6] (by decide) rfl
          have hKc := hK.sub (tys' := [(cS, .int), (cO, .long), (cN, .long), (cD, .int)]) [0, 3, 4, 5] rfl
          have hFc := va_free (wc := [(zo14irriiiiiirriirrrrlriiii m0 th aS aI im ac sp en wg op aB aT se9_5 dn9_6 aG aO aN aD bv2 aY rn kd nu tv), (zaI aS cS 901 fS), (zaL aO cO 36 fO2), (zaL aN cN 36 fN2), (zaI aD cD 36 fD9_7)]) hD hS hA [0, 1, 4, 5, 6] rfl
          refine va_callv (va_runV (As := [.int (nI c0), .int (nI i), .int (nI k)]) (rest := []) ⟨hx, hb, hml, hown, hts⟩ (c_goesBy l dC dI m0 aS aI aB aT aG aO aN aD aY th im ac sp en wg op se9_5 dn9_6 rn kd nu tv bv2 cS cO cN cD fS fO2 fN2 fD9_7 c0 i k (drN cz mi sn) (edB ee) H.size (hc0) (by omega) (gk3) (hdr) (hed)) (cwV 3 hts gX12_bestRow_X12_goesBy rfl rfl rfl hd_yX12_goesBy ⟨Nat.le_of_ble_eq_true rfl, Nat.le_of_ble_eq_true rfl⟩) ⟨fun a U g mk q => by obtain ⟨q0, q1, qP, qK, qD⟩ := q; exact ⟨q0, mvz g mk a q1, mvP g mk a qP, mvK g mk a qK, qD⟩, va_recv hK hP (ci := 14) (q := (RX12, TX12, 23)) (q0 := 0) rfl rfl, fun U hU hW => ⟨rfl, by rw [hU], by rw [hU]; exact hPc, va_K.moved hW.alike hKc, hDc.weaken (fun _ _ _ _ => trivial)⟩⟩ rfl rfl hl.1 rfl (lv_room (Nat.le_of_ble_eq_true rfl)) dX12_bestRow_47 ⟨Nat.le_of_ble_eq_true rfl, Nat.le_of_ble_eq_true rfl⟩) hS (fun q _ h => hFc q h) hFc (fun u tC H1 locs htC hvm hw_12 hB hz1 hk1 hS => ?_)
          obtain ⟨fO9_13, fN9_14⟩ := u
          try dsimp only at hw_12 hB
          obtain ⟨hP1, hK1, hD1⟩ := hB
          rw [htC] at hP1
          have hK1 := va_K.moved hvm.symm hK1
          obtain ⟨hP, hD⟩ := va_join (wr := [(zaI aB cB 6 fB9_3), (zaI aT cT 64 fT9_4)]) (w1 := [(zo14irriiiiiirriirrrrlriiii m0 th aS aI im ac sp en wg op aB aT se9_5 dn9_6 aG aO aN aD bv2 aY rn kd nu tv), (zaI aS cS 901 fS), (zaL aO cO 36 fO9_13), (zaL aN cN 36 fN9_14), (zaI aD cD 36 fD9_7)]) hP hD [0, 1, 4, 5, 6] [2, 3] rfl rfl (by decide) (by decide) hk1 hFc hP1 hD1
          have hK := (hK.sub (tys' := [(cB, .int), (cT, .boolean)]) [1, 2] rfl).app hK1
          generalize H1 = H at hP hS ⊢
          have hP : va_P (dC, dI) vwCl [(zaI aB cB 6 fB9_3), (zaI aT cT 64 fT9_4), (zo14irriiiiiirriirrrrlriiii m0 th aS aI im ac sp en wg op aB aT se9_5 dn9_6 aG aO aN aD bv2 aY rn kd nu tv), (zaI aS cS 901 fS), (zaL aO cO 36 fO9_13), (zaL aN cN 36 fN9_14), (zaI aD cD 36 fD9_7)] H := hP
          have hD : va_D A [(zaI aB cB 6 fB9_3), (zaI aT cT 64 fT9_4), (zo14irriiiiiirriirrrrlriiii m0 th aS aI im ac sp en wg op aB aT se9_5 dn9_6 aG aO aN aD bv2 aY rn kd nu tv), (zaI aS cS 901 fS), (zaL aO cO 36 fO9_13), (zaL aN cN 36 fN9_14), (zaI aD cD 36 fD9_7)] := hD
          have hK : va_K (dC, dI) vwCl [(cB, .int), (cT, .boolean), (cS, .int), (cO, .long), (cN, .long), (cD, .int)] s := hK
          refine lv_iload_n hx hb dX12_bestRow_50 rfl (lv_at hl 2 rfl) ?_
          refine lv_iconst (v := (-1)) hx hb dX12_bestRow_51 (by decide) ?_
          refine lv_icmp_ne (tgt := 63) hx hb dX12_bestRow_52 (by decide) (fun c_15 => absurd c_15 (by decide)) (fun _ => ?_)
          refine lv_aload_n hx hb dX12_bestRow_55 rfl (lv_at hl 0 rfl) ?_
          have hPc := hP.sub (ws' := [(zo14irriiiiiirriirrrrlriiii m0 th aS aI im ac sp en wg op aB aT se9_5 dn9_6 aG aO aN aD bv2 aY rn kd nu tv), (zaI aS cS 901 fS), (zaL aO cO 36 fO9_13)]) [2, 3, 4] rfl
          have hKc := hK.sub (tys' := [(cS, .int), (cO, .long)]) [2, 3] rfl
          refine vp_callSl (va_runV (As := []) (rest := []) ⟨hx, hb, hml, hown, hts⟩ (c_over l dC dI m0 aS aI aB aT aG aO aN aD aY th im ac sp en wg op se9_5 dn9_6 rn kd nu tv bv2 cS cO fS fO9_13 (tmN (edB ee) (drN cz mi sn) (wyR i k) c0 k) (edB ee) (hw_12) (hed)) (cwV 0 hts gX12_bestRow_X12_over rfl rfl rfl hd_yX12_over ⟨Nat.le_of_ble_eq_true rfl, Nat.le_of_ble_eq_true rfl⟩) ⟨fun a U g mk q => by obtain ⟨q0, qP, qK⟩ := q; exact ⟨q0, mvP g mk a qP, mvK g mk a qK⟩, va_recv hK hP (ci := 14) (q := (RX12, TX12, 23)) (q0 := 2) rfl rfl, fun U hU hW => ⟨rfl, by rw [hU]; exact hPc, va_K.moved hW.alike hKc⟩⟩ rfl rfl hl.1 rfl (lv_room (Nat.le_of_ble_eq_true rfl)) dX12_bestRow_56 ⟨Nat.le_of_ble_eq_true rfl, Nat.le_of_ble_eq_true rfl⟩).run (fun r_16 hw_17 => ?_)
          obtain rfl := hw_17
          refine lv_lneg hx hb dX12_bestRow_59 ?_
          refine lv_goto (tgt := 69) hx hb dX12_bestRow_60 (by decide) ?_
          refine lv_lstore (lv' := [(7, .long (-(lN (boU cz mi sn ee c0 k i)))), (0, .ref m0), (1, .int (nI c0)), (2, .int (-1)), (3, .int (nI k)), (4, .int (nI rw)), (5, .int q), (6, .int (nI i))]) hx hb dX12_bestRow_69 hl (by decide) rfl (fun ls hl => ?_)
          refine lv_iload hx hb dX12_bestRow_71 (lv_at hl 6 rfl) ?_
          refine lv_iconst (v := (-1)) hx hb dX12_bestRow_73 (by decide) ?_
          refine lv_icmp_eq (tgt := 87) hx hb dX12_bestRow_74 (by decide) (fun c_18 => ?_) (fun c_18 => ?_)
          · skip
            refine lv_iconst (v := 1) hx hb dX12_bestRow_87 (by decide) ?_
            refine lv_goto (tgt := 92) hx hb dX12_bestRow_88 (by decide) ?_
            refine lv_istore (lv' := [(9, .int 1), (7, .long (-(lN (boU cz mi sn ee c0 k i)))), (0, .ref m0), (1, .int (nI c0)), (2, .int (-1)), (3, .int (nI k)), (4, .int (nI rw)), (5, .int q), (6, .int (nI i))]) hx hb dX12_bestRow_92 hl (by decide) rfl (fun ls hl => ?_)
            refine lv_iload hx hb dX12_bestRow_94 (lv_at hl 0 rfl) ?_
            refine lv_if_eq (tgt := 104) hx hb dX12_bestRow_96 (by decide) (fun c_19 => absurd c_19 (by decide)) (fun _ => ?_)
            refine lv_iload hx hb dX12_bestRow_99 (lv_at hl 8 rfl) ?_
            refine lv_goto (tgt := 106) hx hb dX12_bestRow_101 (by decide) ?_
            refine lv_istore (lv' := [(5, .int (nI i)), (9, .int 1), (7, .long (-(lN (boU cz mi sn ee c0 k i)))), (0, .ref m0), (1, .int (nI c0)), (2, .int (-1)), (3, .int (nI k)), (4, .int (nI rw)), (6, .int (nI i))]) hx hb dX12_bestRow_106 hl (by decide) rfl (fun ls hl => ?_)
            refine lv_aload_n hx hb dX12_bestRow_108 rfl (lv_at hl 3 rfl) ?_
            refine lv_iload hx hb dX12_bestRow_109 (lv_at hl 1 rfl) ?_
            refine lv_if_eq (tgt := 119) hx hb dX12_bestRow_111 (by decide) (fun c_20 => absurd c_20 (by decide)) (fun _ => ?_)
            refine lv_lload hx hb dX12_bestRow_114 (lv_at hl 2 rfl) ?_
            refine lv_goto (tgt := 123) hx hb dX12_bestRow_116 (by decide) ?_
            refine va_put (D := (dC, dI)) (ci := 14) (v := .long (-(lN (boU cz mi sn ee c0 k i)))) (ty := .long) (C := RX12) (T := TX12) (N := 23) hx hb hts kc_bestRowS_0 tyX12 tyX12_ok nmX12 hown hK hP hD hS 2 rfl rfl 17 (by decide) (hts (.fieldLink RX12 236 "MistHeapsModel" "bestOften" "J") kc_bestRowS_1) (fun _ h9 => h9) rfl (by decide +kernel) rfl rfl (Nat.le_of_ble_eq_true rfl) dX12_bestRow_123 (fun H locs hP hD hS => ?_)
            have hP : va_P (dC, dI) vwCl [(zaI aB cB 6 fB9_3), (zaI aT cT 64 fT9_4), (zo14irriiiiiirriirrrrlriiii m0 th aS aI im ac sp en wg op aB aT se9_5 dn9_6 aG aO aN aD (-(lN (boU cz mi sn ee c0 k i))) aY rn kd nu tv), (zaI aS cS 901 fS), (zaL aO cO 36 fO9_13), (zaL aN cN 36 fN9_14), (zaI aD cD 36 fD9_7)] H := hP
            have hD : va_D A [(zaI aB cB 6 fB9_3), (zaI aT cT 64 fT9_4), (zo14irriiiiiirriirrrrlriiii m0 th aS aI im ac sp en wg op aB aT se9_5 dn9_6 aG aO aN aD (-(lN (boU cz mi sn ee c0 k i))) aY rn kd nu tv), (zaI aS cS 901 fS), (zaL aO cO 36 fO9_13), (zaL aN cN 36 fN9_14), (zaI aD cD 36 fD9_7)] := hD
            refine lv_iinc (v := nI (i + 1)) (lv' := [(6, .int (nI (i + 1))), (5, .int (nI i)), (9, .int 1), (7, .long (-(lN (boU cz mi sn ee c0 k i)))), (0, .ref m0), (1, .int (nI c0)), (2, .int (-1)), (3, .int (nI k)), (4, .int (nI rw))]) hx hb dX12_bestRow_126 hl (k := 8) rfl (nI_add i 1) (by decide) rfl (fun ls hl => ?_)
            refine lv_goto (tgt := 35) hx hb dX12_bestRow_129 (by decide) ?_
            exact ih35 (i + 1) (nI i) (fO9_13) (fN9_14) ((-(lN (boU cz mi sn ee c0 k i)))) (by omega) (by omega) (fm_a hq9 (by omega) c_18 (by rw [hV9])) _ _ (hK.sub [2, 0, 1, 3, 4, 5] rfl) (hP.sub [2, 3, 0, 1, 4, 5, 6] rfl) (hD.sub [2, 3, 0, 1, 4, 5, 6] (by decide) rfl) hS ls (lv_sub hl [4, 5, 6, 7, 8, 1, 0] rfl)
          · skip
            refine lv_lload hx hb dX12_bestRow_77 (lv_at hl 0 rfl) ?_
            refine lv_aload_n hx hb dX12_bestRow_79 rfl (lv_at hl 1 rfl) ?_
            refine va_get (D := (dC, dI)) (ci := 14) (v := .long bv2) (C := RX12) (T := TX12) (N := 23) hx hb hts kc_bestRowS_0 hown hK hP 2 rfl rfl 17 (by decide) (hts (.fieldLink RX12 236 "MistHeapsModel" "bestOften" "J") kc_bestRowS_1) (fun _ h9 => h9) rfl dX12_bestRow_80 ?_
            refine W.lcmp hx hb dX12_bestRow_83 ?_
            refine lv_if_le (tgt := 91) hx hb dX12_bestRow_84 (by decide) (fun c_21 => ?_) (fun c_21 => ?_)
            · skip
              refine lv_iconst (v := 0) hx hb dX12_bestRow_91 (by decide) ?_
              refine lv_istore (lv' := [(9, .int 0), (7, .long (-(lN (boU cz mi sn ee c0 k i)))), (0, .ref m0), (1, .int (nI c0)), (2, .int (-1)), (3, .int (nI k)), (4, .int (nI rw)), (5, .int q), (6, .int (nI i))]) hx hb dX12_bestRow_92 hl (by decide) rfl (fun ls hl => ?_)
              refine lv_iload hx hb dX12_bestRow_94 (lv_at hl 0 rfl) ?_
              refine lv_if_eq (tgt := 104) hx hb dX12_bestRow_96 (by decide) (fun _ => ?_) (fun c_22 => absurd c_22 (by decide))
              refine lv_iload hx hb dX12_bestRow_104 (lv_at hl 7 rfl) ?_
              refine lv_istore (lv' := [(5, .int q), (9, .int 0), (7, .long (-(lN (boU cz mi sn ee c0 k i)))), (0, .ref m0), (1, .int (nI c0)), (2, .int (-1)), (3, .int (nI k)), (4, .int (nI rw)), (6, .int (nI i))]) hx hb dX12_bestRow_106 hl (by decide) rfl (fun ls hl => ?_)
              refine lv_aload_n hx hb dX12_bestRow_108 rfl (lv_at hl 3 rfl) ?_
              refine lv_iload hx hb dX12_bestRow_109 (lv_at hl 1 rfl) ?_
              refine lv_if_eq (tgt := 119) hx hb dX12_bestRow_111 (by decide) (fun _ => ?_) (fun c_23 => absurd c_23 (by decide))
              refine lv_aload_n hx hb dX12_bestRow_119 rfl (lv_at hl 3 rfl) ?_
              refine va_get (D := (dC, dI)) (ci := 14) (v := .long bv2) (C := RX12) (T := TX12) (N := 23) hx hb hts kc_bestRowS_0 hown hK hP 2 rfl rfl 17 (by decide) (hts (.fieldLink RX12 236 "MistHeapsModel" "bestOften" "J") kc_bestRowS_1) (fun _ h9 => h9) rfl dX12_bestRow_120 ?_
              refine va_put (D := (dC, dI)) (ci := 14) (v := .long bv2) (ty := .long) (C := RX12) (T := TX12) (N := 23) hx hb hts kc_bestRowS_0 tyX12 tyX12_ok nmX12 hown hK hP hD hS 2 rfl rfl 17 (by decide) (hts (.fieldLink RX12 236 "MistHeapsModel" "bestOften" "J") kc_bestRowS_1) (fun _ h9 => h9) rfl (by decide +kernel) rfl rfl (Nat.le_of_ble_eq_true rfl) dX12_bestRow_123 (fun H locs hP hD hS => ?_)
              have hP : va_P (dC, dI) vwCl [(zaI aB cB 6 fB9_3), (zaI aT cT 64 fT9_4), (zo14irriiiiiirriirrrrlriiii m0 th aS aI im ac sp en wg op aB aT se9_5 dn9_6 aG aO aN aD bv2 aY rn kd nu tv), (zaI aS cS 901 fS), (zaL aO cO 36 fO9_13), (zaL aN cN 36 fN9_14), (zaI aD cD 36 fD9_7)] H := hP
              have hD : va_D A [(zaI aB cB 6 fB9_3), (zaI aT cT 64 fT9_4), (zo14irriiiiiirriirrrrlriiii m0 th aS aI im ac sp en wg op aB aT se9_5 dn9_6 aG aO aN aD bv2 aY rn kd nu tv), (zaI aS cS 901 fS), (zaL aO cO 36 fO9_13), (zaL aN cN 36 fN9_14), (zaI aD cD 36 fD9_7)] := hD
              refine lv_iinc (v := nI (i + 1)) (lv' := [(6, .int (nI (i + 1))), (5, .int q), (9, .int 0), (7, .long (-(lN (boU cz mi sn ee c0 k i)))), (0, .ref m0), (1, .int (nI c0)), (2, .int (-1)), (3, .int (nI k)), (4, .int (nI rw))]) hx hb dX12_bestRow_126 hl (k := 8) rfl (nI_add i 1) (by decide) rfl (fun ls hl => ?_)
              refine lv_goto (tgt := 35) hx hb dX12_bestRow_129 (by decide) ?_
              exact ih35 (i + 1) (q) (fO9_13) (fN9_14) (bv2) (by omega) (by omega) (fm_c hq9 c_18 (by rw [hV9]) (hUV _ _).mpr ((lg_cmp_le _ _).mp c_21)) _ _ (hK.sub [2, 0, 1, 3, 4, 5] rfl) (hP.sub [2, 3, 0, 1, 4, 5, 6] rfl) (hD.sub [2, 3, 0, 1, 4, 5, 6] (by decide) rfl) hS ls (lv_sub hl [4, 5, 6, 7, 8, 1, 0] rfl)
            · skip
              refine lv_iconst (v := 1) hx hb dX12_bestRow_87 (by decide) ?_
              refine lv_goto (tgt := 92) hx hb dX12_bestRow_88 (by decide) ?_
              refine lv_istore (lv' := [(9, .int 1), (7, .long (-(lN (boU cz mi sn ee c0 k i)))), (0, .ref m0), (1, .int (nI c0)), (2, .int (-1)), (3, .int (nI k)), (4, .int (nI rw)), (5, .int q), (6, .int (nI i))]) hx hb dX12_bestRow_92 hl (by decide) rfl (fun ls hl => ?_)
              refine lv_iload hx hb dX12_bestRow_94 (lv_at hl 0 rfl) ?_
              refine lv_if_eq (tgt := 104) hx hb dX12_bestRow_96 (by decide) (fun c_24 => absurd c_24 (by decide)) (fun _ => ?_)
              refine lv_iload hx hb dX12_bestRow_99 (lv_at hl 8 rfl) ?_
              refine lv_goto (tgt := 106) hx hb dX12_bestRow_101 (by decide) ?_
              refine lv_istore (lv' := [(5, .int (nI i)), (9, .int 1), (7, .long (-(lN (boU cz mi sn ee c0 k i)))), (0, .ref m0), (1, .int (nI c0)), (2, .int (-1)), (3, .int (nI k)), (4, .int (nI rw)), (6, .int (nI i))]) hx hb dX12_bestRow_106 hl (by decide) rfl (fun ls hl => ?_)
              refine lv_aload_n hx hb dX12_bestRow_108 rfl (lv_at hl 3 rfl) ?_
              refine lv_iload hx hb dX12_bestRow_109 (lv_at hl 1 rfl) ?_
              refine lv_if_eq (tgt := 119) hx hb dX12_bestRow_111 (by decide) (fun c_25 => absurd c_25 (by decide)) (fun _ => ?_)
              refine lv_lload hx hb dX12_bestRow_114 (lv_at hl 2 rfl) ?_
              refine lv_goto (tgt := 123) hx hb dX12_bestRow_116 (by decide) ?_
              refine va_put (D := (dC, dI)) (ci := 14) (v := .long (-(lN (boU cz mi sn ee c0 k i)))) (ty := .long) (C := RX12) (T := TX12) (N := 23) hx hb hts kc_bestRowS_0 tyX12 tyX12_ok nmX12 hown hK hP hD hS 2 rfl rfl 17 (by decide) (hts (.fieldLink RX12 236 "MistHeapsModel" "bestOften" "J") kc_bestRowS_1) (fun _ h9 => h9) rfl (by decide +kernel) rfl rfl (Nat.le_of_ble_eq_true rfl) dX12_bestRow_123 (fun H locs hP hD hS => ?_)
              have hP : va_P (dC, dI) vwCl [(zaI aB cB 6 fB9_3), (zaI aT cT 64 fT9_4), (zo14irriiiiiirriirrrrlriiii m0 th aS aI im ac sp en wg op aB aT se9_5 dn9_6 aG aO aN aD (-(lN (boU cz mi sn ee c0 k i))) aY rn kd nu tv), (zaI aS cS 901 fS), (zaL aO cO 36 fO9_13), (zaL aN cN 36 fN9_14), (zaI aD cD 36 fD9_7)] H := hP
              have hD : va_D A [(zaI aB cB 6 fB9_3), (zaI aT cT 64 fT9_4), (zo14irriiiiiirriirrrrlriiii m0 th aS aI im ac sp en wg op aB aT se9_5 dn9_6 aG aO aN aD (-(lN (boU cz mi sn ee c0 k i))) aY rn kd nu tv), (zaI aS cS 901 fS), (zaL aO cO 36 fO9_13), (zaL aN cN 36 fN9_14), (zaI aD cD 36 fD9_7)] := hD
              refine lv_iinc (v := nI (i + 1)) (lv' := [(6, .int (nI (i + 1))), (5, .int (nI i)), (9, .int 1), (7, .long (-(lN (boU cz mi sn ee c0 k i)))), (0, .ref m0), (1, .int (nI c0)), (2, .int (-1)), (3, .int (nI k)), (4, .int (nI rw))]) hx hb dX12_bestRow_126 hl (k := 8) rfl (nI_add i 1) (by decide) rfl (fun ls hl => ?_)
              refine lv_goto (tgt := 35) hx hb dX12_bestRow_129 (by decide) ?_
              exact ih35 (i + 1) (nI i) (fO9_13) (fN9_14) ((-(lN (boU cz mi sn ee c0 k i)))) (by omega) (by omega) (fm_b hq9 c_18 (by rw [hV9]) (hUV _ _).mp (fun z9 => c_21 ((lg_cmp_le _ _).mpr z9))) _ _ (hK.sub [2, 0, 1, 3, 4, 5] rfl) (hP.sub [2, 3, 0, 1, 4, 5, 6] rfl) (hD.sub [2, 3, 0, 1, 4, 5, 6] (by decide) rfl) hS ls (lv_sub hl [4, 5, 6, 7, 8, 1, 0] rfl)
    exact L35 _ (0) (-1) (fO) (fN) (bv) (Nat.lt_succ_self _) (by omega) (fm_0) _ _ (hK.sub [2, 3, 4, 0, 1, 5] rfl) (hP.sub [2, 3, 4, 5, 0, 1, 6] rfl) (hD.sub [2, 3, 4, 5, 0, 1, 6] (by decide) rfl) hS ls (lv_sub hl [3, 4, 5, 6, 2, 1, 0] rfl)
  refine lv_icmp_ne (tgt := 14) hx hb dX12_bestRow_6 (by decide) (fun c_26 => ?_) (fun c_26 => ?_)
  · skip
    have c_26 : ¬ k = 1 := fun q => c_26 ((nI_eq (a := k) (b := 1) (by omega) (by omega)).mpr q)
    refine lv_iload_n hx hb dX12_bestRow_14 rfl (lv_at hl 3 rfl) ?_
    refine lv_iconst (v := 2) hx hb dX12_bestRow_15 (by decide) ?_
    refine lv_icmp_ne (tgt := 24) hx hb dX12_bestRow_16 (by decide) (fun c_27 => ?_) (fun c_27 => ?_)
    · skip
      have c_27 : ¬ k = 2 := fun q => c_27 ((nI_eq (a := k) (b := 2) (by omega) (by omega)).mpr q)
      refine lv_sipush (v := 512) hx hb dX12_bestRow_24 (by decide) ?_
      exact J6 512 (by first | (rw [show k = 1 by omega]; rfl) | (rw [show k = 2 by omega]; rfl) | (rw [show k = 3 by omega]; rfl))
    · skip
      have c_27 : k = 2 := (nI_eq (a := k) (b := 2) (by omega) (by omega)).mp c_27
      refine lv_bipush (v := 64) hx hb dX12_bestRow_19 (by decide) ?_
      refine lv_goto (tgt := 27) hx hb dX12_bestRow_21 (by decide) ?_
      exact J6 64 (by first | (rw [show k = 1 by omega]; rfl) | (rw [show k = 2 by omega]; rfl) | (rw [show k = 3 by omega]; rfl))
  · skip
    have c_26 : k = 1 := (nI_eq (a := k) (b := 1) (by omega) (by omega)).mp c_26
    refine lv_bipush (v := 8) hx hb dX12_bestRow_9 (by decide) ?_
    refine lv_goto (tgt := 27) hx hb dX12_bestRow_11 (by decide) ?_
    exact J6 8 (by first | (rw [show k = 1 by omega]; rfl) | (rw [show k = 2 by omega]; rfl) | (rw [show k = 3 by omega]; rfl))

set_option maxHeartbeats 4000000 in
set_option maxRecDepth 100000 in
theorem c_wayOf (l : Launch) (dC : Nat → ClassId) (dI : Nat → Nat → Nat) (r9 k u : Nat) (hr5 : r9 < 512) (hk3 : k ≤ 3) (huk : u < k) : Met l yX12_wayOf wsX12_wayOf ({ frames := 0, cells := 0, slots := 0, locals := 0 } : Room) (va_Pc [.int (nI r9), .int (nI k), .int (nI u)] (fun U => True)) (vp_Si (fun r => r = nI (wyR r9 k u))) 0 0 (fun _ => False) := by
  refine met_ofQ (cc := cX12_wayOf) (maxL := 4) (ret := (some .int)) (by decide) rfl ?_
  intro p e s m args below meth c s₁ Q B hml hv hQ
  obtain ⟨rfl, -⟩ := hv
  have hx := B.exec
  have hb := B.bytes
  have hr := B.returns
  have hts := atoms_spec (ws := wsX12_wayOf) B.pre
  have hown : s.vm.findClass RX12 = some m.cls := findClass_of_methodNamed B.named
  have hlocks := B.notSynchronized
  obtain ⟨A, hAe⟩ : ∃ A : Nat → Prop, A = fun _ => False := ⟨_, rfl⟩
  rw [← hAe] at hQ
  have hS : va_S A s.heap s.heap [] := va_S.rf
  have hl := lv_entry [.int (nI r9), .int (nI k), .int (nI u)] (n := 4) (Nat.le_of_ble_eq_true rfl)
  rw [lg_entry_eq]
  generalize (lg_sl [.int (nI r9), .int (nI k), .int (nI u)] ++ List.replicate (4 - (lg_sl [.int (nI r9), .int (nI k), .int (nI u)]).length) Slot.unset).toArray = ls at hl ⊢
  generalize hag : ([.int (nI r9), .int (nI k), .int (nI u)] : List Value).toArray = args at hts hQ ⊢
  have hl : lv_has ls 4 [(0, .int (nI r9)), (1, .int (nI k)), (2, .int (nI u))] := hl
  refine lv_iload_n hx hb dX12_wayOf_0 rfl (lv_at hl 1 rfl) ?_
  refine lv_iconst (v := 1) hx hb dX12_wayOf_1 (by decide) ?_
  refine lv_isub hx hb dX12_wayOf_2 ?_
  refine qi_as (y := nI (k - 1)) (pk_sub (a := k) (b := 1) (by omega)) ?_
  refine lv_iload_n hx hb dX12_wayOf_3 rfl (lv_at hl 2 rfl) ?_
  refine lv_isub hx hb dX12_wayOf_4 ?_
  refine qi_as (y := nI ((k - 1) - u)) (pk_sub (a := k - 1) (b := u) (by omega)) ?_
  refine lv_istore_n (lv' := [(3, .int (nI ((k - 1) - u))), (0, .int (nI r9)), (1, .int (nI k)), (2, .int (nI u))]) hx hb dX12_wayOf_5 rfl hl (by decide) rfl (fun ls hl => ?_)
  refine lv_iload_n hx hb dX12_wayOf_6 rfl (lv_at hl 0 rfl) ?_
  refine lv_iconst (v := 2) hx hb dX12_wayOf_7 (by decide) ?_
  refine lv_icmp_ne (tgt := 18) hx hb dX12_wayOf_8 (by decide) (fun c_1 => ?_) (fun c_1 => ?_)
  · skip
    have c_1 : ¬ ((k - 1) - u) = 2 := fun q => c_1 ((nI_eq (a := ((k - 1) - u)) (b := 2) (by omega) (by omega)).mpr q)
    refine lv_iload_n hx hb dX12_wayOf_18 rfl (lv_at hl 0 rfl) ?_
    refine lv_iconst (v := 1) hx hb dX12_wayOf_19 (by decide) ?_
    refine lv_icmp_ne (tgt := 33) hx hb dX12_wayOf_20 (by decide) (fun c_2 => ?_) (fun c_2 => ?_)
    · skip
      have c_2 : ¬ ((k - 1) - u) = 1 := fun q => c_2 ((nI_eq (a := ((k - 1) - u)) (b := 1) (by omega) (by omega)).mpr q)
      refine lv_iload_n hx hb dX12_wayOf_33 rfl (lv_at hl 1 rfl) ?_
      refine lv_bipush (v := 8) hx hb dX12_wayOf_34 (by decide) ?_
      refine lv_irem hx hb dX12_wayOf_36 (by decide) ?_
      refine qi_as (y := nI (r9 % 8)) (pk_rem (a := r9) (d := 8) (by omega) (by omega) (by omega)) ?_
      rw [hQ]
      exact W.iret (v := nI (r9 % 8)) hx hb hr (fun tQ htQ hWQ => ⟨nI (r9 % 8), rfl, by first | exact congrArg nI (wo_2 (by omega) hk3 hr5).symm | exact congrArg nI (wo_1 (by omega)).symm | exact congrArg nI (wo_0 (by omega)).symm, by rw [htQ]⟩) (fun q hq => absurd hq List.not_mem_nil) dX12_wayOf_37
    · skip
      have c_2 : ((k - 1) - u) = 1 := (nI_eq (a := ((k - 1) - u)) (b := 1) (by omega) (by omega)).mp c_2
      refine lv_iload_n hx hb dX12_wayOf_23 rfl (lv_at hl 1 rfl) ?_
      refine lv_bipush (v := 8) hx hb dX12_wayOf_24 (by decide) ?_
      refine lv_idiv hx hb dX12_wayOf_26 (by decide) ?_
      refine qi_as (y := nI (r9 / 8)) (pk_div (a := r9) (d := 8) (by omega) (by omega) (by omega)) ?_
      refine lv_bipush (v := 8) hx hb dX12_wayOf_27 (by decide) ?_
      refine lv_irem hx hb dX12_wayOf_29 (by decide) ?_
      refine qi_as (y := nI ((r9 / 8) % 8)) (pk_rem (a := r9 / 8) (d := 8) (by omega) (by omega) (by omega)) ?_
      refine lv_goto (tgt := 37) hx hb dX12_wayOf_30 (by decide) ?_
      rw [hQ]
      exact W.iret (v := nI ((r9 / 8) % 8)) hx hb hr (fun tQ htQ hWQ => ⟨nI ((r9 / 8) % 8), rfl, by first | exact congrArg nI (wo_2 (by omega) hk3 hr5).symm | exact congrArg nI (wo_1 (by omega)).symm | exact congrArg nI (wo_0 (by omega)).symm, by rw [htQ]⟩) (fun q hq => absurd hq List.not_mem_nil) dX12_wayOf_37
  · skip
    have c_1 : ((k - 1) - u) = 2 := (nI_eq (a := ((k - 1) - u)) (b := 2) (by omega) (by omega)).mp c_1
    refine lv_iload_n hx hb dX12_wayOf_11 rfl (lv_at hl 1 rfl) ?_
    refine lv_bipush (v := 64) hx hb dX12_wayOf_12 (by decide) ?_
    refine lv_idiv hx hb dX12_wayOf_14 (by decide) ?_
    refine qi_as (y := nI (r9 / 64)) (pk_div (a := r9) (d := 64) (by omega) (by omega) (by omega)) ?_
    refine lv_goto (tgt := 37) hx hb dX12_wayOf_15 (by decide) ?_
    rw [hQ]
    exact W.iret (v := nI (r9 / 64)) hx hb hr (fun tQ htQ hWQ => ⟨nI (r9 / 64), rfl, by first | exact congrArg nI (wo_2 (by omega) hk3 hr5).symm | exact congrArg nI (wo_1 (by omega)).symm | exact congrArg nI (wo_0 (by omega)).symm, by rw [htQ]⟩) (fun q hq => absurd hq List.not_mem_nil) dX12_wayOf_37

set_option maxHeartbeats 4000000 in
set_option maxRecDepth 100000 in
theorem c_mBest (l : Launch) (dC : Nat → ClassId) (dI : Nat → Nat → Nat) (m0 aS aI aB aT aG aO aN aD aY : Nat) (th im ac sp en wg op se dn rn kd nu tv : Int32) (bv : Int64) (cS cB cT cO cN cD : ClassId) (fS : Nat → Int32) (fB : Nat → Int32) (fT : Nat → Int32) (fO : Nat → Int64) (fN : Nat → Int64) (fD : Nat → Int32) (ee : Nat) (mi sn : Int32) (x y z uu : Int32) (cz : List pCla) (sz : Nat) (zh : hol fS cz) (zmi : fS 6 = mi) (zsn : fS 7 = sn) (zee : ∀ k, k < 36 → fS (37 + k) = nI (ee / 2 ^ k % 2)) : Met l yX12_best wsX12_best ({ frames := 6, cells := 0, slots := 0, locals := 142 } : Room) (va_Pc [.ref m0, .int x, .int y, .int z, .int uu] (fun U => U.heap.size = sz ∧ va_P (dC, dI) vwCl [(zo14irriiiiiirriirrrrlriiii m0 th aS aI im ac sp en wg op aB aT se dn aG aO aN aD bv aY rn kd nu tv), (zaI aS cS 901 fS), (zaI aB cB 6 fB), (zaI aT cT 64 fT), (zaL aO cO 36 fO), (zaL aN cN 36 fN), (zaI aD cD 36 fD)] U.heap ∧ va_K (dC, dI) vwCl [(cS, .int), (cB, .int), (cT, .boolean), (cO, .long), (cN, .long), (cD, .int)] U ∧ va_D (fun _ => True) [(zo14irriiiiiirriirrrrlriiii m0 th aS aI im ac sp en wg op aB aT se dn aG aO aN aD bv aY rn kd nu tv), (zaI aS cS 901 fS), (zaI aB cB 6 fB), (zaI aT cT 64 fT), (zaL aO cO 36 fO), (zaL aN cN 36 fN), (zaI aD cD 36 fD)])) (va_Qi (fun (r : Int32) (u : (Nat → Int32) × (Nat → Int32) × (Int32) × (Int32) × (Nat → Int32) × (Nat → Int64) × (Nat → Int64) × (Int64)) => match u with | (fB9, fT9, se9, dn9, fD9, fO9, fN9, bv9) => r = btR cz mi sn ee x y z uu) (fun (u : (Nat → Int32) × (Nat → Int32) × (Int32) × (Int32) × (Nat → Int32) × (Nat → Int64) × (Nat → Int64) × (Int64)) (t : State) => match u with | (fB9, fT9, se9, dn9, fD9, fO9, fN9, bv9) => va_P (dC, dI) vwCl [(zo14irriiiiiirriirrrrlriiii m0 th aS aI im ac sp en wg op aB aT se9 dn9 aG aO aN aD bv9 aY rn kd nu tv), (zaI aS cS 901 fS), (zaI aB cB 6 fB9), (zaI aT cT 64 fT9), (zaL aO cO 36 fO9), (zaL aN cN 36 fN9), (zaI aD cD 36 fD9)] t.heap ∧ va_K (dC, dI) vwCl [(cS, .int), (cB, .int), (cT, .boolean), (cO, .long), (cN, .long), (cD, .int)] t ∧ va_D (va_A [(zo14irriiiiiirriirrrrlriiii m0 th aS aI im ac sp en wg op aB aT se dn aG aO aN aD bv aY rn kd nu tv), (zaI aS cS 901 fS), (zaI aB cB 6 fB), (zaI aT cT 64 fT), (zaL aO cO 36 fO), (zaL aN cN 36 fN), (zaI aD cD 36 fD)] sz) [(zo14irriiiiiirriirrrrlriiii m0 th aS aI im ac sp en wg op aB aT se9 dn9 aG aO aN aD bv9 aY rn kd nu tv), (zaI aS cS 901 fS), (zaI aB cB 6 fB9), (zaI aT cT 64 fT9), (zaL aO cO 36 fO9), (zaL aN cN 36 fN9), (zaI aD cD 36 fD9)]) (va_A [(zo14irriiiiiirriirrrrlriiii m0 th aS aI im ac sp en wg op aB aT se dn aG aO aN aD bv aY rn kd nu tv), (zaI aS cS 901 fS), (zaI aB cB 6 fB), (zaI aT cT 64 fT), (zaL aO cO 36 fO), (zaL aN cN 36 fN), (zaI aD cD 36 fD)] sz)) 0 0 (va_A [(zo14irriiiiiirriirrrrlriiii m0 th aS aI im ac sp en wg op aB aT se dn aG aO aN aD bv aY rn kd nu tv), (zaI aS cS 901 fS), (zaI aB cB 6 fB), (zaI aT cT 64 fT), (zaL aO cO 36 fO), (zaL aN cN 36 fN), (zaI aD cD 36 fD)] sz) := by
  refine met_ofQ (cc := cX12_best) (maxL := 5) (ret := (some .int)) (by decide) rfl ?_
  intro p e s m args below meth c s₁ Q B hml hv hQ
  obtain ⟨rfl, hsz, hP, hK, hD0⟩ := hv
  have hx := B.exec
  have hb := B.bytes
  have hr := B.returns
  have hts := atoms_spec (ws := wsX12_best) B.pre
  have hown : s.vm.findClass RX12 = some m.cls := findClass_of_methodNamed B.named
  have hlocks := B.notSynchronized
  subst hsz
  have hD := hD0.self (sz := s.heap.size)
  generalize hAe : va_A [(zo14irriiiiiirriirrrrlriiii m0 th aS aI im ac sp en wg op aB aT se dn aG aO aN aD bv aY rn kd nu tv), (zaI aS cS 901 fS), (zaI aB cB 6 fB), (zaI aT cT 64 fT), (zaL aO cO 36 fO), (zaL aN cN 36 fN), (zaI aD cD 36 fD)] s.heap.size = A at hD hQ ⊢
  have hA : ∀ q : Nat, s.heap.size ≤ q → A q := fun q h => by rw [← hAe]; exact Or.inr h
  have hS : va_S A s.heap s.heap [] := va_S.rf
  have hl := lv_entry [.ref m0, .int x, .int y, .int z, .int uu] (n := 5) (Nat.le_of_ble_eq_true rfl)
  rw [lg_entry_eq]
  generalize (lg_sl [.ref m0, .int x, .int y, .int z, .int uu] ++ List.replicate (5 - (lg_sl [.ref m0, .int x, .int y, .int z, .int uu]).length) Slot.unset).toArray = ls at hl ⊢
  generalize hag : ([.ref m0, .int x, .int y, .int z, .int uu] : List Value).toArray = args at hts hQ ⊢
  have hl : lv_has ls 5 [(0, .ref m0), (1, .int x), (2, .int y), (3, .int z), (4, .int uu)] := hl
  obtain ⟨H, hH⟩ : ∃ H : Heap, H = s.heap := ⟨_, rfl⟩
  rw [← hH] at hP
  rw [← hH]
  have hS : va_S A s.heap H [] := by rw [hH]; exact hS
  obtain ⟨locs, hlo⟩ : ∃ L : List Loc, L = [] := ⟨_, rfl⟩
  rw [← hlo] at hS
  rw [← hlo]
  clear hH hlo
  refine lv_iload_n hx hb dX12_best_0 rfl (lv_at hl 1 rfl) ?_
  refine vp_callSi (va_runS (As := [.int x]) (rest := []) ⟨hx, hb, hml, hown, hts⟩ (c_mCell l dC dI x) (va_cwS 1 hts gX12_best_X12_isCell rfl rfl rfl hd_yX12_isCell.2 ⟨Nat.le_of_ble_eq_true rfl, Nat.le_of_ble_eq_true rfl⟩) ⟨fun a U g mk q => ⟨q.1, trivial⟩, fun U hU hW => ⟨rfl, trivial⟩⟩ rfl rfl hl.1 rfl (lv_room (Nat.le_of_ble_eq_true rfl)) dX12_best_1 ⟨Nat.le_of_ble_eq_true rfl, Nat.le_of_ble_eq_true rfl⟩).run (fun r_1 hw_2 => ?_)
  rcases hw_2 with ⟨rfl, h_3, h_4⟩ | ⟨rfl, h_5⟩
  · skip
    obtain ⟨j_6, hj_7, rfl⟩ := nI_of2 (n := 35) (M := 35) rfl h_3 (Int32.not_lt.mp h_4)
    refine lv_if_eq (tgt := 24) hx hb dX12_best_4 (by decide) (fun c_8 => absurd c_8 (by decide)) (fun _ => ?_)
    refine lv_iload_n hx hb dX12_best_7 rfl (lv_at hl 2 rfl) ?_
    refine vp_callSi (va_runS (As := [.int y]) (rest := []) ⟨hx, hb, hml, hown, hts⟩ (c_mCell l dC dI y) (va_cwS 1 hts gX12_best_X12_isCell rfl rfl rfl hd_yX12_isCell.2 ⟨Nat.le_of_ble_eq_true rfl, Nat.le_of_ble_eq_true rfl⟩) ⟨fun a U g mk q => ⟨q.1, trivial⟩, fun U hU hW => ⟨rfl, trivial⟩⟩ rfl rfl hl.1 rfl (lv_room (Nat.le_of_ble_eq_true rfl)) dX12_best_8 ⟨Nat.le_of_ble_eq_true rfl, Nat.le_of_ble_eq_true rfl⟩).run (fun r_9 hw_10 => ?_)
    rcases hw_10 with ⟨rfl, h_11, h_12⟩ | ⟨rfl, h_13⟩
    · skip
      obtain ⟨j_14, hj_15, rfl⟩ := nI_of2 (n := 35) (M := 35) rfl h_11 (Int32.not_lt.mp h_12)
      refine lv_if_eq (tgt := 24) hx hb dX12_best_11 (by decide) (fun c_16 => absurd c_16 (by decide)) (fun _ => ?_)
      refine lv_iload hx hb dX12_best_14 (lv_at hl 4 rfl) ?_
      refine lv_iconst (v := 0) hx hb dX12_best_16 (by decide) ?_
      refine lv_iconst (v := 2) hx hb dX12_best_17 (by decide) ?_
      refine vp_callSi (va_runS (As := [.int uu, .int 0, .int 2]) (rest := []) ⟨hx, hb, hml, hown, hts⟩ (c_in l dC dI uu 0 2) (va_cwS 3 hts gX12_best_X12_in rfl rfl rfl hd_yX12_in.2 ⟨Nat.le_of_ble_eq_true rfl, Nat.le_of_ble_eq_true rfl⟩) ⟨fun a U g mk q => ⟨q.1, trivial⟩, fun U hU hW => ⟨rfl, trivial⟩⟩ rfl rfl hl.1 rfl (lv_room (Nat.le_of_ble_eq_true rfl)) dX12_best_18 ⟨Nat.le_of_ble_eq_true rfl, Nat.le_of_ble_eq_true rfl⟩).run (fun r_17 hw_18 => ?_)
      rcases hw_18 with ⟨rfl, h_19, h_20⟩ | ⟨rfl, h_21⟩
      · skip
        obtain ⟨j_22, hj_23, rfl⟩ := nI_of2 (n := 2) (M := 2) rfl h_19 (Int32.not_lt.mp h_20)
        refine lv_if_ne (tgt := 26) hx hb dX12_best_21 (by decide) (fun _ => ?_) (fun c_24 => absurd c_24 (by decide))
        refine lv_iload_n hx hb dX12_best_26 rfl (lv_at hl 3 rfl) ?_
        refine lv_iconst (v := 1) hx hb dX12_best_27 (by decide) ?_
        refine lv_iconst (v := 3) hx hb dX12_best_28 (by decide) ?_
        refine vp_callSi (va_runS (As := [.int z, .int 1, .int 3]) (rest := []) ⟨hx, hb, hml, hown, hts⟩ (c_in l dC dI z 1 3) (va_cwS 3 hts gX12_best_X12_in rfl rfl rfl hd_yX12_in.2 ⟨Nat.le_of_ble_eq_true rfl, Nat.le_of_ble_eq_true rfl⟩) ⟨fun a U g mk q => ⟨q.1, trivial⟩, fun U hU hW => ⟨rfl, trivial⟩⟩ rfl rfl hl.1 rfl (lv_room (Nat.le_of_ble_eq_true rfl)) dX12_best_29 ⟨Nat.le_of_ble_eq_true rfl, Nat.le_of_ble_eq_true rfl⟩).run (fun r_25 hw_26 => ?_)
        rcases hw_26 with ⟨rfl, h_27, h_28⟩ | ⟨rfl, h_29⟩
        · skip
          obtain ⟨j_30, hj_31, rfl⟩ := nI_of2 (n := 3) (M := 3) rfl (fun q0 => h_27 (Int32.lt_trans q0 (by decide))) (Int32.not_lt.mp h_28)
          have h1j_30 : 1 ≤ j_30 := Nat.lt_of_not_le (fun q0 => h_27 ((nI_ltI (a := j_30) (b := 1) (by omega) (by omega)).mpr (by omega)))
          refine lv_if_ne (tgt := 38) hx hb dX12_best_32 (by decide) (fun _ => ?_) (fun c_32 => absurd c_32 (by decide))
          refine lv_iload hx hb dX12_best_38 (lv_at hl 4 rfl) ?_
          refine lv_iload_n hx hb dX12_best_40 rfl (lv_at hl 3 rfl) ?_
          refine lv_icmp_lt (tgt := 48) hx hb dX12_best_41 (by decide) (fun c_33 => ?_) (fun c_33 => ?_)
          · skip
            have c_33 : j_22 < j_30 := (nI_ltI (a := j_22) (b := j_30) (by omega) (by omega)).mp c_33
            refine lv_aload_n hx hb dX12_best_48 rfl (lv_at hl 0 rfl) ?_
            refine lv_iload_n hx hb dX12_best_49 rfl (lv_at hl 1 rfl) ?_
            refine lv_iload_n hx hb dX12_best_50 rfl (lv_at hl 2 rfl) ?_
            refine lv_iload_n hx hb dX12_best_51 rfl (lv_at hl 3 rfl) ?_
            have hPc := hP.sub (ws' := [(zo14irriiiiiirriirrrrlriiii m0 th aS aI im ac sp en wg op aB aT se dn aG aO aN aD bv aY rn kd nu tv), (zaI aS cS 901 fS), (zaI aB cB 6 fB), (zaI aT cT 64 fT), (zaL aO cO 36 fO), (zaL aN cN 36 fN), (zaI aD cD 36 fD)]) [0, 1, 2, 3, 4, 5, 6] rfl
            have hDc := hD.sub (ws' := [(zo14irriiiiiirriirrrrlriiii m0 th aS aI im ac sp en wg op aB aT se dn aG aO aN aD bv aY rn kd nu tv), (zaI aS cS 901 fS), (zaI aB cB 6 fB), (zaI aT cT 64 fT), (zaL aO cO 36 fO), (zaL aN cN 36 fN), (zaI aD cD 36 fD)]) [0, 1, 2, 3, 4, 5, 6] (by decide) rfl
            have hKc := hK.sub (tys' := [(cS, .int), (cB, .int), (cT, .boolean), (cO, .long), (cN, .long), (cD, .int)]) [0, 1, 2, 3, 4, 5] rfl
            have hFc := va_free (wc := [(zo14irriiiiiirriirrrrlriiii m0 th aS aI im ac sp en wg op aB aT se dn aG aO aN aD bv aY rn kd nu tv), (zaI aS cS 901 fS), (zaI aB cB 6 fB), (zaI aT cT 64 fT), (zaL aO cO 36 fO), (zaL aN cN 36 fN), (zaI aD cD 36 fD)]) hD hS hA [0, 1, 2, 3, 4, 5, 6] rfl
            refine va_calli (va_runV (As := [.int (nI j_6), .int (nI j_14), .int (nI j_30)]) (rest := []) ⟨hx, hb, hml, hown, hts⟩ (c_bestRowC l dC dI m0 aS aI aB aT aG aO aN aD aY th im ac sp en wg op se dn rn kd nu tv bv cS cB cT cO cN cD fS fB fT fO fN fD j_14 j_6 j_30 ee mi sn cz H.size (by omega) (zh) (zmi) (zsn) (by omega) (by omega) (by omega) (zee)) (cwV 3 hts gX12_best_X12_bestRow rfl rfl rfl hd_yX12_bestRow ⟨Nat.le_of_ble_eq_true rfl, Nat.le_of_ble_eq_true rfl⟩) ⟨fun a U g mk q => by obtain ⟨q0, q1, qP, qK, qD⟩ := q; exact ⟨q0, mvz g mk a q1, mvP g mk a qP, mvK g mk a qK, qD⟩, va_recv hK hP (ci := 14) (q := (RX12, TX12, 23)) (q0 := 0) rfl rfl, fun U hU hW => ⟨rfl, by rw [hU], by rw [hU]; exact hPc, va_K.moved hW.alike hKc, hDc.weaken (fun _ _ _ _ => trivial)⟩⟩ rfl rfl hl.1 rfl (lv_room (Nat.le_of_ble_eq_true rfl)) dX12_best_52 ⟨Nat.le_of_ble_eq_true rfl, Nat.le_of_ble_eq_true rfl⟩) hS (fun q _ h => hFc q h) hFc (fun r_34 u tC H1 locs htC hvm hw_35 hB hz1 hk1 hS => ?_)
            obtain ⟨fB9_36, fT9_37, se9_38, dn9_39, fD9_40, fO9_41, fN9_42, bv9_43⟩ := u
            try dsimp only at hw_35 hB
            obtain ⟨hP1, hK1, hD1⟩ := hB
            rw [htC] at hP1
            have hK1 := va_K.moved hvm.symm hK1
            obtain ⟨hP, hD⟩ := va_join (wr := []) (w1 := [(zo14irriiiiiirriirrrrlriiii m0 th aS aI im ac sp en wg op aB aT se9_38 dn9_39 aG aO aN aD bv9_43 aY rn kd nu tv), (zaI aS cS 901 fS), (zaI aB cB 6 fB9_36), (zaI aT cT 64 fT9_37), (zaL aO cO 36 fO9_41), (zaL aN cN 36 fN9_42), (zaI aD cD 36 fD9_40)]) hP hD [0, 1, 2, 3, 4, 5, 6] [] rfl rfl (by decide) (by decide) hk1 hFc hP1 hD1
            have hK := (hK.sub (tys' := []) [] rfl).app hK1
            generalize H1 = H at hP hS ⊢
            have hP : va_P (dC, dI) vwCl [(zo14irriiiiiirriirrrrlriiii m0 th aS aI im ac sp en wg op aB aT se9_38 dn9_39 aG aO aN aD bv9_43 aY rn kd nu tv), (zaI aS cS 901 fS), (zaI aB cB 6 fB9_36), (zaI aT cT 64 fT9_37), (zaL aO cO 36 fO9_41), (zaL aN cN 36 fN9_42), (zaI aD cD 36 fD9_40)] H := hP
            have hD : va_D A [(zo14irriiiiiirriirrrrlriiii m0 th aS aI im ac sp en wg op aB aT se9_38 dn9_39 aG aO aN aD bv9_43 aY rn kd nu tv), (zaI aS cS 901 fS), (zaI aB cB 6 fB9_36), (zaI aT cT 64 fT9_37), (zaL aO cO 36 fO9_41), (zaL aN cN 36 fN9_42), (zaI aD cD 36 fD9_40)] := hD
            have hK : va_K (dC, dI) vwCl [(cS, .int), (cB, .int), (cT, .boolean), (cO, .long), (cN, .long), (cD, .int)] s := hK
            obtain ⟨rfl, hb9⟩ := hw_35
            have hf9 := fm_lt (U := bcU cz mi sn ee j_6 j_30 j_14) (8 ^ j_30) (ps_8 (by omega) (by omega)).2
            have h89 := (ps_8 (k := j_30) (by omega) (by omega)).1
            subst hb9
            refine lv_iload_n hx hb dX12_best_55 rfl (lv_at hl 3 rfl) ?_
            refine lv_iload hx hb dX12_best_56 (lv_at hl 4 rfl) ?_
            refine vp_callSi (va_runS (As := [.int (nI (fmN (bcU cz mi sn ee j_6 j_30 j_14) (8 ^ j_30))), .int (nI j_30), .int (nI j_22)]) (rest := []) ⟨hx, hb, hml, hown, hts⟩ (c_wayOf l dC dI (fmN (bcU cz mi sn ee j_6 j_30 j_14) (8 ^ j_30)) j_30 j_22 (by omega) (by omega) (by omega)) (va_cwS 3 hts gX12_best_X12_wayOf rfl rfl rfl hd_yX12_wayOf.2 ⟨Nat.le_of_ble_eq_true rfl, Nat.le_of_ble_eq_true rfl⟩) ⟨fun a U g mk q => ⟨q.1, trivial⟩, fun U hU hW => ⟨rfl, trivial⟩⟩ rfl rfl hl.1 rfl (lv_room (Nat.le_of_ble_eq_true rfl)) dX12_best_58 ⟨Nat.le_of_ble_eq_true rfl, Nat.le_of_ble_eq_true rfl⟩).run (fun r_44 hw_45 => ?_)
            obtain rfl := hw_45
            rw [hQ]
            have hP9 := hP.sub (ws' := [(zo14irriiiiiirriirrrrlriiii m0 th aS aI im ac sp en wg op aB aT se9_38 dn9_39 aG aO aN aD (lN (bcU cz mi sn ee j_6 j_30 j_14 (fmN (bcU cz mi sn ee j_6 j_30 j_14) (8 ^ j_30)))) aY rn kd nu tv), (zaI aS cS 901 fS), (zaI aB cB 6 fB9_36), (zaI aT cT 64 fT9_37), (zaL aO cO 36 fO9_41), (zaL aN cN 36 fN9_42), (zaI aD cD 36 fD9_40)]) [0, 1, 2, 3, 4, 5, 6] rfl
            have hD9 := hD.sub (ws' := [(zo14irriiiiiirriirrrrlriiii m0 th aS aI im ac sp en wg op aB aT se9_38 dn9_39 aG aO aN aD (lN (bcU cz mi sn ee j_6 j_30 j_14 (fmN (bcU cz mi sn ee j_6 j_30 j_14) (8 ^ j_30)))) aY rn kd nu tv), (zaI aS cS 901 fS), (zaI aB cB 6 fB9_36), (zaI aT cT 64 fT9_37), (zaL aO cO 36 fO9_41), (zaL aN cN 36 fN9_42), (zaI aD cD 36 fD9_40)]) [0, 1, 2, 3, 4, 5, 6] (by decide) rfl
            have hK9 := hK.sub (tys' := [(cS, .int), (cB, .int), (cT, .boolean), (cO, .long), (cN, .long), (cD, .int)]) [0, 1, 2, 3, 4, 5] rfl
            exact W.iret (v := nI (wyR (fmN (bcU cz mi sn ee j_6 j_30 j_14) (8 ^ j_30)) j_30 j_22)) hx hb hr (fun tQ htQ hWQ => ⟨⟨(nI (wyR (fmN (bcU cz mi sn ee j_6 j_30 j_14) (8 ^ j_30)) j_30 j_22)), (fB9_36, fT9_37, se9_38, dn9_39, fD9_40, fO9_41, fN9_42, (lN (bcU cz mi sn ee j_6 j_30 j_14 (fmN (bcU cz mi sn ee j_6 j_30 j_14) (8 ^ j_30))))), rfl, bt_y (by omega) (by omega) (by omega) (by omega) (by omega), by rw [htQ]; exact hP9, va_K.moved hWQ.alike hK9, hD9⟩, hS.F htQ⟩) hS.2.2 dX12_best_61
          · skip
            have c_33 : ¬ j_22 < j_30 := fun q => c_33 ((nI_ltI (a := j_22) (b := j_30) (by omega) (by omega)).mpr q)
            refine lv_iconst (v := (-1)) hx hb dX12_best_44 (by decide) ?_
            refine lv_goto (tgt := 61) hx hb dX12_best_45 (by decide) ?_
            rw [hQ]
            have hP9 := hP.sub (ws' := [(zo14irriiiiiirriirrrrlriiii m0 th aS aI im ac sp en wg op aB aT se dn aG aO aN aD bv aY rn kd nu tv), (zaI aS cS 901 fS), (zaI aB cB 6 fB), (zaI aT cT 64 fT), (zaL aO cO 36 fO), (zaL aN cN 36 fN), (zaI aD cD 36 fD)]) [0, 1, 2, 3, 4, 5, 6] rfl
            have hD9 := hD.sub (ws' := [(zo14irriiiiiirriirrrrlriiii m0 th aS aI im ac sp en wg op aB aT se dn aG aO aN aD bv aY rn kd nu tv), (zaI aS cS 901 fS), (zaI aB cB 6 fB), (zaI aT cT 64 fT), (zaL aO cO 36 fO), (zaL aN cN 36 fN), (zaI aD cD 36 fD)]) [0, 1, 2, 3, 4, 5, 6] (by decide) rfl
            have hK9 := hK.sub (tys' := [(cS, .int), (cB, .int), (cT, .boolean), (cO, .long), (cN, .long), (cD, .int)]) [0, 1, 2, 3, 4, 5] rfl
            exact W.iret (v := (-1)) hx hb hr (fun tQ htQ hWQ => ⟨⟨(-1), (fB, fT, se, dn, fD, fO, fN, bv), rfl, by first | exact bt_1 (by assumption) | exact bt_2 (by assumption) | exact bt_3 (by assumption) | exact bt_k (by omega) (by omega) (by omega) (by omega) (by omega) (by omega), by rw [htQ]; exact hP9, va_K.moved hWQ.alike hK9, hD9⟩, hS.F htQ⟩) hS.2.2 dX12_best_61
        · skip
          refine lv_if_ne (tgt := 38) hx hb dX12_best_32 (by decide) (fun c_46 => absurd c_46 (by decide)) (fun _ => ?_)
          refine lv_bipush (v := (-2)) hx hb dX12_best_35 (by decide) ?_
          rw [hQ]
          have hP9 := hP.sub (ws' := [(zo14irriiiiiirriirrrrlriiii m0 th aS aI im ac sp en wg op aB aT se dn aG aO aN aD bv aY rn kd nu tv), (zaI aS cS 901 fS), (zaI aB cB 6 fB), (zaI aT cT 64 fT), (zaL aO cO 36 fO), (zaL aN cN 36 fN), (zaI aD cD 36 fD)]) [0, 1, 2, 3, 4, 5, 6] rfl
          have hD9 := hD.sub (ws' := [(zo14irriiiiiirriirrrrlriiii m0 th aS aI im ac sp en wg op aB aT se dn aG aO aN aD bv aY rn kd nu tv), (zaI aS cS 901 fS), (zaI aB cB 6 fB), (zaI aT cT 64 fT), (zaL aO cO 36 fO), (zaL aN cN 36 fN), (zaI aD cD 36 fD)]) [0, 1, 2, 3, 4, 5, 6] (by decide) rfl
          have hK9 := hK.sub (tys' := [(cS, .int), (cB, .int), (cT, .boolean), (cO, .long), (cN, .long), (cD, .int)]) [0, 1, 2, 3, 4, 5] rfl
          exact W.iret (v := (-2)) hx hb hr (fun tQ htQ hWQ => ⟨⟨(-2), (fB, fT, se, dn, fD, fO, fN, bv), rfl, bt_b (by omega) (by omega) (by omega) (by assumption), by rw [htQ]; exact hP9, va_K.moved hWQ.alike hK9, hD9⟩, hS.F htQ⟩) hS.2.2 dX12_best_37
      · skip
        refine lv_if_ne (tgt := 26) hx hb dX12_best_21 (by decide) (fun c_47 => absurd c_47 (by decide)) (fun _ => ?_)
        refine lv_iconst (v := (-1)) hx hb dX12_best_24 (by decide) ?_
        rw [hQ]
        have hP9 := hP.sub (ws' := [(zo14irriiiiiirriirrrrlriiii m0 th aS aI im ac sp en wg op aB aT se dn aG aO aN aD bv aY rn kd nu tv), (zaI aS cS 901 fS), (zaI aB cB 6 fB), (zaI aT cT 64 fT), (zaL aO cO 36 fO), (zaL aN cN 36 fN), (zaI aD cD 36 fD)]) [0, 1, 2, 3, 4, 5, 6] rfl
        have hD9 := hD.sub (ws' := [(zo14irriiiiiirriirrrrlriiii m0 th aS aI im ac sp en wg op aB aT se dn aG aO aN aD bv aY rn kd nu tv), (zaI aS cS 901 fS), (zaI aB cB 6 fB), (zaI aT cT 64 fT), (zaL aO cO 36 fO), (zaL aN cN 36 fN), (zaI aD cD 36 fD)]) [0, 1, 2, 3, 4, 5, 6] (by decide) rfl
        have hK9 := hK.sub (tys' := [(cS, .int), (cB, .int), (cT, .boolean), (cO, .long), (cN, .long), (cD, .int)]) [0, 1, 2, 3, 4, 5] rfl
        exact W.iret (v := (-1)) hx hb hr (fun tQ htQ hWQ => ⟨⟨(-1), (fB, fT, se, dn, fD, fO, fN, bv), rfl, by first | exact bt_1 (by assumption) | exact bt_2 (by assumption) | exact bt_3 (by assumption) | exact bt_k (by omega) (by omega) (by omega) (by omega) (by omega) (by omega), by rw [htQ]; exact hP9, va_K.moved hWQ.alike hK9, hD9⟩, hS.F htQ⟩) hS.2.2 dX12_best_25
    · skip
      refine lv_if_eq (tgt := 24) hx hb dX12_best_11 (by decide) (fun _ => ?_) (fun c_48 => absurd c_48 (by decide))
      refine lv_iconst (v := (-1)) hx hb dX12_best_24 (by decide) ?_
      rw [hQ]
      have hP9 := hP.sub (ws' := [(zo14irriiiiiirriirrrrlriiii m0 th aS aI im ac sp en wg op aB aT se dn aG aO aN aD bv aY rn kd nu tv), (zaI aS cS 901 fS), (zaI aB cB 6 fB), (zaI aT cT 64 fT), (zaL aO cO 36 fO), (zaL aN cN 36 fN), (zaI aD cD 36 fD)]) [0, 1, 2, 3, 4, 5, 6] rfl
      have hD9 := hD.sub (ws' := [(zo14irriiiiiirriirrrrlriiii m0 th aS aI im ac sp en wg op aB aT se dn aG aO aN aD bv aY rn kd nu tv), (zaI aS cS 901 fS), (zaI aB cB 6 fB), (zaI aT cT 64 fT), (zaL aO cO 36 fO), (zaL aN cN 36 fN), (zaI aD cD 36 fD)]) [0, 1, 2, 3, 4, 5, 6] (by decide) rfl
      have hK9 := hK.sub (tys' := [(cS, .int), (cB, .int), (cT, .boolean), (cO, .long), (cN, .long), (cD, .int)]) [0, 1, 2, 3, 4, 5] rfl
      exact W.iret (v := (-1)) hx hb hr (fun tQ htQ hWQ => ⟨⟨(-1), (fB, fT, se, dn, fD, fO, fN, bv), rfl, by first | exact bt_1 (by assumption) | exact bt_2 (by assumption) | exact bt_3 (by assumption) | exact bt_k (by omega) (by omega) (by omega) (by omega) (by omega) (by omega), by rw [htQ]; exact hP9, va_K.moved hWQ.alike hK9, hD9⟩, hS.F htQ⟩) hS.2.2 dX12_best_25
  · skip
    refine lv_if_eq (tgt := 24) hx hb dX12_best_4 (by decide) (fun _ => ?_) (fun c_49 => absurd c_49 (by decide))
    refine lv_iconst (v := (-1)) hx hb dX12_best_24 (by decide) ?_
    rw [hQ]
    have hP9 := hP.sub (ws' := [(zo14irriiiiiirriirrrrlriiii m0 th aS aI im ac sp en wg op aB aT se dn aG aO aN aD bv aY rn kd nu tv), (zaI aS cS 901 fS), (zaI aB cB 6 fB), (zaI aT cT 64 fT), (zaL aO cO 36 fO), (zaL aN cN 36 fN), (zaI aD cD 36 fD)]) [0, 1, 2, 3, 4, 5, 6] rfl
    have hD9 := hD.sub (ws' := [(zo14irriiiiiirriirrrrlriiii m0 th aS aI im ac sp en wg op aB aT se dn aG aO aN aD bv aY rn kd nu tv), (zaI aS cS 901 fS), (zaI aB cB 6 fB), (zaI aT cT 64 fT), (zaL aO cO 36 fO), (zaL aN cN 36 fN), (zaI aD cD 36 fD)]) [0, 1, 2, 3, 4, 5, 6] (by decide) rfl
    have hK9 := hK.sub (tys' := [(cS, .int), (cB, .int), (cT, .boolean), (cO, .long), (cN, .long), (cD, .int)]) [0, 1, 2, 3, 4, 5] rfl
    exact W.iret (v := (-1)) hx hb hr (fun tQ htQ hWQ => ⟨⟨(-1), (fB, fT, se, dn, fD, fO, fN, bv), rfl, by first | exact bt_1 (by assumption) | exact bt_2 (by assumption) | exact bt_3 (by assumption) | exact bt_k (by omega) (by omega) (by omega) (by omega) (by omega) (by omega), by rw [htQ]; exact hP9, va_K.moved hWQ.alike hK9, hD9⟩, hS.F htQ⟩) hS.2.2 dX12_best_25

theorem kc_mBestOdds_0 : ∀ w ∈ wsX120, w ∈ wsX12_bestOdds := fun w h => List.mem_cons_of_mem _ (gin_wsX120 w h)
theorem kc_mBestOdds_1 : (.fieldLink RX12 236 "MistHeapsModel" "bestOften" "J" : Cond) ∈ wsX12_bestOdds := kc_of 1157 rfl rfl rfl
theorem kc_mBestOdds_2 : (.constantLong RX12 181 (-9223372036854775808) : Cond) ∈ wsX12_bestOdds := kc_of 1351 rfl rfl rfl
set_option maxHeartbeats 4000000 in
set_option maxRecDepth 100000 in
theorem c_mBestOdds (l : Launch) (dC : Nat → ClassId) (dI : Nat → Nat → Nat) (m0 aS aI aB aT aG aO aN aD aY : Nat) (th im ac sp en wg op se dn rn kd nu tv : Int32) (bv : Int64) (cS cB cT cO cN cD : ClassId) (fS : Nat → Int32) (fB : Nat → Int32) (fT : Nat → Int32) (fO : Nat → Int64) (fN : Nat → Int64) (fD : Nat → Int32) (ee : Nat) (mi sn : Int32) (x y z uu : Int32) (cz : List pCla) (sz : Nat) (zh : hol fS cz) (zmi : fS 6 = mi) (zsn : fS 7 = sn) (zee : ∀ k, k < 36 → fS (37 + k) = nI (ee / 2 ^ k % 2)) : Met l yX12_bestOdds wsX12_bestOdds ({ frames := 6, cells := 0, slots := 0, locals := 142 } : Room) (va_Pc [.ref m0, .int x, .int y, .int z, .int uu] (fun U => U.heap.size = sz ∧ va_P (dC, dI) vwCl [(zo14irriiiiiirriirrrrlriiii m0 th aS aI im ac sp en wg op aB aT se dn aG aO aN aD bv aY rn kd nu tv), (zaI aS cS 901 fS), (zaI aB cB 6 fB), (zaI aT cT 64 fT), (zaL aO cO 36 fO), (zaL aN cN 36 fN), (zaI aD cD 36 fD)] U.heap ∧ va_K (dC, dI) vwCl [(cS, .int), (cB, .int), (cT, .boolean), (cO, .long), (cN, .long), (cD, .int)] U ∧ va_D (fun _ => True) [(zo14irriiiiiirriirrrrlriiii m0 th aS aI im ac sp en wg op aB aT se dn aG aO aN aD bv aY rn kd nu tv), (zaI aS cS 901 fS), (zaI aB cB 6 fB), (zaI aT cT 64 fT), (zaL aO cO 36 fO), (zaL aN cN 36 fN), (zaI aD cD 36 fD)])) (va_Ql (fun (r : Int64) (u : (Nat → Int32) × (Nat → Int32) × (Int32) × (Int32) × (Nat → Int32) × (Nat → Int64) × (Nat → Int64) × (Int64)) => match u with | (fB9, fT9, se9, dn9, fD9, fO9, fN9, bv9) => r = boR cz mi sn ee x y z uu) (fun (u : (Nat → Int32) × (Nat → Int32) × (Int32) × (Int32) × (Nat → Int32) × (Nat → Int64) × (Nat → Int64) × (Int64)) (t : State) => match u with | (fB9, fT9, se9, dn9, fD9, fO9, fN9, bv9) => va_P (dC, dI) vwCl [(zo14irriiiiiirriirrrrlriiii m0 th aS aI im ac sp en wg op aB aT se9 dn9 aG aO aN aD bv9 aY rn kd nu tv), (zaI aS cS 901 fS), (zaI aB cB 6 fB9), (zaI aT cT 64 fT9), (zaL aO cO 36 fO9), (zaL aN cN 36 fN9), (zaI aD cD 36 fD9)] t.heap ∧ va_K (dC, dI) vwCl [(cS, .int), (cB, .int), (cT, .boolean), (cO, .long), (cN, .long), (cD, .int)] t ∧ va_D (va_A [(zo14irriiiiiirriirrrrlriiii m0 th aS aI im ac sp en wg op aB aT se dn aG aO aN aD bv aY rn kd nu tv), (zaI aS cS 901 fS), (zaI aB cB 6 fB), (zaI aT cT 64 fT), (zaL aO cO 36 fO), (zaL aN cN 36 fN), (zaI aD cD 36 fD)] sz) [(zo14irriiiiiirriirrrrlriiii m0 th aS aI im ac sp en wg op aB aT se9 dn9 aG aO aN aD bv9 aY rn kd nu tv), (zaI aS cS 901 fS), (zaI aB cB 6 fB9), (zaI aT cT 64 fT9), (zaL aO cO 36 fO9), (zaL aN cN 36 fN9), (zaI aD cD 36 fD9)]) (va_A [(zo14irriiiiiirriirrrrlriiii m0 th aS aI im ac sp en wg op aB aT se dn aG aO aN aD bv aY rn kd nu tv), (zaI aS cS 901 fS), (zaI aB cB 6 fB), (zaI aT cT 64 fT), (zaL aO cO 36 fO), (zaL aN cN 36 fN), (zaI aD cD 36 fD)] sz)) 0 0 (va_A [(zo14irriiiiiirriirrrrlriiii m0 th aS aI im ac sp en wg op aB aT se dn aG aO aN aD bv aY rn kd nu tv), (zaI aS cS 901 fS), (zaI aB cB 6 fB), (zaI aT cT 64 fT), (zaL aO cO 36 fO), (zaL aN cN 36 fN), (zaI aD cD 36 fD)] sz) := by
  refine met_ofQ (cc := cX12_bestOdds) (maxL := 6) (ret := (some .long)) (by decide) rfl ?_
  intro p e s m args below meth c s₁ Q B hml hv hQ
  obtain ⟨rfl, hsz, hP, hK, hD0⟩ := hv
  have hx := B.exec
  have hb := B.bytes
  have hr := B.returns
  have hts := atoms_spec (ws := wsX12_bestOdds) B.pre
  have hown : s.vm.findClass RX12 = some m.cls := findClass_of_methodNamed B.named
  have hlocks := B.notSynchronized
  subst hsz
  have hD := hD0.self (sz := s.heap.size)
  generalize hAe : va_A [(zo14irriiiiiirriirrrrlriiii m0 th aS aI im ac sp en wg op aB aT se dn aG aO aN aD bv aY rn kd nu tv), (zaI aS cS 901 fS), (zaI aB cB 6 fB), (zaI aT cT 64 fT), (zaL aO cO 36 fO), (zaL aN cN 36 fN), (zaI aD cD 36 fD)] s.heap.size = A at hD hQ ⊢
  have hA : ∀ q : Nat, s.heap.size ≤ q → A q := fun q h => by rw [← hAe]; exact Or.inr h
  have hS : va_S A s.heap s.heap [] := va_S.rf
  have hl := lv_entry [.ref m0, .int x, .int y, .int z, .int uu] (n := 6) (Nat.le_of_ble_eq_true rfl)
  rw [lg_entry_eq]
  generalize (lg_sl [.ref m0, .int x, .int y, .int z, .int uu] ++ List.replicate (6 - (lg_sl [.ref m0, .int x, .int y, .int z, .int uu]).length) Slot.unset).toArray = ls at hl ⊢
  generalize hag : ([.ref m0, .int x, .int y, .int z, .int uu] : List Value).toArray = args at hts hQ ⊢
  have hl : lv_has ls 6 [(0, .ref m0), (1, .int x), (2, .int y), (3, .int z), (4, .int uu)] := hl
  obtain ⟨H, hH⟩ : ∃ H : Heap, H = s.heap := ⟨_, rfl⟩
  rw [← hH] at hP
  rw [← hH]
  have hS : va_S A s.heap H [] := by rw [hH]; exact hS
  obtain ⟨locs, hlo⟩ : ∃ L : List Loc, L = [] := ⟨_, rfl⟩
  rw [← hlo] at hS
  rw [← hlo]
  clear hH hlo
  refine lv_iload_n hx hb dX12_bestOdds_0 rfl (lv_at hl 1 rfl) ?_
  refine vp_callSi (va_runS (As := [.int x]) (rest := []) ⟨hx, hb, hml, hown, hts⟩ (c_mCell l dC dI x) (va_cwS 1 hts gX12_bestOdds_X12_isCell rfl rfl rfl hd_yX12_isCell.2 ⟨Nat.le_of_ble_eq_true rfl, Nat.le_of_ble_eq_true rfl⟩) ⟨fun a U g mk q => ⟨q.1, trivial⟩, fun U hU hW => ⟨rfl, trivial⟩⟩ rfl rfl hl.1 rfl (lv_room (Nat.le_of_ble_eq_true rfl)) dX12_bestOdds_1 ⟨Nat.le_of_ble_eq_true rfl, Nat.le_of_ble_eq_true rfl⟩).run (fun r_1 hw_2 => ?_)
  rcases hw_2 with ⟨rfl, h_3, h_4⟩ | ⟨rfl, h_5⟩
  · skip
    obtain ⟨j_6, hj_7, rfl⟩ := nI_of2 (n := 35) (M := 35) rfl h_3 (Int32.not_lt.mp h_4)
    refine lv_if_eq (tgt := 33) hx hb dX12_bestOdds_4 (by decide) (fun c_8 => absurd c_8 (by decide)) (fun _ => ?_)
    refine lv_iload_n hx hb dX12_bestOdds_7 rfl (lv_at hl 2 rfl) ?_
    refine vp_callSi (va_runS (As := [.int y]) (rest := []) ⟨hx, hb, hml, hown, hts⟩ (c_mCell l dC dI y) (va_cwS 1 hts gX12_bestOdds_X12_isCell rfl rfl rfl hd_yX12_isCell.2 ⟨Nat.le_of_ble_eq_true rfl, Nat.le_of_ble_eq_true rfl⟩) ⟨fun a U g mk q => ⟨q.1, trivial⟩, fun U hU hW => ⟨rfl, trivial⟩⟩ rfl rfl hl.1 rfl (lv_room (Nat.le_of_ble_eq_true rfl)) dX12_bestOdds_8 ⟨Nat.le_of_ble_eq_true rfl, Nat.le_of_ble_eq_true rfl⟩).run (fun r_9 hw_10 => ?_)
    rcases hw_10 with ⟨rfl, h_11, h_12⟩ | ⟨rfl, h_13⟩
    · skip
      obtain ⟨j_14, hj_15, rfl⟩ := nI_of2 (n := 35) (M := 35) rfl h_11 (Int32.not_lt.mp h_12)
      refine lv_if_eq (tgt := 33) hx hb dX12_bestOdds_11 (by decide) (fun c_16 => absurd c_16 (by decide)) (fun _ => ?_)
      refine lv_iload_n hx hb dX12_bestOdds_14 rfl (lv_at hl 3 rfl) ?_
      refine lv_iconst (v := 1) hx hb dX12_bestOdds_15 (by decide) ?_
      refine lv_iconst (v := 3) hx hb dX12_bestOdds_16 (by decide) ?_
      refine vp_callSi (va_runS (As := [.int z, .int 1, .int 3]) (rest := []) ⟨hx, hb, hml, hown, hts⟩ (c_in l dC dI z 1 3) (va_cwS 3 hts gX12_bestOdds_X12_in rfl rfl rfl hd_yX12_in.2 ⟨Nat.le_of_ble_eq_true rfl, Nat.le_of_ble_eq_true rfl⟩) ⟨fun a U g mk q => ⟨q.1, trivial⟩, fun U hU hW => ⟨rfl, trivial⟩⟩ rfl rfl hl.1 rfl (lv_room (Nat.le_of_ble_eq_true rfl)) dX12_bestOdds_17 ⟨Nat.le_of_ble_eq_true rfl, Nat.le_of_ble_eq_true rfl⟩).run (fun r_17 hw_18 => ?_)
      rcases hw_18 with ⟨rfl, h_19, h_20⟩ | ⟨rfl, h_21⟩
      · skip
        obtain ⟨j_22, hj_23, rfl⟩ := nI_of2 (n := 3) (M := 3) rfl (fun q0 => h_19 (Int32.lt_trans q0 (by decide))) (Int32.not_lt.mp h_20)
        have h1j_22 : 1 ≤ j_22 := Nat.lt_of_not_le (fun q0 => h_19 ((nI_ltI (a := j_22) (b := 1) (by omega) (by omega)).mpr (by omega)))
        refine lv_if_eq (tgt := 33) hx hb dX12_bestOdds_20 (by decide) (fun c_24 => absurd c_24 (by decide)) (fun _ => ?_)
        refine lv_iload hx hb dX12_bestOdds_23 (lv_at hl 4 rfl) ?_
        refine lv_iconst (v := 0) hx hb dX12_bestOdds_25 (by decide) ?_
        refine lv_iconst (v := 1) hx hb dX12_bestOdds_26 (by decide) ?_
        refine vp_callSi (va_runS (As := [.int uu, .int 0, .int 1]) (rest := []) ⟨hx, hb, hml, hown, hts⟩ (c_in l dC dI uu 0 1) (va_cwS 3 hts gX12_bestOdds_X12_in rfl rfl rfl hd_yX12_in.2 ⟨Nat.le_of_ble_eq_true rfl, Nat.le_of_ble_eq_true rfl⟩) ⟨fun a U g mk q => ⟨q.1, trivial⟩, fun U hU hW => ⟨rfl, trivial⟩⟩ rfl rfl hl.1 rfl (lv_room (Nat.le_of_ble_eq_true rfl)) dX12_bestOdds_27 ⟨Nat.le_of_ble_eq_true rfl, Nat.le_of_ble_eq_true rfl⟩).run (fun r_25 hw_26 => ?_)
        rcases hw_26 with ⟨rfl, h_27, h_28⟩ | ⟨rfl, h_29⟩
        · skip
          refine lv_if_ne (tgt := 37) hx hb dX12_bestOdds_30 (by decide) (fun _ => ?_) (fun c_30 => absurd c_30 (by decide))
          refine lv_aload_n hx hb dX12_bestOdds_37 rfl (lv_at hl 0 rfl) ?_
          refine lv_iload_n hx hb dX12_bestOdds_38 rfl (lv_at hl 1 rfl) ?_
          refine lv_iload_n hx hb dX12_bestOdds_39 rfl (lv_at hl 2 rfl) ?_
          refine lv_iload_n hx hb dX12_bestOdds_40 rfl (lv_at hl 3 rfl) ?_
          have hPc := hP.sub (ws' := [(zo14irriiiiiirriirrrrlriiii m0 th aS aI im ac sp en wg op aB aT se dn aG aO aN aD bv aY rn kd nu tv), (zaI aS cS 901 fS), (zaI aB cB 6 fB), (zaI aT cT 64 fT), (zaL aO cO 36 fO), (zaL aN cN 36 fN), (zaI aD cD 36 fD)]) [0, 1, 2, 3, 4, 5, 6] rfl
          have hDc := hD.sub (ws' := [(zo14irriiiiiirriirrrrlriiii m0 th aS aI im ac sp en wg op aB aT se dn aG aO aN aD bv aY rn kd nu tv), (zaI aS cS 901 fS), (zaI aB cB 6 fB), (zaI aT cT 64 fT), (zaL aO cO 36 fO), (zaL aN cN 36 fN), (zaI aD cD 36 fD)]) [0, 1, 2, 3, 4, 5, 6] (by decide) rfl
          have hKc := hK.sub (tys' := [(cS, .int), (cB, .int), (cT, .boolean), (cO, .long), (cN, .long), (cD, .int)]) [0, 1, 2, 3, 4, 5] rfl
          have hFc := va_free (wc := [(zo14irriiiiiirriirrrrlriiii m0 th aS aI im ac sp en wg op aB aT se dn aG aO aN aD bv aY rn kd nu tv), (zaI aS cS 901 fS), (zaI aB cB 6 fB), (zaI aT cT 64 fT), (zaL aO cO 36 fO), (zaL aN cN 36 fN), (zaI aD cD 36 fD)]) hD hS hA [0, 1, 2, 3, 4, 5, 6] rfl
          refine va_calli (va_runV (As := [.int (nI j_6), .int (nI j_14), .int (nI j_22)]) (rest := []) ⟨hx, hb, hml, hown, hts⟩ (c_bestRowC l dC dI m0 aS aI aB aT aG aO aN aD aY th im ac sp en wg op se dn rn kd nu tv bv cS cB cT cO cN cD fS fB fT fO fN fD j_14 j_6 j_22 ee mi sn cz H.size (by omega) (zh) (zmi) (zsn) (by omega) (by omega) (by omega) (zee)) (cwV 3 hts gX12_bestOdds_X12_bestRow rfl rfl rfl hd_yX12_bestRow ⟨Nat.le_of_ble_eq_true rfl, Nat.le_of_ble_eq_true rfl⟩) ⟨fun a U g mk q => by obtain ⟨q0, q1, qP, qK, qD⟩ := q; exact ⟨q0, mvz g mk a q1, mvP g mk a qP, mvK g mk a qK, qD⟩, va_recv hK hP (ci := 14) (q := (RX12, TX12, 23)) (q0 := 0) rfl rfl, fun U hU hW => ⟨rfl, by rw [hU], by rw [hU]; exact hPc, va_K.moved hW.alike hKc, hDc.weaken (fun _ _ _ _ => trivial)⟩⟩ rfl rfl hl.1 rfl (lv_room (Nat.le_of_ble_eq_true rfl)) dX12_bestOdds_41 ⟨Nat.le_of_ble_eq_true rfl, Nat.le_of_ble_eq_true rfl⟩) hS (fun q _ h => hFc q h) hFc (fun r_31 u tC H1 locs htC hvm hw_32 hB hz1 hk1 hS => ?_)
          obtain ⟨fB9_33, fT9_34, se9_35, dn9_36, fD9_37, fO9_38, fN9_39, bv9_40⟩ := u
          try dsimp only at hw_32 hB
          obtain ⟨hP1, hK1, hD1⟩ := hB
          rw [htC] at hP1
          have hK1 := va_K.moved hvm.symm hK1
          obtain ⟨hP, hD⟩ := va_join (wr := []) (w1 := [(zo14irriiiiiirriirrrrlriiii m0 th aS aI im ac sp en wg op aB aT se9_35 dn9_36 aG aO aN aD bv9_40 aY rn kd nu tv), (zaI aS cS 901 fS), (zaI aB cB 6 fB9_33), (zaI aT cT 64 fT9_34), (zaL aO cO 36 fO9_38), (zaL aN cN 36 fN9_39), (zaI aD cD 36 fD9_37)]) hP hD [0, 1, 2, 3, 4, 5, 6] [] rfl rfl (by decide) (by decide) hk1 hFc hP1 hD1
          have hK := (hK.sub (tys' := []) [] rfl).app hK1
          generalize H1 = H at hP hS ⊢
          have hP : va_P (dC, dI) vwCl [(zo14irriiiiiirriirrrrlriiii m0 th aS aI im ac sp en wg op aB aT se9_35 dn9_36 aG aO aN aD bv9_40 aY rn kd nu tv), (zaI aS cS 901 fS), (zaI aB cB 6 fB9_33), (zaI aT cT 64 fT9_34), (zaL aO cO 36 fO9_38), (zaL aN cN 36 fN9_39), (zaI aD cD 36 fD9_37)] H := hP
          have hD : va_D A [(zo14irriiiiiirriirrrrlriiii m0 th aS aI im ac sp en wg op aB aT se9_35 dn9_36 aG aO aN aD bv9_40 aY rn kd nu tv), (zaI aS cS 901 fS), (zaI aB cB 6 fB9_33), (zaI aT cT 64 fT9_34), (zaL aO cO 36 fO9_38), (zaL aN cN 36 fN9_39), (zaI aD cD 36 fD9_37)] := hD
          have hK : va_K (dC, dI) vwCl [(cS, .int), (cB, .int), (cT, .boolean), (cO, .long), (cN, .long), (cD, .int)] s := hK
          obtain ⟨rfl, hb9⟩ := hw_32
          have hf9 := fm_lt (U := bcU cz mi sn ee j_6 j_22 j_14) (8 ^ j_22) (ps_8 (by omega) (by omega)).2
          have h89 := (ps_8 (k := j_22) (by omega) (by omega)).1
          subst hb9
          refine lv_istore (lv' := [(5, .int (nI (fmN (bcU cz mi sn ee j_6 j_22 j_14) (8 ^ j_22)))), (0, .ref m0), (1, .int (nI j_6)), (2, .int (nI j_14)), (3, .int (nI j_22)), (4, .int uu)]) hx hb dX12_bestOdds_44 hl (by decide) rfl (fun ls hl => ?_)
          refine lv_iload hx hb dX12_bestOdds_46 (lv_at hl 0 rfl) ?_
          refine lv_iconst (v := (-1)) hx hb dX12_bestOdds_48 (by decide) ?_
          refine lv_icmp_ne (tgt := 58) hx hb dX12_bestOdds_49 (by decide) (fun c_41 => ?_) (fun c_41 => absurd c_41 (nI_nm1 (by omega)))
          have hB9 := bc_b (C := cz) (mi := mi) (sn := sn) (ee := ee) (show j_6 < 36 by omega) (fun c _ => (dr_ok (hol_w3 zh).1 (hol_w3 zh).2 c).2) (show j_22 ≤ 3 by omega) (show j_14 < 36 by omega) (fmN (bcU cz mi sn ee j_6 j_22 j_14) (8 ^ j_22))
          refine lv_aload_n hx hb dX12_bestOdds_58 rfl (lv_at hl 1 rfl) ?_
          refine va_get (D := (dC, dI)) (ci := 14) (v := .long (lN (bcU cz mi sn ee j_6 j_22 j_14 (fmN (bcU cz mi sn ee j_6 j_22 j_14) (8 ^ j_22))))) (C := RX12) (T := TX12) (N := 23) hx hb hts kc_mBestOdds_0 hown hK hP 0 rfl rfl 17 (by decide) (hts (.fieldLink RX12 236 "MistHeapsModel" "bestOften" "J") kc_mBestOdds_1) (fun _ h9 => h9) rfl dX12_bestOdds_59 ?_
          refine lv_iload_n hx hb dX12_bestOdds_62 rfl (lv_at hl 4 rfl) ?_
          refine vp_callSl (va_runS (As := [.int (nI j_22)]) (rest := [.long (lN (bcU cz mi sn ee j_6 j_22 j_14 (fmN (bcU cz mi sn ee j_6 j_22 j_14) (8 ^ j_22))))]) ⟨hx, hb, hml, hown, hts⟩ (c_twenties l dC dI j_22 (by omega)) (va_cwS 1 hts gX12_bestOdds_X12_twenties rfl rfl rfl hd_yX12_twenties.2 ⟨Nat.le_of_ble_eq_true rfl, Nat.le_of_ble_eq_true rfl⟩) ⟨fun a U g mk q => ⟨q.1, trivial⟩, fun U hU hW => ⟨rfl, trivial⟩⟩ rfl rfl hl.1 rfl (lv_room (Nat.le_of_ble_eq_true rfl)) dX12_bestOdds_63 ⟨Nat.le_of_ble_eq_true rfl, Nat.le_of_ble_eq_true rfl⟩).run (fun r_42 hw_43 => ?_)
          obtain rfl := hw_43
          refine lv_iload hx hb dX12_bestOdds_66 (lv_at hl 5 rfl) ?_
          refine vp_callSl (va_runS (As := [.long (lN (bcU cz mi sn ee j_6 j_22 j_14 (fmN (bcU cz mi sn ee j_6 j_22 j_14) (8 ^ j_22)))), .long (lN (20 ^ j_22)), .int uu]) (rest := []) ⟨hx, hb, hml, hown, hts⟩ (c_lowest l dC dI (bcU cz mi sn ee j_6 j_22 j_14 (fmN (bcU cz mi sn ee j_6 j_22 j_14) (8 ^ j_22))) (20 ^ j_22) uu (Nat.pow_pos (by decide)) (Nat.lt_of_le_of_lt (hB9) (by decide)) (Nat.lt_of_le_of_lt (tw_p j_22 (by omega)) (by decide))) (va_cwS 3 hts gX12_bestOdds_X12_lowest rfl rfl rfl hd_yX12_lowest.2 ⟨Nat.le_of_ble_eq_true rfl, Nat.le_of_ble_eq_true rfl⟩) ⟨fun a U g mk q => ⟨q.1, trivial⟩, fun U hU hW => ⟨rfl, trivial⟩⟩ rfl rfl hl.1 rfl (lv_room (Nat.le_of_ble_eq_true rfl)) dX12_bestOdds_68 ⟨Nat.le_of_ble_eq_true rfl, Nat.le_of_ble_eq_true rfl⟩).run (fun r_44 hw_45 => ?_)
          obtain rfl := hw_45
          rw [hQ]
          have hP9 := hP.sub (ws' := [(zo14irriiiiiirriirrrrlriiii m0 th aS aI im ac sp en wg op aB aT se9_35 dn9_36 aG aO aN aD (lN (bcU cz mi sn ee j_6 j_22 j_14 (fmN (bcU cz mi sn ee j_6 j_22 j_14) (8 ^ j_22)))) aY rn kd nu tv), (zaI aS cS 901 fS), (zaI aB cB 6 fB9_33), (zaI aT cT 64 fT9_34), (zaL aO cO 36 fO9_38), (zaL aN cN 36 fN9_39), (zaI aD cD 36 fD9_37)]) [0, 1, 2, 3, 4, 5, 6] rfl
          have hD9 := hD.sub (ws' := [(zo14irriiiiiirriirrrrlriiii m0 th aS aI im ac sp en wg op aB aT se9_35 dn9_36 aG aO aN aD (lN (bcU cz mi sn ee j_6 j_22 j_14 (fmN (bcU cz mi sn ee j_6 j_22 j_14) (8 ^ j_22)))) aY rn kd nu tv), (zaI aS cS 901 fS), (zaI aB cB 6 fB9_33), (zaI aT cT 64 fT9_34), (zaL aO cO 36 fO9_38), (zaL aN cN 36 fN9_39), (zaI aD cD 36 fD9_37)]) [0, 1, 2, 3, 4, 5, 6] (by decide) rfl
          have hK9 := hK.sub (tys' := [(cS, .int), (cB, .int), (cT, .boolean), (cO, .long), (cN, .long), (cD, .int)]) [0, 1, 2, 3, 4, 5] rfl
          exact W.lret (v := ptR (bcU cz mi sn ee j_6 j_22 j_14 (fmN (bcU cz mi sn ee j_6 j_22 j_14) (8 ^ j_22))) (20 ^ j_22) uu) hx hb hr (fun tQ htQ hWQ => ⟨⟨(ptR (bcU cz mi sn ee j_6 j_22 j_14 (fmN (bcU cz mi sn ee j_6 j_22 j_14) (8 ^ j_22))) (20 ^ j_22) uu), (fB9_33, fT9_34, se9_35, dn9_36, fD9_37, fO9_38, fN9_39, (lN (bcU cz mi sn ee j_6 j_22 j_14 (fmN (bcU cz mi sn ee j_6 j_22 j_14) (8 ^ j_22))))), rfl, bq_y (by omega) (by omega) (by omega) (by omega) (by assumption) (by assumption), by rw [htQ]; exact hP9, va_K.moved hWQ.alike hK9, hD9⟩, hS.F htQ⟩) hS.2.2 dX12_bestOdds_71
        · skip
          refine lv_if_ne (tgt := 37) hx hb dX12_bestOdds_30 (by decide) (fun c_46 => absurd c_46 (by decide)) (fun _ => ?_)
          refine lv_ldc2 (v := (-9223372036854775808)) hx hb hown (hts (.constantLong RX12 181 (-9223372036854775808)) kc_mBestOdds_2) dX12_bestOdds_33 ?_
          rw [hQ]
          have hP9 := hP.sub (ws' := [(zo14irriiiiiirriirrrrlriiii m0 th aS aI im ac sp en wg op aB aT se dn aG aO aN aD bv aY rn kd nu tv), (zaI aS cS 901 fS), (zaI aB cB 6 fB), (zaI aT cT 64 fT), (zaL aO cO 36 fO), (zaL aN cN 36 fN), (zaI aD cD 36 fD)]) [0, 1, 2, 3, 4, 5, 6] rfl
          have hD9 := hD.sub (ws' := [(zo14irriiiiiirriirrrrlriiii m0 th aS aI im ac sp en wg op aB aT se dn aG aO aN aD bv aY rn kd nu tv), (zaI aS cS 901 fS), (zaI aB cB 6 fB), (zaI aT cT 64 fT), (zaL aO cO 36 fO), (zaL aN cN 36 fN), (zaI aD cD 36 fD)]) [0, 1, 2, 3, 4, 5, 6] (by decide) rfl
          have hK9 := hK.sub (tys' := [(cS, .int), (cB, .int), (cT, .boolean), (cO, .long), (cN, .long), (cD, .int)]) [0, 1, 2, 3, 4, 5] rfl
          exact W.lret (v := (-9223372036854775808)) hx hb hr (fun tQ htQ hWQ => ⟨⟨(-9223372036854775808), (fB, fT, se, dn, fD, fO, fN, bv), rfl, by first | exact bq_1 (by assumption) | exact bq_2 (by assumption) | exact bq_3 (by assumption) | exact bq_4 (by assumption), by rw [htQ]; exact hP9, va_K.moved hWQ.alike hK9, hD9⟩, hS.F htQ⟩) hS.2.2 dX12_bestOdds_36
      · skip
        refine lv_if_eq (tgt := 33) hx hb dX12_bestOdds_20 (by decide) (fun _ => ?_) (fun c_47 => absurd c_47 (by decide))
        refine lv_ldc2 (v := (-9223372036854775808)) hx hb hown (hts (.constantLong RX12 181 (-9223372036854775808)) kc_mBestOdds_2) dX12_bestOdds_33 ?_
        rw [hQ]
        have hP9 := hP.sub (ws' := [(zo14irriiiiiirriirrrrlriiii m0 th aS aI im ac sp en wg op aB aT se dn aG aO aN aD bv aY rn kd nu tv), (zaI aS cS 901 fS), (zaI aB cB 6 fB), (zaI aT cT 64 fT), (zaL aO cO 36 fO), (zaL aN cN 36 fN), (zaI aD cD 36 fD)]) [0, 1, 2, 3, 4, 5, 6] rfl
        have hD9 := hD.sub (ws' := [(zo14irriiiiiirriirrrrlriiii m0 th aS aI im ac sp en wg op aB aT se dn aG aO aN aD bv aY rn kd nu tv), (zaI aS cS 901 fS), (zaI aB cB 6 fB), (zaI aT cT 64 fT), (zaL aO cO 36 fO), (zaL aN cN 36 fN), (zaI aD cD 36 fD)]) [0, 1, 2, 3, 4, 5, 6] (by decide) rfl
        have hK9 := hK.sub (tys' := [(cS, .int), (cB, .int), (cT, .boolean), (cO, .long), (cN, .long), (cD, .int)]) [0, 1, 2, 3, 4, 5] rfl
        exact W.lret (v := (-9223372036854775808)) hx hb hr (fun tQ htQ hWQ => ⟨⟨(-9223372036854775808), (fB, fT, se, dn, fD, fO, fN, bv), rfl, by first | exact bq_1 (by assumption) | exact bq_2 (by assumption) | exact bq_3 (by assumption) | exact bq_4 (by assumption), by rw [htQ]; exact hP9, va_K.moved hWQ.alike hK9, hD9⟩, hS.F htQ⟩) hS.2.2 dX12_bestOdds_36
    · skip
      refine lv_if_eq (tgt := 33) hx hb dX12_bestOdds_11 (by decide) (fun _ => ?_) (fun c_48 => absurd c_48 (by decide))
      refine lv_ldc2 (v := (-9223372036854775808)) hx hb hown (hts (.constantLong RX12 181 (-9223372036854775808)) kc_mBestOdds_2) dX12_bestOdds_33 ?_
      rw [hQ]
      have hP9 := hP.sub (ws' := [(zo14irriiiiiirriirrrrlriiii m0 th aS aI im ac sp en wg op aB aT se dn aG aO aN aD bv aY rn kd nu tv), (zaI aS cS 901 fS), (zaI aB cB 6 fB), (zaI aT cT 64 fT), (zaL aO cO 36 fO), (zaL aN cN 36 fN), (zaI aD cD 36 fD)]) [0, 1, 2, 3, 4, 5, 6] rfl
      have hD9 := hD.sub (ws' := [(zo14irriiiiiirriirrrrlriiii m0 th aS aI im ac sp en wg op aB aT se dn aG aO aN aD bv aY rn kd nu tv), (zaI aS cS 901 fS), (zaI aB cB 6 fB), (zaI aT cT 64 fT), (zaL aO cO 36 fO), (zaL aN cN 36 fN), (zaI aD cD 36 fD)]) [0, 1, 2, 3, 4, 5, 6] (by decide) rfl
      have hK9 := hK.sub (tys' := [(cS, .int), (cB, .int), (cT, .boolean), (cO, .long), (cN, .long), (cD, .int)]) [0, 1, 2, 3, 4, 5] rfl
      exact W.lret (v := (-9223372036854775808)) hx hb hr (fun tQ htQ hWQ => ⟨⟨(-9223372036854775808), (fB, fT, se, dn, fD, fO, fN, bv), rfl, by first | exact bq_1 (by assumption) | exact bq_2 (by assumption) | exact bq_3 (by assumption) | exact bq_4 (by assumption), by rw [htQ]; exact hP9, va_K.moved hWQ.alike hK9, hD9⟩, hS.F htQ⟩) hS.2.2 dX12_bestOdds_36
  · skip
    refine lv_if_eq (tgt := 33) hx hb dX12_bestOdds_4 (by decide) (fun _ => ?_) (fun c_49 => absurd c_49 (by decide))
    refine lv_ldc2 (v := (-9223372036854775808)) hx hb hown (hts (.constantLong RX12 181 (-9223372036854775808)) kc_mBestOdds_2) dX12_bestOdds_33 ?_
    rw [hQ]
    have hP9 := hP.sub (ws' := [(zo14irriiiiiirriirrrrlriiii m0 th aS aI im ac sp en wg op aB aT se dn aG aO aN aD bv aY rn kd nu tv), (zaI aS cS 901 fS), (zaI aB cB 6 fB), (zaI aT cT 64 fT), (zaL aO cO 36 fO), (zaL aN cN 36 fN), (zaI aD cD 36 fD)]) [0, 1, 2, 3, 4, 5, 6] rfl
    have hD9 := hD.sub (ws' := [(zo14irriiiiiirriirrrrlriiii m0 th aS aI im ac sp en wg op aB aT se dn aG aO aN aD bv aY rn kd nu tv), (zaI aS cS 901 fS), (zaI aB cB 6 fB), (zaI aT cT 64 fT), (zaL aO cO 36 fO), (zaL aN cN 36 fN), (zaI aD cD 36 fD)]) [0, 1, 2, 3, 4, 5, 6] (by decide) rfl
    have hK9 := hK.sub (tys' := [(cS, .int), (cB, .int), (cT, .boolean), (cO, .long), (cN, .long), (cD, .int)]) [0, 1, 2, 3, 4, 5] rfl
    exact W.lret (v := (-9223372036854775808)) hx hb hr (fun tQ htQ hWQ => ⟨⟨(-9223372036854775808), (fB, fT, se, dn, fD, fO, fN, bv), rfl, by first | exact bq_1 (by assumption) | exact bq_2 (by assumption) | exact bq_3 (by assumption) | exact bq_4 (by assumption), by rw [htQ]; exact hP9, va_K.moved hWQ.alike hK9, hD9⟩, hS.F htQ⟩) hS.2.2 dX12_bestOdds_36

set_option maxHeartbeats 4000000 in
set_option maxRecDepth 100000 in
theorem c_mSafe (l : Launch) (dC : Nat → ClassId) (dI : Nat → Nat → Nat) (m0 aS aI aB aT aG aO aN aD aY : Nat) (th im ac sp en wg op se dn rn kd nu tv : Int32) (bv : Int64) (cS cB cT cO cN cD : ClassId) (fS : Nat → Int32) (fB : Nat → Int32) (fT : Nat → Int32) (fO : Nat → Int64) (fN : Nat → Int64) (fD : Nat → Int32) (ee : Nat) (mi sn : Int32) (x y z : Int32) (cz : List pCla) (sz : Nat) (zh : hol fS cz) (zmi : fS 6 = mi) (zsn : fS 7 = sn) (zee : ∀ k, k < 36 → fS (37 + k) = nI (ee / 2 ^ k % 2)) : Met l yX12_safe wsX12_safe ({ frames := 6, cells := 0, slots := 0, locals := 142 } : Room) (va_Pc [.ref m0, .int x, .int y, .int z] (fun U => U.heap.size = sz ∧ va_P (dC, dI) vwCl [(zo14irriiiiiirriirrrrlriiii m0 th aS aI im ac sp en wg op aB aT se dn aG aO aN aD bv aY rn kd nu tv), (zaI aS cS 901 fS), (zaI aB cB 6 fB), (zaI aT cT 64 fT), (zaL aO cO 36 fO), (zaL aN cN 36 fN), (zaI aD cD 36 fD)] U.heap ∧ va_K (dC, dI) vwCl [(cS, .int), (cB, .int), (cT, .boolean), (cO, .long), (cN, .long), (cD, .int)] U ∧ va_D (fun _ => True) [(zo14irriiiiiirriirrrrlriiii m0 th aS aI im ac sp en wg op aB aT se dn aG aO aN aD bv aY rn kd nu tv), (zaI aS cS 901 fS), (zaI aB cB 6 fB), (zaI aT cT 64 fT), (zaL aO cO 36 fO), (zaL aN cN 36 fN), (zaI aD cD 36 fD)])) (va_Qi (fun (r : Int32) (u : (Nat → Int32) × (Nat → Int32) × (Int32) × (Int32) × (Nat → Int32) × (Nat → Int64) × (Nat → Int64) × (Int64)) => match u with | (fB9, fT9, se9, dn9, fD9, fO9, fN9, bv9) => r = saR cz mi sn ee x y z) (fun (u : (Nat → Int32) × (Nat → Int32) × (Int32) × (Int32) × (Nat → Int32) × (Nat → Int64) × (Nat → Int64) × (Int64)) (t : State) => match u with | (fB9, fT9, se9, dn9, fD9, fO9, fN9, bv9) => va_P (dC, dI) vwCl [(zo14irriiiiiirriirrrrlriiii m0 th aS aI im ac sp en wg op aB aT se9 dn9 aG aO aN aD bv9 aY rn kd nu tv), (zaI aS cS 901 fS), (zaI aB cB 6 fB9), (zaI aT cT 64 fT9), (zaL aO cO 36 fO9), (zaL aN cN 36 fN9), (zaI aD cD 36 fD9)] t.heap ∧ va_K (dC, dI) vwCl [(cS, .int), (cB, .int), (cT, .boolean), (cO, .long), (cN, .long), (cD, .int)] t ∧ va_D (va_A [(zo14irriiiiiirriirrrrlriiii m0 th aS aI im ac sp en wg op aB aT se dn aG aO aN aD bv aY rn kd nu tv), (zaI aS cS 901 fS), (zaI aB cB 6 fB), (zaI aT cT 64 fT), (zaL aO cO 36 fO), (zaL aN cN 36 fN), (zaI aD cD 36 fD)] sz) [(zo14irriiiiiirriirrrrlriiii m0 th aS aI im ac sp en wg op aB aT se9 dn9 aG aO aN aD bv9 aY rn kd nu tv), (zaI aS cS 901 fS), (zaI aB cB 6 fB9), (zaI aT cT 64 fT9), (zaL aO cO 36 fO9), (zaL aN cN 36 fN9), (zaI aD cD 36 fD9)]) (va_A [(zo14irriiiiiirriirrrrlriiii m0 th aS aI im ac sp en wg op aB aT se dn aG aO aN aD bv aY rn kd nu tv), (zaI aS cS 901 fS), (zaI aB cB 6 fB), (zaI aT cT 64 fT), (zaL aO cO 36 fO), (zaL aN cN 36 fN), (zaI aD cD 36 fD)] sz)) 0 0 (va_A [(zo14irriiiiiirriirrrrlriiii m0 th aS aI im ac sp en wg op aB aT se dn aG aO aN aD bv aY rn kd nu tv), (zaI aS cS 901 fS), (zaI aB cB 6 fB), (zaI aT cT 64 fT), (zaL aO cO 36 fO), (zaL aN cN 36 fN), (zaI aD cD 36 fD)] sz) := by
  refine met_ofQ (cc := cX12_safe) (maxL := 4) (ret := (some .int)) (by decide) rfl ?_
  intro p e s m args below meth c s₁ Q B hml hv hQ
  obtain ⟨rfl, hsz, hP, hK, hD0⟩ := hv
  have hx := B.exec
  have hb := B.bytes
  have hr := B.returns
  have hts := atoms_spec (ws := wsX12_safe) B.pre
  have hown : s.vm.findClass RX12 = some m.cls := findClass_of_methodNamed B.named
  have hlocks := B.notSynchronized
  subst hsz
  have hD := hD0.self (sz := s.heap.size)
  generalize hAe : va_A [(zo14irriiiiiirriirrrrlriiii m0 th aS aI im ac sp en wg op aB aT se dn aG aO aN aD bv aY rn kd nu tv), (zaI aS cS 901 fS), (zaI aB cB 6 fB), (zaI aT cT 64 fT), (zaL aO cO 36 fO), (zaL aN cN 36 fN), (zaI aD cD 36 fD)] s.heap.size = A at hD hQ ⊢
  have hA : ∀ q : Nat, s.heap.size ≤ q → A q := fun q h => by rw [← hAe]; exact Or.inr h
  have hS : va_S A s.heap s.heap [] := va_S.rf
  have hl := lv_entry [.ref m0, .int x, .int y, .int z] (n := 4) (Nat.le_of_ble_eq_true rfl)
  rw [lg_entry_eq]
  generalize (lg_sl [.ref m0, .int x, .int y, .int z] ++ List.replicate (4 - (lg_sl [.ref m0, .int x, .int y, .int z]).length) Slot.unset).toArray = ls at hl ⊢
  generalize hag : ([.ref m0, .int x, .int y, .int z] : List Value).toArray = args at hts hQ ⊢
  have hl : lv_has ls 4 [(0, .ref m0), (1, .int x), (2, .int y), (3, .int z)] := hl
  obtain ⟨H, hH⟩ : ∃ H : Heap, H = s.heap := ⟨_, rfl⟩
  rw [← hH] at hP
  rw [← hH]
  have hS : va_S A s.heap H [] := by rw [hH]; exact hS
  obtain ⟨locs, hlo⟩ : ∃ L : List Loc, L = [] := ⟨_, rfl⟩
  rw [← hlo] at hS
  rw [← hlo]
  clear hH hlo
  refine lv_iload_n hx hb dX12_safe_0 rfl (lv_at hl 1 rfl) ?_
  refine vp_callSi (va_runS (As := [.int x]) (rest := []) ⟨hx, hb, hml, hown, hts⟩ (c_mCell l dC dI x) (va_cwS 1 hts gX12_safe_X12_isCell rfl rfl rfl hd_yX12_isCell.2 ⟨Nat.le_of_ble_eq_true rfl, Nat.le_of_ble_eq_true rfl⟩) ⟨fun a U g mk q => ⟨q.1, trivial⟩, fun U hU hW => ⟨rfl, trivial⟩⟩ rfl rfl hl.1 rfl (lv_room (Nat.le_of_ble_eq_true rfl)) dX12_safe_1 ⟨Nat.le_of_ble_eq_true rfl, Nat.le_of_ble_eq_true rfl⟩).run (fun r_1 hw_2 => ?_)
  rcases hw_2 with ⟨rfl, h_3, h_4⟩ | ⟨rfl, h_5⟩
  · skip
    obtain ⟨j_6, hj_7, rfl⟩ := nI_of2 (n := 35) (M := 35) rfl h_3 (Int32.not_lt.mp h_4)
    refine lv_if_eq (tgt := 16) hx hb dX12_safe_4 (by decide) (fun c_8 => absurd c_8 (by decide)) (fun _ => ?_)
    refine lv_iload_n hx hb dX12_safe_7 rfl (lv_at hl 3 rfl) ?_
    refine lv_iconst (v := 0) hx hb dX12_safe_8 (by decide) ?_
    refine lv_iconst (v := 2) hx hb dX12_safe_9 (by decide) ?_
    refine vp_callSi (va_runS (As := [.int z, .int 0, .int 2]) (rest := []) ⟨hx, hb, hml, hown, hts⟩ (c_in l dC dI z 0 2) (va_cwS 3 hts gX12_safe_X12_in rfl rfl rfl hd_yX12_in.2 ⟨Nat.le_of_ble_eq_true rfl, Nat.le_of_ble_eq_true rfl⟩) ⟨fun a U g mk q => ⟨q.1, trivial⟩, fun U hU hW => ⟨rfl, trivial⟩⟩ rfl rfl hl.1 rfl (lv_room (Nat.le_of_ble_eq_true rfl)) dX12_safe_10 ⟨Nat.le_of_ble_eq_true rfl, Nat.le_of_ble_eq_true rfl⟩).run (fun r_9 hw_10 => ?_)
    rcases hw_10 with ⟨rfl, h_11, h_12⟩ | ⟨rfl, h_13⟩
    · skip
      obtain ⟨j_14, hj_15, rfl⟩ := nI_of2 (n := 2) (M := 2) rfl h_11 (Int32.not_lt.mp h_12)
      refine lv_if_ne (tgt := 18) hx hb dX12_safe_13 (by decide) (fun _ => ?_) (fun c_16 => absurd c_16 (by decide))
      refine lv_iload_n hx hb dX12_safe_18 rfl (lv_at hl 2 rfl) ?_
      refine lv_iconst (v := 1) hx hb dX12_safe_19 (by decide) ?_
      refine lv_iconst (v := 3) hx hb dX12_safe_20 (by decide) ?_
      refine vp_callSi (va_runS (As := [.int y, .int 1, .int 3]) (rest := []) ⟨hx, hb, hml, hown, hts⟩ (c_in l dC dI y 1 3) (va_cwS 3 hts gX12_safe_X12_in rfl rfl rfl hd_yX12_in.2 ⟨Nat.le_of_ble_eq_true rfl, Nat.le_of_ble_eq_true rfl⟩) ⟨fun a U g mk q => ⟨q.1, trivial⟩, fun U hU hW => ⟨rfl, trivial⟩⟩ rfl rfl hl.1 rfl (lv_room (Nat.le_of_ble_eq_true rfl)) dX12_safe_21 ⟨Nat.le_of_ble_eq_true rfl, Nat.le_of_ble_eq_true rfl⟩).run (fun r_17 hw_18 => ?_)
      rcases hw_18 with ⟨rfl, h_19, h_20⟩ | ⟨rfl, h_21⟩
      · skip
        obtain ⟨j_22, hj_23, rfl⟩ := nI_of2 (n := 3) (M := 3) rfl (fun q0 => h_19 (Int32.lt_trans q0 (by decide))) (Int32.not_lt.mp h_20)
        have h1j_22 : 1 ≤ j_22 := Nat.lt_of_not_le (fun q0 => h_19 ((nI_ltI (a := j_22) (b := 1) (by omega) (by omega)).mpr (by omega)))
        refine lv_if_ne (tgt := 30) hx hb dX12_safe_24 (by decide) (fun _ => ?_) (fun c_24 => absurd c_24 (by decide))
        refine lv_iload_n hx hb dX12_safe_30 rfl (lv_at hl 3 rfl) ?_
        refine lv_iload_n hx hb dX12_safe_31 rfl (lv_at hl 2 rfl) ?_
        refine lv_icmp_lt (tgt := 39) hx hb dX12_safe_32 (by decide) (fun c_25 => ?_) (fun c_25 => ?_)
        · skip
          have c_25 : j_14 < j_22 := (nI_ltI (a := j_14) (b := j_22) (by omega) (by omega)).mp c_25
          refine lv_aload_n hx hb dX12_safe_39 rfl (lv_at hl 0 rfl) ?_
          refine lv_iload_n hx hb dX12_safe_40 rfl (lv_at hl 1 rfl) ?_
          refine lv_iconst (v := (-1)) hx hb dX12_safe_41 (by decide) ?_
          refine lv_iload_n hx hb dX12_safe_42 rfl (lv_at hl 2 rfl) ?_
          have hPc := hP.sub (ws' := [(zo14irriiiiiirriirrrrlriiii m0 th aS aI im ac sp en wg op aB aT se dn aG aO aN aD bv aY rn kd nu tv), (zaI aS cS 901 fS), (zaI aB cB 6 fB), (zaI aT cT 64 fT), (zaL aO cO 36 fO), (zaL aN cN 36 fN), (zaI aD cD 36 fD)]) [0, 1, 2, 3, 4, 5, 6] rfl
          have hDc := hD.sub (ws' := [(zo14irriiiiiirriirrrrlriiii m0 th aS aI im ac sp en wg op aB aT se dn aG aO aN aD bv aY rn kd nu tv), (zaI aS cS 901 fS), (zaI aB cB 6 fB), (zaI aT cT 64 fT), (zaL aO cO 36 fO), (zaL aN cN 36 fN), (zaI aD cD 36 fD)]) [0, 1, 2, 3, 4, 5, 6] (by decide) rfl
          have hKc := hK.sub (tys' := [(cS, .int), (cB, .int), (cT, .boolean), (cO, .long), (cN, .long), (cD, .int)]) [0, 1, 2, 3, 4, 5] rfl
          have hFc := va_free (wc := [(zo14irriiiiiirriirrrrlriiii m0 th aS aI im ac sp en wg op aB aT se dn aG aO aN aD bv aY rn kd nu tv), (zaI aS cS 901 fS), (zaI aB cB 6 fB), (zaI aT cT 64 fT), (zaL aO cO 36 fO), (zaL aN cN 36 fN), (zaI aD cD 36 fD)]) hD hS hA [0, 1, 2, 3, 4, 5, 6] rfl
          refine va_calli (va_runV (As := [.int (nI j_6), .int (-1), .int (nI j_22)]) (rest := []) ⟨hx, hb, hml, hown, hts⟩ (c_bestRowS l dC dI m0 aS aI aB aT aG aO aN aD aY th im ac sp en wg op se dn rn kd nu tv bv cS cB cT cO cN cD fS fB fT fO fN fD j_6 j_22 ee mi sn cz H.size (zh) (zmi) (zsn) (by omega) (by omega) (by omega) (zee)) (cwV 3 hts gX12_safe_X12_bestRow rfl rfl rfl hd_yX12_bestRow ⟨Nat.le_of_ble_eq_true rfl, Nat.le_of_ble_eq_true rfl⟩) ⟨fun a U g mk q => by obtain ⟨q0, q1, qP, qK, qD⟩ := q; exact ⟨q0, mvz g mk a q1, mvP g mk a qP, mvK g mk a qK, qD⟩, va_recv hK hP (ci := 14) (q := (RX12, TX12, 23)) (q0 := 0) rfl rfl, fun U hU hW => ⟨rfl, by rw [hU], by rw [hU]; exact hPc, va_K.moved hW.alike hKc, hDc.weaken (fun _ _ _ _ => trivial)⟩⟩ rfl rfl hl.1 rfl (lv_room (Nat.le_of_ble_eq_true rfl)) dX12_safe_43 ⟨Nat.le_of_ble_eq_true rfl, Nat.le_of_ble_eq_true rfl⟩) hS (fun q _ h => hFc q h) hFc (fun r_26 u tC H1 locs htC hvm hw_27 hB hz1 hk1 hS => ?_)
          obtain ⟨fB9_28, fT9_29, se9_30, dn9_31, fD9_32, fO9_33, fN9_34, bv9_35⟩ := u
          try dsimp only at hw_27 hB
          obtain ⟨hP1, hK1, hD1⟩ := hB
          rw [htC] at hP1
          have hK1 := va_K.moved hvm.symm hK1
          obtain ⟨hP, hD⟩ := va_join (wr := []) (w1 := [(zo14irriiiiiirriirrrrlriiii m0 th aS aI im ac sp en wg op aB aT se9_30 dn9_31 aG aO aN aD bv9_35 aY rn kd nu tv), (zaI aS cS 901 fS), (zaI aB cB 6 fB9_28), (zaI aT cT 64 fT9_29), (zaL aO cO 36 fO9_33), (zaL aN cN 36 fN9_34), (zaI aD cD 36 fD9_32)]) hP hD [0, 1, 2, 3, 4, 5, 6] [] rfl rfl (by decide) (by decide) hk1 hFc hP1 hD1
          have hK := (hK.sub (tys' := []) [] rfl).app hK1
          generalize H1 = H at hP hS ⊢
          have hP : va_P (dC, dI) vwCl [(zo14irriiiiiirriirrrrlriiii m0 th aS aI im ac sp en wg op aB aT se9_30 dn9_31 aG aO aN aD bv9_35 aY rn kd nu tv), (zaI aS cS 901 fS), (zaI aB cB 6 fB9_28), (zaI aT cT 64 fT9_29), (zaL aO cO 36 fO9_33), (zaL aN cN 36 fN9_34), (zaI aD cD 36 fD9_32)] H := hP
          have hD : va_D A [(zo14irriiiiiirriirrrrlriiii m0 th aS aI im ac sp en wg op aB aT se9_30 dn9_31 aG aO aN aD bv9_35 aY rn kd nu tv), (zaI aS cS 901 fS), (zaI aB cB 6 fB9_28), (zaI aT cT 64 fT9_29), (zaL aO cO 36 fO9_33), (zaL aN cN 36 fN9_34), (zaI aD cD 36 fD9_32)] := hD
          have hK : va_K (dC, dI) vwCl [(cS, .int), (cB, .int), (cT, .boolean), (cO, .long), (cN, .long), (cD, .int)] s := hK
          obtain rfl := hw_27
          have hf9 := fm_lt (U := bsU cz mi sn ee j_6 j_22) (8 ^ j_22) (ps_8 (by omega) (by omega)).2
          have h89 := (ps_8 (k := j_22) (by omega) (by omega)).1
          refine lv_iload_n hx hb dX12_safe_46 rfl (lv_at hl 2 rfl) ?_
          refine lv_iload_n hx hb dX12_safe_47 rfl (lv_at hl 3 rfl) ?_
          refine vp_callSi (va_runS (As := [.int (nI (fmN (bsU cz mi sn ee j_6 j_22) (8 ^ j_22))), .int (nI j_22), .int (nI j_14)]) (rest := []) ⟨hx, hb, hml, hown, hts⟩ (c_wayOf l dC dI (fmN (bsU cz mi sn ee j_6 j_22) (8 ^ j_22)) j_22 j_14 (by omega) (by omega) (by omega)) (va_cwS 3 hts gX12_safe_X12_wayOf rfl rfl rfl hd_yX12_wayOf.2 ⟨Nat.le_of_ble_eq_true rfl, Nat.le_of_ble_eq_true rfl⟩) ⟨fun a U g mk q => ⟨q.1, trivial⟩, fun U hU hW => ⟨rfl, trivial⟩⟩ rfl rfl hl.1 rfl (lv_room (Nat.le_of_ble_eq_true rfl)) dX12_safe_48 ⟨Nat.le_of_ble_eq_true rfl, Nat.le_of_ble_eq_true rfl⟩).run (fun r_36 hw_37 => ?_)
          obtain rfl := hw_37
          rw [hQ]
          have hP9 := hP.sub (ws' := [(zo14irriiiiiirriirrrrlriiii m0 th aS aI im ac sp en wg op aB aT se9_30 dn9_31 aG aO aN aD bv9_35 aY rn kd nu tv), (zaI aS cS 901 fS), (zaI aB cB 6 fB9_28), (zaI aT cT 64 fT9_29), (zaL aO cO 36 fO9_33), (zaL aN cN 36 fN9_34), (zaI aD cD 36 fD9_32)]) [0, 1, 2, 3, 4, 5, 6] rfl
          have hD9 := hD.sub (ws' := [(zo14irriiiiiirriirrrrlriiii m0 th aS aI im ac sp en wg op aB aT se9_30 dn9_31 aG aO aN aD bv9_35 aY rn kd nu tv), (zaI aS cS 901 fS), (zaI aB cB 6 fB9_28), (zaI aT cT 64 fT9_29), (zaL aO cO 36 fO9_33), (zaL aN cN 36 fN9_34), (zaI aD cD 36 fD9_32)]) [0, 1, 2, 3, 4, 5, 6] (by decide) rfl
          have hK9 := hK.sub (tys' := [(cS, .int), (cB, .int), (cT, .boolean), (cO, .long), (cN, .long), (cD, .int)]) [0, 1, 2, 3, 4, 5] rfl
          exact W.iret (v := nI (wyR (fmN (bsU cz mi sn ee j_6 j_22) (8 ^ j_22)) j_22 j_14)) hx hb hr (fun tQ htQ hWQ => ⟨⟨(nI (wyR (fmN (bsU cz mi sn ee j_6 j_22) (8 ^ j_22)) j_22 j_14)), (fB9_28, fT9_29, se9_30, dn9_31, fD9_32, fO9_33, fN9_34, bv9_35), rfl, sa_y (by omega) (by omega) (by omega) (by omega), by rw [htQ]; exact hP9, va_K.moved hWQ.alike hK9, hD9⟩, hS.F htQ⟩) hS.2.2 dX12_safe_51
        · skip
          have c_25 : ¬ j_14 < j_22 := fun q => c_25 ((nI_ltI (a := j_14) (b := j_22) (by omega) (by omega)).mpr q)
          refine lv_iconst (v := (-1)) hx hb dX12_safe_35 (by decide) ?_
          refine lv_goto (tgt := 51) hx hb dX12_safe_36 (by decide) ?_
          rw [hQ]
          have hP9 := hP.sub (ws' := [(zo14irriiiiiirriirrrrlriiii m0 th aS aI im ac sp en wg op aB aT se dn aG aO aN aD bv aY rn kd nu tv), (zaI aS cS 901 fS), (zaI aB cB 6 fB), (zaI aT cT 64 fT), (zaL aO cO 36 fO), (zaL aN cN 36 fN), (zaI aD cD 36 fD)]) [0, 1, 2, 3, 4, 5, 6] rfl
          have hD9 := hD.sub (ws' := [(zo14irriiiiiirriirrrrlriiii m0 th aS aI im ac sp en wg op aB aT se dn aG aO aN aD bv aY rn kd nu tv), (zaI aS cS 901 fS), (zaI aB cB 6 fB), (zaI aT cT 64 fT), (zaL aO cO 36 fO), (zaL aN cN 36 fN), (zaI aD cD 36 fD)]) [0, 1, 2, 3, 4, 5, 6] (by decide) rfl
          have hK9 := hK.sub (tys' := [(cS, .int), (cB, .int), (cT, .boolean), (cO, .long), (cN, .long), (cD, .int)]) [0, 1, 2, 3, 4, 5] rfl
          exact W.iret (v := (-1)) hx hb hr (fun tQ htQ hWQ => ⟨⟨(-1), (fB, fT, se, dn, fD, fO, fN, bv), rfl, by first | exact sa_1 (by assumption) | exact sa_2 (by assumption) | exact sa_k (by omega) (by omega) (by omega) (by omega) (by omega), by rw [htQ]; exact hP9, va_K.moved hWQ.alike hK9, hD9⟩, hS.F htQ⟩) hS.2.2 dX12_safe_51
      · skip
        refine lv_if_ne (tgt := 30) hx hb dX12_safe_24 (by decide) (fun c_38 => absurd c_38 (by decide)) (fun _ => ?_)
        refine lv_bipush (v := (-2)) hx hb dX12_safe_27 (by decide) ?_
        rw [hQ]
        have hP9 := hP.sub (ws' := [(zo14irriiiiiirriirrrrlriiii m0 th aS aI im ac sp en wg op aB aT se dn aG aO aN aD bv aY rn kd nu tv), (zaI aS cS 901 fS), (zaI aB cB 6 fB), (zaI aT cT 64 fT), (zaL aO cO 36 fO), (zaL aN cN 36 fN), (zaI aD cD 36 fD)]) [0, 1, 2, 3, 4, 5, 6] rfl
        have hD9 := hD.sub (ws' := [(zo14irriiiiiirriirrrrlriiii m0 th aS aI im ac sp en wg op aB aT se dn aG aO aN aD bv aY rn kd nu tv), (zaI aS cS 901 fS), (zaI aB cB 6 fB), (zaI aT cT 64 fT), (zaL aO cO 36 fO), (zaL aN cN 36 fN), (zaI aD cD 36 fD)]) [0, 1, 2, 3, 4, 5, 6] (by decide) rfl
        have hK9 := hK.sub (tys' := [(cS, .int), (cB, .int), (cT, .boolean), (cO, .long), (cN, .long), (cD, .int)]) [0, 1, 2, 3, 4, 5] rfl
        exact W.iret (v := (-2)) hx hb hr (fun tQ htQ hWQ => ⟨⟨(-2), (fB, fT, se, dn, fD, fO, fN, bv), rfl, sa_b (by omega) (by omega) (by assumption), by rw [htQ]; exact hP9, va_K.moved hWQ.alike hK9, hD9⟩, hS.F htQ⟩) hS.2.2 dX12_safe_29
    · skip
      refine lv_if_ne (tgt := 18) hx hb dX12_safe_13 (by decide) (fun c_39 => absurd c_39 (by decide)) (fun _ => ?_)
      refine lv_iconst (v := (-1)) hx hb dX12_safe_16 (by decide) ?_
      rw [hQ]
      have hP9 := hP.sub (ws' := [(zo14irriiiiiirriirrrrlriiii m0 th aS aI im ac sp en wg op aB aT se dn aG aO aN aD bv aY rn kd nu tv), (zaI aS cS 901 fS), (zaI aB cB 6 fB), (zaI aT cT 64 fT), (zaL aO cO 36 fO), (zaL aN cN 36 fN), (zaI aD cD 36 fD)]) [0, 1, 2, 3, 4, 5, 6] rfl
      have hD9 := hD.sub (ws' := [(zo14irriiiiiirriirrrrlriiii m0 th aS aI im ac sp en wg op aB aT se dn aG aO aN aD bv aY rn kd nu tv), (zaI aS cS 901 fS), (zaI aB cB 6 fB), (zaI aT cT 64 fT), (zaL aO cO 36 fO), (zaL aN cN 36 fN), (zaI aD cD 36 fD)]) [0, 1, 2, 3, 4, 5, 6] (by decide) rfl
      have hK9 := hK.sub (tys' := [(cS, .int), (cB, .int), (cT, .boolean), (cO, .long), (cN, .long), (cD, .int)]) [0, 1, 2, 3, 4, 5] rfl
      exact W.iret (v := (-1)) hx hb hr (fun tQ htQ hWQ => ⟨⟨(-1), (fB, fT, se, dn, fD, fO, fN, bv), rfl, by first | exact sa_1 (by assumption) | exact sa_2 (by assumption) | exact sa_k (by omega) (by omega) (by omega) (by omega) (by omega), by rw [htQ]; exact hP9, va_K.moved hWQ.alike hK9, hD9⟩, hS.F htQ⟩) hS.2.2 dX12_safe_17
  · skip
    refine lv_if_eq (tgt := 16) hx hb dX12_safe_4 (by decide) (fun _ => ?_) (fun c_40 => absurd c_40 (by decide))
    refine lv_iconst (v := (-1)) hx hb dX12_safe_16 (by decide) ?_
    rw [hQ]
    have hP9 := hP.sub (ws' := [(zo14irriiiiiirriirrrrlriiii m0 th aS aI im ac sp en wg op aB aT se dn aG aO aN aD bv aY rn kd nu tv), (zaI aS cS 901 fS), (zaI aB cB 6 fB), (zaI aT cT 64 fT), (zaL aO cO 36 fO), (zaL aN cN 36 fN), (zaI aD cD 36 fD)]) [0, 1, 2, 3, 4, 5, 6] rfl
    have hD9 := hD.sub (ws' := [(zo14irriiiiiirriirrrrlriiii m0 th aS aI im ac sp en wg op aB aT se dn aG aO aN aD bv aY rn kd nu tv), (zaI aS cS 901 fS), (zaI aB cB 6 fB), (zaI aT cT 64 fT), (zaL aO cO 36 fO), (zaL aN cN 36 fN), (zaI aD cD 36 fD)]) [0, 1, 2, 3, 4, 5, 6] (by decide) rfl
    have hK9 := hK.sub (tys' := [(cS, .int), (cB, .int), (cT, .boolean), (cO, .long), (cN, .long), (cD, .int)]) [0, 1, 2, 3, 4, 5] rfl
    exact W.iret (v := (-1)) hx hb hr (fun tQ htQ hWQ => ⟨⟨(-1), (fB, fT, se, dn, fD, fO, fN, bv), rfl, by first | exact sa_1 (by assumption) | exact sa_2 (by assumption) | exact sa_k (by omega) (by omega) (by omega) (by omega) (by omega), by rw [htQ]; exact hP9, va_K.moved hWQ.alike hK9, hD9⟩, hS.F htQ⟩) hS.2.2 dX12_safe_17
end mg08
