theorem ggX0_search_X0_begin : GoodIn wsX0_search wsX0_begin := gga_of 833 rfl rfl rfl
theorem gX0_search_X0_begin : GoodIn wsX0_search (wsV RX0 27 RX0 yX0_begin wsX0_begin) := goodIn_app (ggh_of [830, 832, 14, 68] rfl rfl rfl) ggX0_search_X0_begin
theorem ggX0_search_X0_tellHits : GoodIn wsX0_search wsX0_tellHits := gga_of 871 rfl rfl rfl
theorem gX0_search_X0_tellHits : GoodIn wsX0_search (wsV RX0 60 RX0 yX0_tellHits wsX0_tellHits) := goodIn_app (ggh_of [868, 870, 16, 68] rfl rfl rfl) ggX0_search_X0_tellHits
theorem ggX0_search_X0_tryLast : GoodIn wsX0_search wsX0_tryLast := gga_of 879 rfl rfl rfl
theorem gX0_search_X0_tryLast : GoodIn wsX0_search (wsV RX0 69 RX0 yX0_tryLast wsX0_tryLast) := goodIn_app (ggh_of [876, 878, 17, 68] rfl rfl rfl) ggX0_search_X0_tryLast
theorem ggX0_search_X0_spread : GoodIn wsX0_search wsX0_spread := gga_of 838 rfl rfl rfl
theorem gX0_search_X0_spread : GoodIn wsX0_search (wsV RX0 40 RX0 yX0_spread wsX0_spread) := goodIn_app (ggh_of [835, 837, 15, 68] rfl rfl rfl) ggX0_search_X0_spread
theorem ggX0_walked_X0_begin : GoodIn wsX0_walked wsX0_begin := gga_of 833 rfl rfl rfl
theorem gX0_walked_X0_begin : GoodIn wsX0_walked (wsV RX0 27 RX0 yX0_begin wsX0_begin) := goodIn_app (ggh_of [830, 832, 14, 68] rfl rfl rfl) ggX0_walked_X0_begin
theorem ggX0_walked_X11_isIn : GoodIn wsX0_walked wsX11_isIn := gga_of 841 rfl rfl rfl
theorem ggX0_walked_X0_spread : GoodIn wsX0_walked wsX0_spread := gga_of 838 rfl rfl rfl
theorem gX0_walked_X0_spread : GoodIn wsX0_walked (wsV RX0 40 RX0 yX0_spread wsX0_spread) := goodIn_app (ggh_of [835, 837, 15, 68] rfl rfl rfl) ggX0_walked_X0_spread
noncomputable def dk15dsearch_cX0_search_0 : List (Nat × Instr × Nat) := [(0, .aload_n 0, 1), (1, .aload_n 1, 1), (2, .iload_n 2, 1), (3, .invokevirtual 27, 3), (6, .aload_n 0, 1), (7, .aload_n 1, 1), (8, .lload_n 3, 1), (9, .invokevirtual 60, 3), (12, .aload_n 0, 1), (13, .ldc2_w 64, 3), (16, .putfield 66, 3), (19, .iload 5, 2), (21, .iconst 1, 1), (22, .isub, 1), (23, .istore 6, 2), (25, .iconst 0, 1), (26, .istore 7, 2), (28, .iload 7, 2), (30, .iconst 1, 1), (31, .iconst 3, 1), (32, .iload 6, 2), (34, .imul, 1), (35, .ishl, 1), (36, .if_icmp .ge 102, 3), (39, .iconst 0, 1), (40, .istore 8, 2), (42, .iload 8, 2), (44, .iload 6, 2), (46, .if_icmp .ge 73, 3), (119, .aload_n 0, 1), (120, .aload_n 0, 1), (121, .getfield 17, 3), (124, .iload 6, 2), (126, .aaload, 1), (127, .iload 7, 2), (129, .invokevirtual 69, 3), (132, .iinc 7 1, 3), (135, .goto (-107), 3), (138, .return_, 1), (49, .iconst 3, 1)]
set_option maxRecDepth 100000 in
theorem dk15dsearch_cX0_search_0_a : dkA cX0_search dk15dsearch_cX0_search_0 = true := by decide +kernel
theorem dX0_search_0 : decode cX0_search 0 = .ok (.aload_n 0, 1) := dkAt dk15dsearch_cX0_search_0_a 0 rfl
theorem dX0_search_1 : decode cX0_search 1 = .ok (.aload_n 1, 1) := dkAt dk15dsearch_cX0_search_0_a 1 rfl
theorem dX0_search_2 : decode cX0_search 2 = .ok (.iload_n 2, 1) := dkAt dk15dsearch_cX0_search_0_a 2 rfl
theorem dX0_search_3 : decode cX0_search 3 = .ok (.invokevirtual 27, 3) := dkAt dk15dsearch_cX0_search_0_a 3 rfl
theorem dX0_search_6 : decode cX0_search 6 = .ok (.aload_n 0, 1) := dkAt dk15dsearch_cX0_search_0_a 4 rfl
theorem dX0_search_7 : decode cX0_search 7 = .ok (.aload_n 1, 1) := dkAt dk15dsearch_cX0_search_0_a 5 rfl
theorem dX0_search_8 : decode cX0_search 8 = .ok (.lload_n 3, 1) := dkAt dk15dsearch_cX0_search_0_a 6 rfl
theorem dX0_search_9 : decode cX0_search 9 = .ok (.invokevirtual 60, 3) := dkAt dk15dsearch_cX0_search_0_a 7 rfl
theorem dX0_search_12 : decode cX0_search 12 = .ok (.aload_n 0, 1) := dkAt dk15dsearch_cX0_search_0_a 8 rfl
theorem dX0_search_13 : decode cX0_search 13 = .ok (.ldc2_w 64, 3) := dkAt dk15dsearch_cX0_search_0_a 9 rfl
theorem dX0_search_16 : decode cX0_search 16 = .ok (.putfield 66, 3) := dkAt dk15dsearch_cX0_search_0_a 10 rfl
theorem dX0_search_19 : decode cX0_search 19 = .ok (.iload 5, 2) := dkAt dk15dsearch_cX0_search_0_a 11 rfl
theorem dX0_search_21 : decode cX0_search 21 = .ok (.iconst 1, 1) := dkAt dk15dsearch_cX0_search_0_a 12 rfl
theorem dX0_search_22 : decode cX0_search 22 = .ok (.isub, 1) := dkAt dk15dsearch_cX0_search_0_a 13 rfl
theorem dX0_search_23 : decode cX0_search 23 = .ok (.istore 6, 2) := dkAt dk15dsearch_cX0_search_0_a 14 rfl
theorem dX0_search_25 : decode cX0_search 25 = .ok (.iconst 0, 1) := dkAt dk15dsearch_cX0_search_0_a 15 rfl
theorem dX0_search_26 : decode cX0_search 26 = .ok (.istore 7, 2) := dkAt dk15dsearch_cX0_search_0_a 16 rfl
theorem dX0_search_28 : decode cX0_search 28 = .ok (.iload 7, 2) := dkAt dk15dsearch_cX0_search_0_a 17 rfl
theorem dX0_search_30 : decode cX0_search 30 = .ok (.iconst 1, 1) := dkAt dk15dsearch_cX0_search_0_a 18 rfl
theorem dX0_search_31 : decode cX0_search 31 = .ok (.iconst 3, 1) := dkAt dk15dsearch_cX0_search_0_a 19 rfl
theorem dX0_search_32 : decode cX0_search 32 = .ok (.iload 6, 2) := dkAt dk15dsearch_cX0_search_0_a 20 rfl
theorem dX0_search_34 : decode cX0_search 34 = .ok (.imul, 1) := dkAt dk15dsearch_cX0_search_0_a 21 rfl
theorem dX0_search_35 : decode cX0_search 35 = .ok (.ishl, 1) := dkAt dk15dsearch_cX0_search_0_a 22 rfl
theorem dX0_search_36 : decode cX0_search 36 = .ok (.if_icmp .ge 102, 3) := dkAt dk15dsearch_cX0_search_0_a 23 rfl
theorem dX0_search_39 : decode cX0_search 39 = .ok (.iconst 0, 1) := dkAt dk15dsearch_cX0_search_0_a 24 rfl
theorem dX0_search_40 : decode cX0_search 40 = .ok (.istore 8, 2) := dkAt dk15dsearch_cX0_search_0_a 25 rfl
theorem dX0_search_42 : decode cX0_search 42 = .ok (.iload 8, 2) := dkAt dk15dsearch_cX0_search_0_a 26 rfl
theorem dX0_search_44 : decode cX0_search 44 = .ok (.iload 6, 2) := dkAt dk15dsearch_cX0_search_0_a 27 rfl
theorem dX0_search_46 : decode cX0_search 46 = .ok (.if_icmp .ge 73, 3) := dkAt dk15dsearch_cX0_search_0_a 28 rfl
theorem dX0_search_119 : decode cX0_search 119 = .ok (.aload_n 0, 1) := dkAt dk15dsearch_cX0_search_0_a 29 rfl
theorem dX0_search_120 : decode cX0_search 120 = .ok (.aload_n 0, 1) := dkAt dk15dsearch_cX0_search_0_a 30 rfl
theorem dX0_search_121 : decode cX0_search 121 = .ok (.getfield 17, 3) := dkAt dk15dsearch_cX0_search_0_a 31 rfl
theorem dX0_search_124 : decode cX0_search 124 = .ok (.iload 6, 2) := dkAt dk15dsearch_cX0_search_0_a 32 rfl
theorem dX0_search_126 : decode cX0_search 126 = .ok (.aaload, 1) := dkAt dk15dsearch_cX0_search_0_a 33 rfl
theorem dX0_search_127 : decode cX0_search 127 = .ok (.iload 7, 2) := dkAt dk15dsearch_cX0_search_0_a 34 rfl
theorem dX0_search_129 : decode cX0_search 129 = .ok (.invokevirtual 69, 3) := dkAt dk15dsearch_cX0_search_0_a 35 rfl
theorem dX0_search_132 : decode cX0_search 132 = .ok (.iinc 7 1, 3) := dkAt dk15dsearch_cX0_search_0_a 36 rfl
theorem dX0_search_135 : decode cX0_search 135 = .ok (.goto (-107), 3) := dkAt dk15dsearch_cX0_search_0_a 37 rfl
theorem dX0_search_138 : decode cX0_search 138 = .ok (.return_, 1) := dkAt dk15dsearch_cX0_search_0_a 38 rfl
theorem dX0_search_49 : decode cX0_search 49 = .ok (.iconst 3, 1) := dkAt dk15dsearch_cX0_search_0_a 39 rfl
noncomputable def dk15dsearch_cX0_search_40 : List (Nat × Instr × Nat) := [(50, .iload 6, 2), (52, .iconst 1, 1), (53, .isub, 1), (54, .iload 8, 2), (56, .isub, 1), (57, .imul, 1), (58, .istore 9, 2), (60, .iload 7, 2), (62, .iconst 1, 1), (63, .iload 9, 2), (65, .ishl, 1), (66, .iconst 1, 1), (67, .isub, 1), (68, .iand, 1), (77, .istore 10, 2), (79, .iload 10, 2), (81, .ifCond .eq 32, 3), (113, .iinc 8 1, 3), (116, .goto (-74), 3), (84, .aload_n 0, 1), (85, .aload_n 1, 1), (86, .aload_n 0, 1), (87, .getfield 17, 3), (90, .iload 8, 2), (92, .aaload, 1), (93, .iload 7, 2), (95, .iload 9, 2), (97, .ishr, 1), (98, .bipush 7, 2), (100, .iand, 1), (101, .aload_n 0, 1), (102, .getfield 17, 3), (105, .iload 8, 2), (107, .iconst 1, 1), (108, .iadd, 1), (109, .aaload, 1), (110, .invokevirtual 40, 3), (69, .ifCond .ne 7, 3), (76, .iconst 0, 1), (72, .iconst 1, 1)]
set_option maxRecDepth 100000 in
theorem dk15dsearch_cX0_search_40_a : dkA cX0_search dk15dsearch_cX0_search_40 = true := by decide +kernel
theorem dX0_search_50 : decode cX0_search 50 = .ok (.iload 6, 2) := dkAt dk15dsearch_cX0_search_40_a 0 rfl
theorem dX0_search_52 : decode cX0_search 52 = .ok (.iconst 1, 1) := dkAt dk15dsearch_cX0_search_40_a 1 rfl
theorem dX0_search_53 : decode cX0_search 53 = .ok (.isub, 1) := dkAt dk15dsearch_cX0_search_40_a 2 rfl
theorem dX0_search_54 : decode cX0_search 54 = .ok (.iload 8, 2) := dkAt dk15dsearch_cX0_search_40_a 3 rfl
theorem dX0_search_56 : decode cX0_search 56 = .ok (.isub, 1) := dkAt dk15dsearch_cX0_search_40_a 4 rfl
theorem dX0_search_57 : decode cX0_search 57 = .ok (.imul, 1) := dkAt dk15dsearch_cX0_search_40_a 5 rfl
theorem dX0_search_58 : decode cX0_search 58 = .ok (.istore 9, 2) := dkAt dk15dsearch_cX0_search_40_a 6 rfl
theorem dX0_search_60 : decode cX0_search 60 = .ok (.iload 7, 2) := dkAt dk15dsearch_cX0_search_40_a 7 rfl
theorem dX0_search_62 : decode cX0_search 62 = .ok (.iconst 1, 1) := dkAt dk15dsearch_cX0_search_40_a 8 rfl
theorem dX0_search_63 : decode cX0_search 63 = .ok (.iload 9, 2) := dkAt dk15dsearch_cX0_search_40_a 9 rfl
theorem dX0_search_65 : decode cX0_search 65 = .ok (.ishl, 1) := dkAt dk15dsearch_cX0_search_40_a 10 rfl
theorem dX0_search_66 : decode cX0_search 66 = .ok (.iconst 1, 1) := dkAt dk15dsearch_cX0_search_40_a 11 rfl
theorem dX0_search_67 : decode cX0_search 67 = .ok (.isub, 1) := dkAt dk15dsearch_cX0_search_40_a 12 rfl
theorem dX0_search_68 : decode cX0_search 68 = .ok (.iand, 1) := dkAt dk15dsearch_cX0_search_40_a 13 rfl
theorem dX0_search_77 : decode cX0_search 77 = .ok (.istore 10, 2) := dkAt dk15dsearch_cX0_search_40_a 14 rfl
theorem dX0_search_79 : decode cX0_search 79 = .ok (.iload 10, 2) := dkAt dk15dsearch_cX0_search_40_a 15 rfl
theorem dX0_search_81 : decode cX0_search 81 = .ok (.ifCond .eq 32, 3) := dkAt dk15dsearch_cX0_search_40_a 16 rfl
theorem dX0_search_113 : decode cX0_search 113 = .ok (.iinc 8 1, 3) := dkAt dk15dsearch_cX0_search_40_a 17 rfl
theorem dX0_search_116 : decode cX0_search 116 = .ok (.goto (-74), 3) := dkAt dk15dsearch_cX0_search_40_a 18 rfl
theorem dX0_search_84 : decode cX0_search 84 = .ok (.aload_n 0, 1) := dkAt dk15dsearch_cX0_search_40_a 19 rfl
theorem dX0_search_85 : decode cX0_search 85 = .ok (.aload_n 1, 1) := dkAt dk15dsearch_cX0_search_40_a 20 rfl
theorem dX0_search_86 : decode cX0_search 86 = .ok (.aload_n 0, 1) := dkAt dk15dsearch_cX0_search_40_a 21 rfl
theorem dX0_search_87 : decode cX0_search 87 = .ok (.getfield 17, 3) := dkAt dk15dsearch_cX0_search_40_a 22 rfl
theorem dX0_search_90 : decode cX0_search 90 = .ok (.iload 8, 2) := dkAt dk15dsearch_cX0_search_40_a 23 rfl
theorem dX0_search_92 : decode cX0_search 92 = .ok (.aaload, 1) := dkAt dk15dsearch_cX0_search_40_a 24 rfl
theorem dX0_search_93 : decode cX0_search 93 = .ok (.iload 7, 2) := dkAt dk15dsearch_cX0_search_40_a 25 rfl
theorem dX0_search_95 : decode cX0_search 95 = .ok (.iload 9, 2) := dkAt dk15dsearch_cX0_search_40_a 26 rfl
theorem dX0_search_97 : decode cX0_search 97 = .ok (.ishr, 1) := dkAt dk15dsearch_cX0_search_40_a 27 rfl
theorem dX0_search_98 : decode cX0_search 98 = .ok (.bipush 7, 2) := dkAt dk15dsearch_cX0_search_40_a 28 rfl
theorem dX0_search_100 : decode cX0_search 100 = .ok (.iand, 1) := dkAt dk15dsearch_cX0_search_40_a 29 rfl
theorem dX0_search_101 : decode cX0_search 101 = .ok (.aload_n 0, 1) := dkAt dk15dsearch_cX0_search_40_a 30 rfl
theorem dX0_search_102 : decode cX0_search 102 = .ok (.getfield 17, 3) := dkAt dk15dsearch_cX0_search_40_a 31 rfl
theorem dX0_search_105 : decode cX0_search 105 = .ok (.iload 8, 2) := dkAt dk15dsearch_cX0_search_40_a 32 rfl
theorem dX0_search_107 : decode cX0_search 107 = .ok (.iconst 1, 1) := dkAt dk15dsearch_cX0_search_40_a 33 rfl
theorem dX0_search_108 : decode cX0_search 108 = .ok (.iadd, 1) := dkAt dk15dsearch_cX0_search_40_a 34 rfl
theorem dX0_search_109 : decode cX0_search 109 = .ok (.aaload, 1) := dkAt dk15dsearch_cX0_search_40_a 35 rfl
theorem dX0_search_110 : decode cX0_search 110 = .ok (.invokevirtual 40, 3) := dkAt dk15dsearch_cX0_search_40_a 36 rfl
theorem dX0_search_69 : decode cX0_search 69 = .ok (.ifCond .ne 7, 3) := dkAt dk15dsearch_cX0_search_40_a 37 rfl
theorem dX0_search_76 : decode cX0_search 76 = .ok (.iconst 0, 1) := dkAt dk15dsearch_cX0_search_40_a 38 rfl
theorem dX0_search_72 : decode cX0_search 72 = .ok (.iconst 1, 1) := dkAt dk15dsearch_cX0_search_40_a 39 rfl
noncomputable def dk15dsearch_cX0_search_80 : List (Nat × Instr × Nat) := [(73, .goto 4, 3)]
set_option maxRecDepth 100000 in
theorem dk15dsearch_cX0_search_80_a : dkA cX0_search dk15dsearch_cX0_search_80 = true := by decide +kernel
theorem dX0_search_73 : decode cX0_search 73 = .ok (.goto 4, 3) := dkAt dk15dsearch_cX0_search_80_a 0 rfl
noncomputable def dk15dsearch_cX0_walked_0 : List (Nat × Instr × Nat) := [(0, .aload_n 0, 1), (1, .aload_n 1, 1), (2, .iload_n 2, 1), (3, .invokevirtual 27, 3), (6, .iconst 0, 1), (7, .istore 5, 2), (9, .iload 5, 2), (11, .aload_n 1, 1), (12, .getfield 31, 3), (15, .if_icmp .ge 41, 3), (56, .aload_n 0, 1), (57, .getfield 17, 3), (60, .aload_n 1, 1), (61, .getfield 31, 3), (64, .iconst 1, 1), (65, .iand, 1), (66, .aaload, 1), (67, .astore 5, 2), (69, .lconst 0, 1), (70, .lstore 6, 2), (72, .iconst 0, 1), (73, .istore 8, 2), (75, .iload 8, 2), (77, .bipush 36, 2), (79, .if_icmp .ge 28, 3), (107, .lload 6, 2), (109, .lreturn, 1), (82, .lload_n 3, 1), (83, .iload 8, 2), (85, .invokestatic 44, 3), (88, .ifCond .eq 13, 3), (91, .lload 6, 2), (93, .aload 5, 2), (95, .iload 8, 2), (97, .laload, 1), (98, .ladd, 1), (99, .lstore 6, 2), (101, .iinc 8 1, 3), (104, .goto (-29), 3), (18, .aload_n 0, 1)]
set_option maxRecDepth 100000 in
theorem dk15dsearch_cX0_walked_0_a : dkA cX0_walked dk15dsearch_cX0_walked_0 = true := by decide +kernel
theorem dX0_walked_0 : decode cX0_walked 0 = .ok (.aload_n 0, 1) := dkAt dk15dsearch_cX0_walked_0_a 0 rfl
theorem dX0_walked_1 : decode cX0_walked 1 = .ok (.aload_n 1, 1) := dkAt dk15dsearch_cX0_walked_0_a 1 rfl
theorem dX0_walked_2 : decode cX0_walked 2 = .ok (.iload_n 2, 1) := dkAt dk15dsearch_cX0_walked_0_a 2 rfl
theorem dX0_walked_3 : decode cX0_walked 3 = .ok (.invokevirtual 27, 3) := dkAt dk15dsearch_cX0_walked_0_a 3 rfl
theorem dX0_walked_6 : decode cX0_walked 6 = .ok (.iconst 0, 1) := dkAt dk15dsearch_cX0_walked_0_a 4 rfl
theorem dX0_walked_7 : decode cX0_walked 7 = .ok (.istore 5, 2) := dkAt dk15dsearch_cX0_walked_0_a 5 rfl
theorem dX0_walked_9 : decode cX0_walked 9 = .ok (.iload 5, 2) := dkAt dk15dsearch_cX0_walked_0_a 6 rfl
theorem dX0_walked_11 : decode cX0_walked 11 = .ok (.aload_n 1, 1) := dkAt dk15dsearch_cX0_walked_0_a 7 rfl
theorem dX0_walked_12 : decode cX0_walked 12 = .ok (.getfield 31, 3) := dkAt dk15dsearch_cX0_walked_0_a 8 rfl
theorem dX0_walked_15 : decode cX0_walked 15 = .ok (.if_icmp .ge 41, 3) := dkAt dk15dsearch_cX0_walked_0_a 9 rfl
theorem dX0_walked_56 : decode cX0_walked 56 = .ok (.aload_n 0, 1) := dkAt dk15dsearch_cX0_walked_0_a 10 rfl
theorem dX0_walked_57 : decode cX0_walked 57 = .ok (.getfield 17, 3) := dkAt dk15dsearch_cX0_walked_0_a 11 rfl
theorem dX0_walked_60 : decode cX0_walked 60 = .ok (.aload_n 1, 1) := dkAt dk15dsearch_cX0_walked_0_a 12 rfl
theorem dX0_walked_61 : decode cX0_walked 61 = .ok (.getfield 31, 3) := dkAt dk15dsearch_cX0_walked_0_a 13 rfl
theorem dX0_walked_64 : decode cX0_walked 64 = .ok (.iconst 1, 1) := dkAt dk15dsearch_cX0_walked_0_a 14 rfl
theorem dX0_walked_65 : decode cX0_walked 65 = .ok (.iand, 1) := dkAt dk15dsearch_cX0_walked_0_a 15 rfl
theorem dX0_walked_66 : decode cX0_walked 66 = .ok (.aaload, 1) := dkAt dk15dsearch_cX0_walked_0_a 16 rfl
theorem dX0_walked_67 : decode cX0_walked 67 = .ok (.astore 5, 2) := dkAt dk15dsearch_cX0_walked_0_a 17 rfl
theorem dX0_walked_69 : decode cX0_walked 69 = .ok (.lconst 0, 1) := dkAt dk15dsearch_cX0_walked_0_a 18 rfl
theorem dX0_walked_70 : decode cX0_walked 70 = .ok (.lstore 6, 2) := dkAt dk15dsearch_cX0_walked_0_a 19 rfl
theorem dX0_walked_72 : decode cX0_walked 72 = .ok (.iconst 0, 1) := dkAt dk15dsearch_cX0_walked_0_a 20 rfl
theorem dX0_walked_73 : decode cX0_walked 73 = .ok (.istore 8, 2) := dkAt dk15dsearch_cX0_walked_0_a 21 rfl
theorem dX0_walked_75 : decode cX0_walked 75 = .ok (.iload 8, 2) := dkAt dk15dsearch_cX0_walked_0_a 22 rfl
theorem dX0_walked_77 : decode cX0_walked 77 = .ok (.bipush 36, 2) := dkAt dk15dsearch_cX0_walked_0_a 23 rfl
theorem dX0_walked_79 : decode cX0_walked 79 = .ok (.if_icmp .ge 28, 3) := dkAt dk15dsearch_cX0_walked_0_a 24 rfl
theorem dX0_walked_107 : decode cX0_walked 107 = .ok (.lload 6, 2) := dkAt dk15dsearch_cX0_walked_0_a 25 rfl
theorem dX0_walked_109 : decode cX0_walked 109 = .ok (.lreturn, 1) := dkAt dk15dsearch_cX0_walked_0_a 26 rfl
theorem dX0_walked_82 : decode cX0_walked 82 = .ok (.lload_n 3, 1) := dkAt dk15dsearch_cX0_walked_0_a 27 rfl
theorem dX0_walked_83 : decode cX0_walked 83 = .ok (.iload 8, 2) := dkAt dk15dsearch_cX0_walked_0_a 28 rfl
theorem dX0_walked_85 : decode cX0_walked 85 = .ok (.invokestatic 44, 3) := dkAt dk15dsearch_cX0_walked_0_a 29 rfl
theorem dX0_walked_88 : decode cX0_walked 88 = .ok (.ifCond .eq 13, 3) := dkAt dk15dsearch_cX0_walked_0_a 30 rfl
theorem dX0_walked_91 : decode cX0_walked 91 = .ok (.lload 6, 2) := dkAt dk15dsearch_cX0_walked_0_a 31 rfl
theorem dX0_walked_93 : decode cX0_walked 93 = .ok (.aload 5, 2) := dkAt dk15dsearch_cX0_walked_0_a 32 rfl
theorem dX0_walked_95 : decode cX0_walked 95 = .ok (.iload 8, 2) := dkAt dk15dsearch_cX0_walked_0_a 33 rfl
theorem dX0_walked_97 : decode cX0_walked 97 = .ok (.laload, 1) := dkAt dk15dsearch_cX0_walked_0_a 34 rfl
theorem dX0_walked_98 : decode cX0_walked 98 = .ok (.ladd, 1) := dkAt dk15dsearch_cX0_walked_0_a 35 rfl
theorem dX0_walked_99 : decode cX0_walked 99 = .ok (.lstore 6, 2) := dkAt dk15dsearch_cX0_walked_0_a 36 rfl
theorem dX0_walked_101 : decode cX0_walked 101 = .ok (.iinc 8 1, 3) := dkAt dk15dsearch_cX0_walked_0_a 37 rfl
theorem dX0_walked_104 : decode cX0_walked 104 = .ok (.goto (-29), 3) := dkAt dk15dsearch_cX0_walked_0_a 38 rfl
theorem dX0_walked_18 : decode cX0_walked 18 = .ok (.aload_n 0, 1) := dkAt dk15dsearch_cX0_walked_0_a 39 rfl
noncomputable def dk15dsearch_cX0_walked_40 : List (Nat × Instr × Nat) := [(19, .aload_n 1, 1), (20, .aload_n 0, 1), (21, .getfield 17, 3), (24, .iload 5, 2), (26, .iconst 1, 1), (27, .iand, 1), (28, .aaload, 1), (29, .aload_n 1, 1), (30, .getfield 37, 3), (33, .iload 5, 2), (35, .iaload, 1), (36, .aload_n 0, 1), (37, .getfield 17, 3), (40, .iload 5, 2), (42, .iconst 1, 1), (43, .iadd, 1), (44, .iconst 1, 1), (45, .iand, 1), (46, .aaload, 1), (47, .invokevirtual 40, 3), (50, .iinc 5 1, 3), (53, .goto (-44), 3)]
set_option maxRecDepth 100000 in
theorem dk15dsearch_cX0_walked_40_a : dkA cX0_walked dk15dsearch_cX0_walked_40 = true := by decide +kernel
theorem dX0_walked_19 : decode cX0_walked 19 = .ok (.aload_n 1, 1) := dkAt dk15dsearch_cX0_walked_40_a 0 rfl
theorem dX0_walked_20 : decode cX0_walked 20 = .ok (.aload_n 0, 1) := dkAt dk15dsearch_cX0_walked_40_a 1 rfl
theorem dX0_walked_21 : decode cX0_walked 21 = .ok (.getfield 17, 3) := dkAt dk15dsearch_cX0_walked_40_a 2 rfl
theorem dX0_walked_24 : decode cX0_walked 24 = .ok (.iload 5, 2) := dkAt dk15dsearch_cX0_walked_40_a 3 rfl
theorem dX0_walked_26 : decode cX0_walked 26 = .ok (.iconst 1, 1) := dkAt dk15dsearch_cX0_walked_40_a 4 rfl
theorem dX0_walked_27 : decode cX0_walked 27 = .ok (.iand, 1) := dkAt dk15dsearch_cX0_walked_40_a 5 rfl
theorem dX0_walked_28 : decode cX0_walked 28 = .ok (.aaload, 1) := dkAt dk15dsearch_cX0_walked_40_a 6 rfl
theorem dX0_walked_29 : decode cX0_walked 29 = .ok (.aload_n 1, 1) := dkAt dk15dsearch_cX0_walked_40_a 7 rfl
theorem dX0_walked_30 : decode cX0_walked 30 = .ok (.getfield 37, 3) := dkAt dk15dsearch_cX0_walked_40_a 8 rfl
theorem dX0_walked_33 : decode cX0_walked 33 = .ok (.iload 5, 2) := dkAt dk15dsearch_cX0_walked_40_a 9 rfl
theorem dX0_walked_35 : decode cX0_walked 35 = .ok (.iaload, 1) := dkAt dk15dsearch_cX0_walked_40_a 10 rfl
theorem dX0_walked_36 : decode cX0_walked 36 = .ok (.aload_n 0, 1) := dkAt dk15dsearch_cX0_walked_40_a 11 rfl
theorem dX0_walked_37 : decode cX0_walked 37 = .ok (.getfield 17, 3) := dkAt dk15dsearch_cX0_walked_40_a 12 rfl
theorem dX0_walked_40 : decode cX0_walked 40 = .ok (.iload 5, 2) := dkAt dk15dsearch_cX0_walked_40_a 13 rfl
theorem dX0_walked_42 : decode cX0_walked 42 = .ok (.iconst 1, 1) := dkAt dk15dsearch_cX0_walked_40_a 14 rfl
theorem dX0_walked_43 : decode cX0_walked 43 = .ok (.iadd, 1) := dkAt dk15dsearch_cX0_walked_40_a 15 rfl
theorem dX0_walked_44 : decode cX0_walked 44 = .ok (.iconst 1, 1) := dkAt dk15dsearch_cX0_walked_40_a 16 rfl
theorem dX0_walked_45 : decode cX0_walked 45 = .ok (.iand, 1) := dkAt dk15dsearch_cX0_walked_40_a 17 rfl
theorem dX0_walked_46 : decode cX0_walked 46 = .ok (.aaload, 1) := dkAt dk15dsearch_cX0_walked_40_a 18 rfl
theorem dX0_walked_47 : decode cX0_walked 47 = .ok (.invokevirtual 40, 3) := dkAt dk15dsearch_cX0_walked_40_a 19 rfl
theorem dX0_walked_50 : decode cX0_walked 50 = .ok (.iinc 5 1, 3) := dkAt dk15dsearch_cX0_walked_40_a 20 rfl
theorem dX0_walked_53 : decode cX0_walked 53 = .ok (.goto (-44), 3) := dkAt dk15dsearch_cX0_walked_40_a 21 rfl
theorem kc_xSearch1_0 : (.constantLong RX0 64 (-1) : Cond) ∈ wsX0_search := kc_of 875 rfl rfl rfl
theorem kc_xSearch1_1 : ∀ w ∈ wsX00, w ∈ wsX0_search := fun w h => List.mem_cons_of_mem _ (gin_wsX00 w h)
theorem kc_xSearch1_2 : (.fieldLink RX0 66 "MistHeaps$Chances" "foundTimes" "J" : Cond) ∈ wsX0_search := kc_of 284 rfl rfl rfl
theorem kc_xSearch1_3 : (.fieldLink RX0 17 "MistHeaps$Chances" "times" "[[J" : Cond) ∈ wsX0_search := kc_of 288 rfl rfl rfl
set_option maxHeartbeats 4000000 in
set_option maxRecDepth 100000 in
theorem c_xSearch1 (l : Launch) (dC : Nat → ClassId) (dI : Nat → Nat → Nat) (gd : Nat → Nat)  (sc : Nat) (ch : Nat) (aTp : Nat) (aHl : Nat) (aHs : Nat) (aWk : Nat) (aBk : Nat) (aFc : Nat) (bW : Nat) (bA : Nat) (bE : Nat) (bC : Nat) (dr : Nat) (tO : Nat) (hO : Nat) (ts : Nat) (nh : Nat) (n : Nat) (wz : Nat) (bz : Nat) (cl : Nat) (i : Nat) (mi : Int32) (sn : Int32) (sg : Int32) (cdd : Int32) (szz : Int32) (att : Int32) (nmb : Int32) (fr : Int32) (x : Int32) (ed : Int64) (ft : Int64) (mk : Int64) (cFc : ClassId) (cbW : ClassId) (cbA : ClassId) (cbE : ClassId) (cbC : ClassId) (cD : ClassId) (cTO : ClassId) (cHO : ClassId) (cT : ClassId) (cH : ClassId) (fFc : Nat → Int32) (fbW : Nat → Int32) (fbA : Nat → Int32) (fbE : Nat → Int32) (fbC : Nat → Int32) (fD : Nat → Int32) (g0 : Nat → Int32) (g1 : Nat → Int32) (g2 : Nat → Int32) (g3 : Nat → Int32) (g4 : Nat → Int32) (g5 : Nat → Int32) (g6 : Nat → Int32) (g7 : Nat → Int32) (ft0 : Nat → Int64) (ft1 : Nat → Int64) (ft2 : Nat → Int64) (rt : Nat → Nat) (rh : Nat → Nat) (tpv : Value) (cz : List pCla) (sz : Nat) (zcl : cl ≤ 10) (zE : ∀ k0, k0 < 10 → ∃ e0 : Nat, e0 ≤ 100 ∧ fbE k0 = nI e0) (zC : ∀ k0, k0 < 100 → okC (fbC k0)) (zHC : HC cl sg fbW fbA fbE fbC cz ∧ WfC cz) : Met l yX0_search wsX0_search ({ frames := 5, cells := 0, slots := 0, locals := 117 } : Room) (va_Pc [.ref ch, .ref sc, .int x, .long mk, .int 1] (fun U => U.heap.size = sz ∧ va_P (dC, dI) vwCl [(zo2lirrr ch ft fr dr tO hO), (zaI dr cD 36 fD), (zaR tO cTO 3 (fun i => if i < 3 then some (rt i) else none)), (zaL (rt 0) cT 36 ft0), (zaL (rt 1) cT 36 ft1), (zaL (rt 2) cT 36 ft2), (zaR hO cHO 8 (fun i => if i < 8 then some (rh i) else none)), (zaI (rh 0) cH 36 g0), (zaI (rh 1) cH 36 g1), (zaI (rh 2) cH 36 g2), (zaI (rh 3) cH 36 g3), (zaI (rh 4) cH 36 g4), (zaI (rh 5) cH 36 g5), (zaI (rh 6) cH 36 g6), (zaI (rh 7) cH 36 g7), (zo10ririliiriririr sc aTp (nI ts) aHl (nI nh) ed mi sn aHs (nI n) aWk (nI wz) aBk (nI bz) aFc), (zaI aFc cFc 6 fFc)] U.heap ∧ va_K (dC, dI) vwCl [(cD, .int), (cTO, .array .long), (cT, .long), (cT, .long), (cT, .long), (cHO, .array .int), (cH, .int), (cH, .int), (cH, .int), (cH, .int), (cH, .int), (cH, .int), (cH, .int), (cH, .int), (cFc, .int)] U ∧ va_D (fun _ => True) [(zo2lirrr ch ft fr dr tO hO), (zaI dr cD 36 fD), (zaR tO cTO 3 (fun i => if i < 3 then some (rt i) else none)), (zaL (rt 0) cT 36 ft0), (zaL (rt 1) cT 36 ft1), (zaL (rt 2) cT 36 ft2), (zaR hO cHO 8 (fun i => if i < 8 then some (rh i) else none)), (zaI (rh 0) cH 36 g0), (zaI (rh 1) cH 36 g1), (zaI (rh 2) cH 36 g2), (zaI (rh 3) cH 36 g3), (zaI (rh 4) cH 36 g4), (zaI (rh 5) cH 36 g5), (zaI (rh 6) cH 36 g6), (zaI (rh 7) cH 36 g7), (zo10ririliiriririr sc aTp (nI ts) aHl (nI nh) ed mi sn aHs (nI n) aWk (nI wz) aBk (nI bz) aFc), (zaI aFc cFc 6 fFc)] ∧ Gl gd (va_A [(zo2lirrr ch ft fr dr tO hO), (zaI dr cD 36 fD), (zaR tO cTO 3 (fun i => if i < 3 then some (rt i) else none)), (zaL (rt 0) cT 36 ft0), (zaL (rt 1) cT 36 ft1), (zaL (rt 2) cT 36 ft2), (zaR hO cHO 8 (fun i => if i < 8 then some (rh i) else none)), (zaI (rh 0) cH 36 g0), (zaI (rh 1) cH 36 g1), (zaI (rh 2) cH 36 g2), (zaI (rh 3) cH 36 g3), (zaI (rh 4) cH 36 g4), (zaI (rh 5) cH 36 g5), (zaI (rh 6) cH 36 g6), (zaI (rh 7) cH 36 g7), (zo10ririliiriririr sc aTp (nI ts) aHl (nI nh) ed mi sn aHs (nI n) aWk (nI wz) aBk (nI bz) aFc), (zaI aFc cFc 6 fFc)] sz) U ∧ Fz dC dI [(zo7iirrrriviii aHl sg (nI cl) bW bA bE bC cdd tpv szz att nmb), (zaI bW cbW 10 fbW), (zaI bA cbA 10 fbA), (zaI bE cbE 10 fbE), (zaI bC cbC 100 fbC)] [(cbW, .int), (cbA, .int), (cbE, .int), (cbC, .int)] (va_A [(zo2lirrr ch ft fr dr tO hO), (zaI dr cD 36 fD), (zaR tO cTO 3 (fun i => if i < 3 then some (rt i) else none)), (zaL (rt 0) cT 36 ft0), (zaL (rt 1) cT 36 ft1), (zaL (rt 2) cT 36 ft2), (zaR hO cHO 8 (fun i => if i < 8 then some (rh i) else none)), (zaI (rh 0) cH 36 g0), (zaI (rh 1) cH 36 g1), (zaI (rh 2) cH 36 g2), (zaI (rh 3) cH 36 g3), (zaI (rh 4) cH 36 g4), (zaI (rh 5) cH 36 g5), (zaI (rh 6) cH 36 g6), (zaI (rh 7) cH 36 g7), (zo10ririliiriririr sc aTp (nI ts) aHl (nI nh) ed mi sn aHs (nI n) aWk (nI wz) aBk (nI bz) aFc), (zaI aFc cFc 6 fFc)] sz) U)) (va_Qv (fun (u : (Int64) × (Int32) × (Nat → Int32) × (Nat → Int64) × (Nat → Int64) × (Nat → Int64) × (Nat → Int32) × (Nat → Int32) × (Nat → Int32) × (Nat → Int32) × (Nat → Int32) × (Nat → Int32) × (Nat → Int32) × (Nat → Int32) × (Nat → Int32)) => match u with | (ft9, fr9, fD9, ft09, ft19, ft29, g09, g19, g29, g39, g49, g59, g69, g79, fFc9) => True) (fun (u : (Int64) × (Int32) × (Nat → Int32) × (Nat → Int64) × (Nat → Int64) × (Nat → Int64) × (Nat → Int32) × (Nat → Int32) × (Nat → Int32) × (Nat → Int32) × (Nat → Int32) × (Nat → Int32) × (Nat → Int32) × (Nat → Int32) × (Nat → Int32)) (t : State) => match u with | (ft9, fr9, fD9, ft09, ft19, ft29, g09, g19, g29, g39, g49, g59, g69, g79, fFc9) => va_P (dC, dI) vwCl [(zo2lirrr ch ft9 fr9 dr tO hO), (zaI dr cD 36 fD9), (zaR tO cTO 3 (fun i => if i < 3 then some (rt i) else none)), (zaL (rt 0) cT 36 ft09), (zaL (rt 1) cT 36 ft19), (zaL (rt 2) cT 36 ft29), (zaR hO cHO 8 (fun i => if i < 8 then some (rh i) else none)), (zaI (rh 0) cH 36 g09), (zaI (rh 1) cH 36 g19), (zaI (rh 2) cH 36 g29), (zaI (rh 3) cH 36 g39), (zaI (rh 4) cH 36 g49), (zaI (rh 5) cH 36 g59), (zaI (rh 6) cH 36 g69), (zaI (rh 7) cH 36 g79), (zo10ririliiriririr sc aTp (nI ts) aHl (nI nh) ed mi sn aHs (nI n) aWk (nI wz) aBk (nI bz) aFc), (zaI aFc cFc 6 fFc9)] t.heap ∧ va_K (dC, dI) vwCl [(cD, .int), (cTO, .array .long), (cT, .long), (cT, .long), (cT, .long), (cHO, .array .int), (cH, .int), (cH, .int), (cH, .int), (cH, .int), (cH, .int), (cH, .int), (cH, .int), (cH, .int), (cFc, .int)] t ∧ va_D (va_A [(zo2lirrr ch ft fr dr tO hO), (zaI dr cD 36 fD), (zaR tO cTO 3 (fun i => if i < 3 then some (rt i) else none)), (zaL (rt 0) cT 36 ft0), (zaL (rt 1) cT 36 ft1), (zaL (rt 2) cT 36 ft2), (zaR hO cHO 8 (fun i => if i < 8 then some (rh i) else none)), (zaI (rh 0) cH 36 g0), (zaI (rh 1) cH 36 g1), (zaI (rh 2) cH 36 g2), (zaI (rh 3) cH 36 g3), (zaI (rh 4) cH 36 g4), (zaI (rh 5) cH 36 g5), (zaI (rh 6) cH 36 g6), (zaI (rh 7) cH 36 g7), (zo10ririliiriririr sc aTp (nI ts) aHl (nI nh) ed mi sn aHs (nI n) aWk (nI wz) aBk (nI bz) aFc), (zaI aFc cFc 6 fFc)] sz) [(zo2lirrr ch ft9 fr9 dr tO hO), (zaI dr cD 36 fD9), (zaR tO cTO 3 (fun i => if i < 3 then some (rt i) else none)), (zaL (rt 0) cT 36 ft09), (zaL (rt 1) cT 36 ft19), (zaL (rt 2) cT 36 ft29), (zaR hO cHO 8 (fun i => if i < 8 then some (rh i) else none)), (zaI (rh 0) cH 36 g09), (zaI (rh 1) cH 36 g19), (zaI (rh 2) cH 36 g29), (zaI (rh 3) cH 36 g39), (zaI (rh 4) cH 36 g49), (zaI (rh 5) cH 36 g59), (zaI (rh 6) cH 36 g69), (zaI (rh 7) cH 36 g79), (zo10ririliiriririr sc aTp (nI ts) aHl (nI nh) ed mi sn aHs (nI n) aWk (nI wz) aBk (nI bz) aFc), (zaI aFc cFc 6 fFc9)]) (va_A [(zo2lirrr ch ft fr dr tO hO), (zaI dr cD 36 fD), (zaR tO cTO 3 (fun i => if i < 3 then some (rt i) else none)), (zaL (rt 0) cT 36 ft0), (zaL (rt 1) cT 36 ft1), (zaL (rt 2) cT 36 ft2), (zaR hO cHO 8 (fun i => if i < 8 then some (rh i) else none)), (zaI (rh 0) cH 36 g0), (zaI (rh 1) cH 36 g1), (zaI (rh 2) cH 36 g2), (zaI (rh 3) cH 36 g3), (zaI (rh 4) cH 36 g4), (zaI (rh 5) cH 36 g5), (zaI (rh 6) cH 36 g6), (zaI (rh 7) cH 36 g7), (zo10ririliiriririr sc aTp (nI ts) aHl (nI nh) ed mi sn aHs (nI n) aWk (nI wz) aBk (nI bz) aFc), (zaI aFc cFc 6 fFc)] sz)) 0 0 (va_A [(zo2lirrr ch ft fr dr tO hO), (zaI dr cD 36 fD), (zaR tO cTO 3 (fun i => if i < 3 then some (rt i) else none)), (zaL (rt 0) cT 36 ft0), (zaL (rt 1) cT 36 ft1), (zaL (rt 2) cT 36 ft2), (zaR hO cHO 8 (fun i => if i < 8 then some (rh i) else none)), (zaI (rh 0) cH 36 g0), (zaI (rh 1) cH 36 g1), (zaI (rh 2) cH 36 g2), (zaI (rh 3) cH 36 g3), (zaI (rh 4) cH 36 g4), (zaI (rh 5) cH 36 g5), (zaI (rh 6) cH 36 g6), (zaI (rh 7) cH 36 g7), (zo10ririliiriririr sc aTp (nI ts) aHl (nI nh) ed mi sn aHs (nI n) aWk (nI wz) aBk (nI bz) aFc), (zaI aFc cFc 6 fFc)] sz) := by
  refine met_ofQ (cc := cX0_search) (maxL := 11) (ret := none) (by decide) rfl ?_
  intro p e s m args below meth c s₁ Q B hml hv hQ
  obtain ⟨rfl, hsz, hP, hK, hD0, hG, hZ⟩ := hv
  have hx := B.exec
  have hb := B.bytes
  have hr := B.returns
  have hts := atoms_spec (ws := wsX0_search) B.pre
  have hown : s.vm.findClass RX0 = some m.cls := findClass_of_methodNamed B.named
  have hlocks := B.notSynchronized
  subst hsz
  have hD := hD0.self (sz := s.heap.size)
  generalize hAe : va_A [(zo2lirrr ch ft fr dr tO hO), (zaI dr cD 36 fD), (zaR tO cTO 3 (fun i => if i < 3 then some (rt i) else none)), (zaL (rt 0) cT 36 ft0), (zaL (rt 1) cT 36 ft1), (zaL (rt 2) cT 36 ft2), (zaR hO cHO 8 (fun i => if i < 8 then some (rh i) else none)), (zaI (rh 0) cH 36 g0), (zaI (rh 1) cH 36 g1), (zaI (rh 2) cH 36 g2), (zaI (rh 3) cH 36 g3), (zaI (rh 4) cH 36 g4), (zaI (rh 5) cH 36 g5), (zaI (rh 6) cH 36 g6), (zaI (rh 7) cH 36 g7), (zo10ririliiriririr sc aTp (nI ts) aHl (nI nh) ed mi sn aHs (nI n) aWk (nI wz) aBk (nI bz) aFc), (zaI aFc cFc 6 fFc)] s.heap.size = A at hD hQ hG hZ ⊢
  have hA : ∀ q : Nat, s.heap.size ≤ q → A q := fun q h => by rw [← hAe]; exact Or.inr h
  have hS : va_S A s.heap s.heap [] := va_S.rf
  have hl := lv_entry [.ref ch, .ref sc, .int x, .long mk, .int 1] (n := 11) (Nat.le_of_ble_eq_true rfl)
  rw [lg_entry_eq]
  generalize (lg_sl [.ref ch, .ref sc, .int x, .long mk, .int 1] ++ List.replicate (11 - (lg_sl [.ref ch, .ref sc, .int x, .long mk, .int 1]).length) Slot.unset).toArray = ls at hl ⊢
  generalize hag : ([.ref ch, .ref sc, .int x, .long mk, .int 1] : List Value).toArray = args at hts hQ ⊢
  have hl : lv_has ls 11 [(0, .ref ch), (1, .ref sc), (2, .int x), (3, .long mk), (5, .int 1)] := hl
  obtain ⟨H, hH⟩ : ∃ H : Heap, H = s.heap := ⟨_, rfl⟩
  rw [← hH] at hP
  rw [← hH]
  have hS : va_S A s.heap H [] := by rw [hH]; exact hS
  obtain ⟨locs, hlo⟩ : ∃ L : List Loc, L = [] := ⟨_, rfl⟩
  rw [← hlo] at hS
  rw [← hlo]
  clear hH hlo
  refine lv_aload_n hx hb dX0_search_0 rfl (lv_at hl 0 rfl) ?_
  refine lv_aload_n hx hb dX0_search_1 rfl (lv_at hl 1 rfl) ?_
  refine lv_iload_n hx hb dX0_search_2 rfl (lv_at hl 2 rfl) ?_
  have hPc := hP.sub (ws' := [(zo2lirrr ch ft fr dr tO hO), (zaI dr cD 36 fD), (zaR tO cTO 3 (fun i => if i < 3 then some (rt i) else none)), (zaL (rt 0) cT 36 ft0), (zo10ririliiriririr sc aTp (nI ts) aHl (nI nh) ed mi sn aHs (nI n) aWk (nI wz) aBk (nI bz) aFc), (zaI aFc cFc 6 fFc)]) [0, 1, 2, 3, 15, 16] rfl
  have hDc := hD.sub (ws' := [(zo2lirrr ch ft fr dr tO hO), (zaI dr cD 36 fD), (zaR tO cTO 3 (fun i => if i < 3 then some (rt i) else none)), (zaL (rt 0) cT 36 ft0), (zo10ririliiriririr sc aTp (nI ts) aHl (nI nh) ed mi sn aHs (nI n) aWk (nI wz) aBk (nI bz) aFc), (zaI aFc cFc 6 fFc)]) [0, 1, 2, 3, 15, 16] (by decide) rfl
  have hKc := hK.sub (tys' := [(cD, .int), (cTO, .array .long), (cT, .long), (cFc, .int)]) [0, 1, 2, 14] rfl
  have hFc := va_free (wc := [(zo2lirrr ch ft fr dr tO hO), (zaI dr cD 36 fD), (zaR tO cTO 3 (fun i => if i < 3 then some (rt i) else none)), (zaL (rt 0) cT 36 ft0), (zo10ririliiriririr sc aTp (nI ts) aHl (nI nh) ed mi sn aHs (nI n) aWk (nI wz) aBk (nI bz) aFc), (zaI aFc cFc 6 fFc)]) hD hS hA [0, 1, 2, 3, 15, 16] rfl
  refine va_callv (va_runV (As := [.ref sc, .int x]) (rest := []) ⟨hx, hb, hml, hown, hts⟩ (c_xBegin l dC dI gd  sc ch aTp aHl aHs aWk aBk aFc bW bA bE bC dr tO hO ts nh n wz bz cl i mi sn sg cdd szz att nmb fr x ed ft cFc cbW cbA cbE cbC cD cTO cT fFc fbW fbA fbE fbC fD ft0 rt tpv cz H.size (zcl) (zE) (zC) (zHC)) (cwV 2 hts gX0_search_X0_begin rfl rfl rfl hd_yX0_begin ⟨Nat.le_of_ble_eq_true rfl, Nat.le_of_ble_eq_true rfl⟩) ⟨fun a U g mk q => by obtain ⟨q0, q1, qP, qK, qD, qhG, qhZ⟩ := q; exact ⟨q0, q1, qP, va_K.moved (u := U) (U := U.calling g mk a) (Vm.Alike.refl U.vm) qK, qD, qhG.same rfl rfl, qhZ.same rfl rfl⟩, va_recv hK hP (ci := 2) (q := (RX0, TX0, 5)) (q0 := 0) rfl rfl, fun U hU hW => ⟨rfl, by rw [hU], by rw [hU]; exact hPc, va_K.moved hW.alike hKc, hDc.weaken (fun _ _ _ _ => trivial), hG.call hS hU hW (fun q h => hFc q h), (hZ.sub [0, 1, 2, 3, 4] [0, 1, 2, 3] rfl rfl).call hS hU hW (fun q h => hFc q h)⟩⟩ rfl rfl hl.1 rfl (lv_room (Nat.le_of_ble_eq_true rfl)) dX0_search_3 ⟨Nat.le_of_ble_eq_true rfl, Nat.le_of_ble_eq_true rfl⟩) hS (fun q _ h => hFc q h) hFc (fun u tC H1 locs htC hvm hw_2 hB hz1 hk1 hS => ?_)
  obtain ⟨fD9_3, ft09_4, fFc9_5⟩ := u
  try dsimp only at hw_2 hB
  obtain ⟨hP1, hK1, hD1⟩ := hB
  rw [htC] at hP1
  have hK1 := va_K.moved hvm.symm hK1
  obtain ⟨hP, hD⟩ := va_join (wr := [(zaL (rt 1) cT 36 ft1), (zaL (rt 2) cT 36 ft2), (zaR hO cHO 8 (fun i => if i < 8 then some (rh i) else none)), (zaI (rh 0) cH 36 g0), (zaI (rh 1) cH 36 g1), (zaI (rh 2) cH 36 g2), (zaI (rh 3) cH 36 g3), (zaI (rh 4) cH 36 g4), (zaI (rh 5) cH 36 g5), (zaI (rh 6) cH 36 g6), (zaI (rh 7) cH 36 g7)]) (w1 := [(zo2lirrr ch ft fr dr tO hO), (zaI dr cD 36 fD9_3), (zaR tO cTO 3 (fun i => if i < 3 then some (rt i) else none)), (zaL (rt 0) cT 36 ft09_4), (zo10ririliiriririr sc aTp (nI ts) aHl (nI nh) ed mi sn aHs (nI n) aWk (nI wz) aBk (nI bz) aFc), (zaI aFc cFc 6 fFc9_5)]) hP hD [0, 1, 2, 3, 15, 16] [4, 5, 6, 7, 8, 9, 10, 11, 12, 13, 14] rfl rfl (by decide) (by decide) hk1 hFc hP1 hD1
  have hK := (hK.sub (tys' := [(cT, .long), (cT, .long), (cHO, .array .int), (cH, .int), (cH, .int), (cH, .int), (cH, .int), (cH, .int), (cH, .int), (cH, .int), (cH, .int)]) [3, 4, 5, 6, 7, 8, 9, 10, 11, 12, 13] rfl).app hK1
  generalize H1 = H at hP hS ⊢
  have hP : va_P (dC, dI) vwCl [(zaL (rt 1) cT 36 ft1), (zaL (rt 2) cT 36 ft2), (zaR hO cHO 8 (fun i => if i < 8 then some (rh i) else none)), (zaI (rh 0) cH 36 g0), (zaI (rh 1) cH 36 g1), (zaI (rh 2) cH 36 g2), (zaI (rh 3) cH 36 g3), (zaI (rh 4) cH 36 g4), (zaI (rh 5) cH 36 g5), (zaI (rh 6) cH 36 g6), (zaI (rh 7) cH 36 g7), (zo2lirrr ch ft fr dr tO hO), (zaI dr cD 36 fD9_3), (zaR tO cTO 3 (fun i => if i < 3 then some (rt i) else none)), (zaL (rt 0) cT 36 ft09_4), (zo10ririliiriririr sc aTp (nI ts) aHl (nI nh) ed mi sn aHs (nI n) aWk (nI wz) aBk (nI bz) aFc), (zaI aFc cFc 6 fFc9_5)] H := hP
  have hD : va_D A [(zaL (rt 1) cT 36 ft1), (zaL (rt 2) cT 36 ft2), (zaR hO cHO 8 (fun i => if i < 8 then some (rh i) else none)), (zaI (rh 0) cH 36 g0), (zaI (rh 1) cH 36 g1), (zaI (rh 2) cH 36 g2), (zaI (rh 3) cH 36 g3), (zaI (rh 4) cH 36 g4), (zaI (rh 5) cH 36 g5), (zaI (rh 6) cH 36 g6), (zaI (rh 7) cH 36 g7), (zo2lirrr ch ft fr dr tO hO), (zaI dr cD 36 fD9_3), (zaR tO cTO 3 (fun i => if i < 3 then some (rt i) else none)), (zaL (rt 0) cT 36 ft09_4), (zo10ririliiriririr sc aTp (nI ts) aHl (nI nh) ed mi sn aHs (nI n) aWk (nI wz) aBk (nI bz) aFc), (zaI aFc cFc 6 fFc9_5)] := hD
  have hK : va_K (dC, dI) vwCl [(cT, .long), (cT, .long), (cHO, .array .int), (cH, .int), (cH, .int), (cH, .int), (cH, .int), (cH, .int), (cH, .int), (cH, .int), (cH, .int), (cD, .int), (cTO, .array .long), (cT, .long), (cFc, .int)] s := hK
  refine lv_aload_n hx hb dX0_search_6 rfl (lv_at hl 0 rfl) ?_
  refine lv_aload_n hx hb dX0_search_7 rfl (lv_at hl 1 rfl) ?_
  refine lv_lload_n hx hb dX0_search_8 rfl (lv_at hl 3 rfl) ?_
  have hPc := hP.sub (ws' := [(zo2lirrr ch ft fr dr tO hO), (zaI dr cD 36 fD9_3), (zaR hO cHO 8 (fun i => if i < 8 then some (rh i) else none)), (zaI (rh 0) cH 36 g0), (zaI (rh 1) cH 36 g1), (zaI (rh 2) cH 36 g2), (zaI (rh 3) cH 36 g3), (zaI (rh 4) cH 36 g4), (zaI (rh 5) cH 36 g5), (zaI (rh 6) cH 36 g6), (zaI (rh 7) cH 36 g7), (zo10ririliiriririr sc aTp (nI ts) aHl (nI nh) ed mi sn aHs (nI n) aWk (nI wz) aBk (nI bz) aFc)]) [11, 12, 2, 3, 4, 5, 6, 7, 8, 9, 10, 15] rfl
  have hDc := hD.sub (ws' := [(zo2lirrr ch ft fr dr tO hO), (zaI dr cD 36 fD9_3), (zaR hO cHO 8 (fun i => if i < 8 then some (rh i) else none)), (zaI (rh 0) cH 36 g0), (zaI (rh 1) cH 36 g1), (zaI (rh 2) cH 36 g2), (zaI (rh 3) cH 36 g3), (zaI (rh 4) cH 36 g4), (zaI (rh 5) cH 36 g5), (zaI (rh 6) cH 36 g6), (zaI (rh 7) cH 36 g7), (zo10ririliiriririr sc aTp (nI ts) aHl (nI nh) ed mi sn aHs (nI n) aWk (nI wz) aBk (nI bz) aFc)]) [11, 12, 2, 3, 4, 5, 6, 7, 8, 9, 10, 15] (by decide) rfl
  have hKc := hK.sub (tys' := [(cD, .int), (cHO, .array .int), (cH, .int), (cH, .int), (cH, .int), (cH, .int), (cH, .int), (cH, .int), (cH, .int), (cH, .int)]) [11, 2, 3, 4, 5, 6, 7, 8, 9, 10] rfl
  have hFc := va_free (wc := [(zo2lirrr ch ft fr dr tO hO), (zaI dr cD 36 fD9_3), (zaR hO cHO 8 (fun i => if i < 8 then some (rh i) else none)), (zaI (rh 0) cH 36 g0), (zaI (rh 1) cH 36 g1), (zaI (rh 2) cH 36 g2), (zaI (rh 3) cH 36 g3), (zaI (rh 4) cH 36 g4), (zaI (rh 5) cH 36 g5), (zaI (rh 6) cH 36 g6), (zaI (rh 7) cH 36 g7), (zo10ririliiriririr sc aTp (nI ts) aHl (nI nh) ed mi sn aHs (nI n) aWk (nI wz) aBk (nI bz) aFc)]) hD hS hA [11, 12, 2, 3, 4, 5, 6, 7, 8, 9, 10, 15] rfl
  refine va_callv (va_runV (As := [.ref sc, .long mk]) (rest := []) ⟨hx, hb, hml, hown, hts⟩ (c_xTellHits l dC dI gd sc ch aTp aHl aHs aWk aBk aFc dr tO hO ts nh n wz bz i mi sn fr ed ft mk cD cHO cH fD9_3 g0 g1 g2 g3 g4 g5 g6 g7 rh H.size) (cwV 2 hts gX0_search_X0_tellHits rfl rfl rfl hd_yX0_tellHits ⟨Nat.le_of_ble_eq_true rfl, Nat.le_of_ble_eq_true rfl⟩) ⟨fun a U g mk q => by obtain ⟨q0, q1, qP, qK, qD, qhG⟩ := q; exact ⟨q0, q1, qP, va_K.moved (u := U) (U := U.calling g mk a) (Vm.Alike.refl U.vm) qK, qD, qhG.same rfl rfl⟩, va_recv hK hP (ci := 2) (q := (RX0, TX0, 5)) (q0 := 11) rfl rfl, fun U hU hW => ⟨rfl, by rw [hU], by rw [hU]; exact hPc, va_K.moved hW.alike hKc, hDc.weaken (fun _ _ _ _ => trivial), hG.call hS hU hW (fun q h => hFc q h)⟩⟩ rfl rfl hl.1 rfl (lv_room (Nat.le_of_ble_eq_true rfl)) dX0_search_9 ⟨Nat.le_of_ble_eq_true rfl, Nat.le_of_ble_eq_true rfl⟩) hS (fun q _ h => hFc q h) hFc (fun u tC H1 locs htC hvm hw_7 hB hz1 hk1 hS => ?_)
  obtain ⟨g09_8, g19_9, g29_10, g39_11, g49_12, g59_13, g69_14, g79_15⟩ := u
  try dsimp only at hw_7 hB
  obtain ⟨hP1, hK1, hD1⟩ := hB
  rw [htC] at hP1
  have hK1 := va_K.moved hvm.symm hK1
  obtain ⟨hP, hD⟩ := va_join (wr := [(zaL (rt 1) cT 36 ft1), (zaL (rt 2) cT 36 ft2), (zaR tO cTO 3 (fun i => if i < 3 then some (rt i) else none)), (zaL (rt 0) cT 36 ft09_4), (zaI aFc cFc 6 fFc9_5)]) (w1 := [(zo2lirrr ch ft fr dr tO hO), (zaI dr cD 36 fD9_3), (zaR hO cHO 8 (fun i => if i < 8 then some (rh i) else none)), (zaI (rh 0) cH 36 g09_8), (zaI (rh 1) cH 36 g19_9), (zaI (rh 2) cH 36 g29_10), (zaI (rh 3) cH 36 g39_11), (zaI (rh 4) cH 36 g49_12), (zaI (rh 5) cH 36 g59_13), (zaI (rh 6) cH 36 g69_14), (zaI (rh 7) cH 36 g79_15), (zo10ririliiriririr sc aTp (nI ts) aHl (nI nh) ed mi sn aHs (nI n) aWk (nI wz) aBk (nI bz) aFc)]) hP hD [11, 12, 2, 3, 4, 5, 6, 7, 8, 9, 10, 15] [0, 1, 13, 14, 16] rfl rfl (by decide) (by decide) hk1 hFc hP1 hD1
  have hK := (hK.sub (tys' := [(cT, .long), (cT, .long), (cTO, .array .long), (cT, .long), (cFc, .int)]) [0, 1, 12, 13, 14] rfl).app hK1
  generalize H1 = H at hP hS ⊢
  have hP : va_P (dC, dI) vwCl [(zaL (rt 1) cT 36 ft1), (zaL (rt 2) cT 36 ft2), (zaR tO cTO 3 (fun i => if i < 3 then some (rt i) else none)), (zaL (rt 0) cT 36 ft09_4), (zaI aFc cFc 6 fFc9_5), (zo2lirrr ch ft fr dr tO hO), (zaI dr cD 36 fD9_3), (zaR hO cHO 8 (fun i => if i < 8 then some (rh i) else none)), (zaI (rh 0) cH 36 g09_8), (zaI (rh 1) cH 36 g19_9), (zaI (rh 2) cH 36 g29_10), (zaI (rh 3) cH 36 g39_11), (zaI (rh 4) cH 36 g49_12), (zaI (rh 5) cH 36 g59_13), (zaI (rh 6) cH 36 g69_14), (zaI (rh 7) cH 36 g79_15), (zo10ririliiriririr sc aTp (nI ts) aHl (nI nh) ed mi sn aHs (nI n) aWk (nI wz) aBk (nI bz) aFc)] H := hP
  have hD : va_D A [(zaL (rt 1) cT 36 ft1), (zaL (rt 2) cT 36 ft2), (zaR tO cTO 3 (fun i => if i < 3 then some (rt i) else none)), (zaL (rt 0) cT 36 ft09_4), (zaI aFc cFc 6 fFc9_5), (zo2lirrr ch ft fr dr tO hO), (zaI dr cD 36 fD9_3), (zaR hO cHO 8 (fun i => if i < 8 then some (rh i) else none)), (zaI (rh 0) cH 36 g09_8), (zaI (rh 1) cH 36 g19_9), (zaI (rh 2) cH 36 g29_10), (zaI (rh 3) cH 36 g39_11), (zaI (rh 4) cH 36 g49_12), (zaI (rh 5) cH 36 g59_13), (zaI (rh 6) cH 36 g69_14), (zaI (rh 7) cH 36 g79_15), (zo10ririliiriririr sc aTp (nI ts) aHl (nI nh) ed mi sn aHs (nI n) aWk (nI wz) aBk (nI bz) aFc)] := hD
  have hK : va_K (dC, dI) vwCl [(cT, .long), (cT, .long), (cTO, .array .long), (cT, .long), (cFc, .int), (cD, .int), (cHO, .array .int), (cH, .int), (cH, .int), (cH, .int), (cH, .int), (cH, .int), (cH, .int), (cH, .int), (cH, .int)] s := hK
  refine lv_aload_n hx hb dX0_search_12 rfl (lv_at hl 0 rfl) ?_
  refine lv_ldc2 (v := (-1)) hx hb hown (hts (.constantLong RX0 64 (-1)) kc_xSearch1_0) dX0_search_13 ?_
  refine va_put (D := (dC, dI)) (ci := 2) (v := .long (-1)) (ty := .long) (C := RX0) (T := TX0) (N := 5) hx hb hts kc_xSearch1_1 tyX0 tyX0_ok nmX0 hown hK hP hD hS 5 rfl rfl 0 (by decide) (hts (.fieldLink RX0 66 "MistHeaps$Chances" "foundTimes" "J") kc_xSearch1_2) (fun _ h9 => h9) rfl (by decide +kernel) rfl rfl (Nat.le_of_ble_eq_true rfl) dX0_search_16 (fun H locs hP hD hS => ?_)
  have hP : va_P (dC, dI) vwCl [(zaL (rt 1) cT 36 ft1), (zaL (rt 2) cT 36 ft2), (zaR tO cTO 3 (fun i => if i < 3 then some (rt i) else none)), (zaL (rt 0) cT 36 ft09_4), (zaI aFc cFc 6 fFc9_5), (zo2lirrr ch (-1) fr dr tO hO), (zaI dr cD 36 fD9_3), (zaR hO cHO 8 (fun i => if i < 8 then some (rh i) else none)), (zaI (rh 0) cH 36 g09_8), (zaI (rh 1) cH 36 g19_9), (zaI (rh 2) cH 36 g29_10), (zaI (rh 3) cH 36 g39_11), (zaI (rh 4) cH 36 g49_12), (zaI (rh 5) cH 36 g59_13), (zaI (rh 6) cH 36 g69_14), (zaI (rh 7) cH 36 g79_15), (zo10ririliiriririr sc aTp (nI ts) aHl (nI nh) ed mi sn aHs (nI n) aWk (nI wz) aBk (nI bz) aFc)] H := hP
  have hD : va_D A [(zaL (rt 1) cT 36 ft1), (zaL (rt 2) cT 36 ft2), (zaR tO cTO 3 (fun i => if i < 3 then some (rt i) else none)), (zaL (rt 0) cT 36 ft09_4), (zaI aFc cFc 6 fFc9_5), (zo2lirrr ch (-1) fr dr tO hO), (zaI dr cD 36 fD9_3), (zaR hO cHO 8 (fun i => if i < 8 then some (rh i) else none)), (zaI (rh 0) cH 36 g09_8), (zaI (rh 1) cH 36 g19_9), (zaI (rh 2) cH 36 g29_10), (zaI (rh 3) cH 36 g39_11), (zaI (rh 4) cH 36 g49_12), (zaI (rh 5) cH 36 g59_13), (zaI (rh 6) cH 36 g69_14), (zaI (rh 7) cH 36 g79_15), (zo10ririliiriririr sc aTp (nI ts) aHl (nI nh) ed mi sn aHs (nI n) aWk (nI wz) aBk (nI bz) aFc)] := hD
  refine lv_iload hx hb dX0_search_19 (lv_at hl 4 rfl) ?_
  refine lv_iconst (v := 1) hx hb dX0_search_21 (by decide) ?_
  refine lv_isub hx hb dX0_search_22 ?_
  refine qi_as (y := 0) (by decide) ?_
  refine lv_istore (lv' := [(6, .int 0), (0, .ref ch), (1, .ref sc), (2, .int x), (3, .long mk), (5, .int 1)]) hx hb dX0_search_23 hl (by decide) rfl (fun ls hl => ?_)
  refine lv_iconst (v := 0) hx hb dX0_search_25 (by decide) ?_
  refine lv_istore (lv' := [(7, .int 0), (6, .int 0), (0, .ref ch), (1, .ref sc), (2, .int x), (3, .long mk), (5, .int 1)]) hx hb dX0_search_26 hl (by decide) rfl (fun ls hl => ?_)
  refine lv_iload hx hb dX0_search_28 (lv_at hl 0 rfl) ?_
  refine lv_iconst (v := 1) hx hb dX0_search_30 (by decide) ?_
  refine lv_iconst (v := 3) hx hb dX0_search_31 (by decide) ?_
  refine lv_iload hx hb dX0_search_32 (lv_at hl 1 rfl) ?_
  refine lv_imul hx hb dX0_search_34 ?_
  refine qi_as (y := 0) (by decide) ?_
  refine lv_ishl hx hb dX0_search_35 ?_
  refine qi_as (y := 1) (by decide) ?_
  refine lv_icmp_ge (tgt := 138) hx hb dX0_search_36 (by decide) (fun c_16 => absurd c_16 (by decide)) (fun _ => ?_)
  refine lv_iconst (v := 0) hx hb dX0_search_39 (by decide) ?_
  refine lv_istore (lv' := [(8, .int 0), (7, .int 0), (6, .int 0), (0, .ref ch), (1, .ref sc), (2, .int x), (3, .long mk), (5, .int 1)]) hx hb dX0_search_40 hl (by decide) rfl (fun ls hl => ?_)
  refine lv_iload hx hb dX0_search_42 (lv_at hl 0 rfl) ?_
  refine lv_iload hx hb dX0_search_44 (lv_at hl 2 rfl) ?_
  refine lv_icmp_ge (tgt := 119) hx hb dX0_search_46 (by decide) (fun _ => ?_) (fun c_17 => absurd c_17 (by decide))
  refine lv_aload_n hx hb dX0_search_119 rfl (lv_at hl 3 rfl) ?_
  refine lv_aload_n hx hb dX0_search_120 rfl (lv_at hl 3 rfl) ?_
  refine va_get (D := (dC, dI)) (ci := 2) (v := .ref tO) (C := RX0) (T := TX0) (N := 5) hx hb hts kc_xSearch1_1 hown hK hP 5 rfl rfl 3 (by decide) (hts (.fieldLink RX0 17 "MistHeaps$Chances" "times" "[[J") kc_xSearch1_3) (fun _ h9 => h9) rfl dX0_search_121 ?_
  refine lv_iload hx hb dX0_search_124 (lv_at hl 2 rfl) ?_
  refine va_alda hx hb hK hP 2 2 rfl rfl (vp_in_nI (n := 0) (N := 3) (by omega) (by omega)) dX0_search_126 ?_
  refine qq_as (v := .ref (rt 0)) (rfl) ?_
  refine lv_iload hx hb dX0_search_127 (lv_at hl 1 rfl) ?_
  have hPc := hP.sub (ws' := [(zo2lirrr ch (-1) fr dr tO hO), (zaL (rt 0) cT 36 ft09_4), (zaR hO cHO 8 (fun i => if i < 8 then some (rh i) else none)), (zaI (rh 0) cH 36 g09_8), (zaI (rh 1) cH 36 g19_9), (zaI (rh 2) cH 36 g29_10), (zaI (rh 3) cH 36 g39_11), (zaI (rh 4) cH 36 g49_12), (zaI (rh 5) cH 36 g59_13), (zaI (rh 6) cH 36 g69_14), (zaI (rh 7) cH 36 g79_15)]) [5, 3, 7, 8, 9, 10, 11, 12, 13, 14, 15] rfl
  have hDc := hD.sub (ws' := [(zo2lirrr ch (-1) fr dr tO hO), (zaL (rt 0) cT 36 ft09_4), (zaR hO cHO 8 (fun i => if i < 8 then some (rh i) else none)), (zaI (rh 0) cH 36 g09_8), (zaI (rh 1) cH 36 g19_9), (zaI (rh 2) cH 36 g29_10), (zaI (rh 3) cH 36 g39_11), (zaI (rh 4) cH 36 g49_12), (zaI (rh 5) cH 36 g59_13), (zaI (rh 6) cH 36 g69_14), (zaI (rh 7) cH 36 g79_15)]) [5, 3, 7, 8, 9, 10, 11, 12, 13, 14, 15] (by decide) rfl
  have hKc := hK.sub (tys' := [(cT, .long), (cHO, .array .int), (cH, .int), (cH, .int), (cH, .int), (cH, .int), (cH, .int), (cH, .int), (cH, .int), (cH, .int)]) [3, 6, 7, 8, 9, 10, 11, 12, 13, 14] rfl
  have hFc := va_free (wc := [(zo2lirrr ch (-1) fr dr tO hO), (zaL (rt 0) cT 36 ft09_4), (zaR hO cHO 8 (fun i => if i < 8 then some (rh i) else none)), (zaI (rh 0) cH 36 g09_8), (zaI (rh 1) cH 36 g19_9), (zaI (rh 2) cH 36 g29_10), (zaI (rh 3) cH 36 g39_11), (zaI (rh 4) cH 36 g49_12), (zaI (rh 5) cH 36 g59_13), (zaI (rh 6) cH 36 g69_14), (zaI (rh 7) cH 36 g79_15)]) hD hS hA [5, 3, 7, 8, 9, 10, 11, 12, 13, 14, 15] rfl
  refine va_callv (va_runV (As := [.ref (rt 0), .int 0]) (rest := []) ⟨hx, hb, hml, hown, hts⟩ (c_xTryLast l dC dI ch dr tO hO i fr 0 (-1) cHO cH g09_8 g19_9 g29_10 g39_11 g49_12 g59_13 g69_14 g79_15 rh (rt 0) cT ft09_4 H.size) (cwV 2 hts gX0_search_X0_tryLast rfl rfl rfl hd_yX0_tryLast ⟨Nat.le_of_ble_eq_true rfl, Nat.le_of_ble_eq_true rfl⟩) ⟨fun a U g mk q => by obtain ⟨q0, q1, qP, qK, qD⟩ := q; exact ⟨q0, q1, qP, va_K.moved (u := U) (U := U.calling g mk a) (Vm.Alike.refl U.vm) qK, qD⟩, va_recv hK hP (ci := 2) (q := (RX0, TX0, 5)) (q0 := 5) rfl rfl, fun U hU hW => ⟨rfl, by rw [hU], by rw [hU]; exact hPc, va_K.moved hW.alike hKc, hDc.weaken (fun _ _ _ _ => trivial)⟩⟩ rfl rfl hl.1 rfl (lv_room (Nat.le_of_ble_eq_true rfl)) dX0_search_129 ⟨Nat.le_of_ble_eq_true rfl, Nat.le_of_ble_eq_true rfl⟩) hS (fun q _ h => hFc q h) hFc (fun u tC H1 locs htC hvm hw_19 hB hz1 hk1 hS => ?_)
  obtain ⟨ft9_20, fr9_21⟩ := u
  try dsimp only at hw_19 hB
  obtain ⟨hP1, hK1, hD1⟩ := hB
  rw [htC] at hP1
  have hK1 := va_K.moved hvm.symm hK1
  obtain ⟨hP, hD⟩ := va_join (wr := [(zaL (rt 1) cT 36 ft1), (zaL (rt 2) cT 36 ft2), (zaR tO cTO 3 (fun i => if i < 3 then some (rt i) else none)), (zaI aFc cFc 6 fFc9_5), (zaI dr cD 36 fD9_3), (zo10ririliiriririr sc aTp (nI ts) aHl (nI nh) ed mi sn aHs (nI n) aWk (nI wz) aBk (nI bz) aFc)]) (w1 := [(zo2lirrr ch ft9_20 fr9_21 dr tO hO), (zaL (rt 0) cT 36 ft09_4), (zaR hO cHO 8 (fun i => if i < 8 then some (rh i) else none)), (zaI (rh 0) cH 36 g09_8), (zaI (rh 1) cH 36 g19_9), (zaI (rh 2) cH 36 g29_10), (zaI (rh 3) cH 36 g39_11), (zaI (rh 4) cH 36 g49_12), (zaI (rh 5) cH 36 g59_13), (zaI (rh 6) cH 36 g69_14), (zaI (rh 7) cH 36 g79_15)]) hP hD [5, 3, 7, 8, 9, 10, 11, 12, 13, 14, 15] [0, 1, 2, 4, 6, 16] rfl rfl (by decide) (by decide) hk1 hFc hP1 hD1
  have hK := (hK.sub (tys' := [(cT, .long), (cT, .long), (cTO, .array .long), (cFc, .int), (cD, .int)]) [0, 1, 2, 4, 5] rfl).app hK1
  generalize H1 = H at hP hS ⊢
  have hP : va_P (dC, dI) vwCl [(zaL (rt 1) cT 36 ft1), (zaL (rt 2) cT 36 ft2), (zaR tO cTO 3 (fun i => if i < 3 then some (rt i) else none)), (zaI aFc cFc 6 fFc9_5), (zaI dr cD 36 fD9_3), (zo10ririliiriririr sc aTp (nI ts) aHl (nI nh) ed mi sn aHs (nI n) aWk (nI wz) aBk (nI bz) aFc), (zo2lirrr ch ft9_20 fr9_21 dr tO hO), (zaL (rt 0) cT 36 ft09_4), (zaR hO cHO 8 (fun i => if i < 8 then some (rh i) else none)), (zaI (rh 0) cH 36 g09_8), (zaI (rh 1) cH 36 g19_9), (zaI (rh 2) cH 36 g29_10), (zaI (rh 3) cH 36 g39_11), (zaI (rh 4) cH 36 g49_12), (zaI (rh 5) cH 36 g59_13), (zaI (rh 6) cH 36 g69_14), (zaI (rh 7) cH 36 g79_15)] H := hP
  have hD : va_D A [(zaL (rt 1) cT 36 ft1), (zaL (rt 2) cT 36 ft2), (zaR tO cTO 3 (fun i => if i < 3 then some (rt i) else none)), (zaI aFc cFc 6 fFc9_5), (zaI dr cD 36 fD9_3), (zo10ririliiriririr sc aTp (nI ts) aHl (nI nh) ed mi sn aHs (nI n) aWk (nI wz) aBk (nI bz) aFc), (zo2lirrr ch ft9_20 fr9_21 dr tO hO), (zaL (rt 0) cT 36 ft09_4), (zaR hO cHO 8 (fun i => if i < 8 then some (rh i) else none)), (zaI (rh 0) cH 36 g09_8), (zaI (rh 1) cH 36 g19_9), (zaI (rh 2) cH 36 g29_10), (zaI (rh 3) cH 36 g39_11), (zaI (rh 4) cH 36 g49_12), (zaI (rh 5) cH 36 g59_13), (zaI (rh 6) cH 36 g69_14), (zaI (rh 7) cH 36 g79_15)] := hD
  have hK : va_K (dC, dI) vwCl [(cT, .long), (cT, .long), (cTO, .array .long), (cFc, .int), (cD, .int), (cT, .long), (cHO, .array .int), (cH, .int), (cH, .int), (cH, .int), (cH, .int), (cH, .int), (cH, .int), (cH, .int), (cH, .int)] s := hK
  refine lv_iinc (v := 1) (lv' := [(7, .int 1), (8, .int 0), (6, .int 0), (0, .ref ch), (1, .ref sc), (2, .int x), (3, .long mk), (5, .int 1)]) hx hb dX0_search_132 hl (k := 1) rfl (by decide) (by decide) rfl (fun ls hl => ?_)
  refine lv_goto (tgt := 28) hx hb dX0_search_135 (by decide) ?_
  refine lv_iload hx hb dX0_search_28 (lv_at hl 0 rfl) ?_
  refine lv_iconst (v := 1) hx hb dX0_search_30 (by decide) ?_
  refine lv_iconst (v := 3) hx hb dX0_search_31 (by decide) ?_
  refine lv_iload hx hb dX0_search_32 (lv_at hl 2 rfl) ?_
  refine lv_imul hx hb dX0_search_34 ?_
  refine qi_as (y := 0) (by decide) ?_
  refine lv_ishl hx hb dX0_search_35 ?_
  refine qi_as (y := 1) (by decide) ?_
  refine lv_icmp_ge (tgt := 138) hx hb dX0_search_36 (by decide) (fun _ => ?_) (fun c_22 => absurd c_22 (by decide))
  rw [hQ]
  have hP9 := hP.sub (ws' := [(zo2lirrr ch ft9_20 fr9_21 dr tO hO), (zaI dr cD 36 fD9_3), (zaR tO cTO 3 (fun i => if i < 3 then some (rt i) else none)), (zaL (rt 0) cT 36 ft09_4), (zaL (rt 1) cT 36 ft1), (zaL (rt 2) cT 36 ft2), (zaR hO cHO 8 (fun i => if i < 8 then some (rh i) else none)), (zaI (rh 0) cH 36 g09_8), (zaI (rh 1) cH 36 g19_9), (zaI (rh 2) cH 36 g29_10), (zaI (rh 3) cH 36 g39_11), (zaI (rh 4) cH 36 g49_12), (zaI (rh 5) cH 36 g59_13), (zaI (rh 6) cH 36 g69_14), (zaI (rh 7) cH 36 g79_15), (zo10ririliiriririr sc aTp (nI ts) aHl (nI nh) ed mi sn aHs (nI n) aWk (nI wz) aBk (nI bz) aFc), (zaI aFc cFc 6 fFc9_5)]) [6, 4, 2, 7, 0, 1, 8, 9, 10, 11, 12, 13, 14, 15, 16, 5, 3] rfl
  have hD9 := hD.sub (ws' := [(zo2lirrr ch ft9_20 fr9_21 dr tO hO), (zaI dr cD 36 fD9_3), (zaR tO cTO 3 (fun i => if i < 3 then some (rt i) else none)), (zaL (rt 0) cT 36 ft09_4), (zaL (rt 1) cT 36 ft1), (zaL (rt 2) cT 36 ft2), (zaR hO cHO 8 (fun i => if i < 8 then some (rh i) else none)), (zaI (rh 0) cH 36 g09_8), (zaI (rh 1) cH 36 g19_9), (zaI (rh 2) cH 36 g29_10), (zaI (rh 3) cH 36 g39_11), (zaI (rh 4) cH 36 g49_12), (zaI (rh 5) cH 36 g59_13), (zaI (rh 6) cH 36 g69_14), (zaI (rh 7) cH 36 g79_15), (zo10ririliiriririr sc aTp (nI ts) aHl (nI nh) ed mi sn aHs (nI n) aWk (nI wz) aBk (nI bz) aFc), (zaI aFc cFc 6 fFc9_5)]) [6, 4, 2, 7, 0, 1, 8, 9, 10, 11, 12, 13, 14, 15, 16, 5, 3] (by decide) rfl
  have hK9 := hK.sub (tys' := [(cD, .int), (cTO, .array .long), (cT, .long), (cT, .long), (cT, .long), (cHO, .array .int), (cH, .int), (cH, .int), (cH, .int), (cH, .int), (cH, .int), (cH, .int), (cH, .int), (cH, .int), (cFc, .int)]) [4, 2, 5, 0, 1, 6, 7, 8, 9, 10, 11, 12, 13, 14, 3] rfl
  exact W.vret hx hb hr (fun tQ htQ hWQ => ⟨⟨(ft9_20, fr9_21, fD9_3, ft09_4, ft1, ft2, g09_8, g19_9, g29_10, g39_11, g49_12, g59_13, g69_14, g79_15, fFc9_5), rfl, trivial, by rw [htQ]; exact hP9, va_K.moved hWQ.alike hK9, hD9⟩, hS.F htQ⟩) hS.2.2 dX0_search_138

theorem kc_xSearch2_0 : (.constantLong RX0 64 (-1) : Cond) ∈ wsX0_search := kc_of 875 rfl rfl rfl
theorem kc_xSearch2_1 : ∀ w ∈ wsX00, w ∈ wsX0_search := fun w h => List.mem_cons_of_mem _ (gin_wsX00 w h)
theorem kc_xSearch2_2 : (.fieldLink RX0 66 "MistHeaps$Chances" "foundTimes" "J" : Cond) ∈ wsX0_search := kc_of 284 rfl rfl rfl
theorem kc_xSearch2_3 : (.fieldLink RX0 17 "MistHeaps$Chances" "times" "[[J" : Cond) ∈ wsX0_search := kc_of 288 rfl rfl rfl
set_option maxHeartbeats 4000000 in
set_option maxRecDepth 100000 in
theorem c_xSearch2 (l : Launch) (dC : Nat → ClassId) (dI : Nat → Nat → Nat) (gd : Nat → Nat)  (sc : Nat) (ch : Nat) (aTp : Nat) (aHl : Nat) (aHs : Nat) (aWk : Nat) (aBk : Nat) (aFc : Nat) (bW : Nat) (bA : Nat) (bE : Nat) (bC : Nat) (dr : Nat) (tO : Nat) (hO : Nat) (ts : Nat) (nh : Nat) (n : Nat) (wz : Nat) (bz : Nat) (cl : Nat) (i : Nat) (mi : Int32) (sn : Int32) (sg : Int32) (cdd : Int32) (szz : Int32) (att : Int32) (nmb : Int32) (fr : Int32) (x : Int32) (ed : Int64) (ft : Int64) (mk : Int64) (cFc : ClassId) (cbW : ClassId) (cbA : ClassId) (cbE : ClassId) (cbC : ClassId) (cD : ClassId) (cTO : ClassId) (cHO : ClassId) (cT : ClassId) (cH : ClassId) (fFc : Nat → Int32) (fbW : Nat → Int32) (fbA : Nat → Int32) (fbE : Nat → Int32) (fbC : Nat → Int32) (fD : Nat → Int32) (g0 : Nat → Int32) (g1 : Nat → Int32) (g2 : Nat → Int32) (g3 : Nat → Int32) (g4 : Nat → Int32) (g5 : Nat → Int32) (g6 : Nat → Int32) (g7 : Nat → Int32) (ft0 : Nat → Int64) (ft1 : Nat → Int64) (ft2 : Nat → Int64) (rt : Nat → Nat) (rh : Nat → Nat) (tpv : Value) (cz : List pCla) (sz : Nat) (zcl : cl ≤ 10) (zE : ∀ k0, k0 < 10 → ∃ e0 : Nat, e0 ≤ 100 ∧ fbE k0 = nI e0) (zC : ∀ k0, k0 < 100 → okC (fbC k0)) (zHC : HC cl sg fbW fbA fbE fbC cz ∧ WfC cz) : Met l yX0_search wsX0_search ({ frames := 5, cells := 0, slots := 0, locals := 117 } : Room) (va_Pc [.ref ch, .ref sc, .int x, .long mk, .int 2] (fun U => U.heap.size = sz ∧ va_P (dC, dI) vwCl [(zo2lirrr ch ft fr dr tO hO), (zaI dr cD 36 fD), (zaR tO cTO 3 (fun i => if i < 3 then some (rt i) else none)), (zaL (rt 0) cT 36 ft0), (zaL (rt 1) cT 36 ft1), (zaL (rt 2) cT 36 ft2), (zaR hO cHO 8 (fun i => if i < 8 then some (rh i) else none)), (zaI (rh 0) cH 36 g0), (zaI (rh 1) cH 36 g1), (zaI (rh 2) cH 36 g2), (zaI (rh 3) cH 36 g3), (zaI (rh 4) cH 36 g4), (zaI (rh 5) cH 36 g5), (zaI (rh 6) cH 36 g6), (zaI (rh 7) cH 36 g7), (zo10ririliiriririr sc aTp (nI ts) aHl (nI nh) ed mi sn aHs (nI n) aWk (nI wz) aBk (nI bz) aFc), (zaI aFc cFc 6 fFc)] U.heap ∧ va_K (dC, dI) vwCl [(cD, .int), (cTO, .array .long), (cT, .long), (cT, .long), (cT, .long), (cHO, .array .int), (cH, .int), (cH, .int), (cH, .int), (cH, .int), (cH, .int), (cH, .int), (cH, .int), (cH, .int), (cFc, .int)] U ∧ va_D (fun _ => True) [(zo2lirrr ch ft fr dr tO hO), (zaI dr cD 36 fD), (zaR tO cTO 3 (fun i => if i < 3 then some (rt i) else none)), (zaL (rt 0) cT 36 ft0), (zaL (rt 1) cT 36 ft1), (zaL (rt 2) cT 36 ft2), (zaR hO cHO 8 (fun i => if i < 8 then some (rh i) else none)), (zaI (rh 0) cH 36 g0), (zaI (rh 1) cH 36 g1), (zaI (rh 2) cH 36 g2), (zaI (rh 3) cH 36 g3), (zaI (rh 4) cH 36 g4), (zaI (rh 5) cH 36 g5), (zaI (rh 6) cH 36 g6), (zaI (rh 7) cH 36 g7), (zo10ririliiriririr sc aTp (nI ts) aHl (nI nh) ed mi sn aHs (nI n) aWk (nI wz) aBk (nI bz) aFc), (zaI aFc cFc 6 fFc)] ∧ Gl gd (va_A [(zo2lirrr ch ft fr dr tO hO), (zaI dr cD 36 fD), (zaR tO cTO 3 (fun i => if i < 3 then some (rt i) else none)), (zaL (rt 0) cT 36 ft0), (zaL (rt 1) cT 36 ft1), (zaL (rt 2) cT 36 ft2), (zaR hO cHO 8 (fun i => if i < 8 then some (rh i) else none)), (zaI (rh 0) cH 36 g0), (zaI (rh 1) cH 36 g1), (zaI (rh 2) cH 36 g2), (zaI (rh 3) cH 36 g3), (zaI (rh 4) cH 36 g4), (zaI (rh 5) cH 36 g5), (zaI (rh 6) cH 36 g6), (zaI (rh 7) cH 36 g7), (zo10ririliiriririr sc aTp (nI ts) aHl (nI nh) ed mi sn aHs (nI n) aWk (nI wz) aBk (nI bz) aFc), (zaI aFc cFc 6 fFc)] sz) U ∧ Fz dC dI [(zo7iirrrriviii aHl sg (nI cl) bW bA bE bC cdd tpv szz att nmb), (zaI bW cbW 10 fbW), (zaI bA cbA 10 fbA), (zaI bE cbE 10 fbE), (zaI bC cbC 100 fbC)] [(cbW, .int), (cbA, .int), (cbE, .int), (cbC, .int)] (va_A [(zo2lirrr ch ft fr dr tO hO), (zaI dr cD 36 fD), (zaR tO cTO 3 (fun i => if i < 3 then some (rt i) else none)), (zaL (rt 0) cT 36 ft0), (zaL (rt 1) cT 36 ft1), (zaL (rt 2) cT 36 ft2), (zaR hO cHO 8 (fun i => if i < 8 then some (rh i) else none)), (zaI (rh 0) cH 36 g0), (zaI (rh 1) cH 36 g1), (zaI (rh 2) cH 36 g2), (zaI (rh 3) cH 36 g3), (zaI (rh 4) cH 36 g4), (zaI (rh 5) cH 36 g5), (zaI (rh 6) cH 36 g6), (zaI (rh 7) cH 36 g7), (zo10ririliiriririr sc aTp (nI ts) aHl (nI nh) ed mi sn aHs (nI n) aWk (nI wz) aBk (nI bz) aFc), (zaI aFc cFc 6 fFc)] sz) U)) (va_Qv (fun (u : (Int64) × (Int32) × (Nat → Int32) × (Nat → Int64) × (Nat → Int64) × (Nat → Int64) × (Nat → Int32) × (Nat → Int32) × (Nat → Int32) × (Nat → Int32) × (Nat → Int32) × (Nat → Int32) × (Nat → Int32) × (Nat → Int32) × (Nat → Int32)) => match u with | (ft9, fr9, fD9, ft09, ft19, ft29, g09, g19, g29, g39, g49, g59, g69, g79, fFc9) => True) (fun (u : (Int64) × (Int32) × (Nat → Int32) × (Nat → Int64) × (Nat → Int64) × (Nat → Int64) × (Nat → Int32) × (Nat → Int32) × (Nat → Int32) × (Nat → Int32) × (Nat → Int32) × (Nat → Int32) × (Nat → Int32) × (Nat → Int32) × (Nat → Int32)) (t : State) => match u with | (ft9, fr9, fD9, ft09, ft19, ft29, g09, g19, g29, g39, g49, g59, g69, g79, fFc9) => va_P (dC, dI) vwCl [(zo2lirrr ch ft9 fr9 dr tO hO), (zaI dr cD 36 fD9), (zaR tO cTO 3 (fun i => if i < 3 then some (rt i) else none)), (zaL (rt 0) cT 36 ft09), (zaL (rt 1) cT 36 ft19), (zaL (rt 2) cT 36 ft29), (zaR hO cHO 8 (fun i => if i < 8 then some (rh i) else none)), (zaI (rh 0) cH 36 g09), (zaI (rh 1) cH 36 g19), (zaI (rh 2) cH 36 g29), (zaI (rh 3) cH 36 g39), (zaI (rh 4) cH 36 g49), (zaI (rh 5) cH 36 g59), (zaI (rh 6) cH 36 g69), (zaI (rh 7) cH 36 g79), (zo10ririliiriririr sc aTp (nI ts) aHl (nI nh) ed mi sn aHs (nI n) aWk (nI wz) aBk (nI bz) aFc), (zaI aFc cFc 6 fFc9)] t.heap ∧ va_K (dC, dI) vwCl [(cD, .int), (cTO, .array .long), (cT, .long), (cT, .long), (cT, .long), (cHO, .array .int), (cH, .int), (cH, .int), (cH, .int), (cH, .int), (cH, .int), (cH, .int), (cH, .int), (cH, .int), (cFc, .int)] t ∧ va_D (va_A [(zo2lirrr ch ft fr dr tO hO), (zaI dr cD 36 fD), (zaR tO cTO 3 (fun i => if i < 3 then some (rt i) else none)), (zaL (rt 0) cT 36 ft0), (zaL (rt 1) cT 36 ft1), (zaL (rt 2) cT 36 ft2), (zaR hO cHO 8 (fun i => if i < 8 then some (rh i) else none)), (zaI (rh 0) cH 36 g0), (zaI (rh 1) cH 36 g1), (zaI (rh 2) cH 36 g2), (zaI (rh 3) cH 36 g3), (zaI (rh 4) cH 36 g4), (zaI (rh 5) cH 36 g5), (zaI (rh 6) cH 36 g6), (zaI (rh 7) cH 36 g7), (zo10ririliiriririr sc aTp (nI ts) aHl (nI nh) ed mi sn aHs (nI n) aWk (nI wz) aBk (nI bz) aFc), (zaI aFc cFc 6 fFc)] sz) [(zo2lirrr ch ft9 fr9 dr tO hO), (zaI dr cD 36 fD9), (zaR tO cTO 3 (fun i => if i < 3 then some (rt i) else none)), (zaL (rt 0) cT 36 ft09), (zaL (rt 1) cT 36 ft19), (zaL (rt 2) cT 36 ft29), (zaR hO cHO 8 (fun i => if i < 8 then some (rh i) else none)), (zaI (rh 0) cH 36 g09), (zaI (rh 1) cH 36 g19), (zaI (rh 2) cH 36 g29), (zaI (rh 3) cH 36 g39), (zaI (rh 4) cH 36 g49), (zaI (rh 5) cH 36 g59), (zaI (rh 6) cH 36 g69), (zaI (rh 7) cH 36 g79), (zo10ririliiriririr sc aTp (nI ts) aHl (nI nh) ed mi sn aHs (nI n) aWk (nI wz) aBk (nI bz) aFc), (zaI aFc cFc 6 fFc9)]) (va_A [(zo2lirrr ch ft fr dr tO hO), (zaI dr cD 36 fD), (zaR tO cTO 3 (fun i => if i < 3 then some (rt i) else none)), (zaL (rt 0) cT 36 ft0), (zaL (rt 1) cT 36 ft1), (zaL (rt 2) cT 36 ft2), (zaR hO cHO 8 (fun i => if i < 8 then some (rh i) else none)), (zaI (rh 0) cH 36 g0), (zaI (rh 1) cH 36 g1), (zaI (rh 2) cH 36 g2), (zaI (rh 3) cH 36 g3), (zaI (rh 4) cH 36 g4), (zaI (rh 5) cH 36 g5), (zaI (rh 6) cH 36 g6), (zaI (rh 7) cH 36 g7), (zo10ririliiriririr sc aTp (nI ts) aHl (nI nh) ed mi sn aHs (nI n) aWk (nI wz) aBk (nI bz) aFc), (zaI aFc cFc 6 fFc)] sz)) 0 0 (va_A [(zo2lirrr ch ft fr dr tO hO), (zaI dr cD 36 fD), (zaR tO cTO 3 (fun i => if i < 3 then some (rt i) else none)), (zaL (rt 0) cT 36 ft0), (zaL (rt 1) cT 36 ft1), (zaL (rt 2) cT 36 ft2), (zaR hO cHO 8 (fun i => if i < 8 then some (rh i) else none)), (zaI (rh 0) cH 36 g0), (zaI (rh 1) cH 36 g1), (zaI (rh 2) cH 36 g2), (zaI (rh 3) cH 36 g3), (zaI (rh 4) cH 36 g4), (zaI (rh 5) cH 36 g5), (zaI (rh 6) cH 36 g6), (zaI (rh 7) cH 36 g7), (zo10ririliiriririr sc aTp (nI ts) aHl (nI nh) ed mi sn aHs (nI n) aWk (nI wz) aBk (nI bz) aFc), (zaI aFc cFc 6 fFc)] sz) := by
  refine met_ofQ (cc := cX0_search) (maxL := 11) (ret := none) (by decide) rfl ?_
  intro p e s m args below meth c s₁ Q B hml hv hQ
  obtain ⟨rfl, hsz, hP, hK, hD0, hG, hZ⟩ := hv
  have hx := B.exec
  have hb := B.bytes
  have hr := B.returns
  have hts := atoms_spec (ws := wsX0_search) B.pre
  have hown : s.vm.findClass RX0 = some m.cls := findClass_of_methodNamed B.named
  have hlocks := B.notSynchronized
  subst hsz
  have hD := hD0.self (sz := s.heap.size)
  generalize hAe : va_A [(zo2lirrr ch ft fr dr tO hO), (zaI dr cD 36 fD), (zaR tO cTO 3 (fun i => if i < 3 then some (rt i) else none)), (zaL (rt 0) cT 36 ft0), (zaL (rt 1) cT 36 ft1), (zaL (rt 2) cT 36 ft2), (zaR hO cHO 8 (fun i => if i < 8 then some (rh i) else none)), (zaI (rh 0) cH 36 g0), (zaI (rh 1) cH 36 g1), (zaI (rh 2) cH 36 g2), (zaI (rh 3) cH 36 g3), (zaI (rh 4) cH 36 g4), (zaI (rh 5) cH 36 g5), (zaI (rh 6) cH 36 g6), (zaI (rh 7) cH 36 g7), (zo10ririliiriririr sc aTp (nI ts) aHl (nI nh) ed mi sn aHs (nI n) aWk (nI wz) aBk (nI bz) aFc), (zaI aFc cFc 6 fFc)] s.heap.size = A at hD hQ hG hZ ⊢
  have hA : ∀ q : Nat, s.heap.size ≤ q → A q := fun q h => by rw [← hAe]; exact Or.inr h
  have hS : va_S A s.heap s.heap [] := va_S.rf
  have hl := lv_entry [.ref ch, .ref sc, .int x, .long mk, .int 2] (n := 11) (Nat.le_of_ble_eq_true rfl)
  rw [lg_entry_eq]
  generalize (lg_sl [.ref ch, .ref sc, .int x, .long mk, .int 2] ++ List.replicate (11 - (lg_sl [.ref ch, .ref sc, .int x, .long mk, .int 2]).length) Slot.unset).toArray = ls at hl ⊢
  generalize hag : ([.ref ch, .ref sc, .int x, .long mk, .int 2] : List Value).toArray = args at hts hQ ⊢
  have hl : lv_has ls 11 [(0, .ref ch), (1, .ref sc), (2, .int x), (3, .long mk), (5, .int 2)] := hl
  obtain ⟨H, hH⟩ : ∃ H : Heap, H = s.heap := ⟨_, rfl⟩
  rw [← hH] at hP
  rw [← hH]
  have hS : va_S A s.heap H [] := by rw [hH]; exact hS
  obtain ⟨locs, hlo⟩ : ∃ L : List Loc, L = [] := ⟨_, rfl⟩
  rw [← hlo] at hS
  rw [← hlo]
  clear hH hlo
  refine lv_aload_n hx hb dX0_search_0 rfl (lv_at hl 0 rfl) ?_
  refine lv_aload_n hx hb dX0_search_1 rfl (lv_at hl 1 rfl) ?_
  refine lv_iload_n hx hb dX0_search_2 rfl (lv_at hl 2 rfl) ?_
  have hPc := hP.sub (ws' := [(zo2lirrr ch ft fr dr tO hO), (zaI dr cD 36 fD), (zaR tO cTO 3 (fun i => if i < 3 then some (rt i) else none)), (zaL (rt 0) cT 36 ft0), (zo10ririliiriririr sc aTp (nI ts) aHl (nI nh) ed mi sn aHs (nI n) aWk (nI wz) aBk (nI bz) aFc), (zaI aFc cFc 6 fFc)]) [0, 1, 2, 3, 15, 16] rfl
  have hDc := hD.sub (ws' := [(zo2lirrr ch ft fr dr tO hO), (zaI dr cD 36 fD), (zaR tO cTO 3 (fun i => if i < 3 then some (rt i) else none)), (zaL (rt 0) cT 36 ft0), (zo10ririliiriririr sc aTp (nI ts) aHl (nI nh) ed mi sn aHs (nI n) aWk (nI wz) aBk (nI bz) aFc), (zaI aFc cFc 6 fFc)]) [0, 1, 2, 3, 15, 16] (by decide) rfl
  have hKc := hK.sub (tys' := [(cD, .int), (cTO, .array .long), (cT, .long), (cFc, .int)]) [0, 1, 2, 14] rfl
  have hFc := va_free (wc := [(zo2lirrr ch ft fr dr tO hO), (zaI dr cD 36 fD), (zaR tO cTO 3 (fun i => if i < 3 then some (rt i) else none)), (zaL (rt 0) cT 36 ft0), (zo10ririliiriririr sc aTp (nI ts) aHl (nI nh) ed mi sn aHs (nI n) aWk (nI wz) aBk (nI bz) aFc), (zaI aFc cFc 6 fFc)]) hD hS hA [0, 1, 2, 3, 15, 16] rfl
  refine va_callv (va_runV (As := [.ref sc, .int x]) (rest := []) ⟨hx, hb, hml, hown, hts⟩ (c_xBegin l dC dI gd  sc ch aTp aHl aHs aWk aBk aFc bW bA bE bC dr tO hO ts nh n wz bz cl i mi sn sg cdd szz att nmb fr x ed ft cFc cbW cbA cbE cbC cD cTO cT fFc fbW fbA fbE fbC fD ft0 rt tpv cz H.size (zcl) (zE) (zC) (zHC)) (cwV 2 hts gX0_search_X0_begin rfl rfl rfl hd_yX0_begin ⟨Nat.le_of_ble_eq_true rfl, Nat.le_of_ble_eq_true rfl⟩) ⟨fun a U g mk q => by obtain ⟨q0, q1, qP, qK, qD, qhG, qhZ⟩ := q; exact ⟨q0, q1, qP, va_K.moved (u := U) (U := U.calling g mk a) (Vm.Alike.refl U.vm) qK, qD, qhG.same rfl rfl, qhZ.same rfl rfl⟩, va_recv hK hP (ci := 2) (q := (RX0, TX0, 5)) (q0 := 0) rfl rfl, fun U hU hW => ⟨rfl, by rw [hU], by rw [hU]; exact hPc, va_K.moved hW.alike hKc, hDc.weaken (fun _ _ _ _ => trivial), hG.call hS hU hW (fun q h => hFc q h), (hZ.sub [0, 1, 2, 3, 4] [0, 1, 2, 3] rfl rfl).call hS hU hW (fun q h => hFc q h)⟩⟩ rfl rfl hl.1 rfl (lv_room (Nat.le_of_ble_eq_true rfl)) dX0_search_3 ⟨Nat.le_of_ble_eq_true rfl, Nat.le_of_ble_eq_true rfl⟩) hS (fun q _ h => hFc q h) hFc (fun u tC H1 locs htC hvm hw_2 hB hz1 hk1 hS => ?_)
  obtain ⟨fD9_3, ft09_4, fFc9_5⟩ := u
  try dsimp only at hw_2 hB
  obtain ⟨hP1, hK1, hD1⟩ := hB
  rw [htC] at hP1
  have hK1 := va_K.moved hvm.symm hK1
  obtain ⟨hP, hD⟩ := va_join (wr := [(zaL (rt 1) cT 36 ft1), (zaL (rt 2) cT 36 ft2), (zaR hO cHO 8 (fun i => if i < 8 then some (rh i) else none)), (zaI (rh 0) cH 36 g0), (zaI (rh 1) cH 36 g1), (zaI (rh 2) cH 36 g2), (zaI (rh 3) cH 36 g3), (zaI (rh 4) cH 36 g4), (zaI (rh 5) cH 36 g5), (zaI (rh 6) cH 36 g6), (zaI (rh 7) cH 36 g7)]) (w1 := [(zo2lirrr ch ft fr dr tO hO), (zaI dr cD 36 fD9_3), (zaR tO cTO 3 (fun i => if i < 3 then some (rt i) else none)), (zaL (rt 0) cT 36 ft09_4), (zo10ririliiriririr sc aTp (nI ts) aHl (nI nh) ed mi sn aHs (nI n) aWk (nI wz) aBk (nI bz) aFc), (zaI aFc cFc 6 fFc9_5)]) hP hD [0, 1, 2, 3, 15, 16] [4, 5, 6, 7, 8, 9, 10, 11, 12, 13, 14] rfl rfl (by decide) (by decide) hk1 hFc hP1 hD1
  have hK := (hK.sub (tys' := [(cT, .long), (cT, .long), (cHO, .array .int), (cH, .int), (cH, .int), (cH, .int), (cH, .int), (cH, .int), (cH, .int), (cH, .int), (cH, .int)]) [3, 4, 5, 6, 7, 8, 9, 10, 11, 12, 13] rfl).app hK1
  generalize H1 = H at hP hS ⊢
  have hP : va_P (dC, dI) vwCl [(zaL (rt 1) cT 36 ft1), (zaL (rt 2) cT 36 ft2), (zaR hO cHO 8 (fun i => if i < 8 then some (rh i) else none)), (zaI (rh 0) cH 36 g0), (zaI (rh 1) cH 36 g1), (zaI (rh 2) cH 36 g2), (zaI (rh 3) cH 36 g3), (zaI (rh 4) cH 36 g4), (zaI (rh 5) cH 36 g5), (zaI (rh 6) cH 36 g6), (zaI (rh 7) cH 36 g7), (zo2lirrr ch ft fr dr tO hO), (zaI dr cD 36 fD9_3), (zaR tO cTO 3 (fun i => if i < 3 then some (rt i) else none)), (zaL (rt 0) cT 36 ft09_4), (zo10ririliiriririr sc aTp (nI ts) aHl (nI nh) ed mi sn aHs (nI n) aWk (nI wz) aBk (nI bz) aFc), (zaI aFc cFc 6 fFc9_5)] H := hP
  have hD : va_D A [(zaL (rt 1) cT 36 ft1), (zaL (rt 2) cT 36 ft2), (zaR hO cHO 8 (fun i => if i < 8 then some (rh i) else none)), (zaI (rh 0) cH 36 g0), (zaI (rh 1) cH 36 g1), (zaI (rh 2) cH 36 g2), (zaI (rh 3) cH 36 g3), (zaI (rh 4) cH 36 g4), (zaI (rh 5) cH 36 g5), (zaI (rh 6) cH 36 g6), (zaI (rh 7) cH 36 g7), (zo2lirrr ch ft fr dr tO hO), (zaI dr cD 36 fD9_3), (zaR tO cTO 3 (fun i => if i < 3 then some (rt i) else none)), (zaL (rt 0) cT 36 ft09_4), (zo10ririliiriririr sc aTp (nI ts) aHl (nI nh) ed mi sn aHs (nI n) aWk (nI wz) aBk (nI bz) aFc), (zaI aFc cFc 6 fFc9_5)] := hD
  have hK : va_K (dC, dI) vwCl [(cT, .long), (cT, .long), (cHO, .array .int), (cH, .int), (cH, .int), (cH, .int), (cH, .int), (cH, .int), (cH, .int), (cH, .int), (cH, .int), (cD, .int), (cTO, .array .long), (cT, .long), (cFc, .int)] s := hK
  refine lv_aload_n hx hb dX0_search_6 rfl (lv_at hl 0 rfl) ?_
  refine lv_aload_n hx hb dX0_search_7 rfl (lv_at hl 1 rfl) ?_
  refine lv_lload_n hx hb dX0_search_8 rfl (lv_at hl 3 rfl) ?_
  have hPc := hP.sub (ws' := [(zo2lirrr ch ft fr dr tO hO), (zaI dr cD 36 fD9_3), (zaR hO cHO 8 (fun i => if i < 8 then some (rh i) else none)), (zaI (rh 0) cH 36 g0), (zaI (rh 1) cH 36 g1), (zaI (rh 2) cH 36 g2), (zaI (rh 3) cH 36 g3), (zaI (rh 4) cH 36 g4), (zaI (rh 5) cH 36 g5), (zaI (rh 6) cH 36 g6), (zaI (rh 7) cH 36 g7), (zo10ririliiriririr sc aTp (nI ts) aHl (nI nh) ed mi sn aHs (nI n) aWk (nI wz) aBk (nI bz) aFc)]) [11, 12, 2, 3, 4, 5, 6, 7, 8, 9, 10, 15] rfl
  have hDc := hD.sub (ws' := [(zo2lirrr ch ft fr dr tO hO), (zaI dr cD 36 fD9_3), (zaR hO cHO 8 (fun i => if i < 8 then some (rh i) else none)), (zaI (rh 0) cH 36 g0), (zaI (rh 1) cH 36 g1), (zaI (rh 2) cH 36 g2), (zaI (rh 3) cH 36 g3), (zaI (rh 4) cH 36 g4), (zaI (rh 5) cH 36 g5), (zaI (rh 6) cH 36 g6), (zaI (rh 7) cH 36 g7), (zo10ririliiriririr sc aTp (nI ts) aHl (nI nh) ed mi sn aHs (nI n) aWk (nI wz) aBk (nI bz) aFc)]) [11, 12, 2, 3, 4, 5, 6, 7, 8, 9, 10, 15] (by decide) rfl
  have hKc := hK.sub (tys' := [(cD, .int), (cHO, .array .int), (cH, .int), (cH, .int), (cH, .int), (cH, .int), (cH, .int), (cH, .int), (cH, .int), (cH, .int)]) [11, 2, 3, 4, 5, 6, 7, 8, 9, 10] rfl
  have hFc := va_free (wc := [(zo2lirrr ch ft fr dr tO hO), (zaI dr cD 36 fD9_3), (zaR hO cHO 8 (fun i => if i < 8 then some (rh i) else none)), (zaI (rh 0) cH 36 g0), (zaI (rh 1) cH 36 g1), (zaI (rh 2) cH 36 g2), (zaI (rh 3) cH 36 g3), (zaI (rh 4) cH 36 g4), (zaI (rh 5) cH 36 g5), (zaI (rh 6) cH 36 g6), (zaI (rh 7) cH 36 g7), (zo10ririliiriririr sc aTp (nI ts) aHl (nI nh) ed mi sn aHs (nI n) aWk (nI wz) aBk (nI bz) aFc)]) hD hS hA [11, 12, 2, 3, 4, 5, 6, 7, 8, 9, 10, 15] rfl
  refine va_callv (va_runV (As := [.ref sc, .long mk]) (rest := []) ⟨hx, hb, hml, hown, hts⟩ (c_xTellHits l dC dI gd sc ch aTp aHl aHs aWk aBk aFc dr tO hO ts nh n wz bz i mi sn fr ed ft mk cD cHO cH fD9_3 g0 g1 g2 g3 g4 g5 g6 g7 rh H.size) (cwV 2 hts gX0_search_X0_tellHits rfl rfl rfl hd_yX0_tellHits ⟨Nat.le_of_ble_eq_true rfl, Nat.le_of_ble_eq_true rfl⟩) ⟨fun a U g mk q => by obtain ⟨q0, q1, qP, qK, qD, qhG⟩ := q; exact ⟨q0, q1, qP, va_K.moved (u := U) (U := U.calling g mk a) (Vm.Alike.refl U.vm) qK, qD, qhG.same rfl rfl⟩, va_recv hK hP (ci := 2) (q := (RX0, TX0, 5)) (q0 := 11) rfl rfl, fun U hU hW => ⟨rfl, by rw [hU], by rw [hU]; exact hPc, va_K.moved hW.alike hKc, hDc.weaken (fun _ _ _ _ => trivial), hG.call hS hU hW (fun q h => hFc q h)⟩⟩ rfl rfl hl.1 rfl (lv_room (Nat.le_of_ble_eq_true rfl)) dX0_search_9 ⟨Nat.le_of_ble_eq_true rfl, Nat.le_of_ble_eq_true rfl⟩) hS (fun q _ h => hFc q h) hFc (fun u tC H1 locs htC hvm hw_7 hB hz1 hk1 hS => ?_)
  obtain ⟨g09_8, g19_9, g29_10, g39_11, g49_12, g59_13, g69_14, g79_15⟩ := u
  try dsimp only at hw_7 hB
  obtain ⟨hP1, hK1, hD1⟩ := hB
  rw [htC] at hP1
  have hK1 := va_K.moved hvm.symm hK1
  obtain ⟨hP, hD⟩ := va_join (wr := [(zaL (rt 1) cT 36 ft1), (zaL (rt 2) cT 36 ft2), (zaR tO cTO 3 (fun i => if i < 3 then some (rt i) else none)), (zaL (rt 0) cT 36 ft09_4), (zaI aFc cFc 6 fFc9_5)]) (w1 := [(zo2lirrr ch ft fr dr tO hO), (zaI dr cD 36 fD9_3), (zaR hO cHO 8 (fun i => if i < 8 then some (rh i) else none)), (zaI (rh 0) cH 36 g09_8), (zaI (rh 1) cH 36 g19_9), (zaI (rh 2) cH 36 g29_10), (zaI (rh 3) cH 36 g39_11), (zaI (rh 4) cH 36 g49_12), (zaI (rh 5) cH 36 g59_13), (zaI (rh 6) cH 36 g69_14), (zaI (rh 7) cH 36 g79_15), (zo10ririliiriririr sc aTp (nI ts) aHl (nI nh) ed mi sn aHs (nI n) aWk (nI wz) aBk (nI bz) aFc)]) hP hD [11, 12, 2, 3, 4, 5, 6, 7, 8, 9, 10, 15] [0, 1, 13, 14, 16] rfl rfl (by decide) (by decide) hk1 hFc hP1 hD1
  have hK := (hK.sub (tys' := [(cT, .long), (cT, .long), (cTO, .array .long), (cT, .long), (cFc, .int)]) [0, 1, 12, 13, 14] rfl).app hK1
  generalize H1 = H at hP hS ⊢
  have hP : va_P (dC, dI) vwCl [(zaL (rt 1) cT 36 ft1), (zaL (rt 2) cT 36 ft2), (zaR tO cTO 3 (fun i => if i < 3 then some (rt i) else none)), (zaL (rt 0) cT 36 ft09_4), (zaI aFc cFc 6 fFc9_5), (zo2lirrr ch ft fr dr tO hO), (zaI dr cD 36 fD9_3), (zaR hO cHO 8 (fun i => if i < 8 then some (rh i) else none)), (zaI (rh 0) cH 36 g09_8), (zaI (rh 1) cH 36 g19_9), (zaI (rh 2) cH 36 g29_10), (zaI (rh 3) cH 36 g39_11), (zaI (rh 4) cH 36 g49_12), (zaI (rh 5) cH 36 g59_13), (zaI (rh 6) cH 36 g69_14), (zaI (rh 7) cH 36 g79_15), (zo10ririliiriririr sc aTp (nI ts) aHl (nI nh) ed mi sn aHs (nI n) aWk (nI wz) aBk (nI bz) aFc)] H := hP
  have hD : va_D A [(zaL (rt 1) cT 36 ft1), (zaL (rt 2) cT 36 ft2), (zaR tO cTO 3 (fun i => if i < 3 then some (rt i) else none)), (zaL (rt 0) cT 36 ft09_4), (zaI aFc cFc 6 fFc9_5), (zo2lirrr ch ft fr dr tO hO), (zaI dr cD 36 fD9_3), (zaR hO cHO 8 (fun i => if i < 8 then some (rh i) else none)), (zaI (rh 0) cH 36 g09_8), (zaI (rh 1) cH 36 g19_9), (zaI (rh 2) cH 36 g29_10), (zaI (rh 3) cH 36 g39_11), (zaI (rh 4) cH 36 g49_12), (zaI (rh 5) cH 36 g59_13), (zaI (rh 6) cH 36 g69_14), (zaI (rh 7) cH 36 g79_15), (zo10ririliiriririr sc aTp (nI ts) aHl (nI nh) ed mi sn aHs (nI n) aWk (nI wz) aBk (nI bz) aFc)] := hD
  have hK : va_K (dC, dI) vwCl [(cT, .long), (cT, .long), (cTO, .array .long), (cT, .long), (cFc, .int), (cD, .int), (cHO, .array .int), (cH, .int), (cH, .int), (cH, .int), (cH, .int), (cH, .int), (cH, .int), (cH, .int), (cH, .int)] s := hK
  refine lv_aload_n hx hb dX0_search_12 rfl (lv_at hl 0 rfl) ?_
  refine lv_ldc2 (v := (-1)) hx hb hown (hts (.constantLong RX0 64 (-1)) kc_xSearch2_0) dX0_search_13 ?_
  refine va_put (D := (dC, dI)) (ci := 2) (v := .long (-1)) (ty := .long) (C := RX0) (T := TX0) (N := 5) hx hb hts kc_xSearch2_1 tyX0 tyX0_ok nmX0 hown hK hP hD hS 5 rfl rfl 0 (by decide) (hts (.fieldLink RX0 66 "MistHeaps$Chances" "foundTimes" "J") kc_xSearch2_2) (fun _ h9 => h9) rfl (by decide +kernel) rfl rfl (Nat.le_of_ble_eq_true rfl) dX0_search_16 (fun H locs hP hD hS => ?_)
  have hP : va_P (dC, dI) vwCl [(zaL (rt 1) cT 36 ft1), (zaL (rt 2) cT 36 ft2), (zaR tO cTO 3 (fun i => if i < 3 then some (rt i) else none)), (zaL (rt 0) cT 36 ft09_4), (zaI aFc cFc 6 fFc9_5), (zo2lirrr ch (-1) fr dr tO hO), (zaI dr cD 36 fD9_3), (zaR hO cHO 8 (fun i => if i < 8 then some (rh i) else none)), (zaI (rh 0) cH 36 g09_8), (zaI (rh 1) cH 36 g19_9), (zaI (rh 2) cH 36 g29_10), (zaI (rh 3) cH 36 g39_11), (zaI (rh 4) cH 36 g49_12), (zaI (rh 5) cH 36 g59_13), (zaI (rh 6) cH 36 g69_14), (zaI (rh 7) cH 36 g79_15), (zo10ririliiriririr sc aTp (nI ts) aHl (nI nh) ed mi sn aHs (nI n) aWk (nI wz) aBk (nI bz) aFc)] H := hP
  have hD : va_D A [(zaL (rt 1) cT 36 ft1), (zaL (rt 2) cT 36 ft2), (zaR tO cTO 3 (fun i => if i < 3 then some (rt i) else none)), (zaL (rt 0) cT 36 ft09_4), (zaI aFc cFc 6 fFc9_5), (zo2lirrr ch (-1) fr dr tO hO), (zaI dr cD 36 fD9_3), (zaR hO cHO 8 (fun i => if i < 8 then some (rh i) else none)), (zaI (rh 0) cH 36 g09_8), (zaI (rh 1) cH 36 g19_9), (zaI (rh 2) cH 36 g29_10), (zaI (rh 3) cH 36 g39_11), (zaI (rh 4) cH 36 g49_12), (zaI (rh 5) cH 36 g59_13), (zaI (rh 6) cH 36 g69_14), (zaI (rh 7) cH 36 g79_15), (zo10ririliiriririr sc aTp (nI ts) aHl (nI nh) ed mi sn aHs (nI n) aWk (nI wz) aBk (nI bz) aFc)] := hD
  refine lv_iload hx hb dX0_search_19 (lv_at hl 4 rfl) ?_
  refine lv_iconst (v := 1) hx hb dX0_search_21 (by decide) ?_
  refine lv_isub hx hb dX0_search_22 ?_
  refine qi_as (y := 1) (by decide) ?_
  refine lv_istore (lv' := [(6, .int 1), (0, .ref ch), (1, .ref sc), (2, .int x), (3, .long mk), (5, .int 2)]) hx hb dX0_search_23 hl (by decide) rfl (fun ls hl => ?_)
  refine lv_iconst (v := 0) hx hb dX0_search_25 (by decide) ?_
  refine lv_istore (lv' := [(7, .int 0), (6, .int 1), (0, .ref ch), (1, .ref sc), (2, .int x), (3, .long mk), (5, .int 2)]) hx hb dX0_search_26 hl (by decide) rfl (fun ls hl => ?_)
  have L28 : ∀ (nF : Nat) (r : Nat) (ft2 : Int64) (fr2 : Int32) (fD2 : Nat → Int32) (ft02 : Nat → Int64) (ft12 : Nat → Int64) (ft22 : Nat → Int64) (g02 : Nat → Int32) (g12 : Nat → Int32) (g22 : Nat → Int32) (g32 : Nat → Int32) (g42 : Nat → Int32) (g52 : Nat → Int32) (g62 : Nat → Int32) (g72 : Nat → Int32) (fFc2 : Nat → Int32), 8 - r < nF → (r ≤ 8) → ∀ (H : Heap) (locs : List Loc), va_K (dC, dI) vwCl [(cD, .int), (cTO, .array .long), (cT, .long), (cT, .long), (cT, .long), (cHO, .array .int), (cH, .int), (cH, .int), (cH, .int), (cH, .int), (cH, .int), (cH, .int), (cH, .int), (cH, .int), (cFc, .int)] s → va_P (dC, dI) vwCl [(zo2lirrr ch ft2 fr2 dr tO hO), (zaI dr cD 36 fD2), (zaR tO cTO 3 (fun i => if i < 3 then some (rt i) else none)), (zaL (rt 0) cT 36 ft02), (zaL (rt 1) cT 36 ft12), (zaL (rt 2) cT 36 ft22), (zaR hO cHO 8 (fun i => if i < 8 then some (rh i) else none)), (zaI (rh 0) cH 36 g02), (zaI (rh 1) cH 36 g12), (zaI (rh 2) cH 36 g22), (zaI (rh 3) cH 36 g32), (zaI (rh 4) cH 36 g42), (zaI (rh 5) cH 36 g52), (zaI (rh 6) cH 36 g62), (zaI (rh 7) cH 36 g72), (zo10ririliiriririr sc aTp (nI ts) aHl (nI nh) ed mi sn aHs (nI n) aWk (nI wz) aBk (nI bz) aFc), (zaI aFc cFc 6 fFc2)] H → va_D A [(zo2lirrr ch ft2 fr2 dr tO hO), (zaI dr cD 36 fD2), (zaR tO cTO 3 (fun i => if i < 3 then some (rt i) else none)), (zaL (rt 0) cT 36 ft02), (zaL (rt 1) cT 36 ft12), (zaL (rt 2) cT 36 ft22), (zaR hO cHO 8 (fun i => if i < 8 then some (rh i) else none)), (zaI (rh 0) cH 36 g02), (zaI (rh 1) cH 36 g12), (zaI (rh 2) cH 36 g22), (zaI (rh 3) cH 36 g32), (zaI (rh 4) cH 36 g42), (zaI (rh 5) cH 36 g52), (zaI (rh 6) cH 36 g62), (zaI (rh 7) cH 36 g72), (zo10ririliiriririr sc aTp (nI ts) aHl (nI nh) ed mi sn aHs (nI n) aWk (nI wz) aBk (nI bz) aFc), (zaI aFc cFc 6 fFc2)] → va_S A s.heap H locs → ∀ (ls : Array Slot), lv_has ls 11 [(0, .ref ch), (1, .ref sc), (2, .int x), (3, .long mk), (5, .int 2), (6, .int 1), (7, .int (nI r))] → W p l e ({ frames := 5, cells := 0, slots := 0, locals := 117 } : Room) s m args below meth c H locs 0 0 Q (F0 m 28 ls []) := by
    intro nF
    induction nF with
    | zero => intro r ft2 fr2 fD2 ft02 ft12 ft22 g02 g12 g22 g32 g42 g52 g62 g72 fFc2 hm; exact absurd hm (Nat.not_lt_zero _)
    | succ nF ih28 =>
      intro r ft2 fr2 fD2 ft02 ft12 ft22 g02 g12 g22 g32 g42 g52 g62 g72 fFc2 hm hir H locs hK hP hD hS ls hl
      refine lv_iload hx hb dX0_search_28 (lv_at hl 6 rfl) ?_
      refine lv_iconst (v := 1) hx hb dX0_search_30 (by decide) ?_
      refine lv_iconst (v := 3) hx hb dX0_search_31 (by decide) ?_
      refine lv_iload hx hb dX0_search_32 (lv_at hl 5 rfl) ?_
      refine lv_imul hx hb dX0_search_34 ?_
      refine qi_as (y := 3) (by decide) ?_
      refine lv_ishl hx hb dX0_search_35 ?_
      refine qi_as (y := 8) (by decide) ?_
      refine lv_icmp_ge (tgt := 138) hx hb dX0_search_36 (by decide) (fun c_16 => ?_) (fun c_16 => ?_)
      · skip
        have c_16 : 8 ≤ r := (nI_leI (a := 8) (b := r) (by omega) (by omega)).mp c_16
        rw [hQ]
        have hP9 := hP.sub (ws' := [(zo2lirrr ch ft2 fr2 dr tO hO), (zaI dr cD 36 fD2), (zaR tO cTO 3 (fun i => if i < 3 then some (rt i) else none)), (zaL (rt 0) cT 36 ft02), (zaL (rt 1) cT 36 ft12), (zaL (rt 2) cT 36 ft22), (zaR hO cHO 8 (fun i => if i < 8 then some (rh i) else none)), (zaI (rh 0) cH 36 g02), (zaI (rh 1) cH 36 g12), (zaI (rh 2) cH 36 g22), (zaI (rh 3) cH 36 g32), (zaI (rh 4) cH 36 g42), (zaI (rh 5) cH 36 g52), (zaI (rh 6) cH 36 g62), (zaI (rh 7) cH 36 g72), (zo10ririliiriririr sc aTp (nI ts) aHl (nI nh) ed mi sn aHs (nI n) aWk (nI wz) aBk (nI bz) aFc), (zaI aFc cFc 6 fFc2)]) [0, 1, 2, 3, 4, 5, 6, 7, 8, 9, 10, 11, 12, 13, 14, 15, 16] rfl
        have hD9 := hD.sub (ws' := [(zo2lirrr ch ft2 fr2 dr tO hO), (zaI dr cD 36 fD2), (zaR tO cTO 3 (fun i => if i < 3 then some (rt i) else none)), (zaL (rt 0) cT 36 ft02), (zaL (rt 1) cT 36 ft12), (zaL (rt 2) cT 36 ft22), (zaR hO cHO 8 (fun i => if i < 8 then some (rh i) else none)), (zaI (rh 0) cH 36 g02), (zaI (rh 1) cH 36 g12), (zaI (rh 2) cH 36 g22), (zaI (rh 3) cH 36 g32), (zaI (rh 4) cH 36 g42), (zaI (rh 5) cH 36 g52), (zaI (rh 6) cH 36 g62), (zaI (rh 7) cH 36 g72), (zo10ririliiriririr sc aTp (nI ts) aHl (nI nh) ed mi sn aHs (nI n) aWk (nI wz) aBk (nI bz) aFc), (zaI aFc cFc 6 fFc2)]) [0, 1, 2, 3, 4, 5, 6, 7, 8, 9, 10, 11, 12, 13, 14, 15, 16] (by decide) rfl
        have hK9 := hK.sub (tys' := [(cD, .int), (cTO, .array .long), (cT, .long), (cT, .long), (cT, .long), (cHO, .array .int), (cH, .int), (cH, .int), (cH, .int), (cH, .int), (cH, .int), (cH, .int), (cH, .int), (cH, .int), (cFc, .int)]) [0, 1, 2, 3, 4, 5, 6, 7, 8, 9, 10, 11, 12, 13, 14] rfl
        exact W.vret hx hb hr (fun tQ htQ hWQ => ⟨⟨(ft2, fr2, fD2, ft02, ft12, ft22, g02, g12, g22, g32, g42, g52, g62, g72, fFc2), rfl, trivial, by rw [htQ]; exact hP9, va_K.moved hWQ.alike hK9, hD9⟩, hS.F htQ⟩) hS.2.2 dX0_search_138
      · skip
        have c_16 : ¬ 8 ≤ r := fun q => c_16 ((nI_leI (a := 8) (b := r) (by omega) (by omega)).mpr q)
        refine lv_iconst (v := 0) hx hb dX0_search_39 (by decide) ?_
        refine lv_istore (lv' := [(8, .int 0), (0, .ref ch), (1, .ref sc), (2, .int x), (3, .long mk), (5, .int 2), (6, .int 1), (7, .int (nI r))]) hx hb dX0_search_40 hl (by decide) rfl (fun ls hl => ?_)
        refine lv_iload hx hb dX0_search_42 (lv_at hl 0 rfl) ?_
        refine lv_iload hx hb dX0_search_44 (lv_at hl 6 rfl) ?_
        refine lv_icmp_ge (tgt := 119) hx hb dX0_search_46 (by decide) (fun c_17 => absurd c_17 (by decide)) (fun _ => ?_)
        refine lv_iconst (v := 3) hx hb dX0_search_49 (by decide) ?_
        refine lv_iload hx hb dX0_search_50 (lv_at hl 6 rfl) ?_
        refine lv_iconst (v := 1) hx hb dX0_search_52 (by decide) ?_
        refine lv_isub hx hb dX0_search_53 ?_
        refine qi_as (y := 0) (by decide) ?_
        refine lv_iload hx hb dX0_search_54 (lv_at hl 0 rfl) ?_
        refine lv_isub hx hb dX0_search_56 ?_
        refine qi_as (y := 0) (by decide) ?_
        refine lv_imul hx hb dX0_search_57 ?_
        refine qi_as (y := 0) (by decide) ?_
        refine lv_istore (lv' := [(9, .int 0), (8, .int 0), (0, .ref ch), (1, .ref sc), (2, .int x), (3, .long mk), (5, .int 2), (6, .int 1), (7, .int (nI r))]) hx hb dX0_search_58 hl (by decide) rfl (fun ls hl => ?_)
        refine lv_iload hx hb dX0_search_60 (lv_at hl 8 rfl) ?_
        refine lv_iconst (v := 1) hx hb dX0_search_62 (by decide) ?_
        refine lv_iload hx hb dX0_search_63 (lv_at hl 0 rfl) ?_
        refine lv_ishl hx hb dX0_search_65 ?_
        refine qi_as (y := 1) (by decide) ?_
        refine lv_iconst (v := 1) hx hb dX0_search_66 (by decide) ?_
        refine lv_isub hx hb dX0_search_67 ?_
        refine qi_as (y := 0) (by decide) ?_
        refine lv_iand hx hb dX0_search_68 ?_
        have J69 : ∀ v_18 : Int32, W p l e ({ frames := 5, cells := 0, slots := 0, locals := 117 } : Room) s m args below meth c H locs 0 0 Q (F0 m 77 ls [.int v_18]) := by
          intro v_18
          refine lv_istore (lv' := [(10, .int v_18), (9, .int 0), (8, .int 0), (0, .ref ch), (1, .ref sc), (2, .int x), (3, .long mk), (5, .int 2), (6, .int 1), (7, .int (nI r))]) hx hb dX0_search_77 hl (by decide) rfl (fun ls hl => ?_)
          refine lv_iload hx hb dX0_search_79 (lv_at hl 0 rfl) ?_
          refine lv_if_eq (tgt := 113) hx hb dX0_search_81 (by decide) (fun c_20 => ?_) (fun c_20 => ?_)
          · skip
            refine lv_iinc (v := 1) (lv' := [(8, .int 1), (10, .int v_18), (9, .int 0), (0, .ref ch), (1, .ref sc), (2, .int x), (3, .long mk), (5, .int 2), (6, .int 1), (7, .int (nI r))]) hx hb dX0_search_113 hl (k := 2) rfl (by decide) (by decide) rfl (fun ls hl => ?_)
            refine lv_goto (tgt := 42) hx hb dX0_search_116 (by decide) ?_
            refine lv_iload hx hb dX0_search_42 (lv_at hl 0 rfl) ?_
            refine lv_iload hx hb dX0_search_44 (lv_at hl 8 rfl) ?_
            refine lv_icmp_ge (tgt := 119) hx hb dX0_search_46 (by decide) (fun _ => ?_) (fun c_21 => absurd c_21 (by decide))
            refine lv_aload_n hx hb dX0_search_119 rfl (lv_at hl 3 rfl) ?_
            refine lv_aload_n hx hb dX0_search_120 rfl (lv_at hl 3 rfl) ?_
            refine va_get (D := (dC, dI)) (ci := 2) (v := .ref tO) (C := RX0) (T := TX0) (N := 5) hx hb hts kc_xSearch2_1 hown hK hP 0 rfl rfl 3 (by decide) (hts (.fieldLink RX0 17 "MistHeaps$Chances" "times" "[[J") kc_xSearch2_3) (fun _ h9 => h9) rfl dX0_search_121 ?_
            refine lv_iload hx hb dX0_search_124 (lv_at hl 8 rfl) ?_
            refine va_alda hx hb hK hP 2 1 rfl rfl (vp_in_nI (n := 1) (N := 3) (by omega) (by omega)) dX0_search_126 ?_
            refine qq_as (v := .ref (rt 1)) (rfl) ?_
            refine lv_iload hx hb dX0_search_127 (lv_at hl 9 rfl) ?_
            have hPc := hP.sub (ws' := [(zo2lirrr ch ft2 fr2 dr tO hO), (zaL (rt 1) cT 36 ft12), (zaR hO cHO 8 (fun i => if i < 8 then some (rh i) else none)), (zaI (rh 0) cH 36 g02), (zaI (rh 1) cH 36 g12), (zaI (rh 2) cH 36 g22), (zaI (rh 3) cH 36 g32), (zaI (rh 4) cH 36 g42), (zaI (rh 5) cH 36 g52), (zaI (rh 6) cH 36 g62), (zaI (rh 7) cH 36 g72)]) [0, 4, 6, 7, 8, 9, 10, 11, 12, 13, 14] rfl
            have hDc := hD.sub (ws' := [(zo2lirrr ch ft2 fr2 dr tO hO), (zaL (rt 1) cT 36 ft12), (zaR hO cHO 8 (fun i => if i < 8 then some (rh i) else none)), (zaI (rh 0) cH 36 g02), (zaI (rh 1) cH 36 g12), (zaI (rh 2) cH 36 g22), (zaI (rh 3) cH 36 g32), (zaI (rh 4) cH 36 g42), (zaI (rh 5) cH 36 g52), (zaI (rh 6) cH 36 g62), (zaI (rh 7) cH 36 g72)]) [0, 4, 6, 7, 8, 9, 10, 11, 12, 13, 14] (by decide) rfl
            have hKc := hK.sub (tys' := [(cT, .long), (cHO, .array .int), (cH, .int), (cH, .int), (cH, .int), (cH, .int), (cH, .int), (cH, .int), (cH, .int), (cH, .int)]) [3, 5, 6, 7, 8, 9, 10, 11, 12, 13] rfl
            have hFc := va_free (wc := [(zo2lirrr ch ft2 fr2 dr tO hO), (zaL (rt 1) cT 36 ft12), (zaR hO cHO 8 (fun i => if i < 8 then some (rh i) else none)), (zaI (rh 0) cH 36 g02), (zaI (rh 1) cH 36 g12), (zaI (rh 2) cH 36 g22), (zaI (rh 3) cH 36 g32), (zaI (rh 4) cH 36 g42), (zaI (rh 5) cH 36 g52), (zaI (rh 6) cH 36 g62), (zaI (rh 7) cH 36 g72)]) hD hS hA [0, 4, 6, 7, 8, 9, 10, 11, 12, 13, 14] rfl
            refine va_callv (va_runV (As := [.ref (rt 1), .int (nI r)]) (rest := []) ⟨hx, hb, hml, hown, hts⟩ (c_xTryLast l dC dI ch dr tO hO i fr2 (nI r) ft2 cHO cH g02 g12 g22 g32 g42 g52 g62 g72 rh (rt 1) cT ft12 H.size) (cwV 2 hts gX0_search_X0_tryLast rfl rfl rfl hd_yX0_tryLast ⟨Nat.le_of_ble_eq_true rfl, Nat.le_of_ble_eq_true rfl⟩) ⟨fun a U g mk q => by obtain ⟨q0, q1, qP, qK, qD⟩ := q; exact ⟨q0, q1, qP, va_K.moved (u := U) (U := U.calling g mk a) (Vm.Alike.refl U.vm) qK, qD⟩, va_recv hK hP (ci := 2) (q := (RX0, TX0, 5)) (q0 := 0) rfl rfl, fun U hU hW => ⟨rfl, by rw [hU], by rw [hU]; exact hPc, va_K.moved hW.alike hKc, hDc.weaken (fun _ _ _ _ => trivial)⟩⟩ rfl rfl hl.1 rfl (lv_room (Nat.le_of_ble_eq_true rfl)) dX0_search_129 ⟨Nat.le_of_ble_eq_true rfl, Nat.le_of_ble_eq_true rfl⟩) hS (fun q _ h => hFc q h) hFc (fun u tC H1 locs htC hvm hw_23 hB hz1 hk1 hS => ?_)
            obtain ⟨ft9_24, fr9_25⟩ := u
            try dsimp only at hw_23 hB
            obtain ⟨hP1, hK1, hD1⟩ := hB
            rw [htC] at hP1
            have hK1 := va_K.moved hvm.symm hK1
            obtain ⟨hP, hD⟩ := va_join (wr := [(zaI dr cD 36 fD2), (zaR tO cTO 3 (fun i => if i < 3 then some (rt i) else none)), (zaL (rt 0) cT 36 ft02), (zaL (rt 2) cT 36 ft22), (zo10ririliiriririr sc aTp (nI ts) aHl (nI nh) ed mi sn aHs (nI n) aWk (nI wz) aBk (nI bz) aFc), (zaI aFc cFc 6 fFc2)]) (w1 := [(zo2lirrr ch ft9_24 fr9_25 dr tO hO), (zaL (rt 1) cT 36 ft12), (zaR hO cHO 8 (fun i => if i < 8 then some (rh i) else none)), (zaI (rh 0) cH 36 g02), (zaI (rh 1) cH 36 g12), (zaI (rh 2) cH 36 g22), (zaI (rh 3) cH 36 g32), (zaI (rh 4) cH 36 g42), (zaI (rh 5) cH 36 g52), (zaI (rh 6) cH 36 g62), (zaI (rh 7) cH 36 g72)]) hP hD [0, 4, 6, 7, 8, 9, 10, 11, 12, 13, 14] [1, 2, 3, 5, 15, 16] rfl rfl (by decide) (by decide) hk1 hFc hP1 hD1
            have hK := (hK.sub (tys' := [(cD, .int), (cTO, .array .long), (cT, .long), (cT, .long), (cFc, .int)]) [0, 1, 2, 4, 14] rfl).app hK1
            generalize H1 = H at hP hS ⊢
            have hP : va_P (dC, dI) vwCl [(zaI dr cD 36 fD2), (zaR tO cTO 3 (fun i => if i < 3 then some (rt i) else none)), (zaL (rt 0) cT 36 ft02), (zaL (rt 2) cT 36 ft22), (zo10ririliiriririr sc aTp (nI ts) aHl (nI nh) ed mi sn aHs (nI n) aWk (nI wz) aBk (nI bz) aFc), (zaI aFc cFc 6 fFc2), (zo2lirrr ch ft9_24 fr9_25 dr tO hO), (zaL (rt 1) cT 36 ft12), (zaR hO cHO 8 (fun i => if i < 8 then some (rh i) else none)), (zaI (rh 0) cH 36 g02), (zaI (rh 1) cH 36 g12), (zaI (rh 2) cH 36 g22), (zaI (rh 3) cH 36 g32), (zaI (rh 4) cH 36 g42), (zaI (rh 5) cH 36 g52), (zaI (rh 6) cH 36 g62), (zaI (rh 7) cH 36 g72)] H := hP
            have hD : va_D A [(zaI dr cD 36 fD2), (zaR tO cTO 3 (fun i => if i < 3 then some (rt i) else none)), (zaL (rt 0) cT 36 ft02), (zaL (rt 2) cT 36 ft22), (zo10ririliiriririr sc aTp (nI ts) aHl (nI nh) ed mi sn aHs (nI n) aWk (nI wz) aBk (nI bz) aFc), (zaI aFc cFc 6 fFc2), (zo2lirrr ch ft9_24 fr9_25 dr tO hO), (zaL (rt 1) cT 36 ft12), (zaR hO cHO 8 (fun i => if i < 8 then some (rh i) else none)), (zaI (rh 0) cH 36 g02), (zaI (rh 1) cH 36 g12), (zaI (rh 2) cH 36 g22), (zaI (rh 3) cH 36 g32), (zaI (rh 4) cH 36 g42), (zaI (rh 5) cH 36 g52), (zaI (rh 6) cH 36 g62), (zaI (rh 7) cH 36 g72)] := hD
            have hK : va_K (dC, dI) vwCl [(cD, .int), (cTO, .array .long), (cT, .long), (cT, .long), (cFc, .int), (cT, .long), (cHO, .array .int), (cH, .int), (cH, .int), (cH, .int), (cH, .int), (cH, .int), (cH, .int), (cH, .int), (cH, .int)] s := hK
            refine lv_iinc (v := nI (r + 1)) (lv' := [(7, .int (nI (r + 1))), (8, .int 1), (10, .int v_18), (9, .int 0), (0, .ref ch), (1, .ref sc), (2, .int x), (3, .long mk), (5, .int 2), (6, .int 1)]) hx hb dX0_search_132 hl (k := 9) rfl (nI_add r 1) (by decide) rfl (fun ls hl => ?_)
            refine lv_goto (tgt := 28) hx hb dX0_search_135 (by decide) ?_
            exact ih28 (r + 1) _ _ _ _ _ _ _ _ _ _ _ _ _ _ _ (by omega) (by omega) _ _ (hK.sub [0, 1, 2, 5, 3, 6, 7, 8, 9, 10, 11, 12, 13, 14, 4] rfl) (hP.sub [6, 0, 1, 2, 7, 3, 8, 9, 10, 11, 12, 13, 14, 15, 16, 4, 5] rfl) (hD.sub [6, 0, 1, 2, 7, 3, 8, 9, 10, 11, 12, 13, 14, 15, 16, 4, 5] (by decide) rfl) hS ls (lv_sub hl [4, 5, 6, 7, 8, 9, 0] rfl)
          · skip
            refine lv_aload_n hx hb dX0_search_84 rfl (lv_at hl 3 rfl) ?_
            refine lv_aload_n hx hb dX0_search_85 rfl (lv_at hl 4 rfl) ?_
            refine lv_aload_n hx hb dX0_search_86 rfl (lv_at hl 3 rfl) ?_
            refine va_get (D := (dC, dI)) (ci := 2) (v := .ref tO) (C := RX0) (T := TX0) (N := 5) hx hb hts kc_xSearch2_1 hown hK hP 0 rfl rfl 3 (by decide) (hts (.fieldLink RX0 17 "MistHeaps$Chances" "times" "[[J") kc_xSearch2_3) (fun _ h9 => h9) rfl dX0_search_87 ?_
            refine lv_iload hx hb dX0_search_90 (lv_at hl 2 rfl) ?_
            refine va_alda hx hb hK hP 2 1 rfl rfl (vp_in_nI (n := 0) (N := 3) (by omega) (by omega)) dX0_search_92 ?_
            refine qq_as (v := .ref (rt 0)) (rfl) ?_
            refine lv_iload hx hb dX0_search_93 (lv_at hl 9 rfl) ?_
            refine lv_iload hx hb dX0_search_95 (lv_at hl 1 rfl) ?_
            refine lv_ishr hx hb dX0_search_97 ?_
            refine lv_bipush (v := 7) hx hb dX0_search_98 (by decide) ?_
            refine lv_iand hx hb dX0_search_100 ?_
            obtain ⟨k_26, hk_27, ek_28⟩ := and7 ((nI r) >>> (0 &&& 31))
            refine qi_as (y := nI k_26) (ek_28) ?_
            refine lv_aload_n hx hb dX0_search_101 rfl (lv_at hl 3 rfl) ?_
            refine va_get (D := (dC, dI)) (ci := 2) (v := .ref tO) (C := RX0) (T := TX0) (N := 5) hx hb hts kc_xSearch2_1 hown hK hP 0 rfl rfl 3 (by decide) (hts (.fieldLink RX0 17 "MistHeaps$Chances" "times" "[[J") kc_xSearch2_3) (fun _ h9 => h9) rfl dX0_search_102 ?_
            refine lv_iload hx hb dX0_search_105 (lv_at hl 2 rfl) ?_
            refine lv_iconst (v := 1) hx hb dX0_search_107 (by decide) ?_
            refine lv_iadd hx hb dX0_search_108 ?_
            refine qi_as (y := 1) (by decide) ?_
            refine va_alda hx hb hK hP 2 1 rfl rfl (vp_in_nI (n := 1) (N := 3) (by omega) (by omega)) dX0_search_109 ?_
            refine qq_as (v := .ref (rt 1)) (rfl) ?_
            have hPc := hP.sub (ws' := [(zo2lirrr ch ft2 fr2 dr tO hO), (zaI dr cD 36 fD2), (zo10ririliiriririr sc aTp (nI ts) aHl (nI nh) ed mi sn aHs (nI n) aWk (nI wz) aBk (nI bz) aFc), (zaL (rt 0) cT 36 ft02), (zaL (rt 1) cT 36 ft12)]) [0, 1, 15, 3, 4] rfl
            have hDc := hD.sub (ws' := [(zo2lirrr ch ft2 fr2 dr tO hO), (zaI dr cD 36 fD2), (zo10ririliiriririr sc aTp (nI ts) aHl (nI nh) ed mi sn aHs (nI n) aWk (nI wz) aBk (nI bz) aFc), (zaL (rt 0) cT 36 ft02), (zaL (rt 1) cT 36 ft12)]) [0, 1, 15, 3, 4] (by decide) rfl
            have hKc := hK.sub (tys' := [(cD, .int), (cT, .long), (cT, .long)]) [0, 2, 3] rfl
            have hFc := va_free (wc := [(zo2lirrr ch ft2 fr2 dr tO hO), (zaI dr cD 36 fD2), (zo10ririliiriririr sc aTp (nI ts) aHl (nI nh) ed mi sn aHs (nI n) aWk (nI wz) aBk (nI bz) aFc), (zaL (rt 0) cT 36 ft02), (zaL (rt 1) cT 36 ft12)]) hD hS hA [0, 1, 15, 3, 4] rfl
            refine va_callv (va_runV (As := [.ref sc, .ref (rt 0), .int (nI k_26), .ref (rt 1)]) (rest := []) ⟨hx, hb, hml, hown, hts⟩ (c_xSpread l dC dI gd sc ch aTp aHl aHs aWk aBk aFc dr tO hO ts nh n wz bz k_26 mi sn fr2 ed ft2 cD fD2 (rt 0) (rt 1) cT cT ft02 ft12 H.size (by omega)) (cwV 4 hts gX0_search_X0_spread rfl rfl rfl hd_yX0_spread ⟨Nat.le_of_ble_eq_true rfl, Nat.le_of_ble_eq_true rfl⟩) ⟨fun a U g mk q => by obtain ⟨q0, q1, qP, qK, qD, qhG⟩ := q; exact ⟨q0, q1, qP, va_K.moved (u := U) (U := U.calling g mk a) (Vm.Alike.refl U.vm) qK, qD, qhG.same rfl rfl⟩, va_recv hK hP (ci := 2) (q := (RX0, TX0, 5)) (q0 := 0) rfl rfl, fun U hU hW => ⟨rfl, by rw [hU], by rw [hU]; exact hPc, va_K.moved hW.alike hKc, hDc.weaken (fun _ _ _ _ => trivial), hG.call hS hU hW (fun q h => hFc q h)⟩⟩ rfl rfl hl.1 rfl (lv_room (Nat.le_of_ble_eq_true rfl)) dX0_search_110 ⟨Nat.le_of_ble_eq_true rfl, Nat.le_of_ble_eq_true rfl⟩) hS (fun q _ h => hFc q h) hFc (fun u tC H1 locs htC hvm hw_30 hB hz1 hk1 hS => ?_)
            obtain ⟨tt9_31, rfl⟩ : ∃ z, z = u := ⟨_, rfl⟩
            try dsimp only at hw_30 hB
            obtain ⟨hP1, hK1, hD1⟩ := hB
            rw [htC] at hP1
            have hK1 := va_K.moved hvm.symm hK1
            obtain ⟨hP, hD⟩ := va_join (wr := [(zaR tO cTO 3 (fun i => if i < 3 then some (rt i) else none)), (zaL (rt 2) cT 36 ft22), (zaR hO cHO 8 (fun i => if i < 8 then some (rh i) else none)), (zaI (rh 0) cH 36 g02), (zaI (rh 1) cH 36 g12), (zaI (rh 2) cH 36 g22), (zaI (rh 3) cH 36 g32), (zaI (rh 4) cH 36 g42), (zaI (rh 5) cH 36 g52), (zaI (rh 6) cH 36 g62), (zaI (rh 7) cH 36 g72), (zaI aFc cFc 6 fFc2)]) (w1 := [(zo2lirrr ch ft2 fr2 dr tO hO), (zaI dr cD 36 fD2), (zo10ririliiriririr sc aTp (nI ts) aHl (nI nh) ed mi sn aHs (nI n) aWk (nI wz) aBk (nI bz) aFc), (zaL (rt 0) cT 36 ft02), (zaL (rt 1) cT 36 tt9_31)]) hP hD [0, 1, 15, 3, 4] [2, 5, 6, 7, 8, 9, 10, 11, 12, 13, 14, 16] rfl rfl (by decide) (by decide) hk1 hFc hP1 hD1
            have hK := (hK.sub (tys' := [(cTO, .array .long), (cT, .long), (cHO, .array .int), (cH, .int), (cH, .int), (cH, .int), (cH, .int), (cH, .int), (cH, .int), (cH, .int), (cH, .int), (cFc, .int)]) [1, 4, 5, 6, 7, 8, 9, 10, 11, 12, 13, 14] rfl).app hK1
            generalize H1 = H at hP hS ⊢
            have hP : va_P (dC, dI) vwCl [(zaR tO cTO 3 (fun i => if i < 3 then some (rt i) else none)), (zaL (rt 2) cT 36 ft22), (zaR hO cHO 8 (fun i => if i < 8 then some (rh i) else none)), (zaI (rh 0) cH 36 g02), (zaI (rh 1) cH 36 g12), (zaI (rh 2) cH 36 g22), (zaI (rh 3) cH 36 g32), (zaI (rh 4) cH 36 g42), (zaI (rh 5) cH 36 g52), (zaI (rh 6) cH 36 g62), (zaI (rh 7) cH 36 g72), (zaI aFc cFc 6 fFc2), (zo2lirrr ch ft2 fr2 dr tO hO), (zaI dr cD 36 fD2), (zo10ririliiriririr sc aTp (nI ts) aHl (nI nh) ed mi sn aHs (nI n) aWk (nI wz) aBk (nI bz) aFc), (zaL (rt 0) cT 36 ft02), (zaL (rt 1) cT 36 tt9_31)] H := hP
            have hD : va_D A [(zaR tO cTO 3 (fun i => if i < 3 then some (rt i) else none)), (zaL (rt 2) cT 36 ft22), (zaR hO cHO 8 (fun i => if i < 8 then some (rh i) else none)), (zaI (rh 0) cH 36 g02), (zaI (rh 1) cH 36 g12), (zaI (rh 2) cH 36 g22), (zaI (rh 3) cH 36 g32), (zaI (rh 4) cH 36 g42), (zaI (rh 5) cH 36 g52), (zaI (rh 6) cH 36 g62), (zaI (rh 7) cH 36 g72), (zaI aFc cFc 6 fFc2), (zo2lirrr ch ft2 fr2 dr tO hO), (zaI dr cD 36 fD2), (zo10ririliiriririr sc aTp (nI ts) aHl (nI nh) ed mi sn aHs (nI n) aWk (nI wz) aBk (nI bz) aFc), (zaL (rt 0) cT 36 ft02), (zaL (rt 1) cT 36 tt9_31)] := hD
            have hK : va_K (dC, dI) vwCl [(cTO, .array .long), (cT, .long), (cHO, .array .int), (cH, .int), (cH, .int), (cH, .int), (cH, .int), (cH, .int), (cH, .int), (cH, .int), (cH, .int), (cFc, .int), (cD, .int), (cT, .long), (cT, .long)] s := hK
            refine lv_iinc (v := 1) (lv' := [(8, .int 1), (10, .int v_18), (9, .int 0), (0, .ref ch), (1, .ref sc), (2, .int x), (3, .long mk), (5, .int 2), (6, .int 1), (7, .int (nI r))]) hx hb dX0_search_113 hl (k := 2) rfl (by decide) (by decide) rfl (fun ls hl => ?_)
            refine lv_goto (tgt := 42) hx hb dX0_search_116 (by decide) ?_
            refine lv_iload hx hb dX0_search_42 (lv_at hl 0 rfl) ?_
            refine lv_iload hx hb dX0_search_44 (lv_at hl 8 rfl) ?_
            refine lv_icmp_ge (tgt := 119) hx hb dX0_search_46 (by decide) (fun _ => ?_) (fun c_32 => absurd c_32 (by decide))
            refine lv_aload_n hx hb dX0_search_119 rfl (lv_at hl 3 rfl) ?_
            refine lv_aload_n hx hb dX0_search_120 rfl (lv_at hl 3 rfl) ?_
            refine va_get (D := (dC, dI)) (ci := 2) (v := .ref tO) (C := RX0) (T := TX0) (N := 5) hx hb hts kc_xSearch2_1 hown hK hP 12 rfl rfl 3 (by decide) (hts (.fieldLink RX0 17 "MistHeaps$Chances" "times" "[[J") kc_xSearch2_3) (fun _ h9 => h9) rfl dX0_search_121 ?_
            refine lv_iload hx hb dX0_search_124 (lv_at hl 8 rfl) ?_
            refine va_alda hx hb hK hP 0 0 rfl rfl (vp_in_nI (n := 1) (N := 3) (by omega) (by omega)) dX0_search_126 ?_
            refine qq_as (v := .ref (rt 1)) (rfl) ?_
            refine lv_iload hx hb dX0_search_127 (lv_at hl 9 rfl) ?_
            have hPc := hP.sub (ws' := [(zo2lirrr ch ft2 fr2 dr tO hO), (zaL (rt 1) cT 36 tt9_31), (zaR hO cHO 8 (fun i => if i < 8 then some (rh i) else none)), (zaI (rh 0) cH 36 g02), (zaI (rh 1) cH 36 g12), (zaI (rh 2) cH 36 g22), (zaI (rh 3) cH 36 g32), (zaI (rh 4) cH 36 g42), (zaI (rh 5) cH 36 g52), (zaI (rh 6) cH 36 g62), (zaI (rh 7) cH 36 g72)]) [12, 16, 2, 3, 4, 5, 6, 7, 8, 9, 10] rfl
            have hDc := hD.sub (ws' := [(zo2lirrr ch ft2 fr2 dr tO hO), (zaL (rt 1) cT 36 tt9_31), (zaR hO cHO 8 (fun i => if i < 8 then some (rh i) else none)), (zaI (rh 0) cH 36 g02), (zaI (rh 1) cH 36 g12), (zaI (rh 2) cH 36 g22), (zaI (rh 3) cH 36 g32), (zaI (rh 4) cH 36 g42), (zaI (rh 5) cH 36 g52), (zaI (rh 6) cH 36 g62), (zaI (rh 7) cH 36 g72)]) [12, 16, 2, 3, 4, 5, 6, 7, 8, 9, 10] (by decide) rfl
            have hKc := hK.sub (tys' := [(cT, .long), (cHO, .array .int), (cH, .int), (cH, .int), (cH, .int), (cH, .int), (cH, .int), (cH, .int), (cH, .int), (cH, .int)]) [14, 2, 3, 4, 5, 6, 7, 8, 9, 10] rfl
            have hFc := va_free (wc := [(zo2lirrr ch ft2 fr2 dr tO hO), (zaL (rt 1) cT 36 tt9_31), (zaR hO cHO 8 (fun i => if i < 8 then some (rh i) else none)), (zaI (rh 0) cH 36 g02), (zaI (rh 1) cH 36 g12), (zaI (rh 2) cH 36 g22), (zaI (rh 3) cH 36 g32), (zaI (rh 4) cH 36 g42), (zaI (rh 5) cH 36 g52), (zaI (rh 6) cH 36 g62), (zaI (rh 7) cH 36 g72)]) hD hS hA [12, 16, 2, 3, 4, 5, 6, 7, 8, 9, 10] rfl
            refine va_callv (va_runV (As := [.ref (rt 1), .int (nI r)]) (rest := []) ⟨hx, hb, hml, hown, hts⟩ (c_xTryLast l dC dI ch dr tO hO i fr2 (nI r) ft2 cHO cH g02 g12 g22 g32 g42 g52 g62 g72 rh (rt 1) cT tt9_31 H.size) (cwV 2 hts gX0_search_X0_tryLast rfl rfl rfl hd_yX0_tryLast ⟨Nat.le_of_ble_eq_true rfl, Nat.le_of_ble_eq_true rfl⟩) ⟨fun a U g mk q => by obtain ⟨q0, q1, qP, qK, qD⟩ := q; exact ⟨q0, q1, qP, va_K.moved (u := U) (U := U.calling g mk a) (Vm.Alike.refl U.vm) qK, qD⟩, va_recv hK hP (ci := 2) (q := (RX0, TX0, 5)) (q0 := 12) rfl rfl, fun U hU hW => ⟨rfl, by rw [hU], by rw [hU]; exact hPc, va_K.moved hW.alike hKc, hDc.weaken (fun _ _ _ _ => trivial)⟩⟩ rfl rfl hl.1 rfl (lv_room (Nat.le_of_ble_eq_true rfl)) dX0_search_129 ⟨Nat.le_of_ble_eq_true rfl, Nat.le_of_ble_eq_true rfl⟩) hS (fun q _ h => hFc q h) hFc (fun u tC H1 locs htC hvm hw_34 hB hz1 hk1 hS => ?_)
            obtain ⟨ft9_35, fr9_36⟩ := u
            try dsimp only at hw_34 hB
            obtain ⟨hP1, hK1, hD1⟩ := hB
            rw [htC] at hP1
            have hK1 := va_K.moved hvm.symm hK1
            obtain ⟨hP, hD⟩ := va_join (wr := [(zaR tO cTO 3 (fun i => if i < 3 then some (rt i) else none)), (zaL (rt 2) cT 36 ft22), (zaI aFc cFc 6 fFc2), (zaI dr cD 36 fD2), (zo10ririliiriririr sc aTp (nI ts) aHl (nI nh) ed mi sn aHs (nI n) aWk (nI wz) aBk (nI bz) aFc), (zaL (rt 0) cT 36 ft02)]) (w1 := [(zo2lirrr ch ft9_35 fr9_36 dr tO hO), (zaL (rt 1) cT 36 tt9_31), (zaR hO cHO 8 (fun i => if i < 8 then some (rh i) else none)), (zaI (rh 0) cH 36 g02), (zaI (rh 1) cH 36 g12), (zaI (rh 2) cH 36 g22), (zaI (rh 3) cH 36 g32), (zaI (rh 4) cH 36 g42), (zaI (rh 5) cH 36 g52), (zaI (rh 6) cH 36 g62), (zaI (rh 7) cH 36 g72)]) hP hD [12, 16, 2, 3, 4, 5, 6, 7, 8, 9, 10] [0, 1, 11, 13, 14, 15] rfl rfl (by decide) (by decide) hk1 hFc hP1 hD1
            have hK := (hK.sub (tys' := [(cTO, .array .long), (cT, .long), (cFc, .int), (cD, .int), (cT, .long)]) [0, 1, 11, 12, 13] rfl).app hK1
            generalize H1 = H at hP hS ⊢
            have hP : va_P (dC, dI) vwCl [(zaR tO cTO 3 (fun i => if i < 3 then some (rt i) else none)), (zaL (rt 2) cT 36 ft22), (zaI aFc cFc 6 fFc2), (zaI dr cD 36 fD2), (zo10ririliiriririr sc aTp (nI ts) aHl (nI nh) ed mi sn aHs (nI n) aWk (nI wz) aBk (nI bz) aFc), (zaL (rt 0) cT 36 ft02), (zo2lirrr ch ft9_35 fr9_36 dr tO hO), (zaL (rt 1) cT 36 tt9_31), (zaR hO cHO 8 (fun i => if i < 8 then some (rh i) else none)), (zaI (rh 0) cH 36 g02), (zaI (rh 1) cH 36 g12), (zaI (rh 2) cH 36 g22), (zaI (rh 3) cH 36 g32), (zaI (rh 4) cH 36 g42), (zaI (rh 5) cH 36 g52), (zaI (rh 6) cH 36 g62), (zaI (rh 7) cH 36 g72)] H := hP
            have hD : va_D A [(zaR tO cTO 3 (fun i => if i < 3 then some (rt i) else none)), (zaL (rt 2) cT 36 ft22), (zaI aFc cFc 6 fFc2), (zaI dr cD 36 fD2), (zo10ririliiriririr sc aTp (nI ts) aHl (nI nh) ed mi sn aHs (nI n) aWk (nI wz) aBk (nI bz) aFc), (zaL (rt 0) cT 36 ft02), (zo2lirrr ch ft9_35 fr9_36 dr tO hO), (zaL (rt 1) cT 36 tt9_31), (zaR hO cHO 8 (fun i => if i < 8 then some (rh i) else none)), (zaI (rh 0) cH 36 g02), (zaI (rh 1) cH 36 g12), (zaI (rh 2) cH 36 g22), (zaI (rh 3) cH 36 g32), (zaI (rh 4) cH 36 g42), (zaI (rh 5) cH 36 g52), (zaI (rh 6) cH 36 g62), (zaI (rh 7) cH 36 g72)] := hD
            have hK : va_K (dC, dI) vwCl [(cTO, .array .long), (cT, .long), (cFc, .int), (cD, .int), (cT, .long), (cT, .long), (cHO, .array .int), (cH, .int), (cH, .int), (cH, .int), (cH, .int), (cH, .int), (cH, .int), (cH, .int), (cH, .int)] s := hK
            refine lv_iinc (v := nI (r + 1)) (lv' := [(7, .int (nI (r + 1))), (8, .int 1), (10, .int v_18), (9, .int 0), (0, .ref ch), (1, .ref sc), (2, .int x), (3, .long mk), (5, .int 2), (6, .int 1)]) hx hb dX0_search_132 hl (k := 9) rfl (nI_add r 1) (by decide) rfl (fun ls hl => ?_)
            refine lv_goto (tgt := 28) hx hb dX0_search_135 (by decide) ?_
            exact ih28 (r + 1) _ _ _ _ _ _ _ _ _ _ _ _ _ _ _ (by omega) (by omega) _ _ (hK.sub [3, 0, 4, 5, 1, 6, 7, 8, 9, 10, 11, 12, 13, 14, 2] rfl) (hP.sub [6, 3, 0, 5, 7, 1, 8, 9, 10, 11, 12, 13, 14, 15, 16, 4, 2] rfl) (hD.sub [6, 3, 0, 5, 7, 1, 8, 9, 10, 11, 12, 13, 14, 15, 16, 4, 2] (by decide) rfl) hS ls (lv_sub hl [4, 5, 6, 7, 8, 9, 0] rfl)
        refine lv_if_ne (tgt := 76) hx hb dX0_search_69 (by decide) (fun c_37 => ?_) (fun c_37 => ?_)
        · skip
          refine lv_iconst (v := 0) hx hb dX0_search_76 (by decide) ?_
          exact J69 0
        · skip
          refine lv_iconst (v := 1) hx hb dX0_search_72 (by decide) ?_
          refine lv_goto (tgt := 77) hx hb dX0_search_73 (by decide) ?_
          exact J69 1
  exact L28 _ (0) _ _ _ _ _ _ _ _ _ _ _ _ _ _ _ (Nat.lt_succ_self _) (by omega) _ _ (hK.sub [5, 2, 3, 0, 1, 6, 7, 8, 9, 10, 11, 12, 13, 14, 4] rfl) (hP.sub [5, 6, 2, 3, 0, 1, 7, 8, 9, 10, 11, 12, 13, 14, 15, 16, 4] rfl) (hD.sub [5, 6, 2, 3, 0, 1, 7, 8, 9, 10, 11, 12, 13, 14, 15, 16, 4] (by decide) rfl) hS ls (lv_sub hl [2, 3, 4, 5, 6, 1, 0] rfl)

theorem kc_xSearch3_0 : (.constantLong RX0 64 (-1) : Cond) ∈ wsX0_search := kc_of 875 rfl rfl rfl
theorem kc_xSearch3_1 : ∀ w ∈ wsX00, w ∈ wsX0_search := fun w h => List.mem_cons_of_mem _ (gin_wsX00 w h)
theorem kc_xSearch3_2 : (.fieldLink RX0 66 "MistHeaps$Chances" "foundTimes" "J" : Cond) ∈ wsX0_search := kc_of 284 rfl rfl rfl
theorem kc_xSearch3_3 : (.fieldLink RX0 17 "MistHeaps$Chances" "times" "[[J" : Cond) ∈ wsX0_search := kc_of 288 rfl rfl rfl
set_option maxHeartbeats 4000000 in
set_option maxRecDepth 100000 in
theorem c_xSearch3 (l : Launch) (dC : Nat → ClassId) (dI : Nat → Nat → Nat) (gd : Nat → Nat)  (sc : Nat) (ch : Nat) (aTp : Nat) (aHl : Nat) (aHs : Nat) (aWk : Nat) (aBk : Nat) (aFc : Nat) (bW : Nat) (bA : Nat) (bE : Nat) (bC : Nat) (dr : Nat) (tO : Nat) (hO : Nat) (ts : Nat) (nh : Nat) (n : Nat) (wz : Nat) (bz : Nat) (cl : Nat) (i : Nat) (mi : Int32) (sn : Int32) (sg : Int32) (cdd : Int32) (szz : Int32) (att : Int32) (nmb : Int32) (fr : Int32) (x : Int32) (ed : Int64) (ft : Int64) (mk : Int64) (cFc : ClassId) (cbW : ClassId) (cbA : ClassId) (cbE : ClassId) (cbC : ClassId) (cD : ClassId) (cTO : ClassId) (cHO : ClassId) (cT : ClassId) (cH : ClassId) (fFc : Nat → Int32) (fbW : Nat → Int32) (fbA : Nat → Int32) (fbE : Nat → Int32) (fbC : Nat → Int32) (fD : Nat → Int32) (g0 : Nat → Int32) (g1 : Nat → Int32) (g2 : Nat → Int32) (g3 : Nat → Int32) (g4 : Nat → Int32) (g5 : Nat → Int32) (g6 : Nat → Int32) (g7 : Nat → Int32) (ft0 : Nat → Int64) (ft1 : Nat → Int64) (ft2 : Nat → Int64) (rt : Nat → Nat) (rh : Nat → Nat) (tpv : Value) (cz : List pCla) (sz : Nat) (zcl : cl ≤ 10) (zE : ∀ k0, k0 < 10 → ∃ e0 : Nat, e0 ≤ 100 ∧ fbE k0 = nI e0) (zC : ∀ k0, k0 < 100 → okC (fbC k0)) (zHC : HC cl sg fbW fbA fbE fbC cz ∧ WfC cz) : Met l yX0_search wsX0_search ({ frames := 5, cells := 0, slots := 0, locals := 117 } : Room) (va_Pc [.ref ch, .ref sc, .int x, .long mk, .int 3] (fun U => U.heap.size = sz ∧ va_P (dC, dI) vwCl [(zo2lirrr ch ft fr dr tO hO), (zaI dr cD 36 fD), (zaR tO cTO 3 (fun i => if i < 3 then some (rt i) else none)), (zaL (rt 0) cT 36 ft0), (zaL (rt 1) cT 36 ft1), (zaL (rt 2) cT 36 ft2), (zaR hO cHO 8 (fun i => if i < 8 then some (rh i) else none)), (zaI (rh 0) cH 36 g0), (zaI (rh 1) cH 36 g1), (zaI (rh 2) cH 36 g2), (zaI (rh 3) cH 36 g3), (zaI (rh 4) cH 36 g4), (zaI (rh 5) cH 36 g5), (zaI (rh 6) cH 36 g6), (zaI (rh 7) cH 36 g7), (zo10ririliiriririr sc aTp (nI ts) aHl (nI nh) ed mi sn aHs (nI n) aWk (nI wz) aBk (nI bz) aFc), (zaI aFc cFc 6 fFc)] U.heap ∧ va_K (dC, dI) vwCl [(cD, .int), (cTO, .array .long), (cT, .long), (cT, .long), (cT, .long), (cHO, .array .int), (cH, .int), (cH, .int), (cH, .int), (cH, .int), (cH, .int), (cH, .int), (cH, .int), (cH, .int), (cFc, .int)] U ∧ va_D (fun _ => True) [(zo2lirrr ch ft fr dr tO hO), (zaI dr cD 36 fD), (zaR tO cTO 3 (fun i => if i < 3 then some (rt i) else none)), (zaL (rt 0) cT 36 ft0), (zaL (rt 1) cT 36 ft1), (zaL (rt 2) cT 36 ft2), (zaR hO cHO 8 (fun i => if i < 8 then some (rh i) else none)), (zaI (rh 0) cH 36 g0), (zaI (rh 1) cH 36 g1), (zaI (rh 2) cH 36 g2), (zaI (rh 3) cH 36 g3), (zaI (rh 4) cH 36 g4), (zaI (rh 5) cH 36 g5), (zaI (rh 6) cH 36 g6), (zaI (rh 7) cH 36 g7), (zo10ririliiriririr sc aTp (nI ts) aHl (nI nh) ed mi sn aHs (nI n) aWk (nI wz) aBk (nI bz) aFc), (zaI aFc cFc 6 fFc)] ∧ Gl gd (va_A [(zo2lirrr ch ft fr dr tO hO), (zaI dr cD 36 fD), (zaR tO cTO 3 (fun i => if i < 3 then some (rt i) else none)), (zaL (rt 0) cT 36 ft0), (zaL (rt 1) cT 36 ft1), (zaL (rt 2) cT 36 ft2), (zaR hO cHO 8 (fun i => if i < 8 then some (rh i) else none)), (zaI (rh 0) cH 36 g0), (zaI (rh 1) cH 36 g1), (zaI (rh 2) cH 36 g2), (zaI (rh 3) cH 36 g3), (zaI (rh 4) cH 36 g4), (zaI (rh 5) cH 36 g5), (zaI (rh 6) cH 36 g6), (zaI (rh 7) cH 36 g7), (zo10ririliiriririr sc aTp (nI ts) aHl (nI nh) ed mi sn aHs (nI n) aWk (nI wz) aBk (nI bz) aFc), (zaI aFc cFc 6 fFc)] sz) U ∧ Fz dC dI [(zo7iirrrriviii aHl sg (nI cl) bW bA bE bC cdd tpv szz att nmb), (zaI bW cbW 10 fbW), (zaI bA cbA 10 fbA), (zaI bE cbE 10 fbE), (zaI bC cbC 100 fbC)] [(cbW, .int), (cbA, .int), (cbE, .int), (cbC, .int)] (va_A [(zo2lirrr ch ft fr dr tO hO), (zaI dr cD 36 fD), (zaR tO cTO 3 (fun i => if i < 3 then some (rt i) else none)), (zaL (rt 0) cT 36 ft0), (zaL (rt 1) cT 36 ft1), (zaL (rt 2) cT 36 ft2), (zaR hO cHO 8 (fun i => if i < 8 then some (rh i) else none)), (zaI (rh 0) cH 36 g0), (zaI (rh 1) cH 36 g1), (zaI (rh 2) cH 36 g2), (zaI (rh 3) cH 36 g3), (zaI (rh 4) cH 36 g4), (zaI (rh 5) cH 36 g5), (zaI (rh 6) cH 36 g6), (zaI (rh 7) cH 36 g7), (zo10ririliiriririr sc aTp (nI ts) aHl (nI nh) ed mi sn aHs (nI n) aWk (nI wz) aBk (nI bz) aFc), (zaI aFc cFc 6 fFc)] sz) U)) (va_Qv (fun (u : (Int64) × (Int32) × (Nat → Int32) × (Nat → Int64) × (Nat → Int64) × (Nat → Int64) × (Nat → Int32) × (Nat → Int32) × (Nat → Int32) × (Nat → Int32) × (Nat → Int32) × (Nat → Int32) × (Nat → Int32) × (Nat → Int32) × (Nat → Int32)) => match u with | (ft9, fr9, fD9, ft09, ft19, ft29, g09, g19, g29, g39, g49, g59, g69, g79, fFc9) => True) (fun (u : (Int64) × (Int32) × (Nat → Int32) × (Nat → Int64) × (Nat → Int64) × (Nat → Int64) × (Nat → Int32) × (Nat → Int32) × (Nat → Int32) × (Nat → Int32) × (Nat → Int32) × (Nat → Int32) × (Nat → Int32) × (Nat → Int32) × (Nat → Int32)) (t : State) => match u with | (ft9, fr9, fD9, ft09, ft19, ft29, g09, g19, g29, g39, g49, g59, g69, g79, fFc9) => va_P (dC, dI) vwCl [(zo2lirrr ch ft9 fr9 dr tO hO), (zaI dr cD 36 fD9), (zaR tO cTO 3 (fun i => if i < 3 then some (rt i) else none)), (zaL (rt 0) cT 36 ft09), (zaL (rt 1) cT 36 ft19), (zaL (rt 2) cT 36 ft29), (zaR hO cHO 8 (fun i => if i < 8 then some (rh i) else none)), (zaI (rh 0) cH 36 g09), (zaI (rh 1) cH 36 g19), (zaI (rh 2) cH 36 g29), (zaI (rh 3) cH 36 g39), (zaI (rh 4) cH 36 g49), (zaI (rh 5) cH 36 g59), (zaI (rh 6) cH 36 g69), (zaI (rh 7) cH 36 g79), (zo10ririliiriririr sc aTp (nI ts) aHl (nI nh) ed mi sn aHs (nI n) aWk (nI wz) aBk (nI bz) aFc), (zaI aFc cFc 6 fFc9)] t.heap ∧ va_K (dC, dI) vwCl [(cD, .int), (cTO, .array .long), (cT, .long), (cT, .long), (cT, .long), (cHO, .array .int), (cH, .int), (cH, .int), (cH, .int), (cH, .int), (cH, .int), (cH, .int), (cH, .int), (cH, .int), (cFc, .int)] t ∧ va_D (va_A [(zo2lirrr ch ft fr dr tO hO), (zaI dr cD 36 fD), (zaR tO cTO 3 (fun i => if i < 3 then some (rt i) else none)), (zaL (rt 0) cT 36 ft0), (zaL (rt 1) cT 36 ft1), (zaL (rt 2) cT 36 ft2), (zaR hO cHO 8 (fun i => if i < 8 then some (rh i) else none)), (zaI (rh 0) cH 36 g0), (zaI (rh 1) cH 36 g1), (zaI (rh 2) cH 36 g2), (zaI (rh 3) cH 36 g3), (zaI (rh 4) cH 36 g4), (zaI (rh 5) cH 36 g5), (zaI (rh 6) cH 36 g6), (zaI (rh 7) cH 36 g7), (zo10ririliiriririr sc aTp (nI ts) aHl (nI nh) ed mi sn aHs (nI n) aWk (nI wz) aBk (nI bz) aFc), (zaI aFc cFc 6 fFc)] sz) [(zo2lirrr ch ft9 fr9 dr tO hO), (zaI dr cD 36 fD9), (zaR tO cTO 3 (fun i => if i < 3 then some (rt i) else none)), (zaL (rt 0) cT 36 ft09), (zaL (rt 1) cT 36 ft19), (zaL (rt 2) cT 36 ft29), (zaR hO cHO 8 (fun i => if i < 8 then some (rh i) else none)), (zaI (rh 0) cH 36 g09), (zaI (rh 1) cH 36 g19), (zaI (rh 2) cH 36 g29), (zaI (rh 3) cH 36 g39), (zaI (rh 4) cH 36 g49), (zaI (rh 5) cH 36 g59), (zaI (rh 6) cH 36 g69), (zaI (rh 7) cH 36 g79), (zo10ririliiriririr sc aTp (nI ts) aHl (nI nh) ed mi sn aHs (nI n) aWk (nI wz) aBk (nI bz) aFc), (zaI aFc cFc 6 fFc9)]) (va_A [(zo2lirrr ch ft fr dr tO hO), (zaI dr cD 36 fD), (zaR tO cTO 3 (fun i => if i < 3 then some (rt i) else none)), (zaL (rt 0) cT 36 ft0), (zaL (rt 1) cT 36 ft1), (zaL (rt 2) cT 36 ft2), (zaR hO cHO 8 (fun i => if i < 8 then some (rh i) else none)), (zaI (rh 0) cH 36 g0), (zaI (rh 1) cH 36 g1), (zaI (rh 2) cH 36 g2), (zaI (rh 3) cH 36 g3), (zaI (rh 4) cH 36 g4), (zaI (rh 5) cH 36 g5), (zaI (rh 6) cH 36 g6), (zaI (rh 7) cH 36 g7), (zo10ririliiriririr sc aTp (nI ts) aHl (nI nh) ed mi sn aHs (nI n) aWk (nI wz) aBk (nI bz) aFc), (zaI aFc cFc 6 fFc)] sz)) 0 0 (va_A [(zo2lirrr ch ft fr dr tO hO), (zaI dr cD 36 fD), (zaR tO cTO 3 (fun i => if i < 3 then some (rt i) else none)), (zaL (rt 0) cT 36 ft0), (zaL (rt 1) cT 36 ft1), (zaL (rt 2) cT 36 ft2), (zaR hO cHO 8 (fun i => if i < 8 then some (rh i) else none)), (zaI (rh 0) cH 36 g0), (zaI (rh 1) cH 36 g1), (zaI (rh 2) cH 36 g2), (zaI (rh 3) cH 36 g3), (zaI (rh 4) cH 36 g4), (zaI (rh 5) cH 36 g5), (zaI (rh 6) cH 36 g6), (zaI (rh 7) cH 36 g7), (zo10ririliiriririr sc aTp (nI ts) aHl (nI nh) ed mi sn aHs (nI n) aWk (nI wz) aBk (nI bz) aFc), (zaI aFc cFc 6 fFc)] sz) := by
  refine met_ofQ (cc := cX0_search) (maxL := 11) (ret := none) (by decide) rfl ?_
  intro p e s m args below meth c s₁ Q B hml hv hQ
  obtain ⟨rfl, hsz, hP, hK, hD0, hG, hZ⟩ := hv
  have hx := B.exec
  have hb := B.bytes
  have hr := B.returns
  have hts := atoms_spec (ws := wsX0_search) B.pre
  have hown : s.vm.findClass RX0 = some m.cls := findClass_of_methodNamed B.named
  have hlocks := B.notSynchronized
  subst hsz
  have hD := hD0.self (sz := s.heap.size)
  generalize hAe : va_A [(zo2lirrr ch ft fr dr tO hO), (zaI dr cD 36 fD), (zaR tO cTO 3 (fun i => if i < 3 then some (rt i) else none)), (zaL (rt 0) cT 36 ft0), (zaL (rt 1) cT 36 ft1), (zaL (rt 2) cT 36 ft2), (zaR hO cHO 8 (fun i => if i < 8 then some (rh i) else none)), (zaI (rh 0) cH 36 g0), (zaI (rh 1) cH 36 g1), (zaI (rh 2) cH 36 g2), (zaI (rh 3) cH 36 g3), (zaI (rh 4) cH 36 g4), (zaI (rh 5) cH 36 g5), (zaI (rh 6) cH 36 g6), (zaI (rh 7) cH 36 g7), (zo10ririliiriririr sc aTp (nI ts) aHl (nI nh) ed mi sn aHs (nI n) aWk (nI wz) aBk (nI bz) aFc), (zaI aFc cFc 6 fFc)] s.heap.size = A at hD hQ hG hZ ⊢
  have hA : ∀ q : Nat, s.heap.size ≤ q → A q := fun q h => by rw [← hAe]; exact Or.inr h
  have hS : va_S A s.heap s.heap [] := va_S.rf
  have hl := lv_entry [.ref ch, .ref sc, .int x, .long mk, .int 3] (n := 11) (Nat.le_of_ble_eq_true rfl)
  rw [lg_entry_eq]
  generalize (lg_sl [.ref ch, .ref sc, .int x, .long mk, .int 3] ++ List.replicate (11 - (lg_sl [.ref ch, .ref sc, .int x, .long mk, .int 3]).length) Slot.unset).toArray = ls at hl ⊢
  generalize hag : ([.ref ch, .ref sc, .int x, .long mk, .int 3] : List Value).toArray = args at hts hQ ⊢
  have hl : lv_has ls 11 [(0, .ref ch), (1, .ref sc), (2, .int x), (3, .long mk), (5, .int 3)] := hl
  obtain ⟨H, hH⟩ : ∃ H : Heap, H = s.heap := ⟨_, rfl⟩
  rw [← hH] at hP
  rw [← hH]
  have hS : va_S A s.heap H [] := by rw [hH]; exact hS
  obtain ⟨locs, hlo⟩ : ∃ L : List Loc, L = [] := ⟨_, rfl⟩
  rw [← hlo] at hS
  rw [← hlo]
  clear hH hlo
  refine lv_aload_n hx hb dX0_search_0 rfl (lv_at hl 0 rfl) ?_
  refine lv_aload_n hx hb dX0_search_1 rfl (lv_at hl 1 rfl) ?_
  refine lv_iload_n hx hb dX0_search_2 rfl (lv_at hl 2 rfl) ?_
  have hPc := hP.sub (ws' := [(zo2lirrr ch ft fr dr tO hO), (zaI dr cD 36 fD), (zaR tO cTO 3 (fun i => if i < 3 then some (rt i) else none)), (zaL (rt 0) cT 36 ft0), (zo10ririliiriririr sc aTp (nI ts) aHl (nI nh) ed mi sn aHs (nI n) aWk (nI wz) aBk (nI bz) aFc), (zaI aFc cFc 6 fFc)]) [0, 1, 2, 3, 15, 16] rfl
  have hDc := hD.sub (ws' := [(zo2lirrr ch ft fr dr tO hO), (zaI dr cD 36 fD), (zaR tO cTO 3 (fun i => if i < 3 then some (rt i) else none)), (zaL (rt 0) cT 36 ft0), (zo10ririliiriririr sc aTp (nI ts) aHl (nI nh) ed mi sn aHs (nI n) aWk (nI wz) aBk (nI bz) aFc), (zaI aFc cFc 6 fFc)]) [0, 1, 2, 3, 15, 16] (by decide) rfl
  have hKc := hK.sub (tys' := [(cD, .int), (cTO, .array .long), (cT, .long), (cFc, .int)]) [0, 1, 2, 14] rfl
  have hFc := va_free (wc := [(zo2lirrr ch ft fr dr tO hO), (zaI dr cD 36 fD), (zaR tO cTO 3 (fun i => if i < 3 then some (rt i) else none)), (zaL (rt 0) cT 36 ft0), (zo10ririliiriririr sc aTp (nI ts) aHl (nI nh) ed mi sn aHs (nI n) aWk (nI wz) aBk (nI bz) aFc), (zaI aFc cFc 6 fFc)]) hD hS hA [0, 1, 2, 3, 15, 16] rfl
  refine va_callv (va_runV (As := [.ref sc, .int x]) (rest := []) ⟨hx, hb, hml, hown, hts⟩ (c_xBegin l dC dI gd  sc ch aTp aHl aHs aWk aBk aFc bW bA bE bC dr tO hO ts nh n wz bz cl i mi sn sg cdd szz att nmb fr x ed ft cFc cbW cbA cbE cbC cD cTO cT fFc fbW fbA fbE fbC fD ft0 rt tpv cz H.size (zcl) (zE) (zC) (zHC)) (cwV 2 hts gX0_search_X0_begin rfl rfl rfl hd_yX0_begin ⟨Nat.le_of_ble_eq_true rfl, Nat.le_of_ble_eq_true rfl⟩) ⟨fun a U g mk q => by obtain ⟨q0, q1, qP, qK, qD, qhG, qhZ⟩ := q; exact ⟨q0, q1, qP, va_K.moved (u := U) (U := U.calling g mk a) (Vm.Alike.refl U.vm) qK, qD, qhG.same rfl rfl, qhZ.same rfl rfl⟩, va_recv hK hP (ci := 2) (q := (RX0, TX0, 5)) (q0 := 0) rfl rfl, fun U hU hW => ⟨rfl, by rw [hU], by rw [hU]; exact hPc, va_K.moved hW.alike hKc, hDc.weaken (fun _ _ _ _ => trivial), hG.call hS hU hW (fun q h => hFc q h), (hZ.sub [0, 1, 2, 3, 4] [0, 1, 2, 3] rfl rfl).call hS hU hW (fun q h => hFc q h)⟩⟩ rfl rfl hl.1 rfl (lv_room (Nat.le_of_ble_eq_true rfl)) dX0_search_3 ⟨Nat.le_of_ble_eq_true rfl, Nat.le_of_ble_eq_true rfl⟩) hS (fun q _ h => hFc q h) hFc (fun u tC H1 locs htC hvm hw_2 hB hz1 hk1 hS => ?_)
  obtain ⟨fD9_3, ft09_4, fFc9_5⟩ := u
  try dsimp only at hw_2 hB
  obtain ⟨hP1, hK1, hD1⟩ := hB
  rw [htC] at hP1
  have hK1 := va_K.moved hvm.symm hK1
  obtain ⟨hP, hD⟩ := va_join (wr := [(zaL (rt 1) cT 36 ft1), (zaL (rt 2) cT 36 ft2), (zaR hO cHO 8 (fun i => if i < 8 then some (rh i) else none)), (zaI (rh 0) cH 36 g0), (zaI (rh 1) cH 36 g1), (zaI (rh 2) cH 36 g2), (zaI (rh 3) cH 36 g3), (zaI (rh 4) cH 36 g4), (zaI (rh 5) cH 36 g5), (zaI (rh 6) cH 36 g6), (zaI (rh 7) cH 36 g7)]) (w1 := [(zo2lirrr ch ft fr dr tO hO), (zaI dr cD 36 fD9_3), (zaR tO cTO 3 (fun i => if i < 3 then some (rt i) else none)), (zaL (rt 0) cT 36 ft09_4), (zo10ririliiriririr sc aTp (nI ts) aHl (nI nh) ed mi sn aHs (nI n) aWk (nI wz) aBk (nI bz) aFc), (zaI aFc cFc 6 fFc9_5)]) hP hD [0, 1, 2, 3, 15, 16] [4, 5, 6, 7, 8, 9, 10, 11, 12, 13, 14] rfl rfl (by decide) (by decide) hk1 hFc hP1 hD1
  have hK := (hK.sub (tys' := [(cT, .long), (cT, .long), (cHO, .array .int), (cH, .int), (cH, .int), (cH, .int), (cH, .int), (cH, .int), (cH, .int), (cH, .int), (cH, .int)]) [3, 4, 5, 6, 7, 8, 9, 10, 11, 12, 13] rfl).app hK1
  generalize H1 = H at hP hS ⊢
  have hP : va_P (dC, dI) vwCl [(zaL (rt 1) cT 36 ft1), (zaL (rt 2) cT 36 ft2), (zaR hO cHO 8 (fun i => if i < 8 then some (rh i) else none)), (zaI (rh 0) cH 36 g0), (zaI (rh 1) cH 36 g1), (zaI (rh 2) cH 36 g2), (zaI (rh 3) cH 36 g3), (zaI (rh 4) cH 36 g4), (zaI (rh 5) cH 36 g5), (zaI (rh 6) cH 36 g6), (zaI (rh 7) cH 36 g7), (zo2lirrr ch ft fr dr tO hO), (zaI dr cD 36 fD9_3), (zaR tO cTO 3 (fun i => if i < 3 then some (rt i) else none)), (zaL (rt 0) cT 36 ft09_4), (zo10ririliiriririr sc aTp (nI ts) aHl (nI nh) ed mi sn aHs (nI n) aWk (nI wz) aBk (nI bz) aFc), (zaI aFc cFc 6 fFc9_5)] H := hP
  have hD : va_D A [(zaL (rt 1) cT 36 ft1), (zaL (rt 2) cT 36 ft2), (zaR hO cHO 8 (fun i => if i < 8 then some (rh i) else none)), (zaI (rh 0) cH 36 g0), (zaI (rh 1) cH 36 g1), (zaI (rh 2) cH 36 g2), (zaI (rh 3) cH 36 g3), (zaI (rh 4) cH 36 g4), (zaI (rh 5) cH 36 g5), (zaI (rh 6) cH 36 g6), (zaI (rh 7) cH 36 g7), (zo2lirrr ch ft fr dr tO hO), (zaI dr cD 36 fD9_3), (zaR tO cTO 3 (fun i => if i < 3 then some (rt i) else none)), (zaL (rt 0) cT 36 ft09_4), (zo10ririliiriririr sc aTp (nI ts) aHl (nI nh) ed mi sn aHs (nI n) aWk (nI wz) aBk (nI bz) aFc), (zaI aFc cFc 6 fFc9_5)] := hD
  have hK : va_K (dC, dI) vwCl [(cT, .long), (cT, .long), (cHO, .array .int), (cH, .int), (cH, .int), (cH, .int), (cH, .int), (cH, .int), (cH, .int), (cH, .int), (cH, .int), (cD, .int), (cTO, .array .long), (cT, .long), (cFc, .int)] s := hK
  refine lv_aload_n hx hb dX0_search_6 rfl (lv_at hl 0 rfl) ?_
  refine lv_aload_n hx hb dX0_search_7 rfl (lv_at hl 1 rfl) ?_
  refine lv_lload_n hx hb dX0_search_8 rfl (lv_at hl 3 rfl) ?_
  have hPc := hP.sub (ws' := [(zo2lirrr ch ft fr dr tO hO), (zaI dr cD 36 fD9_3), (zaR hO cHO 8 (fun i => if i < 8 then some (rh i) else none)), (zaI (rh 0) cH 36 g0), (zaI (rh 1) cH 36 g1), (zaI (rh 2) cH 36 g2), (zaI (rh 3) cH 36 g3), (zaI (rh 4) cH 36 g4), (zaI (rh 5) cH 36 g5), (zaI (rh 6) cH 36 g6), (zaI (rh 7) cH 36 g7), (zo10ririliiriririr sc aTp (nI ts) aHl (nI nh) ed mi sn aHs (nI n) aWk (nI wz) aBk (nI bz) aFc)]) [11, 12, 2, 3, 4, 5, 6, 7, 8, 9, 10, 15] rfl
  have hDc := hD.sub (ws' := [(zo2lirrr ch ft fr dr tO hO), (zaI dr cD 36 fD9_3), (zaR hO cHO 8 (fun i => if i < 8 then some (rh i) else none)), (zaI (rh 0) cH 36 g0), (zaI (rh 1) cH 36 g1), (zaI (rh 2) cH 36 g2), (zaI (rh 3) cH 36 g3), (zaI (rh 4) cH 36 g4), (zaI (rh 5) cH 36 g5), (zaI (rh 6) cH 36 g6), (zaI (rh 7) cH 36 g7), (zo10ririliiriririr sc aTp (nI ts) aHl (nI nh) ed mi sn aHs (nI n) aWk (nI wz) aBk (nI bz) aFc)]) [11, 12, 2, 3, 4, 5, 6, 7, 8, 9, 10, 15] (by decide) rfl
  have hKc := hK.sub (tys' := [(cD, .int), (cHO, .array .int), (cH, .int), (cH, .int), (cH, .int), (cH, .int), (cH, .int), (cH, .int), (cH, .int), (cH, .int)]) [11, 2, 3, 4, 5, 6, 7, 8, 9, 10] rfl
  have hFc := va_free (wc := [(zo2lirrr ch ft fr dr tO hO), (zaI dr cD 36 fD9_3), (zaR hO cHO 8 (fun i => if i < 8 then some (rh i) else none)), (zaI (rh 0) cH 36 g0), (zaI (rh 1) cH 36 g1), (zaI (rh 2) cH 36 g2), (zaI (rh 3) cH 36 g3), (zaI (rh 4) cH 36 g4), (zaI (rh 5) cH 36 g5), (zaI (rh 6) cH 36 g6), (zaI (rh 7) cH 36 g7), (zo10ririliiriririr sc aTp (nI ts) aHl (nI nh) ed mi sn aHs (nI n) aWk (nI wz) aBk (nI bz) aFc)]) hD hS hA [11, 12, 2, 3, 4, 5, 6, 7, 8, 9, 10, 15] rfl
  refine va_callv (va_runV (As := [.ref sc, .long mk]) (rest := []) ⟨hx, hb, hml, hown, hts⟩ (c_xTellHits l dC dI gd sc ch aTp aHl aHs aWk aBk aFc dr tO hO ts nh n wz bz i mi sn fr ed ft mk cD cHO cH fD9_3 g0 g1 g2 g3 g4 g5 g6 g7 rh H.size) (cwV 2 hts gX0_search_X0_tellHits rfl rfl rfl hd_yX0_tellHits ⟨Nat.le_of_ble_eq_true rfl, Nat.le_of_ble_eq_true rfl⟩) ⟨fun a U g mk q => by obtain ⟨q0, q1, qP, qK, qD, qhG⟩ := q; exact ⟨q0, q1, qP, va_K.moved (u := U) (U := U.calling g mk a) (Vm.Alike.refl U.vm) qK, qD, qhG.same rfl rfl⟩, va_recv hK hP (ci := 2) (q := (RX0, TX0, 5)) (q0 := 11) rfl rfl, fun U hU hW => ⟨rfl, by rw [hU], by rw [hU]; exact hPc, va_K.moved hW.alike hKc, hDc.weaken (fun _ _ _ _ => trivial), hG.call hS hU hW (fun q h => hFc q h)⟩⟩ rfl rfl hl.1 rfl (lv_room (Nat.le_of_ble_eq_true rfl)) dX0_search_9 ⟨Nat.le_of_ble_eq_true rfl, Nat.le_of_ble_eq_true rfl⟩) hS (fun q _ h => hFc q h) hFc (fun u tC H1 locs htC hvm hw_7 hB hz1 hk1 hS => ?_)
  obtain ⟨g09_8, g19_9, g29_10, g39_11, g49_12, g59_13, g69_14, g79_15⟩ := u
  try dsimp only at hw_7 hB
  obtain ⟨hP1, hK1, hD1⟩ := hB
  rw [htC] at hP1
  have hK1 := va_K.moved hvm.symm hK1
  obtain ⟨hP, hD⟩ := va_join (wr := [(zaL (rt 1) cT 36 ft1), (zaL (rt 2) cT 36 ft2), (zaR tO cTO 3 (fun i => if i < 3 then some (rt i) else none)), (zaL (rt 0) cT 36 ft09_4), (zaI aFc cFc 6 fFc9_5)]) (w1 := [(zo2lirrr ch ft fr dr tO hO), (zaI dr cD 36 fD9_3), (zaR hO cHO 8 (fun i => if i < 8 then some (rh i) else none)), (zaI (rh 0) cH 36 g09_8), (zaI (rh 1) cH 36 g19_9), (zaI (rh 2) cH 36 g29_10), (zaI (rh 3) cH 36 g39_11), (zaI (rh 4) cH 36 g49_12), (zaI (rh 5) cH 36 g59_13), (zaI (rh 6) cH 36 g69_14), (zaI (rh 7) cH 36 g79_15), (zo10ririliiriririr sc aTp (nI ts) aHl (nI nh) ed mi sn aHs (nI n) aWk (nI wz) aBk (nI bz) aFc)]) hP hD [11, 12, 2, 3, 4, 5, 6, 7, 8, 9, 10, 15] [0, 1, 13, 14, 16] rfl rfl (by decide) (by decide) hk1 hFc hP1 hD1
  have hK := (hK.sub (tys' := [(cT, .long), (cT, .long), (cTO, .array .long), (cT, .long), (cFc, .int)]) [0, 1, 12, 13, 14] rfl).app hK1
  generalize H1 = H at hP hS ⊢
  have hP : va_P (dC, dI) vwCl [(zaL (rt 1) cT 36 ft1), (zaL (rt 2) cT 36 ft2), (zaR tO cTO 3 (fun i => if i < 3 then some (rt i) else none)), (zaL (rt 0) cT 36 ft09_4), (zaI aFc cFc 6 fFc9_5), (zo2lirrr ch ft fr dr tO hO), (zaI dr cD 36 fD9_3), (zaR hO cHO 8 (fun i => if i < 8 then some (rh i) else none)), (zaI (rh 0) cH 36 g09_8), (zaI (rh 1) cH 36 g19_9), (zaI (rh 2) cH 36 g29_10), (zaI (rh 3) cH 36 g39_11), (zaI (rh 4) cH 36 g49_12), (zaI (rh 5) cH 36 g59_13), (zaI (rh 6) cH 36 g69_14), (zaI (rh 7) cH 36 g79_15), (zo10ririliiriririr sc aTp (nI ts) aHl (nI nh) ed mi sn aHs (nI n) aWk (nI wz) aBk (nI bz) aFc)] H := hP
  have hD : va_D A [(zaL (rt 1) cT 36 ft1), (zaL (rt 2) cT 36 ft2), (zaR tO cTO 3 (fun i => if i < 3 then some (rt i) else none)), (zaL (rt 0) cT 36 ft09_4), (zaI aFc cFc 6 fFc9_5), (zo2lirrr ch ft fr dr tO hO), (zaI dr cD 36 fD9_3), (zaR hO cHO 8 (fun i => if i < 8 then some (rh i) else none)), (zaI (rh 0) cH 36 g09_8), (zaI (rh 1) cH 36 g19_9), (zaI (rh 2) cH 36 g29_10), (zaI (rh 3) cH 36 g39_11), (zaI (rh 4) cH 36 g49_12), (zaI (rh 5) cH 36 g59_13), (zaI (rh 6) cH 36 g69_14), (zaI (rh 7) cH 36 g79_15), (zo10ririliiriririr sc aTp (nI ts) aHl (nI nh) ed mi sn aHs (nI n) aWk (nI wz) aBk (nI bz) aFc)] := hD
  have hK : va_K (dC, dI) vwCl [(cT, .long), (cT, .long), (cTO, .array .long), (cT, .long), (cFc, .int), (cD, .int), (cHO, .array .int), (cH, .int), (cH, .int), (cH, .int), (cH, .int), (cH, .int), (cH, .int), (cH, .int), (cH, .int)] s := hK
  refine lv_aload_n hx hb dX0_search_12 rfl (lv_at hl 0 rfl) ?_
  refine lv_ldc2 (v := (-1)) hx hb hown (hts (.constantLong RX0 64 (-1)) kc_xSearch3_0) dX0_search_13 ?_
  refine va_put (D := (dC, dI)) (ci := 2) (v := .long (-1)) (ty := .long) (C := RX0) (T := TX0) (N := 5) hx hb hts kc_xSearch3_1 tyX0 tyX0_ok nmX0 hown hK hP hD hS 5 rfl rfl 0 (by decide) (hts (.fieldLink RX0 66 "MistHeaps$Chances" "foundTimes" "J") kc_xSearch3_2) (fun _ h9 => h9) rfl (by decide +kernel) rfl rfl (Nat.le_of_ble_eq_true rfl) dX0_search_16 (fun H locs hP hD hS => ?_)
  have hP : va_P (dC, dI) vwCl [(zaL (rt 1) cT 36 ft1), (zaL (rt 2) cT 36 ft2), (zaR tO cTO 3 (fun i => if i < 3 then some (rt i) else none)), (zaL (rt 0) cT 36 ft09_4), (zaI aFc cFc 6 fFc9_5), (zo2lirrr ch (-1) fr dr tO hO), (zaI dr cD 36 fD9_3), (zaR hO cHO 8 (fun i => if i < 8 then some (rh i) else none)), (zaI (rh 0) cH 36 g09_8), (zaI (rh 1) cH 36 g19_9), (zaI (rh 2) cH 36 g29_10), (zaI (rh 3) cH 36 g39_11), (zaI (rh 4) cH 36 g49_12), (zaI (rh 5) cH 36 g59_13), (zaI (rh 6) cH 36 g69_14), (zaI (rh 7) cH 36 g79_15), (zo10ririliiriririr sc aTp (nI ts) aHl (nI nh) ed mi sn aHs (nI n) aWk (nI wz) aBk (nI bz) aFc)] H := hP
  have hD : va_D A [(zaL (rt 1) cT 36 ft1), (zaL (rt 2) cT 36 ft2), (zaR tO cTO 3 (fun i => if i < 3 then some (rt i) else none)), (zaL (rt 0) cT 36 ft09_4), (zaI aFc cFc 6 fFc9_5), (zo2lirrr ch (-1) fr dr tO hO), (zaI dr cD 36 fD9_3), (zaR hO cHO 8 (fun i => if i < 8 then some (rh i) else none)), (zaI (rh 0) cH 36 g09_8), (zaI (rh 1) cH 36 g19_9), (zaI (rh 2) cH 36 g29_10), (zaI (rh 3) cH 36 g39_11), (zaI (rh 4) cH 36 g49_12), (zaI (rh 5) cH 36 g59_13), (zaI (rh 6) cH 36 g69_14), (zaI (rh 7) cH 36 g79_15), (zo10ririliiriririr sc aTp (nI ts) aHl (nI nh) ed mi sn aHs (nI n) aWk (nI wz) aBk (nI bz) aFc)] := hD
  refine lv_iload hx hb dX0_search_19 (lv_at hl 4 rfl) ?_
  refine lv_iconst (v := 1) hx hb dX0_search_21 (by decide) ?_
  refine lv_isub hx hb dX0_search_22 ?_
  refine qi_as (y := 2) (by decide) ?_
  refine lv_istore (lv' := [(6, .int 2), (0, .ref ch), (1, .ref sc), (2, .int x), (3, .long mk), (5, .int 3)]) hx hb dX0_search_23 hl (by decide) rfl (fun ls hl => ?_)
  refine lv_iconst (v := 0) hx hb dX0_search_25 (by decide) ?_
  refine lv_istore (lv' := [(7, .int 0), (6, .int 2), (0, .ref ch), (1, .ref sc), (2, .int x), (3, .long mk), (5, .int 3)]) hx hb dX0_search_26 hl (by decide) rfl (fun ls hl => ?_)
  have L28 : ∀ (nF : Nat) (r : Nat) (ft2 : Int64) (fr2 : Int32) (fD2 : Nat → Int32) (ft02 : Nat → Int64) (ft12 : Nat → Int64) (ft22 : Nat → Int64) (g02 : Nat → Int32) (g12 : Nat → Int32) (g22 : Nat → Int32) (g32 : Nat → Int32) (g42 : Nat → Int32) (g52 : Nat → Int32) (g62 : Nat → Int32) (g72 : Nat → Int32) (fFc2 : Nat → Int32), 64 - r < nF → (r ≤ 64) → ∀ (H : Heap) (locs : List Loc), va_K (dC, dI) vwCl [(cD, .int), (cTO, .array .long), (cT, .long), (cT, .long), (cT, .long), (cHO, .array .int), (cH, .int), (cH, .int), (cH, .int), (cH, .int), (cH, .int), (cH, .int), (cH, .int), (cH, .int), (cFc, .int)] s → va_P (dC, dI) vwCl [(zo2lirrr ch ft2 fr2 dr tO hO), (zaI dr cD 36 fD2), (zaR tO cTO 3 (fun i => if i < 3 then some (rt i) else none)), (zaL (rt 0) cT 36 ft02), (zaL (rt 1) cT 36 ft12), (zaL (rt 2) cT 36 ft22), (zaR hO cHO 8 (fun i => if i < 8 then some (rh i) else none)), (zaI (rh 0) cH 36 g02), (zaI (rh 1) cH 36 g12), (zaI (rh 2) cH 36 g22), (zaI (rh 3) cH 36 g32), (zaI (rh 4) cH 36 g42), (zaI (rh 5) cH 36 g52), (zaI (rh 6) cH 36 g62), (zaI (rh 7) cH 36 g72), (zo10ririliiriririr sc aTp (nI ts) aHl (nI nh) ed mi sn aHs (nI n) aWk (nI wz) aBk (nI bz) aFc), (zaI aFc cFc 6 fFc2)] H → va_D A [(zo2lirrr ch ft2 fr2 dr tO hO), (zaI dr cD 36 fD2), (zaR tO cTO 3 (fun i => if i < 3 then some (rt i) else none)), (zaL (rt 0) cT 36 ft02), (zaL (rt 1) cT 36 ft12), (zaL (rt 2) cT 36 ft22), (zaR hO cHO 8 (fun i => if i < 8 then some (rh i) else none)), (zaI (rh 0) cH 36 g02), (zaI (rh 1) cH 36 g12), (zaI (rh 2) cH 36 g22), (zaI (rh 3) cH 36 g32), (zaI (rh 4) cH 36 g42), (zaI (rh 5) cH 36 g52), (zaI (rh 6) cH 36 g62), (zaI (rh 7) cH 36 g72), (zo10ririliiriririr sc aTp (nI ts) aHl (nI nh) ed mi sn aHs (nI n) aWk (nI wz) aBk (nI bz) aFc), (zaI aFc cFc 6 fFc2)] → va_S A s.heap H locs → ∀ (ls : Array Slot), lv_has ls 11 [(0, .ref ch), (1, .ref sc), (2, .int x), (3, .long mk), (5, .int 3), (6, .int 2), (7, .int (nI r))] → W p l e ({ frames := 5, cells := 0, slots := 0, locals := 117 } : Room) s m args below meth c H locs 0 0 Q (F0 m 28 ls []) := by
    intro nF
    induction nF with
    | zero => intro r ft2 fr2 fD2 ft02 ft12 ft22 g02 g12 g22 g32 g42 g52 g62 g72 fFc2 hm; exact absurd hm (Nat.not_lt_zero _)
    | succ nF ih28 =>
      intro r ft2 fr2 fD2 ft02 ft12 ft22 g02 g12 g22 g32 g42 g52 g62 g72 fFc2 hm hir H locs hK hP hD hS ls hl
      refine lv_iload hx hb dX0_search_28 (lv_at hl 6 rfl) ?_
      refine lv_iconst (v := 1) hx hb dX0_search_30 (by decide) ?_
      refine lv_iconst (v := 3) hx hb dX0_search_31 (by decide) ?_
      refine lv_iload hx hb dX0_search_32 (lv_at hl 5 rfl) ?_
      refine lv_imul hx hb dX0_search_34 ?_
      refine qi_as (y := 6) (by decide) ?_
      refine lv_ishl hx hb dX0_search_35 ?_
      refine qi_as (y := 64) (by decide) ?_
      refine lv_icmp_ge (tgt := 138) hx hb dX0_search_36 (by decide) (fun c_16 => ?_) (fun c_16 => ?_)
      · skip
        have c_16 : 64 ≤ r := (nI_leI (a := 64) (b := r) (by omega) (by omega)).mp c_16
        rw [hQ]
        have hP9 := hP.sub (ws' := [(zo2lirrr ch ft2 fr2 dr tO hO), (zaI dr cD 36 fD2), (zaR tO cTO 3 (fun i => if i < 3 then some (rt i) else none)), (zaL (rt 0) cT 36 ft02), (zaL (rt 1) cT 36 ft12), (zaL (rt 2) cT 36 ft22), (zaR hO cHO 8 (fun i => if i < 8 then some (rh i) else none)), (zaI (rh 0) cH 36 g02), (zaI (rh 1) cH 36 g12), (zaI (rh 2) cH 36 g22), (zaI (rh 3) cH 36 g32), (zaI (rh 4) cH 36 g42), (zaI (rh 5) cH 36 g52), (zaI (rh 6) cH 36 g62), (zaI (rh 7) cH 36 g72), (zo10ririliiriririr sc aTp (nI ts) aHl (nI nh) ed mi sn aHs (nI n) aWk (nI wz) aBk (nI bz) aFc), (zaI aFc cFc 6 fFc2)]) [0, 1, 2, 3, 4, 5, 6, 7, 8, 9, 10, 11, 12, 13, 14, 15, 16] rfl
        have hD9 := hD.sub (ws' := [(zo2lirrr ch ft2 fr2 dr tO hO), (zaI dr cD 36 fD2), (zaR tO cTO 3 (fun i => if i < 3 then some (rt i) else none)), (zaL (rt 0) cT 36 ft02), (zaL (rt 1) cT 36 ft12), (zaL (rt 2) cT 36 ft22), (zaR hO cHO 8 (fun i => if i < 8 then some (rh i) else none)), (zaI (rh 0) cH 36 g02), (zaI (rh 1) cH 36 g12), (zaI (rh 2) cH 36 g22), (zaI (rh 3) cH 36 g32), (zaI (rh 4) cH 36 g42), (zaI (rh 5) cH 36 g52), (zaI (rh 6) cH 36 g62), (zaI (rh 7) cH 36 g72), (zo10ririliiriririr sc aTp (nI ts) aHl (nI nh) ed mi sn aHs (nI n) aWk (nI wz) aBk (nI bz) aFc), (zaI aFc cFc 6 fFc2)]) [0, 1, 2, 3, 4, 5, 6, 7, 8, 9, 10, 11, 12, 13, 14, 15, 16] (by decide) rfl
        have hK9 := hK.sub (tys' := [(cD, .int), (cTO, .array .long), (cT, .long), (cT, .long), (cT, .long), (cHO, .array .int), (cH, .int), (cH, .int), (cH, .int), (cH, .int), (cH, .int), (cH, .int), (cH, .int), (cH, .int), (cFc, .int)]) [0, 1, 2, 3, 4, 5, 6, 7, 8, 9, 10, 11, 12, 13, 14] rfl
        exact W.vret hx hb hr (fun tQ htQ hWQ => ⟨⟨(ft2, fr2, fD2, ft02, ft12, ft22, g02, g12, g22, g32, g42, g52, g62, g72, fFc2), rfl, trivial, by rw [htQ]; exact hP9, va_K.moved hWQ.alike hK9, hD9⟩, hS.F htQ⟩) hS.2.2 dX0_search_138
      · skip
        have c_16 : ¬ 64 ≤ r := fun q => c_16 ((nI_leI (a := 64) (b := r) (by omega) (by omega)).mpr q)
        refine lv_iconst (v := 0) hx hb dX0_search_39 (by decide) ?_
        refine lv_istore (lv' := [(8, .int 0), (0, .ref ch), (1, .ref sc), (2, .int x), (3, .long mk), (5, .int 3), (6, .int 2), (7, .int (nI r))]) hx hb dX0_search_40 hl (by decide) rfl (fun ls hl => ?_)
        refine lv_iload hx hb dX0_search_42 (lv_at hl 0 rfl) ?_
        refine lv_iload hx hb dX0_search_44 (lv_at hl 6 rfl) ?_
        refine lv_icmp_ge (tgt := 119) hx hb dX0_search_46 (by decide) (fun c_17 => absurd c_17 (by decide)) (fun _ => ?_)
        refine lv_iconst (v := 3) hx hb dX0_search_49 (by decide) ?_
        refine lv_iload hx hb dX0_search_50 (lv_at hl 6 rfl) ?_
        refine lv_iconst (v := 1) hx hb dX0_search_52 (by decide) ?_
        refine lv_isub hx hb dX0_search_53 ?_
        refine qi_as (y := 1) (by decide) ?_
        refine lv_iload hx hb dX0_search_54 (lv_at hl 0 rfl) ?_
        refine lv_isub hx hb dX0_search_56 ?_
        refine qi_as (y := 1) (by decide) ?_
        refine lv_imul hx hb dX0_search_57 ?_
        refine qi_as (y := 3) (by decide) ?_
        refine lv_istore (lv' := [(9, .int 3), (8, .int 0), (0, .ref ch), (1, .ref sc), (2, .int x), (3, .long mk), (5, .int 3), (6, .int 2), (7, .int (nI r))]) hx hb dX0_search_58 hl (by decide) rfl (fun ls hl => ?_)
        refine lv_iload hx hb dX0_search_60 (lv_at hl 8 rfl) ?_
        refine lv_iconst (v := 1) hx hb dX0_search_62 (by decide) ?_
        refine lv_iload hx hb dX0_search_63 (lv_at hl 0 rfl) ?_
        refine lv_ishl hx hb dX0_search_65 ?_
        refine qi_as (y := 8) (by decide) ?_
        refine lv_iconst (v := 1) hx hb dX0_search_66 (by decide) ?_
        refine lv_isub hx hb dX0_search_67 ?_
        refine qi_as (y := 7) (by decide) ?_
        refine lv_iand hx hb dX0_search_68 ?_
        have J69 : ∀ v_18 : Int32, W p l e ({ frames := 5, cells := 0, slots := 0, locals := 117 } : Room) s m args below meth c H locs 0 0 Q (F0 m 77 ls [.int v_18]) := by
          intro v_18
          refine lv_istore (lv' := [(10, .int v_18), (9, .int 3), (8, .int 0), (0, .ref ch), (1, .ref sc), (2, .int x), (3, .long mk), (5, .int 3), (6, .int 2), (7, .int (nI r))]) hx hb dX0_search_77 hl (by decide) rfl (fun ls hl => ?_)
          refine lv_iload hx hb dX0_search_79 (lv_at hl 0 rfl) ?_
          refine lv_if_eq (tgt := 113) hx hb dX0_search_81 (by decide) (fun c_20 => ?_) (fun c_20 => ?_)
          · skip
            refine lv_iinc (v := 1) (lv' := [(8, .int 1), (10, .int v_18), (9, .int 3), (0, .ref ch), (1, .ref sc), (2, .int x), (3, .long mk), (5, .int 3), (6, .int 2), (7, .int (nI r))]) hx hb dX0_search_113 hl (k := 2) rfl (by decide) (by decide) rfl (fun ls hl => ?_)
            refine lv_goto (tgt := 42) hx hb dX0_search_116 (by decide) ?_
            refine lv_iload hx hb dX0_search_42 (lv_at hl 0 rfl) ?_
            refine lv_iload hx hb dX0_search_44 (lv_at hl 8 rfl) ?_
            refine lv_icmp_ge (tgt := 119) hx hb dX0_search_46 (by decide) (fun c_21 => absurd c_21 (by decide)) (fun _ => ?_)
            refine lv_iconst (v := 3) hx hb dX0_search_49 (by decide) ?_
            refine lv_iload hx hb dX0_search_50 (lv_at hl 8 rfl) ?_
            refine lv_iconst (v := 1) hx hb dX0_search_52 (by decide) ?_
            refine lv_isub hx hb dX0_search_53 ?_
            refine qi_as (y := 1) (by decide) ?_
            refine lv_iload hx hb dX0_search_54 (lv_at hl 0 rfl) ?_
            refine lv_isub hx hb dX0_search_56 ?_
            refine qi_as (y := 0) (by decide) ?_
            refine lv_imul hx hb dX0_search_57 ?_
            refine qi_as (y := 0) (by decide) ?_
            refine lv_istore (lv' := [(9, .int 0), (8, .int 1), (10, .int v_18), (0, .ref ch), (1, .ref sc), (2, .int x), (3, .long mk), (5, .int 3), (6, .int 2), (7, .int (nI r))]) hx hb dX0_search_58 hl (by decide) rfl (fun ls hl => ?_)
            refine lv_iload hx hb dX0_search_60 (lv_at hl 9 rfl) ?_
            refine lv_iconst (v := 1) hx hb dX0_search_62 (by decide) ?_
            refine lv_iload hx hb dX0_search_63 (lv_at hl 0 rfl) ?_
            refine lv_ishl hx hb dX0_search_65 ?_
            refine qi_as (y := 1) (by decide) ?_
            refine lv_iconst (v := 1) hx hb dX0_search_66 (by decide) ?_
            refine lv_isub hx hb dX0_search_67 ?_
            refine qi_as (y := 0) (by decide) ?_
            refine lv_iand hx hb dX0_search_68 ?_
            have J69 : ∀ v_22 : Int32, W p l e ({ frames := 5, cells := 0, slots := 0, locals := 117 } : Room) s m args below meth c H locs 0 0 Q (F0 m 77 ls [.int v_22]) := by
              intro v_22
              refine lv_istore (lv' := [(10, .int v_22), (9, .int 0), (8, .int 1), (0, .ref ch), (1, .ref sc), (2, .int x), (3, .long mk), (5, .int 3), (6, .int 2), (7, .int (nI r))]) hx hb dX0_search_77 hl (by decide) rfl (fun ls hl => ?_)
              refine lv_iload hx hb dX0_search_79 (lv_at hl 0 rfl) ?_
              refine lv_if_eq (tgt := 113) hx hb dX0_search_81 (by decide) (fun c_24 => ?_) (fun c_24 => ?_)
              · skip
                refine lv_iinc (v := 2) (lv' := [(8, .int 2), (10, .int v_22), (9, .int 0), (0, .ref ch), (1, .ref sc), (2, .int x), (3, .long mk), (5, .int 3), (6, .int 2), (7, .int (nI r))]) hx hb dX0_search_113 hl (k := 2) rfl (by decide) (by decide) rfl (fun ls hl => ?_)
                refine lv_goto (tgt := 42) hx hb dX0_search_116 (by decide) ?_
                refine lv_iload hx hb dX0_search_42 (lv_at hl 0 rfl) ?_
                refine lv_iload hx hb dX0_search_44 (lv_at hl 8 rfl) ?_
                refine lv_icmp_ge (tgt := 119) hx hb dX0_search_46 (by decide) (fun _ => ?_) (fun c_25 => absurd c_25 (by decide))
                refine lv_aload_n hx hb dX0_search_119 rfl (lv_at hl 3 rfl) ?_
                refine lv_aload_n hx hb dX0_search_120 rfl (lv_at hl 3 rfl) ?_
                refine va_get (D := (dC, dI)) (ci := 2) (v := .ref tO) (C := RX0) (T := TX0) (N := 5) hx hb hts kc_xSearch3_1 hown hK hP 0 rfl rfl 3 (by decide) (hts (.fieldLink RX0 17 "MistHeaps$Chances" "times" "[[J") kc_xSearch3_3) (fun _ h9 => h9) rfl dX0_search_121 ?_
                refine lv_iload hx hb dX0_search_124 (lv_at hl 8 rfl) ?_
                refine va_alda hx hb hK hP 2 1 rfl rfl (vp_in_nI (n := 2) (N := 3) (by omega) (by omega)) dX0_search_126 ?_
                refine qq_as (v := .ref (rt 2)) (rfl) ?_
                refine lv_iload hx hb dX0_search_127 (lv_at hl 9 rfl) ?_
                have hPc := hP.sub (ws' := [(zo2lirrr ch ft2 fr2 dr tO hO), (zaL (rt 2) cT 36 ft22), (zaR hO cHO 8 (fun i => if i < 8 then some (rh i) else none)), (zaI (rh 0) cH 36 g02), (zaI (rh 1) cH 36 g12), (zaI (rh 2) cH 36 g22), (zaI (rh 3) cH 36 g32), (zaI (rh 4) cH 36 g42), (zaI (rh 5) cH 36 g52), (zaI (rh 6) cH 36 g62), (zaI (rh 7) cH 36 g72)]) [0, 5, 6, 7, 8, 9, 10, 11, 12, 13, 14] rfl
                have hDc := hD.sub (ws' := [(zo2lirrr ch ft2 fr2 dr tO hO), (zaL (rt 2) cT 36 ft22), (zaR hO cHO 8 (fun i => if i < 8 then some (rh i) else none)), (zaI (rh 0) cH 36 g02), (zaI (rh 1) cH 36 g12), (zaI (rh 2) cH 36 g22), (zaI (rh 3) cH 36 g32), (zaI (rh 4) cH 36 g42), (zaI (rh 5) cH 36 g52), (zaI (rh 6) cH 36 g62), (zaI (rh 7) cH 36 g72)]) [0, 5, 6, 7, 8, 9, 10, 11, 12, 13, 14] (by decide) rfl
                have hKc := hK.sub (tys' := [(cT, .long), (cHO, .array .int), (cH, .int), (cH, .int), (cH, .int), (cH, .int), (cH, .int), (cH, .int), (cH, .int), (cH, .int)]) [4, 5, 6, 7, 8, 9, 10, 11, 12, 13] rfl
                have hFc := va_free (wc := [(zo2lirrr ch ft2 fr2 dr tO hO), (zaL (rt 2) cT 36 ft22), (zaR hO cHO 8 (fun i => if i < 8 then some (rh i) else none)), (zaI (rh 0) cH 36 g02), (zaI (rh 1) cH 36 g12), (zaI (rh 2) cH 36 g22), (zaI (rh 3) cH 36 g32), (zaI (rh 4) cH 36 g42), (zaI (rh 5) cH 36 g52), (zaI (rh 6) cH 36 g62), (zaI (rh 7) cH 36 g72)]) hD hS hA [0, 5, 6, 7, 8, 9, 10, 11, 12, 13, 14] rfl
                refine va_callv (va_runV (As := [.ref (rt 2), .int (nI r)]) (rest := []) ⟨hx, hb, hml, hown, hts⟩ (c_xTryLast l dC dI ch dr tO hO i fr2 (nI r) ft2 cHO cH g02 g12 g22 g32 g42 g52 g62 g72 rh (rt 2) cT ft22 H.size) (cwV 2 hts gX0_search_X0_tryLast rfl rfl rfl hd_yX0_tryLast ⟨Nat.le_of_ble_eq_true rfl, Nat.le_of_ble_eq_true rfl⟩) ⟨fun a U g mk q => by obtain ⟨q0, q1, qP, qK, qD⟩ := q; exact ⟨q0, q1, qP, va_K.moved (u := U) (U := U.calling g mk a) (Vm.Alike.refl U.vm) qK, qD⟩, va_recv hK hP (ci := 2) (q := (RX0, TX0, 5)) (q0 := 0) rfl rfl, fun U hU hW => ⟨rfl, by rw [hU], by rw [hU]; exact hPc, va_K.moved hW.alike hKc, hDc.weaken (fun _ _ _ _ => trivial)⟩⟩ rfl rfl hl.1 rfl (lv_room (Nat.le_of_ble_eq_true rfl)) dX0_search_129 ⟨Nat.le_of_ble_eq_true rfl, Nat.le_of_ble_eq_true rfl⟩) hS (fun q _ h => hFc q h) hFc (fun u tC H1 locs htC hvm hw_27 hB hz1 hk1 hS => ?_)
                obtain ⟨ft9_28, fr9_29⟩ := u
                try dsimp only at hw_27 hB
                obtain ⟨hP1, hK1, hD1⟩ := hB
                rw [htC] at hP1
                have hK1 := va_K.moved hvm.symm hK1
                obtain ⟨hP, hD⟩ := va_join (wr := [(zaI dr cD 36 fD2), (zaR tO cTO 3 (fun i => if i < 3 then some (rt i) else none)), (zaL (rt 0) cT 36 ft02), (zaL (rt 1) cT 36 ft12), (zo10ririliiriririr sc aTp (nI ts) aHl (nI nh) ed mi sn aHs (nI n) aWk (nI wz) aBk (nI bz) aFc), (zaI aFc cFc 6 fFc2)]) (w1 := [(zo2lirrr ch ft9_28 fr9_29 dr tO hO), (zaL (rt 2) cT 36 ft22), (zaR hO cHO 8 (fun i => if i < 8 then some (rh i) else none)), (zaI (rh 0) cH 36 g02), (zaI (rh 1) cH 36 g12), (zaI (rh 2) cH 36 g22), (zaI (rh 3) cH 36 g32), (zaI (rh 4) cH 36 g42), (zaI (rh 5) cH 36 g52), (zaI (rh 6) cH 36 g62), (zaI (rh 7) cH 36 g72)]) hP hD [0, 5, 6, 7, 8, 9, 10, 11, 12, 13, 14] [1, 2, 3, 4, 15, 16] rfl rfl (by decide) (by decide) hk1 hFc hP1 hD1
                have hK := (hK.sub (tys' := [(cD, .int), (cTO, .array .long), (cT, .long), (cT, .long), (cFc, .int)]) [0, 1, 2, 3, 14] rfl).app hK1
                generalize H1 = H at hP hS ⊢
                have hP : va_P (dC, dI) vwCl [(zaI dr cD 36 fD2), (zaR tO cTO 3 (fun i => if i < 3 then some (rt i) else none)), (zaL (rt 0) cT 36 ft02), (zaL (rt 1) cT 36 ft12), (zo10ririliiriririr sc aTp (nI ts) aHl (nI nh) ed mi sn aHs (nI n) aWk (nI wz) aBk (nI bz) aFc), (zaI aFc cFc 6 fFc2), (zo2lirrr ch ft9_28 fr9_29 dr tO hO), (zaL (rt 2) cT 36 ft22), (zaR hO cHO 8 (fun i => if i < 8 then some (rh i) else none)), (zaI (rh 0) cH 36 g02), (zaI (rh 1) cH 36 g12), (zaI (rh 2) cH 36 g22), (zaI (rh 3) cH 36 g32), (zaI (rh 4) cH 36 g42), (zaI (rh 5) cH 36 g52), (zaI (rh 6) cH 36 g62), (zaI (rh 7) cH 36 g72)] H := hP
                have hD : va_D A [(zaI dr cD 36 fD2), (zaR tO cTO 3 (fun i => if i < 3 then some (rt i) else none)), (zaL (rt 0) cT 36 ft02), (zaL (rt 1) cT 36 ft12), (zo10ririliiriririr sc aTp (nI ts) aHl (nI nh) ed mi sn aHs (nI n) aWk (nI wz) aBk (nI bz) aFc), (zaI aFc cFc 6 fFc2), (zo2lirrr ch ft9_28 fr9_29 dr tO hO), (zaL (rt 2) cT 36 ft22), (zaR hO cHO 8 (fun i => if i < 8 then some (rh i) else none)), (zaI (rh 0) cH 36 g02), (zaI (rh 1) cH 36 g12), (zaI (rh 2) cH 36 g22), (zaI (rh 3) cH 36 g32), (zaI (rh 4) cH 36 g42), (zaI (rh 5) cH 36 g52), (zaI (rh 6) cH 36 g62), (zaI (rh 7) cH 36 g72)] := hD
                have hK : va_K (dC, dI) vwCl [(cD, .int), (cTO, .array .long), (cT, .long), (cT, .long), (cFc, .int), (cT, .long), (cHO, .array .int), (cH, .int), (cH, .int), (cH, .int), (cH, .int), (cH, .int), (cH, .int), (cH, .int), (cH, .int)] s := hK
                refine lv_iinc (v := nI (r + 1)) (lv' := [(7, .int (nI (r + 1))), (8, .int 2), (10, .int v_22), (9, .int 0), (0, .ref ch), (1, .ref sc), (2, .int x), (3, .long mk), (5, .int 3), (6, .int 2)]) hx hb dX0_search_132 hl (k := 9) rfl (nI_add r 1) (by decide) rfl (fun ls hl => ?_)
                refine lv_goto (tgt := 28) hx hb dX0_search_135 (by decide) ?_
                exact ih28 (r + 1) _ _ _ _ _ _ _ _ _ _ _ _ _ _ _ (by omega) (by omega) _ _ (hK.sub [0, 1, 2, 3, 5, 6, 7, 8, 9, 10, 11, 12, 13, 14, 4] rfl) (hP.sub [6, 0, 1, 2, 3, 7, 8, 9, 10, 11, 12, 13, 14, 15, 16, 4, 5] rfl) (hD.sub [6, 0, 1, 2, 3, 7, 8, 9, 10, 11, 12, 13, 14, 15, 16, 4, 5] (by decide) rfl) hS ls (lv_sub hl [4, 5, 6, 7, 8, 9, 0] rfl)
              · skip
                refine lv_aload_n hx hb dX0_search_84 rfl (lv_at hl 3 rfl) ?_
                refine lv_aload_n hx hb dX0_search_85 rfl (lv_at hl 4 rfl) ?_
                refine lv_aload_n hx hb dX0_search_86 rfl (lv_at hl 3 rfl) ?_
                refine va_get (D := (dC, dI)) (ci := 2) (v := .ref tO) (C := RX0) (T := TX0) (N := 5) hx hb hts kc_xSearch3_1 hown hK hP 0 rfl rfl 3 (by decide) (hts (.fieldLink RX0 17 "MistHeaps$Chances" "times" "[[J") kc_xSearch3_3) (fun _ h9 => h9) rfl dX0_search_87 ?_
                refine lv_iload hx hb dX0_search_90 (lv_at hl 2 rfl) ?_
                refine va_alda hx hb hK hP 2 1 rfl rfl (vp_in_nI (n := 1) (N := 3) (by omega) (by omega)) dX0_search_92 ?_
                refine qq_as (v := .ref (rt 1)) (rfl) ?_
                refine lv_iload hx hb dX0_search_93 (lv_at hl 9 rfl) ?_
                refine lv_iload hx hb dX0_search_95 (lv_at hl 1 rfl) ?_
                refine lv_ishr hx hb dX0_search_97 ?_
                refine lv_bipush (v := 7) hx hb dX0_search_98 (by decide) ?_
                refine lv_iand hx hb dX0_search_100 ?_
                obtain ⟨k_30, hk_31, ek_32⟩ := and7 ((nI r) >>> (0 &&& 31))
                refine qi_as (y := nI k_30) (ek_32) ?_
                refine lv_aload_n hx hb dX0_search_101 rfl (lv_at hl 3 rfl) ?_
                refine va_get (D := (dC, dI)) (ci := 2) (v := .ref tO) (C := RX0) (T := TX0) (N := 5) hx hb hts kc_xSearch3_1 hown hK hP 0 rfl rfl 3 (by decide) (hts (.fieldLink RX0 17 "MistHeaps$Chances" "times" "[[J") kc_xSearch3_3) (fun _ h9 => h9) rfl dX0_search_102 ?_
                refine lv_iload hx hb dX0_search_105 (lv_at hl 2 rfl) ?_
                refine lv_iconst (v := 1) hx hb dX0_search_107 (by decide) ?_
                refine lv_iadd hx hb dX0_search_108 ?_
                refine qi_as (y := 2) (by decide) ?_
                refine va_alda hx hb hK hP 2 1 rfl rfl (vp_in_nI (n := 2) (N := 3) (by omega) (by omega)) dX0_search_109 ?_
                refine qq_as (v := .ref (rt 2)) (rfl) ?_
                have hPc := hP.sub (ws' := [(zo2lirrr ch ft2 fr2 dr tO hO), (zaI dr cD 36 fD2), (zo10ririliiriririr sc aTp (nI ts) aHl (nI nh) ed mi sn aHs (nI n) aWk (nI wz) aBk (nI bz) aFc), (zaL (rt 1) cT 36 ft12), (zaL (rt 2) cT 36 ft22)]) [0, 1, 15, 4, 5] rfl
                have hDc := hD.sub (ws' := [(zo2lirrr ch ft2 fr2 dr tO hO), (zaI dr cD 36 fD2), (zo10ririliiriririr sc aTp (nI ts) aHl (nI nh) ed mi sn aHs (nI n) aWk (nI wz) aBk (nI bz) aFc), (zaL (rt 1) cT 36 ft12), (zaL (rt 2) cT 36 ft22)]) [0, 1, 15, 4, 5] (by decide) rfl
                have hKc := hK.sub (tys' := [(cD, .int), (cT, .long), (cT, .long)]) [0, 3, 4] rfl
                have hFc := va_free (wc := [(zo2lirrr ch ft2 fr2 dr tO hO), (zaI dr cD 36 fD2), (zo10ririliiriririr sc aTp (nI ts) aHl (nI nh) ed mi sn aHs (nI n) aWk (nI wz) aBk (nI bz) aFc), (zaL (rt 1) cT 36 ft12), (zaL (rt 2) cT 36 ft22)]) hD hS hA [0, 1, 15, 4, 5] rfl
                refine va_callv (va_runV (As := [.ref sc, .ref (rt 1), .int (nI k_30), .ref (rt 2)]) (rest := []) ⟨hx, hb, hml, hown, hts⟩ (c_xSpread l dC dI gd sc ch aTp aHl aHs aWk aBk aFc dr tO hO ts nh n wz bz k_30 mi sn fr2 ed ft2 cD fD2 (rt 1) (rt 2) cT cT ft12 ft22 H.size (by omega)) (cwV 4 hts gX0_search_X0_spread rfl rfl rfl hd_yX0_spread ⟨Nat.le_of_ble_eq_true rfl, Nat.le_of_ble_eq_true rfl⟩) ⟨fun a U g mk q => by obtain ⟨q0, q1, qP, qK, qD, qhG⟩ := q; exact ⟨q0, q1, qP, va_K.moved (u := U) (U := U.calling g mk a) (Vm.Alike.refl U.vm) qK, qD, qhG.same rfl rfl⟩, va_recv hK hP (ci := 2) (q := (RX0, TX0, 5)) (q0 := 0) rfl rfl, fun U hU hW => ⟨rfl, by rw [hU], by rw [hU]; exact hPc, va_K.moved hW.alike hKc, hDc.weaken (fun _ _ _ _ => trivial), hG.call hS hU hW (fun q h => hFc q h)⟩⟩ rfl rfl hl.1 rfl (lv_room (Nat.le_of_ble_eq_true rfl)) dX0_search_110 ⟨Nat.le_of_ble_eq_true rfl, Nat.le_of_ble_eq_true rfl⟩) hS (fun q _ h => hFc q h) hFc (fun u tC H1 locs htC hvm hw_34 hB hz1 hk1 hS => ?_)
                obtain ⟨tt9_35, rfl⟩ : ∃ z, z = u := ⟨_, rfl⟩
                try dsimp only at hw_34 hB
                obtain ⟨hP1, hK1, hD1⟩ := hB
                rw [htC] at hP1
                have hK1 := va_K.moved hvm.symm hK1
                obtain ⟨hP, hD⟩ := va_join (wr := [(zaR tO cTO 3 (fun i => if i < 3 then some (rt i) else none)), (zaL (rt 0) cT 36 ft02), (zaR hO cHO 8 (fun i => if i < 8 then some (rh i) else none)), (zaI (rh 0) cH 36 g02), (zaI (rh 1) cH 36 g12), (zaI (rh 2) cH 36 g22), (zaI (rh 3) cH 36 g32), (zaI (rh 4) cH 36 g42), (zaI (rh 5) cH 36 g52), (zaI (rh 6) cH 36 g62), (zaI (rh 7) cH 36 g72), (zaI aFc cFc 6 fFc2)]) (w1 := [(zo2lirrr ch ft2 fr2 dr tO hO), (zaI dr cD 36 fD2), (zo10ririliiriririr sc aTp (nI ts) aHl (nI nh) ed mi sn aHs (nI n) aWk (nI wz) aBk (nI bz) aFc), (zaL (rt 1) cT 36 ft12), (zaL (rt 2) cT 36 tt9_35)]) hP hD [0, 1, 15, 4, 5] [2, 3, 6, 7, 8, 9, 10, 11, 12, 13, 14, 16] rfl rfl (by decide) (by decide) hk1 hFc hP1 hD1
                have hK := (hK.sub (tys' := [(cTO, .array .long), (cT, .long), (cHO, .array .int), (cH, .int), (cH, .int), (cH, .int), (cH, .int), (cH, .int), (cH, .int), (cH, .int), (cH, .int), (cFc, .int)]) [1, 2, 5, 6, 7, 8, 9, 10, 11, 12, 13, 14] rfl).app hK1
                generalize H1 = H at hP hS ⊢
                have hP : va_P (dC, dI) vwCl [(zaR tO cTO 3 (fun i => if i < 3 then some (rt i) else none)), (zaL (rt 0) cT 36 ft02), (zaR hO cHO 8 (fun i => if i < 8 then some (rh i) else none)), (zaI (rh 0) cH 36 g02), (zaI (rh 1) cH 36 g12), (zaI (rh 2) cH 36 g22), (zaI (rh 3) cH 36 g32), (zaI (rh 4) cH 36 g42), (zaI (rh 5) cH 36 g52), (zaI (rh 6) cH 36 g62), (zaI (rh 7) cH 36 g72), (zaI aFc cFc 6 fFc2), (zo2lirrr ch ft2 fr2 dr tO hO), (zaI dr cD 36 fD2), (zo10ririliiriririr sc aTp (nI ts) aHl (nI nh) ed mi sn aHs (nI n) aWk (nI wz) aBk (nI bz) aFc), (zaL (rt 1) cT 36 ft12), (zaL (rt 2) cT 36 tt9_35)] H := hP
                have hD : va_D A [(zaR tO cTO 3 (fun i => if i < 3 then some (rt i) else none)), (zaL (rt 0) cT 36 ft02), (zaR hO cHO 8 (fun i => if i < 8 then some (rh i) else none)), (zaI (rh 0) cH 36 g02), (zaI (rh 1) cH 36 g12), (zaI (rh 2) cH 36 g22), (zaI (rh 3) cH 36 g32), (zaI (rh 4) cH 36 g42), (zaI (rh 5) cH 36 g52), (zaI (rh 6) cH 36 g62), (zaI (rh 7) cH 36 g72), (zaI aFc cFc 6 fFc2), (zo2lirrr ch ft2 fr2 dr tO hO), (zaI dr cD 36 fD2), (zo10ririliiriririr sc aTp (nI ts) aHl (nI nh) ed mi sn aHs (nI n) aWk (nI wz) aBk (nI bz) aFc), (zaL (rt 1) cT 36 ft12), (zaL (rt 2) cT 36 tt9_35)] := hD
                have hK : va_K (dC, dI) vwCl [(cTO, .array .long), (cT, .long), (cHO, .array .int), (cH, .int), (cH, .int), (cH, .int), (cH, .int), (cH, .int), (cH, .int), (cH, .int), (cH, .int), (cFc, .int), (cD, .int), (cT, .long), (cT, .long)] s := hK
                refine lv_iinc (v := 2) (lv' := [(8, .int 2), (10, .int v_22), (9, .int 0), (0, .ref ch), (1, .ref sc), (2, .int x), (3, .long mk), (5, .int 3), (6, .int 2), (7, .int (nI r))]) hx hb dX0_search_113 hl (k := 2) rfl (by decide) (by decide) rfl (fun ls hl => ?_)
                refine lv_goto (tgt := 42) hx hb dX0_search_116 (by decide) ?_
                refine lv_iload hx hb dX0_search_42 (lv_at hl 0 rfl) ?_
                refine lv_iload hx hb dX0_search_44 (lv_at hl 8 rfl) ?_
                refine lv_icmp_ge (tgt := 119) hx hb dX0_search_46 (by decide) (fun _ => ?_) (fun c_36 => absurd c_36 (by decide))
                refine lv_aload_n hx hb dX0_search_119 rfl (lv_at hl 3 rfl) ?_
                refine lv_aload_n hx hb dX0_search_120 rfl (lv_at hl 3 rfl) ?_
                refine va_get (D := (dC, dI)) (ci := 2) (v := .ref tO) (C := RX0) (T := TX0) (N := 5) hx hb hts kc_xSearch3_1 hown hK hP 12 rfl rfl 3 (by decide) (hts (.fieldLink RX0 17 "MistHeaps$Chances" "times" "[[J") kc_xSearch3_3) (fun _ h9 => h9) rfl dX0_search_121 ?_
                refine lv_iload hx hb dX0_search_124 (lv_at hl 8 rfl) ?_
                refine va_alda hx hb hK hP 0 0 rfl rfl (vp_in_nI (n := 2) (N := 3) (by omega) (by omega)) dX0_search_126 ?_
                refine qq_as (v := .ref (rt 2)) (rfl) ?_
                refine lv_iload hx hb dX0_search_127 (lv_at hl 9 rfl) ?_
                have hPc := hP.sub (ws' := [(zo2lirrr ch ft2 fr2 dr tO hO), (zaL (rt 2) cT 36 tt9_35), (zaR hO cHO 8 (fun i => if i < 8 then some (rh i) else none)), (zaI (rh 0) cH 36 g02), (zaI (rh 1) cH 36 g12), (zaI (rh 2) cH 36 g22), (zaI (rh 3) cH 36 g32), (zaI (rh 4) cH 36 g42), (zaI (rh 5) cH 36 g52), (zaI (rh 6) cH 36 g62), (zaI (rh 7) cH 36 g72)]) [12, 16, 2, 3, 4, 5, 6, 7, 8, 9, 10] rfl
                have hDc := hD.sub (ws' := [(zo2lirrr ch ft2 fr2 dr tO hO), (zaL (rt 2) cT 36 tt9_35), (zaR hO cHO 8 (fun i => if i < 8 then some (rh i) else none)), (zaI (rh 0) cH 36 g02), (zaI (rh 1) cH 36 g12), (zaI (rh 2) cH 36 g22), (zaI (rh 3) cH 36 g32), (zaI (rh 4) cH 36 g42), (zaI (rh 5) cH 36 g52), (zaI (rh 6) cH 36 g62), (zaI (rh 7) cH 36 g72)]) [12, 16, 2, 3, 4, 5, 6, 7, 8, 9, 10] (by decide) rfl
                have hKc := hK.sub (tys' := [(cT, .long), (cHO, .array .int), (cH, .int), (cH, .int), (cH, .int), (cH, .int), (cH, .int), (cH, .int), (cH, .int), (cH, .int)]) [14, 2, 3, 4, 5, 6, 7, 8, 9, 10] rfl
                have hFc := va_free (wc := [(zo2lirrr ch ft2 fr2 dr tO hO), (zaL (rt 2) cT 36 tt9_35), (zaR hO cHO 8 (fun i => if i < 8 then some (rh i) else none)), (zaI (rh 0) cH 36 g02), (zaI (rh 1) cH 36 g12), (zaI (rh 2) cH 36 g22), (zaI (rh 3) cH 36 g32), (zaI (rh 4) cH 36 g42), (zaI (rh 5) cH 36 g52), (zaI (rh 6) cH 36 g62), (zaI (rh 7) cH 36 g72)]) hD hS hA [12, 16, 2, 3, 4, 5, 6, 7, 8, 9, 10] rfl
                refine va_callv (va_runV (As := [.ref (rt 2), .int (nI r)]) (rest := []) ⟨hx, hb, hml, hown, hts⟩ (c_xTryLast l dC dI ch dr tO hO i fr2 (nI r) ft2 cHO cH g02 g12 g22 g32 g42 g52 g62 g72 rh (rt 2) cT tt9_35 H.size) (cwV 2 hts gX0_search_X0_tryLast rfl rfl rfl hd_yX0_tryLast ⟨Nat.le_of_ble_eq_true rfl, Nat.le_of_ble_eq_true rfl⟩) ⟨fun a U g mk q => by obtain ⟨q0, q1, qP, qK, qD⟩ := q; exact ⟨q0, q1, qP, va_K.moved (u := U) (U := U.calling g mk a) (Vm.Alike.refl U.vm) qK, qD⟩, va_recv hK hP (ci := 2) (q := (RX0, TX0, 5)) (q0 := 12) rfl rfl, fun U hU hW => ⟨rfl, by rw [hU], by rw [hU]; exact hPc, va_K.moved hW.alike hKc, hDc.weaken (fun _ _ _ _ => trivial)⟩⟩ rfl rfl hl.1 rfl (lv_room (Nat.le_of_ble_eq_true rfl)) dX0_search_129 ⟨Nat.le_of_ble_eq_true rfl, Nat.le_of_ble_eq_true rfl⟩) hS (fun q _ h => hFc q h) hFc (fun u tC H1 locs htC hvm hw_38 hB hz1 hk1 hS => ?_)
                obtain ⟨ft9_39, fr9_40⟩ := u
                try dsimp only at hw_38 hB
                obtain ⟨hP1, hK1, hD1⟩ := hB
                rw [htC] at hP1
                have hK1 := va_K.moved hvm.symm hK1
                obtain ⟨hP, hD⟩ := va_join (wr := [(zaR tO cTO 3 (fun i => if i < 3 then some (rt i) else none)), (zaL (rt 0) cT 36 ft02), (zaI aFc cFc 6 fFc2), (zaI dr cD 36 fD2), (zo10ririliiriririr sc aTp (nI ts) aHl (nI nh) ed mi sn aHs (nI n) aWk (nI wz) aBk (nI bz) aFc), (zaL (rt 1) cT 36 ft12)]) (w1 := [(zo2lirrr ch ft9_39 fr9_40 dr tO hO), (zaL (rt 2) cT 36 tt9_35), (zaR hO cHO 8 (fun i => if i < 8 then some (rh i) else none)), (zaI (rh 0) cH 36 g02), (zaI (rh 1) cH 36 g12), (zaI (rh 2) cH 36 g22), (zaI (rh 3) cH 36 g32), (zaI (rh 4) cH 36 g42), (zaI (rh 5) cH 36 g52), (zaI (rh 6) cH 36 g62), (zaI (rh 7) cH 36 g72)]) hP hD [12, 16, 2, 3, 4, 5, 6, 7, 8, 9, 10] [0, 1, 11, 13, 14, 15] rfl rfl (by decide) (by decide) hk1 hFc hP1 hD1
                have hK := (hK.sub (tys' := [(cTO, .array .long), (cT, .long), (cFc, .int), (cD, .int), (cT, .long)]) [0, 1, 11, 12, 13] rfl).app hK1
                generalize H1 = H at hP hS ⊢
                have hP : va_P (dC, dI) vwCl [(zaR tO cTO 3 (fun i => if i < 3 then some (rt i) else none)), (zaL (rt 0) cT 36 ft02), (zaI aFc cFc 6 fFc2), (zaI dr cD 36 fD2), (zo10ririliiriririr sc aTp (nI ts) aHl (nI nh) ed mi sn aHs (nI n) aWk (nI wz) aBk (nI bz) aFc), (zaL (rt 1) cT 36 ft12), (zo2lirrr ch ft9_39 fr9_40 dr tO hO), (zaL (rt 2) cT 36 tt9_35), (zaR hO cHO 8 (fun i => if i < 8 then some (rh i) else none)), (zaI (rh 0) cH 36 g02), (zaI (rh 1) cH 36 g12), (zaI (rh 2) cH 36 g22), (zaI (rh 3) cH 36 g32), (zaI (rh 4) cH 36 g42), (zaI (rh 5) cH 36 g52), (zaI (rh 6) cH 36 g62), (zaI (rh 7) cH 36 g72)] H := hP
                have hD : va_D A [(zaR tO cTO 3 (fun i => if i < 3 then some (rt i) else none)), (zaL (rt 0) cT 36 ft02), (zaI aFc cFc 6 fFc2), (zaI dr cD 36 fD2), (zo10ririliiriririr sc aTp (nI ts) aHl (nI nh) ed mi sn aHs (nI n) aWk (nI wz) aBk (nI bz) aFc), (zaL (rt 1) cT 36 ft12), (zo2lirrr ch ft9_39 fr9_40 dr tO hO), (zaL (rt 2) cT 36 tt9_35), (zaR hO cHO 8 (fun i => if i < 8 then some (rh i) else none)), (zaI (rh 0) cH 36 g02), (zaI (rh 1) cH 36 g12), (zaI (rh 2) cH 36 g22), (zaI (rh 3) cH 36 g32), (zaI (rh 4) cH 36 g42), (zaI (rh 5) cH 36 g52), (zaI (rh 6) cH 36 g62), (zaI (rh 7) cH 36 g72)] := hD
                have hK : va_K (dC, dI) vwCl [(cTO, .array .long), (cT, .long), (cFc, .int), (cD, .int), (cT, .long), (cT, .long), (cHO, .array .int), (cH, .int), (cH, .int), (cH, .int), (cH, .int), (cH, .int), (cH, .int), (cH, .int), (cH, .int)] s := hK
                refine lv_iinc (v := nI (r + 1)) (lv' := [(7, .int (nI (r + 1))), (8, .int 2), (10, .int v_22), (9, .int 0), (0, .ref ch), (1, .ref sc), (2, .int x), (3, .long mk), (5, .int 3), (6, .int 2)]) hx hb dX0_search_132 hl (k := 9) rfl (nI_add r 1) (by decide) rfl (fun ls hl => ?_)
                refine lv_goto (tgt := 28) hx hb dX0_search_135 (by decide) ?_
                exact ih28 (r + 1) _ _ _ _ _ _ _ _ _ _ _ _ _ _ _ (by omega) (by omega) _ _ (hK.sub [3, 0, 1, 4, 5, 6, 7, 8, 9, 10, 11, 12, 13, 14, 2] rfl) (hP.sub [6, 3, 0, 1, 5, 7, 8, 9, 10, 11, 12, 13, 14, 15, 16, 4, 2] rfl) (hD.sub [6, 3, 0, 1, 5, 7, 8, 9, 10, 11, 12, 13, 14, 15, 16, 4, 2] (by decide) rfl) hS ls (lv_sub hl [4, 5, 6, 7, 8, 9, 0] rfl)
            refine lv_if_ne (tgt := 76) hx hb dX0_search_69 (by decide) (fun c_41 => ?_) (fun c_41 => ?_)
            · skip
              refine lv_iconst (v := 0) hx hb dX0_search_76 (by decide) ?_
              exact J69 0
            · skip
              refine lv_iconst (v := 1) hx hb dX0_search_72 (by decide) ?_
              refine lv_goto (tgt := 77) hx hb dX0_search_73 (by decide) ?_
              exact J69 1
          · skip
            refine lv_aload_n hx hb dX0_search_84 rfl (lv_at hl 3 rfl) ?_
            refine lv_aload_n hx hb dX0_search_85 rfl (lv_at hl 4 rfl) ?_
            refine lv_aload_n hx hb dX0_search_86 rfl (lv_at hl 3 rfl) ?_
            refine va_get (D := (dC, dI)) (ci := 2) (v := .ref tO) (C := RX0) (T := TX0) (N := 5) hx hb hts kc_xSearch3_1 hown hK hP 0 rfl rfl 3 (by decide) (hts (.fieldLink RX0 17 "MistHeaps$Chances" "times" "[[J") kc_xSearch3_3) (fun _ h9 => h9) rfl dX0_search_87 ?_
            refine lv_iload hx hb dX0_search_90 (lv_at hl 2 rfl) ?_
            refine va_alda hx hb hK hP 2 1 rfl rfl (vp_in_nI (n := 0) (N := 3) (by omega) (by omega)) dX0_search_92 ?_
            refine qq_as (v := .ref (rt 0)) (rfl) ?_
            refine lv_iload hx hb dX0_search_93 (lv_at hl 9 rfl) ?_
            refine lv_iload hx hb dX0_search_95 (lv_at hl 1 rfl) ?_
            refine lv_ishr hx hb dX0_search_97 ?_
            refine lv_bipush (v := 7) hx hb dX0_search_98 (by decide) ?_
            refine lv_iand hx hb dX0_search_100 ?_
            obtain ⟨k_42, hk_43, ek_44⟩ := and7 ((nI r) >>> (3 &&& 31))
            refine qi_as (y := nI k_42) (ek_44) ?_
            refine lv_aload_n hx hb dX0_search_101 rfl (lv_at hl 3 rfl) ?_
            refine va_get (D := (dC, dI)) (ci := 2) (v := .ref tO) (C := RX0) (T := TX0) (N := 5) hx hb hts kc_xSearch3_1 hown hK hP 0 rfl rfl 3 (by decide) (hts (.fieldLink RX0 17 "MistHeaps$Chances" "times" "[[J") kc_xSearch3_3) (fun _ h9 => h9) rfl dX0_search_102 ?_
            refine lv_iload hx hb dX0_search_105 (lv_at hl 2 rfl) ?_
            refine lv_iconst (v := 1) hx hb dX0_search_107 (by decide) ?_
            refine lv_iadd hx hb dX0_search_108 ?_
            refine qi_as (y := 1) (by decide) ?_
            refine va_alda hx hb hK hP 2 1 rfl rfl (vp_in_nI (n := 1) (N := 3) (by omega) (by omega)) dX0_search_109 ?_
            refine qq_as (v := .ref (rt 1)) (rfl) ?_
            have hPc := hP.sub (ws' := [(zo2lirrr ch ft2 fr2 dr tO hO), (zaI dr cD 36 fD2), (zo10ririliiriririr sc aTp (nI ts) aHl (nI nh) ed mi sn aHs (nI n) aWk (nI wz) aBk (nI bz) aFc), (zaL (rt 0) cT 36 ft02), (zaL (rt 1) cT 36 ft12)]) [0, 1, 15, 3, 4] rfl
            have hDc := hD.sub (ws' := [(zo2lirrr ch ft2 fr2 dr tO hO), (zaI dr cD 36 fD2), (zo10ririliiriririr sc aTp (nI ts) aHl (nI nh) ed mi sn aHs (nI n) aWk (nI wz) aBk (nI bz) aFc), (zaL (rt 0) cT 36 ft02), (zaL (rt 1) cT 36 ft12)]) [0, 1, 15, 3, 4] (by decide) rfl
            have hKc := hK.sub (tys' := [(cD, .int), (cT, .long), (cT, .long)]) [0, 2, 3] rfl
            have hFc := va_free (wc := [(zo2lirrr ch ft2 fr2 dr tO hO), (zaI dr cD 36 fD2), (zo10ririliiriririr sc aTp (nI ts) aHl (nI nh) ed mi sn aHs (nI n) aWk (nI wz) aBk (nI bz) aFc), (zaL (rt 0) cT 36 ft02), (zaL (rt 1) cT 36 ft12)]) hD hS hA [0, 1, 15, 3, 4] rfl
            refine va_callv (va_runV (As := [.ref sc, .ref (rt 0), .int (nI k_42), .ref (rt 1)]) (rest := []) ⟨hx, hb, hml, hown, hts⟩ (c_xSpread l dC dI gd sc ch aTp aHl aHs aWk aBk aFc dr tO hO ts nh n wz bz k_42 mi sn fr2 ed ft2 cD fD2 (rt 0) (rt 1) cT cT ft02 ft12 H.size (by omega)) (cwV 4 hts gX0_search_X0_spread rfl rfl rfl hd_yX0_spread ⟨Nat.le_of_ble_eq_true rfl, Nat.le_of_ble_eq_true rfl⟩) ⟨fun a U g mk q => by obtain ⟨q0, q1, qP, qK, qD, qhG⟩ := q; exact ⟨q0, q1, qP, va_K.moved (u := U) (U := U.calling g mk a) (Vm.Alike.refl U.vm) qK, qD, qhG.same rfl rfl⟩, va_recv hK hP (ci := 2) (q := (RX0, TX0, 5)) (q0 := 0) rfl rfl, fun U hU hW => ⟨rfl, by rw [hU], by rw [hU]; exact hPc, va_K.moved hW.alike hKc, hDc.weaken (fun _ _ _ _ => trivial), hG.call hS hU hW (fun q h => hFc q h)⟩⟩ rfl rfl hl.1 rfl (lv_room (Nat.le_of_ble_eq_true rfl)) dX0_search_110 ⟨Nat.le_of_ble_eq_true rfl, Nat.le_of_ble_eq_true rfl⟩) hS (fun q _ h => hFc q h) hFc (fun u tC H1 locs htC hvm hw_46 hB hz1 hk1 hS => ?_)
            obtain ⟨tt9_47, rfl⟩ : ∃ z, z = u := ⟨_, rfl⟩
            try dsimp only at hw_46 hB
            obtain ⟨hP1, hK1, hD1⟩ := hB
            rw [htC] at hP1
            have hK1 := va_K.moved hvm.symm hK1
            obtain ⟨hP, hD⟩ := va_join (wr := [(zaR tO cTO 3 (fun i => if i < 3 then some (rt i) else none)), (zaL (rt 2) cT 36 ft22), (zaR hO cHO 8 (fun i => if i < 8 then some (rh i) else none)), (zaI (rh 0) cH 36 g02), (zaI (rh 1) cH 36 g12), (zaI (rh 2) cH 36 g22), (zaI (rh 3) cH 36 g32), (zaI (rh 4) cH 36 g42), (zaI (rh 5) cH 36 g52), (zaI (rh 6) cH 36 g62), (zaI (rh 7) cH 36 g72), (zaI aFc cFc 6 fFc2)]) (w1 := [(zo2lirrr ch ft2 fr2 dr tO hO), (zaI dr cD 36 fD2), (zo10ririliiriririr sc aTp (nI ts) aHl (nI nh) ed mi sn aHs (nI n) aWk (nI wz) aBk (nI bz) aFc), (zaL (rt 0) cT 36 ft02), (zaL (rt 1) cT 36 tt9_47)]) hP hD [0, 1, 15, 3, 4] [2, 5, 6, 7, 8, 9, 10, 11, 12, 13, 14, 16] rfl rfl (by decide) (by decide) hk1 hFc hP1 hD1
            have hK := (hK.sub (tys' := [(cTO, .array .long), (cT, .long), (cHO, .array .int), (cH, .int), (cH, .int), (cH, .int), (cH, .int), (cH, .int), (cH, .int), (cH, .int), (cH, .int), (cFc, .int)]) [1, 4, 5, 6, 7, 8, 9, 10, 11, 12, 13, 14] rfl).app hK1
            generalize H1 = H at hP hS ⊢
            have hP : va_P (dC, dI) vwCl [(zaR tO cTO 3 (fun i => if i < 3 then some (rt i) else none)), (zaL (rt 2) cT 36 ft22), (zaR hO cHO 8 (fun i => if i < 8 then some (rh i) else none)), (zaI (rh 0) cH 36 g02), (zaI (rh 1) cH 36 g12), (zaI (rh 2) cH 36 g22), (zaI (rh 3) cH 36 g32), (zaI (rh 4) cH 36 g42), (zaI (rh 5) cH 36 g52), (zaI (rh 6) cH 36 g62), (zaI (rh 7) cH 36 g72), (zaI aFc cFc 6 fFc2), (zo2lirrr ch ft2 fr2 dr tO hO), (zaI dr cD 36 fD2), (zo10ririliiriririr sc aTp (nI ts) aHl (nI nh) ed mi sn aHs (nI n) aWk (nI wz) aBk (nI bz) aFc), (zaL (rt 0) cT 36 ft02), (zaL (rt 1) cT 36 tt9_47)] H := hP
            have hD : va_D A [(zaR tO cTO 3 (fun i => if i < 3 then some (rt i) else none)), (zaL (rt 2) cT 36 ft22), (zaR hO cHO 8 (fun i => if i < 8 then some (rh i) else none)), (zaI (rh 0) cH 36 g02), (zaI (rh 1) cH 36 g12), (zaI (rh 2) cH 36 g22), (zaI (rh 3) cH 36 g32), (zaI (rh 4) cH 36 g42), (zaI (rh 5) cH 36 g52), (zaI (rh 6) cH 36 g62), (zaI (rh 7) cH 36 g72), (zaI aFc cFc 6 fFc2), (zo2lirrr ch ft2 fr2 dr tO hO), (zaI dr cD 36 fD2), (zo10ririliiriririr sc aTp (nI ts) aHl (nI nh) ed mi sn aHs (nI n) aWk (nI wz) aBk (nI bz) aFc), (zaL (rt 0) cT 36 ft02), (zaL (rt 1) cT 36 tt9_47)] := hD
            have hK : va_K (dC, dI) vwCl [(cTO, .array .long), (cT, .long), (cHO, .array .int), (cH, .int), (cH, .int), (cH, .int), (cH, .int), (cH, .int), (cH, .int), (cH, .int), (cH, .int), (cFc, .int), (cD, .int), (cT, .long), (cT, .long)] s := hK
            refine lv_iinc (v := 1) (lv' := [(8, .int 1), (10, .int v_18), (9, .int 3), (0, .ref ch), (1, .ref sc), (2, .int x), (3, .long mk), (5, .int 3), (6, .int 2), (7, .int (nI r))]) hx hb dX0_search_113 hl (k := 2) rfl (by decide) (by decide) rfl (fun ls hl => ?_)
            refine lv_goto (tgt := 42) hx hb dX0_search_116 (by decide) ?_
            refine lv_iload hx hb dX0_search_42 (lv_at hl 0 rfl) ?_
            refine lv_iload hx hb dX0_search_44 (lv_at hl 8 rfl) ?_
            refine lv_icmp_ge (tgt := 119) hx hb dX0_search_46 (by decide) (fun c_48 => absurd c_48 (by decide)) (fun _ => ?_)
            refine lv_iconst (v := 3) hx hb dX0_search_49 (by decide) ?_
            refine lv_iload hx hb dX0_search_50 (lv_at hl 8 rfl) ?_
            refine lv_iconst (v := 1) hx hb dX0_search_52 (by decide) ?_
            refine lv_isub hx hb dX0_search_53 ?_
            refine qi_as (y := 1) (by decide) ?_
            refine lv_iload hx hb dX0_search_54 (lv_at hl 0 rfl) ?_
            refine lv_isub hx hb dX0_search_56 ?_
            refine qi_as (y := 0) (by decide) ?_
            refine lv_imul hx hb dX0_search_57 ?_
            refine qi_as (y := 0) (by decide) ?_
            refine lv_istore (lv' := [(9, .int 0), (8, .int 1), (10, .int v_18), (0, .ref ch), (1, .ref sc), (2, .int x), (3, .long mk), (5, .int 3), (6, .int 2), (7, .int (nI r))]) hx hb dX0_search_58 hl (by decide) rfl (fun ls hl => ?_)
            refine lv_iload hx hb dX0_search_60 (lv_at hl 9 rfl) ?_
            refine lv_iconst (v := 1) hx hb dX0_search_62 (by decide) ?_
            refine lv_iload hx hb dX0_search_63 (lv_at hl 0 rfl) ?_
            refine lv_ishl hx hb dX0_search_65 ?_
            refine qi_as (y := 1) (by decide) ?_
            refine lv_iconst (v := 1) hx hb dX0_search_66 (by decide) ?_
            refine lv_isub hx hb dX0_search_67 ?_
            refine qi_as (y := 0) (by decide) ?_
            refine lv_iand hx hb dX0_search_68 ?_
            have J69 : ∀ v_49 : Int32, W p l e ({ frames := 5, cells := 0, slots := 0, locals := 117 } : Room) s m args below meth c H locs 0 0 Q (F0 m 77 ls [.int v_49]) := by
              intro v_49
              refine lv_istore (lv' := [(10, .int v_49), (9, .int 0), (8, .int 1), (0, .ref ch), (1, .ref sc), (2, .int x), (3, .long mk), (5, .int 3), (6, .int 2), (7, .int (nI r))]) hx hb dX0_search_77 hl (by decide) rfl (fun ls hl => ?_)
              refine lv_iload hx hb dX0_search_79 (lv_at hl 0 rfl) ?_
              refine lv_if_eq (tgt := 113) hx hb dX0_search_81 (by decide) (fun c_51 => ?_) (fun c_51 => ?_)
              · skip
                refine lv_iinc (v := 2) (lv' := [(8, .int 2), (10, .int v_49), (9, .int 0), (0, .ref ch), (1, .ref sc), (2, .int x), (3, .long mk), (5, .int 3), (6, .int 2), (7, .int (nI r))]) hx hb dX0_search_113 hl (k := 2) rfl (by decide) (by decide) rfl (fun ls hl => ?_)
                refine lv_goto (tgt := 42) hx hb dX0_search_116 (by decide) ?_
                refine lv_iload hx hb dX0_search_42 (lv_at hl 0 rfl) ?_
                refine lv_iload hx hb dX0_search_44 (lv_at hl 8 rfl) ?_
                refine lv_icmp_ge (tgt := 119) hx hb dX0_search_46 (by decide) (fun _ => ?_) (fun c_52 => absurd c_52 (by decide))
                refine lv_aload_n hx hb dX0_search_119 rfl (lv_at hl 3 rfl) ?_
                refine lv_aload_n hx hb dX0_search_120 rfl (lv_at hl 3 rfl) ?_
                refine va_get (D := (dC, dI)) (ci := 2) (v := .ref tO) (C := RX0) (T := TX0) (N := 5) hx hb hts kc_xSearch3_1 hown hK hP 12 rfl rfl 3 (by decide) (hts (.fieldLink RX0 17 "MistHeaps$Chances" "times" "[[J") kc_xSearch3_3) (fun _ h9 => h9) rfl dX0_search_121 ?_
                refine lv_iload hx hb dX0_search_124 (lv_at hl 8 rfl) ?_
                refine va_alda hx hb hK hP 0 0 rfl rfl (vp_in_nI (n := 2) (N := 3) (by omega) (by omega)) dX0_search_126 ?_
                refine qq_as (v := .ref (rt 2)) (rfl) ?_
                refine lv_iload hx hb dX0_search_127 (lv_at hl 9 rfl) ?_
                have hPc := hP.sub (ws' := [(zo2lirrr ch ft2 fr2 dr tO hO), (zaL (rt 2) cT 36 ft22), (zaR hO cHO 8 (fun i => if i < 8 then some (rh i) else none)), (zaI (rh 0) cH 36 g02), (zaI (rh 1) cH 36 g12), (zaI (rh 2) cH 36 g22), (zaI (rh 3) cH 36 g32), (zaI (rh 4) cH 36 g42), (zaI (rh 5) cH 36 g52), (zaI (rh 6) cH 36 g62), (zaI (rh 7) cH 36 g72)]) [12, 1, 2, 3, 4, 5, 6, 7, 8, 9, 10] rfl
                have hDc := hD.sub (ws' := [(zo2lirrr ch ft2 fr2 dr tO hO), (zaL (rt 2) cT 36 ft22), (zaR hO cHO 8 (fun i => if i < 8 then some (rh i) else none)), (zaI (rh 0) cH 36 g02), (zaI (rh 1) cH 36 g12), (zaI (rh 2) cH 36 g22), (zaI (rh 3) cH 36 g32), (zaI (rh 4) cH 36 g42), (zaI (rh 5) cH 36 g52), (zaI (rh 6) cH 36 g62), (zaI (rh 7) cH 36 g72)]) [12, 1, 2, 3, 4, 5, 6, 7, 8, 9, 10] (by decide) rfl
                have hKc := hK.sub (tys' := [(cT, .long), (cHO, .array .int), (cH, .int), (cH, .int), (cH, .int), (cH, .int), (cH, .int), (cH, .int), (cH, .int), (cH, .int)]) [1, 2, 3, 4, 5, 6, 7, 8, 9, 10] rfl
                have hFc := va_free (wc := [(zo2lirrr ch ft2 fr2 dr tO hO), (zaL (rt 2) cT 36 ft22), (zaR hO cHO 8 (fun i => if i < 8 then some (rh i) else none)), (zaI (rh 0) cH 36 g02), (zaI (rh 1) cH 36 g12), (zaI (rh 2) cH 36 g22), (zaI (rh 3) cH 36 g32), (zaI (rh 4) cH 36 g42), (zaI (rh 5) cH 36 g52), (zaI (rh 6) cH 36 g62), (zaI (rh 7) cH 36 g72)]) hD hS hA [12, 1, 2, 3, 4, 5, 6, 7, 8, 9, 10] rfl
                refine va_callv (va_runV (As := [.ref (rt 2), .int (nI r)]) (rest := []) ⟨hx, hb, hml, hown, hts⟩ (c_xTryLast l dC dI ch dr tO hO i fr2 (nI r) ft2 cHO cH g02 g12 g22 g32 g42 g52 g62 g72 rh (rt 2) cT ft22 H.size) (cwV 2 hts gX0_search_X0_tryLast rfl rfl rfl hd_yX0_tryLast ⟨Nat.le_of_ble_eq_true rfl, Nat.le_of_ble_eq_true rfl⟩) ⟨fun a U g mk q => by obtain ⟨q0, q1, qP, qK, qD⟩ := q; exact ⟨q0, q1, qP, va_K.moved (u := U) (U := U.calling g mk a) (Vm.Alike.refl U.vm) qK, qD⟩, va_recv hK hP (ci := 2) (q := (RX0, TX0, 5)) (q0 := 12) rfl rfl, fun U hU hW => ⟨rfl, by rw [hU], by rw [hU]; exact hPc, va_K.moved hW.alike hKc, hDc.weaken (fun _ _ _ _ => trivial)⟩⟩ rfl rfl hl.1 rfl (lv_room (Nat.le_of_ble_eq_true rfl)) dX0_search_129 ⟨Nat.le_of_ble_eq_true rfl, Nat.le_of_ble_eq_true rfl⟩) hS (fun q _ h => hFc q h) hFc (fun u tC H1 locs htC hvm hw_54 hB hz1 hk1 hS => ?_)
                obtain ⟨ft9_55, fr9_56⟩ := u
                try dsimp only at hw_54 hB
                obtain ⟨hP1, hK1, hD1⟩ := hB
                rw [htC] at hP1
                have hK1 := va_K.moved hvm.symm hK1
                obtain ⟨hP, hD⟩ := va_join (wr := [(zaR tO cTO 3 (fun i => if i < 3 then some (rt i) else none)), (zaI aFc cFc 6 fFc2), (zaI dr cD 36 fD2), (zo10ririliiriririr sc aTp (nI ts) aHl (nI nh) ed mi sn aHs (nI n) aWk (nI wz) aBk (nI bz) aFc), (zaL (rt 0) cT 36 ft02), (zaL (rt 1) cT 36 tt9_47)]) (w1 := [(zo2lirrr ch ft9_55 fr9_56 dr tO hO), (zaL (rt 2) cT 36 ft22), (zaR hO cHO 8 (fun i => if i < 8 then some (rh i) else none)), (zaI (rh 0) cH 36 g02), (zaI (rh 1) cH 36 g12), (zaI (rh 2) cH 36 g22), (zaI (rh 3) cH 36 g32), (zaI (rh 4) cH 36 g42), (zaI (rh 5) cH 36 g52), (zaI (rh 6) cH 36 g62), (zaI (rh 7) cH 36 g72)]) hP hD [12, 1, 2, 3, 4, 5, 6, 7, 8, 9, 10] [0, 11, 13, 14, 15, 16] rfl rfl (by decide) (by decide) hk1 hFc hP1 hD1
                have hK := (hK.sub (tys' := [(cTO, .array .long), (cFc, .int), (cD, .int), (cT, .long), (cT, .long)]) [0, 11, 12, 13, 14] rfl).app hK1
                generalize H1 = H at hP hS ⊢
                have hP : va_P (dC, dI) vwCl [(zaR tO cTO 3 (fun i => if i < 3 then some (rt i) else none)), (zaI aFc cFc 6 fFc2), (zaI dr cD 36 fD2), (zo10ririliiriririr sc aTp (nI ts) aHl (nI nh) ed mi sn aHs (nI n) aWk (nI wz) aBk (nI bz) aFc), (zaL (rt 0) cT 36 ft02), (zaL (rt 1) cT 36 tt9_47), (zo2lirrr ch ft9_55 fr9_56 dr tO hO), (zaL (rt 2) cT 36 ft22), (zaR hO cHO 8 (fun i => if i < 8 then some (rh i) else none)), (zaI (rh 0) cH 36 g02), (zaI (rh 1) cH 36 g12), (zaI (rh 2) cH 36 g22), (zaI (rh 3) cH 36 g32), (zaI (rh 4) cH 36 g42), (zaI (rh 5) cH 36 g52), (zaI (rh 6) cH 36 g62), (zaI (rh 7) cH 36 g72)] H := hP
                have hD : va_D A [(zaR tO cTO 3 (fun i => if i < 3 then some (rt i) else none)), (zaI aFc cFc 6 fFc2), (zaI dr cD 36 fD2), (zo10ririliiriririr sc aTp (nI ts) aHl (nI nh) ed mi sn aHs (nI n) aWk (nI wz) aBk (nI bz) aFc), (zaL (rt 0) cT 36 ft02), (zaL (rt 1) cT 36 tt9_47), (zo2lirrr ch ft9_55 fr9_56 dr tO hO), (zaL (rt 2) cT 36 ft22), (zaR hO cHO 8 (fun i => if i < 8 then some (rh i) else none)), (zaI (rh 0) cH 36 g02), (zaI (rh 1) cH 36 g12), (zaI (rh 2) cH 36 g22), (zaI (rh 3) cH 36 g32), (zaI (rh 4) cH 36 g42), (zaI (rh 5) cH 36 g52), (zaI (rh 6) cH 36 g62), (zaI (rh 7) cH 36 g72)] := hD
                have hK : va_K (dC, dI) vwCl [(cTO, .array .long), (cFc, .int), (cD, .int), (cT, .long), (cT, .long), (cT, .long), (cHO, .array .int), (cH, .int), (cH, .int), (cH, .int), (cH, .int), (cH, .int), (cH, .int), (cH, .int), (cH, .int)] s := hK
                refine lv_iinc (v := nI (r + 1)) (lv' := [(7, .int (nI (r + 1))), (8, .int 2), (10, .int v_49), (9, .int 0), (0, .ref ch), (1, .ref sc), (2, .int x), (3, .long mk), (5, .int 3), (6, .int 2)]) hx hb dX0_search_132 hl (k := 9) rfl (nI_add r 1) (by decide) rfl (fun ls hl => ?_)
                refine lv_goto (tgt := 28) hx hb dX0_search_135 (by decide) ?_
                exact ih28 (r + 1) _ _ _ _ _ _ _ _ _ _ _ _ _ _ _ (by omega) (by omega) _ _ (hK.sub [2, 0, 3, 4, 5, 6, 7, 8, 9, 10, 11, 12, 13, 14, 1] rfl) (hP.sub [6, 2, 0, 4, 5, 7, 8, 9, 10, 11, 12, 13, 14, 15, 16, 3, 1] rfl) (hD.sub [6, 2, 0, 4, 5, 7, 8, 9, 10, 11, 12, 13, 14, 15, 16, 3, 1] (by decide) rfl) hS ls (lv_sub hl [4, 5, 6, 7, 8, 9, 0] rfl)
              · skip
                refine lv_aload_n hx hb dX0_search_84 rfl (lv_at hl 3 rfl) ?_
                refine lv_aload_n hx hb dX0_search_85 rfl (lv_at hl 4 rfl) ?_
                refine lv_aload_n hx hb dX0_search_86 rfl (lv_at hl 3 rfl) ?_
                refine va_get (D := (dC, dI)) (ci := 2) (v := .ref tO) (C := RX0) (T := TX0) (N := 5) hx hb hts kc_xSearch3_1 hown hK hP 12 rfl rfl 3 (by decide) (hts (.fieldLink RX0 17 "MistHeaps$Chances" "times" "[[J") kc_xSearch3_3) (fun _ h9 => h9) rfl dX0_search_87 ?_
                refine lv_iload hx hb dX0_search_90 (lv_at hl 2 rfl) ?_
                refine va_alda hx hb hK hP 0 0 rfl rfl (vp_in_nI (n := 1) (N := 3) (by omega) (by omega)) dX0_search_92 ?_
                refine qq_as (v := .ref (rt 1)) (rfl) ?_
                refine lv_iload hx hb dX0_search_93 (lv_at hl 9 rfl) ?_
                refine lv_iload hx hb dX0_search_95 (lv_at hl 1 rfl) ?_
                refine lv_ishr hx hb dX0_search_97 ?_
                refine lv_bipush (v := 7) hx hb dX0_search_98 (by decide) ?_
                refine lv_iand hx hb dX0_search_100 ?_
                obtain ⟨k_57, hk_58, ek_59⟩ := and7 ((nI r) >>> (0 &&& 31))
                refine qi_as (y := nI k_57) (ek_59) ?_
                refine lv_aload_n hx hb dX0_search_101 rfl (lv_at hl 3 rfl) ?_
                refine va_get (D := (dC, dI)) (ci := 2) (v := .ref tO) (C := RX0) (T := TX0) (N := 5) hx hb hts kc_xSearch3_1 hown hK hP 12 rfl rfl 3 (by decide) (hts (.fieldLink RX0 17 "MistHeaps$Chances" "times" "[[J") kc_xSearch3_3) (fun _ h9 => h9) rfl dX0_search_102 ?_
                refine lv_iload hx hb dX0_search_105 (lv_at hl 2 rfl) ?_
                refine lv_iconst (v := 1) hx hb dX0_search_107 (by decide) ?_
                refine lv_iadd hx hb dX0_search_108 ?_
                refine qi_as (y := 2) (by decide) ?_
                refine va_alda hx hb hK hP 0 0 rfl rfl (vp_in_nI (n := 2) (N := 3) (by omega) (by omega)) dX0_search_109 ?_
                refine qq_as (v := .ref (rt 2)) (rfl) ?_
                have hPc := hP.sub (ws' := [(zo2lirrr ch ft2 fr2 dr tO hO), (zaI dr cD 36 fD2), (zo10ririliiriririr sc aTp (nI ts) aHl (nI nh) ed mi sn aHs (nI n) aWk (nI wz) aBk (nI bz) aFc), (zaL (rt 1) cT 36 tt9_47), (zaL (rt 2) cT 36 ft22)]) [12, 13, 14, 16, 1] rfl
                have hDc := hD.sub (ws' := [(zo2lirrr ch ft2 fr2 dr tO hO), (zaI dr cD 36 fD2), (zo10ririliiriririr sc aTp (nI ts) aHl (nI nh) ed mi sn aHs (nI n) aWk (nI wz) aBk (nI bz) aFc), (zaL (rt 1) cT 36 tt9_47), (zaL (rt 2) cT 36 ft22)]) [12, 13, 14, 16, 1] (by decide) rfl
                have hKc := hK.sub (tys' := [(cD, .int), (cT, .long), (cT, .long)]) [12, 14, 1] rfl
                have hFc := va_free (wc := [(zo2lirrr ch ft2 fr2 dr tO hO), (zaI dr cD 36 fD2), (zo10ririliiriririr sc aTp (nI ts) aHl (nI nh) ed mi sn aHs (nI n) aWk (nI wz) aBk (nI bz) aFc), (zaL (rt 1) cT 36 tt9_47), (zaL (rt 2) cT 36 ft22)]) hD hS hA [12, 13, 14, 16, 1] rfl
                refine va_callv (va_runV (As := [.ref sc, .ref (rt 1), .int (nI k_57), .ref (rt 2)]) (rest := []) ⟨hx, hb, hml, hown, hts⟩ (c_xSpread l dC dI gd sc ch aTp aHl aHs aWk aBk aFc dr tO hO ts nh n wz bz k_57 mi sn fr2 ed ft2 cD fD2 (rt 1) (rt 2) cT cT tt9_47 ft22 H.size (by omega)) (cwV 4 hts gX0_search_X0_spread rfl rfl rfl hd_yX0_spread ⟨Nat.le_of_ble_eq_true rfl, Nat.le_of_ble_eq_true rfl⟩) ⟨fun a U g mk q => by obtain ⟨q0, q1, qP, qK, qD, qhG⟩ := q; exact ⟨q0, q1, qP, va_K.moved (u := U) (U := U.calling g mk a) (Vm.Alike.refl U.vm) qK, qD, qhG.same rfl rfl⟩, va_recv hK hP (ci := 2) (q := (RX0, TX0, 5)) (q0 := 12) rfl rfl, fun U hU hW => ⟨rfl, by rw [hU], by rw [hU]; exact hPc, va_K.moved hW.alike hKc, hDc.weaken (fun _ _ _ _ => trivial), hG.call hS hU hW (fun q h => hFc q h)⟩⟩ rfl rfl hl.1 rfl (lv_room (Nat.le_of_ble_eq_true rfl)) dX0_search_110 ⟨Nat.le_of_ble_eq_true rfl, Nat.le_of_ble_eq_true rfl⟩) hS (fun q _ h => hFc q h) hFc (fun u tC H1 locs htC hvm hw_61 hB hz1 hk1 hS => ?_)
                obtain ⟨tt9_62, rfl⟩ : ∃ z, z = u := ⟨_, rfl⟩
                try dsimp only at hw_61 hB
                obtain ⟨hP1, hK1, hD1⟩ := hB
                rw [htC] at hP1
                have hK1 := va_K.moved hvm.symm hK1
                obtain ⟨hP, hD⟩ := va_join (wr := [(zaR tO cTO 3 (fun i => if i < 3 then some (rt i) else none)), (zaR hO cHO 8 (fun i => if i < 8 then some (rh i) else none)), (zaI (rh 0) cH 36 g02), (zaI (rh 1) cH 36 g12), (zaI (rh 2) cH 36 g22), (zaI (rh 3) cH 36 g32), (zaI (rh 4) cH 36 g42), (zaI (rh 5) cH 36 g52), (zaI (rh 6) cH 36 g62), (zaI (rh 7) cH 36 g72), (zaI aFc cFc 6 fFc2), (zaL (rt 0) cT 36 ft02)]) (w1 := [(zo2lirrr ch ft2 fr2 dr tO hO), (zaI dr cD 36 fD2), (zo10ririliiriririr sc aTp (nI ts) aHl (nI nh) ed mi sn aHs (nI n) aWk (nI wz) aBk (nI bz) aFc), (zaL (rt 1) cT 36 tt9_47), (zaL (rt 2) cT 36 tt9_62)]) hP hD [12, 13, 14, 16, 1] [0, 2, 3, 4, 5, 6, 7, 8, 9, 10, 11, 15] rfl rfl (by decide) (by decide) hk1 hFc hP1 hD1
                have hK := (hK.sub (tys' := [(cTO, .array .long), (cHO, .array .int), (cH, .int), (cH, .int), (cH, .int), (cH, .int), (cH, .int), (cH, .int), (cH, .int), (cH, .int), (cFc, .int), (cT, .long)]) [0, 2, 3, 4, 5, 6, 7, 8, 9, 10, 11, 13] rfl).app hK1
                generalize H1 = H at hP hS ⊢
                have hP : va_P (dC, dI) vwCl [(zaR tO cTO 3 (fun i => if i < 3 then some (rt i) else none)), (zaR hO cHO 8 (fun i => if i < 8 then some (rh i) else none)), (zaI (rh 0) cH 36 g02), (zaI (rh 1) cH 36 g12), (zaI (rh 2) cH 36 g22), (zaI (rh 3) cH 36 g32), (zaI (rh 4) cH 36 g42), (zaI (rh 5) cH 36 g52), (zaI (rh 6) cH 36 g62), (zaI (rh 7) cH 36 g72), (zaI aFc cFc 6 fFc2), (zaL (rt 0) cT 36 ft02), (zo2lirrr ch ft2 fr2 dr tO hO), (zaI dr cD 36 fD2), (zo10ririliiriririr sc aTp (nI ts) aHl (nI nh) ed mi sn aHs (nI n) aWk (nI wz) aBk (nI bz) aFc), (zaL (rt 1) cT 36 tt9_47), (zaL (rt 2) cT 36 tt9_62)] H := hP
                have hD : va_D A [(zaR tO cTO 3 (fun i => if i < 3 then some (rt i) else none)), (zaR hO cHO 8 (fun i => if i < 8 then some (rh i) else none)), (zaI (rh 0) cH 36 g02), (zaI (rh 1) cH 36 g12), (zaI (rh 2) cH 36 g22), (zaI (rh 3) cH 36 g32), (zaI (rh 4) cH 36 g42), (zaI (rh 5) cH 36 g52), (zaI (rh 6) cH 36 g62), (zaI (rh 7) cH 36 g72), (zaI aFc cFc 6 fFc2), (zaL (rt 0) cT 36 ft02), (zo2lirrr ch ft2 fr2 dr tO hO), (zaI dr cD 36 fD2), (zo10ririliiriririr sc aTp (nI ts) aHl (nI nh) ed mi sn aHs (nI n) aWk (nI wz) aBk (nI bz) aFc), (zaL (rt 1) cT 36 tt9_47), (zaL (rt 2) cT 36 tt9_62)] := hD
                have hK : va_K (dC, dI) vwCl [(cTO, .array .long), (cHO, .array .int), (cH, .int), (cH, .int), (cH, .int), (cH, .int), (cH, .int), (cH, .int), (cH, .int), (cH, .int), (cFc, .int), (cT, .long), (cD, .int), (cT, .long), (cT, .long)] s := hK
                refine lv_iinc (v := 2) (lv' := [(8, .int 2), (10, .int v_49), (9, .int 0), (0, .ref ch), (1, .ref sc), (2, .int x), (3, .long mk), (5, .int 3), (6, .int 2), (7, .int (nI r))]) hx hb dX0_search_113 hl (k := 2) rfl (by decide) (by decide) rfl (fun ls hl => ?_)
                refine lv_goto (tgt := 42) hx hb dX0_search_116 (by decide) ?_
                refine lv_iload hx hb dX0_search_42 (lv_at hl 0 rfl) ?_
                refine lv_iload hx hb dX0_search_44 (lv_at hl 8 rfl) ?_
                refine lv_icmp_ge (tgt := 119) hx hb dX0_search_46 (by decide) (fun _ => ?_) (fun c_63 => absurd c_63 (by decide))
                refine lv_aload_n hx hb dX0_search_119 rfl (lv_at hl 3 rfl) ?_
                refine lv_aload_n hx hb dX0_search_120 rfl (lv_at hl 3 rfl) ?_
                refine va_get (D := (dC, dI)) (ci := 2) (v := .ref tO) (C := RX0) (T := TX0) (N := 5) hx hb hts kc_xSearch3_1 hown hK hP 12 rfl rfl 3 (by decide) (hts (.fieldLink RX0 17 "MistHeaps$Chances" "times" "[[J") kc_xSearch3_3) (fun _ h9 => h9) rfl dX0_search_121 ?_
                refine lv_iload hx hb dX0_search_124 (lv_at hl 8 rfl) ?_
                refine va_alda hx hb hK hP 0 0 rfl rfl (vp_in_nI (n := 2) (N := 3) (by omega) (by omega)) dX0_search_126 ?_
                refine qq_as (v := .ref (rt 2)) (rfl) ?_
                refine lv_iload hx hb dX0_search_127 (lv_at hl 9 rfl) ?_
                have hPc := hP.sub (ws' := [(zo2lirrr ch ft2 fr2 dr tO hO), (zaL (rt 2) cT 36 tt9_62), (zaR hO cHO 8 (fun i => if i < 8 then some (rh i) else none)), (zaI (rh 0) cH 36 g02), (zaI (rh 1) cH 36 g12), (zaI (rh 2) cH 36 g22), (zaI (rh 3) cH 36 g32), (zaI (rh 4) cH 36 g42), (zaI (rh 5) cH 36 g52), (zaI (rh 6) cH 36 g62), (zaI (rh 7) cH 36 g72)]) [12, 16, 1, 2, 3, 4, 5, 6, 7, 8, 9] rfl
                have hDc := hD.sub (ws' := [(zo2lirrr ch ft2 fr2 dr tO hO), (zaL (rt 2) cT 36 tt9_62), (zaR hO cHO 8 (fun i => if i < 8 then some (rh i) else none)), (zaI (rh 0) cH 36 g02), (zaI (rh 1) cH 36 g12), (zaI (rh 2) cH 36 g22), (zaI (rh 3) cH 36 g32), (zaI (rh 4) cH 36 g42), (zaI (rh 5) cH 36 g52), (zaI (rh 6) cH 36 g62), (zaI (rh 7) cH 36 g72)]) [12, 16, 1, 2, 3, 4, 5, 6, 7, 8, 9] (by decide) rfl
                have hKc := hK.sub (tys' := [(cT, .long), (cHO, .array .int), (cH, .int), (cH, .int), (cH, .int), (cH, .int), (cH, .int), (cH, .int), (cH, .int), (cH, .int)]) [14, 1, 2, 3, 4, 5, 6, 7, 8, 9] rfl
                have hFc := va_free (wc := [(zo2lirrr ch ft2 fr2 dr tO hO), (zaL (rt 2) cT 36 tt9_62), (zaR hO cHO 8 (fun i => if i < 8 then some (rh i) else none)), (zaI (rh 0) cH 36 g02), (zaI (rh 1) cH 36 g12), (zaI (rh 2) cH 36 g22), (zaI (rh 3) cH 36 g32), (zaI (rh 4) cH 36 g42), (zaI (rh 5) cH 36 g52), (zaI (rh 6) cH 36 g62), (zaI (rh 7) cH 36 g72)]) hD hS hA [12, 16, 1, 2, 3, 4, 5, 6, 7, 8, 9] rfl
                refine va_callv (va_runV (As := [.ref (rt 2), .int (nI r)]) (rest := []) ⟨hx, hb, hml, hown, hts⟩ (c_xTryLast l dC dI ch dr tO hO i fr2 (nI r) ft2 cHO cH g02 g12 g22 g32 g42 g52 g62 g72 rh (rt 2) cT tt9_62 H.size) (cwV 2 hts gX0_search_X0_tryLast rfl rfl rfl hd_yX0_tryLast ⟨Nat.le_of_ble_eq_true rfl, Nat.le_of_ble_eq_true rfl⟩) ⟨fun a U g mk q => by obtain ⟨q0, q1, qP, qK, qD⟩ := q; exact ⟨q0, q1, qP, va_K.moved (u := U) (U := U.calling g mk a) (Vm.Alike.refl U.vm) qK, qD⟩, va_recv hK hP (ci := 2) (q := (RX0, TX0, 5)) (q0 := 12) rfl rfl, fun U hU hW => ⟨rfl, by rw [hU], by rw [hU]; exact hPc, va_K.moved hW.alike hKc, hDc.weaken (fun _ _ _ _ => trivial)⟩⟩ rfl rfl hl.1 rfl (lv_room (Nat.le_of_ble_eq_true rfl)) dX0_search_129 ⟨Nat.le_of_ble_eq_true rfl, Nat.le_of_ble_eq_true rfl⟩) hS (fun q _ h => hFc q h) hFc (fun u tC H1 locs htC hvm hw_65 hB hz1 hk1 hS => ?_)
                obtain ⟨ft9_66, fr9_67⟩ := u
                try dsimp only at hw_65 hB
                obtain ⟨hP1, hK1, hD1⟩ := hB
                rw [htC] at hP1
                have hK1 := va_K.moved hvm.symm hK1
                obtain ⟨hP, hD⟩ := va_join (wr := [(zaR tO cTO 3 (fun i => if i < 3 then some (rt i) else none)), (zaI aFc cFc 6 fFc2), (zaL (rt 0) cT 36 ft02), (zaI dr cD 36 fD2), (zo10ririliiriririr sc aTp (nI ts) aHl (nI nh) ed mi sn aHs (nI n) aWk (nI wz) aBk (nI bz) aFc), (zaL (rt 1) cT 36 tt9_47)]) (w1 := [(zo2lirrr ch ft9_66 fr9_67 dr tO hO), (zaL (rt 2) cT 36 tt9_62), (zaR hO cHO 8 (fun i => if i < 8 then some (rh i) else none)), (zaI (rh 0) cH 36 g02), (zaI (rh 1) cH 36 g12), (zaI (rh 2) cH 36 g22), (zaI (rh 3) cH 36 g32), (zaI (rh 4) cH 36 g42), (zaI (rh 5) cH 36 g52), (zaI (rh 6) cH 36 g62), (zaI (rh 7) cH 36 g72)]) hP hD [12, 16, 1, 2, 3, 4, 5, 6, 7, 8, 9] [0, 10, 11, 13, 14, 15] rfl rfl (by decide) (by decide) hk1 hFc hP1 hD1
                have hK := (hK.sub (tys' := [(cTO, .array .long), (cFc, .int), (cT, .long), (cD, .int), (cT, .long)]) [0, 10, 11, 12, 13] rfl).app hK1
                generalize H1 = H at hP hS ⊢
                have hP : va_P (dC, dI) vwCl [(zaR tO cTO 3 (fun i => if i < 3 then some (rt i) else none)), (zaI aFc cFc 6 fFc2), (zaL (rt 0) cT 36 ft02), (zaI dr cD 36 fD2), (zo10ririliiriririr sc aTp (nI ts) aHl (nI nh) ed mi sn aHs (nI n) aWk (nI wz) aBk (nI bz) aFc), (zaL (rt 1) cT 36 tt9_47), (zo2lirrr ch ft9_66 fr9_67 dr tO hO), (zaL (rt 2) cT 36 tt9_62), (zaR hO cHO 8 (fun i => if i < 8 then some (rh i) else none)), (zaI (rh 0) cH 36 g02), (zaI (rh 1) cH 36 g12), (zaI (rh 2) cH 36 g22), (zaI (rh 3) cH 36 g32), (zaI (rh 4) cH 36 g42), (zaI (rh 5) cH 36 g52), (zaI (rh 6) cH 36 g62), (zaI (rh 7) cH 36 g72)] H := hP
                have hD : va_D A [(zaR tO cTO 3 (fun i => if i < 3 then some (rt i) else none)), (zaI aFc cFc 6 fFc2), (zaL (rt 0) cT 36 ft02), (zaI dr cD 36 fD2), (zo10ririliiriririr sc aTp (nI ts) aHl (nI nh) ed mi sn aHs (nI n) aWk (nI wz) aBk (nI bz) aFc), (zaL (rt 1) cT 36 tt9_47), (zo2lirrr ch ft9_66 fr9_67 dr tO hO), (zaL (rt 2) cT 36 tt9_62), (zaR hO cHO 8 (fun i => if i < 8 then some (rh i) else none)), (zaI (rh 0) cH 36 g02), (zaI (rh 1) cH 36 g12), (zaI (rh 2) cH 36 g22), (zaI (rh 3) cH 36 g32), (zaI (rh 4) cH 36 g42), (zaI (rh 5) cH 36 g52), (zaI (rh 6) cH 36 g62), (zaI (rh 7) cH 36 g72)] := hD
                have hK : va_K (dC, dI) vwCl [(cTO, .array .long), (cFc, .int), (cT, .long), (cD, .int), (cT, .long), (cT, .long), (cHO, .array .int), (cH, .int), (cH, .int), (cH, .int), (cH, .int), (cH, .int), (cH, .int), (cH, .int), (cH, .int)] s := hK
                refine lv_iinc (v := nI (r + 1)) (lv' := [(7, .int (nI (r + 1))), (8, .int 2), (10, .int v_49), (9, .int 0), (0, .ref ch), (1, .ref sc), (2, .int x), (3, .long mk), (5, .int 3), (6, .int 2)]) hx hb dX0_search_132 hl (k := 9) rfl (nI_add r 1) (by decide) rfl (fun ls hl => ?_)
                refine lv_goto (tgt := 28) hx hb dX0_search_135 (by decide) ?_
                exact ih28 (r + 1) _ _ _ _ _ _ _ _ _ _ _ _ _ _ _ (by omega) (by omega) _ _ (hK.sub [3, 0, 2, 4, 5, 6, 7, 8, 9, 10, 11, 12, 13, 14, 1] rfl) (hP.sub [6, 3, 0, 2, 5, 7, 8, 9, 10, 11, 12, 13, 14, 15, 16, 4, 1] rfl) (hD.sub [6, 3, 0, 2, 5, 7, 8, 9, 10, 11, 12, 13, 14, 15, 16, 4, 1] (by decide) rfl) hS ls (lv_sub hl [4, 5, 6, 7, 8, 9, 0] rfl)
            refine lv_if_ne (tgt := 76) hx hb dX0_search_69 (by decide) (fun c_68 => ?_) (fun c_68 => ?_)
            · skip
              refine lv_iconst (v := 0) hx hb dX0_search_76 (by decide) ?_
              exact J69 0
            · skip
              refine lv_iconst (v := 1) hx hb dX0_search_72 (by decide) ?_
              refine lv_goto (tgt := 77) hx hb dX0_search_73 (by decide) ?_
              exact J69 1
        refine lv_if_ne (tgt := 76) hx hb dX0_search_69 (by decide) (fun c_69 => ?_) (fun c_69 => ?_)
        · skip
          refine lv_iconst (v := 0) hx hb dX0_search_76 (by decide) ?_
          exact J69 0
        · skip
          refine lv_iconst (v := 1) hx hb dX0_search_72 (by decide) ?_
          refine lv_goto (tgt := 77) hx hb dX0_search_73 (by decide) ?_
          exact J69 1
  exact L28 _ (0) _ _ _ _ _ _ _ _ _ _ _ _ _ _ _ (Nat.lt_succ_self _) (by omega) _ _ (hK.sub [5, 2, 3, 0, 1, 6, 7, 8, 9, 10, 11, 12, 13, 14, 4] rfl) (hP.sub [5, 6, 2, 3, 0, 1, 7, 8, 9, 10, 11, 12, 13, 14, 15, 16, 4] rfl) (hD.sub [5, 6, 2, 3, 0, 1, 7, 8, 9, 10, 11, 12, 13, 14, 15, 16, 4] (by decide) rfl) hS ls (lv_sub hl [2, 3, 4, 5, 6, 1, 0] rfl)

theorem kc_xWalked_0 : ∀ w ∈ wsX80, w ∈ wsX0_walked := fun w h => List.mem_cons_of_mem _ (gin_wsX80 w h)
theorem kc_xWalked_1 : (.fieldLink RX0 31 "MistHeaps$Scene" "walkSize" "I" : Cond) ∈ wsX0_walked := kc_of 178 rfl rfl rfl
theorem kc_xWalked_2 : ∀ w ∈ wsX00, w ∈ wsX0_walked := fun w h => List.mem_cons_of_mem _ (gin_wsX00 w h)
theorem kc_xWalked_3 : (.fieldLink RX0 17 "MistHeaps$Chances" "times" "[[J" : Cond) ∈ wsX0_walked := kc_of 288 rfl rfl rfl
theorem kc_xWalked_4 : (.initialized RX11 : Cond) ∈ wsX0_walked := kc_of 63 rfl rfl rfl
theorem kc_xWalked_5 : (.static yX11_isIn : Cond) ∈ wsX0_walked := kc_of 840 rfl rfl rfl
theorem kc_xWalked_6 : (.fieldLink RX0 37 "MistHeaps$Scene" "walk" "[I" : Cond) ∈ wsX0_walked := kc_of 175 rfl rfl rfl
set_option maxHeartbeats 4000000 in
set_option maxRecDepth 100000 in
theorem c_xWalked (l : Launch) (dC : Nat → ClassId) (dI : Nat → Nat → Nat) (gd : Nat → Nat)  (sc : Nat) (ch : Nat) (aTp : Nat) (aHl : Nat) (aHs : Nat) (aWk : Nat) (aBk : Nat) (aFc : Nat) (bW : Nat) (bA : Nat) (bE : Nat) (bC : Nat) (dr : Nat) (tO : Nat) (hO : Nat) (ts : Nat) (nh : Nat) (n : Nat) (wz : Nat) (bz : Nat) (cl : Nat) (i : Nat) (mi : Int32) (sn : Int32) (sg : Int32) (cdd : Int32) (szz : Int32) (att : Int32) (nmb : Int32) (fr : Int32) (x : Int32) (ed : Int64) (ft : Int64) (mk : Int64) (cWk : ClassId) (cFc : ClassId) (cbW : ClassId) (cbA : ClassId) (cbE : ClassId) (cbC : ClassId) (cD : ClassId) (cTO : ClassId) (cT : ClassId) (fWk : Nat → Int32) (fFc : Nat → Int32) (fbW : Nat → Int32) (fbA : Nat → Int32) (fbE : Nat → Int32) (fbC : Nat → Int32) (fD : Nat → Int32) (ft0 : Nat → Int64) (ft1 : Nat → Int64) (rt : Nat → Nat) (tpv : Value) (cz : List pCla) (w0 : Nat) (sz : Nat) (hwz : wz ≤ 6) (zwk : ∀ k0, k0 < 6 → ∃ w0 : Nat, w0 < 8 ∧ fWk k0 = nI w0) (zcl : cl ≤ 10) (zE : ∀ k0, k0 < 10 → ∃ e0 : Nat, e0 ≤ 100 ∧ fbE k0 = nI e0) (zC : ∀ k0, k0 < 100 → okC (fbC k0)) (zHC : HC cl sg fbW fbA fbE fbC cz ∧ WfC cz) : Met l yX0_walked wsX0_walked ({ frames := 5, cells := 0, slots := 0, locals := 117 } : Room) (va_Pc [.ref ch, .ref sc, .int x, .long mk] (fun U => U.heap.size = sz ∧ va_P (dC, dI) vwCl [(zo2lirrr ch ft fr dr tO hO), (zaI dr cD 36 fD), (zaR tO cTO 3 (fun i => if i < 3 then some (rt i) else none)), (zaL (rt 0) cT 36 ft0), (zaL (rt 1) cT 36 ft1), (zo10ririliiriririr sc aTp (nI ts) aHl (nI nh) ed mi sn aHs (nI n) aWk (nI wz) aBk (nI bz) aFc), (zaI aWk cWk 6 fWk), (zaI aFc cFc 6 fFc)] U.heap ∧ va_K (dC, dI) vwCl [(cD, .int), (cTO, .array .long), (cT, .long), (cT, .long), (cWk, .int), (cFc, .int)] U ∧ va_D (fun _ => True) [(zo2lirrr ch ft fr dr tO hO), (zaI dr cD 36 fD), (zaR tO cTO 3 (fun i => if i < 3 then some (rt i) else none)), (zaL (rt 0) cT 36 ft0), (zaL (rt 1) cT 36 ft1), (zo10ririliiriririr sc aTp (nI ts) aHl (nI nh) ed mi sn aHs (nI n) aWk (nI wz) aBk (nI bz) aFc), (zaI aWk cWk 6 fWk), (zaI aFc cFc 6 fFc)] ∧ Gl gd (va_A [(zo2lirrr ch ft fr dr tO hO), (zaI dr cD 36 fD), (zaR tO cTO 3 (fun i => if i < 3 then some (rt i) else none)), (zaL (rt 0) cT 36 ft0), (zaL (rt 1) cT 36 ft1), (zo10ririliiriririr sc aTp (nI ts) aHl (nI nh) ed mi sn aHs (nI n) aWk (nI wz) aBk (nI bz) aFc), (zaI aWk cWk 6 fWk), (zaI aFc cFc 6 fFc)] sz) U ∧ Fz dC dI [(zo7iirrrriviii aHl sg (nI cl) bW bA bE bC cdd tpv szz att nmb), (zaI bW cbW 10 fbW), (zaI bA cbA 10 fbA), (zaI bE cbE 10 fbE), (zaI bC cbC 100 fbC)] [(cbW, .int), (cbA, .int), (cbE, .int), (cbC, .int)] (va_A [(zo2lirrr ch ft fr dr tO hO), (zaI dr cD 36 fD), (zaR tO cTO 3 (fun i => if i < 3 then some (rt i) else none)), (zaL (rt 0) cT 36 ft0), (zaL (rt 1) cT 36 ft1), (zo10ririliiriririr sc aTp (nI ts) aHl (nI nh) ed mi sn aHs (nI n) aWk (nI wz) aBk (nI bz) aFc), (zaI aWk cWk 6 fWk), (zaI aFc cFc 6 fFc)] sz) U)) (va_Ql (fun (r : Int64) (u : (Nat → Int32) × (Nat → Int64) × (Nat → Int64) × (Nat → Int32)) => match u with | (fD9, ft09, ft19, fFc9) => True) (fun (u : (Nat → Int32) × (Nat → Int64) × (Nat → Int64) × (Nat → Int32)) (t : State) => match u with | (fD9, ft09, ft19, fFc9) => va_P (dC, dI) vwCl [(zo2lirrr ch ft fr dr tO hO), (zaI dr cD 36 fD9), (zaR tO cTO 3 (fun i => if i < 3 then some (rt i) else none)), (zaL (rt 0) cT 36 ft09), (zaL (rt 1) cT 36 ft19), (zo10ririliiriririr sc aTp (nI ts) aHl (nI nh) ed mi sn aHs (nI n) aWk (nI wz) aBk (nI bz) aFc), (zaI aWk cWk 6 fWk), (zaI aFc cFc 6 fFc9)] t.heap ∧ va_K (dC, dI) vwCl [(cD, .int), (cTO, .array .long), (cT, .long), (cT, .long), (cWk, .int), (cFc, .int)] t ∧ va_D (va_A [(zo2lirrr ch ft fr dr tO hO), (zaI dr cD 36 fD), (zaR tO cTO 3 (fun i => if i < 3 then some (rt i) else none)), (zaL (rt 0) cT 36 ft0), (zaL (rt 1) cT 36 ft1), (zo10ririliiriririr sc aTp (nI ts) aHl (nI nh) ed mi sn aHs (nI n) aWk (nI wz) aBk (nI bz) aFc), (zaI aWk cWk 6 fWk), (zaI aFc cFc 6 fFc)] sz) [(zo2lirrr ch ft fr dr tO hO), (zaI dr cD 36 fD9), (zaR tO cTO 3 (fun i => if i < 3 then some (rt i) else none)), (zaL (rt 0) cT 36 ft09), (zaL (rt 1) cT 36 ft19), (zo10ririliiriririr sc aTp (nI ts) aHl (nI nh) ed mi sn aHs (nI n) aWk (nI wz) aBk (nI bz) aFc), (zaI aWk cWk 6 fWk), (zaI aFc cFc 6 fFc9)]) (va_A [(zo2lirrr ch ft fr dr tO hO), (zaI dr cD 36 fD), (zaR tO cTO 3 (fun i => if i < 3 then some (rt i) else none)), (zaL (rt 0) cT 36 ft0), (zaL (rt 1) cT 36 ft1), (zo10ririliiriririr sc aTp (nI ts) aHl (nI nh) ed mi sn aHs (nI n) aWk (nI wz) aBk (nI bz) aFc), (zaI aWk cWk 6 fWk), (zaI aFc cFc 6 fFc)] sz)) 0 0 (va_A [(zo2lirrr ch ft fr dr tO hO), (zaI dr cD 36 fD), (zaR tO cTO 3 (fun i => if i < 3 then some (rt i) else none)), (zaL (rt 0) cT 36 ft0), (zaL (rt 1) cT 36 ft1), (zo10ririliiriririr sc aTp (nI ts) aHl (nI nh) ed mi sn aHs (nI n) aWk (nI wz) aBk (nI bz) aFc), (zaI aWk cWk 6 fWk), (zaI aFc cFc 6 fFc)] sz) := by
  refine met_ofQ (cc := cX0_walked) (maxL := 9) (ret := (some .long)) (by decide) rfl ?_
  intro p e s m args below meth c s₁ Q B hml hv hQ
  obtain ⟨rfl, hsz, hP, hK, hD0, hG, hZ⟩ := hv
  have hx := B.exec
  have hb := B.bytes
  have hr := B.returns
  have hts := atoms_spec (ws := wsX0_walked) B.pre
  have hown : s.vm.findClass RX0 = some m.cls := findClass_of_methodNamed B.named
  have hlocks := B.notSynchronized
  subst hsz
  have hD := hD0.self (sz := s.heap.size)
  generalize hAe : va_A [(zo2lirrr ch ft fr dr tO hO), (zaI dr cD 36 fD), (zaR tO cTO 3 (fun i => if i < 3 then some (rt i) else none)), (zaL (rt 0) cT 36 ft0), (zaL (rt 1) cT 36 ft1), (zo10ririliiriririr sc aTp (nI ts) aHl (nI nh) ed mi sn aHs (nI n) aWk (nI wz) aBk (nI bz) aFc), (zaI aWk cWk 6 fWk), (zaI aFc cFc 6 fFc)] s.heap.size = A at hD hQ hG hZ ⊢
  have hA : ∀ q : Nat, s.heap.size ≤ q → A q := fun q h => by rw [← hAe]; exact Or.inr h
  have hS : va_S A s.heap s.heap [] := va_S.rf
  have hl := lv_entry [.ref ch, .ref sc, .int x, .long mk] (n := 9) (Nat.le_of_ble_eq_true rfl)
  rw [lg_entry_eq]
  generalize (lg_sl [.ref ch, .ref sc, .int x, .long mk] ++ List.replicate (9 - (lg_sl [.ref ch, .ref sc, .int x, .long mk]).length) Slot.unset).toArray = ls at hl ⊢
  generalize hag : ([.ref ch, .ref sc, .int x, .long mk] : List Value).toArray = args at hts hQ ⊢
  have hl : lv_has ls 9 [(0, .ref ch), (1, .ref sc), (2, .int x), (3, .long mk)] := hl
  obtain ⟨H, hH⟩ : ∃ H : Heap, H = s.heap := ⟨_, rfl⟩
  rw [← hH] at hP
  rw [← hH]
  have hS : va_S A s.heap H [] := by rw [hH]; exact hS
  obtain ⟨locs, hlo⟩ : ∃ L : List Loc, L = [] := ⟨_, rfl⟩
  rw [← hlo] at hS
  rw [← hlo]
  clear hH hlo
  refine lv_aload_n hx hb dX0_walked_0 rfl (lv_at hl 0 rfl) ?_
  refine lv_aload_n hx hb dX0_walked_1 rfl (lv_at hl 1 rfl) ?_
  refine lv_iload_n hx hb dX0_walked_2 rfl (lv_at hl 2 rfl) ?_
  have hPc := hP.sub (ws' := [(zo2lirrr ch ft fr dr tO hO), (zaI dr cD 36 fD), (zaR tO cTO 3 (fun i => if i < 3 then some (rt i) else none)), (zaL (rt 0) cT 36 ft0), (zo10ririliiriririr sc aTp (nI ts) aHl (nI nh) ed mi sn aHs (nI n) aWk (nI wz) aBk (nI bz) aFc), (zaI aFc cFc 6 fFc)]) [0, 1, 2, 3, 5, 7] rfl
  have hDc := hD.sub (ws' := [(zo2lirrr ch ft fr dr tO hO), (zaI dr cD 36 fD), (zaR tO cTO 3 (fun i => if i < 3 then some (rt i) else none)), (zaL (rt 0) cT 36 ft0), (zo10ririliiriririr sc aTp (nI ts) aHl (nI nh) ed mi sn aHs (nI n) aWk (nI wz) aBk (nI bz) aFc), (zaI aFc cFc 6 fFc)]) [0, 1, 2, 3, 5, 7] (by decide) rfl
  have hKc := hK.sub (tys' := [(cD, .int), (cTO, .array .long), (cT, .long), (cFc, .int)]) [0, 1, 2, 5] rfl
  have hFc := va_free (wc := [(zo2lirrr ch ft fr dr tO hO), (zaI dr cD 36 fD), (zaR tO cTO 3 (fun i => if i < 3 then some (rt i) else none)), (zaL (rt 0) cT 36 ft0), (zo10ririliiriririr sc aTp (nI ts) aHl (nI nh) ed mi sn aHs (nI n) aWk (nI wz) aBk (nI bz) aFc), (zaI aFc cFc 6 fFc)]) hD hS hA [0, 1, 2, 3, 5, 7] rfl
  refine va_callv (va_runV (As := [.ref sc, .int x]) (rest := []) ⟨hx, hb, hml, hown, hts⟩ (c_xBegin l dC dI gd  sc ch aTp aHl aHs aWk aBk aFc bW bA bE bC dr tO hO ts nh n wz bz cl i mi sn sg cdd szz att nmb fr x ed ft cFc cbW cbA cbE cbC cD cTO cT fFc fbW fbA fbE fbC fD ft0 rt tpv cz H.size (zcl) (zE) (zC) (zHC)) (cwV 2 hts gX0_walked_X0_begin rfl rfl rfl hd_yX0_begin ⟨Nat.le_of_ble_eq_true rfl, Nat.le_of_ble_eq_true rfl⟩) ⟨fun a U g mk q => by obtain ⟨q0, q1, qP, qK, qD, qhG, qhZ⟩ := q; exact ⟨q0, q1, qP, va_K.moved (u := U) (U := U.calling g mk a) (Vm.Alike.refl U.vm) qK, qD, qhG.same rfl rfl, qhZ.same rfl rfl⟩, va_recv hK hP (ci := 2) (q := (RX0, TX0, 5)) (q0 := 0) rfl rfl, fun U hU hW => ⟨rfl, by rw [hU], by rw [hU]; exact hPc, va_K.moved hW.alike hKc, hDc.weaken (fun _ _ _ _ => trivial), hG.call hS hU hW (fun q h => hFc q h), (hZ.sub [0, 1, 2, 3, 4] [0, 1, 2, 3] rfl rfl).call hS hU hW (fun q h => hFc q h)⟩⟩ rfl rfl hl.1 rfl (lv_room (Nat.le_of_ble_eq_true rfl)) dX0_walked_3 ⟨Nat.le_of_ble_eq_true rfl, Nat.le_of_ble_eq_true rfl⟩) hS (fun q _ h => hFc q h) hFc (fun u tC H1 locs htC hvm hw_2 hB hz1 hk1 hS => ?_)
  obtain ⟨fD9_3, ft09_4, fFc9_5⟩ := u
  try dsimp only at hw_2 hB
  obtain ⟨hP1, hK1, hD1⟩ := hB
  rw [htC] at hP1
  have hK1 := va_K.moved hvm.symm hK1
  obtain ⟨hP, hD⟩ := va_join (wr := [(zaL (rt 1) cT 36 ft1), (zaI aWk cWk 6 fWk)]) (w1 := [(zo2lirrr ch ft fr dr tO hO), (zaI dr cD 36 fD9_3), (zaR tO cTO 3 (fun i => if i < 3 then some (rt i) else none)), (zaL (rt 0) cT 36 ft09_4), (zo10ririliiriririr sc aTp (nI ts) aHl (nI nh) ed mi sn aHs (nI n) aWk (nI wz) aBk (nI bz) aFc), (zaI aFc cFc 6 fFc9_5)]) hP hD [0, 1, 2, 3, 5, 7] [4, 6] rfl rfl (by decide) (by decide) hk1 hFc hP1 hD1
  have hK := (hK.sub (tys' := [(cT, .long), (cWk, .int)]) [3, 4] rfl).app hK1
  generalize H1 = H at hP hS ⊢
  have hP : va_P (dC, dI) vwCl [(zaL (rt 1) cT 36 ft1), (zaI aWk cWk 6 fWk), (zo2lirrr ch ft fr dr tO hO), (zaI dr cD 36 fD9_3), (zaR tO cTO 3 (fun i => if i < 3 then some (rt i) else none)), (zaL (rt 0) cT 36 ft09_4), (zo10ririliiriririr sc aTp (nI ts) aHl (nI nh) ed mi sn aHs (nI n) aWk (nI wz) aBk (nI bz) aFc), (zaI aFc cFc 6 fFc9_5)] H := hP
  have hD : va_D A [(zaL (rt 1) cT 36 ft1), (zaI aWk cWk 6 fWk), (zo2lirrr ch ft fr dr tO hO), (zaI dr cD 36 fD9_3), (zaR tO cTO 3 (fun i => if i < 3 then some (rt i) else none)), (zaL (rt 0) cT 36 ft09_4), (zo10ririliiriririr sc aTp (nI ts) aHl (nI nh) ed mi sn aHs (nI n) aWk (nI wz) aBk (nI bz) aFc), (zaI aFc cFc 6 fFc9_5)] := hD
  have hK : va_K (dC, dI) vwCl [(cT, .long), (cWk, .int), (cD, .int), (cTO, .array .long), (cT, .long), (cFc, .int)] s := hK
  refine lv_iconst (v := 0) hx hb dX0_walked_6 (by decide) ?_
  refine lv_istore (lv' := [(5, .int 0), (0, .ref ch), (1, .ref sc), (2, .int x), (3, .long mk)]) hx hb dX0_walked_7 hl (by decide) rfl (fun ls hl => ?_)
  have L9 : ∀ (nF : Nat) (i : Nat) (fD2 : Nat → Int32) (ft02 : Nat → Int64) (ft12 : Nat → Int64) (fFc2 : Nat → Int32), wz - i < nF → (i ≤ wz) → ∀ (H : Heap) (locs : List Loc), va_K (dC, dI) vwCl [(cD, .int), (cTO, .array .long), (cT, .long), (cT, .long), (cWk, .int), (cFc, .int)] s → va_P (dC, dI) vwCl [(zo2lirrr ch ft fr dr tO hO), (zaI dr cD 36 fD2), (zaR tO cTO 3 (fun i => if i < 3 then some (rt i) else none)), (zaL (rt 0) cT 36 ft02), (zaL (rt 1) cT 36 ft12), (zo10ririliiriririr sc aTp (nI ts) aHl (nI nh) ed mi sn aHs (nI n) aWk (nI wz) aBk (nI bz) aFc), (zaI aWk cWk 6 fWk), (zaI aFc cFc 6 fFc2)] H → va_D A [(zo2lirrr ch ft fr dr tO hO), (zaI dr cD 36 fD2), (zaR tO cTO 3 (fun i => if i < 3 then some (rt i) else none)), (zaL (rt 0) cT 36 ft02), (zaL (rt 1) cT 36 ft12), (zo10ririliiriririr sc aTp (nI ts) aHl (nI nh) ed mi sn aHs (nI n) aWk (nI wz) aBk (nI bz) aFc), (zaI aWk cWk 6 fWk), (zaI aFc cFc 6 fFc2)] → va_S A s.heap H locs → ∀ (ls : Array Slot), lv_has ls 9 [(0, .ref ch), (1, .ref sc), (2, .int x), (3, .long mk), (5, .int (nI i))] → W p l e ({ frames := 5, cells := 0, slots := 0, locals := 117 } : Room) s m args below meth c H locs 0 0 Q (F0 m 9 ls []) := by
    intro nF
    induction nF with
    | zero => intro i fD2 ft02 ft12 fFc2 hm; exact absurd hm (Nat.not_lt_zero _)
    | succ nF ih9 =>
      intro i fD2 ft02 ft12 fFc2 hm hii H locs hK hP hD hS ls hl
      refine lv_iload hx hb dX0_walked_9 (lv_at hl 4 rfl) ?_
      refine lv_aload_n hx hb dX0_walked_11 rfl (lv_at hl 1 rfl) ?_
      refine va_get (D := (dC, dI)) (ci := 10) (v := .int (nI wz)) (C := RX8) (T := TX8) (N := 14) hx hb hts kc_xWalked_0 hown hK hP 5 rfl rfl 10 (by decide) (hts (.fieldLink RX0 31 "MistHeaps$Scene" "walkSize" "I") kc_xWalked_1) (fun _ h9 => h9) rfl dX0_walked_12 ?_
      refine lv_icmp_ge (tgt := 56) hx hb dX0_walked_15 (by decide) (fun c_6 => ?_) (fun c_6 => ?_)
      · skip
        have c_6 : wz ≤ i := (nI_leI (a := wz) (b := i) (by omega) (by omega)).mp c_6
        rcases Nat.mod_two_eq_zero_or_one wz with hp56 | hp56
        · skip
          refine lv_aload_n hx hb dX0_walked_56 rfl (lv_at hl 0 rfl) ?_
          refine va_get (D := (dC, dI)) (ci := 2) (v := .ref tO) (C := RX0) (T := TX0) (N := 5) hx hb hts kc_xWalked_2 hown hK hP 0 rfl rfl 3 (by decide) (hts (.fieldLink RX0 17 "MistHeaps$Chances" "times" "[[J") kc_xWalked_3) (fun _ h9 => h9) rfl dX0_walked_57 ?_
          refine lv_aload_n hx hb dX0_walked_60 rfl (lv_at hl 1 rfl) ?_
          refine va_get (D := (dC, dI)) (ci := 10) (v := .int (nI wz)) (C := RX8) (T := TX8) (N := 14) hx hb hts kc_xWalked_0 hown hK hP 5 rfl rfl 10 (by decide) (hts (.fieldLink RX0 31 "MistHeaps$Scene" "walkSize" "I") kc_xWalked_1) (fun _ h9 => h9) rfl dX0_walked_61 ?_
          refine lv_iconst (v := 1) hx hb dX0_walked_64 (by decide) ?_
          refine lv_iand hx hb dX0_walked_65 ?_
          refine qi_as (y := 0) (and1 (i := wz) (r := 0) (by omega) (by omega)) ?_
          refine va_alda hx hb hK hP 2 1 rfl rfl (vp_in_nI (n := 0) (N := 3) (by omega) (by omega)) dX0_walked_66 ?_
          refine qq_as (v := .ref (rt 0)) (rfl) ?_
          refine lv_astore (lv' := [(5, .ref (rt 0)), (0, .ref ch), (1, .ref sc), (2, .int x), (3, .long mk)]) hx hb dX0_walked_67 hl (by decide) rfl (fun ls hl => ?_)
          refine lv_lconst (v := 0) hx hb dX0_walked_69 (by decide) ?_
          refine lv_lstore (lv' := [(6, .long 0), (5, .ref (rt 0)), (0, .ref ch), (1, .ref sc), (2, .int x), (3, .long mk)]) hx hb dX0_walked_70 hl (by decide) rfl (fun ls hl => ?_)
          refine lv_iconst (v := 0) hx hb dX0_walked_72 (by decide) ?_
          refine lv_istore (lv' := [(8, .int 0), (6, .long 0), (5, .ref (rt 0)), (0, .ref ch), (1, .ref sc), (2, .int x), (3, .long mk)]) hx hb dX0_walked_73 hl (by decide) rfl (fun ls hl => ?_)
          have L75 : ∀ (nF : Nat) (i : Nat) (q : Int64), 36 - i < nF → (i ≤ 36) → ∀ (H : Heap) (locs : List Loc), va_K (dC, dI) vwCl [(cD, .int), (cTO, .array .long), (cT, .long), (cT, .long), (cWk, .int), (cFc, .int)] s → va_P (dC, dI) vwCl [(zo2lirrr ch ft fr dr tO hO), (zaI dr cD 36 fD2), (zaR tO cTO 3 (fun i => if i < 3 then some (rt i) else none)), (zaL (rt 0) cT 36 ft02), (zaL (rt 1) cT 36 ft12), (zo10ririliiriririr sc aTp (nI ts) aHl (nI nh) ed mi sn aHs (nI n) aWk (nI wz) aBk (nI bz) aFc), (zaI aWk cWk 6 fWk), (zaI aFc cFc 6 fFc2)] H → va_D A [(zo2lirrr ch ft fr dr tO hO), (zaI dr cD 36 fD2), (zaR tO cTO 3 (fun i => if i < 3 then some (rt i) else none)), (zaL (rt 0) cT 36 ft02), (zaL (rt 1) cT 36 ft12), (zo10ririliiriririr sc aTp (nI ts) aHl (nI nh) ed mi sn aHs (nI n) aWk (nI wz) aBk (nI bz) aFc), (zaI aWk cWk 6 fWk), (zaI aFc cFc 6 fFc2)] → va_S A s.heap H locs → ∀ (ls : Array Slot), lv_has ls 9 [(0, .ref ch), (1, .ref sc), (2, .int x), (3, .long mk), (5, .ref (rt 0)), (6, .long q), (8, .int (nI i))] → W p l e ({ frames := 5, cells := 0, slots := 0, locals := 117 } : Room) s m args below meth c H locs 0 0 Q (F0 m 75 ls []) := by
            intro nF
            induction nF with
            | zero => intro i q hm; exact absurd hm (Nat.not_lt_zero _)
            | succ nF ih75 =>
              intro i q hm hi H locs hK hP hD hS ls hl
              refine lv_iload hx hb dX0_walked_75 (lv_at hl 6 rfl) ?_
              refine lv_bipush (v := 36) hx hb dX0_walked_77 (by decide) ?_
              refine lv_icmp_ge (tgt := 107) hx hb dX0_walked_79 (by decide) (fun c_7 => ?_) (fun c_7 => ?_)
              · skip
                have c_7 : 36 ≤ i := (nI_leI (a := 36) (b := i) (by omega) (by omega)).mp c_7
                refine lv_lload hx hb dX0_walked_107 (lv_at hl 5 rfl) ?_
                rw [hQ]
                have hP9 := hP.sub (ws' := [(zo2lirrr ch ft fr dr tO hO), (zaI dr cD 36 fD2), (zaR tO cTO 3 (fun i => if i < 3 then some (rt i) else none)), (zaL (rt 0) cT 36 ft02), (zaL (rt 1) cT 36 ft12), (zo10ririliiriririr sc aTp (nI ts) aHl (nI nh) ed mi sn aHs (nI n) aWk (nI wz) aBk (nI bz) aFc), (zaI aWk cWk 6 fWk), (zaI aFc cFc 6 fFc2)]) [0, 1, 2, 3, 4, 5, 6, 7] rfl
                have hD9 := hD.sub (ws' := [(zo2lirrr ch ft fr dr tO hO), (zaI dr cD 36 fD2), (zaR tO cTO 3 (fun i => if i < 3 then some (rt i) else none)), (zaL (rt 0) cT 36 ft02), (zaL (rt 1) cT 36 ft12), (zo10ririliiriririr sc aTp (nI ts) aHl (nI nh) ed mi sn aHs (nI n) aWk (nI wz) aBk (nI bz) aFc), (zaI aWk cWk 6 fWk), (zaI aFc cFc 6 fFc2)]) [0, 1, 2, 3, 4, 5, 6, 7] (by decide) rfl
                have hK9 := hK.sub (tys' := [(cD, .int), (cTO, .array .long), (cT, .long), (cT, .long), (cWk, .int), (cFc, .int)]) [0, 1, 2, 3, 4, 5] rfl
                exact W.lret (v := q) hx hb hr (fun tQ htQ hWQ => ⟨⟨q, (fD2, ft02, ft12, fFc2), rfl, trivial, by rw [htQ]; exact hP9, va_K.moved hWQ.alike hK9, hD9⟩, hS.F htQ⟩) hS.2.2 dX0_walked_109
              · skip
                have c_7 : ¬ 36 ≤ i := fun q => c_7 ((nI_leI (a := 36) (b := i) (by omega) (by omega)).mpr q)
                refine lv_lload_n hx hb dX0_walked_82 rfl (lv_at hl 3 rfl) ?_
                refine lv_iload hx hb dX0_walked_83 (lv_at hl 6 rfl) ?_
                refine vp_callSi (va_runSN (As := [.long mk, .int (nI i)]) (rest := []) ⟨hx, hb, hml, hown, hts⟩ (c_isIn l dC dI mk (nI i)) ⟨va_cnB 2 hts ggX0_walked_X11_isIn rfl rfl rfl (hG.1 (.methodLinkNest RX0 44 yX11_isIn "MistHeaps") (by decide +kernel)) (hts (.initialized RX11) kc_xWalked_4) (by decide +kernel) ⟨Nat.le_of_ble_eq_true rfl, Nat.le_of_ble_eq_true rfl⟩, (hts (.static yX11_isIn) kc_xWalked_5), trivial⟩ ⟨fun a U g mk q => ⟨q.1, trivial⟩, fun U hU hW => ⟨rfl, trivial⟩⟩ rfl rfl hl.1 rfl (lv_room (Nat.le_of_ble_eq_true rfl)) dX0_walked_85 ⟨Nat.le_of_ble_eq_true rfl, Nat.le_of_ble_eq_true rfl⟩).run (fun r_8 hw_9 => ?_)
                rcases hw_9 with rfl | rfl
                · skip
                  refine lv_if_eq (tgt := 101) hx hb dX0_walked_88 (by decide) (fun c_10 => absurd c_10 (by decide)) (fun _ => ?_)
                  refine lv_lload hx hb dX0_walked_91 (lv_at hl 5 rfl) ?_
                  refine lv_aload hx hb dX0_walked_93 (lv_at hl 4 rfl) ?_
                  refine lv_iload hx hb dX0_walked_95 (lv_at hl 6 rfl) ?_
                  refine va_lald hx hb hK hP 3 2 rfl rfl (vp_in_nI (n := i) (N := 36) (by omega) (by omega)) dX0_walked_97 ?_
                  refine ql_as (y := ft02 i) (by rw [nI_clamp (by omega)]) ?_
                  refine lv_ladd hx hb dX0_walked_98 ?_
                  refine lv_lstore (lv' := [(6, .long (q + (ft02 i))), (0, .ref ch), (1, .ref sc), (2, .int x), (3, .long mk), (5, .ref (rt 0)), (8, .int (nI i))]) hx hb dX0_walked_99 hl (by decide) rfl (fun ls hl => ?_)
                  refine lv_iinc (v := nI (i + 1)) (lv' := [(8, .int (nI (i + 1))), (6, .long (q + (ft02 i))), (0, .ref ch), (1, .ref sc), (2, .int x), (3, .long mk), (5, .ref (rt 0))]) hx hb dX0_walked_101 hl (k := 6) rfl (nI_add i 1) (by decide) rfl (fun ls hl => ?_)
                  refine lv_goto (tgt := 75) hx hb dX0_walked_104 (by decide) ?_
                  exact ih75 (i + 1) _ (by omega) (by omega) _ _ (hK.sub [0, 1, 2, 3, 4, 5] rfl) (hP.sub [0, 1, 2, 3, 4, 5, 6, 7] rfl) (hD.sub [0, 1, 2, 3, 4, 5, 6, 7] (by decide) rfl) hS ls (lv_sub hl [2, 3, 4, 5, 6, 1, 0] rfl)
                · skip
                  refine lv_if_eq (tgt := 101) hx hb dX0_walked_88 (by decide) (fun _ => ?_) (fun c_11 => absurd c_11 (by decide))
                  refine lv_iinc (v := nI (i + 1)) (lv' := [(8, .int (nI (i + 1))), (0, .ref ch), (1, .ref sc), (2, .int x), (3, .long mk), (5, .ref (rt 0)), (6, .long q)]) hx hb dX0_walked_101 hl (k := 6) rfl (nI_add i 1) (by decide) rfl (fun ls hl => ?_)
                  refine lv_goto (tgt := 75) hx hb dX0_walked_104 (by decide) ?_
                  exact ih75 (i + 1) _ (by omega) (by omega) _ _ (hK.sub [0, 1, 2, 3, 4, 5] rfl) (hP.sub [0, 1, 2, 3, 4, 5, 6, 7] rfl) (hD.sub [0, 1, 2, 3, 4, 5, 6, 7] (by decide) rfl) hS ls (lv_sub hl [1, 2, 3, 4, 5, 6, 0] rfl)
          exact L75 _ (0) _ (Nat.lt_succ_self _) (by omega) _ _ (hK.sub [0, 1, 2, 3, 4, 5] rfl) (hP.sub [0, 1, 2, 3, 4, 5, 6, 7] rfl) (hD.sub [0, 1, 2, 3, 4, 5, 6, 7] (by decide) rfl) hS ls (lv_sub hl [3, 4, 5, 6, 2, 1, 0] rfl)
        · skip
          refine lv_aload_n hx hb dX0_walked_56 rfl (lv_at hl 0 rfl) ?_
          refine va_get (D := (dC, dI)) (ci := 2) (v := .ref tO) (C := RX0) (T := TX0) (N := 5) hx hb hts kc_xWalked_2 hown hK hP 0 rfl rfl 3 (by decide) (hts (.fieldLink RX0 17 "MistHeaps$Chances" "times" "[[J") kc_xWalked_3) (fun _ h9 => h9) rfl dX0_walked_57 ?_
          refine lv_aload_n hx hb dX0_walked_60 rfl (lv_at hl 1 rfl) ?_
          refine va_get (D := (dC, dI)) (ci := 10) (v := .int (nI wz)) (C := RX8) (T := TX8) (N := 14) hx hb hts kc_xWalked_0 hown hK hP 5 rfl rfl 10 (by decide) (hts (.fieldLink RX0 31 "MistHeaps$Scene" "walkSize" "I") kc_xWalked_1) (fun _ h9 => h9) rfl dX0_walked_61 ?_
          refine lv_iconst (v := 1) hx hb dX0_walked_64 (by decide) ?_
          refine lv_iand hx hb dX0_walked_65 ?_
          refine qi_as (y := 1) (and1 (i := wz) (r := 1) (by omega) (by omega)) ?_
          refine va_alda hx hb hK hP 2 1 rfl rfl (vp_in_nI (n := 1) (N := 3) (by omega) (by omega)) dX0_walked_66 ?_
          refine qq_as (v := .ref (rt 1)) (rfl) ?_
          refine lv_astore (lv' := [(5, .ref (rt 1)), (0, .ref ch), (1, .ref sc), (2, .int x), (3, .long mk)]) hx hb dX0_walked_67 hl (by decide) rfl (fun ls hl => ?_)
          refine lv_lconst (v := 0) hx hb dX0_walked_69 (by decide) ?_
          refine lv_lstore (lv' := [(6, .long 0), (5, .ref (rt 1)), (0, .ref ch), (1, .ref sc), (2, .int x), (3, .long mk)]) hx hb dX0_walked_70 hl (by decide) rfl (fun ls hl => ?_)
          refine lv_iconst (v := 0) hx hb dX0_walked_72 (by decide) ?_
          refine lv_istore (lv' := [(8, .int 0), (6, .long 0), (5, .ref (rt 1)), (0, .ref ch), (1, .ref sc), (2, .int x), (3, .long mk)]) hx hb dX0_walked_73 hl (by decide) rfl (fun ls hl => ?_)
          have L75 : ∀ (nF : Nat) (i : Nat) (q : Int64), 36 - i < nF → (i ≤ 36) → ∀ (H : Heap) (locs : List Loc), va_K (dC, dI) vwCl [(cD, .int), (cTO, .array .long), (cT, .long), (cT, .long), (cWk, .int), (cFc, .int)] s → va_P (dC, dI) vwCl [(zo2lirrr ch ft fr dr tO hO), (zaI dr cD 36 fD2), (zaR tO cTO 3 (fun i => if i < 3 then some (rt i) else none)), (zaL (rt 0) cT 36 ft02), (zaL (rt 1) cT 36 ft12), (zo10ririliiriririr sc aTp (nI ts) aHl (nI nh) ed mi sn aHs (nI n) aWk (nI wz) aBk (nI bz) aFc), (zaI aWk cWk 6 fWk), (zaI aFc cFc 6 fFc2)] H → va_D A [(zo2lirrr ch ft fr dr tO hO), (zaI dr cD 36 fD2), (zaR tO cTO 3 (fun i => if i < 3 then some (rt i) else none)), (zaL (rt 0) cT 36 ft02), (zaL (rt 1) cT 36 ft12), (zo10ririliiriririr sc aTp (nI ts) aHl (nI nh) ed mi sn aHs (nI n) aWk (nI wz) aBk (nI bz) aFc), (zaI aWk cWk 6 fWk), (zaI aFc cFc 6 fFc2)] → va_S A s.heap H locs → ∀ (ls : Array Slot), lv_has ls 9 [(0, .ref ch), (1, .ref sc), (2, .int x), (3, .long mk), (5, .ref (rt 1)), (6, .long q), (8, .int (nI i))] → W p l e ({ frames := 5, cells := 0, slots := 0, locals := 117 } : Room) s m args below meth c H locs 0 0 Q (F0 m 75 ls []) := by
            intro nF
            induction nF with
            | zero => intro i q hm; exact absurd hm (Nat.not_lt_zero _)
            | succ nF ih75 =>
              intro i q hm hi H locs hK hP hD hS ls hl
              refine lv_iload hx hb dX0_walked_75 (lv_at hl 6 rfl) ?_
              refine lv_bipush (v := 36) hx hb dX0_walked_77 (by decide) ?_
              refine lv_icmp_ge (tgt := 107) hx hb dX0_walked_79 (by decide) (fun c_12 => ?_) (fun c_12 => ?_)
              · skip
                have c_12 : 36 ≤ i := (nI_leI (a := 36) (b := i) (by omega) (by omega)).mp c_12
                refine lv_lload hx hb dX0_walked_107 (lv_at hl 5 rfl) ?_
                rw [hQ]
                have hP9 := hP.sub (ws' := [(zo2lirrr ch ft fr dr tO hO), (zaI dr cD 36 fD2), (zaR tO cTO 3 (fun i => if i < 3 then some (rt i) else none)), (zaL (rt 0) cT 36 ft02), (zaL (rt 1) cT 36 ft12), (zo10ririliiriririr sc aTp (nI ts) aHl (nI nh) ed mi sn aHs (nI n) aWk (nI wz) aBk (nI bz) aFc), (zaI aWk cWk 6 fWk), (zaI aFc cFc 6 fFc2)]) [0, 1, 2, 3, 4, 5, 6, 7] rfl
                have hD9 := hD.sub (ws' := [(zo2lirrr ch ft fr dr tO hO), (zaI dr cD 36 fD2), (zaR tO cTO 3 (fun i => if i < 3 then some (rt i) else none)), (zaL (rt 0) cT 36 ft02), (zaL (rt 1) cT 36 ft12), (zo10ririliiriririr sc aTp (nI ts) aHl (nI nh) ed mi sn aHs (nI n) aWk (nI wz) aBk (nI bz) aFc), (zaI aWk cWk 6 fWk), (zaI aFc cFc 6 fFc2)]) [0, 1, 2, 3, 4, 5, 6, 7] (by decide) rfl
                have hK9 := hK.sub (tys' := [(cD, .int), (cTO, .array .long), (cT, .long), (cT, .long), (cWk, .int), (cFc, .int)]) [0, 1, 2, 3, 4, 5] rfl
                exact W.lret (v := q) hx hb hr (fun tQ htQ hWQ => ⟨⟨q, (fD2, ft02, ft12, fFc2), rfl, trivial, by rw [htQ]; exact hP9, va_K.moved hWQ.alike hK9, hD9⟩, hS.F htQ⟩) hS.2.2 dX0_walked_109
              · skip
                have c_12 : ¬ 36 ≤ i := fun q => c_12 ((nI_leI (a := 36) (b := i) (by omega) (by omega)).mpr q)
                refine lv_lload_n hx hb dX0_walked_82 rfl (lv_at hl 3 rfl) ?_
                refine lv_iload hx hb dX0_walked_83 (lv_at hl 6 rfl) ?_
                refine vp_callSi (va_runSN (As := [.long mk, .int (nI i)]) (rest := []) ⟨hx, hb, hml, hown, hts⟩ (c_isIn l dC dI mk (nI i)) ⟨va_cnB 2 hts ggX0_walked_X11_isIn rfl rfl rfl (hG.1 (.methodLinkNest RX0 44 yX11_isIn "MistHeaps") (by decide +kernel)) (hts (.initialized RX11) kc_xWalked_4) (by decide +kernel) ⟨Nat.le_of_ble_eq_true rfl, Nat.le_of_ble_eq_true rfl⟩, (hts (.static yX11_isIn) kc_xWalked_5), trivial⟩ ⟨fun a U g mk q => ⟨q.1, trivial⟩, fun U hU hW => ⟨rfl, trivial⟩⟩ rfl rfl hl.1 rfl (lv_room (Nat.le_of_ble_eq_true rfl)) dX0_walked_85 ⟨Nat.le_of_ble_eq_true rfl, Nat.le_of_ble_eq_true rfl⟩).run (fun r_13 hw_14 => ?_)
                rcases hw_14 with rfl | rfl
                · skip
                  refine lv_if_eq (tgt := 101) hx hb dX0_walked_88 (by decide) (fun c_15 => absurd c_15 (by decide)) (fun _ => ?_)
                  refine lv_lload hx hb dX0_walked_91 (lv_at hl 5 rfl) ?_
                  refine lv_aload hx hb dX0_walked_93 (lv_at hl 4 rfl) ?_
                  refine lv_iload hx hb dX0_walked_95 (lv_at hl 6 rfl) ?_
                  refine va_lald hx hb hK hP 4 3 rfl rfl (vp_in_nI (n := i) (N := 36) (by omega) (by omega)) dX0_walked_97 ?_
                  refine ql_as (y := ft12 i) (by rw [nI_clamp (by omega)]) ?_
                  refine lv_ladd hx hb dX0_walked_98 ?_
                  refine lv_lstore (lv' := [(6, .long (q + (ft12 i))), (0, .ref ch), (1, .ref sc), (2, .int x), (3, .long mk), (5, .ref (rt 1)), (8, .int (nI i))]) hx hb dX0_walked_99 hl (by decide) rfl (fun ls hl => ?_)
                  refine lv_iinc (v := nI (i + 1)) (lv' := [(8, .int (nI (i + 1))), (6, .long (q + (ft12 i))), (0, .ref ch), (1, .ref sc), (2, .int x), (3, .long mk), (5, .ref (rt 1))]) hx hb dX0_walked_101 hl (k := 6) rfl (nI_add i 1) (by decide) rfl (fun ls hl => ?_)
                  refine lv_goto (tgt := 75) hx hb dX0_walked_104 (by decide) ?_
                  exact ih75 (i + 1) _ (by omega) (by omega) _ _ (hK.sub [0, 1, 2, 3, 4, 5] rfl) (hP.sub [0, 1, 2, 3, 4, 5, 6, 7] rfl) (hD.sub [0, 1, 2, 3, 4, 5, 6, 7] (by decide) rfl) hS ls (lv_sub hl [2, 3, 4, 5, 6, 1, 0] rfl)
                · skip
                  refine lv_if_eq (tgt := 101) hx hb dX0_walked_88 (by decide) (fun _ => ?_) (fun c_16 => absurd c_16 (by decide))
                  refine lv_iinc (v := nI (i + 1)) (lv' := [(8, .int (nI (i + 1))), (0, .ref ch), (1, .ref sc), (2, .int x), (3, .long mk), (5, .ref (rt 1)), (6, .long q)]) hx hb dX0_walked_101 hl (k := 6) rfl (nI_add i 1) (by decide) rfl (fun ls hl => ?_)
                  refine lv_goto (tgt := 75) hx hb dX0_walked_104 (by decide) ?_
                  exact ih75 (i + 1) _ (by omega) (by omega) _ _ (hK.sub [0, 1, 2, 3, 4, 5] rfl) (hP.sub [0, 1, 2, 3, 4, 5, 6, 7] rfl) (hD.sub [0, 1, 2, 3, 4, 5, 6, 7] (by decide) rfl) hS ls (lv_sub hl [1, 2, 3, 4, 5, 6, 0] rfl)
          exact L75 _ (0) _ (Nat.lt_succ_self _) (by omega) _ _ (hK.sub [0, 1, 2, 3, 4, 5] rfl) (hP.sub [0, 1, 2, 3, 4, 5, 6, 7] rfl) (hD.sub [0, 1, 2, 3, 4, 5, 6, 7] (by decide) rfl) hS ls (lv_sub hl [3, 4, 5, 6, 2, 1, 0] rfl)
      · skip
        have c_6 : ¬ wz ≤ i := fun q => c_6 ((nI_leI (a := wz) (b := i) (by omega) (by omega)).mpr q)
        rcases Nat.mod_two_eq_zero_or_one i with hp18 | hp18
        · skip
          refine lv_aload_n hx hb dX0_walked_18 rfl (lv_at hl 0 rfl) ?_
          refine lv_aload_n hx hb dX0_walked_19 rfl (lv_at hl 1 rfl) ?_
          refine lv_aload_n hx hb dX0_walked_20 rfl (lv_at hl 0 rfl) ?_
          refine va_get (D := (dC, dI)) (ci := 2) (v := .ref tO) (C := RX0) (T := TX0) (N := 5) hx hb hts kc_xWalked_2 hown hK hP 0 rfl rfl 3 (by decide) (hts (.fieldLink RX0 17 "MistHeaps$Chances" "times" "[[J") kc_xWalked_3) (fun _ h9 => h9) rfl dX0_walked_21 ?_
          refine lv_iload hx hb dX0_walked_24 (lv_at hl 4 rfl) ?_
          refine lv_iconst (v := 1) hx hb dX0_walked_26 (by decide) ?_
          refine lv_iand hx hb dX0_walked_27 ?_
          refine qi_as (y := 0) (and1 (i := i) (r := 0) (by omega) (by omega)) ?_
          refine va_alda hx hb hK hP 2 1 rfl rfl (vp_in_nI (n := 0) (N := 3) (by omega) (by omega)) dX0_walked_28 ?_
          refine qq_as (v := .ref (rt 0)) (rfl) ?_
          refine lv_aload_n hx hb dX0_walked_29 rfl (lv_at hl 1 rfl) ?_
          refine va_get (D := (dC, dI)) (ci := 10) (v := .ref aWk) (C := RX8) (T := TX8) (N := 14) hx hb hts kc_xWalked_0 hown hK hP 5 rfl rfl 9 (by decide) (hts (.fieldLink RX0 37 "MistHeaps$Scene" "walk" "[I") kc_xWalked_6) (fun _ h9 => h9) rfl dX0_walked_30 ?_
          refine lv_iload hx hb dX0_walked_33 (lv_at hl 4 rfl) ?_
          refine va_iald hx hb hK hP 6 4 rfl rfl (vp_in_nI (n := i) (N := 6) (by omega) (by omega)) dX0_walked_35 ?_
          obtain ⟨w9, hw9, e9⟩ := zwk i (by omega)
          refine qi_as (y := nI w9) ((show fWk (nI i : Int32).toNatClampNeg = fWk i from by rw [nI_clamp (by omega)]).trans (e9)) ?_
          refine lv_aload_n hx hb dX0_walked_36 rfl (lv_at hl 0 rfl) ?_
          refine va_get (D := (dC, dI)) (ci := 2) (v := .ref tO) (C := RX0) (T := TX0) (N := 5) hx hb hts kc_xWalked_2 hown hK hP 0 rfl rfl 3 (by decide) (hts (.fieldLink RX0 17 "MistHeaps$Chances" "times" "[[J") kc_xWalked_3) (fun _ h9 => h9) rfl dX0_walked_37 ?_
          refine lv_iload hx hb dX0_walked_40 (lv_at hl 4 rfl) ?_
          refine lv_iconst (v := 1) hx hb dX0_walked_42 (by decide) ?_
          refine lv_iadd hx hb dX0_walked_43 ?_
          refine qi_as (y := nI (i + 1)) (nI_add i 1) ?_
          refine lv_iconst (v := 1) hx hb dX0_walked_44 (by decide) ?_
          refine lv_iand hx hb dX0_walked_45 ?_
          refine qi_as (y := 1) (and1 (i := i + 1) (r := 1) (by omega) (by omega)) ?_
          refine va_alda hx hb hK hP 2 1 rfl rfl (vp_in_nI (n := 1) (N := 3) (by omega) (by omega)) dX0_walked_46 ?_
          refine qq_as (v := .ref (rt 1)) (rfl) ?_
          have hPc := hP.sub (ws' := [(zo2lirrr ch ft fr dr tO hO), (zaI dr cD 36 fD2), (zo10ririliiriririr sc aTp (nI ts) aHl (nI nh) ed mi sn aHs (nI n) aWk (nI wz) aBk (nI bz) aFc), (zaL (rt 0) cT 36 ft02), (zaL (rt 1) cT 36 ft12)]) [0, 1, 5, 3, 4] rfl
          have hDc := hD.sub (ws' := [(zo2lirrr ch ft fr dr tO hO), (zaI dr cD 36 fD2), (zo10ririliiriririr sc aTp (nI ts) aHl (nI nh) ed mi sn aHs (nI n) aWk (nI wz) aBk (nI bz) aFc), (zaL (rt 0) cT 36 ft02), (zaL (rt 1) cT 36 ft12)]) [0, 1, 5, 3, 4] (by decide) rfl
          have hKc := hK.sub (tys' := [(cD, .int), (cT, .long), (cT, .long)]) [0, 2, 3] rfl
          have hFc := va_free (wc := [(zo2lirrr ch ft fr dr tO hO), (zaI dr cD 36 fD2), (zo10ririliiriririr sc aTp (nI ts) aHl (nI nh) ed mi sn aHs (nI n) aWk (nI wz) aBk (nI bz) aFc), (zaL (rt 0) cT 36 ft02), (zaL (rt 1) cT 36 ft12)]) hD hS hA [0, 1, 5, 3, 4] rfl
          refine va_callv (va_runV (As := [.ref sc, .ref (rt 0), .int (nI w9), .ref (rt 1)]) (rest := []) ⟨hx, hb, hml, hown, hts⟩ (c_xSpread l dC dI gd sc ch aTp aHl aHs aWk aBk aFc dr tO hO ts nh n wz bz w9 mi sn fr ed ft cD fD2 (rt 0) (rt 1) cT cT ft02 ft12 H.size (by omega)) (cwV 4 hts gX0_walked_X0_spread rfl rfl rfl hd_yX0_spread ⟨Nat.le_of_ble_eq_true rfl, Nat.le_of_ble_eq_true rfl⟩) ⟨fun a U g mk q => by obtain ⟨q0, q1, qP, qK, qD, qhG⟩ := q; exact ⟨q0, q1, qP, va_K.moved (u := U) (U := U.calling g mk a) (Vm.Alike.refl U.vm) qK, qD, qhG.same rfl rfl⟩, va_recv hK hP (ci := 2) (q := (RX0, TX0, 5)) (q0 := 0) rfl rfl, fun U hU hW => ⟨rfl, by rw [hU], by rw [hU]; exact hPc, va_K.moved hW.alike hKc, hDc.weaken (fun _ _ _ _ => trivial), hG.call hS hU hW (fun q h => hFc q h)⟩⟩ rfl rfl hl.1 rfl (lv_room (Nat.le_of_ble_eq_true rfl)) dX0_walked_47 ⟨Nat.le_of_ble_eq_true rfl, Nat.le_of_ble_eq_true rfl⟩) hS (fun q _ h => hFc q h) hFc (fun u tC H1 locs htC hvm hw_18 hB hz1 hk1 hS => ?_)
          obtain ⟨tt9_19, rfl⟩ : ∃ z, z = u := ⟨_, rfl⟩
          try dsimp only at hw_18 hB
          obtain ⟨hP1, hK1, hD1⟩ := hB
          rw [htC] at hP1
          have hK1 := va_K.moved hvm.symm hK1
          obtain ⟨hP, hD⟩ := va_join (wr := [(zaR tO cTO 3 (fun i => if i < 3 then some (rt i) else none)), (zaI aWk cWk 6 fWk), (zaI aFc cFc 6 fFc2)]) (w1 := [(zo2lirrr ch ft fr dr tO hO), (zaI dr cD 36 fD2), (zo10ririliiriririr sc aTp (nI ts) aHl (nI nh) ed mi sn aHs (nI n) aWk (nI wz) aBk (nI bz) aFc), (zaL (rt 0) cT 36 ft02), (zaL (rt 1) cT 36 tt9_19)]) hP hD [0, 1, 5, 3, 4] [2, 6, 7] rfl rfl (by decide) (by decide) hk1 hFc hP1 hD1
          have hK := (hK.sub (tys' := [(cTO, .array .long), (cWk, .int), (cFc, .int)]) [1, 4, 5] rfl).app hK1
          generalize H1 = H at hP hS ⊢
          have hP : va_P (dC, dI) vwCl [(zaR tO cTO 3 (fun i => if i < 3 then some (rt i) else none)), (zaI aWk cWk 6 fWk), (zaI aFc cFc 6 fFc2), (zo2lirrr ch ft fr dr tO hO), (zaI dr cD 36 fD2), (zo10ririliiriririr sc aTp (nI ts) aHl (nI nh) ed mi sn aHs (nI n) aWk (nI wz) aBk (nI bz) aFc), (zaL (rt 0) cT 36 ft02), (zaL (rt 1) cT 36 tt9_19)] H := hP
          have hD : va_D A [(zaR tO cTO 3 (fun i => if i < 3 then some (rt i) else none)), (zaI aWk cWk 6 fWk), (zaI aFc cFc 6 fFc2), (zo2lirrr ch ft fr dr tO hO), (zaI dr cD 36 fD2), (zo10ririliiriririr sc aTp (nI ts) aHl (nI nh) ed mi sn aHs (nI n) aWk (nI wz) aBk (nI bz) aFc), (zaL (rt 0) cT 36 ft02), (zaL (rt 1) cT 36 tt9_19)] := hD
          have hK : va_K (dC, dI) vwCl [(cTO, .array .long), (cWk, .int), (cFc, .int), (cD, .int), (cT, .long), (cT, .long)] s := hK
          refine lv_iinc (v := nI (i + 1)) (lv' := [(5, .int (nI (i + 1))), (0, .ref ch), (1, .ref sc), (2, .int x), (3, .long mk)]) hx hb dX0_walked_50 hl (k := 4) rfl (nI_add i 1) (by decide) rfl (fun ls hl => ?_)
          refine lv_goto (tgt := 9) hx hb dX0_walked_53 (by decide) ?_
          exact ih9 (i + 1) _ _ _ _ (by omega) (by omega) _ _ (hK.sub [3, 0, 4, 5, 1, 2] rfl) (hP.sub [3, 4, 0, 6, 7, 5, 1, 2] rfl) (hD.sub [3, 4, 0, 6, 7, 5, 1, 2] (by decide) rfl) hS ls (lv_sub hl [1, 2, 3, 4, 0] rfl)
        · skip
          refine lv_aload_n hx hb dX0_walked_18 rfl (lv_at hl 0 rfl) ?_
          refine lv_aload_n hx hb dX0_walked_19 rfl (lv_at hl 1 rfl) ?_
          refine lv_aload_n hx hb dX0_walked_20 rfl (lv_at hl 0 rfl) ?_
          refine va_get (D := (dC, dI)) (ci := 2) (v := .ref tO) (C := RX0) (T := TX0) (N := 5) hx hb hts kc_xWalked_2 hown hK hP 0 rfl rfl 3 (by decide) (hts (.fieldLink RX0 17 "MistHeaps$Chances" "times" "[[J") kc_xWalked_3) (fun _ h9 => h9) rfl dX0_walked_21 ?_
          refine lv_iload hx hb dX0_walked_24 (lv_at hl 4 rfl) ?_
          refine lv_iconst (v := 1) hx hb dX0_walked_26 (by decide) ?_
          refine lv_iand hx hb dX0_walked_27 ?_
          refine qi_as (y := 1) (and1 (i := i) (r := 1) (by omega) (by omega)) ?_
          refine va_alda hx hb hK hP 2 1 rfl rfl (vp_in_nI (n := 1) (N := 3) (by omega) (by omega)) dX0_walked_28 ?_
          refine qq_as (v := .ref (rt 1)) (rfl) ?_
          refine lv_aload_n hx hb dX0_walked_29 rfl (lv_at hl 1 rfl) ?_
          refine va_get (D := (dC, dI)) (ci := 10) (v := .ref aWk) (C := RX8) (T := TX8) (N := 14) hx hb hts kc_xWalked_0 hown hK hP 5 rfl rfl 9 (by decide) (hts (.fieldLink RX0 37 "MistHeaps$Scene" "walk" "[I") kc_xWalked_6) (fun _ h9 => h9) rfl dX0_walked_30 ?_
          refine lv_iload hx hb dX0_walked_33 (lv_at hl 4 rfl) ?_
          refine va_iald hx hb hK hP 6 4 rfl rfl (vp_in_nI (n := i) (N := 6) (by omega) (by omega)) dX0_walked_35 ?_
          obtain ⟨w9, hw9, e9⟩ := zwk i (by omega)
          refine qi_as (y := nI w9) ((show fWk (nI i : Int32).toNatClampNeg = fWk i from by rw [nI_clamp (by omega)]).trans (e9)) ?_
          refine lv_aload_n hx hb dX0_walked_36 rfl (lv_at hl 0 rfl) ?_
          refine va_get (D := (dC, dI)) (ci := 2) (v := .ref tO) (C := RX0) (T := TX0) (N := 5) hx hb hts kc_xWalked_2 hown hK hP 0 rfl rfl 3 (by decide) (hts (.fieldLink RX0 17 "MistHeaps$Chances" "times" "[[J") kc_xWalked_3) (fun _ h9 => h9) rfl dX0_walked_37 ?_
          refine lv_iload hx hb dX0_walked_40 (lv_at hl 4 rfl) ?_
          refine lv_iconst (v := 1) hx hb dX0_walked_42 (by decide) ?_
          refine lv_iadd hx hb dX0_walked_43 ?_
          refine qi_as (y := nI (i + 1)) (nI_add i 1) ?_
          refine lv_iconst (v := 1) hx hb dX0_walked_44 (by decide) ?_
          refine lv_iand hx hb dX0_walked_45 ?_
          refine qi_as (y := 0) (and1 (i := i + 1) (r := 0) (by omega) (by omega)) ?_
          refine va_alda hx hb hK hP 2 1 rfl rfl (vp_in_nI (n := 0) (N := 3) (by omega) (by omega)) dX0_walked_46 ?_
          refine qq_as (v := .ref (rt 0)) (rfl) ?_
          have hPc := hP.sub (ws' := [(zo2lirrr ch ft fr dr tO hO), (zaI dr cD 36 fD2), (zo10ririliiriririr sc aTp (nI ts) aHl (nI nh) ed mi sn aHs (nI n) aWk (nI wz) aBk (nI bz) aFc), (zaL (rt 1) cT 36 ft12), (zaL (rt 0) cT 36 ft02)]) [0, 1, 5, 4, 3] rfl
          have hDc := hD.sub (ws' := [(zo2lirrr ch ft fr dr tO hO), (zaI dr cD 36 fD2), (zo10ririliiriririr sc aTp (nI ts) aHl (nI nh) ed mi sn aHs (nI n) aWk (nI wz) aBk (nI bz) aFc), (zaL (rt 1) cT 36 ft12), (zaL (rt 0) cT 36 ft02)]) [0, 1, 5, 4, 3] (by decide) rfl
          have hKc := hK.sub (tys' := [(cD, .int), (cT, .long), (cT, .long)]) [0, 3, 2] rfl
          have hFc := va_free (wc := [(zo2lirrr ch ft fr dr tO hO), (zaI dr cD 36 fD2), (zo10ririliiriririr sc aTp (nI ts) aHl (nI nh) ed mi sn aHs (nI n) aWk (nI wz) aBk (nI bz) aFc), (zaL (rt 1) cT 36 ft12), (zaL (rt 0) cT 36 ft02)]) hD hS hA [0, 1, 5, 4, 3] rfl
          refine va_callv (va_runV (As := [.ref sc, .ref (rt 1), .int (nI w9), .ref (rt 0)]) (rest := []) ⟨hx, hb, hml, hown, hts⟩ (c_xSpread l dC dI gd sc ch aTp aHl aHs aWk aBk aFc dr tO hO ts nh n wz bz w9 mi sn fr ed ft cD fD2 (rt 1) (rt 0) cT cT ft12 ft02 H.size (by omega)) (cwV 4 hts gX0_walked_X0_spread rfl rfl rfl hd_yX0_spread ⟨Nat.le_of_ble_eq_true rfl, Nat.le_of_ble_eq_true rfl⟩) ⟨fun a U g mk q => by obtain ⟨q0, q1, qP, qK, qD, qhG⟩ := q; exact ⟨q0, q1, qP, va_K.moved (u := U) (U := U.calling g mk a) (Vm.Alike.refl U.vm) qK, qD, qhG.same rfl rfl⟩, va_recv hK hP (ci := 2) (q := (RX0, TX0, 5)) (q0 := 0) rfl rfl, fun U hU hW => ⟨rfl, by rw [hU], by rw [hU]; exact hPc, va_K.moved hW.alike hKc, hDc.weaken (fun _ _ _ _ => trivial), hG.call hS hU hW (fun q h => hFc q h)⟩⟩ rfl rfl hl.1 rfl (lv_room (Nat.le_of_ble_eq_true rfl)) dX0_walked_47 ⟨Nat.le_of_ble_eq_true rfl, Nat.le_of_ble_eq_true rfl⟩) hS (fun q _ h => hFc q h) hFc (fun u tC H1 locs htC hvm hw_21 hB hz1 hk1 hS => ?_)
          obtain ⟨tt9_22, rfl⟩ : ∃ z, z = u := ⟨_, rfl⟩
          try dsimp only at hw_21 hB
          obtain ⟨hP1, hK1, hD1⟩ := hB
          rw [htC] at hP1
          have hK1 := va_K.moved hvm.symm hK1
          obtain ⟨hP, hD⟩ := va_join (wr := [(zaR tO cTO 3 (fun i => if i < 3 then some (rt i) else none)), (zaI aWk cWk 6 fWk), (zaI aFc cFc 6 fFc2)]) (w1 := [(zo2lirrr ch ft fr dr tO hO), (zaI dr cD 36 fD2), (zo10ririliiriririr sc aTp (nI ts) aHl (nI nh) ed mi sn aHs (nI n) aWk (nI wz) aBk (nI bz) aFc), (zaL (rt 1) cT 36 ft12), (zaL (rt 0) cT 36 tt9_22)]) hP hD [0, 1, 5, 4, 3] [2, 6, 7] rfl rfl (by decide) (by decide) hk1 hFc hP1 hD1
          have hK := (hK.sub (tys' := [(cTO, .array .long), (cWk, .int), (cFc, .int)]) [1, 4, 5] rfl).app hK1
          generalize H1 = H at hP hS ⊢
          have hP : va_P (dC, dI) vwCl [(zaR tO cTO 3 (fun i => if i < 3 then some (rt i) else none)), (zaI aWk cWk 6 fWk), (zaI aFc cFc 6 fFc2), (zo2lirrr ch ft fr dr tO hO), (zaI dr cD 36 fD2), (zo10ririliiriririr sc aTp (nI ts) aHl (nI nh) ed mi sn aHs (nI n) aWk (nI wz) aBk (nI bz) aFc), (zaL (rt 1) cT 36 ft12), (zaL (rt 0) cT 36 tt9_22)] H := hP
          have hD : va_D A [(zaR tO cTO 3 (fun i => if i < 3 then some (rt i) else none)), (zaI aWk cWk 6 fWk), (zaI aFc cFc 6 fFc2), (zo2lirrr ch ft fr dr tO hO), (zaI dr cD 36 fD2), (zo10ririliiriririr sc aTp (nI ts) aHl (nI nh) ed mi sn aHs (nI n) aWk (nI wz) aBk (nI bz) aFc), (zaL (rt 1) cT 36 ft12), (zaL (rt 0) cT 36 tt9_22)] := hD
          have hK : va_K (dC, dI) vwCl [(cTO, .array .long), (cWk, .int), (cFc, .int), (cD, .int), (cT, .long), (cT, .long)] s := hK
          refine lv_iinc (v := nI (i + 1)) (lv' := [(5, .int (nI (i + 1))), (0, .ref ch), (1, .ref sc), (2, .int x), (3, .long mk)]) hx hb dX0_walked_50 hl (k := 4) rfl (nI_add i 1) (by decide) rfl (fun ls hl => ?_)
          refine lv_goto (tgt := 9) hx hb dX0_walked_53 (by decide) ?_
          exact ih9 (i + 1) _ _ _ _ (by omega) (by omega) _ _ (hK.sub [3, 0, 5, 4, 1, 2] rfl) (hP.sub [3, 4, 0, 7, 6, 5, 1, 2] rfl) (hD.sub [3, 4, 0, 7, 6, 5, 1, 2] (by decide) rfl) hS ls (lv_sub hl [1, 2, 3, 4, 0] rfl)
  exact L9 _ (0) _ _ _ _ (Nat.lt_succ_self _) (by omega) _ _ (hK.sub [2, 3, 4, 0, 1, 5] rfl) (hP.sub [2, 3, 4, 5, 0, 6, 1, 7] rfl) (hD.sub [2, 3, 4, 5, 0, 6, 1, 7] (by decide) rfl) hS ls (lv_sub hl [1, 2, 3, 4, 0] rfl)
