theorem ggX12_reachOf_X12_looks : GoodIn wsX12_reachOf wsX12_looks := gga_of 1328 rfl rfl rfl
theorem gX12_reachOf_X12_looks : GoodIn wsX12_reachOf (wsV RX12 160 RX12 yX12_looks wsX12_looks) := goodIn_app (ggh_of [1325, 1327, 39, 72] rfl rfl rfl) ggX12_reachOf_X12_looks
theorem ggX12_reachOf_X12_sight : GoodIn wsX12_reachOf wsX12_sight := gga_of 1297 rfl rfl rfl
theorem gX12_reachOf_X12_sight : GoodIn wsX12_reachOf (wsV RX12 140 RX12 yX12_sight wsX12_sight) := goodIn_app (ggh_of [1294, 1296, 34, 72] rfl rfl rfl) ggX12_reachOf_X12_sight
theorem ggX12_isSeen_X12_apart : GoodIn wsX12_isSeen wsX12_apart := gga_of 1343 rfl rfl rfl
theorem gX12_isSeen_X12_apart : GoodIn wsX12_isSeen (va_wsS RX12 170 yX12_apart wsX12_apart) := goodIn_app (ggh_of [1341, 1342, 72] rfl rfl rfl) ggX12_isSeen_X12_apart
theorem ggX12_isSeen_X12_reachOf : GoodIn wsX12_isSeen wsX12_reachOf := gga_of 1324 rfl rfl rfl
theorem gX12_isSeen_X12_reachOf : GoodIn wsX12_isSeen (wsV RX12 167 RX12 yX12_reachOf wsX12_reachOf) := goodIn_app (ggh_of [1321, 1323, 38, 72] rfl rfl rfl) ggX12_isSeen_X12_reachOf
theorem ggX12_seesOf_X12_isSeen : GoodIn wsX12_seesOf wsX12_isSeen := gga_of 1340 rfl rfl rfl
theorem gX12_seesOf_X12_isSeen : GoodIn wsX12_seesOf (wsV RX12 174 RX12 yX12_isSeen wsX12_isSeen) := goodIn_app (ggh_of [1337, 1339, 41, 72] rfl rfl rfl) ggX12_seesOf_X12_isSeen
theorem ggX12_sees_X12_isCell : GoodIn wsX12_sees wsX12_isCell := gga_of 1304 rfl rfl rfl
theorem gX12_sees_X12_isCell : GoodIn wsX12_sees (va_wsS RX12 149 yX12_isCell wsX12_isCell) := goodIn_app (ggh_of [1302, 1303, 72] rfl rfl rfl) ggX12_sees_X12_isCell
theorem ggX12_sees_X12_seesOf : GoodIn wsX12_sees wsX12_seesOf := gga_of 1336 rfl rfl rfl
theorem gX12_sees_X12_seesOf : GoodIn wsX12_sees (wsV RX12 178 RX12 yX12_seesOf wsX12_seesOf) := goodIn_app (ggh_of [1333, 1335, 40, 72] rfl rfl rfl) ggX12_sees_X12_seesOf
theorem ggX12_where_X12_seesOf : GoodIn wsX12_where wsX12_seesOf := gga_of 1336 rfl rfl rfl
theorem gX12_where_X12_seesOf : GoodIn wsX12_where (wsV RX12 178 RX12 yX12_seesOf wsX12_seesOf) := goodIn_app (ggh_of [1333, 1335, 40, 72] rfl rfl rfl) ggX12_where_X12_seesOf
noncomputable def dk06ref2_cX12_looks_0 : List (Nat × Instr × Nat) := [(0, .aload_n 0, 1), (1, .getfield 18, 3), (4, .iconst 0, 1), (5, .iload_n 1, 1), (6, .iastore, 1), (7, .aload_n 0, 1), (8, .getfield 18, 3), (11, .iconst 1, 1), (12, .iload_n 2, 1), (13, .iastore, 1), (14, .aload_n 0, 1), (15, .getfield 18, 3), (18, .iconst 2, 1), (19, .iload_n 3, 1), (20, .bipush 6, 2), (22, .idiv, 1), (23, .iastore, 1), (24, .aload_n 0, 1), (25, .getfield 18, 3), (28, .iconst 3, 1), (29, .iload_n 3, 1), (30, .bipush 6, 2), (32, .irem, 1), (33, .iastore, 1), (34, .aload_n 0, 1), (35, .getfield 18, 3), (38, .iconst 4, 1), (39, .aload_n 0, 1), (40, .getfield 9, 3), (43, .bipush 6, 2), (45, .iaload, 1), (46, .iastore, 1), (47, .aload_n 0, 1), (48, .getfield 18, 3), (51, .iconst 5, 1), (52, .aload_n 0, 1), (53, .getfield 9, 3), (56, .bipush 7, 2), (58, .iaload, 1), (59, .iastore, 1)]
set_option maxRecDepth 100000 in
theorem dk06ref2_cX12_looks_0_a : dkA cX12_looks dk06ref2_cX12_looks_0 = true := by decide +kernel
theorem dX12_looks_0 : decode cX12_looks 0 = .ok (.aload_n 0, 1) := dkAt dk06ref2_cX12_looks_0_a 0 rfl
theorem dX12_looks_1 : decode cX12_looks 1 = .ok (.getfield 18, 3) := dkAt dk06ref2_cX12_looks_0_a 1 rfl
theorem dX12_looks_4 : decode cX12_looks 4 = .ok (.iconst 0, 1) := dkAt dk06ref2_cX12_looks_0_a 2 rfl
theorem dX12_looks_5 : decode cX12_looks 5 = .ok (.iload_n 1, 1) := dkAt dk06ref2_cX12_looks_0_a 3 rfl
theorem dX12_looks_6 : decode cX12_looks 6 = .ok (.iastore, 1) := dkAt dk06ref2_cX12_looks_0_a 4 rfl
theorem dX12_looks_7 : decode cX12_looks 7 = .ok (.aload_n 0, 1) := dkAt dk06ref2_cX12_looks_0_a 5 rfl
theorem dX12_looks_8 : decode cX12_looks 8 = .ok (.getfield 18, 3) := dkAt dk06ref2_cX12_looks_0_a 6 rfl
theorem dX12_looks_11 : decode cX12_looks 11 = .ok (.iconst 1, 1) := dkAt dk06ref2_cX12_looks_0_a 7 rfl
theorem dX12_looks_12 : decode cX12_looks 12 = .ok (.iload_n 2, 1) := dkAt dk06ref2_cX12_looks_0_a 8 rfl
theorem dX12_looks_13 : decode cX12_looks 13 = .ok (.iastore, 1) := dkAt dk06ref2_cX12_looks_0_a 9 rfl
theorem dX12_looks_14 : decode cX12_looks 14 = .ok (.aload_n 0, 1) := dkAt dk06ref2_cX12_looks_0_a 10 rfl
theorem dX12_looks_15 : decode cX12_looks 15 = .ok (.getfield 18, 3) := dkAt dk06ref2_cX12_looks_0_a 11 rfl
theorem dX12_looks_18 : decode cX12_looks 18 = .ok (.iconst 2, 1) := dkAt dk06ref2_cX12_looks_0_a 12 rfl
theorem dX12_looks_19 : decode cX12_looks 19 = .ok (.iload_n 3, 1) := dkAt dk06ref2_cX12_looks_0_a 13 rfl
theorem dX12_looks_20 : decode cX12_looks 20 = .ok (.bipush 6, 2) := dkAt dk06ref2_cX12_looks_0_a 14 rfl
theorem dX12_looks_22 : decode cX12_looks 22 = .ok (.idiv, 1) := dkAt dk06ref2_cX12_looks_0_a 15 rfl
theorem dX12_looks_23 : decode cX12_looks 23 = .ok (.iastore, 1) := dkAt dk06ref2_cX12_looks_0_a 16 rfl
theorem dX12_looks_24 : decode cX12_looks 24 = .ok (.aload_n 0, 1) := dkAt dk06ref2_cX12_looks_0_a 17 rfl
theorem dX12_looks_25 : decode cX12_looks 25 = .ok (.getfield 18, 3) := dkAt dk06ref2_cX12_looks_0_a 18 rfl
theorem dX12_looks_28 : decode cX12_looks 28 = .ok (.iconst 3, 1) := dkAt dk06ref2_cX12_looks_0_a 19 rfl
theorem dX12_looks_29 : decode cX12_looks 29 = .ok (.iload_n 3, 1) := dkAt dk06ref2_cX12_looks_0_a 20 rfl
theorem dX12_looks_30 : decode cX12_looks 30 = .ok (.bipush 6, 2) := dkAt dk06ref2_cX12_looks_0_a 21 rfl
theorem dX12_looks_32 : decode cX12_looks 32 = .ok (.irem, 1) := dkAt dk06ref2_cX12_looks_0_a 22 rfl
theorem dX12_looks_33 : decode cX12_looks 33 = .ok (.iastore, 1) := dkAt dk06ref2_cX12_looks_0_a 23 rfl
theorem dX12_looks_34 : decode cX12_looks 34 = .ok (.aload_n 0, 1) := dkAt dk06ref2_cX12_looks_0_a 24 rfl
theorem dX12_looks_35 : decode cX12_looks 35 = .ok (.getfield 18, 3) := dkAt dk06ref2_cX12_looks_0_a 25 rfl
theorem dX12_looks_38 : decode cX12_looks 38 = .ok (.iconst 4, 1) := dkAt dk06ref2_cX12_looks_0_a 26 rfl
theorem dX12_looks_39 : decode cX12_looks 39 = .ok (.aload_n 0, 1) := dkAt dk06ref2_cX12_looks_0_a 27 rfl
theorem dX12_looks_40 : decode cX12_looks 40 = .ok (.getfield 9, 3) := dkAt dk06ref2_cX12_looks_0_a 28 rfl
theorem dX12_looks_43 : decode cX12_looks 43 = .ok (.bipush 6, 2) := dkAt dk06ref2_cX12_looks_0_a 29 rfl
theorem dX12_looks_45 : decode cX12_looks 45 = .ok (.iaload, 1) := dkAt dk06ref2_cX12_looks_0_a 30 rfl
theorem dX12_looks_46 : decode cX12_looks 46 = .ok (.iastore, 1) := dkAt dk06ref2_cX12_looks_0_a 31 rfl
theorem dX12_looks_47 : decode cX12_looks 47 = .ok (.aload_n 0, 1) := dkAt dk06ref2_cX12_looks_0_a 32 rfl
theorem dX12_looks_48 : decode cX12_looks 48 = .ok (.getfield 18, 3) := dkAt dk06ref2_cX12_looks_0_a 33 rfl
theorem dX12_looks_51 : decode cX12_looks 51 = .ok (.iconst 5, 1) := dkAt dk06ref2_cX12_looks_0_a 34 rfl
theorem dX12_looks_52 : decode cX12_looks 52 = .ok (.aload_n 0, 1) := dkAt dk06ref2_cX12_looks_0_a 35 rfl
theorem dX12_looks_53 : decode cX12_looks 53 = .ok (.getfield 9, 3) := dkAt dk06ref2_cX12_looks_0_a 36 rfl
theorem dX12_looks_56 : decode cX12_looks 56 = .ok (.bipush 7, 2) := dkAt dk06ref2_cX12_looks_0_a 37 rfl
theorem dX12_looks_58 : decode cX12_looks 58 = .ok (.iaload, 1) := dkAt dk06ref2_cX12_looks_0_a 38 rfl
theorem dX12_looks_59 : decode cX12_looks 59 = .ok (.iastore, 1) := dkAt dk06ref2_cX12_looks_0_a 39 rfl
noncomputable def dk06ref2_cX12_looks_40 : List (Nat × Instr × Nat) := [(60, .aload_n 0, 1), (61, .iconst 0, 1), (62, .putfield 143, 3), (65, .aload_n 0, 1), (66, .iconst 0, 1), (67, .putfield 146, 3), (70, .aload_n 0, 1), (71, .getfield 9, 3), (74, .iconst 5, 1), (75, .iaload, 1), (76, .iconst (-1), 1), (77, .if_icmp .ne 7, 3), (80, .iconst 0, 1), (81, .goto 18, 3), (99, .istore 4, 2), (101, .sipush 201, 3), (104, .sipush 140, 3), (107, .aload_n 0, 1), (108, .getfield 9, 3), (111, .iconst 5, 1), (112, .iaload, 1), (113, .imul, 1), (114, .iadd, 1), (115, .istore 5, 2), (117, .iconst 0, 1), (118, .istore 6, 2), (120, .iload 5, 2), (122, .istore 7, 2), (124, .iload 7, 2), (126, .iload 5, 2), (128, .iload 4, 2), (130, .iadd, 1), (131, .if_icmp .ge 329, 3), (460, .return_, 1), (84, .aload_n 0, 1), (85, .getfield 9, 3), (88, .sipush 196, 3), (91, .aload_n 0, 1), (92, .getfield 9, 3), (95, .iconst 5, 1)]
set_option maxRecDepth 100000 in
theorem dk06ref2_cX12_looks_40_a : dkA cX12_looks dk06ref2_cX12_looks_40 = true := by decide +kernel
theorem dX12_looks_60 : decode cX12_looks 60 = .ok (.aload_n 0, 1) := dkAt dk06ref2_cX12_looks_40_a 0 rfl
theorem dX12_looks_61 : decode cX12_looks 61 = .ok (.iconst 0, 1) := dkAt dk06ref2_cX12_looks_40_a 1 rfl
theorem dX12_looks_62 : decode cX12_looks 62 = .ok (.putfield 143, 3) := dkAt dk06ref2_cX12_looks_40_a 2 rfl
theorem dX12_looks_65 : decode cX12_looks 65 = .ok (.aload_n 0, 1) := dkAt dk06ref2_cX12_looks_40_a 3 rfl
theorem dX12_looks_66 : decode cX12_looks 66 = .ok (.iconst 0, 1) := dkAt dk06ref2_cX12_looks_40_a 4 rfl
theorem dX12_looks_67 : decode cX12_looks 67 = .ok (.putfield 146, 3) := dkAt dk06ref2_cX12_looks_40_a 5 rfl
theorem dX12_looks_70 : decode cX12_looks 70 = .ok (.aload_n 0, 1) := dkAt dk06ref2_cX12_looks_40_a 6 rfl
theorem dX12_looks_71 : decode cX12_looks 71 = .ok (.getfield 9, 3) := dkAt dk06ref2_cX12_looks_40_a 7 rfl
theorem dX12_looks_74 : decode cX12_looks 74 = .ok (.iconst 5, 1) := dkAt dk06ref2_cX12_looks_40_a 8 rfl
theorem dX12_looks_75 : decode cX12_looks 75 = .ok (.iaload, 1) := dkAt dk06ref2_cX12_looks_40_a 9 rfl
theorem dX12_looks_76 : decode cX12_looks 76 = .ok (.iconst (-1), 1) := dkAt dk06ref2_cX12_looks_40_a 10 rfl
theorem dX12_looks_77 : decode cX12_looks 77 = .ok (.if_icmp .ne 7, 3) := dkAt dk06ref2_cX12_looks_40_a 11 rfl
theorem dX12_looks_80 : decode cX12_looks 80 = .ok (.iconst 0, 1) := dkAt dk06ref2_cX12_looks_40_a 12 rfl
theorem dX12_looks_81 : decode cX12_looks 81 = .ok (.goto 18, 3) := dkAt dk06ref2_cX12_looks_40_a 13 rfl
theorem dX12_looks_99 : decode cX12_looks 99 = .ok (.istore 4, 2) := dkAt dk06ref2_cX12_looks_40_a 14 rfl
theorem dX12_looks_101 : decode cX12_looks 101 = .ok (.sipush 201, 3) := dkAt dk06ref2_cX12_looks_40_a 15 rfl
theorem dX12_looks_104 : decode cX12_looks 104 = .ok (.sipush 140, 3) := dkAt dk06ref2_cX12_looks_40_a 16 rfl
theorem dX12_looks_107 : decode cX12_looks 107 = .ok (.aload_n 0, 1) := dkAt dk06ref2_cX12_looks_40_a 17 rfl
theorem dX12_looks_108 : decode cX12_looks 108 = .ok (.getfield 9, 3) := dkAt dk06ref2_cX12_looks_40_a 18 rfl
theorem dX12_looks_111 : decode cX12_looks 111 = .ok (.iconst 5, 1) := dkAt dk06ref2_cX12_looks_40_a 19 rfl
theorem dX12_looks_112 : decode cX12_looks 112 = .ok (.iaload, 1) := dkAt dk06ref2_cX12_looks_40_a 20 rfl
theorem dX12_looks_113 : decode cX12_looks 113 = .ok (.imul, 1) := dkAt dk06ref2_cX12_looks_40_a 21 rfl
theorem dX12_looks_114 : decode cX12_looks 114 = .ok (.iadd, 1) := dkAt dk06ref2_cX12_looks_40_a 22 rfl
theorem dX12_looks_115 : decode cX12_looks 115 = .ok (.istore 5, 2) := dkAt dk06ref2_cX12_looks_40_a 23 rfl
theorem dX12_looks_117 : decode cX12_looks 117 = .ok (.iconst 0, 1) := dkAt dk06ref2_cX12_looks_40_a 24 rfl
theorem dX12_looks_118 : decode cX12_looks 118 = .ok (.istore 6, 2) := dkAt dk06ref2_cX12_looks_40_a 25 rfl
theorem dX12_looks_120 : decode cX12_looks 120 = .ok (.iload 5, 2) := dkAt dk06ref2_cX12_looks_40_a 26 rfl
theorem dX12_looks_122 : decode cX12_looks 122 = .ok (.istore 7, 2) := dkAt dk06ref2_cX12_looks_40_a 27 rfl
theorem dX12_looks_124 : decode cX12_looks 124 = .ok (.iload 7, 2) := dkAt dk06ref2_cX12_looks_40_a 28 rfl
theorem dX12_looks_126 : decode cX12_looks 126 = .ok (.iload 5, 2) := dkAt dk06ref2_cX12_looks_40_a 29 rfl
theorem dX12_looks_128 : decode cX12_looks 128 = .ok (.iload 4, 2) := dkAt dk06ref2_cX12_looks_40_a 30 rfl
theorem dX12_looks_130 : decode cX12_looks 130 = .ok (.iadd, 1) := dkAt dk06ref2_cX12_looks_40_a 31 rfl
theorem dX12_looks_131 : decode cX12_looks 131 = .ok (.if_icmp .ge 329, 3) := dkAt dk06ref2_cX12_looks_40_a 32 rfl
theorem dX12_looks_460 : decode cX12_looks 460 = .ok (.return_, 1) := dkAt dk06ref2_cX12_looks_40_a 33 rfl
theorem dX12_looks_84 : decode cX12_looks 84 = .ok (.aload_n 0, 1) := dkAt dk06ref2_cX12_looks_40_a 34 rfl
theorem dX12_looks_85 : decode cX12_looks 85 = .ok (.getfield 9, 3) := dkAt dk06ref2_cX12_looks_40_a 35 rfl
theorem dX12_looks_88 : decode cX12_looks 88 = .ok (.sipush 196, 3) := dkAt dk06ref2_cX12_looks_40_a 36 rfl
theorem dX12_looks_91 : decode cX12_looks 91 = .ok (.aload_n 0, 1) := dkAt dk06ref2_cX12_looks_40_a 37 rfl
theorem dX12_looks_92 : decode cX12_looks 92 = .ok (.getfield 9, 3) := dkAt dk06ref2_cX12_looks_40_a 38 rfl
theorem dX12_looks_95 : decode cX12_looks 95 = .ok (.iconst 5, 1) := dkAt dk06ref2_cX12_looks_40_a 39 rfl
noncomputable def dk06ref2_cX12_looks_80 : List (Nat × Instr × Nat) := [(96, .iaload, 1), (97, .iadd, 1), (98, .iaload, 1), (134, .aload_n 0, 1), (135, .getfield 9, 3), (138, .iload 7, 2), (140, .iaload, 1), (141, .istore 8, 2), (143, .iload 8, 2), (145, .ifCond .lt 97, 3), (148, .aload_n 0, 1), (149, .getfield 18, 3), (152, .iload 8, 2), (154, .bipush 8, 2), (156, .irem, 1), (157, .iaload, 1), (158, .istore 9, 2), (160, .iload 8, 2), (162, .bipush 8, 2), (164, .idiv, 1), (165, .iconst 4, 1), (166, .irem, 1), (167, .istore 10, 2), (169, .iload 8, 2), (171, .bipush 32, 2), (173, .idiv, 1), (174, .istore 11, 2), (176, .aload_n 0, 1), (177, .getfield 21, 3), (180, .iload 6, 2), (182, .iload 10, 2), (235, .bastore, 1), (236, .iinc 6 1, 3), (239, .goto 215, 3), (454, .iinc 7 1, 3), (457, .goto (-333), 3), (184, .ifCond .ne 18, 3), (202, .iload 10, 2), (204, .iconst 1, 1), (205, .if_icmp .ne 18, 3)]
set_option maxRecDepth 100000 in
theorem dk06ref2_cX12_looks_80_a : dkA cX12_looks dk06ref2_cX12_looks_80 = true := by decide +kernel
theorem dX12_looks_96 : decode cX12_looks 96 = .ok (.iaload, 1) := dkAt dk06ref2_cX12_looks_80_a 0 rfl
theorem dX12_looks_97 : decode cX12_looks 97 = .ok (.iadd, 1) := dkAt dk06ref2_cX12_looks_80_a 1 rfl
theorem dX12_looks_98 : decode cX12_looks 98 = .ok (.iaload, 1) := dkAt dk06ref2_cX12_looks_80_a 2 rfl
theorem dX12_looks_134 : decode cX12_looks 134 = .ok (.aload_n 0, 1) := dkAt dk06ref2_cX12_looks_80_a 3 rfl
theorem dX12_looks_135 : decode cX12_looks 135 = .ok (.getfield 9, 3) := dkAt dk06ref2_cX12_looks_80_a 4 rfl
theorem dX12_looks_138 : decode cX12_looks 138 = .ok (.iload 7, 2) := dkAt dk06ref2_cX12_looks_80_a 5 rfl
theorem dX12_looks_140 : decode cX12_looks 140 = .ok (.iaload, 1) := dkAt dk06ref2_cX12_looks_80_a 6 rfl
theorem dX12_looks_141 : decode cX12_looks 141 = .ok (.istore 8, 2) := dkAt dk06ref2_cX12_looks_80_a 7 rfl
theorem dX12_looks_143 : decode cX12_looks 143 = .ok (.iload 8, 2) := dkAt dk06ref2_cX12_looks_80_a 8 rfl
theorem dX12_looks_145 : decode cX12_looks 145 = .ok (.ifCond .lt 97, 3) := dkAt dk06ref2_cX12_looks_80_a 9 rfl
theorem dX12_looks_148 : decode cX12_looks 148 = .ok (.aload_n 0, 1) := dkAt dk06ref2_cX12_looks_80_a 10 rfl
theorem dX12_looks_149 : decode cX12_looks 149 = .ok (.getfield 18, 3) := dkAt dk06ref2_cX12_looks_80_a 11 rfl
theorem dX12_looks_152 : decode cX12_looks 152 = .ok (.iload 8, 2) := dkAt dk06ref2_cX12_looks_80_a 12 rfl
theorem dX12_looks_154 : decode cX12_looks 154 = .ok (.bipush 8, 2) := dkAt dk06ref2_cX12_looks_80_a 13 rfl
theorem dX12_looks_156 : decode cX12_looks 156 = .ok (.irem, 1) := dkAt dk06ref2_cX12_looks_80_a 14 rfl
theorem dX12_looks_157 : decode cX12_looks 157 = .ok (.iaload, 1) := dkAt dk06ref2_cX12_looks_80_a 15 rfl
theorem dX12_looks_158 : decode cX12_looks 158 = .ok (.istore 9, 2) := dkAt dk06ref2_cX12_looks_80_a 16 rfl
theorem dX12_looks_160 : decode cX12_looks 160 = .ok (.iload 8, 2) := dkAt dk06ref2_cX12_looks_80_a 17 rfl
theorem dX12_looks_162 : decode cX12_looks 162 = .ok (.bipush 8, 2) := dkAt dk06ref2_cX12_looks_80_a 18 rfl
theorem dX12_looks_164 : decode cX12_looks 164 = .ok (.idiv, 1) := dkAt dk06ref2_cX12_looks_80_a 19 rfl
theorem dX12_looks_165 : decode cX12_looks 165 = .ok (.iconst 4, 1) := dkAt dk06ref2_cX12_looks_80_a 20 rfl
theorem dX12_looks_166 : decode cX12_looks 166 = .ok (.irem, 1) := dkAt dk06ref2_cX12_looks_80_a 21 rfl
theorem dX12_looks_167 : decode cX12_looks 167 = .ok (.istore 10, 2) := dkAt dk06ref2_cX12_looks_80_a 22 rfl
theorem dX12_looks_169 : decode cX12_looks 169 = .ok (.iload 8, 2) := dkAt dk06ref2_cX12_looks_80_a 23 rfl
theorem dX12_looks_171 : decode cX12_looks 171 = .ok (.bipush 32, 2) := dkAt dk06ref2_cX12_looks_80_a 24 rfl
theorem dX12_looks_173 : decode cX12_looks 173 = .ok (.idiv, 1) := dkAt dk06ref2_cX12_looks_80_a 25 rfl
theorem dX12_looks_174 : decode cX12_looks 174 = .ok (.istore 11, 2) := dkAt dk06ref2_cX12_looks_80_a 26 rfl
theorem dX12_looks_176 : decode cX12_looks 176 = .ok (.aload_n 0, 1) := dkAt dk06ref2_cX12_looks_80_a 27 rfl
theorem dX12_looks_177 : decode cX12_looks 177 = .ok (.getfield 21, 3) := dkAt dk06ref2_cX12_looks_80_a 28 rfl
theorem dX12_looks_180 : decode cX12_looks 180 = .ok (.iload 6, 2) := dkAt dk06ref2_cX12_looks_80_a 29 rfl
theorem dX12_looks_182 : decode cX12_looks 182 = .ok (.iload 10, 2) := dkAt dk06ref2_cX12_looks_80_a 30 rfl
theorem dX12_looks_235 : decode cX12_looks 235 = .ok (.bastore, 1) := dkAt dk06ref2_cX12_looks_80_a 31 rfl
theorem dX12_looks_236 : decode cX12_looks 236 = .ok (.iinc 6 1, 3) := dkAt dk06ref2_cX12_looks_80_a 32 rfl
theorem dX12_looks_239 : decode cX12_looks 239 = .ok (.goto 215, 3) := dkAt dk06ref2_cX12_looks_80_a 33 rfl
theorem dX12_looks_454 : decode cX12_looks 454 = .ok (.iinc 7 1, 3) := dkAt dk06ref2_cX12_looks_80_a 34 rfl
theorem dX12_looks_457 : decode cX12_looks 457 = .ok (.goto (-333), 3) := dkAt dk06ref2_cX12_looks_80_a 35 rfl
theorem dX12_looks_184 : decode cX12_looks 184 = .ok (.ifCond .ne 18, 3) := dkAt dk06ref2_cX12_looks_80_a 36 rfl
theorem dX12_looks_202 : decode cX12_looks 202 = .ok (.iload 10, 2) := dkAt dk06ref2_cX12_looks_80_a 37 rfl
theorem dX12_looks_204 : decode cX12_looks 204 = .ok (.iconst 1, 1) := dkAt dk06ref2_cX12_looks_80_a 38 rfl
theorem dX12_looks_205 : decode cX12_looks 205 = .ok (.if_icmp .ne 18, 3) := dkAt dk06ref2_cX12_looks_80_a 39 rfl
noncomputable def dk06ref2_cX12_looks_120 : List (Nat × Instr × Nat) := [(223, .iload 9, 2), (225, .iload 11, 2), (227, .if_icmp .le 7, 3), (234, .iconst 0, 1), (230, .iconst 1, 1), (231, .goto 4, 3), (208, .iload 9, 2), (210, .iload 11, 2), (212, .if_icmp .ne 7, 3), (219, .iconst 0, 1), (220, .goto 15, 3), (215, .iconst 1, 1), (216, .goto 19, 3), (187, .iload 9, 2), (189, .iload 11, 2), (191, .if_icmp .ge 7, 3), (198, .iconst 0, 1), (199, .goto 36, 3), (194, .iconst 1, 1), (195, .goto 40, 3), (242, .iload 8, 2), (244, .iconst (-1), 1), (245, .if_icmp .ne 32, 3), (248, .aload_n 0, 1), (249, .getfield 21, 3), (252, .iload 6, 2), (254, .iconst 1, 1), (255, .isub, 1), (256, .aload_n 0, 1), (257, .getfield 21, 3), (260, .iload 6, 2), (262, .iconst 1, 1), (263, .isub, 1), (264, .baload, 1), (273, .bastore, 1), (274, .goto 180, 3), (265, .ifCond .ne 7, 3), (272, .iconst 0, 1), (268, .iconst 1, 1), (269, .goto 4, 3)]
set_option maxRecDepth 100000 in
theorem dk06ref2_cX12_looks_120_a : dkA cX12_looks dk06ref2_cX12_looks_120 = true := by decide +kernel
theorem dX12_looks_223 : decode cX12_looks 223 = .ok (.iload 9, 2) := dkAt dk06ref2_cX12_looks_120_a 0 rfl
theorem dX12_looks_225 : decode cX12_looks 225 = .ok (.iload 11, 2) := dkAt dk06ref2_cX12_looks_120_a 1 rfl
theorem dX12_looks_227 : decode cX12_looks 227 = .ok (.if_icmp .le 7, 3) := dkAt dk06ref2_cX12_looks_120_a 2 rfl
theorem dX12_looks_234 : decode cX12_looks 234 = .ok (.iconst 0, 1) := dkAt dk06ref2_cX12_looks_120_a 3 rfl
theorem dX12_looks_230 : decode cX12_looks 230 = .ok (.iconst 1, 1) := dkAt dk06ref2_cX12_looks_120_a 4 rfl
theorem dX12_looks_231 : decode cX12_looks 231 = .ok (.goto 4, 3) := dkAt dk06ref2_cX12_looks_120_a 5 rfl
theorem dX12_looks_208 : decode cX12_looks 208 = .ok (.iload 9, 2) := dkAt dk06ref2_cX12_looks_120_a 6 rfl
theorem dX12_looks_210 : decode cX12_looks 210 = .ok (.iload 11, 2) := dkAt dk06ref2_cX12_looks_120_a 7 rfl
theorem dX12_looks_212 : decode cX12_looks 212 = .ok (.if_icmp .ne 7, 3) := dkAt dk06ref2_cX12_looks_120_a 8 rfl
theorem dX12_looks_219 : decode cX12_looks 219 = .ok (.iconst 0, 1) := dkAt dk06ref2_cX12_looks_120_a 9 rfl
theorem dX12_looks_220 : decode cX12_looks 220 = .ok (.goto 15, 3) := dkAt dk06ref2_cX12_looks_120_a 10 rfl
theorem dX12_looks_215 : decode cX12_looks 215 = .ok (.iconst 1, 1) := dkAt dk06ref2_cX12_looks_120_a 11 rfl
theorem dX12_looks_216 : decode cX12_looks 216 = .ok (.goto 19, 3) := dkAt dk06ref2_cX12_looks_120_a 12 rfl
theorem dX12_looks_187 : decode cX12_looks 187 = .ok (.iload 9, 2) := dkAt dk06ref2_cX12_looks_120_a 13 rfl
theorem dX12_looks_189 : decode cX12_looks 189 = .ok (.iload 11, 2) := dkAt dk06ref2_cX12_looks_120_a 14 rfl
theorem dX12_looks_191 : decode cX12_looks 191 = .ok (.if_icmp .ge 7, 3) := dkAt dk06ref2_cX12_looks_120_a 15 rfl
theorem dX12_looks_198 : decode cX12_looks 198 = .ok (.iconst 0, 1) := dkAt dk06ref2_cX12_looks_120_a 16 rfl
theorem dX12_looks_199 : decode cX12_looks 199 = .ok (.goto 36, 3) := dkAt dk06ref2_cX12_looks_120_a 17 rfl
theorem dX12_looks_194 : decode cX12_looks 194 = .ok (.iconst 1, 1) := dkAt dk06ref2_cX12_looks_120_a 18 rfl
theorem dX12_looks_195 : decode cX12_looks 195 = .ok (.goto 40, 3) := dkAt dk06ref2_cX12_looks_120_a 19 rfl
theorem dX12_looks_242 : decode cX12_looks 242 = .ok (.iload 8, 2) := dkAt dk06ref2_cX12_looks_120_a 20 rfl
theorem dX12_looks_244 : decode cX12_looks 244 = .ok (.iconst (-1), 1) := dkAt dk06ref2_cX12_looks_120_a 21 rfl
theorem dX12_looks_245 : decode cX12_looks 245 = .ok (.if_icmp .ne 32, 3) := dkAt dk06ref2_cX12_looks_120_a 22 rfl
theorem dX12_looks_248 : decode cX12_looks 248 = .ok (.aload_n 0, 1) := dkAt dk06ref2_cX12_looks_120_a 23 rfl
theorem dX12_looks_249 : decode cX12_looks 249 = .ok (.getfield 21, 3) := dkAt dk06ref2_cX12_looks_120_a 24 rfl
theorem dX12_looks_252 : decode cX12_looks 252 = .ok (.iload 6, 2) := dkAt dk06ref2_cX12_looks_120_a 25 rfl
theorem dX12_looks_254 : decode cX12_looks 254 = .ok (.iconst 1, 1) := dkAt dk06ref2_cX12_looks_120_a 26 rfl
theorem dX12_looks_255 : decode cX12_looks 255 = .ok (.isub, 1) := dkAt dk06ref2_cX12_looks_120_a 27 rfl
theorem dX12_looks_256 : decode cX12_looks 256 = .ok (.aload_n 0, 1) := dkAt dk06ref2_cX12_looks_120_a 28 rfl
theorem dX12_looks_257 : decode cX12_looks 257 = .ok (.getfield 21, 3) := dkAt dk06ref2_cX12_looks_120_a 29 rfl
theorem dX12_looks_260 : decode cX12_looks 260 = .ok (.iload 6, 2) := dkAt dk06ref2_cX12_looks_120_a 30 rfl
theorem dX12_looks_262 : decode cX12_looks 262 = .ok (.iconst 1, 1) := dkAt dk06ref2_cX12_looks_120_a 31 rfl
theorem dX12_looks_263 : decode cX12_looks 263 = .ok (.isub, 1) := dkAt dk06ref2_cX12_looks_120_a 32 rfl
theorem dX12_looks_264 : decode cX12_looks 264 = .ok (.baload, 1) := dkAt dk06ref2_cX12_looks_120_a 33 rfl
theorem dX12_looks_273 : decode cX12_looks 273 = .ok (.bastore, 1) := dkAt dk06ref2_cX12_looks_120_a 34 rfl
theorem dX12_looks_274 : decode cX12_looks 274 = .ok (.goto 180, 3) := dkAt dk06ref2_cX12_looks_120_a 35 rfl
theorem dX12_looks_265 : decode cX12_looks 265 = .ok (.ifCond .ne 7, 3) := dkAt dk06ref2_cX12_looks_120_a 36 rfl
theorem dX12_looks_272 : decode cX12_looks 272 = .ok (.iconst 0, 1) := dkAt dk06ref2_cX12_looks_120_a 37 rfl
theorem dX12_looks_268 : decode cX12_looks 268 = .ok (.iconst 1, 1) := dkAt dk06ref2_cX12_looks_120_a 38 rfl
theorem dX12_looks_269 : decode cX12_looks 269 = .ok (.goto 4, 3) := dkAt dk06ref2_cX12_looks_120_a 39 rfl
noncomputable def dk06ref2_cX12_looks_160 : List (Nat × Instr × Nat) := [(277, .iload 8, 2), (279, .bipush (-10), 2), (281, .if_icmp .le 82, 3), (284, .iinc 6 (-1), 3), (287, .aload_n 0, 1), (288, .getfield 21, 3), (291, .iload 6, 2), (293, .iconst 1, 1), (294, .isub, 1), (295, .iload 8, 2), (297, .bipush (-2), 2), (359, .bastore, 1), (360, .goto 94, 3), (299, .if_icmp .ne 33, 3), (302, .aload_n 0, 1), (303, .getfield 21, 3), (306, .iload 6, 2), (308, .iconst 1, 1), (309, .isub, 1), (310, .baload, 1), (311, .ifCond .eq 17, 3), (328, .iconst 0, 1), (329, .goto 30, 3), (314, .aload_n 0, 1), (315, .getfield 21, 3), (318, .iload 6, 2), (320, .baload, 1), (321, .ifCond .eq 7, 3), (324, .iconst 1, 1), (325, .goto 34, 3), (332, .aload_n 0, 1), (333, .getfield 21, 3), (336, .iload 6, 2), (338, .iconst 1, 1), (339, .isub, 1), (340, .baload, 1), (341, .ifCond .ne 13, 3), (354, .iconst 1, 1), (355, .goto 4, 3), (344, .aload_n 0, 1)]
set_option maxRecDepth 100000 in
theorem dk06ref2_cX12_looks_160_a : dkA cX12_looks dk06ref2_cX12_looks_160 = true := by decide +kernel
theorem dX12_looks_277 : decode cX12_looks 277 = .ok (.iload 8, 2) := dkAt dk06ref2_cX12_looks_160_a 0 rfl
theorem dX12_looks_279 : decode cX12_looks 279 = .ok (.bipush (-10), 2) := dkAt dk06ref2_cX12_looks_160_a 1 rfl
theorem dX12_looks_281 : decode cX12_looks 281 = .ok (.if_icmp .le 82, 3) := dkAt dk06ref2_cX12_looks_160_a 2 rfl
theorem dX12_looks_284 : decode cX12_looks 284 = .ok (.iinc 6 (-1), 3) := dkAt dk06ref2_cX12_looks_160_a 3 rfl
theorem dX12_looks_287 : decode cX12_looks 287 = .ok (.aload_n 0, 1) := dkAt dk06ref2_cX12_looks_160_a 4 rfl
theorem dX12_looks_288 : decode cX12_looks 288 = .ok (.getfield 21, 3) := dkAt dk06ref2_cX12_looks_160_a 5 rfl
theorem dX12_looks_291 : decode cX12_looks 291 = .ok (.iload 6, 2) := dkAt dk06ref2_cX12_looks_160_a 6 rfl
theorem dX12_looks_293 : decode cX12_looks 293 = .ok (.iconst 1, 1) := dkAt dk06ref2_cX12_looks_160_a 7 rfl
theorem dX12_looks_294 : decode cX12_looks 294 = .ok (.isub, 1) := dkAt dk06ref2_cX12_looks_160_a 8 rfl
theorem dX12_looks_295 : decode cX12_looks 295 = .ok (.iload 8, 2) := dkAt dk06ref2_cX12_looks_160_a 9 rfl
theorem dX12_looks_297 : decode cX12_looks 297 = .ok (.bipush (-2), 2) := dkAt dk06ref2_cX12_looks_160_a 10 rfl
theorem dX12_looks_359 : decode cX12_looks 359 = .ok (.bastore, 1) := dkAt dk06ref2_cX12_looks_160_a 11 rfl
theorem dX12_looks_360 : decode cX12_looks 360 = .ok (.goto 94, 3) := dkAt dk06ref2_cX12_looks_160_a 12 rfl
theorem dX12_looks_299 : decode cX12_looks 299 = .ok (.if_icmp .ne 33, 3) := dkAt dk06ref2_cX12_looks_160_a 13 rfl
theorem dX12_looks_302 : decode cX12_looks 302 = .ok (.aload_n 0, 1) := dkAt dk06ref2_cX12_looks_160_a 14 rfl
theorem dX12_looks_303 : decode cX12_looks 303 = .ok (.getfield 21, 3) := dkAt dk06ref2_cX12_looks_160_a 15 rfl
theorem dX12_looks_306 : decode cX12_looks 306 = .ok (.iload 6, 2) := dkAt dk06ref2_cX12_looks_160_a 16 rfl
theorem dX12_looks_308 : decode cX12_looks 308 = .ok (.iconst 1, 1) := dkAt dk06ref2_cX12_looks_160_a 17 rfl
theorem dX12_looks_309 : decode cX12_looks 309 = .ok (.isub, 1) := dkAt dk06ref2_cX12_looks_160_a 18 rfl
theorem dX12_looks_310 : decode cX12_looks 310 = .ok (.baload, 1) := dkAt dk06ref2_cX12_looks_160_a 19 rfl
theorem dX12_looks_311 : decode cX12_looks 311 = .ok (.ifCond .eq 17, 3) := dkAt dk06ref2_cX12_looks_160_a 20 rfl
theorem dX12_looks_328 : decode cX12_looks 328 = .ok (.iconst 0, 1) := dkAt dk06ref2_cX12_looks_160_a 21 rfl
theorem dX12_looks_329 : decode cX12_looks 329 = .ok (.goto 30, 3) := dkAt dk06ref2_cX12_looks_160_a 22 rfl
theorem dX12_looks_314 : decode cX12_looks 314 = .ok (.aload_n 0, 1) := dkAt dk06ref2_cX12_looks_160_a 23 rfl
theorem dX12_looks_315 : decode cX12_looks 315 = .ok (.getfield 21, 3) := dkAt dk06ref2_cX12_looks_160_a 24 rfl
theorem dX12_looks_318 : decode cX12_looks 318 = .ok (.iload 6, 2) := dkAt dk06ref2_cX12_looks_160_a 25 rfl
theorem dX12_looks_320 : decode cX12_looks 320 = .ok (.baload, 1) := dkAt dk06ref2_cX12_looks_160_a 26 rfl
theorem dX12_looks_321 : decode cX12_looks 321 = .ok (.ifCond .eq 7, 3) := dkAt dk06ref2_cX12_looks_160_a 27 rfl
theorem dX12_looks_324 : decode cX12_looks 324 = .ok (.iconst 1, 1) := dkAt dk06ref2_cX12_looks_160_a 28 rfl
theorem dX12_looks_325 : decode cX12_looks 325 = .ok (.goto 34, 3) := dkAt dk06ref2_cX12_looks_160_a 29 rfl
theorem dX12_looks_332 : decode cX12_looks 332 = .ok (.aload_n 0, 1) := dkAt dk06ref2_cX12_looks_160_a 30 rfl
theorem dX12_looks_333 : decode cX12_looks 333 = .ok (.getfield 21, 3) := dkAt dk06ref2_cX12_looks_160_a 31 rfl
theorem dX12_looks_336 : decode cX12_looks 336 = .ok (.iload 6, 2) := dkAt dk06ref2_cX12_looks_160_a 32 rfl
theorem dX12_looks_338 : decode cX12_looks 338 = .ok (.iconst 1, 1) := dkAt dk06ref2_cX12_looks_160_a 33 rfl
theorem dX12_looks_339 : decode cX12_looks 339 = .ok (.isub, 1) := dkAt dk06ref2_cX12_looks_160_a 34 rfl
theorem dX12_looks_340 : decode cX12_looks 340 = .ok (.baload, 1) := dkAt dk06ref2_cX12_looks_160_a 35 rfl
theorem dX12_looks_341 : decode cX12_looks 341 = .ok (.ifCond .ne 13, 3) := dkAt dk06ref2_cX12_looks_160_a 36 rfl
theorem dX12_looks_354 : decode cX12_looks 354 = .ok (.iconst 1, 1) := dkAt dk06ref2_cX12_looks_160_a 37 rfl
theorem dX12_looks_355 : decode cX12_looks 355 = .ok (.goto 4, 3) := dkAt dk06ref2_cX12_looks_160_a 38 rfl
theorem dX12_looks_344 : decode cX12_looks 344 = .ok (.aload_n 0, 1) := dkAt dk06ref2_cX12_looks_160_a 39 rfl
noncomputable def dk06ref2_cX12_looks_200 : List (Nat × Instr × Nat) := [(345, .getfield 21, 3), (348, .iload 6, 2), (350, .baload, 1), (351, .ifCond .eq 7, 3), (358, .iconst 0, 1), (363, .iconst 0, 1), (364, .istore 6, 2), (366, .aload_n 0, 1), (367, .getfield 21, 3), (370, .iconst 0, 1), (371, .baload, 1), (372, .istore 9, 2), (374, .aload_n 0, 1), (375, .dup, 1), (376, .getfield 143, 3), (379, .iload 9, 2), (418, .iadd, 1), (419, .putfield 143, 3), (422, .aload_n 0, 1), (423, .dup, 1), (424, .getfield 146, 3), (427, .iload 9, 2), (450, .iadd, 1), (451, .putfield 146, 3), (429, .ifCond .eq 20, 3), (449, .iconst 0, 1), (432, .iload 8, 2), (434, .sipush (-400), 3), (437, .if_icmp .gt 12, 3), (381, .ifCond .eq 11, 3), (392, .iconst 0, 1), (393, .goto 25, 3), (384, .iload 8, 2), (386, .sipush (-400), 3), (389, .if_icmp .gt 7, 3), (396, .iload 8, 2), (398, .sipush (-200), 3), (401, .if_icmp .le 11, 3), (404, .bipush (-10), 2), (406, .iload 8, 2)]
set_option maxRecDepth 100000 in
theorem dk06ref2_cX12_looks_200_a : dkA cX12_looks dk06ref2_cX12_looks_200 = true := by decide +kernel
theorem dX12_looks_345 : decode cX12_looks 345 = .ok (.getfield 21, 3) := dkAt dk06ref2_cX12_looks_200_a 0 rfl
theorem dX12_looks_348 : decode cX12_looks 348 = .ok (.iload 6, 2) := dkAt dk06ref2_cX12_looks_200_a 1 rfl
theorem dX12_looks_350 : decode cX12_looks 350 = .ok (.baload, 1) := dkAt dk06ref2_cX12_looks_200_a 2 rfl
theorem dX12_looks_351 : decode cX12_looks 351 = .ok (.ifCond .eq 7, 3) := dkAt dk06ref2_cX12_looks_200_a 3 rfl
theorem dX12_looks_358 : decode cX12_looks 358 = .ok (.iconst 0, 1) := dkAt dk06ref2_cX12_looks_200_a 4 rfl
theorem dX12_looks_363 : decode cX12_looks 363 = .ok (.iconst 0, 1) := dkAt dk06ref2_cX12_looks_200_a 5 rfl
theorem dX12_looks_364 : decode cX12_looks 364 = .ok (.istore 6, 2) := dkAt dk06ref2_cX12_looks_200_a 6 rfl
theorem dX12_looks_366 : decode cX12_looks 366 = .ok (.aload_n 0, 1) := dkAt dk06ref2_cX12_looks_200_a 7 rfl
theorem dX12_looks_367 : decode cX12_looks 367 = .ok (.getfield 21, 3) := dkAt dk06ref2_cX12_looks_200_a 8 rfl
theorem dX12_looks_370 : decode cX12_looks 370 = .ok (.iconst 0, 1) := dkAt dk06ref2_cX12_looks_200_a 9 rfl
theorem dX12_looks_371 : decode cX12_looks 371 = .ok (.baload, 1) := dkAt dk06ref2_cX12_looks_200_a 10 rfl
theorem dX12_looks_372 : decode cX12_looks 372 = .ok (.istore 9, 2) := dkAt dk06ref2_cX12_looks_200_a 11 rfl
theorem dX12_looks_374 : decode cX12_looks 374 = .ok (.aload_n 0, 1) := dkAt dk06ref2_cX12_looks_200_a 12 rfl
theorem dX12_looks_375 : decode cX12_looks 375 = .ok (.dup, 1) := dkAt dk06ref2_cX12_looks_200_a 13 rfl
theorem dX12_looks_376 : decode cX12_looks 376 = .ok (.getfield 143, 3) := dkAt dk06ref2_cX12_looks_200_a 14 rfl
theorem dX12_looks_379 : decode cX12_looks 379 = .ok (.iload 9, 2) := dkAt dk06ref2_cX12_looks_200_a 15 rfl
theorem dX12_looks_418 : decode cX12_looks 418 = .ok (.iadd, 1) := dkAt dk06ref2_cX12_looks_200_a 16 rfl
theorem dX12_looks_419 : decode cX12_looks 419 = .ok (.putfield 143, 3) := dkAt dk06ref2_cX12_looks_200_a 17 rfl
theorem dX12_looks_422 : decode cX12_looks 422 = .ok (.aload_n 0, 1) := dkAt dk06ref2_cX12_looks_200_a 18 rfl
theorem dX12_looks_423 : decode cX12_looks 423 = .ok (.dup, 1) := dkAt dk06ref2_cX12_looks_200_a 19 rfl
theorem dX12_looks_424 : decode cX12_looks 424 = .ok (.getfield 146, 3) := dkAt dk06ref2_cX12_looks_200_a 20 rfl
theorem dX12_looks_427 : decode cX12_looks 427 = .ok (.iload 9, 2) := dkAt dk06ref2_cX12_looks_200_a 21 rfl
theorem dX12_looks_450 : decode cX12_looks 450 = .ok (.iadd, 1) := dkAt dk06ref2_cX12_looks_200_a 22 rfl
theorem dX12_looks_451 : decode cX12_looks 451 = .ok (.putfield 146, 3) := dkAt dk06ref2_cX12_looks_200_a 23 rfl
theorem dX12_looks_429 : decode cX12_looks 429 = .ok (.ifCond .eq 20, 3) := dkAt dk06ref2_cX12_looks_200_a 24 rfl
theorem dX12_looks_449 : decode cX12_looks 449 = .ok (.iconst 0, 1) := dkAt dk06ref2_cX12_looks_200_a 25 rfl
theorem dX12_looks_432 : decode cX12_looks 432 = .ok (.iload 8, 2) := dkAt dk06ref2_cX12_looks_200_a 26 rfl
theorem dX12_looks_434 : decode cX12_looks 434 = .ok (.sipush (-400), 3) := dkAt dk06ref2_cX12_looks_200_a 27 rfl
theorem dX12_looks_437 : decode cX12_looks 437 = .ok (.if_icmp .gt 12, 3) := dkAt dk06ref2_cX12_looks_200_a 28 rfl
theorem dX12_looks_381 : decode cX12_looks 381 = .ok (.ifCond .eq 11, 3) := dkAt dk06ref2_cX12_looks_200_a 29 rfl
theorem dX12_looks_392 : decode cX12_looks 392 = .ok (.iconst 0, 1) := dkAt dk06ref2_cX12_looks_200_a 30 rfl
theorem dX12_looks_393 : decode cX12_looks 393 = .ok (.goto 25, 3) := dkAt dk06ref2_cX12_looks_200_a 31 rfl
theorem dX12_looks_384 : decode cX12_looks 384 = .ok (.iload 8, 2) := dkAt dk06ref2_cX12_looks_200_a 32 rfl
theorem dX12_looks_386 : decode cX12_looks 386 = .ok (.sipush (-400), 3) := dkAt dk06ref2_cX12_looks_200_a 33 rfl
theorem dX12_looks_389 : decode cX12_looks 389 = .ok (.if_icmp .gt 7, 3) := dkAt dk06ref2_cX12_looks_200_a 34 rfl
theorem dX12_looks_396 : decode cX12_looks 396 = .ok (.iload 8, 2) := dkAt dk06ref2_cX12_looks_200_a 35 rfl
theorem dX12_looks_398 : decode cX12_looks 398 = .ok (.sipush (-200), 3) := dkAt dk06ref2_cX12_looks_200_a 36 rfl
theorem dX12_looks_401 : decode cX12_looks 401 = .ok (.if_icmp .le 11, 3) := dkAt dk06ref2_cX12_looks_200_a 37 rfl
theorem dX12_looks_404 : decode cX12_looks 404 = .ok (.bipush (-10), 2) := dkAt dk06ref2_cX12_looks_200_a 38 rfl
theorem dX12_looks_406 : decode cX12_looks 406 = .ok (.iload 8, 2) := dkAt dk06ref2_cX12_looks_200_a 39 rfl
noncomputable def dk06ref2_cX12_looks_240 : List (Nat × Instr × Nat) := [(408, .isub, 1), (409, .goto 9, 3), (412, .iload 8, 2), (414, .sipush (-200), 3), (417, .isub, 1), (440, .sipush (-400), 3), (443, .iload 8, 2), (445, .isub, 1), (446, .goto 4, 3)]
set_option maxRecDepth 100000 in
theorem dk06ref2_cX12_looks_240_a : dkA cX12_looks dk06ref2_cX12_looks_240 = true := by decide +kernel
theorem dX12_looks_408 : decode cX12_looks 408 = .ok (.isub, 1) := dkAt dk06ref2_cX12_looks_240_a 0 rfl
theorem dX12_looks_409 : decode cX12_looks 409 = .ok (.goto 9, 3) := dkAt dk06ref2_cX12_looks_240_a 1 rfl
theorem dX12_looks_412 : decode cX12_looks 412 = .ok (.iload 8, 2) := dkAt dk06ref2_cX12_looks_240_a 2 rfl
theorem dX12_looks_414 : decode cX12_looks 414 = .ok (.sipush (-200), 3) := dkAt dk06ref2_cX12_looks_240_a 3 rfl
theorem dX12_looks_417 : decode cX12_looks 417 = .ok (.isub, 1) := dkAt dk06ref2_cX12_looks_240_a 4 rfl
theorem dX12_looks_440 : decode cX12_looks 440 = .ok (.sipush (-400), 3) := dkAt dk06ref2_cX12_looks_240_a 5 rfl
theorem dX12_looks_443 : decode cX12_looks 443 = .ok (.iload 8, 2) := dkAt dk06ref2_cX12_looks_240_a 6 rfl
theorem dX12_looks_445 : decode cX12_looks 445 = .ok (.isub, 1) := dkAt dk06ref2_cX12_looks_240_a 7 rfl
theorem dX12_looks_446 : decode cX12_looks 446 = .ok (.goto 4, 3) := dkAt dk06ref2_cX12_looks_240_a 8 rfl
noncomputable def dk06ref2_cX12_sight_0 : List (Nat × Instr × Nat) := [(0, .aload_n 0, 1), (1, .getfield 9, 3), (4, .iconst 5, 1), (5, .iaload, 1), (6, .iconst (-1), 1), (7, .if_icmp .ne 7, 3), (10, .iconst 3, 1), (11, .goto 18, 3), (29, .ireturn, 1), (14, .aload_n 0, 1), (15, .getfield 9, 3), (18, .sipush 191, 3), (21, .aload_n 0, 1), (22, .getfield 9, 3), (25, .iconst 5, 1), (26, .iaload, 1), (27, .iadd, 1), (28, .iaload, 1)]
set_option maxRecDepth 100000 in
theorem dk06ref2_cX12_sight_0_a : dkA cX12_sight dk06ref2_cX12_sight_0 = true := by decide +kernel
theorem dX12_sight_0 : decode cX12_sight 0 = .ok (.aload_n 0, 1) := dkAt dk06ref2_cX12_sight_0_a 0 rfl
theorem dX12_sight_1 : decode cX12_sight 1 = .ok (.getfield 9, 3) := dkAt dk06ref2_cX12_sight_0_a 1 rfl
theorem dX12_sight_4 : decode cX12_sight 4 = .ok (.iconst 5, 1) := dkAt dk06ref2_cX12_sight_0_a 2 rfl
theorem dX12_sight_5 : decode cX12_sight 5 = .ok (.iaload, 1) := dkAt dk06ref2_cX12_sight_0_a 3 rfl
theorem dX12_sight_6 : decode cX12_sight 6 = .ok (.iconst (-1), 1) := dkAt dk06ref2_cX12_sight_0_a 4 rfl
theorem dX12_sight_7 : decode cX12_sight 7 = .ok (.if_icmp .ne 7, 3) := dkAt dk06ref2_cX12_sight_0_a 5 rfl
theorem dX12_sight_10 : decode cX12_sight 10 = .ok (.iconst 3, 1) := dkAt dk06ref2_cX12_sight_0_a 6 rfl
theorem dX12_sight_11 : decode cX12_sight 11 = .ok (.goto 18, 3) := dkAt dk06ref2_cX12_sight_0_a 7 rfl
theorem dX12_sight_29 : decode cX12_sight 29 = .ok (.ireturn, 1) := dkAt dk06ref2_cX12_sight_0_a 8 rfl
theorem dX12_sight_14 : decode cX12_sight 14 = .ok (.aload_n 0, 1) := dkAt dk06ref2_cX12_sight_0_a 9 rfl
theorem dX12_sight_15 : decode cX12_sight 15 = .ok (.getfield 9, 3) := dkAt dk06ref2_cX12_sight_0_a 10 rfl
theorem dX12_sight_18 : decode cX12_sight 18 = .ok (.sipush 191, 3) := dkAt dk06ref2_cX12_sight_0_a 11 rfl
theorem dX12_sight_21 : decode cX12_sight 21 = .ok (.aload_n 0, 1) := dkAt dk06ref2_cX12_sight_0_a 12 rfl
theorem dX12_sight_22 : decode cX12_sight 22 = .ok (.getfield 9, 3) := dkAt dk06ref2_cX12_sight_0_a 13 rfl
theorem dX12_sight_25 : decode cX12_sight 25 = .ok (.iconst 5, 1) := dkAt dk06ref2_cX12_sight_0_a 14 rfl
theorem dX12_sight_26 : decode cX12_sight 26 = .ok (.iaload, 1) := dkAt dk06ref2_cX12_sight_0_a 15 rfl
theorem dX12_sight_27 : decode cX12_sight 27 = .ok (.iadd, 1) := dkAt dk06ref2_cX12_sight_0_a 16 rfl
theorem dX12_sight_28 : decode cX12_sight 28 = .ok (.iaload, 1) := dkAt dk06ref2_cX12_sight_0_a 17 rfl
noncomputable def dk06ref2_cX12_reachOf_0 : List (Nat × Instr × Nat) := [(0, .aload_n 0, 1), (1, .getfield 9, 3), (4, .bipush 10, 2), (6, .iload_n 1, 1), (7, .iadd, 1), (8, .iaload, 1), (9, .istore_n 2, 1), (10, .aload_n 0, 1), (11, .getfield 9, 3), (14, .bipush 19, 2), (16, .iload_n 1, 1), (17, .iadd, 1), (18, .iaload, 1), (19, .istore_n 3, 1), (20, .aload_n 0, 1), (21, .iload_n 1, 1), (22, .iload_n 2, 1), (23, .aload_n 0, 1), (24, .getfield 9, 3), (27, .bipush 28, 2), (29, .iload_n 1, 1), (30, .iadd, 1), (31, .iaload, 1), (32, .invokevirtual 160, 3), (35, .aload_n 0, 1), (36, .invokevirtual 140, 3), (39, .aload_n 0, 1), (40, .getfield 143, 3), (43, .iadd, 1), (44, .aload_n 0, 1), (45, .getfield 9, 3), (48, .bipush 6, 2), (50, .iaload, 1), (51, .isub, 1), (52, .istore 4, 2), (54, .iload 4, 2), (56, .iload_n 2, 1), (57, .iconst 1, 1), (87, .iadd, 1), (88, .istore 4, 2)]
set_option maxRecDepth 100000 in
theorem dk06ref2_cX12_reachOf_0_a : dkA cX12_reachOf dk06ref2_cX12_reachOf_0 = true := by decide +kernel
theorem dX12_reachOf_0 : decode cX12_reachOf 0 = .ok (.aload_n 0, 1) := dkAt dk06ref2_cX12_reachOf_0_a 0 rfl
theorem dX12_reachOf_1 : decode cX12_reachOf 1 = .ok (.getfield 9, 3) := dkAt dk06ref2_cX12_reachOf_0_a 1 rfl
theorem dX12_reachOf_4 : decode cX12_reachOf 4 = .ok (.bipush 10, 2) := dkAt dk06ref2_cX12_reachOf_0_a 2 rfl
theorem dX12_reachOf_6 : decode cX12_reachOf 6 = .ok (.iload_n 1, 1) := dkAt dk06ref2_cX12_reachOf_0_a 3 rfl
theorem dX12_reachOf_7 : decode cX12_reachOf 7 = .ok (.iadd, 1) := dkAt dk06ref2_cX12_reachOf_0_a 4 rfl
theorem dX12_reachOf_8 : decode cX12_reachOf 8 = .ok (.iaload, 1) := dkAt dk06ref2_cX12_reachOf_0_a 5 rfl
theorem dX12_reachOf_9 : decode cX12_reachOf 9 = .ok (.istore_n 2, 1) := dkAt dk06ref2_cX12_reachOf_0_a 6 rfl
theorem dX12_reachOf_10 : decode cX12_reachOf 10 = .ok (.aload_n 0, 1) := dkAt dk06ref2_cX12_reachOf_0_a 7 rfl
theorem dX12_reachOf_11 : decode cX12_reachOf 11 = .ok (.getfield 9, 3) := dkAt dk06ref2_cX12_reachOf_0_a 8 rfl
theorem dX12_reachOf_14 : decode cX12_reachOf 14 = .ok (.bipush 19, 2) := dkAt dk06ref2_cX12_reachOf_0_a 9 rfl
theorem dX12_reachOf_16 : decode cX12_reachOf 16 = .ok (.iload_n 1, 1) := dkAt dk06ref2_cX12_reachOf_0_a 10 rfl
theorem dX12_reachOf_17 : decode cX12_reachOf 17 = .ok (.iadd, 1) := dkAt dk06ref2_cX12_reachOf_0_a 11 rfl
theorem dX12_reachOf_18 : decode cX12_reachOf 18 = .ok (.iaload, 1) := dkAt dk06ref2_cX12_reachOf_0_a 12 rfl
theorem dX12_reachOf_19 : decode cX12_reachOf 19 = .ok (.istore_n 3, 1) := dkAt dk06ref2_cX12_reachOf_0_a 13 rfl
theorem dX12_reachOf_20 : decode cX12_reachOf 20 = .ok (.aload_n 0, 1) := dkAt dk06ref2_cX12_reachOf_0_a 14 rfl
theorem dX12_reachOf_21 : decode cX12_reachOf 21 = .ok (.iload_n 1, 1) := dkAt dk06ref2_cX12_reachOf_0_a 15 rfl
theorem dX12_reachOf_22 : decode cX12_reachOf 22 = .ok (.iload_n 2, 1) := dkAt dk06ref2_cX12_reachOf_0_a 16 rfl
theorem dX12_reachOf_23 : decode cX12_reachOf 23 = .ok (.aload_n 0, 1) := dkAt dk06ref2_cX12_reachOf_0_a 17 rfl
theorem dX12_reachOf_24 : decode cX12_reachOf 24 = .ok (.getfield 9, 3) := dkAt dk06ref2_cX12_reachOf_0_a 18 rfl
theorem dX12_reachOf_27 : decode cX12_reachOf 27 = .ok (.bipush 28, 2) := dkAt dk06ref2_cX12_reachOf_0_a 19 rfl
theorem dX12_reachOf_29 : decode cX12_reachOf 29 = .ok (.iload_n 1, 1) := dkAt dk06ref2_cX12_reachOf_0_a 20 rfl
theorem dX12_reachOf_30 : decode cX12_reachOf 30 = .ok (.iadd, 1) := dkAt dk06ref2_cX12_reachOf_0_a 21 rfl
theorem dX12_reachOf_31 : decode cX12_reachOf 31 = .ok (.iaload, 1) := dkAt dk06ref2_cX12_reachOf_0_a 22 rfl
theorem dX12_reachOf_32 : decode cX12_reachOf 32 = .ok (.invokevirtual 160, 3) := dkAt dk06ref2_cX12_reachOf_0_a 23 rfl
theorem dX12_reachOf_35 : decode cX12_reachOf 35 = .ok (.aload_n 0, 1) := dkAt dk06ref2_cX12_reachOf_0_a 24 rfl
theorem dX12_reachOf_36 : decode cX12_reachOf 36 = .ok (.invokevirtual 140, 3) := dkAt dk06ref2_cX12_reachOf_0_a 25 rfl
theorem dX12_reachOf_39 : decode cX12_reachOf 39 = .ok (.aload_n 0, 1) := dkAt dk06ref2_cX12_reachOf_0_a 26 rfl
theorem dX12_reachOf_40 : decode cX12_reachOf 40 = .ok (.getfield 143, 3) := dkAt dk06ref2_cX12_reachOf_0_a 27 rfl
theorem dX12_reachOf_43 : decode cX12_reachOf 43 = .ok (.iadd, 1) := dkAt dk06ref2_cX12_reachOf_0_a 28 rfl
theorem dX12_reachOf_44 : decode cX12_reachOf 44 = .ok (.aload_n 0, 1) := dkAt dk06ref2_cX12_reachOf_0_a 29 rfl
theorem dX12_reachOf_45 : decode cX12_reachOf 45 = .ok (.getfield 9, 3) := dkAt dk06ref2_cX12_reachOf_0_a 30 rfl
theorem dX12_reachOf_48 : decode cX12_reachOf 48 = .ok (.bipush 6, 2) := dkAt dk06ref2_cX12_reachOf_0_a 31 rfl
theorem dX12_reachOf_50 : decode cX12_reachOf 50 = .ok (.iaload, 1) := dkAt dk06ref2_cX12_reachOf_0_a 32 rfl
theorem dX12_reachOf_51 : decode cX12_reachOf 51 = .ok (.isub, 1) := dkAt dk06ref2_cX12_reachOf_0_a 33 rfl
theorem dX12_reachOf_52 : decode cX12_reachOf 52 = .ok (.istore 4, 2) := dkAt dk06ref2_cX12_reachOf_0_a 34 rfl
theorem dX12_reachOf_54 : decode cX12_reachOf 54 = .ok (.iload 4, 2) := dkAt dk06ref2_cX12_reachOf_0_a 35 rfl
theorem dX12_reachOf_56 : decode cX12_reachOf 56 = .ok (.iload_n 2, 1) := dkAt dk06ref2_cX12_reachOf_0_a 36 rfl
theorem dX12_reachOf_57 : decode cX12_reachOf 57 = .ok (.iconst 1, 1) := dkAt dk06ref2_cX12_reachOf_0_a 37 rfl
theorem dX12_reachOf_87 : decode cX12_reachOf 87 = .ok (.iadd, 1) := dkAt dk06ref2_cX12_reachOf_0_a 38 rfl
theorem dX12_reachOf_88 : decode cX12_reachOf 88 = .ok (.istore 4, 2) := dkAt dk06ref2_cX12_reachOf_0_a 39 rfl
noncomputable def dk06ref2_cX12_reachOf_40 : List (Nat × Instr × Nat) := [(90, .iload 4, 2), (117, .istore 4, 2), (119, .iload_n 2, 1), (120, .bipush 6, 2), (137, .ireturn, 1), (122, .if_icmp .ne 13, 3), (135, .iload 4, 2), (125, .iload 4, 2), (127, .iconst 1, 1), (128, .if_icmp .le 7, 3), (131, .iconst 1, 1), (132, .goto 5, 3), (92, .ifCond .lt 19, 3), (111, .iconst 0, 1), (112, .goto 5, 3), (95, .iload_n 2, 1), (96, .iconst 5, 1), (97, .if_icmp .ne 18, 3), (115, .iload 4, 2), (100, .aload_n 0, 1), (101, .getfield 9, 3), (104, .bipush 7, 2), (106, .iaload, 1), (107, .iload_n 3, 1), (108, .if_icmp .le 7, 3), (58, .if_icmp .eq 8, 3), (66, .iload_n 3, 1), (67, .iconst 3, 1), (68, .idiv, 1), (69, .goto 18, 3), (61, .iload_n 2, 1), (62, .iconst 4, 1), (63, .if_icmp .ne 9, 3), (72, .iload_n 2, 1), (73, .iconst 2, 1), (74, .if_icmp .eq 8, 3), (82, .iconst (-1), 1), (83, .goto 4, 3), (77, .iload_n 2, 1), (78, .iconst 5, 1)]
set_option maxRecDepth 100000 in
theorem dk06ref2_cX12_reachOf_40_a : dkA cX12_reachOf dk06ref2_cX12_reachOf_40 = true := by decide +kernel
theorem dX12_reachOf_90 : decode cX12_reachOf 90 = .ok (.iload 4, 2) := dkAt dk06ref2_cX12_reachOf_40_a 0 rfl
theorem dX12_reachOf_117 : decode cX12_reachOf 117 = .ok (.istore 4, 2) := dkAt dk06ref2_cX12_reachOf_40_a 1 rfl
theorem dX12_reachOf_119 : decode cX12_reachOf 119 = .ok (.iload_n 2, 1) := dkAt dk06ref2_cX12_reachOf_40_a 2 rfl
theorem dX12_reachOf_120 : decode cX12_reachOf 120 = .ok (.bipush 6, 2) := dkAt dk06ref2_cX12_reachOf_40_a 3 rfl
theorem dX12_reachOf_137 : decode cX12_reachOf 137 = .ok (.ireturn, 1) := dkAt dk06ref2_cX12_reachOf_40_a 4 rfl
theorem dX12_reachOf_122 : decode cX12_reachOf 122 = .ok (.if_icmp .ne 13, 3) := dkAt dk06ref2_cX12_reachOf_40_a 5 rfl
theorem dX12_reachOf_135 : decode cX12_reachOf 135 = .ok (.iload 4, 2) := dkAt dk06ref2_cX12_reachOf_40_a 6 rfl
theorem dX12_reachOf_125 : decode cX12_reachOf 125 = .ok (.iload 4, 2) := dkAt dk06ref2_cX12_reachOf_40_a 7 rfl
theorem dX12_reachOf_127 : decode cX12_reachOf 127 = .ok (.iconst 1, 1) := dkAt dk06ref2_cX12_reachOf_40_a 8 rfl
theorem dX12_reachOf_128 : decode cX12_reachOf 128 = .ok (.if_icmp .le 7, 3) := dkAt dk06ref2_cX12_reachOf_40_a 9 rfl
theorem dX12_reachOf_131 : decode cX12_reachOf 131 = .ok (.iconst 1, 1) := dkAt dk06ref2_cX12_reachOf_40_a 10 rfl
theorem dX12_reachOf_132 : decode cX12_reachOf 132 = .ok (.goto 5, 3) := dkAt dk06ref2_cX12_reachOf_40_a 11 rfl
theorem dX12_reachOf_92 : decode cX12_reachOf 92 = .ok (.ifCond .lt 19, 3) := dkAt dk06ref2_cX12_reachOf_40_a 12 rfl
theorem dX12_reachOf_111 : decode cX12_reachOf 111 = .ok (.iconst 0, 1) := dkAt dk06ref2_cX12_reachOf_40_a 13 rfl
theorem dX12_reachOf_112 : decode cX12_reachOf 112 = .ok (.goto 5, 3) := dkAt dk06ref2_cX12_reachOf_40_a 14 rfl
theorem dX12_reachOf_95 : decode cX12_reachOf 95 = .ok (.iload_n 2, 1) := dkAt dk06ref2_cX12_reachOf_40_a 15 rfl
theorem dX12_reachOf_96 : decode cX12_reachOf 96 = .ok (.iconst 5, 1) := dkAt dk06ref2_cX12_reachOf_40_a 16 rfl
theorem dX12_reachOf_97 : decode cX12_reachOf 97 = .ok (.if_icmp .ne 18, 3) := dkAt dk06ref2_cX12_reachOf_40_a 17 rfl
theorem dX12_reachOf_115 : decode cX12_reachOf 115 = .ok (.iload 4, 2) := dkAt dk06ref2_cX12_reachOf_40_a 18 rfl
theorem dX12_reachOf_100 : decode cX12_reachOf 100 = .ok (.aload_n 0, 1) := dkAt dk06ref2_cX12_reachOf_40_a 19 rfl
theorem dX12_reachOf_101 : decode cX12_reachOf 101 = .ok (.getfield 9, 3) := dkAt dk06ref2_cX12_reachOf_40_a 20 rfl
theorem dX12_reachOf_104 : decode cX12_reachOf 104 = .ok (.bipush 7, 2) := dkAt dk06ref2_cX12_reachOf_40_a 21 rfl
theorem dX12_reachOf_106 : decode cX12_reachOf 106 = .ok (.iaload, 1) := dkAt dk06ref2_cX12_reachOf_40_a 22 rfl
theorem dX12_reachOf_107 : decode cX12_reachOf 107 = .ok (.iload_n 3, 1) := dkAt dk06ref2_cX12_reachOf_40_a 23 rfl
theorem dX12_reachOf_108 : decode cX12_reachOf 108 = .ok (.if_icmp .le 7, 3) := dkAt dk06ref2_cX12_reachOf_40_a 24 rfl
theorem dX12_reachOf_58 : decode cX12_reachOf 58 = .ok (.if_icmp .eq 8, 3) := dkAt dk06ref2_cX12_reachOf_40_a 25 rfl
theorem dX12_reachOf_66 : decode cX12_reachOf 66 = .ok (.iload_n 3, 1) := dkAt dk06ref2_cX12_reachOf_40_a 26 rfl
theorem dX12_reachOf_67 : decode cX12_reachOf 67 = .ok (.iconst 3, 1) := dkAt dk06ref2_cX12_reachOf_40_a 27 rfl
theorem dX12_reachOf_68 : decode cX12_reachOf 68 = .ok (.idiv, 1) := dkAt dk06ref2_cX12_reachOf_40_a 28 rfl
theorem dX12_reachOf_69 : decode cX12_reachOf 69 = .ok (.goto 18, 3) := dkAt dk06ref2_cX12_reachOf_40_a 29 rfl
theorem dX12_reachOf_61 : decode cX12_reachOf 61 = .ok (.iload_n 2, 1) := dkAt dk06ref2_cX12_reachOf_40_a 30 rfl
theorem dX12_reachOf_62 : decode cX12_reachOf 62 = .ok (.iconst 4, 1) := dkAt dk06ref2_cX12_reachOf_40_a 31 rfl
theorem dX12_reachOf_63 : decode cX12_reachOf 63 = .ok (.if_icmp .ne 9, 3) := dkAt dk06ref2_cX12_reachOf_40_a 32 rfl
theorem dX12_reachOf_72 : decode cX12_reachOf 72 = .ok (.iload_n 2, 1) := dkAt dk06ref2_cX12_reachOf_40_a 33 rfl
theorem dX12_reachOf_73 : decode cX12_reachOf 73 = .ok (.iconst 2, 1) := dkAt dk06ref2_cX12_reachOf_40_a 34 rfl
theorem dX12_reachOf_74 : decode cX12_reachOf 74 = .ok (.if_icmp .eq 8, 3) := dkAt dk06ref2_cX12_reachOf_40_a 35 rfl
theorem dX12_reachOf_82 : decode cX12_reachOf 82 = .ok (.iconst (-1), 1) := dkAt dk06ref2_cX12_reachOf_40_a 36 rfl
theorem dX12_reachOf_83 : decode cX12_reachOf 83 = .ok (.goto 4, 3) := dkAt dk06ref2_cX12_reachOf_40_a 37 rfl
theorem dX12_reachOf_77 : decode cX12_reachOf 77 = .ok (.iload_n 2, 1) := dkAt dk06ref2_cX12_reachOf_40_a 38 rfl
theorem dX12_reachOf_78 : decode cX12_reachOf 78 = .ok (.iconst 5, 1) := dkAt dk06ref2_cX12_reachOf_40_a 39 rfl
noncomputable def dk06ref2_cX12_reachOf_80 : List (Nat × Instr × Nat) := [(79, .if_icmp .ne 7, 3), (86, .iconst 0, 1)]
set_option maxRecDepth 100000 in
theorem dk06ref2_cX12_reachOf_80_a : dkA cX12_reachOf dk06ref2_cX12_reachOf_80 = true := by decide +kernel
theorem dX12_reachOf_79 : decode cX12_reachOf 79 = .ok (.if_icmp .ne 7, 3) := dkAt dk06ref2_cX12_reachOf_80_a 0 rfl
theorem dX12_reachOf_86 : decode cX12_reachOf 86 = .ok (.iconst 0, 1) := dkAt dk06ref2_cX12_reachOf_80_a 1 rfl
noncomputable def dk06ref2_cX12_isSeen_0 : List (Nat × Instr × Nat) := [(0, .iload_n 2, 1), (1, .aload_n 0, 1), (2, .getfield 9, 3), (5, .bipush 28, 2), (7, .iload_n 1, 1), (8, .iadd, 1), (9, .iaload, 1), (10, .invokestatic 170, 3), (13, .aload_n 0, 1), (14, .iload_n 1, 1), (15, .invokevirtual 167, 3), (18, .if_icmp .gt 7, 3), (25, .iconst 0, 1), (26, .ireturn, 1), (21, .iconst 1, 1), (22, .goto 4, 3)]
set_option maxRecDepth 100000 in
theorem dk06ref2_cX12_isSeen_0_a : dkA cX12_isSeen dk06ref2_cX12_isSeen_0 = true := by decide +kernel
theorem dX12_isSeen_0 : decode cX12_isSeen 0 = .ok (.iload_n 2, 1) := dkAt dk06ref2_cX12_isSeen_0_a 0 rfl
theorem dX12_isSeen_1 : decode cX12_isSeen 1 = .ok (.aload_n 0, 1) := dkAt dk06ref2_cX12_isSeen_0_a 1 rfl
theorem dX12_isSeen_2 : decode cX12_isSeen 2 = .ok (.getfield 9, 3) := dkAt dk06ref2_cX12_isSeen_0_a 2 rfl
theorem dX12_isSeen_5 : decode cX12_isSeen 5 = .ok (.bipush 28, 2) := dkAt dk06ref2_cX12_isSeen_0_a 3 rfl
theorem dX12_isSeen_7 : decode cX12_isSeen 7 = .ok (.iload_n 1, 1) := dkAt dk06ref2_cX12_isSeen_0_a 4 rfl
theorem dX12_isSeen_8 : decode cX12_isSeen 8 = .ok (.iadd, 1) := dkAt dk06ref2_cX12_isSeen_0_a 5 rfl
theorem dX12_isSeen_9 : decode cX12_isSeen 9 = .ok (.iaload, 1) := dkAt dk06ref2_cX12_isSeen_0_a 6 rfl
theorem dX12_isSeen_10 : decode cX12_isSeen 10 = .ok (.invokestatic 170, 3) := dkAt dk06ref2_cX12_isSeen_0_a 7 rfl
theorem dX12_isSeen_13 : decode cX12_isSeen 13 = .ok (.aload_n 0, 1) := dkAt dk06ref2_cX12_isSeen_0_a 8 rfl
theorem dX12_isSeen_14 : decode cX12_isSeen 14 = .ok (.iload_n 1, 1) := dkAt dk06ref2_cX12_isSeen_0_a 9 rfl
theorem dX12_isSeen_15 : decode cX12_isSeen 15 = .ok (.invokevirtual 167, 3) := dkAt dk06ref2_cX12_isSeen_0_a 10 rfl
theorem dX12_isSeen_18 : decode cX12_isSeen 18 = .ok (.if_icmp .gt 7, 3) := dkAt dk06ref2_cX12_isSeen_0_a 11 rfl
theorem dX12_isSeen_25 : decode cX12_isSeen 25 = .ok (.iconst 0, 1) := dkAt dk06ref2_cX12_isSeen_0_a 12 rfl
theorem dX12_isSeen_26 : decode cX12_isSeen 26 = .ok (.ireturn, 1) := dkAt dk06ref2_cX12_isSeen_0_a 13 rfl
theorem dX12_isSeen_21 : decode cX12_isSeen 21 = .ok (.iconst 1, 1) := dkAt dk06ref2_cX12_isSeen_0_a 14 rfl
theorem dX12_isSeen_22 : decode cX12_isSeen 22 = .ok (.goto 4, 3) := dkAt dk06ref2_cX12_isSeen_0_a 15 rfl
noncomputable def dk06ref2_cX12_seesOf_0 : List (Nat × Instr × Nat) := [(0, .iconst 0, 1), (1, .istore_n 2, 1), (2, .iconst 0, 1), (3, .istore_n 3, 1), (4, .iload_n 3, 1), (5, .aload_n 0, 1), (6, .getfield 9, 3), (9, .iconst 0, 1), (10, .iaload, 1), (11, .if_icmp .ge 28, 3), (39, .iload_n 2, 1), (40, .ireturn, 1), (14, .iload_n 2, 1), (15, .aload_n 0, 1), (16, .iload_n 3, 1), (17, .iload_n 1, 1), (18, .invokevirtual 174, 3), (21, .ifCond .eq 9, 3), (24, .iconst 1, 1), (25, .iload_n 3, 1), (26, .ishl, 1), (27, .goto 4, 3), (31, .ior, 1), (32, .istore_n 2, 1), (33, .iinc 3 1, 3), (36, .goto (-32), 3), (30, .iconst 0, 1)]
set_option maxRecDepth 100000 in
theorem dk06ref2_cX12_seesOf_0_a : dkA cX12_seesOf dk06ref2_cX12_seesOf_0 = true := by decide +kernel
theorem dX12_seesOf_0 : decode cX12_seesOf 0 = .ok (.iconst 0, 1) := dkAt dk06ref2_cX12_seesOf_0_a 0 rfl
theorem dX12_seesOf_1 : decode cX12_seesOf 1 = .ok (.istore_n 2, 1) := dkAt dk06ref2_cX12_seesOf_0_a 1 rfl
theorem dX12_seesOf_2 : decode cX12_seesOf 2 = .ok (.iconst 0, 1) := dkAt dk06ref2_cX12_seesOf_0_a 2 rfl
theorem dX12_seesOf_3 : decode cX12_seesOf 3 = .ok (.istore_n 3, 1) := dkAt dk06ref2_cX12_seesOf_0_a 3 rfl
theorem dX12_seesOf_4 : decode cX12_seesOf 4 = .ok (.iload_n 3, 1) := dkAt dk06ref2_cX12_seesOf_0_a 4 rfl
theorem dX12_seesOf_5 : decode cX12_seesOf 5 = .ok (.aload_n 0, 1) := dkAt dk06ref2_cX12_seesOf_0_a 5 rfl
theorem dX12_seesOf_6 : decode cX12_seesOf 6 = .ok (.getfield 9, 3) := dkAt dk06ref2_cX12_seesOf_0_a 6 rfl
theorem dX12_seesOf_9 : decode cX12_seesOf 9 = .ok (.iconst 0, 1) := dkAt dk06ref2_cX12_seesOf_0_a 7 rfl
theorem dX12_seesOf_10 : decode cX12_seesOf 10 = .ok (.iaload, 1) := dkAt dk06ref2_cX12_seesOf_0_a 8 rfl
theorem dX12_seesOf_11 : decode cX12_seesOf 11 = .ok (.if_icmp .ge 28, 3) := dkAt dk06ref2_cX12_seesOf_0_a 9 rfl
theorem dX12_seesOf_39 : decode cX12_seesOf 39 = .ok (.iload_n 2, 1) := dkAt dk06ref2_cX12_seesOf_0_a 10 rfl
theorem dX12_seesOf_40 : decode cX12_seesOf 40 = .ok (.ireturn, 1) := dkAt dk06ref2_cX12_seesOf_0_a 11 rfl
theorem dX12_seesOf_14 : decode cX12_seesOf 14 = .ok (.iload_n 2, 1) := dkAt dk06ref2_cX12_seesOf_0_a 12 rfl
theorem dX12_seesOf_15 : decode cX12_seesOf 15 = .ok (.aload_n 0, 1) := dkAt dk06ref2_cX12_seesOf_0_a 13 rfl
theorem dX12_seesOf_16 : decode cX12_seesOf 16 = .ok (.iload_n 3, 1) := dkAt dk06ref2_cX12_seesOf_0_a 14 rfl
theorem dX12_seesOf_17 : decode cX12_seesOf 17 = .ok (.iload_n 1, 1) := dkAt dk06ref2_cX12_seesOf_0_a 15 rfl
theorem dX12_seesOf_18 : decode cX12_seesOf 18 = .ok (.invokevirtual 174, 3) := dkAt dk06ref2_cX12_seesOf_0_a 16 rfl
theorem dX12_seesOf_21 : decode cX12_seesOf 21 = .ok (.ifCond .eq 9, 3) := dkAt dk06ref2_cX12_seesOf_0_a 17 rfl
theorem dX12_seesOf_24 : decode cX12_seesOf 24 = .ok (.iconst 1, 1) := dkAt dk06ref2_cX12_seesOf_0_a 18 rfl
theorem dX12_seesOf_25 : decode cX12_seesOf 25 = .ok (.iload_n 3, 1) := dkAt dk06ref2_cX12_seesOf_0_a 19 rfl
theorem dX12_seesOf_26 : decode cX12_seesOf 26 = .ok (.ishl, 1) := dkAt dk06ref2_cX12_seesOf_0_a 20 rfl
theorem dX12_seesOf_27 : decode cX12_seesOf 27 = .ok (.goto 4, 3) := dkAt dk06ref2_cX12_seesOf_0_a 21 rfl
theorem dX12_seesOf_31 : decode cX12_seesOf 31 = .ok (.ior, 1) := dkAt dk06ref2_cX12_seesOf_0_a 22 rfl
theorem dX12_seesOf_32 : decode cX12_seesOf 32 = .ok (.istore_n 2, 1) := dkAt dk06ref2_cX12_seesOf_0_a 23 rfl
theorem dX12_seesOf_33 : decode cX12_seesOf 33 = .ok (.iinc 3 1, 3) := dkAt dk06ref2_cX12_seesOf_0_a 24 rfl
theorem dX12_seesOf_36 : decode cX12_seesOf 36 = .ok (.goto (-32), 3) := dkAt dk06ref2_cX12_seesOf_0_a 25 rfl
theorem dX12_seesOf_30 : decode cX12_seesOf 30 = .ok (.iconst 0, 1) := dkAt dk06ref2_cX12_seesOf_0_a 26 rfl
noncomputable def dk06ref2_cX12_sees_0 : List (Nat × Instr × Nat) := [(0, .iload_n 1, 1), (1, .invokestatic 149, 3), (4, .ifCond .eq 11, 3), (7, .aload_n 0, 1), (8, .iload_n 1, 1), (9, .invokevirtual 178, 3), (12, .goto 4, 3), (16, .ireturn, 1), (15, .iconst (-1), 1)]
set_option maxRecDepth 100000 in
theorem dk06ref2_cX12_sees_0_a : dkA cX12_sees dk06ref2_cX12_sees_0 = true := by decide +kernel
theorem dX12_sees_0 : decode cX12_sees 0 = .ok (.iload_n 1, 1) := dkAt dk06ref2_cX12_sees_0_a 0 rfl
theorem dX12_sees_1 : decode cX12_sees 1 = .ok (.invokestatic 149, 3) := dkAt dk06ref2_cX12_sees_0_a 1 rfl
theorem dX12_sees_4 : decode cX12_sees 4 = .ok (.ifCond .eq 11, 3) := dkAt dk06ref2_cX12_sees_0_a 2 rfl
theorem dX12_sees_7 : decode cX12_sees 7 = .ok (.aload_n 0, 1) := dkAt dk06ref2_cX12_sees_0_a 3 rfl
theorem dX12_sees_8 : decode cX12_sees 8 = .ok (.iload_n 1, 1) := dkAt dk06ref2_cX12_sees_0_a 4 rfl
theorem dX12_sees_9 : decode cX12_sees 9 = .ok (.invokevirtual 178, 3) := dkAt dk06ref2_cX12_sees_0_a 5 rfl
theorem dX12_sees_12 : decode cX12_sees 12 = .ok (.goto 4, 3) := dkAt dk06ref2_cX12_sees_0_a 6 rfl
theorem dX12_sees_16 : decode cX12_sees 16 = .ok (.ireturn, 1) := dkAt dk06ref2_cX12_sees_0_a 7 rfl
theorem dX12_sees_15 : decode cX12_sees 15 = .ok (.iconst (-1), 1) := dkAt dk06ref2_cX12_sees_0_a 8 rfl
noncomputable def dk06ref2_cX12_where_0 : List (Nat × Instr × Nat) := [(0, .iload_n 1, 1), (1, .ifCond .lt 14, 3), (15, .ldc2_w 181, 3), (18, .lreturn, 1), (4, .iload_n 1, 1), (5, .aload_n 0, 1), (6, .getfield 9, 3), (9, .iconst 0, 1), (10, .iaload, 1), (11, .ishr, 1), (12, .ifCond .eq 7, 3), (19, .lconst 0, 1), (20, .lstore_n 2, 1), (21, .iconst 0, 1), (22, .istore 4, 2), (24, .iload 4, 2), (26, .bipush 36, 2), (28, .if_icmp .ge 30, 3), (58, .lload_n 2, 1), (59, .lreturn, 1), (31, .lload_n 2, 1), (32, .aload_n 0, 1), (33, .iload 4, 2), (35, .invokevirtual 178, 3), (38, .iload_n 1, 1), (39, .if_icmp .ne 10, 3), (49, .lconst 0, 1), (50, .lor, 1), (51, .lstore_n 2, 1), (52, .iinc 4 1, 3), (55, .goto (-31), 3), (42, .lconst 1, 1), (43, .iload 4, 2), (45, .lshl, 1), (46, .goto 4, 3)]
set_option maxRecDepth 100000 in
theorem dk06ref2_cX12_where_0_a : dkA cX12_where dk06ref2_cX12_where_0 = true := by decide +kernel
theorem dX12_where_0 : decode cX12_where 0 = .ok (.iload_n 1, 1) := dkAt dk06ref2_cX12_where_0_a 0 rfl
theorem dX12_where_1 : decode cX12_where 1 = .ok (.ifCond .lt 14, 3) := dkAt dk06ref2_cX12_where_0_a 1 rfl
theorem dX12_where_15 : decode cX12_where 15 = .ok (.ldc2_w 181, 3) := dkAt dk06ref2_cX12_where_0_a 2 rfl
theorem dX12_where_18 : decode cX12_where 18 = .ok (.lreturn, 1) := dkAt dk06ref2_cX12_where_0_a 3 rfl
theorem dX12_where_4 : decode cX12_where 4 = .ok (.iload_n 1, 1) := dkAt dk06ref2_cX12_where_0_a 4 rfl
theorem dX12_where_5 : decode cX12_where 5 = .ok (.aload_n 0, 1) := dkAt dk06ref2_cX12_where_0_a 5 rfl
theorem dX12_where_6 : decode cX12_where 6 = .ok (.getfield 9, 3) := dkAt dk06ref2_cX12_where_0_a 6 rfl
theorem dX12_where_9 : decode cX12_where 9 = .ok (.iconst 0, 1) := dkAt dk06ref2_cX12_where_0_a 7 rfl
theorem dX12_where_10 : decode cX12_where 10 = .ok (.iaload, 1) := dkAt dk06ref2_cX12_where_0_a 8 rfl
theorem dX12_where_11 : decode cX12_where 11 = .ok (.ishr, 1) := dkAt dk06ref2_cX12_where_0_a 9 rfl
theorem dX12_where_12 : decode cX12_where 12 = .ok (.ifCond .eq 7, 3) := dkAt dk06ref2_cX12_where_0_a 10 rfl
theorem dX12_where_19 : decode cX12_where 19 = .ok (.lconst 0, 1) := dkAt dk06ref2_cX12_where_0_a 11 rfl
theorem dX12_where_20 : decode cX12_where 20 = .ok (.lstore_n 2, 1) := dkAt dk06ref2_cX12_where_0_a 12 rfl
theorem dX12_where_21 : decode cX12_where 21 = .ok (.iconst 0, 1) := dkAt dk06ref2_cX12_where_0_a 13 rfl
theorem dX12_where_22 : decode cX12_where 22 = .ok (.istore 4, 2) := dkAt dk06ref2_cX12_where_0_a 14 rfl
theorem dX12_where_24 : decode cX12_where 24 = .ok (.iload 4, 2) := dkAt dk06ref2_cX12_where_0_a 15 rfl
theorem dX12_where_26 : decode cX12_where 26 = .ok (.bipush 36, 2) := dkAt dk06ref2_cX12_where_0_a 16 rfl
theorem dX12_where_28 : decode cX12_where 28 = .ok (.if_icmp .ge 30, 3) := dkAt dk06ref2_cX12_where_0_a 17 rfl
theorem dX12_where_58 : decode cX12_where 58 = .ok (.lload_n 2, 1) := dkAt dk06ref2_cX12_where_0_a 18 rfl
theorem dX12_where_59 : decode cX12_where 59 = .ok (.lreturn, 1) := dkAt dk06ref2_cX12_where_0_a 19 rfl
theorem dX12_where_31 : decode cX12_where 31 = .ok (.lload_n 2, 1) := dkAt dk06ref2_cX12_where_0_a 20 rfl
theorem dX12_where_32 : decode cX12_where 32 = .ok (.aload_n 0, 1) := dkAt dk06ref2_cX12_where_0_a 21 rfl
theorem dX12_where_33 : decode cX12_where 33 = .ok (.iload 4, 2) := dkAt dk06ref2_cX12_where_0_a 22 rfl
theorem dX12_where_35 : decode cX12_where 35 = .ok (.invokevirtual 178, 3) := dkAt dk06ref2_cX12_where_0_a 23 rfl
theorem dX12_where_38 : decode cX12_where 38 = .ok (.iload_n 1, 1) := dkAt dk06ref2_cX12_where_0_a 24 rfl
theorem dX12_where_39 : decode cX12_where 39 = .ok (.if_icmp .ne 10, 3) := dkAt dk06ref2_cX12_where_0_a 25 rfl
theorem dX12_where_49 : decode cX12_where 49 = .ok (.lconst 0, 1) := dkAt dk06ref2_cX12_where_0_a 26 rfl
theorem dX12_where_50 : decode cX12_where 50 = .ok (.lor, 1) := dkAt dk06ref2_cX12_where_0_a 27 rfl
theorem dX12_where_51 : decode cX12_where 51 = .ok (.lstore_n 2, 1) := dkAt dk06ref2_cX12_where_0_a 28 rfl
theorem dX12_where_52 : decode cX12_where 52 = .ok (.iinc 4 1, 3) := dkAt dk06ref2_cX12_where_0_a 29 rfl
theorem dX12_where_55 : decode cX12_where 55 = .ok (.goto (-31), 3) := dkAt dk06ref2_cX12_where_0_a 30 rfl
theorem dX12_where_42 : decode cX12_where 42 = .ok (.lconst 1, 1) := dkAt dk06ref2_cX12_where_0_a 31 rfl
theorem dX12_where_43 : decode cX12_where 43 = .ok (.iload 4, 2) := dkAt dk06ref2_cX12_where_0_a 32 rfl
theorem dX12_where_45 : decode cX12_where 45 = .ok (.lshl, 1) := dkAt dk06ref2_cX12_where_0_a 33 rfl
theorem dX12_where_46 : decode cX12_where 46 = .ok (.goto 4, 3) := dkAt dk06ref2_cX12_where_0_a 34 rfl
theorem kc_looks_0 : ∀ w ∈ wsX120, w ∈ wsX12_looks := fun w h => List.mem_cons_of_mem _ (gin_wsX120 w h)
theorem kc_looks_1 : (.fieldLink RX12 18 "MistHeapsModel" "by" "[I" : Cond) ∈ wsX12_looks := kc_of 1149 rfl rfl rfl
theorem kc_looks_2 : (.fieldLink RX12 9 "MistHeapsModel" "s" "[I" : Cond) ∈ wsX12_looks := kc_of 1141 rfl rfl rfl
theorem kc_looks_3 : (.fieldLink RX12 143 "MistHeapsModel" "seeing" "I" : Cond) ∈ wsX12_looks := kc_of 1151 rfl rfl rfl
theorem kc_looks_4 : (.fieldLink RX12 146 "MistHeapsModel" "drifting" "I" : Cond) ∈ wsX12_looks := kc_of 1152 rfl rfl rfl
theorem kc_looks_5 : (.fieldLink RX12 21 "MistHeapsModel" "truths" "[Z" : Cond) ∈ wsX12_looks := kc_of 1150 rfl rfl rfl
set_option maxHeartbeats 4000000 in
set_option maxRecDepth 100000 in
theorem c_looks (l : Launch) (dC : Nat → ClassId) (dI : Nat → Nat → Nat) (m0 aS aI aB aT aG aO aN aD aY : Nat) (th im ac sp en wg op se dn rn kd nu tv : Int32) (bv : Int64) (cS cB cT : ClassId) (fS : Nat → Int32) (fB : Nat → Int32) (fT : Nat → Int32) (x y z : Int32) (cz : List pCla) (sz : Nat) (zh : hol fS cz) : Met l yX12_looks wsX12_looks ({ frames := 0, cells := 0, slots := 0, locals := 0 } : Room) (va_Pc [.ref m0, .int x, .int y, .int z] (fun U => U.heap.size = sz ∧ va_P (dC, dI) vwCl [(zo14irriiiiiirriirrrrlriiii m0 th aS aI im ac sp en wg op aB aT se dn aG aO aN aD bv aY rn kd nu tv), (zaI aS cS 901 fS), (zaI aB cB 6 fB), (zaI aT cT 64 fT)] U.heap ∧ va_K (dC, dI) vwCl [(cS, .int), (cB, .int), (cT, .boolean)] U ∧ va_D (fun _ => True) [(zo14irriiiiiirriirrrrlriiii m0 th aS aI im ac sp en wg op aB aT se dn aG aO aN aD bv aY rn kd nu tv), (zaI aS cS 901 fS), (zaI aB cB 6 fB), (zaI aT cT 64 fT)])) (va_Qv (fun (u : (Nat → Int32) × (Nat → Int32) × (Int32) × (Int32)) => match u with | (fB9, fT9, se9, dn9) => se9 = sTt (fct x y z (fS 6) (fS 7)) cz ∧ dn9 = tot (fct x y z (fS 6) (fS 7)) 3 cz) (fun (u : (Nat → Int32) × (Nat → Int32) × (Int32) × (Int32)) (t : State) => match u with | (fB9, fT9, se9, dn9) => va_P (dC, dI) vwCl [(zo14irriiiiiirriirrrrlriiii m0 th aS aI im ac sp en wg op aB aT se9 dn9 aG aO aN aD bv aY rn kd nu tv), (zaI aS cS 901 fS), (zaI aB cB 6 fB9), (zaI aT cT 64 fT9)] t.heap ∧ va_K (dC, dI) vwCl [(cS, .int), (cB, .int), (cT, .boolean)] t ∧ va_D (va_A [(zo14irriiiiiirriirrrrlriiii m0 th aS aI im ac sp en wg op aB aT se dn aG aO aN aD bv aY rn kd nu tv), (zaI aS cS 901 fS), (zaI aB cB 6 fB), (zaI aT cT 64 fT)] sz) [(zo14irriiiiiirriirrrrlriiii m0 th aS aI im ac sp en wg op aB aT se9 dn9 aG aO aN aD bv aY rn kd nu tv), (zaI aS cS 901 fS), (zaI aB cB 6 fB9), (zaI aT cT 64 fT9)]) (va_A [(zo14irriiiiiirriirrrrlriiii m0 th aS aI im ac sp en wg op aB aT se dn aG aO aN aD bv aY rn kd nu tv), (zaI aS cS 901 fS), (zaI aB cB 6 fB), (zaI aT cT 64 fT)] sz)) 0 0 (va_A [(zo14irriiiiiirriirrrrlriiii m0 th aS aI im ac sp en wg op aB aT se dn aG aO aN aD bv aY rn kd nu tv), (zaI aS cS 901 fS), (zaI aB cB 6 fB), (zaI aT cT 64 fT)] sz) := by
  refine met_ofQ (cc := cX12_looks) (maxL := 12) (ret := none) (by decide) rfl ?_
  intro p e s m args below meth c s₁ Q B hml hv hQ
  obtain ⟨rfl, hsz, hP, hK, hD0⟩ := hv
  have hx := B.exec
  have hb := B.bytes
  have hr := B.returns
  have hts := atoms_spec (ws := wsX12_looks) B.pre
  have hown : s.vm.findClass RX12 = some m.cls := findClass_of_methodNamed B.named
  have hlocks := B.notSynchronized
  subst hsz
  have hD := hD0.self (sz := s.heap.size)
  generalize hAe : va_A [(zo14irriiiiiirriirrrrlriiii m0 th aS aI im ac sp en wg op aB aT se dn aG aO aN aD bv aY rn kd nu tv), (zaI aS cS 901 fS), (zaI aB cB 6 fB), (zaI aT cT 64 fT)] s.heap.size = A at hD hQ ⊢
  have hA : ∀ q : Nat, s.heap.size ≤ q → A q := fun q h => by rw [← hAe]; exact Or.inr h
  have hS : va_S A s.heap s.heap [] := va_S.rf
  have hl := lv_entry [.ref m0, .int x, .int y, .int z] (n := 12) (Nat.le_of_ble_eq_true rfl)
  rw [lg_entry_eq]
  generalize (lg_sl [.ref m0, .int x, .int y, .int z] ++ List.replicate (12 - (lg_sl [.ref m0, .int x, .int y, .int z]).length) Slot.unset).toArray = ls at hl ⊢
  generalize hag : ([.ref m0, .int x, .int y, .int z] : List Value).toArray = args at hts hQ ⊢
  have hl : lv_has ls 12 [(0, .ref m0), (1, .int x), (2, .int y), (3, .int z)] := hl
  obtain ⟨H, hH⟩ : ∃ H : Heap, H = s.heap := ⟨_, rfl⟩
  rw [← hH] at hP
  rw [← hH]
  have hS : va_S A s.heap H [] := by rw [hH]; exact hS
  obtain ⟨locs, hlo⟩ : ∃ L : List Loc, L = [] := ⟨_, rfl⟩
  rw [← hlo] at hS
  rw [← hlo]
  clear hH hlo
  obtain ⟨hwf, ⟨zh, rfl⟩ | ⟨h, hh, zh, ⟨k, hk, zk, zo⟩, hcd⟩⟩ := zh
  · skip
    refine lv_aload_n hx hb dX12_looks_0 rfl (lv_at hl 0 rfl) ?_
    refine va_get (D := (dC, dI)) (ci := 14) (v := .ref aB) (C := RX12) (T := TX12) (N := 23) hx hb hts kc_looks_0 hown hK hP 0 rfl rfl 9 (by decide) (hts (.fieldLink RX12 18 "MistHeapsModel" "by" "[I") kc_looks_1) (fun _ h9 => h9) rfl dX12_looks_1 ?_
    refine lv_iconst (v := 0) hx hb dX12_looks_4 (by decide) ?_
    refine lv_iload_n hx hb dX12_looks_5 rfl (lv_at hl 1 rfl) ?_
    refine va_iast hx hb hK hP hD hS 2 1 rfl rfl (vp_in_nI (n := 0) (N := 6) (by omega) (by omega)) dX12_looks_6 (fun H locs hP hD hS => ?_)
    have hP : va_P (dC, dI) vwCl [(zo14irriiiiiirriirrrrlriiii m0 th aS aI im ac sp en wg op aB aT se dn aG aO aN aD bv aY rn kd nu tv), (zaI aS cS 901 fS), (zaI aB cB 6 (upd fB 0 x)), (zaI aT cT 64 fT)] H := hP
    have hD : va_D A [(zo14irriiiiiirriirrrrlriiii m0 th aS aI im ac sp en wg op aB aT se dn aG aO aN aD bv aY rn kd nu tv), (zaI aS cS 901 fS), (zaI aB cB 6 (upd fB 0 x)), (zaI aT cT 64 fT)] := hD
    refine lv_aload_n hx hb dX12_looks_7 rfl (lv_at hl 0 rfl) ?_
    refine va_get (D := (dC, dI)) (ci := 14) (v := .ref aB) (C := RX12) (T := TX12) (N := 23) hx hb hts kc_looks_0 hown hK hP 0 rfl rfl 9 (by decide) (hts (.fieldLink RX12 18 "MistHeapsModel" "by" "[I") kc_looks_1) (fun _ h9 => h9) rfl dX12_looks_8 ?_
    refine lv_iconst (v := 1) hx hb dX12_looks_11 (by decide) ?_
    refine lv_iload_n hx hb dX12_looks_12 rfl (lv_at hl 2 rfl) ?_
    refine va_iast hx hb hK hP hD hS 2 1 rfl rfl (vp_in_nI (n := 1) (N := 6) (by omega) (by omega)) dX12_looks_13 (fun H locs hP hD hS => ?_)
    have hP : va_P (dC, dI) vwCl [(zo14irriiiiiirriirrrrlriiii m0 th aS aI im ac sp en wg op aB aT se dn aG aO aN aD bv aY rn kd nu tv), (zaI aS cS 901 fS), (zaI aB cB 6 (upd (upd fB 0 x) 1 y)), (zaI aT cT 64 fT)] H := hP
    have hD : va_D A [(zo14irriiiiiirriirrrrlriiii m0 th aS aI im ac sp en wg op aB aT se dn aG aO aN aD bv aY rn kd nu tv), (zaI aS cS 901 fS), (zaI aB cB 6 (upd (upd fB 0 x) 1 y)), (zaI aT cT 64 fT)] := hD
    refine lv_aload_n hx hb dX12_looks_14 rfl (lv_at hl 0 rfl) ?_
    refine va_get (D := (dC, dI)) (ci := 14) (v := .ref aB) (C := RX12) (T := TX12) (N := 23) hx hb hts kc_looks_0 hown hK hP 0 rfl rfl 9 (by decide) (hts (.fieldLink RX12 18 "MistHeapsModel" "by" "[I") kc_looks_1) (fun _ h9 => h9) rfl dX12_looks_15 ?_
    refine lv_iconst (v := 2) hx hb dX12_looks_18 (by decide) ?_
    refine lv_iload_n hx hb dX12_looks_19 rfl (lv_at hl 3 rfl) ?_
    refine lv_bipush (v := 6) hx hb dX12_looks_20 (by decide) ?_
    refine lv_idiv hx hb dX12_looks_22 (by decide) ?_
    refine va_iast hx hb hK hP hD hS 2 1 rfl rfl (vp_in_nI (n := 2) (N := 6) (by omega) (by omega)) dX12_looks_23 (fun H locs hP hD hS => ?_)
    have hP : va_P (dC, dI) vwCl [(zo14irriiiiiirriirrrrlriiii m0 th aS aI im ac sp en wg op aB aT se dn aG aO aN aD bv aY rn kd nu tv), (zaI aS cS 901 fS), (zaI aB cB 6 (upd (upd (upd fB 0 x) 1 y) 2 (z / 6))), (zaI aT cT 64 fT)] H := hP
    have hD : va_D A [(zo14irriiiiiirriirrrrlriiii m0 th aS aI im ac sp en wg op aB aT se dn aG aO aN aD bv aY rn kd nu tv), (zaI aS cS 901 fS), (zaI aB cB 6 (upd (upd (upd fB 0 x) 1 y) 2 (z / 6))), (zaI aT cT 64 fT)] := hD
    refine lv_aload_n hx hb dX12_looks_24 rfl (lv_at hl 0 rfl) ?_
    refine va_get (D := (dC, dI)) (ci := 14) (v := .ref aB) (C := RX12) (T := TX12) (N := 23) hx hb hts kc_looks_0 hown hK hP 0 rfl rfl 9 (by decide) (hts (.fieldLink RX12 18 "MistHeapsModel" "by" "[I") kc_looks_1) (fun _ h9 => h9) rfl dX12_looks_25 ?_
    refine lv_iconst (v := 3) hx hb dX12_looks_28 (by decide) ?_
    refine lv_iload_n hx hb dX12_looks_29 rfl (lv_at hl 3 rfl) ?_
    refine lv_bipush (v := 6) hx hb dX12_looks_30 (by decide) ?_
    refine lv_irem hx hb dX12_looks_32 (by decide) ?_
    refine va_iast hx hb hK hP hD hS 2 1 rfl rfl (vp_in_nI (n := 3) (N := 6) (by omega) (by omega)) dX12_looks_33 (fun H locs hP hD hS => ?_)
    have hP : va_P (dC, dI) vwCl [(zo14irriiiiiirriirrrrlriiii m0 th aS aI im ac sp en wg op aB aT se dn aG aO aN aD bv aY rn kd nu tv), (zaI aS cS 901 fS), (zaI aB cB 6 (upd (upd (upd (upd fB 0 x) 1 y) 2 (z / 6)) 3 (z - z / 6 * 6))), (zaI aT cT 64 fT)] H := hP
    have hD : va_D A [(zo14irriiiiiirriirrrrlriiii m0 th aS aI im ac sp en wg op aB aT se dn aG aO aN aD bv aY rn kd nu tv), (zaI aS cS 901 fS), (zaI aB cB 6 (upd (upd (upd (upd fB 0 x) 1 y) 2 (z / 6)) 3 (z - z / 6 * 6))), (zaI aT cT 64 fT)] := hD
    refine lv_aload_n hx hb dX12_looks_34 rfl (lv_at hl 0 rfl) ?_
    refine va_get (D := (dC, dI)) (ci := 14) (v := .ref aB) (C := RX12) (T := TX12) (N := 23) hx hb hts kc_looks_0 hown hK hP 0 rfl rfl 9 (by decide) (hts (.fieldLink RX12 18 "MistHeapsModel" "by" "[I") kc_looks_1) (fun _ h9 => h9) rfl dX12_looks_35 ?_
    refine lv_iconst (v := 4) hx hb dX12_looks_38 (by decide) ?_
    refine lv_aload_n hx hb dX12_looks_39 rfl (lv_at hl 0 rfl) ?_
    refine va_get (D := (dC, dI)) (ci := 14) (v := .ref aS) (C := RX12) (T := TX12) (N := 23) hx hb hts kc_looks_0 hown hK hP 0 rfl rfl 1 (by decide) (hts (.fieldLink RX12 9 "MistHeapsModel" "s" "[I") kc_looks_2) (fun _ h9 => h9) rfl dX12_looks_40 ?_
    refine lv_bipush (v := 6) hx hb dX12_looks_43 (by decide) ?_
    refine va_iald hx hb hK hP 1 0 rfl rfl (vp_in_nI (n := 6) (N := 901) (by omega) (by omega)) dX12_looks_45 ?_
    refine qi_as (y := fS 6) (rfl) ?_
    refine va_iast hx hb hK hP hD hS 2 1 rfl rfl (vp_in_nI (n := 4) (N := 6) (by omega) (by omega)) dX12_looks_46 (fun H locs hP hD hS => ?_)
    have hP : va_P (dC, dI) vwCl [(zo14irriiiiiirriirrrrlriiii m0 th aS aI im ac sp en wg op aB aT se dn aG aO aN aD bv aY rn kd nu tv), (zaI aS cS 901 fS), (zaI aB cB 6 (upd (upd (upd (upd (upd fB 0 x) 1 y) 2 (z / 6)) 3 (z - z / 6 * 6)) 4 (fS 6))), (zaI aT cT 64 fT)] H := hP
    have hD : va_D A [(zo14irriiiiiirriirrrrlriiii m0 th aS aI im ac sp en wg op aB aT se dn aG aO aN aD bv aY rn kd nu tv), (zaI aS cS 901 fS), (zaI aB cB 6 (upd (upd (upd (upd (upd fB 0 x) 1 y) 2 (z / 6)) 3 (z - z / 6 * 6)) 4 (fS 6))), (zaI aT cT 64 fT)] := hD
    refine lv_aload_n hx hb dX12_looks_47 rfl (lv_at hl 0 rfl) ?_
    refine va_get (D := (dC, dI)) (ci := 14) (v := .ref aB) (C := RX12) (T := TX12) (N := 23) hx hb hts kc_looks_0 hown hK hP 0 rfl rfl 9 (by decide) (hts (.fieldLink RX12 18 "MistHeapsModel" "by" "[I") kc_looks_1) (fun _ h9 => h9) rfl dX12_looks_48 ?_
    refine lv_iconst (v := 5) hx hb dX12_looks_51 (by decide) ?_
    refine lv_aload_n hx hb dX12_looks_52 rfl (lv_at hl 0 rfl) ?_
    refine va_get (D := (dC, dI)) (ci := 14) (v := .ref aS) (C := RX12) (T := TX12) (N := 23) hx hb hts kc_looks_0 hown hK hP 0 rfl rfl 1 (by decide) (hts (.fieldLink RX12 9 "MistHeapsModel" "s" "[I") kc_looks_2) (fun _ h9 => h9) rfl dX12_looks_53 ?_
    refine lv_bipush (v := 7) hx hb dX12_looks_56 (by decide) ?_
    refine va_iald hx hb hK hP 1 0 rfl rfl (vp_in_nI (n := 7) (N := 901) (by omega) (by omega)) dX12_looks_58 ?_
    refine qi_as (y := fS 7) (rfl) ?_
    refine va_iast hx hb hK hP hD hS 2 1 rfl rfl (vp_in_nI (n := 5) (N := 6) (by omega) (by omega)) dX12_looks_59 (fun H locs hP hD hS => ?_)
    have hP : va_P (dC, dI) vwCl [(zo14irriiiiiirriirrrrlriiii m0 th aS aI im ac sp en wg op aB aT se dn aG aO aN aD bv aY rn kd nu tv), (zaI aS cS 901 fS), (zaI aB cB 6 (upd (upd (upd (upd (upd (upd fB 0 x) 1 y) 2 (z / 6)) 3 (z - z / 6 * 6)) 4 (fS 6)) 5 (fS 7))), (zaI aT cT 64 fT)] H := hP
    have hD : va_D A [(zo14irriiiiiirriirrrrlriiii m0 th aS aI im ac sp en wg op aB aT se dn aG aO aN aD bv aY rn kd nu tv), (zaI aS cS 901 fS), (zaI aB cB 6 (upd (upd (upd (upd (upd (upd fB 0 x) 1 y) 2 (z / 6)) 3 (z - z / 6 * 6)) 4 (fS 6)) 5 (fS 7))), (zaI aT cT 64 fT)] := hD
    obtain ⟨fB3, eB3⟩ : ∃ g : Nat → Int32, g = upd (upd (upd (upd (upd (upd fB 0 x) 1 y) 2 (z / 6)) 3 (z - z / 6 * 6)) 4 (fS 6)) 5 (fS 7) := ⟨_, rfl⟩
    have hfB : ∀ j, j < 6 → fB3 j = fct x y z (fS 6) (fS 7) j := fun j hj => by rw [eB3]; exact fct_of j hj
    rw [show upd (upd (upd (upd (upd (upd fB 0 x) 1 y) 2 (z / 6)) 3 (z - z / 6 * 6)) 4 (fS 6)) 5 (fS 7) = fB3 from eB3.symm] at hP hD
    have hP : va_P (dC, dI) vwCl [(zo14irriiiiiirriirrrrlriiii m0 th aS aI im ac sp en wg op aB aT se dn aG aO aN aD bv aY rn kd nu tv), (zaI aS cS 901 fS), (zaI aB cB 6 fB3), (zaI aT cT 64 fT)] H := hP
    have hD : va_D A [(zo14irriiiiiirriirrrrlriiii m0 th aS aI im ac sp en wg op aB aT se dn aG aO aN aD bv aY rn kd nu tv), (zaI aS cS 901 fS), (zaI aB cB 6 fB3), (zaI aT cT 64 fT)] := hD
    refine lv_aload_n hx hb dX12_looks_60 rfl (lv_at hl 0 rfl) ?_
    refine lv_iconst (v := 0) hx hb dX12_looks_61 (by decide) ?_
    refine va_put (D := (dC, dI)) (ci := 14) (v := .int 0) (ty := .int) (C := RX12) (T := TX12) (N := 23) hx hb hts kc_looks_0 tyX12 tyX12_ok nmX12 hown hK hP hD hS 0 rfl rfl 11 (by decide) (hts (.fieldLink RX12 143 "MistHeapsModel" "seeing" "I") kc_looks_3) (fun _ h9 => h9) rfl (by decide +kernel) rfl rfl (Nat.le_of_ble_eq_true rfl) dX12_looks_62 (fun H locs hP hD hS => ?_)
    have hP : va_P (dC, dI) vwCl [(zo14irriiiiiirriirrrrlriiii m0 th aS aI im ac sp en wg op aB aT 0 dn aG aO aN aD bv aY rn kd nu tv), (zaI aS cS 901 fS), (zaI aB cB 6 fB3), (zaI aT cT 64 fT)] H := hP
    have hD : va_D A [(zo14irriiiiiirriirrrrlriiii m0 th aS aI im ac sp en wg op aB aT 0 dn aG aO aN aD bv aY rn kd nu tv), (zaI aS cS 901 fS), (zaI aB cB 6 fB3), (zaI aT cT 64 fT)] := hD
    refine lv_aload_n hx hb dX12_looks_65 rfl (lv_at hl 0 rfl) ?_
    refine lv_iconst (v := 0) hx hb dX12_looks_66 (by decide) ?_
    refine va_put (D := (dC, dI)) (ci := 14) (v := .int 0) (ty := .int) (C := RX12) (T := TX12) (N := 23) hx hb hts kc_looks_0 tyX12 tyX12_ok nmX12 hown hK hP hD hS 0 rfl rfl 12 (by decide) (hts (.fieldLink RX12 146 "MistHeapsModel" "drifting" "I") kc_looks_4) (fun _ h9 => h9) rfl (by decide +kernel) rfl rfl (Nat.le_of_ble_eq_true rfl) dX12_looks_67 (fun H locs hP hD hS => ?_)
    have hP : va_P (dC, dI) vwCl [(zo14irriiiiiirriirrrrlriiii m0 th aS aI im ac sp en wg op aB aT 0 0 aG aO aN aD bv aY rn kd nu tv), (zaI aS cS 901 fS), (zaI aB cB 6 fB3), (zaI aT cT 64 fT)] H := hP
    have hD : va_D A [(zo14irriiiiiirriirrrrlriiii m0 th aS aI im ac sp en wg op aB aT 0 0 aG aO aN aD bv aY rn kd nu tv), (zaI aS cS 901 fS), (zaI aB cB 6 fB3), (zaI aT cT 64 fT)] := hD
    refine lv_aload_n hx hb dX12_looks_70 rfl (lv_at hl 0 rfl) ?_
    refine va_get (D := (dC, dI)) (ci := 14) (v := .ref aS) (C := RX12) (T := TX12) (N := 23) hx hb hts kc_looks_0 hown hK hP 0 rfl rfl 1 (by decide) (hts (.fieldLink RX12 9 "MistHeapsModel" "s" "[I") kc_looks_2) (fun _ h9 => h9) rfl dX12_looks_71 ?_
    refine lv_iconst (v := 5) hx hb dX12_looks_74 (by decide) ?_
    refine va_iald hx hb hK hP 1 0 rfl rfl (vp_in_nI (n := 5) (N := 901) (by omega) (by omega)) dX12_looks_75 ?_
    refine qi_as (y := (-1)) ((show fS (5 : Int32).toNatClampNeg = fS 5 from rfl).trans (zh)) ?_
    refine lv_iconst (v := (-1)) hx hb dX12_looks_76 (by decide) ?_
    refine lv_icmp_ne (tgt := 84) hx hb dX12_looks_77 (by decide) (fun c_1 => absurd c_1 (by decide)) (fun _ => ?_)
    refine lv_iconst (v := 0) hx hb dX12_looks_80 (by decide) ?_
    refine lv_goto (tgt := 99) hx hb dX12_looks_81 (by decide) ?_
    refine lv_istore (lv' := [(4, .int 0), (0, .ref m0), (1, .int x), (2, .int y), (3, .int z)]) hx hb dX12_looks_99 hl (by decide) rfl (fun ls hl => ?_)
    refine lv_sipush (v := 201) hx hb dX12_looks_101 (by decide) ?_
    refine lv_sipush (v := 140) hx hb dX12_looks_104 (by decide) ?_
    refine lv_aload_n hx hb dX12_looks_107 rfl (lv_at hl 1 rfl) ?_
    refine va_get (D := (dC, dI)) (ci := 14) (v := .ref aS) (C := RX12) (T := TX12) (N := 23) hx hb hts kc_looks_0 hown hK hP 0 rfl rfl 1 (by decide) (hts (.fieldLink RX12 9 "MistHeapsModel" "s" "[I") kc_looks_2) (fun _ h9 => h9) rfl dX12_looks_108 ?_
    refine lv_iconst (v := 5) hx hb dX12_looks_111 (by decide) ?_
    refine va_iald hx hb hK hP 1 0 rfl rfl (vp_in_nI (n := 5) (N := 901) (by omega) (by omega)) dX12_looks_112 ?_
    refine qi_as (y := (-1)) ((show fS (5 : Int32).toNatClampNeg = fS 5 from rfl).trans (zh)) ?_
    refine lv_imul hx hb dX12_looks_113 ?_
    refine qi_as (y := (-140)) (by decide) ?_
    refine lv_iadd hx hb dX12_looks_114 ?_
    refine qi_as (y := 61) (by decide) ?_
    refine lv_istore (lv' := [(5, .int 61), (4, .int 0), (0, .ref m0), (1, .int x), (2, .int y), (3, .int z)]) hx hb dX12_looks_115 hl (by decide) rfl (fun ls hl => ?_)
    refine lv_iconst (v := 0) hx hb dX12_looks_117 (by decide) ?_
    refine lv_istore (lv' := [(6, .int 0), (5, .int 61), (4, .int 0), (0, .ref m0), (1, .int x), (2, .int y), (3, .int z)]) hx hb dX12_looks_118 hl (by decide) rfl (fun ls hl => ?_)
    refine lv_iload hx hb dX12_looks_120 (lv_at hl 1 rfl) ?_
    refine lv_istore (lv' := [(7, .int 61), (6, .int 0), (5, .int 61), (4, .int 0), (0, .ref m0), (1, .int x), (2, .int y), (3, .int z)]) hx hb dX12_looks_122 hl (by decide) rfl (fun ls hl => ?_)
    refine lv_iload hx hb dX12_looks_124 (lv_at hl 0 rfl) ?_
    refine lv_iload hx hb dX12_looks_126 (lv_at hl 2 rfl) ?_
    refine lv_iload hx hb dX12_looks_128 (lv_at hl 3 rfl) ?_
    refine lv_iadd hx hb dX12_looks_130 ?_
    refine qi_as (y := 61) (by decide) ?_
    refine lv_icmp_ge (tgt := 460) hx hb dX12_looks_131 (by decide) (fun _ => ?_) (fun c_2 => absurd c_2 (by decide))
    rw [hQ]
    have hP9 := hP.sub (ws' := [(zo14irriiiiiirriirrrrlriiii m0 th aS aI im ac sp en wg op aB aT 0 0 aG aO aN aD bv aY rn kd nu tv), (zaI aS cS 901 fS), (zaI aB cB 6 fB3), (zaI aT cT 64 fT)]) [0, 1, 2, 3] rfl
    have hD9 := hD.sub (ws' := [(zo14irriiiiiirriirrrrlriiii m0 th aS aI im ac sp en wg op aB aT 0 0 aG aO aN aD bv aY rn kd nu tv), (zaI aS cS 901 fS), (zaI aB cB 6 fB3), (zaI aT cT 64 fT)]) [0, 1, 2, 3] (by decide) rfl
    have hK9 := hK.sub (tys' := [(cS, .int), (cB, .int), (cT, .boolean)]) [0, 1, 2] rfl
    exact W.vret hx hb hr (fun tQ htQ hWQ => ⟨⟨(fB3, fT, 0, 0), rfl, ⟨rfl, rfl⟩, by rw [htQ]; exact hP9, va_K.moved hWQ.alike hK9, hD9⟩, hS.F htQ⟩) hS.2.2 dX12_looks_460
  · skip
    have ek : k = (flC cz).length := (nI_eq (by omega) (by have := hcd.2.2.1; omega)).mp (zk.symm.trans hcd.1)
    refine lv_aload_n hx hb dX12_looks_0 rfl (lv_at hl 0 rfl) ?_
    refine va_get (D := (dC, dI)) (ci := 14) (v := .ref aB) (C := RX12) (T := TX12) (N := 23) hx hb hts kc_looks_0 hown hK hP 0 rfl rfl 9 (by decide) (hts (.fieldLink RX12 18 "MistHeapsModel" "by" "[I") kc_looks_1) (fun _ h9 => h9) rfl dX12_looks_1 ?_
    refine lv_iconst (v := 0) hx hb dX12_looks_4 (by decide) ?_
    refine lv_iload_n hx hb dX12_looks_5 rfl (lv_at hl 1 rfl) ?_
    refine va_iast hx hb hK hP hD hS 2 1 rfl rfl (vp_in_nI (n := 0) (N := 6) (by omega) (by omega)) dX12_looks_6 (fun H locs hP hD hS => ?_)
    have hP : va_P (dC, dI) vwCl [(zo14irriiiiiirriirrrrlriiii m0 th aS aI im ac sp en wg op aB aT se dn aG aO aN aD bv aY rn kd nu tv), (zaI aS cS 901 fS), (zaI aB cB 6 (upd fB 0 x)), (zaI aT cT 64 fT)] H := hP
    have hD : va_D A [(zo14irriiiiiirriirrrrlriiii m0 th aS aI im ac sp en wg op aB aT se dn aG aO aN aD bv aY rn kd nu tv), (zaI aS cS 901 fS), (zaI aB cB 6 (upd fB 0 x)), (zaI aT cT 64 fT)] := hD
    refine lv_aload_n hx hb dX12_looks_7 rfl (lv_at hl 0 rfl) ?_
    refine va_get (D := (dC, dI)) (ci := 14) (v := .ref aB) (C := RX12) (T := TX12) (N := 23) hx hb hts kc_looks_0 hown hK hP 0 rfl rfl 9 (by decide) (hts (.fieldLink RX12 18 "MistHeapsModel" "by" "[I") kc_looks_1) (fun _ h9 => h9) rfl dX12_looks_8 ?_
    refine lv_iconst (v := 1) hx hb dX12_looks_11 (by decide) ?_
    refine lv_iload_n hx hb dX12_looks_12 rfl (lv_at hl 2 rfl) ?_
    refine va_iast hx hb hK hP hD hS 2 1 rfl rfl (vp_in_nI (n := 1) (N := 6) (by omega) (by omega)) dX12_looks_13 (fun H locs hP hD hS => ?_)
    have hP : va_P (dC, dI) vwCl [(zo14irriiiiiirriirrrrlriiii m0 th aS aI im ac sp en wg op aB aT se dn aG aO aN aD bv aY rn kd nu tv), (zaI aS cS 901 fS), (zaI aB cB 6 (upd (upd fB 0 x) 1 y)), (zaI aT cT 64 fT)] H := hP
    have hD : va_D A [(zo14irriiiiiirriirrrrlriiii m0 th aS aI im ac sp en wg op aB aT se dn aG aO aN aD bv aY rn kd nu tv), (zaI aS cS 901 fS), (zaI aB cB 6 (upd (upd fB 0 x) 1 y)), (zaI aT cT 64 fT)] := hD
    refine lv_aload_n hx hb dX12_looks_14 rfl (lv_at hl 0 rfl) ?_
    refine va_get (D := (dC, dI)) (ci := 14) (v := .ref aB) (C := RX12) (T := TX12) (N := 23) hx hb hts kc_looks_0 hown hK hP 0 rfl rfl 9 (by decide) (hts (.fieldLink RX12 18 "MistHeapsModel" "by" "[I") kc_looks_1) (fun _ h9 => h9) rfl dX12_looks_15 ?_
    refine lv_iconst (v := 2) hx hb dX12_looks_18 (by decide) ?_
    refine lv_iload_n hx hb dX12_looks_19 rfl (lv_at hl 3 rfl) ?_
    refine lv_bipush (v := 6) hx hb dX12_looks_20 (by decide) ?_
    refine lv_idiv hx hb dX12_looks_22 (by decide) ?_
    refine va_iast hx hb hK hP hD hS 2 1 rfl rfl (vp_in_nI (n := 2) (N := 6) (by omega) (by omega)) dX12_looks_23 (fun H locs hP hD hS => ?_)
    have hP : va_P (dC, dI) vwCl [(zo14irriiiiiirriirrrrlriiii m0 th aS aI im ac sp en wg op aB aT se dn aG aO aN aD bv aY rn kd nu tv), (zaI aS cS 901 fS), (zaI aB cB 6 (upd (upd (upd fB 0 x) 1 y) 2 (z / 6))), (zaI aT cT 64 fT)] H := hP
    have hD : va_D A [(zo14irriiiiiirriirrrrlriiii m0 th aS aI im ac sp en wg op aB aT se dn aG aO aN aD bv aY rn kd nu tv), (zaI aS cS 901 fS), (zaI aB cB 6 (upd (upd (upd fB 0 x) 1 y) 2 (z / 6))), (zaI aT cT 64 fT)] := hD
    refine lv_aload_n hx hb dX12_looks_24 rfl (lv_at hl 0 rfl) ?_
    refine va_get (D := (dC, dI)) (ci := 14) (v := .ref aB) (C := RX12) (T := TX12) (N := 23) hx hb hts kc_looks_0 hown hK hP 0 rfl rfl 9 (by decide) (hts (.fieldLink RX12 18 "MistHeapsModel" "by" "[I") kc_looks_1) (fun _ h9 => h9) rfl dX12_looks_25 ?_
    refine lv_iconst (v := 3) hx hb dX12_looks_28 (by decide) ?_
    refine lv_iload_n hx hb dX12_looks_29 rfl (lv_at hl 3 rfl) ?_
    refine lv_bipush (v := 6) hx hb dX12_looks_30 (by decide) ?_
    refine lv_irem hx hb dX12_looks_32 (by decide) ?_
    refine va_iast hx hb hK hP hD hS 2 1 rfl rfl (vp_in_nI (n := 3) (N := 6) (by omega) (by omega)) dX12_looks_33 (fun H locs hP hD hS => ?_)
    have hP : va_P (dC, dI) vwCl [(zo14irriiiiiirriirrrrlriiii m0 th aS aI im ac sp en wg op aB aT se dn aG aO aN aD bv aY rn kd nu tv), (zaI aS cS 901 fS), (zaI aB cB 6 (upd (upd (upd (upd fB 0 x) 1 y) 2 (z / 6)) 3 (z - z / 6 * 6))), (zaI aT cT 64 fT)] H := hP
    have hD : va_D A [(zo14irriiiiiirriirrrrlriiii m0 th aS aI im ac sp en wg op aB aT se dn aG aO aN aD bv aY rn kd nu tv), (zaI aS cS 901 fS), (zaI aB cB 6 (upd (upd (upd (upd fB 0 x) 1 y) 2 (z / 6)) 3 (z - z / 6 * 6))), (zaI aT cT 64 fT)] := hD
    refine lv_aload_n hx hb dX12_looks_34 rfl (lv_at hl 0 rfl) ?_
    refine va_get (D := (dC, dI)) (ci := 14) (v := .ref aB) (C := RX12) (T := TX12) (N := 23) hx hb hts kc_looks_0 hown hK hP 0 rfl rfl 9 (by decide) (hts (.fieldLink RX12 18 "MistHeapsModel" "by" "[I") kc_looks_1) (fun _ h9 => h9) rfl dX12_looks_35 ?_
    refine lv_iconst (v := 4) hx hb dX12_looks_38 (by decide) ?_
    refine lv_aload_n hx hb dX12_looks_39 rfl (lv_at hl 0 rfl) ?_
    refine va_get (D := (dC, dI)) (ci := 14) (v := .ref aS) (C := RX12) (T := TX12) (N := 23) hx hb hts kc_looks_0 hown hK hP 0 rfl rfl 1 (by decide) (hts (.fieldLink RX12 9 "MistHeapsModel" "s" "[I") kc_looks_2) (fun _ h9 => h9) rfl dX12_looks_40 ?_
    refine lv_bipush (v := 6) hx hb dX12_looks_43 (by decide) ?_
    refine va_iald hx hb hK hP 1 0 rfl rfl (vp_in_nI (n := 6) (N := 901) (by omega) (by omega)) dX12_looks_45 ?_
    refine qi_as (y := fS 6) (rfl) ?_
    refine va_iast hx hb hK hP hD hS 2 1 rfl rfl (vp_in_nI (n := 4) (N := 6) (by omega) (by omega)) dX12_looks_46 (fun H locs hP hD hS => ?_)
    have hP : va_P (dC, dI) vwCl [(zo14irriiiiiirriirrrrlriiii m0 th aS aI im ac sp en wg op aB aT se dn aG aO aN aD bv aY rn kd nu tv), (zaI aS cS 901 fS), (zaI aB cB 6 (upd (upd (upd (upd (upd fB 0 x) 1 y) 2 (z / 6)) 3 (z - z / 6 * 6)) 4 (fS 6))), (zaI aT cT 64 fT)] H := hP
    have hD : va_D A [(zo14irriiiiiirriirrrrlriiii m0 th aS aI im ac sp en wg op aB aT se dn aG aO aN aD bv aY rn kd nu tv), (zaI aS cS 901 fS), (zaI aB cB 6 (upd (upd (upd (upd (upd fB 0 x) 1 y) 2 (z / 6)) 3 (z - z / 6 * 6)) 4 (fS 6))), (zaI aT cT 64 fT)] := hD
    refine lv_aload_n hx hb dX12_looks_47 rfl (lv_at hl 0 rfl) ?_
    refine va_get (D := (dC, dI)) (ci := 14) (v := .ref aB) (C := RX12) (T := TX12) (N := 23) hx hb hts kc_looks_0 hown hK hP 0 rfl rfl 9 (by decide) (hts (.fieldLink RX12 18 "MistHeapsModel" "by" "[I") kc_looks_1) (fun _ h9 => h9) rfl dX12_looks_48 ?_
    refine lv_iconst (v := 5) hx hb dX12_looks_51 (by decide) ?_
    refine lv_aload_n hx hb dX12_looks_52 rfl (lv_at hl 0 rfl) ?_
    refine va_get (D := (dC, dI)) (ci := 14) (v := .ref aS) (C := RX12) (T := TX12) (N := 23) hx hb hts kc_looks_0 hown hK hP 0 rfl rfl 1 (by decide) (hts (.fieldLink RX12 9 "MistHeapsModel" "s" "[I") kc_looks_2) (fun _ h9 => h9) rfl dX12_looks_53 ?_
    refine lv_bipush (v := 7) hx hb dX12_looks_56 (by decide) ?_
    refine va_iald hx hb hK hP 1 0 rfl rfl (vp_in_nI (n := 7) (N := 901) (by omega) (by omega)) dX12_looks_58 ?_
    refine qi_as (y := fS 7) (rfl) ?_
    refine va_iast hx hb hK hP hD hS 2 1 rfl rfl (vp_in_nI (n := 5) (N := 6) (by omega) (by omega)) dX12_looks_59 (fun H locs hP hD hS => ?_)
    have hP : va_P (dC, dI) vwCl [(zo14irriiiiiirriirrrrlriiii m0 th aS aI im ac sp en wg op aB aT se dn aG aO aN aD bv aY rn kd nu tv), (zaI aS cS 901 fS), (zaI aB cB 6 (upd (upd (upd (upd (upd (upd fB 0 x) 1 y) 2 (z / 6)) 3 (z - z / 6 * 6)) 4 (fS 6)) 5 (fS 7))), (zaI aT cT 64 fT)] H := hP
    have hD : va_D A [(zo14irriiiiiirriirrrrlriiii m0 th aS aI im ac sp en wg op aB aT se dn aG aO aN aD bv aY rn kd nu tv), (zaI aS cS 901 fS), (zaI aB cB 6 (upd (upd (upd (upd (upd (upd fB 0 x) 1 y) 2 (z / 6)) 3 (z - z / 6 * 6)) 4 (fS 6)) 5 (fS 7))), (zaI aT cT 64 fT)] := hD
    obtain ⟨fB3, eB3⟩ : ∃ g : Nat → Int32, g = upd (upd (upd (upd (upd (upd fB 0 x) 1 y) 2 (z / 6)) 3 (z - z / 6 * 6)) 4 (fS 6)) 5 (fS 7) := ⟨_, rfl⟩
    have hfB : ∀ j, j < 6 → fB3 j = fct x y z (fS 6) (fS 7) j := fun j hj => by rw [eB3]; exact fct_of j hj
    rw [show upd (upd (upd (upd (upd (upd fB 0 x) 1 y) 2 (z / 6)) 3 (z - z / 6 * 6)) 4 (fS 6)) 5 (fS 7) = fB3 from eB3.symm] at hP hD
    have hP : va_P (dC, dI) vwCl [(zo14irriiiiiirriirrrrlriiii m0 th aS aI im ac sp en wg op aB aT se dn aG aO aN aD bv aY rn kd nu tv), (zaI aS cS 901 fS), (zaI aB cB 6 fB3), (zaI aT cT 64 fT)] H := hP
    have hD : va_D A [(zo14irriiiiiirriirrrrlriiii m0 th aS aI im ac sp en wg op aB aT se dn aG aO aN aD bv aY rn kd nu tv), (zaI aS cS 901 fS), (zaI aB cB 6 fB3), (zaI aT cT 64 fT)] := hD
    refine lv_aload_n hx hb dX12_looks_60 rfl (lv_at hl 0 rfl) ?_
    refine lv_iconst (v := 0) hx hb dX12_looks_61 (by decide) ?_
    refine va_put (D := (dC, dI)) (ci := 14) (v := .int 0) (ty := .int) (C := RX12) (T := TX12) (N := 23) hx hb hts kc_looks_0 tyX12 tyX12_ok nmX12 hown hK hP hD hS 0 rfl rfl 11 (by decide) (hts (.fieldLink RX12 143 "MistHeapsModel" "seeing" "I") kc_looks_3) (fun _ h9 => h9) rfl (by decide +kernel) rfl rfl (Nat.le_of_ble_eq_true rfl) dX12_looks_62 (fun H locs hP hD hS => ?_)
    have hP : va_P (dC, dI) vwCl [(zo14irriiiiiirriirrrrlriiii m0 th aS aI im ac sp en wg op aB aT 0 dn aG aO aN aD bv aY rn kd nu tv), (zaI aS cS 901 fS), (zaI aB cB 6 fB3), (zaI aT cT 64 fT)] H := hP
    have hD : va_D A [(zo14irriiiiiirriirrrrlriiii m0 th aS aI im ac sp en wg op aB aT 0 dn aG aO aN aD bv aY rn kd nu tv), (zaI aS cS 901 fS), (zaI aB cB 6 fB3), (zaI aT cT 64 fT)] := hD
    refine lv_aload_n hx hb dX12_looks_65 rfl (lv_at hl 0 rfl) ?_
    refine lv_iconst (v := 0) hx hb dX12_looks_66 (by decide) ?_
    refine va_put (D := (dC, dI)) (ci := 14) (v := .int 0) (ty := .int) (C := RX12) (T := TX12) (N := 23) hx hb hts kc_looks_0 tyX12 tyX12_ok nmX12 hown hK hP hD hS 0 rfl rfl 12 (by decide) (hts (.fieldLink RX12 146 "MistHeapsModel" "drifting" "I") kc_looks_4) (fun _ h9 => h9) rfl (by decide +kernel) rfl rfl (Nat.le_of_ble_eq_true rfl) dX12_looks_67 (fun H locs hP hD hS => ?_)
    have hP : va_P (dC, dI) vwCl [(zo14irriiiiiirriirrrrlriiii m0 th aS aI im ac sp en wg op aB aT 0 0 aG aO aN aD bv aY rn kd nu tv), (zaI aS cS 901 fS), (zaI aB cB 6 fB3), (zaI aT cT 64 fT)] H := hP
    have hD : va_D A [(zo14irriiiiiirriirrrrlriiii m0 th aS aI im ac sp en wg op aB aT 0 0 aG aO aN aD bv aY rn kd nu tv), (zaI aS cS 901 fS), (zaI aB cB 6 fB3), (zaI aT cT 64 fT)] := hD
    refine lv_aload_n hx hb dX12_looks_70 rfl (lv_at hl 0 rfl) ?_
    refine va_get (D := (dC, dI)) (ci := 14) (v := .ref aS) (C := RX12) (T := TX12) (N := 23) hx hb hts kc_looks_0 hown hK hP 0 rfl rfl 1 (by decide) (hts (.fieldLink RX12 9 "MistHeapsModel" "s" "[I") kc_looks_2) (fun _ h9 => h9) rfl dX12_looks_71 ?_
    refine lv_iconst (v := 5) hx hb dX12_looks_74 (by decide) ?_
    refine va_iald hx hb hK hP 1 0 rfl rfl (vp_in_nI (n := 5) (N := 901) (by omega) (by omega)) dX12_looks_75 ?_
    refine qi_as (y := nI h) ((show fS (5 : Int32).toNatClampNeg = fS 5 from rfl).trans (zh)) ?_
    refine lv_iconst (v := (-1)) hx hb dX12_looks_76 (by decide) ?_
    refine lv_icmp_ne (tgt := 84) hx hb dX12_looks_77 (by decide) (fun c_3 => ?_) (fun c_3 => absurd c_3 (nI_nm1 (by omega)))
    refine lv_aload_n hx hb dX12_looks_84 rfl (lv_at hl 0 rfl) ?_
    refine va_get (D := (dC, dI)) (ci := 14) (v := .ref aS) (C := RX12) (T := TX12) (N := 23) hx hb hts kc_looks_0 hown hK hP 0 rfl rfl 1 (by decide) (hts (.fieldLink RX12 9 "MistHeapsModel" "s" "[I") kc_looks_2) (fun _ h9 => h9) rfl dX12_looks_85 ?_
    refine lv_sipush (v := 196) hx hb dX12_looks_88 (by decide) ?_
    refine lv_aload_n hx hb dX12_looks_91 rfl (lv_at hl 0 rfl) ?_
    refine va_get (D := (dC, dI)) (ci := 14) (v := .ref aS) (C := RX12) (T := TX12) (N := 23) hx hb hts kc_looks_0 hown hK hP 0 rfl rfl 1 (by decide) (hts (.fieldLink RX12 9 "MistHeapsModel" "s" "[I") kc_looks_2) (fun _ h9 => h9) rfl dX12_looks_92 ?_
    refine lv_iconst (v := 5) hx hb dX12_looks_95 (by decide) ?_
    refine va_iald hx hb hK hP 1 0 rfl rfl (vp_in_nI (n := 5) (N := 901) (by omega) (by omega)) dX12_looks_96 ?_
    refine qi_as (y := nI h) ((show fS (5 : Int32).toNatClampNeg = fS 5 from rfl).trans (zh)) ?_
    refine lv_iadd hx hb dX12_looks_97 ?_
    refine qi_as (y := nI (196 + h)) (nI_add 196 h) ?_
    refine va_iald hx hb hK hP 1 0 rfl rfl (vp_in_nI (n := 196 + h) (N := 901) (by omega) (by omega)) dX12_looks_98 ?_
    refine qi_as (y := nI k) ((show fS (nI (196 + h) : Int32).toNatClampNeg = fS (196 + h) from by rw [nI_clamp (by omega)]).trans (zk)) ?_
    refine lv_istore (lv' := [(4, .int (nI k)), (0, .ref m0), (1, .int x), (2, .int y), (3, .int z)]) hx hb dX12_looks_99 hl (by decide) rfl (fun ls hl => ?_)
    refine lv_sipush (v := 201) hx hb dX12_looks_101 (by decide) ?_
    refine lv_sipush (v := 140) hx hb dX12_looks_104 (by decide) ?_
    refine lv_aload_n hx hb dX12_looks_107 rfl (lv_at hl 1 rfl) ?_
    refine va_get (D := (dC, dI)) (ci := 14) (v := .ref aS) (C := RX12) (T := TX12) (N := 23) hx hb hts kc_looks_0 hown hK hP 0 rfl rfl 1 (by decide) (hts (.fieldLink RX12 9 "MistHeapsModel" "s" "[I") kc_looks_2) (fun _ h9 => h9) rfl dX12_looks_108 ?_
    refine lv_iconst (v := 5) hx hb dX12_looks_111 (by decide) ?_
    refine va_iald hx hb hK hP 1 0 rfl rfl (vp_in_nI (n := 5) (N := 901) (by omega) (by omega)) dX12_looks_112 ?_
    refine qi_as (y := nI h) ((show fS (5 : Int32).toNatClampNeg = fS 5 from rfl).trans (zh)) ?_
    refine lv_imul hx hb dX12_looks_113 ?_
    refine qi_as (y := nI (140 * h)) (pk_mul 140 h) ?_
    refine lv_iadd hx hb dX12_looks_114 ?_
    refine qi_as (y := nI (201 + (140 * h))) (nI_add 201 (140 * h)) ?_
    refine lv_istore (lv' := [(5, .int (nI (201 + (140 * h)))), (4, .int (nI k)), (0, .ref m0), (1, .int x), (2, .int y), (3, .int z)]) hx hb dX12_looks_115 hl (by decide) rfl (fun ls hl => ?_)
    refine lv_iconst (v := 0) hx hb dX12_looks_117 (by decide) ?_
    refine lv_istore (lv' := [(6, .int 0), (5, .int (nI (201 + (140 * h)))), (4, .int (nI k)), (0, .ref m0), (1, .int x), (2, .int y), (3, .int z)]) hx hb dX12_looks_118 hl (by decide) rfl (fun ls hl => ?_)
    refine lv_iload hx hb dX12_looks_120 (lv_at hl 1 rfl) ?_
    refine lv_istore (lv' := [(7, .int (nI (201 + (140 * h)))), (6, .int 0), (5, .int (nI (201 + (140 * h)))), (4, .int (nI k)), (0, .ref m0), (1, .int x), (2, .int y), (3, .int z)]) hx hb dX12_looks_122 hl (by decide) rfl (fun ls hl => ?_)
    have L124 : ∀ (nF : Nat) (i : Nat) (d : Nat) (se2 : Int32) (dn2 : Int32) (fT2 : Nat → Int32), k - i < nF → (i ≤ k) → (d ≤ 60) → (sdep (fun i => fS (201 + 140 * h + i)) i = some d) → (rrn fB3 ((0, tvOf fT), 0, 0) ((flC cz).take i) = ((d, tvOf fT2), se2, dn2)) → ∀ (H : Heap) (locs : List Loc), va_K (dC, dI) vwCl [(cS, .int), (cB, .int), (cT, .boolean)] s → va_P (dC, dI) vwCl [(zo14irriiiiiirriirrrrlriiii m0 th aS aI im ac sp en wg op aB aT se2 dn2 aG aO aN aD bv aY rn kd nu tv), (zaI aS cS 901 fS), (zaI aB cB 6 fB3), (zaI aT cT 64 fT2)] H → va_D A [(zo14irriiiiiirriirrrrlriiii m0 th aS aI im ac sp en wg op aB aT se2 dn2 aG aO aN aD bv aY rn kd nu tv), (zaI aS cS 901 fS), (zaI aB cB 6 fB3), (zaI aT cT 64 fT2)] → va_S A s.heap H locs → ∀ (ls : Array Slot), lv_has ls 12 [(0, .ref m0), (4, .int (nI k)), (5, .int (nI (201 + 140 * h))), (6, .int (nI d)), (7, .int (nI (201 + 140 * h + i)))] → W p l e ({ frames := 0, cells := 0, slots := 0, locals := 0 } : Room) s m args below meth c H locs 0 0 Q (F0 m 124 ls []) := by
      intro nF
      induction nF with
      | zero => intro i d se2 dn2 fT2 hm; exact absurd hm (Nat.not_lt_zero _)
      | succ nF ih124 =>
        intro i d se2 dn2 fT2 hm hi hd6 hd hR H locs hK hP hD hS ls hl
        refine lv_iload hx hb dX12_looks_124 (lv_at hl 4 rfl) ?_
        refine lv_iload hx hb dX12_looks_126 (lv_at hl 2 rfl) ?_
        refine lv_iload hx hb dX12_looks_128 (lv_at hl 1 rfl) ?_
        refine lv_iadd hx hb dX12_looks_130 ?_
        refine qi_as (y := nI ((201 + 140 * h) + k)) (nI_add (201 + 140 * h) k) ?_
        refine lv_icmp_ge (tgt := 460) hx hb dX12_looks_131 (by decide) (fun c_4 => ?_) (fun c_4 => ?_)
        · skip
          have c_4 : ((201 + 140 * h) + k) ≤ (201 + 140 * h + i) := (nI_leI (a := ((201 + 140 * h) + k)) (b := (201 + 140 * h + i)) (by omega) (by omega)).mp c_4
          rw [hQ]
          have hP9 := hP.sub (ws' := [(zo14irriiiiiirriirrrrlriiii m0 th aS aI im ac sp en wg op aB aT se2 dn2 aG aO aN aD bv aY rn kd nu tv), (zaI aS cS 901 fS), (zaI aB cB 6 fB3), (zaI aT cT 64 fT2)]) [0, 1, 2, 3] rfl
          have hD9 := hD.sub (ws' := [(zo14irriiiiiirriirrrrlriiii m0 th aS aI im ac sp en wg op aB aT se2 dn2 aG aO aN aD bv aY rn kd nu tv), (zaI aS cS 901 fS), (zaI aB cB 6 fB3), (zaI aT cT 64 fT2)]) [0, 1, 2, 3] (by decide) rfl
          have hK9 := hK.sub (tys' := [(cS, .int), (cB, .int), (cT, .boolean)]) [0, 1, 2] rfl
          exact W.vret hx hb hr (fun tQ htQ hWQ => ⟨⟨(fB3, fT2, se2, dn2), rfl, lk_end hwf hR (by omega) hfB, by rw [htQ]; exact hP9, va_K.moved hWQ.alike hK9, hD9⟩, hS.F htQ⟩) hS.2.2 dX12_looks_460
        · skip
          have c_4 : ¬ ((201 + 140 * h) + k) ≤ (201 + 140 * h + i) := fun q => c_4 ((nI_leI (a := ((201 + 140 * h) + k)) (b := (201 + 140 * h + i)) (by omega) (by omega)).mpr q)
          refine lv_aload_n hx hb dX12_looks_134 rfl (lv_at hl 0 rfl) ?_
          refine va_get (D := (dC, dI)) (ci := 14) (v := .ref aS) (C := RX12) (T := TX12) (N := 23) hx hb hts kc_looks_0 hown hK hP 0 rfl rfl 1 (by decide) (hts (.fieldLink RX12 9 "MistHeapsModel" "s" "[I") kc_looks_2) (fun _ h9 => h9) rfl dX12_looks_135 ?_
          refine lv_iload hx hb dX12_looks_138 (lv_at hl 4 rfl) ?_
          refine va_iald hx hb hK hP 1 0 rfl rfl (vp_in_nI (n := 201 + 140 * h + i) (N := 901) (by omega) (by omega)) dX12_looks_140 ?_
          obtain ⟨x0, ex⟩ : ∃ q : Int32, q = fS (201 + 140 * h + i) := ⟨_, rfl⟩
          obtain ⟨d2, hs2, hd2⟩ := sdep_step zo (show i < k by omega) hd
          have hs2 : stepd x0 d = some d2 := by rw [ex]; exact hs2
          obtain ⟨tk, etk⟩ : ∃ q : Nat, q = (flC cz).getD i 0 := ⟨_, rfl⟩
          have ext : x0 = rcd tk := by rw [ex, etk]; exact hcd.2.1 i (by omega)
          have htk : tOk2 tk := by rw [etk]; exact fl_ok cz hwf _ (gd_mem (by omega))
          refine qi_as (y := x0) ((show fS (nI (201 + 140 * h + i) : Int32).toNatClampNeg = fS (201 + 140 * h + i) from by rw [nI_clamp (by omega)]).trans (ex.symm)) ?_
          refine lv_istore (lv' := [(8, .int x0), (0, .ref m0), (4, .int (nI k)), (5, .int (nI (201 + 140 * h))), (6, .int (nI d)), (7, .int (nI (201 + 140 * h + i)))]) hx hb dX12_looks_141 hl (by decide) rfl (fun ls hl => ?_)
          rcases htk with htk | rfl | rfl | rfl | ⟨w9, v9, hw9, hv9, rfl⟩
          · skip
            obtain ⟨hnn, hr1, hr2, hr3⟩ := rcd_f htk ext
            obtain ⟨e2, h60, j, hj, ej⟩ := stepd_t hs2 hnn
            subst e2
            refine lv_iload hx hb dX12_looks_143 (lv_at hl 0 rfl) ?_
            refine lv_if_lt (tgt := 242) hx hb dX12_looks_145 (by decide) (fun c_5 => absurd c_5 (hnn)) (fun c_5 => ?_)
            refine lv_aload_n hx hb dX12_looks_148 rfl (lv_at hl 1 rfl) ?_
            refine va_get (D := (dC, dI)) (ci := 14) (v := .ref aB) (C := RX12) (T := TX12) (N := 23) hx hb hts kc_looks_0 hown hK hP 0 rfl rfl 9 (by decide) (hts (.fieldLink RX12 18 "MistHeapsModel" "by" "[I") kc_looks_1) (fun _ h9 => h9) rfl dX12_looks_149 ?_
            refine lv_iload hx hb dX12_looks_152 (lv_at hl 0 rfl) ?_
            refine lv_bipush (v := 8) hx hb dX12_looks_154 (by decide) ?_
            refine lv_irem hx hb dX12_looks_156 (by decide) ?_
            refine qi_as (y := nI (tk / 300)) (hr1) ?_
            refine va_iald hx hb hK hP 2 1 rfl rfl (vp_in_nI (n := tk / 300) (N := 6) (by omega) (by omega)) dX12_looks_157 ?_
            refine qi_as (y := fB3 (tk / 300)) (by rw [nI_clamp (by omega)]) ?_
            refine lv_istore (lv' := [(9, .int (fB3 (tk / 300))), (8, .int x0), (0, .ref m0), (4, .int (nI k)), (5, .int (nI (201 + 140 * h))), (6, .int (nI d)), (7, .int (nI (201 + 140 * h + i)))]) hx hb dX12_looks_158 hl (by decide) rfl (fun ls hl => ?_)
            refine lv_iload hx hb dX12_looks_160 (lv_at hl 1 rfl) ?_
            refine lv_bipush (v := 8) hx hb dX12_looks_162 (by decide) ?_
            refine lv_idiv hx hb dX12_looks_164 (by decide) ?_
            refine lv_iconst (v := 4) hx hb dX12_looks_165 (by decide) ?_
            refine lv_irem hx hb dX12_looks_166 (by decide) ?_
            refine qi_as (y := nI (tk / 100 % 3)) (hr2) ?_
            refine lv_istore (lv' := [(10, .int (nI (tk / 100 % 3))), (9, .int (fB3 (tk / 300))), (8, .int x0), (0, .ref m0), (4, .int (nI k)), (5, .int (nI (201 + 140 * h))), (6, .int (nI d)), (7, .int (nI (201 + 140 * h + i)))]) hx hb dX12_looks_167 hl (by decide) rfl (fun ls hl => ?_)
            refine lv_iload hx hb dX12_looks_169 (lv_at hl 2 rfl) ?_
            refine lv_bipush (v := 32) hx hb dX12_looks_171 (by decide) ?_
            refine lv_idiv hx hb dX12_looks_173 (by decide) ?_
            refine qi_as (y := nI (tk % 100)) (hr3) ?_
            refine lv_istore (lv' := [(11, .int (nI (tk % 100))), (10, .int (nI (tk / 100 % 3))), (9, .int (fB3 (tk / 300))), (8, .int x0), (0, .ref m0), (4, .int (nI k)), (5, .int (nI (201 + 140 * h))), (6, .int (nI d)), (7, .int (nI (201 + 140 * h + i)))]) hx hb dX12_looks_174 hl (by decide) rfl (fun ls hl => ?_)
            refine lv_aload_n hx hb dX12_looks_176 rfl (lv_at hl 4 rfl) ?_
            refine va_get (D := (dC, dI)) (ci := 14) (v := .ref aT) (C := RX12) (T := TX12) (N := 23) hx hb hts kc_looks_0 hown hK hP 0 rfl rfl 10 (by decide) (hts (.fieldLink RX12 21 "MistHeapsModel" "truths" "[Z") kc_looks_5) (fun _ h9 => h9) rfl dX12_looks_177 ?_
            refine lv_iload hx hb dX12_looks_180 (lv_at hl 7 rfl) ?_
            refine lv_iload hx hb dX12_looks_182 (lv_at hl 1 rfl) ?_
            have J184 : ∀ v_6 : Int32, (v_6 = bI (tsB fB3 tk)) → W p l e ({ frames := 0, cells := 0, slots := 0, locals := 0 } : Room) s m args below meth c H locs 0 0 Q (F0 m 235 ls [.int v_6, .int (nI d), .ref aT]) := by
              intro v_6 hv_7
              subst hv_7
              refine va_zast hx hb hK hP hD hS 3 2 rfl rfl (vp_in_nI (n := d) (N := 64) (by omega) (by omega)) dX12_looks_235 (fun H locs hP hD hS => ?_)
              rw [nI_clamp (n := d) (by omega)] at hP hD
              have hP : va_P (dC, dI) vwCl [(zo14irriiiiiirriirrrrlriiii m0 th aS aI im ac sp en wg op aB aT se2 dn2 aG aO aN aD bv aY rn kd nu tv), (zaI aS cS 901 fS), (zaI aB cB 6 fB3), (zaI aT cT 64 (upd fT2 d (vp_nar .boolean (bI (tsB fB3 tk)))))] H := hP
              have hD : va_D A [(zo14irriiiiiirriirrrrlriiii m0 th aS aI im ac sp en wg op aB aT se2 dn2 aG aO aN aD bv aY rn kd nu tv), (zaI aS cS 901 fS), (zaI aB cB 6 fB3), (zaI aT cT 64 (upd fT2 d (vp_nar .boolean (bI (tsB fB3 tk)))))] := hD
              refine lv_iinc (v := nI (d + 1)) (lv' := [(6, .int (nI (d + 1))), (11, .int (nI (tk % 100))), (10, .int (nI (tk / 100 % 3))), (9, .int (fB3 (tk / 300))), (8, .int x0), (0, .ref m0), (4, .int (nI k)), (5, .int (nI (201 + 140 * h))), (7, .int (nI (201 + 140 * h + i)))]) hx hb dX12_looks_236 hl (k := 7) rfl (nI_add d 1) (by decide) rfl (fun ls hl => ?_)
              refine lv_goto (tgt := 454) hx hb dX12_looks_239 (by decide) ?_
              refine lv_iinc (v := nI (201 + 140 * h + i + 1)) (lv' := [(7, .int (nI (201 + 140 * h + i + 1))), (6, .int (nI (d + 1))), (11, .int (nI (tk % 100))), (10, .int (nI (tk / 100 % 3))), (9, .int (fB3 (tk / 300))), (8, .int x0), (0, .ref m0), (4, .int (nI k)), (5, .int (nI (201 + 140 * h)))]) hx hb dX12_looks_454 hl (k := 8) rfl (nI_add (201 + 140 * h + i) 1) (by decide) rfl (fun ls hl => ?_)
              refine lv_goto (tgt := 124) hx hb dX12_looks_457 (by decide) ?_
              exact ih124 (i + 1) (d + 1) (se2) (dn2) (upd fT2 d (vp_nar .boolean (bI (tsB fB3 tk)))) (by omega) (by omega) (by omega) (hd2) (rr_step hR (by omega) etk (rst_t htk)) _ _ (hK.sub [0, 1, 2] rfl) (hP.sub [0, 1, 2, 3] rfl) (hD.sub [0, 1, 2, 3] (by decide) rfl) hS ls (lv_sub hl [6, 7, 8, 1, 0] rfl)
            refine lv_if_ne (tgt := 202) hx hb dX12_looks_184 (by decide) (fun c_8 => ?_) (fun c_8 => ?_)
            · skip
              have c_8 : ¬ (tk / 100 % 3) = 0 := fun q => c_8 ((nI_eq (a := (tk / 100 % 3)) (b := 0) (by omega) (by omega)).mpr q)
              refine lv_iload hx hb dX12_looks_202 (lv_at hl 1 rfl) ?_
              refine lv_iconst (v := 1) hx hb dX12_looks_204 (by decide) ?_
              refine lv_icmp_ne (tgt := 223) hx hb dX12_looks_205 (by decide) (fun c_9 => ?_) (fun c_9 => ?_)
              · skip
                have c_9 : ¬ (tk / 100 % 3) = 1 := fun q => c_9 ((nI_eq (a := (tk / 100 % 3)) (b := 1) (by omega) (by omega)).mpr q)
                refine lv_iload hx hb dX12_looks_223 (lv_at hl 2 rfl) ?_
                refine lv_iload hx hb dX12_looks_225 (lv_at hl 0 rfl) ?_
                refine lv_icmp_le (tgt := 234) hx hb dX12_looks_227 (by decide) (fun c_10 => ?_) (fun c_10 => ?_)
                · skip
                  refine lv_iconst (v := 0) hx hb dX12_looks_234 (by decide) ?_
                  exact J184 0 (by first | exact ts_a1 (by assumption) (by assumption) | exact ts_a0 (by assumption) (by assumption) | exact ts_b1 (by assumption) (by assumption) (by assumption) | exact ts_b0 (by assumption) (by assumption) (by assumption) | exact ts_c1 (by assumption) (by assumption) (by assumption) | exact ts_c0 (by assumption) (by assumption) (by assumption))
                · skip
                  refine lv_iconst (v := 1) hx hb dX12_looks_230 (by decide) ?_
                  refine lv_goto (tgt := 235) hx hb dX12_looks_231 (by decide) ?_
                  exact J184 1 (by first | exact ts_a1 (by assumption) (by assumption) | exact ts_a0 (by assumption) (by assumption) | exact ts_b1 (by assumption) (by assumption) (by assumption) | exact ts_b0 (by assumption) (by assumption) (by assumption) | exact ts_c1 (by assumption) (by assumption) (by assumption) | exact ts_c0 (by assumption) (by assumption) (by assumption))
              · skip
                have c_9 : (tk / 100 % 3) = 1 := (nI_eq (a := (tk / 100 % 3)) (b := 1) (by omega) (by omega)).mp c_9
                refine lv_iload hx hb dX12_looks_208 (lv_at hl 2 rfl) ?_
                refine lv_iload hx hb dX12_looks_210 (lv_at hl 0 rfl) ?_
                refine lv_icmp_ne (tgt := 219) hx hb dX12_looks_212 (by decide) (fun c_11 => ?_) (fun c_11 => ?_)
                · skip
                  refine lv_iconst (v := 0) hx hb dX12_looks_219 (by decide) ?_
                  refine lv_goto (tgt := 235) hx hb dX12_looks_220 (by decide) ?_
                  exact J184 0 (by first | exact ts_a1 (by assumption) (by assumption) | exact ts_a0 (by assumption) (by assumption) | exact ts_b1 (by assumption) (by assumption) (by assumption) | exact ts_b0 (by assumption) (by assumption) (by assumption) | exact ts_c1 (by assumption) (by assumption) (by assumption) | exact ts_c0 (by assumption) (by assumption) (by assumption))
                · skip
                  refine lv_iconst (v := 1) hx hb dX12_looks_215 (by decide) ?_
                  refine lv_goto (tgt := 235) hx hb dX12_looks_216 (by decide) ?_
                  exact J184 1 (by first | exact ts_a1 (by assumption) (by assumption) | exact ts_a0 (by assumption) (by assumption) | exact ts_b1 (by assumption) (by assumption) (by assumption) | exact ts_b0 (by assumption) (by assumption) (by assumption) | exact ts_c1 (by assumption) (by assumption) (by assumption) | exact ts_c0 (by assumption) (by assumption) (by assumption))
            · skip
              have c_8 : (tk / 100 % 3) = 0 := (nI_eq (a := (tk / 100 % 3)) (b := 0) (by omega) (by omega)).mp c_8
              refine lv_iload hx hb dX12_looks_187 (lv_at hl 2 rfl) ?_
              refine lv_iload hx hb dX12_looks_189 (lv_at hl 0 rfl) ?_
              refine lv_icmp_ge (tgt := 198) hx hb dX12_looks_191 (by decide) (fun c_12 => ?_) (fun c_12 => ?_)
              · skip
                refine lv_iconst (v := 0) hx hb dX12_looks_198 (by decide) ?_
                refine lv_goto (tgt := 235) hx hb dX12_looks_199 (by decide) ?_
                exact J184 0 (by first | exact ts_a1 (by assumption) (by assumption) | exact ts_a0 (by assumption) (by assumption) | exact ts_b1 (by assumption) (by assumption) (by assumption) | exact ts_b0 (by assumption) (by assumption) (by assumption) | exact ts_c1 (by assumption) (by assumption) (by assumption) | exact ts_c0 (by assumption) (by assumption) (by assumption))
              · skip
                refine lv_iconst (v := 1) hx hb dX12_looks_194 (by decide) ?_
                refine lv_goto (tgt := 235) hx hb dX12_looks_195 (by decide) ?_
                exact J184 1 (by first | exact ts_a1 (by assumption) (by assumption) | exact ts_a0 (by assumption) (by assumption) | exact ts_b1 (by assumption) (by assumption) (by assumption) | exact ts_b0 (by assumption) (by assumption) (by assumption) | exact ts_c1 (by assumption) (by assumption) (by assumption) | exact ts_c0 (by assumption) (by assumption) (by assumption))
          · skip
            have e8 : x0 = (-1) := ext.trans (by decide)
            subst e8
            obtain ⟨e2, h1⟩ := stepd_n hs2
            rw [e2] at hd2
            refine lv_iload hx hb dX12_looks_143 (lv_at hl 0 rfl) ?_
            refine lv_if_lt (tgt := 242) hx hb dX12_looks_145 (by decide) (fun _ => ?_) (fun c_13 => absurd c_13 (by decide))
            refine lv_iload hx hb dX12_looks_242 (lv_at hl 0 rfl) ?_
            refine lv_iconst (v := (-1)) hx hb dX12_looks_244 (by decide) ?_
            refine lv_icmp_ne (tgt := 277) hx hb dX12_looks_245 (by decide) (fun c_14 => absurd c_14 (by decide)) (fun _ => ?_)
            refine lv_aload_n hx hb dX12_looks_248 rfl (lv_at hl 1 rfl) ?_
            refine va_get (D := (dC, dI)) (ci := 14) (v := .ref aT) (C := RX12) (T := TX12) (N := 23) hx hb hts kc_looks_0 hown hK hP 0 rfl rfl 10 (by decide) (hts (.fieldLink RX12 21 "MistHeapsModel" "truths" "[Z") kc_looks_5) (fun _ h9 => h9) rfl dX12_looks_249 ?_
            refine lv_iload hx hb dX12_looks_252 (lv_at hl 4 rfl) ?_
            refine lv_iconst (v := 1) hx hb dX12_looks_254 (by decide) ?_
            refine lv_isub hx hb dX12_looks_255 ?_
            refine qi_as (y := nI (d - 1)) (pk_sub (a := d) (b := 1) (by omega)) ?_
            refine lv_aload_n hx hb dX12_looks_256 rfl (lv_at hl 1 rfl) ?_
            refine va_get (D := (dC, dI)) (ci := 14) (v := .ref aT) (C := RX12) (T := TX12) (N := 23) hx hb hts kc_looks_0 hown hK hP 0 rfl rfl 10 (by decide) (hts (.fieldLink RX12 21 "MistHeapsModel" "truths" "[Z") kc_looks_5) (fun _ h9 => h9) rfl dX12_looks_257 ?_
            refine lv_iload hx hb dX12_looks_260 (lv_at hl 4 rfl) ?_
            refine lv_iconst (v := 1) hx hb dX12_looks_262 (by decide) ?_
            refine lv_isub hx hb dX12_looks_263 ?_
            refine qi_as (y := nI (d - 1)) (pk_sub (a := d) (b := 1) (by omega)) ?_
            refine va_zald hx hb hK hP 3 2 rfl rfl (vp_in_nI (n := d - 1) (N := 64) (by omega) (by omega)) dX12_looks_264 ?_
            refine qi_as (y := fT2 (d - 1)) (by rw [nI_clamp (by omega)]) ?_
            have J265 : ∀ v_15 : Int32, (v_15 = bI (!tvOf fT2 (d - 1))) → W p l e ({ frames := 0, cells := 0, slots := 0, locals := 0 } : Room) s m args below meth c H locs 0 0 Q (F0 m 273 ls [.int v_15, .int (nI (d - 1)), .ref aT]) := by
              intro v_15 hv_16
              subst hv_16
              refine va_zast hx hb hK hP hD hS 3 2 rfl rfl (vp_in_nI (n := d - 1) (N := 64) (by omega) (by omega)) dX12_looks_273 (fun H locs hP hD hS => ?_)
              rw [nI_clamp (n := d - 1) (by omega)] at hP hD
              have hP : va_P (dC, dI) vwCl [(zo14irriiiiiirriirrrrlriiii m0 th aS aI im ac sp en wg op aB aT se2 dn2 aG aO aN aD bv aY rn kd nu tv), (zaI aS cS 901 fS), (zaI aB cB 6 fB3), (zaI aT cT 64 (upd fT2 (d - 1) (vp_nar .boolean (bI (!tvOf fT2 (d - 1))))))] H := hP
              have hD : va_D A [(zo14irriiiiiirriirrrrlriiii m0 th aS aI im ac sp en wg op aB aT se2 dn2 aG aO aN aD bv aY rn kd nu tv), (zaI aS cS 901 fS), (zaI aB cB 6 fB3), (zaI aT cT 64 (upd fT2 (d - 1) (vp_nar .boolean (bI (!tvOf fT2 (d - 1))))))] := hD
              refine lv_goto (tgt := 454) hx hb dX12_looks_274 (by decide) ?_
              refine lv_iinc (v := nI (201 + 140 * h + i + 1)) (lv' := [(7, .int (nI (201 + 140 * h + i + 1))), (8, .int (-1)), (0, .ref m0), (4, .int (nI k)), (5, .int (nI (201 + 140 * h))), (6, .int (nI d))]) hx hb dX12_looks_454 hl (k := 5) rfl (nI_add (201 + 140 * h + i) 1) (by decide) rfl (fun ls hl => ?_)
              refine lv_goto (tgt := 124) hx hb dX12_looks_457 (by decide) ?_
              exact ih124 (i + 1) (d) (se2) (dn2) (upd fT2 (d - 1) (vp_nar .boolean (bI (!tvOf fT2 (d - 1))))) (by omega) (by omega) (by omega) (hd2) (rr_step hR (by omega) etk (rst_n)) _ _ (hK.sub [0, 1, 2] rfl) (hP.sub [0, 1, 2, 3] rfl) (hD.sub [0, 1, 2, 3] (by decide) rfl) hS ls (lv_sub hl [2, 3, 4, 5, 0] rfl)
            refine lv_if_ne (tgt := 272) hx hb dX12_looks_265 (by decide) (fun c_17 => ?_) (fun c_17 => ?_)
            · skip
              refine lv_iconst (v := 0) hx hb dX12_looks_272 (by decide) ?_
              exact J265 0 (by first | exact bn_1 (by assumption) | exact bn_0 (by assumption))
            · skip
              refine lv_iconst (v := 1) hx hb dX12_looks_268 (by decide) ?_
              refine lv_goto (tgt := 273) hx hb dX12_looks_269 (by decide) ?_
              exact J265 1 (by first | exact bn_1 (by assumption) | exact bn_0 (by assumption))
          · skip
            have e8 : x0 = (-2) := ext.trans (by decide)
            subst e8
            obtain ⟨e2, h1⟩ := stepd_b hs2 (by decide) (by decide) (by decide)
            subst e2
            refine lv_iload hx hb dX12_looks_143 (lv_at hl 0 rfl) ?_
            refine lv_if_lt (tgt := 242) hx hb dX12_looks_145 (by decide) (fun _ => ?_) (fun c_18 => absurd c_18 (by decide))
            refine lv_iload hx hb dX12_looks_242 (lv_at hl 0 rfl) ?_
            refine lv_iconst (v := (-1)) hx hb dX12_looks_244 (by decide) ?_
            refine lv_icmp_ne (tgt := 277) hx hb dX12_looks_245 (by decide) (fun _ => ?_) (fun c_19 => absurd c_19 (by decide))
            refine lv_iload hx hb dX12_looks_277 (lv_at hl 0 rfl) ?_
            refine lv_bipush (v := (-10)) hx hb dX12_looks_279 (by decide) ?_
            refine lv_icmp_le (tgt := 363) hx hb dX12_looks_281 (by decide) (fun c_20 => absurd c_20 (by decide)) (fun _ => ?_)
            refine lv_iinc (v := nI (d - 1)) (lv' := [(6, .int (nI (d - 1))), (8, .int (-2)), (0, .ref m0), (4, .int (nI k)), (5, .int (nI (201 + 140 * h))), (7, .int (nI (201 + 140 * h + i)))]) hx hb dX12_looks_284 hl (k := 4) rfl (nI_dec (by omega)) (by decide) rfl (fun ls hl => ?_)
            refine lv_aload_n hx hb dX12_looks_287 rfl (lv_at hl 2 rfl) ?_
            refine va_get (D := (dC, dI)) (ci := 14) (v := .ref aT) (C := RX12) (T := TX12) (N := 23) hx hb hts kc_looks_0 hown hK hP 0 rfl rfl 10 (by decide) (hts (.fieldLink RX12 21 "MistHeapsModel" "truths" "[Z") kc_looks_5) (fun _ h9 => h9) rfl dX12_looks_288 ?_
            refine lv_iload hx hb dX12_looks_291 (lv_at hl 0 rfl) ?_
            refine lv_iconst (v := 1) hx hb dX12_looks_293 (by decide) ?_
            refine lv_isub hx hb dX12_looks_294 ?_
            refine qi_as (y := nI ((d - 1) - 1)) (pk_sub (a := d - 1) (b := 1) (by omega)) ?_
            refine lv_iload hx hb dX12_looks_295 (lv_at hl 1 rfl) ?_
            refine lv_bipush (v := (-2)) hx hb dX12_looks_297 (by decide) ?_
            have J299 : ∀ v_21 : Int32, (v_21 = bI (tvOf fT2 (d - 1 - 1) && tvOf fT2 (d - 1))) → W p l e ({ frames := 0, cells := 0, slots := 0, locals := 0 } : Room) s m args below meth c H locs 0 0 Q (F0 m 359 ls [.int v_21, .int (nI ((d - 1) - 1)), .ref aT]) := by
              intro v_21 hv_22
              subst hv_22
              refine va_zast hx hb hK hP hD hS 3 2 rfl rfl (vp_in_nI (n := (d - 1) - 1) (N := 64) (by omega) (by omega)) dX12_looks_359 (fun H locs hP hD hS => ?_)
              rw [nI_clamp (n := (d - 1) - 1) (by omega)] at hP hD
              have hP : va_P (dC, dI) vwCl [(zo14irriiiiiirriirrrrlriiii m0 th aS aI im ac sp en wg op aB aT se2 dn2 aG aO aN aD bv aY rn kd nu tv), (zaI aS cS 901 fS), (zaI aB cB 6 fB3), (zaI aT cT 64 (upd fT2 ((d - 1) - 1) (vp_nar .boolean (bI (tvOf fT2 (d - 1 - 1) && tvOf fT2 (d - 1))))))] H := hP
              have hD : va_D A [(zo14irriiiiiirriirrrrlriiii m0 th aS aI im ac sp en wg op aB aT se2 dn2 aG aO aN aD bv aY rn kd nu tv), (zaI aS cS 901 fS), (zaI aB cB 6 fB3), (zaI aT cT 64 (upd fT2 ((d - 1) - 1) (vp_nar .boolean (bI (tvOf fT2 (d - 1 - 1) && tvOf fT2 (d - 1))))))] := hD
              refine lv_goto (tgt := 454) hx hb dX12_looks_360 (by decide) ?_
              refine lv_iinc (v := nI (201 + 140 * h + i + 1)) (lv' := [(7, .int (nI (201 + 140 * h + i + 1))), (6, .int (nI (d - 1))), (8, .int (-2)), (0, .ref m0), (4, .int (nI k)), (5, .int (nI (201 + 140 * h)))]) hx hb dX12_looks_454 hl (k := 5) rfl (nI_add (201 + 140 * h + i) 1) (by decide) rfl (fun ls hl => ?_)
              refine lv_goto (tgt := 124) hx hb dX12_looks_457 (by decide) ?_
              exact ih124 (i + 1) (d - 1) (se2) (dn2) (upd fT2 ((d - 1) - 1) (vp_nar .boolean (bI (tvOf fT2 (d - 1 - 1) && tvOf fT2 (d - 1))))) (by omega) (by omega) (by omega) (hd2) (rr_step hR (by omega) etk (rst_a)) _ _ (hK.sub [0, 1, 2] rfl) (hP.sub [0, 1, 2, 3] rfl) (hD.sub [0, 1, 2, 3] (by decide) rfl) hS ls (lv_sub hl [3, 4, 5, 1, 0] rfl)
            refine lv_icmp_ne (tgt := 332) hx hb dX12_looks_299 (by decide) (fun c_23 => absurd c_23 (by decide)) (fun _ => ?_)
            refine lv_aload_n hx hb dX12_looks_302 rfl (lv_at hl 2 rfl) ?_
            refine va_get (D := (dC, dI)) (ci := 14) (v := .ref aT) (C := RX12) (T := TX12) (N := 23) hx hb hts kc_looks_0 hown hK hP 0 rfl rfl 10 (by decide) (hts (.fieldLink RX12 21 "MistHeapsModel" "truths" "[Z") kc_looks_5) (fun _ h9 => h9) rfl dX12_looks_303 ?_
            refine lv_iload hx hb dX12_looks_306 (lv_at hl 0 rfl) ?_
            refine lv_iconst (v := 1) hx hb dX12_looks_308 (by decide) ?_
            refine lv_isub hx hb dX12_looks_309 ?_
            refine qi_as (y := nI ((d - 1) - 1)) (pk_sub (a := d - 1) (b := 1) (by omega)) ?_
            refine va_zald hx hb hK hP 3 2 rfl rfl (vp_in_nI (n := (d - 1) - 1) (N := 64) (by omega) (by omega)) dX12_looks_310 ?_
            refine qi_as (y := fT2 ((d - 1) - 1)) (by rw [nI_clamp (by omega)]) ?_
            refine lv_if_eq (tgt := 328) hx hb dX12_looks_311 (by decide) (fun c_24 => ?_) (fun c_24 => ?_)
            · skip
              refine lv_iconst (v := 0) hx hb dX12_looks_328 (by decide) ?_
              refine lv_goto (tgt := 359) hx hb dX12_looks_329 (by decide) ?_
              exact J299 0 (by first | exact ba_x (by assumption) | exact ba_y (by assumption) (by assumption) | exact ba_1 (by assumption) (by assumption))
            · skip
              refine lv_aload_n hx hb dX12_looks_314 rfl (lv_at hl 2 rfl) ?_
              refine va_get (D := (dC, dI)) (ci := 14) (v := .ref aT) (C := RX12) (T := TX12) (N := 23) hx hb hts kc_looks_0 hown hK hP 0 rfl rfl 10 (by decide) (hts (.fieldLink RX12 21 "MistHeapsModel" "truths" "[Z") kc_looks_5) (fun _ h9 => h9) rfl dX12_looks_315 ?_
              refine lv_iload hx hb dX12_looks_318 (lv_at hl 0 rfl) ?_
              refine va_zald hx hb hK hP 3 2 rfl rfl (vp_in_nI (n := d - 1) (N := 64) (by omega) (by omega)) dX12_looks_320 ?_
              refine qi_as (y := fT2 (d - 1)) (by rw [nI_clamp (by omega)]) ?_
              refine lv_if_eq (tgt := 328) hx hb dX12_looks_321 (by decide) (fun c_25 => ?_) (fun c_25 => ?_)
              · skip
                refine lv_iconst (v := 0) hx hb dX12_looks_328 (by decide) ?_
                refine lv_goto (tgt := 359) hx hb dX12_looks_329 (by decide) ?_
                exact J299 0 (by first | exact ba_x (by assumption) | exact ba_y (by assumption) (by assumption) | exact ba_1 (by assumption) (by assumption))
              · skip
                refine lv_iconst (v := 1) hx hb dX12_looks_324 (by decide) ?_
                refine lv_goto (tgt := 359) hx hb dX12_looks_325 (by decide) ?_
                exact J299 1 (by first | exact ba_x (by assumption) | exact ba_y (by assumption) (by assumption) | exact ba_1 (by assumption) (by assumption))
          · skip
            have e8 : x0 = (-3) := ext.trans (by decide)
            subst e8
            obtain ⟨e2, h1⟩ := stepd_b hs2 (by decide) (by decide) (by decide)
            subst e2
            refine lv_iload hx hb dX12_looks_143 (lv_at hl 0 rfl) ?_
            refine lv_if_lt (tgt := 242) hx hb dX12_looks_145 (by decide) (fun _ => ?_) (fun c_26 => absurd c_26 (by decide))
            refine lv_iload hx hb dX12_looks_242 (lv_at hl 0 rfl) ?_
            refine lv_iconst (v := (-1)) hx hb dX12_looks_244 (by decide) ?_
            refine lv_icmp_ne (tgt := 277) hx hb dX12_looks_245 (by decide) (fun _ => ?_) (fun c_27 => absurd c_27 (by decide))
            refine lv_iload hx hb dX12_looks_277 (lv_at hl 0 rfl) ?_
            refine lv_bipush (v := (-10)) hx hb dX12_looks_279 (by decide) ?_
            refine lv_icmp_le (tgt := 363) hx hb dX12_looks_281 (by decide) (fun c_28 => absurd c_28 (by decide)) (fun _ => ?_)
            refine lv_iinc (v := nI (d - 1)) (lv' := [(6, .int (nI (d - 1))), (8, .int (-3)), (0, .ref m0), (4, .int (nI k)), (5, .int (nI (201 + 140 * h))), (7, .int (nI (201 + 140 * h + i)))]) hx hb dX12_looks_284 hl (k := 4) rfl (nI_dec (by omega)) (by decide) rfl (fun ls hl => ?_)
            refine lv_aload_n hx hb dX12_looks_287 rfl (lv_at hl 2 rfl) ?_
            refine va_get (D := (dC, dI)) (ci := 14) (v := .ref aT) (C := RX12) (T := TX12) (N := 23) hx hb hts kc_looks_0 hown hK hP 0 rfl rfl 10 (by decide) (hts (.fieldLink RX12 21 "MistHeapsModel" "truths" "[Z") kc_looks_5) (fun _ h9 => h9) rfl dX12_looks_288 ?_
            refine lv_iload hx hb dX12_looks_291 (lv_at hl 0 rfl) ?_
            refine lv_iconst (v := 1) hx hb dX12_looks_293 (by decide) ?_
            refine lv_isub hx hb dX12_looks_294 ?_
            refine qi_as (y := nI ((d - 1) - 1)) (pk_sub (a := d - 1) (b := 1) (by omega)) ?_
            refine lv_iload hx hb dX12_looks_295 (lv_at hl 1 rfl) ?_
            refine lv_bipush (v := (-2)) hx hb dX12_looks_297 (by decide) ?_
            have J299 : ∀ v_29 : Int32, (v_29 = bI (tvOf fT2 (d - 1 - 1) || tvOf fT2 (d - 1))) → W p l e ({ frames := 0, cells := 0, slots := 0, locals := 0 } : Room) s m args below meth c H locs 0 0 Q (F0 m 359 ls [.int v_29, .int (nI ((d - 1) - 1)), .ref aT]) := by
              intro v_29 hv_30
              subst hv_30
              refine va_zast hx hb hK hP hD hS 3 2 rfl rfl (vp_in_nI (n := (d - 1) - 1) (N := 64) (by omega) (by omega)) dX12_looks_359 (fun H locs hP hD hS => ?_)
              rw [nI_clamp (n := (d - 1) - 1) (by omega)] at hP hD
              have hP : va_P (dC, dI) vwCl [(zo14irriiiiiirriirrrrlriiii m0 th aS aI im ac sp en wg op aB aT se2 dn2 aG aO aN aD bv aY rn kd nu tv), (zaI aS cS 901 fS), (zaI aB cB 6 fB3), (zaI aT cT 64 (upd fT2 ((d - 1) - 1) (vp_nar .boolean (bI (tvOf fT2 (d - 1 - 1) || tvOf fT2 (d - 1))))))] H := hP
              have hD : va_D A [(zo14irriiiiiirriirrrrlriiii m0 th aS aI im ac sp en wg op aB aT se2 dn2 aG aO aN aD bv aY rn kd nu tv), (zaI aS cS 901 fS), (zaI aB cB 6 fB3), (zaI aT cT 64 (upd fT2 ((d - 1) - 1) (vp_nar .boolean (bI (tvOf fT2 (d - 1 - 1) || tvOf fT2 (d - 1))))))] := hD
              refine lv_goto (tgt := 454) hx hb dX12_looks_360 (by decide) ?_
              refine lv_iinc (v := nI (201 + 140 * h + i + 1)) (lv' := [(7, .int (nI (201 + 140 * h + i + 1))), (6, .int (nI (d - 1))), (8, .int (-3)), (0, .ref m0), (4, .int (nI k)), (5, .int (nI (201 + 140 * h)))]) hx hb dX12_looks_454 hl (k := 5) rfl (nI_add (201 + 140 * h + i) 1) (by decide) rfl (fun ls hl => ?_)
              refine lv_goto (tgt := 124) hx hb dX12_looks_457 (by decide) ?_
              exact ih124 (i + 1) (d - 1) (se2) (dn2) (upd fT2 ((d - 1) - 1) (vp_nar .boolean (bI (tvOf fT2 (d - 1 - 1) || tvOf fT2 (d - 1))))) (by omega) (by omega) (by omega) (hd2) (rr_step hR (by omega) etk (rst_o)) _ _ (hK.sub [0, 1, 2] rfl) (hP.sub [0, 1, 2, 3] rfl) (hD.sub [0, 1, 2, 3] (by decide) rfl) hS ls (lv_sub hl [3, 4, 5, 1, 0] rfl)
            refine lv_icmp_ne (tgt := 332) hx hb dX12_looks_299 (by decide) (fun _ => ?_) (fun c_31 => absurd c_31 (by decide))
            refine lv_aload_n hx hb dX12_looks_332 rfl (lv_at hl 2 rfl) ?_
            refine va_get (D := (dC, dI)) (ci := 14) (v := .ref aT) (C := RX12) (T := TX12) (N := 23) hx hb hts kc_looks_0 hown hK hP 0 rfl rfl 10 (by decide) (hts (.fieldLink RX12 21 "MistHeapsModel" "truths" "[Z") kc_looks_5) (fun _ h9 => h9) rfl dX12_looks_333 ?_
            refine lv_iload hx hb dX12_looks_336 (lv_at hl 0 rfl) ?_
            refine lv_iconst (v := 1) hx hb dX12_looks_338 (by decide) ?_
            refine lv_isub hx hb dX12_looks_339 ?_
            refine qi_as (y := nI ((d - 1) - 1)) (pk_sub (a := d - 1) (b := 1) (by omega)) ?_
            refine va_zald hx hb hK hP 3 2 rfl rfl (vp_in_nI (n := (d - 1) - 1) (N := 64) (by omega) (by omega)) dX12_looks_340 ?_
            refine qi_as (y := fT2 ((d - 1) - 1)) (by rw [nI_clamp (by omega)]) ?_
            refine lv_if_ne (tgt := 354) hx hb dX12_looks_341 (by decide) (fun c_32 => ?_) (fun c_32 => ?_)
            · skip
              refine lv_iconst (v := 1) hx hb dX12_looks_354 (by decide) ?_
              refine lv_goto (tgt := 359) hx hb dX12_looks_355 (by decide) ?_
              exact J299 1 (by first | exact bo_x (by assumption) | exact bo_y (by assumption) (by assumption) | exact bo_0 (by assumption) (by assumption))
            · skip
              refine lv_aload_n hx hb dX12_looks_344 rfl (lv_at hl 2 rfl) ?_
              refine va_get (D := (dC, dI)) (ci := 14) (v := .ref aT) (C := RX12) (T := TX12) (N := 23) hx hb hts kc_looks_0 hown hK hP 0 rfl rfl 10 (by decide) (hts (.fieldLink RX12 21 "MistHeapsModel" "truths" "[Z") kc_looks_5) (fun _ h9 => h9) rfl dX12_looks_345 ?_
              refine lv_iload hx hb dX12_looks_348 (lv_at hl 0 rfl) ?_
              refine va_zald hx hb hK hP 3 2 rfl rfl (vp_in_nI (n := d - 1) (N := 64) (by omega) (by omega)) dX12_looks_350 ?_
              refine qi_as (y := fT2 (d - 1)) (by rw [nI_clamp (by omega)]) ?_
              refine lv_if_eq (tgt := 358) hx hb dX12_looks_351 (by decide) (fun c_33 => ?_) (fun c_33 => ?_)
              · skip
                refine lv_iconst (v := 0) hx hb dX12_looks_358 (by decide) ?_
                exact J299 0 (by first | exact bo_x (by assumption) | exact bo_y (by assumption) (by assumption) | exact bo_0 (by assumption) (by assumption))
              · skip
                refine lv_iconst (v := 1) hx hb dX12_looks_354 (by decide) ?_
                refine lv_goto (tgt := 359) hx hb dX12_looks_355 (by decide) ?_
                exact J299 1 (by first | exact bo_x (by assumption) | exact bo_y (by assumption) (by assumption) | exact bo_0 (by assumption) (by assumption))
          · skip
            rcases hw9 with rfl | rfl | rfl
            · skip
              obtain ⟨hn9, hm9, hl9, hg9, hq9, hv8⟩ := rce0 v9 (by omega)
              rw [← ext] at hn9 hm9 hl9 hg9 hq9 hv8
              have e2 := stepd_c hs2 hn9 hm9 hl9
              subst e2
              refine lv_iload hx hb dX12_looks_143 (lv_at hl 0 rfl) ?_
              refine lv_if_lt (tgt := 242) hx hb dX12_looks_145 (by decide) (fun c_34 => ?_) (fun c_34 => absurd c_34 (fun q9 => q9 hn9))
              refine lv_iload hx hb dX12_looks_242 (lv_at hl 0 rfl) ?_
              refine lv_iconst (v := (-1)) hx hb dX12_looks_244 (by decide) ?_
              refine lv_icmp_ne (tgt := 277) hx hb dX12_looks_245 (by decide) (fun c_35 => ?_) (fun c_35 => absurd c_35 (hm9))
              refine lv_iload hx hb dX12_looks_277 (lv_at hl 0 rfl) ?_
              refine lv_bipush (v := (-10)) hx hb dX12_looks_279 (by decide) ?_
              refine lv_icmp_le (tgt := 363) hx hb dX12_looks_281 (by decide) (fun c_36 => ?_) (fun c_36 => absurd c_36 (fun q9 => q9 hl9))
              refine lv_iconst (v := 0) hx hb dX12_looks_363 (by decide) ?_
              refine lv_istore (lv' := [(6, .int 0), (8, .int x0), (0, .ref m0), (4, .int (nI k)), (5, .int (nI (201 + 140 * h))), (7, .int (nI (201 + 140 * h + i)))]) hx hb dX12_looks_364 hl (by decide) rfl (fun ls hl => ?_)
              refine lv_aload_n hx hb dX12_looks_366 rfl (lv_at hl 2 rfl) ?_
              refine va_get (D := (dC, dI)) (ci := 14) (v := .ref aT) (C := RX12) (T := TX12) (N := 23) hx hb hts kc_looks_0 hown hK hP 0 rfl rfl 10 (by decide) (hts (.fieldLink RX12 21 "MistHeapsModel" "truths" "[Z") kc_looks_5) (fun _ h9 => h9) rfl dX12_looks_367 ?_
              refine lv_iconst (v := 0) hx hb dX12_looks_370 (by decide) ?_
              refine va_zald hx hb hK hP 3 2 rfl rfl (vp_in_nI (n := 0) (N := 64) (by omega) (by omega)) dX12_looks_371 ?_
              refine qi_as (y := fT2 0) (rfl) ?_
              refine lv_istore (lv' := [(9, .int (fT2 0)), (6, .int 0), (8, .int x0), (0, .ref m0), (4, .int (nI k)), (5, .int (nI (201 + 140 * h))), (7, .int (nI (201 + 140 * h + i)))]) hx hb dX12_looks_372 hl (by decide) rfl (fun ls hl => ?_)
              refine lv_aload_n hx hb dX12_looks_374 rfl (lv_at hl 3 rfl) ?_
              refine lv_dup hx hb dX12_looks_375 rfl ?_
              refine va_get (D := (dC, dI)) (ci := 14) (v := .int se2) (C := RX12) (T := TX12) (N := 23) hx hb hts kc_looks_0 hown hK hP 0 rfl rfl 11 (by decide) (hts (.fieldLink RX12 143 "MistHeapsModel" "seeing" "I") kc_looks_3) (fun _ h9 => h9) rfl dX12_looks_376 ?_
              refine lv_iload hx hb dX12_looks_379 (lv_at hl 0 rfl) ?_
              have J381 : ∀ v_37 : Int32, (v_37 = if tvOf fT2 0 = true then nI v9 else 0) → W p l e ({ frames := 0, cells := 0, slots := 0, locals := 0 } : Room) s m args below meth c H locs 0 0 Q (F0 m 418 ls [.int v_37, .int se2, .ref m0]) := by
                intro v_37 hv_38
                subst hv_38
                refine lv_iadd hx hb dX12_looks_418 ?_
                refine va_put (D := (dC, dI)) (ci := 14) (v := .int (se2 + (if tvOf fT2 0 = true then nI v9 else 0))) (ty := .int) (C := RX12) (T := TX12) (N := 23) hx hb hts kc_looks_0 tyX12 tyX12_ok nmX12 hown hK hP hD hS 0 rfl rfl 11 (by decide) (hts (.fieldLink RX12 143 "MistHeapsModel" "seeing" "I") kc_looks_3) (fun _ h9 => h9) rfl (by decide +kernel) rfl rfl (Nat.le_of_ble_eq_true rfl) dX12_looks_419 (fun H locs hP hD hS => ?_)
                have hP : va_P (dC, dI) vwCl [(zo14irriiiiiirriirrrrlriiii m0 th aS aI im ac sp en wg op aB aT (se2 + (if tvOf fT2 0 = true then nI v9 else 0)) dn2 aG aO aN aD bv aY rn kd nu tv), (zaI aS cS 901 fS), (zaI aB cB 6 fB3), (zaI aT cT 64 fT2)] H := hP
                have hD : va_D A [(zo14irriiiiiirriirrrrlriiii m0 th aS aI im ac sp en wg op aB aT (se2 + (if tvOf fT2 0 = true then nI v9 else 0)) dn2 aG aO aN aD bv aY rn kd nu tv), (zaI aS cS 901 fS), (zaI aB cB 6 fB3), (zaI aT cT 64 fT2)] := hD
                refine lv_aload_n hx hb dX12_looks_422 rfl (lv_at hl 3 rfl) ?_
                refine lv_dup hx hb dX12_looks_423 rfl ?_
                refine va_get (D := (dC, dI)) (ci := 14) (v := .int dn2) (C := RX12) (T := TX12) (N := 23) hx hb hts kc_looks_0 hown hK hP 0 rfl rfl 12 (by decide) (hts (.fieldLink RX12 146 "MistHeapsModel" "drifting" "I") kc_looks_4) (fun _ h9 => h9) rfl dX12_looks_424 ?_
                refine lv_iload hx hb dX12_looks_427 (lv_at hl 0 rfl) ?_
                have J429 : ∀ v_39 : Int32, (v_39 = 0) → W p l e ({ frames := 0, cells := 0, slots := 0, locals := 0 } : Room) s m args below meth c H locs 0 0 Q (F0 m 450 ls [.int v_39, .int dn2, .ref m0]) := by
                  intro v_39 hv_40
                  subst hv_40
                  refine lv_iadd hx hb dX12_looks_450 ?_
                  refine va_put (D := (dC, dI)) (ci := 14) (v := .int (dn2 + (0))) (ty := .int) (C := RX12) (T := TX12) (N := 23) hx hb hts kc_looks_0 tyX12 tyX12_ok nmX12 hown hK hP hD hS 0 rfl rfl 12 (by decide) (hts (.fieldLink RX12 146 "MistHeapsModel" "drifting" "I") kc_looks_4) (fun _ h9 => h9) rfl (by decide +kernel) rfl rfl (Nat.le_of_ble_eq_true rfl) dX12_looks_451 (fun H locs hP hD hS => ?_)
                  have hP : va_P (dC, dI) vwCl [(zo14irriiiiiirriirrrrlriiii m0 th aS aI im ac sp en wg op aB aT (se2 + (if tvOf fT2 0 = true then nI v9 else 0)) (dn2 + (0)) aG aO aN aD bv aY rn kd nu tv), (zaI aS cS 901 fS), (zaI aB cB 6 fB3), (zaI aT cT 64 fT2)] H := hP
                  have hD : va_D A [(zo14irriiiiiirriirrrrlriiii m0 th aS aI im ac sp en wg op aB aT (se2 + (if tvOf fT2 0 = true then nI v9 else 0)) (dn2 + (0)) aG aO aN aD bv aY rn kd nu tv), (zaI aS cS 901 fS), (zaI aB cB 6 fB3), (zaI aT cT 64 fT2)] := hD
                  refine lv_iinc (v := nI (201 + 140 * h + i + 1)) (lv' := [(7, .int (nI (201 + 140 * h + i + 1))), (9, .int (fT2 0)), (6, .int 0), (8, .int x0), (0, .ref m0), (4, .int (nI k)), (5, .int (nI (201 + 140 * h)))]) hx hb dX12_looks_454 hl (k := 6) rfl (nI_add (201 + 140 * h + i) 1) (by decide) rfl (fun ls hl => ?_)
                  refine lv_goto (tgt := 124) hx hb dX12_looks_457 (by decide) ?_
                  exact ih124 (i + 1) (0) (se2 + (if tvOf fT2 0 = true then nI v9 else 0)) (dn2 + (0)) (fT2) (by omega) (by omega) (by omega) (hd2) (rr_step hR (by omega) etk (rst_e0 hv9)) _ _ (hK.sub [0, 1, 2] rfl) (hP.sub [0, 1, 2, 3] rfl) (hD.sub [0, 1, 2, 3] (by decide) rfl) hS ls (lv_sub hl [4, 5, 6, 2, 0] rfl)
                refine lv_if_eq (tgt := 449) hx hb dX12_looks_429 (by decide) (fun c_41 => ?_) (fun c_41 => ?_)
                · skip
                  refine lv_iconst (v := 0) hx hb dX12_looks_449 (by decide) ?_
                  exact J429 0 (rfl)
                · skip
                  refine lv_iload hx hb dX12_looks_432 (lv_at hl 2 rfl) ?_
                  refine lv_sipush (v := (-400)) hx hb dX12_looks_434 (by decide) ?_
                  refine lv_icmp_gt (tgt := 449) hx hb dX12_looks_437 (by decide) (fun c_42 => ?_) (fun c_42 => absurd c_42 (fun q9 => q9 hg9))
                  refine lv_iconst (v := 0) hx hb dX12_looks_449 (by decide) ?_
                  exact J429 0 (rfl)
              refine lv_if_eq (tgt := 392) hx hb dX12_looks_381 (by decide) (fun c_43 => ?_) (fun c_43 => ?_)
              · skip
                refine lv_iconst (v := 0) hx hb dX12_looks_392 (by decide) ?_
                refine lv_goto (tgt := 418) hx hb dX12_looks_393 (by decide) ?_
                exact J381 0 ((if_neg (tv_z (by assumption))).symm)
              · skip
                refine lv_iload hx hb dX12_looks_384 (lv_at hl 2 rfl) ?_
                refine lv_sipush (v := (-400)) hx hb dX12_looks_386 (by decide) ?_
                refine lv_icmp_gt (tgt := 396) hx hb dX12_looks_389 (by decide) (fun c_44 => ?_) (fun c_44 => absurd c_44 (fun q9 => q9 hg9))
                refine lv_iload hx hb dX12_looks_396 (lv_at hl 2 rfl) ?_
                refine lv_sipush (v := (-200)) hx hb dX12_looks_398 (by decide) ?_
                refine lv_icmp_le (tgt := 412) hx hb dX12_looks_401 (by decide) (fun c_45 => absurd c_45 (hq9)) (fun c_45 => ?_)
                refine lv_bipush (v := (-10)) hx hb dX12_looks_404 (by decide) ?_
                refine lv_iload hx hb dX12_looks_406 (lv_at hl 2 rfl) ?_
                refine lv_isub hx hb dX12_looks_408 ?_
                refine lv_goto (tgt := 418) hx hb dX12_looks_409 (by decide) ?_
                exact J381 ((-10) - x0) (hv8.trans (if_pos (tv_p (by assumption))).symm)
            · skip
              obtain ⟨hn9, hm9, hl9, hg9, hq9, hv8⟩ := rce1 v9 (by omega)
              rw [← ext] at hn9 hm9 hl9 hg9 hq9 hv8
              have e2 := stepd_c hs2 hn9 hm9 hl9
              subst e2
              refine lv_iload hx hb dX12_looks_143 (lv_at hl 0 rfl) ?_
              refine lv_if_lt (tgt := 242) hx hb dX12_looks_145 (by decide) (fun c_46 => ?_) (fun c_46 => absurd c_46 (fun q9 => q9 hn9))
              refine lv_iload hx hb dX12_looks_242 (lv_at hl 0 rfl) ?_
              refine lv_iconst (v := (-1)) hx hb dX12_looks_244 (by decide) ?_
              refine lv_icmp_ne (tgt := 277) hx hb dX12_looks_245 (by decide) (fun c_47 => ?_) (fun c_47 => absurd c_47 (hm9))
              refine lv_iload hx hb dX12_looks_277 (lv_at hl 0 rfl) ?_
              refine lv_bipush (v := (-10)) hx hb dX12_looks_279 (by decide) ?_
              refine lv_icmp_le (tgt := 363) hx hb dX12_looks_281 (by decide) (fun c_48 => ?_) (fun c_48 => absurd c_48 (fun q9 => q9 hl9))
              refine lv_iconst (v := 0) hx hb dX12_looks_363 (by decide) ?_
              refine lv_istore (lv' := [(6, .int 0), (8, .int x0), (0, .ref m0), (4, .int (nI k)), (5, .int (nI (201 + 140 * h))), (7, .int (nI (201 + 140 * h + i)))]) hx hb dX12_looks_364 hl (by decide) rfl (fun ls hl => ?_)
              refine lv_aload_n hx hb dX12_looks_366 rfl (lv_at hl 2 rfl) ?_
              refine va_get (D := (dC, dI)) (ci := 14) (v := .ref aT) (C := RX12) (T := TX12) (N := 23) hx hb hts kc_looks_0 hown hK hP 0 rfl rfl 10 (by decide) (hts (.fieldLink RX12 21 "MistHeapsModel" "truths" "[Z") kc_looks_5) (fun _ h9 => h9) rfl dX12_looks_367 ?_
              refine lv_iconst (v := 0) hx hb dX12_looks_370 (by decide) ?_
              refine va_zald hx hb hK hP 3 2 rfl rfl (vp_in_nI (n := 0) (N := 64) (by omega) (by omega)) dX12_looks_371 ?_
              refine qi_as (y := fT2 0) (rfl) ?_
              refine lv_istore (lv' := [(9, .int (fT2 0)), (6, .int 0), (8, .int x0), (0, .ref m0), (4, .int (nI k)), (5, .int (nI (201 + 140 * h))), (7, .int (nI (201 + 140 * h + i)))]) hx hb dX12_looks_372 hl (by decide) rfl (fun ls hl => ?_)
              refine lv_aload_n hx hb dX12_looks_374 rfl (lv_at hl 3 rfl) ?_
              refine lv_dup hx hb dX12_looks_375 rfl ?_
              refine va_get (D := (dC, dI)) (ci := 14) (v := .int se2) (C := RX12) (T := TX12) (N := 23) hx hb hts kc_looks_0 hown hK hP 0 rfl rfl 11 (by decide) (hts (.fieldLink RX12 143 "MistHeapsModel" "seeing" "I") kc_looks_3) (fun _ h9 => h9) rfl dX12_looks_376 ?_
              refine lv_iload hx hb dX12_looks_379 (lv_at hl 0 rfl) ?_
              have J381 : ∀ v_49 : Int32, (v_49 = if tvOf fT2 0 = true then 0 - nI v9 else 0) → W p l e ({ frames := 0, cells := 0, slots := 0, locals := 0 } : Room) s m args below meth c H locs 0 0 Q (F0 m 418 ls [.int v_49, .int se2, .ref m0]) := by
                intro v_49 hv_50
                subst hv_50
                refine lv_iadd hx hb dX12_looks_418 ?_
                refine va_put (D := (dC, dI)) (ci := 14) (v := .int (se2 + (if tvOf fT2 0 = true then 0 - nI v9 else 0))) (ty := .int) (C := RX12) (T := TX12) (N := 23) hx hb hts kc_looks_0 tyX12 tyX12_ok nmX12 hown hK hP hD hS 0 rfl rfl 11 (by decide) (hts (.fieldLink RX12 143 "MistHeapsModel" "seeing" "I") kc_looks_3) (fun _ h9 => h9) rfl (by decide +kernel) rfl rfl (Nat.le_of_ble_eq_true rfl) dX12_looks_419 (fun H locs hP hD hS => ?_)
                have hP : va_P (dC, dI) vwCl [(zo14irriiiiiirriirrrrlriiii m0 th aS aI im ac sp en wg op aB aT (se2 + (if tvOf fT2 0 = true then 0 - nI v9 else 0)) dn2 aG aO aN aD bv aY rn kd nu tv), (zaI aS cS 901 fS), (zaI aB cB 6 fB3), (zaI aT cT 64 fT2)] H := hP
                have hD : va_D A [(zo14irriiiiiirriirrrrlriiii m0 th aS aI im ac sp en wg op aB aT (se2 + (if tvOf fT2 0 = true then 0 - nI v9 else 0)) dn2 aG aO aN aD bv aY rn kd nu tv), (zaI aS cS 901 fS), (zaI aB cB 6 fB3), (zaI aT cT 64 fT2)] := hD
                refine lv_aload_n hx hb dX12_looks_422 rfl (lv_at hl 3 rfl) ?_
                refine lv_dup hx hb dX12_looks_423 rfl ?_
                refine va_get (D := (dC, dI)) (ci := 14) (v := .int dn2) (C := RX12) (T := TX12) (N := 23) hx hb hts kc_looks_0 hown hK hP 0 rfl rfl 12 (by decide) (hts (.fieldLink RX12 146 "MistHeapsModel" "drifting" "I") kc_looks_4) (fun _ h9 => h9) rfl dX12_looks_424 ?_
                refine lv_iload hx hb dX12_looks_427 (lv_at hl 0 rfl) ?_
                have J429 : ∀ v_51 : Int32, (v_51 = 0) → W p l e ({ frames := 0, cells := 0, slots := 0, locals := 0 } : Room) s m args below meth c H locs 0 0 Q (F0 m 450 ls [.int v_51, .int dn2, .ref m0]) := by
                  intro v_51 hv_52
                  subst hv_52
                  refine lv_iadd hx hb dX12_looks_450 ?_
                  refine va_put (D := (dC, dI)) (ci := 14) (v := .int (dn2 + (0))) (ty := .int) (C := RX12) (T := TX12) (N := 23) hx hb hts kc_looks_0 tyX12 tyX12_ok nmX12 hown hK hP hD hS 0 rfl rfl 12 (by decide) (hts (.fieldLink RX12 146 "MistHeapsModel" "drifting" "I") kc_looks_4) (fun _ h9 => h9) rfl (by decide +kernel) rfl rfl (Nat.le_of_ble_eq_true rfl) dX12_looks_451 (fun H locs hP hD hS => ?_)
                  have hP : va_P (dC, dI) vwCl [(zo14irriiiiiirriirrrrlriiii m0 th aS aI im ac sp en wg op aB aT (se2 + (if tvOf fT2 0 = true then 0 - nI v9 else 0)) (dn2 + (0)) aG aO aN aD bv aY rn kd nu tv), (zaI aS cS 901 fS), (zaI aB cB 6 fB3), (zaI aT cT 64 fT2)] H := hP
                  have hD : va_D A [(zo14irriiiiiirriirrrrlriiii m0 th aS aI im ac sp en wg op aB aT (se2 + (if tvOf fT2 0 = true then 0 - nI v9 else 0)) (dn2 + (0)) aG aO aN aD bv aY rn kd nu tv), (zaI aS cS 901 fS), (zaI aB cB 6 fB3), (zaI aT cT 64 fT2)] := hD
                  refine lv_iinc (v := nI (201 + 140 * h + i + 1)) (lv' := [(7, .int (nI (201 + 140 * h + i + 1))), (9, .int (fT2 0)), (6, .int 0), (8, .int x0), (0, .ref m0), (4, .int (nI k)), (5, .int (nI (201 + 140 * h)))]) hx hb dX12_looks_454 hl (k := 6) rfl (nI_add (201 + 140 * h + i) 1) (by decide) rfl (fun ls hl => ?_)
                  refine lv_goto (tgt := 124) hx hb dX12_looks_457 (by decide) ?_
                  exact ih124 (i + 1) (0) (se2 + (if tvOf fT2 0 = true then 0 - nI v9 else 0)) (dn2 + (0)) (fT2) (by omega) (by omega) (by omega) (hd2) (rr_step hR (by omega) etk (rst_e1 hv9)) _ _ (hK.sub [0, 1, 2] rfl) (hP.sub [0, 1, 2, 3] rfl) (hD.sub [0, 1, 2, 3] (by decide) rfl) hS ls (lv_sub hl [4, 5, 6, 2, 0] rfl)
                refine lv_if_eq (tgt := 449) hx hb dX12_looks_429 (by decide) (fun c_53 => ?_) (fun c_53 => ?_)
                · skip
                  refine lv_iconst (v := 0) hx hb dX12_looks_449 (by decide) ?_
                  exact J429 0 (rfl)
                · skip
                  refine lv_iload hx hb dX12_looks_432 (lv_at hl 2 rfl) ?_
                  refine lv_sipush (v := (-400)) hx hb dX12_looks_434 (by decide) ?_
                  refine lv_icmp_gt (tgt := 449) hx hb dX12_looks_437 (by decide) (fun c_54 => ?_) (fun c_54 => absurd c_54 (fun q9 => q9 hg9))
                  refine lv_iconst (v := 0) hx hb dX12_looks_449 (by decide) ?_
                  exact J429 0 (rfl)
              refine lv_if_eq (tgt := 392) hx hb dX12_looks_381 (by decide) (fun c_55 => ?_) (fun c_55 => ?_)
              · skip
                refine lv_iconst (v := 0) hx hb dX12_looks_392 (by decide) ?_
                refine lv_goto (tgt := 418) hx hb dX12_looks_393 (by decide) ?_
                exact J381 0 ((if_neg (tv_z (by assumption))).symm)
              · skip
                refine lv_iload hx hb dX12_looks_384 (lv_at hl 2 rfl) ?_
                refine lv_sipush (v := (-400)) hx hb dX12_looks_386 (by decide) ?_
                refine lv_icmp_gt (tgt := 396) hx hb dX12_looks_389 (by decide) (fun c_56 => ?_) (fun c_56 => absurd c_56 (fun q9 => q9 hg9))
                refine lv_iload hx hb dX12_looks_396 (lv_at hl 2 rfl) ?_
                refine lv_sipush (v := (-200)) hx hb dX12_looks_398 (by decide) ?_
                refine lv_icmp_le (tgt := 412) hx hb dX12_looks_401 (by decide) (fun c_57 => ?_) (fun c_57 => absurd c_57 (fun q9 => q9 hq9))
                refine lv_iload hx hb dX12_looks_412 (lv_at hl 2 rfl) ?_
                refine lv_sipush (v := (-200)) hx hb dX12_looks_414 (by decide) ?_
                refine lv_isub hx hb dX12_looks_417 ?_
                exact J381 (x0 - (-200)) (hv8.trans (if_pos (tv_p (by assumption))).symm)
            · skip
              obtain ⟨hn9, hm9, hl9, hg9, hv8⟩ := rce3 v9 (by omega)
              rw [← ext] at hn9 hm9 hl9 hg9 hv8
              have e2 := stepd_c hs2 hn9 hm9 hl9
              subst e2
              refine lv_iload hx hb dX12_looks_143 (lv_at hl 0 rfl) ?_
              refine lv_if_lt (tgt := 242) hx hb dX12_looks_145 (by decide) (fun c_58 => ?_) (fun c_58 => absurd c_58 (fun q9 => q9 hn9))
              refine lv_iload hx hb dX12_looks_242 (lv_at hl 0 rfl) ?_
              refine lv_iconst (v := (-1)) hx hb dX12_looks_244 (by decide) ?_
              refine lv_icmp_ne (tgt := 277) hx hb dX12_looks_245 (by decide) (fun c_59 => ?_) (fun c_59 => absurd c_59 (hm9))
              refine lv_iload hx hb dX12_looks_277 (lv_at hl 0 rfl) ?_
              refine lv_bipush (v := (-10)) hx hb dX12_looks_279 (by decide) ?_
              refine lv_icmp_le (tgt := 363) hx hb dX12_looks_281 (by decide) (fun c_60 => ?_) (fun c_60 => absurd c_60 (fun q9 => q9 hl9))
              refine lv_iconst (v := 0) hx hb dX12_looks_363 (by decide) ?_
              refine lv_istore (lv' := [(6, .int 0), (8, .int x0), (0, .ref m0), (4, .int (nI k)), (5, .int (nI (201 + 140 * h))), (7, .int (nI (201 + 140 * h + i)))]) hx hb dX12_looks_364 hl (by decide) rfl (fun ls hl => ?_)
              refine lv_aload_n hx hb dX12_looks_366 rfl (lv_at hl 2 rfl) ?_
              refine va_get (D := (dC, dI)) (ci := 14) (v := .ref aT) (C := RX12) (T := TX12) (N := 23) hx hb hts kc_looks_0 hown hK hP 0 rfl rfl 10 (by decide) (hts (.fieldLink RX12 21 "MistHeapsModel" "truths" "[Z") kc_looks_5) (fun _ h9 => h9) rfl dX12_looks_367 ?_
              refine lv_iconst (v := 0) hx hb dX12_looks_370 (by decide) ?_
              refine va_zald hx hb hK hP 3 2 rfl rfl (vp_in_nI (n := 0) (N := 64) (by omega) (by omega)) dX12_looks_371 ?_
              refine qi_as (y := fT2 0) (rfl) ?_
              refine lv_istore (lv' := [(9, .int (fT2 0)), (6, .int 0), (8, .int x0), (0, .ref m0), (4, .int (nI k)), (5, .int (nI (201 + 140 * h))), (7, .int (nI (201 + 140 * h + i)))]) hx hb dX12_looks_372 hl (by decide) rfl (fun ls hl => ?_)
              refine lv_aload_n hx hb dX12_looks_374 rfl (lv_at hl 3 rfl) ?_
              refine lv_dup hx hb dX12_looks_375 rfl ?_
              refine va_get (D := (dC, dI)) (ci := 14) (v := .int se2) (C := RX12) (T := TX12) (N := 23) hx hb hts kc_looks_0 hown hK hP 0 rfl rfl 11 (by decide) (hts (.fieldLink RX12 143 "MistHeapsModel" "seeing" "I") kc_looks_3) (fun _ h9 => h9) rfl dX12_looks_376 ?_
              refine lv_iload hx hb dX12_looks_379 (lv_at hl 0 rfl) ?_
              have J381 : ∀ v_61 : Int32, (v_61 = 0) → W p l e ({ frames := 0, cells := 0, slots := 0, locals := 0 } : Room) s m args below meth c H locs 0 0 Q (F0 m 418 ls [.int v_61, .int se2, .ref m0]) := by
                intro v_61 hv_62
                subst hv_62
                refine lv_iadd hx hb dX12_looks_418 ?_
                refine va_put (D := (dC, dI)) (ci := 14) (v := .int (se2 + (0))) (ty := .int) (C := RX12) (T := TX12) (N := 23) hx hb hts kc_looks_0 tyX12 tyX12_ok nmX12 hown hK hP hD hS 0 rfl rfl 11 (by decide) (hts (.fieldLink RX12 143 "MistHeapsModel" "seeing" "I") kc_looks_3) (fun _ h9 => h9) rfl (by decide +kernel) rfl rfl (Nat.le_of_ble_eq_true rfl) dX12_looks_419 (fun H locs hP hD hS => ?_)
                have hP : va_P (dC, dI) vwCl [(zo14irriiiiiirriirrrrlriiii m0 th aS aI im ac sp en wg op aB aT (se2 + (0)) dn2 aG aO aN aD bv aY rn kd nu tv), (zaI aS cS 901 fS), (zaI aB cB 6 fB3), (zaI aT cT 64 fT2)] H := hP
                have hD : va_D A [(zo14irriiiiiirriirrrrlriiii m0 th aS aI im ac sp en wg op aB aT (se2 + (0)) dn2 aG aO aN aD bv aY rn kd nu tv), (zaI aS cS 901 fS), (zaI aB cB 6 fB3), (zaI aT cT 64 fT2)] := hD
                refine lv_aload_n hx hb dX12_looks_422 rfl (lv_at hl 3 rfl) ?_
                refine lv_dup hx hb dX12_looks_423 rfl ?_
                refine va_get (D := (dC, dI)) (ci := 14) (v := .int dn2) (C := RX12) (T := TX12) (N := 23) hx hb hts kc_looks_0 hown hK hP 0 rfl rfl 12 (by decide) (hts (.fieldLink RX12 146 "MistHeapsModel" "drifting" "I") kc_looks_4) (fun _ h9 => h9) rfl dX12_looks_424 ?_
                refine lv_iload hx hb dX12_looks_427 (lv_at hl 0 rfl) ?_
                have J429 : ∀ v_63 : Int32, (v_63 = if tvOf fT2 0 = true then nI v9 else 0) → W p l e ({ frames := 0, cells := 0, slots := 0, locals := 0 } : Room) s m args below meth c H locs 0 0 Q (F0 m 450 ls [.int v_63, .int dn2, .ref m0]) := by
                  intro v_63 hv_64
                  subst hv_64
                  refine lv_iadd hx hb dX12_looks_450 ?_
                  refine va_put (D := (dC, dI)) (ci := 14) (v := .int (dn2 + (if tvOf fT2 0 = true then nI v9 else 0))) (ty := .int) (C := RX12) (T := TX12) (N := 23) hx hb hts kc_looks_0 tyX12 tyX12_ok nmX12 hown hK hP hD hS 0 rfl rfl 12 (by decide) (hts (.fieldLink RX12 146 "MistHeapsModel" "drifting" "I") kc_looks_4) (fun _ h9 => h9) rfl (by decide +kernel) rfl rfl (Nat.le_of_ble_eq_true rfl) dX12_looks_451 (fun H locs hP hD hS => ?_)
                  have hP : va_P (dC, dI) vwCl [(zo14irriiiiiirriirrrrlriiii m0 th aS aI im ac sp en wg op aB aT (se2 + (0)) (dn2 + (if tvOf fT2 0 = true then nI v9 else 0)) aG aO aN aD bv aY rn kd nu tv), (zaI aS cS 901 fS), (zaI aB cB 6 fB3), (zaI aT cT 64 fT2)] H := hP
                  have hD : va_D A [(zo14irriiiiiirriirrrrlriiii m0 th aS aI im ac sp en wg op aB aT (se2 + (0)) (dn2 + (if tvOf fT2 0 = true then nI v9 else 0)) aG aO aN aD bv aY rn kd nu tv), (zaI aS cS 901 fS), (zaI aB cB 6 fB3), (zaI aT cT 64 fT2)] := hD
                  refine lv_iinc (v := nI (201 + 140 * h + i + 1)) (lv' := [(7, .int (nI (201 + 140 * h + i + 1))), (9, .int (fT2 0)), (6, .int 0), (8, .int x0), (0, .ref m0), (4, .int (nI k)), (5, .int (nI (201 + 140 * h)))]) hx hb dX12_looks_454 hl (k := 6) rfl (nI_add (201 + 140 * h + i) 1) (by decide) rfl (fun ls hl => ?_)
                  refine lv_goto (tgt := 124) hx hb dX12_looks_457 (by decide) ?_
                  exact ih124 (i + 1) (0) (se2 + (0)) (dn2 + (if tvOf fT2 0 = true then nI v9 else 0)) (fT2) (by omega) (by omega) (by omega) (hd2) (rr_step hR (by omega) etk (rst_e3 hv9)) _ _ (hK.sub [0, 1, 2] rfl) (hP.sub [0, 1, 2, 3] rfl) (hD.sub [0, 1, 2, 3] (by decide) rfl) hS ls (lv_sub hl [4, 5, 6, 2, 0] rfl)
                refine lv_if_eq (tgt := 449) hx hb dX12_looks_429 (by decide) (fun c_65 => ?_) (fun c_65 => ?_)
                · skip
                  refine lv_iconst (v := 0) hx hb dX12_looks_449 (by decide) ?_
                  exact J429 0 ((if_neg (tv_z (by assumption))).symm)
                · skip
                  refine lv_iload hx hb dX12_looks_432 (lv_at hl 2 rfl) ?_
                  refine lv_sipush (v := (-400)) hx hb dX12_looks_434 (by decide) ?_
                  refine lv_icmp_gt (tgt := 449) hx hb dX12_looks_437 (by decide) (fun c_66 => absurd c_66 (hg9)) (fun c_66 => ?_)
                  refine lv_sipush (v := (-400)) hx hb dX12_looks_440 (by decide) ?_
                  refine lv_iload hx hb dX12_looks_443 (lv_at hl 2 rfl) ?_
                  refine lv_isub hx hb dX12_looks_445 ?_
                  refine lv_goto (tgt := 450) hx hb dX12_looks_446 (by decide) ?_
                  exact J429 ((-400) - x0) (hv8.trans (if_pos (tv_p (by assumption))).symm)
              refine lv_if_eq (tgt := 392) hx hb dX12_looks_381 (by decide) (fun c_67 => ?_) (fun c_67 => ?_)
              · skip
                refine lv_iconst (v := 0) hx hb dX12_looks_392 (by decide) ?_
                refine lv_goto (tgt := 418) hx hb dX12_looks_393 (by decide) ?_
                exact J381 0 (rfl)
              · skip
                refine lv_iload hx hb dX12_looks_384 (lv_at hl 2 rfl) ?_
                refine lv_sipush (v := (-400)) hx hb dX12_looks_386 (by decide) ?_
                refine lv_icmp_gt (tgt := 396) hx hb dX12_looks_389 (by decide) (fun c_68 => absurd c_68 (hg9)) (fun c_68 => ?_)
                refine lv_iconst (v := 0) hx hb dX12_looks_392 (by decide) ?_
                refine lv_goto (tgt := 418) hx hb dX12_looks_393 (by decide) ?_
                exact J381 0 (rfl)
    exact L124 _ (0) (0) (0) (0) (fT) (Nat.lt_succ_self _) (by omega) (by omega) (rfl) (rfl) _ _ (hK.sub [0, 1, 2] rfl) (hP.sub [0, 1, 2, 3] rfl) (hD.sub [0, 1, 2, 3] (by decide) rfl) hS ls (lv_sub hl [4, 3, 2, 1, 0] rfl)

theorem kc_sight_0 : ∀ w ∈ wsX120, w ∈ wsX12_sight := fun w h => List.mem_cons_of_mem _ (gin_wsX120 w h)
theorem kc_sight_1 : (.fieldLink RX12 9 "MistHeapsModel" "s" "[I" : Cond) ∈ wsX12_sight := kc_of 1141 rfl rfl rfl
set_option maxHeartbeats 4000000 in
set_option maxRecDepth 100000 in
theorem c_sight (l : Launch) (dC : Nat → ClassId) (dI : Nat → Nat → Nat) (m0 aS aI aB aT aG aO aN aD aY : Nat) (th im ac sp en wg op se dn rn kd nu tv : Int32) (bv : Int64) (cS : ClassId) (fS : Nat → Int32) (cz : List pCla) (zh : hol fS cz) : Met l yX12_sight wsX12_sight ({ frames := 0, cells := 0, slots := 0, locals := 0 } : Room) (va_Pc [.ref m0] (fun U => va_P (dC, dI) vwCl [(zo14irriiiiiirriirrrrlriiii m0 th aS aI im ac sp en wg op aB aT se dn aG aO aN aD bv aY rn kd nu tv), (zaI aS cS 901 fS)] U.heap ∧ va_K (dC, dI) vwCl [(cS, .int)] U)) (vp_Si (fun r => r = nI (sgC cz))) 0 0 (fun _ => False) := by
  refine met_ofQ (cc := cX12_sight) (maxL := 1) (ret := (some .int)) (by decide) rfl ?_
  intro p e s m args below meth c s₁ Q B hml hv hQ
  obtain ⟨rfl, hP, hK⟩ := hv
  have hx := B.exec
  have hb := B.bytes
  have hr := B.returns
  have hts := atoms_spec (ws := wsX12_sight) B.pre
  have hown : s.vm.findClass RX12 = some m.cls := findClass_of_methodNamed B.named
  have hlocks := B.notSynchronized
  obtain ⟨A, hAe⟩ : ∃ A : Nat → Prop, A = fun _ => False := ⟨_, rfl⟩
  rw [← hAe] at hQ
  have hS : va_S A s.heap s.heap [] := va_S.rf
  have hl := lv_entry [.ref m0] (n := 1) (Nat.le_of_ble_eq_true rfl)
  rw [lg_entry_eq]
  generalize (lg_sl [.ref m0] ++ List.replicate (1 - (lg_sl [.ref m0]).length) Slot.unset).toArray = ls at hl ⊢
  generalize hag : ([.ref m0] : List Value).toArray = args at hts hQ ⊢
  have hl : lv_has ls 1 [(0, .ref m0)] := hl
  obtain ⟨hwf, ⟨zh, rfl⟩ | ⟨h, hh, zh, ⟨k, hk, zk, zo⟩, hcd⟩⟩ := zh
  · skip
    refine lv_aload_n hx hb dX12_sight_0 rfl (lv_at hl 0 rfl) ?_
    refine va_get (D := (dC, dI)) (ci := 14) (v := .ref aS) (C := RX12) (T := TX12) (N := 23) hx hb hts kc_sight_0 hown hK hP 0 rfl rfl 1 (by decide) (hts (.fieldLink RX12 9 "MistHeapsModel" "s" "[I") kc_sight_1) (fun _ h9 => h9) rfl dX12_sight_1 ?_
    refine lv_iconst (v := 5) hx hb dX12_sight_4 (by decide) ?_
    refine va_iald hx hb hK hP 1 0 rfl rfl (vp_in_nI (n := 5) (N := 901) (by omega) (by omega)) dX12_sight_5 ?_
    refine qi_as (y := (-1)) ((show fS (5 : Int32).toNatClampNeg = fS 5 from rfl).trans (zh)) ?_
    refine lv_iconst (v := (-1)) hx hb dX12_sight_6 (by decide) ?_
    refine lv_icmp_ne (tgt := 14) hx hb dX12_sight_7 (by decide) (fun c_1 => absurd c_1 (by decide)) (fun _ => ?_)
    refine lv_iconst (v := 3) hx hb dX12_sight_10 (by decide) ?_
    refine lv_goto (tgt := 29) hx hb dX12_sight_11 (by decide) ?_
    rw [hQ]
    exact W.iret (v := 3) hx hb hr (fun tQ htQ hWQ => ⟨3, rfl, rfl, by rw [htQ]⟩) (fun q hq => absurd hq List.not_mem_nil) dX12_sight_29
  · skip
    refine lv_aload_n hx hb dX12_sight_0 rfl (lv_at hl 0 rfl) ?_
    refine va_get (D := (dC, dI)) (ci := 14) (v := .ref aS) (C := RX12) (T := TX12) (N := 23) hx hb hts kc_sight_0 hown hK hP 0 rfl rfl 1 (by decide) (hts (.fieldLink RX12 9 "MistHeapsModel" "s" "[I") kc_sight_1) (fun _ h9 => h9) rfl dX12_sight_1 ?_
    refine lv_iconst (v := 5) hx hb dX12_sight_4 (by decide) ?_
    refine va_iald hx hb hK hP 1 0 rfl rfl (vp_in_nI (n := 5) (N := 901) (by omega) (by omega)) dX12_sight_5 ?_
    refine qi_as (y := nI h) ((show fS (5 : Int32).toNatClampNeg = fS 5 from rfl).trans (zh)) ?_
    refine lv_iconst (v := (-1)) hx hb dX12_sight_6 (by decide) ?_
    refine lv_icmp_ne (tgt := 14) hx hb dX12_sight_7 (by decide) (fun c_2 => ?_) (fun c_2 => absurd c_2 (nI_nm1 (by omega)))
    refine lv_aload_n hx hb dX12_sight_14 rfl (lv_at hl 0 rfl) ?_
    refine va_get (D := (dC, dI)) (ci := 14) (v := .ref aS) (C := RX12) (T := TX12) (N := 23) hx hb hts kc_sight_0 hown hK hP 0 rfl rfl 1 (by decide) (hts (.fieldLink RX12 9 "MistHeapsModel" "s" "[I") kc_sight_1) (fun _ h9 => h9) rfl dX12_sight_15 ?_
    refine lv_sipush (v := 191) hx hb dX12_sight_18 (by decide) ?_
    refine lv_aload_n hx hb dX12_sight_21 rfl (lv_at hl 0 rfl) ?_
    refine va_get (D := (dC, dI)) (ci := 14) (v := .ref aS) (C := RX12) (T := TX12) (N := 23) hx hb hts kc_sight_0 hown hK hP 0 rfl rfl 1 (by decide) (hts (.fieldLink RX12 9 "MistHeapsModel" "s" "[I") kc_sight_1) (fun _ h9 => h9) rfl dX12_sight_22 ?_
    refine lv_iconst (v := 5) hx hb dX12_sight_25 (by decide) ?_
    refine va_iald hx hb hK hP 1 0 rfl rfl (vp_in_nI (n := 5) (N := 901) (by omega) (by omega)) dX12_sight_26 ?_
    refine qi_as (y := nI h) ((show fS (5 : Int32).toNatClampNeg = fS 5 from rfl).trans (zh)) ?_
    refine lv_iadd hx hb dX12_sight_27 ?_
    refine qi_as (y := nI (191 + h)) (nI_add 191 h) ?_
    refine va_iald hx hb hK hP 1 0 rfl rfl (vp_in_nI (n := 191 + h) (N := 901) (by omega) (by omega)) dX12_sight_28 ?_
    refine qi_as (y := fS (191 + h)) (by rw [nI_clamp (by omega)]) ?_
    rw [hQ]
    exact W.iret (v := fS (191 + h)) hx hb hr (fun tQ htQ hWQ => ⟨fS (191 + h), rfl, hcd.2.2.2, by rw [htQ]⟩) (fun q hq => absurd hq List.not_mem_nil) dX12_sight_29

theorem kc_reachOf_0 : ∀ w ∈ wsX120, w ∈ wsX12_reachOf := fun w h => List.mem_cons_of_mem _ (gin_wsX120 w h)
theorem kc_reachOf_1 : (.fieldLink RX12 9 "MistHeapsModel" "s" "[I" : Cond) ∈ wsX12_reachOf := kc_of 1141 rfl rfl rfl
theorem kc_reachOf_2 : (.fieldLink RX12 143 "MistHeapsModel" "seeing" "I" : Cond) ∈ wsX12_reachOf := kc_of 1151 rfl rfl rfl
set_option maxHeartbeats 4000000 in
set_option maxRecDepth 100000 in
theorem c_reachOf (l : Launch) (dC : Nat → ClassId) (dI : Nat → Nat → Nat) (m0 aS aI aB aT aG aO aN aD aY : Nat) (th im ac sp en wg op se dn rn kd nu tv : Int32) (bv : Int64) (cS cB cT : ClassId) (fS : Nat → Int32) (fB : Nat → Int32) (fT : Nat → Int32) (h : Nat) (cz : List pCla) (sz : Nat) (hh : h ≤ 8) (zh : hol fS cz) : Met l yX12_reachOf wsX12_reachOf ({ frames := 1, cells := 0, slots := 0, locals := 31 } : Room) (va_Pc [.ref m0, .int (nI h)] (fun U => U.heap.size = sz ∧ va_P (dC, dI) vwCl [(zo14irriiiiiirriirrrrlriiii m0 th aS aI im ac sp en wg op aB aT se dn aG aO aN aD bv aY rn kd nu tv), (zaI aS cS 901 fS), (zaI aB cB 6 fB), (zaI aT cT 64 fT)] U.heap ∧ va_K (dC, dI) vwCl [(cS, .int), (cB, .int), (cT, .boolean)] U ∧ va_D (fun _ => True) [(zo14irriiiiiirriirrrrlriiii m0 th aS aI im ac sp en wg op aB aT se dn aG aO aN aD bv aY rn kd nu tv), (zaI aS cS 901 fS), (zaI aB cB 6 fB), (zaI aT cT 64 fT)])) (va_Qi (fun (r : Int32) (u : (Nat → Int32) × (Nat → Int32) × (Int32) × (Int32)) => match u with | (fB9, fT9, se9, dn9) => r = RR fS cz h) (fun (u : (Nat → Int32) × (Nat → Int32) × (Int32) × (Int32)) (t : State) => match u with | (fB9, fT9, se9, dn9) => va_P (dC, dI) vwCl [(zo14irriiiiiirriirrrrlriiii m0 th aS aI im ac sp en wg op aB aT se9 dn9 aG aO aN aD bv aY rn kd nu tv), (zaI aS cS 901 fS), (zaI aB cB 6 fB9), (zaI aT cT 64 fT9)] t.heap ∧ va_K (dC, dI) vwCl [(cS, .int), (cB, .int), (cT, .boolean)] t ∧ va_D (va_A [(zo14irriiiiiirriirrrrlriiii m0 th aS aI im ac sp en wg op aB aT se dn aG aO aN aD bv aY rn kd nu tv), (zaI aS cS 901 fS), (zaI aB cB 6 fB), (zaI aT cT 64 fT)] sz) [(zo14irriiiiiirriirrrrlriiii m0 th aS aI im ac sp en wg op aB aT se9 dn9 aG aO aN aD bv aY rn kd nu tv), (zaI aS cS 901 fS), (zaI aB cB 6 fB9), (zaI aT cT 64 fT9)]) (va_A [(zo14irriiiiiirriirrrrlriiii m0 th aS aI im ac sp en wg op aB aT se dn aG aO aN aD bv aY rn kd nu tv), (zaI aS cS 901 fS), (zaI aB cB 6 fB), (zaI aT cT 64 fT)] sz)) 0 0 (va_A [(zo14irriiiiiirriirrrrlriiii m0 th aS aI im ac sp en wg op aB aT se dn aG aO aN aD bv aY rn kd nu tv), (zaI aS cS 901 fS), (zaI aB cB 6 fB), (zaI aT cT 64 fT)] sz) := by
  refine met_ofQ (cc := cX12_reachOf) (maxL := 5) (ret := (some .int)) (by decide) rfl ?_
  intro p e s m args below meth c s₁ Q B hml hv hQ
  obtain ⟨rfl, hsz, hP, hK, hD0⟩ := hv
  have hx := B.exec
  have hb := B.bytes
  have hr := B.returns
  have hts := atoms_spec (ws := wsX12_reachOf) B.pre
  have hown : s.vm.findClass RX12 = some m.cls := findClass_of_methodNamed B.named
  have hlocks := B.notSynchronized
  subst hsz
  have hD := hD0.self (sz := s.heap.size)
  generalize hAe : va_A [(zo14irriiiiiirriirrrrlriiii m0 th aS aI im ac sp en wg op aB aT se dn aG aO aN aD bv aY rn kd nu tv), (zaI aS cS 901 fS), (zaI aB cB 6 fB), (zaI aT cT 64 fT)] s.heap.size = A at hD hQ ⊢
  have hA : ∀ q : Nat, s.heap.size ≤ q → A q := fun q h => by rw [← hAe]; exact Or.inr h
  have hS : va_S A s.heap s.heap [] := va_S.rf
  have hl := lv_entry [.ref m0, .int (nI h)] (n := 5) (Nat.le_of_ble_eq_true rfl)
  rw [lg_entry_eq]
  generalize (lg_sl [.ref m0, .int (nI h)] ++ List.replicate (5 - (lg_sl [.ref m0, .int (nI h)]).length) Slot.unset).toArray = ls at hl ⊢
  generalize hag : ([.ref m0, .int (nI h)] : List Value).toArray = args at hts hQ ⊢
  have hl : lv_has ls 5 [(0, .ref m0), (1, .int (nI h))] := hl
  obtain ⟨H, hH⟩ : ∃ H : Heap, H = s.heap := ⟨_, rfl⟩
  rw [← hH] at hP
  rw [← hH]
  have hS : va_S A s.heap H [] := by rw [hH]; exact hS
  obtain ⟨locs, hlo⟩ : ∃ L : List Loc, L = [] := ⟨_, rfl⟩
  rw [← hlo] at hS
  rw [← hlo]
  clear hH hlo
  refine lv_aload_n hx hb dX12_reachOf_0 rfl (lv_at hl 0 rfl) ?_
  refine va_get (D := (dC, dI)) (ci := 14) (v := .ref aS) (C := RX12) (T := TX12) (N := 23) hx hb hts kc_reachOf_0 hown hK hP 0 rfl rfl 1 (by decide) (hts (.fieldLink RX12 9 "MistHeapsModel" "s" "[I") kc_reachOf_1) (fun _ h9 => h9) rfl dX12_reachOf_1 ?_
  refine lv_bipush (v := 10) hx hb dX12_reachOf_4 (by decide) ?_
  refine lv_iload_n hx hb dX12_reachOf_6 rfl (lv_at hl 1 rfl) ?_
  refine lv_iadd hx hb dX12_reachOf_7 ?_
  refine qi_as (y := nI (10 + h)) (nI_add 10 h) ?_
  refine va_iald hx hb hK hP 1 0 rfl rfl (vp_in_nI (n := 10 + h) (N := 901) (by omega) (by omega)) dX12_reachOf_8 ?_
  refine qi_as (y := fS (10 + h)) (by rw [nI_clamp (by omega)]) ?_
  refine lv_istore_n (lv' := [(2, .int (fS (10 + h))), (0, .ref m0), (1, .int (nI h))]) hx hb dX12_reachOf_9 rfl hl (by decide) rfl (fun ls hl => ?_)
  refine lv_aload_n hx hb dX12_reachOf_10 rfl (lv_at hl 1 rfl) ?_
  refine va_get (D := (dC, dI)) (ci := 14) (v := .ref aS) (C := RX12) (T := TX12) (N := 23) hx hb hts kc_reachOf_0 hown hK hP 0 rfl rfl 1 (by decide) (hts (.fieldLink RX12 9 "MistHeapsModel" "s" "[I") kc_reachOf_1) (fun _ h9 => h9) rfl dX12_reachOf_11 ?_
  refine lv_bipush (v := 19) hx hb dX12_reachOf_14 (by decide) ?_
  refine lv_iload_n hx hb dX12_reachOf_16 rfl (lv_at hl 2 rfl) ?_
  refine lv_iadd hx hb dX12_reachOf_17 ?_
  refine qi_as (y := nI (19 + h)) (nI_add 19 h) ?_
  refine va_iald hx hb hK hP 1 0 rfl rfl (vp_in_nI (n := 19 + h) (N := 901) (by omega) (by omega)) dX12_reachOf_18 ?_
  refine qi_as (y := fS (19 + h)) (by rw [nI_clamp (by omega)]) ?_
  refine lv_istore_n (lv' := [(3, .int (fS (19 + h))), (2, .int (fS (10 + h))), (0, .ref m0), (1, .int (nI h))]) hx hb dX12_reachOf_19 rfl hl (by decide) rfl (fun ls hl => ?_)
  refine lv_aload_n hx hb dX12_reachOf_20 rfl (lv_at hl 2 rfl) ?_
  refine lv_iload_n hx hb dX12_reachOf_21 rfl (lv_at hl 3 rfl) ?_
  refine lv_iload_n hx hb dX12_reachOf_22 rfl (lv_at hl 1 rfl) ?_
  refine lv_aload_n hx hb dX12_reachOf_23 rfl (lv_at hl 2 rfl) ?_
  refine va_get (D := (dC, dI)) (ci := 14) (v := .ref aS) (C := RX12) (T := TX12) (N := 23) hx hb hts kc_reachOf_0 hown hK hP 0 rfl rfl 1 (by decide) (hts (.fieldLink RX12 9 "MistHeapsModel" "s" "[I") kc_reachOf_1) (fun _ h9 => h9) rfl dX12_reachOf_24 ?_
  refine lv_bipush (v := 28) hx hb dX12_reachOf_27 (by decide) ?_
  refine lv_iload_n hx hb dX12_reachOf_29 rfl (lv_at hl 3 rfl) ?_
  refine lv_iadd hx hb dX12_reachOf_30 ?_
  refine qi_as (y := nI (28 + h)) (nI_add 28 h) ?_
  refine va_iald hx hb hK hP 1 0 rfl rfl (vp_in_nI (n := 28 + h) (N := 901) (by omega) (by omega)) dX12_reachOf_31 ?_
  refine qi_as (y := fS (28 + h)) (by rw [nI_clamp (by omega)]) ?_
  have hPc := hP.sub (ws' := [(zo14irriiiiiirriirrrrlriiii m0 th aS aI im ac sp en wg op aB aT se dn aG aO aN aD bv aY rn kd nu tv), (zaI aS cS 901 fS), (zaI aB cB 6 fB), (zaI aT cT 64 fT)]) [0, 1, 2, 3] rfl
  have hDc := hD.sub (ws' := [(zo14irriiiiiirriirrrrlriiii m0 th aS aI im ac sp en wg op aB aT se dn aG aO aN aD bv aY rn kd nu tv), (zaI aS cS 901 fS), (zaI aB cB 6 fB), (zaI aT cT 64 fT)]) [0, 1, 2, 3] (by decide) rfl
  have hKc := hK.sub (tys' := [(cS, .int), (cB, .int), (cT, .boolean)]) [0, 1, 2] rfl
  have hFc := va_free (wc := [(zo14irriiiiiirriirrrrlriiii m0 th aS aI im ac sp en wg op aB aT se dn aG aO aN aD bv aY rn kd nu tv), (zaI aS cS 901 fS), (zaI aB cB 6 fB), (zaI aT cT 64 fT)]) hD hS hA [0, 1, 2, 3] rfl
  refine va_callv (va_runV (As := [.int (nI h), .int (fS (10 + h)), .int (fS (28 + h))]) (rest := []) ⟨hx, hb, hml, hown, hts⟩ (c_looks l dC dI m0 aS aI aB aT aG aO aN aD aY th im ac sp en wg op se dn rn kd nu tv bv cS cB cT fS fB fT (nI h) (fS (10 + h)) (fS (28 + h)) cz H.size (zh)) (cwV 3 hts gX12_reachOf_X12_looks rfl rfl rfl hd_yX12_looks ⟨Nat.le_of_ble_eq_true rfl, Nat.le_of_ble_eq_true rfl⟩) ⟨fun a U g mk q => by obtain ⟨q0, q1, qP, qK, qD⟩ := q; exact ⟨q0, q1, qP, va_K.moved (u := U) (U := U.calling g mk a) (Vm.Alike.refl U.vm) qK, qD⟩, va_recv hK hP (ci := 14) (q := (RX12, TX12, 23)) (q0 := 0) rfl rfl, fun U hU hW => ⟨rfl, by rw [hU], by rw [hU]; exact hPc, va_K.moved hW.alike hKc, hDc.weaken (fun _ _ _ _ => trivial)⟩⟩ rfl rfl hl.1 rfl (lv_room (Nat.le_of_ble_eq_true rfl)) dX12_reachOf_32 ⟨Nat.le_of_ble_eq_true rfl, Nat.le_of_ble_eq_true rfl⟩) hS (fun q _ h => hFc q h) hFc (fun u tC H1 locs htC hvm hw_2 hB hz1 hk1 hS => ?_)
  obtain ⟨fB9_3, fT9_4, se9_5, dn9_6⟩ := u
  try dsimp only at hw_2 hB
  obtain ⟨hP1, hK1, hD1⟩ := hB
  rw [htC] at hP1
  have hK1 := va_K.moved hvm.symm hK1
  obtain ⟨hP, hD⟩ := va_join (wr := []) (w1 := [(zo14irriiiiiirriirrrrlriiii m0 th aS aI im ac sp en wg op aB aT se9_5 dn9_6 aG aO aN aD bv aY rn kd nu tv), (zaI aS cS 901 fS), (zaI aB cB 6 fB9_3), (zaI aT cT 64 fT9_4)]) hP hD [0, 1, 2, 3] [] rfl rfl (by decide) (by decide) hk1 hFc hP1 hD1
  have hK := (hK.sub (tys' := []) [] rfl).app hK1
  generalize H1 = H at hP hS ⊢
  have hP : va_P (dC, dI) vwCl [(zo14irriiiiiirriirrrrlriiii m0 th aS aI im ac sp en wg op aB aT se9_5 dn9_6 aG aO aN aD bv aY rn kd nu tv), (zaI aS cS 901 fS), (zaI aB cB 6 fB9_3), (zaI aT cT 64 fT9_4)] H := hP
  have hD : va_D A [(zo14irriiiiiirriirrrrlriiii m0 th aS aI im ac sp en wg op aB aT se9_5 dn9_6 aG aO aN aD bv aY rn kd nu tv), (zaI aS cS 901 fS), (zaI aB cB 6 fB9_3), (zaI aT cT 64 fT9_4)] := hD
  have hK : va_K (dC, dI) vwCl [(cS, .int), (cB, .int), (cT, .boolean)] s := hK
  obtain ⟨ese, edn⟩ := hw_2
  refine lv_aload_n hx hb dX12_reachOf_35 rfl (lv_at hl 2 rfl) ?_
  have hPc := hP.sub (ws' := [(zo14irriiiiiirriirrrrlriiii m0 th aS aI im ac sp en wg op aB aT se9_5 dn9_6 aG aO aN aD bv aY rn kd nu tv), (zaI aS cS 901 fS)]) [0, 1] rfl
  have hKc := hK.sub (tys' := [(cS, .int)]) [0] rfl
  refine vp_callSi (va_runV (As := []) (rest := []) ⟨hx, hb, hml, hown, hts⟩ (c_sight l dC dI m0 aS aI aB aT aG aO aN aD aY th im ac sp en wg op se9_5 dn9_6 rn kd nu tv bv cS fS cz (zh)) (cwV 0 hts gX12_reachOf_X12_sight rfl rfl rfl hd_yX12_sight ⟨Nat.le_of_ble_eq_true rfl, Nat.le_of_ble_eq_true rfl⟩) ⟨fun a U g mk q => by obtain ⟨q0, qP, qK⟩ := q; exact ⟨q0, qP, va_K.moved (u := U) (U := U.calling g mk a) (Vm.Alike.refl U.vm) qK⟩, va_recv hK hP (ci := 14) (q := (RX12, TX12, 23)) (q0 := 0) rfl rfl, fun U hU hW => ⟨rfl, by rw [hU]; exact hPc, va_K.moved hW.alike hKc⟩⟩ rfl rfl hl.1 rfl (lv_room (Nat.le_of_ble_eq_true rfl)) dX12_reachOf_36 ⟨Nat.le_of_ble_eq_true rfl, Nat.le_of_ble_eq_true rfl⟩).run (fun r_7 hw_8 => ?_)
  have esg := hw_8
  refine lv_aload_n hx hb dX12_reachOf_39 rfl (lv_at hl 2 rfl) ?_
  refine va_get (D := (dC, dI)) (ci := 14) (v := .int se9_5) (C := RX12) (T := TX12) (N := 23) hx hb hts kc_reachOf_0 hown hK hP 0 rfl rfl 11 (by decide) (hts (.fieldLink RX12 143 "MistHeapsModel" "seeing" "I") kc_reachOf_2) (fun _ h9 => h9) rfl dX12_reachOf_40 ?_
  refine lv_iadd hx hb dX12_reachOf_43 ?_
  refine lv_aload_n hx hb dX12_reachOf_44 rfl (lv_at hl 2 rfl) ?_
  refine va_get (D := (dC, dI)) (ci := 14) (v := .ref aS) (C := RX12) (T := TX12) (N := 23) hx hb hts kc_reachOf_0 hown hK hP 0 rfl rfl 1 (by decide) (hts (.fieldLink RX12 9 "MistHeapsModel" "s" "[I") kc_reachOf_1) (fun _ h9 => h9) rfl dX12_reachOf_45 ?_
  refine lv_bipush (v := 6) hx hb dX12_reachOf_48 (by decide) ?_
  refine va_iald hx hb hK hP 1 0 rfl rfl (vp_in_nI (n := 6) (N := 901) (by omega) (by omega)) dX12_reachOf_50 ?_
  refine qi_as (y := fS 6) (rfl) ?_
  refine lv_isub hx hb dX12_reachOf_51 ?_
  refine lv_istore (lv' := [(4, .int ((r_7 + se9_5) - (fS 6))), (3, .int (fS (19 + h))), (2, .int (fS (10 + h))), (0, .ref m0), (1, .int (nI h))]) hx hb dX12_reachOf_52 hl (by decide) rfl (fun ls hl => ?_)
  refine lv_iload hx hb dX12_reachOf_54 (lv_at hl 0 rfl) ?_
  refine lv_iload_n hx hb dX12_reachOf_56 rfl (lv_at hl 2 rfl) ?_
  refine lv_iconst (v := 1) hx hb dX12_reachOf_57 (by decide) ?_
  have J58 : ∀ v_9 : Int32, (v_9 = rc1 (fS (10 + h)) (fS (19 + h))) → W p l e ({ frames := 1, cells := 0, slots := 0, locals := 31 } : Room) s m args below meth c H locs 0 0 Q (F0 m 87 ls [.int v_9, .int ((r_7 + se9_5) - (fS 6))]) := by
    intro v_9 hv_10
    subst hv_10
    refine lv_iadd hx hb dX12_reachOf_87 ?_
    refine lv_istore (lv' := [(4, .int (((r_7 + se9_5) - (fS 6)) + (rc1 (fS (10 + h)) (fS (19 + h))))), (3, .int (fS (19 + h))), (2, .int (fS (10 + h))), (0, .ref m0), (1, .int (nI h))]) hx hb dX12_reachOf_88 hl (by decide) rfl (fun ls hl => ?_)
    refine lv_iload hx hb dX12_reachOf_90 (lv_at hl 0 rfl) ?_
    have J92 : ∀ v_11 : Int32, (v_11 = rc2 (((r_7 + se9_5) - (fS 6)) + (rc1 (fS (10 + h)) (fS (19 + h)))) (fS (10 + h)) (fS (19 + h)) (fS 7)) → W p l e ({ frames := 1, cells := 0, slots := 0, locals := 31 } : Room) s m args below meth c H locs 0 0 Q (F0 m 117 ls [.int v_11]) := by
      intro v_11 hv_12
      subst hv_12
      refine lv_istore (lv' := [(4, .int (rc2 (((r_7 + se9_5) - (fS 6)) + (rc1 (fS (10 + h)) (fS (19 + h)))) (fS (10 + h)) (fS (19 + h)) (fS 7))), (3, .int (fS (19 + h))), (2, .int (fS (10 + h))), (0, .ref m0), (1, .int (nI h))]) hx hb dX12_reachOf_117 hl (by decide) rfl (fun ls hl => ?_)
      refine lv_iload_n hx hb dX12_reachOf_119 rfl (lv_at hl 2 rfl) ?_
      refine lv_bipush (v := 6) hx hb dX12_reachOf_120 (by decide) ?_
      have J122 : ∀ v_13 : Int32, (v_13 = rc3 (rc2 (((r_7 + se9_5) - (fS 6)) + (rc1 (fS (10 + h)) (fS (19 + h)))) (fS (10 + h)) (fS (19 + h)) (fS 7)) (fS (10 + h))) → W p l e ({ frames := 1, cells := 0, slots := 0, locals := 31 } : Room) s m args below meth c H locs 0 0 Q (F0 m 137 ls [.int v_13]) := by
        intro v_13 hv_14
        subst hv_14
        rw [hQ]
        have hP9 := hP.sub (ws' := [(zo14irriiiiiirriirrrrlriiii m0 th aS aI im ac sp en wg op aB aT se9_5 dn9_6 aG aO aN aD bv aY rn kd nu tv), (zaI aS cS 901 fS), (zaI aB cB 6 fB9_3), (zaI aT cT 64 fT9_4)]) [0, 1, 2, 3] rfl
        have hD9 := hD.sub (ws' := [(zo14irriiiiiirriirrrrlriiii m0 th aS aI im ac sp en wg op aB aT se9_5 dn9_6 aG aO aN aD bv aY rn kd nu tv), (zaI aS cS 901 fS), (zaI aB cB 6 fB9_3), (zaI aT cT 64 fT9_4)]) [0, 1, 2, 3] (by decide) rfl
        have hK9 := hK.sub (tys' := [(cS, .int), (cB, .int), (cT, .boolean)]) [0, 1, 2] rfl
        exact W.iret (v := (rc3 (rc2 (((r_7 + se9_5) - (fS 6)) + (rc1 (fS (10 + h)) (fS (19 + h)))) (fS (10 + h)) (fS (19 + h)) (fS 7)) (fS (10 + h)))) hx hb hr (fun tQ htQ hWQ => ⟨⟨(rc3 (rc2 (((r_7 + se9_5) - (fS 6)) + (rc1 (fS (10 + h)) (fS (19 + h)))) (fS (10 + h)) (fS (19 + h)) (fS 7)) (fS (10 + h))), (fB9_3, fT9_4, se9_5, dn9_6), rfl, rc_eq esg ese, by rw [htQ]; exact hP9, va_K.moved hWQ.alike hK9, hD9⟩, hS.F htQ⟩) hS.2.2 dX12_reachOf_137
      refine lv_icmp_ne (tgt := 135) hx hb dX12_reachOf_122 (by decide) (fun c_15 => ?_) (fun c_15 => ?_)
      · skip
        refine lv_iload hx hb dX12_reachOf_135 (lv_at hl 0 rfl) ?_
        exact J122 (rc2 (((r_7 + se9_5) - (fS 6)) + (rc1 (fS (10 + h)) (fS (19 + h)))) (fS (10 + h)) (fS (19 + h)) (fS 7)) (by unfold rc3; first | (rw [if_pos (by assumption)]; done) | (rw [if_pos (by assumption), if_pos (by assumption)]; done) | (rw [if_pos (by assumption), if_neg (by assumption)]; done) | (rw [if_neg (by assumption), if_pos (by assumption)]; done) | (rw [if_neg (by assumption), if_pos (by assumption), if_pos (by assumption)]; done) | (rw [if_neg (by assumption), if_pos (by assumption), if_neg (by assumption)]; done) | (rw [if_neg (by assumption), if_neg (by assumption)]; done) | (rw [if_neg (by assumption), if_neg (by assumption), if_pos (by assumption)]; done) | (rw [if_neg (by assumption), if_neg (by assumption), if_neg (by assumption), if_pos (by assumption)]; done) | (rw [if_neg (by assumption), if_neg (by assumption), if_neg (by assumption), if_neg (by assumption)]; done) | (rw [if_neg (by assumption)]; done))
      · skip
        refine lv_iload hx hb dX12_reachOf_125 (lv_at hl 0 rfl) ?_
        refine lv_iconst (v := 1) hx hb dX12_reachOf_127 (by decide) ?_
        refine lv_icmp_le (tgt := 135) hx hb dX12_reachOf_128 (by decide) (fun c_16 => ?_) (fun c_16 => ?_)
        · skip
          refine lv_iload hx hb dX12_reachOf_135 (lv_at hl 0 rfl) ?_
          exact J122 (rc2 (((r_7 + se9_5) - (fS 6)) + (rc1 (fS (10 + h)) (fS (19 + h)))) (fS (10 + h)) (fS (19 + h)) (fS 7)) (by unfold rc3; first | (rw [if_pos (by assumption)]; done) | (rw [if_pos (by assumption), if_pos (by assumption)]; done) | (rw [if_pos (by assumption), if_neg (by assumption)]; done) | (rw [if_neg (by assumption), if_pos (by assumption)]; done) | (rw [if_neg (by assumption), if_pos (by assumption), if_pos (by assumption)]; done) | (rw [if_neg (by assumption), if_pos (by assumption), if_neg (by assumption)]; done) | (rw [if_neg (by assumption), if_neg (by assumption)]; done) | (rw [if_neg (by assumption), if_neg (by assumption), if_pos (by assumption)]; done) | (rw [if_neg (by assumption), if_neg (by assumption), if_neg (by assumption), if_pos (by assumption)]; done) | (rw [if_neg (by assumption), if_neg (by assumption), if_neg (by assumption), if_neg (by assumption)]; done) | (rw [if_neg (by assumption)]; done))
        · skip
          refine lv_iconst (v := 1) hx hb dX12_reachOf_131 (by decide) ?_
          refine lv_goto (tgt := 137) hx hb dX12_reachOf_132 (by decide) ?_
          exact J122 1 (by unfold rc3; first | (rw [if_pos (by assumption)]; done) | (rw [if_pos (by assumption), if_pos (by assumption)]; done) | (rw [if_pos (by assumption), if_neg (by assumption)]; done) | (rw [if_neg (by assumption), if_pos (by assumption)]; done) | (rw [if_neg (by assumption), if_pos (by assumption), if_pos (by assumption)]; done) | (rw [if_neg (by assumption), if_pos (by assumption), if_neg (by assumption)]; done) | (rw [if_neg (by assumption), if_neg (by assumption)]; done) | (rw [if_neg (by assumption), if_neg (by assumption), if_pos (by assumption)]; done) | (rw [if_neg (by assumption), if_neg (by assumption), if_neg (by assumption), if_pos (by assumption)]; done) | (rw [if_neg (by assumption), if_neg (by assumption), if_neg (by assumption), if_neg (by assumption)]; done) | (rw [if_neg (by assumption)]; done))
    refine lv_if_lt (tgt := 111) hx hb dX12_reachOf_92 (by decide) (fun c_17 => ?_) (fun c_17 => ?_)
    · skip
      refine lv_iconst (v := 0) hx hb dX12_reachOf_111 (by decide) ?_
      refine lv_goto (tgt := 117) hx hb dX12_reachOf_112 (by decide) ?_
      exact J92 0 (by unfold rc2; first | (rw [if_pos (by assumption)]; done) | (rw [if_pos (by assumption), if_pos (by assumption)]; done) | (rw [if_pos (by assumption), if_neg (by assumption)]; done) | (rw [if_neg (by assumption), if_pos (by assumption)]; done) | (rw [if_neg (by assumption), if_pos (by assumption), if_pos (by assumption)]; done) | (rw [if_neg (by assumption), if_pos (by assumption), if_neg (by assumption)]; done) | (rw [if_neg (by assumption), if_neg (by assumption)]; done) | (rw [if_neg (by assumption), if_neg (by assumption), if_pos (by assumption)]; done) | (rw [if_neg (by assumption), if_neg (by assumption), if_neg (by assumption), if_pos (by assumption)]; done) | (rw [if_neg (by assumption), if_neg (by assumption), if_neg (by assumption), if_neg (by assumption)]; done) | (rw [if_neg (by assumption)]; done))
    · skip
      refine lv_iload_n hx hb dX12_reachOf_95 rfl (lv_at hl 2 rfl) ?_
      refine lv_iconst (v := 5) hx hb dX12_reachOf_96 (by decide) ?_
      refine lv_icmp_ne (tgt := 115) hx hb dX12_reachOf_97 (by decide) (fun c_18 => ?_) (fun c_18 => ?_)
      · skip
        refine lv_iload hx hb dX12_reachOf_115 (lv_at hl 0 rfl) ?_
        exact J92 (((r_7 + se9_5) - (fS 6)) + (rc1 (fS (10 + h)) (fS (19 + h)))) (by unfold rc2; first | (rw [if_pos (by assumption)]; done) | (rw [if_pos (by assumption), if_pos (by assumption)]; done) | (rw [if_pos (by assumption), if_neg (by assumption)]; done) | (rw [if_neg (by assumption), if_pos (by assumption)]; done) | (rw [if_neg (by assumption), if_pos (by assumption), if_pos (by assumption)]; done) | (rw [if_neg (by assumption), if_pos (by assumption), if_neg (by assumption)]; done) | (rw [if_neg (by assumption), if_neg (by assumption)]; done) | (rw [if_neg (by assumption), if_neg (by assumption), if_pos (by assumption)]; done) | (rw [if_neg (by assumption), if_neg (by assumption), if_neg (by assumption), if_pos (by assumption)]; done) | (rw [if_neg (by assumption), if_neg (by assumption), if_neg (by assumption), if_neg (by assumption)]; done) | (rw [if_neg (by assumption)]; done))
      · skip
        refine lv_aload_n hx hb dX12_reachOf_100 rfl (lv_at hl 3 rfl) ?_
        refine va_get (D := (dC, dI)) (ci := 14) (v := .ref aS) (C := RX12) (T := TX12) (N := 23) hx hb hts kc_reachOf_0 hown hK hP 0 rfl rfl 1 (by decide) (hts (.fieldLink RX12 9 "MistHeapsModel" "s" "[I") kc_reachOf_1) (fun _ h9 => h9) rfl dX12_reachOf_101 ?_
        refine lv_bipush (v := 7) hx hb dX12_reachOf_104 (by decide) ?_
        refine va_iald hx hb hK hP 1 0 rfl rfl (vp_in_nI (n := 7) (N := 901) (by omega) (by omega)) dX12_reachOf_106 ?_
        refine qi_as (y := fS 7) (rfl) ?_
        refine lv_iload_n hx hb dX12_reachOf_107 rfl (lv_at hl 1 rfl) ?_
        refine lv_icmp_le (tgt := 115) hx hb dX12_reachOf_108 (by decide) (fun c_19 => ?_) (fun c_19 => ?_)
        · skip
          refine lv_iload hx hb dX12_reachOf_115 (lv_at hl 0 rfl) ?_
          exact J92 (((r_7 + se9_5) - (fS 6)) + (rc1 (fS (10 + h)) (fS (19 + h)))) (by unfold rc2; first | (rw [if_pos (by assumption)]; done) | (rw [if_pos (by assumption), if_pos (by assumption)]; done) | (rw [if_pos (by assumption), if_neg (by assumption)]; done) | (rw [if_neg (by assumption), if_pos (by assumption)]; done) | (rw [if_neg (by assumption), if_pos (by assumption), if_pos (by assumption)]; done) | (rw [if_neg (by assumption), if_pos (by assumption), if_neg (by assumption)]; done) | (rw [if_neg (by assumption), if_neg (by assumption)]; done) | (rw [if_neg (by assumption), if_neg (by assumption), if_pos (by assumption)]; done) | (rw [if_neg (by assumption), if_neg (by assumption), if_neg (by assumption), if_pos (by assumption)]; done) | (rw [if_neg (by assumption), if_neg (by assumption), if_neg (by assumption), if_neg (by assumption)]; done) | (rw [if_neg (by assumption)]; done))
        · skip
          refine lv_iconst (v := 0) hx hb dX12_reachOf_111 (by decide) ?_
          refine lv_goto (tgt := 117) hx hb dX12_reachOf_112 (by decide) ?_
          exact J92 0 (by unfold rc2; first | (rw [if_pos (by assumption)]; done) | (rw [if_pos (by assumption), if_pos (by assumption)]; done) | (rw [if_pos (by assumption), if_neg (by assumption)]; done) | (rw [if_neg (by assumption), if_pos (by assumption)]; done) | (rw [if_neg (by assumption), if_pos (by assumption), if_pos (by assumption)]; done) | (rw [if_neg (by assumption), if_pos (by assumption), if_neg (by assumption)]; done) | (rw [if_neg (by assumption), if_neg (by assumption)]; done) | (rw [if_neg (by assumption), if_neg (by assumption), if_pos (by assumption)]; done) | (rw [if_neg (by assumption), if_neg (by assumption), if_neg (by assumption), if_pos (by assumption)]; done) | (rw [if_neg (by assumption), if_neg (by assumption), if_neg (by assumption), if_neg (by assumption)]; done) | (rw [if_neg (by assumption)]; done))
  refine lv_icmp_eq (tgt := 66) hx hb dX12_reachOf_58 (by decide) (fun c_20 => ?_) (fun c_20 => ?_)
  · skip
    refine lv_iload_n hx hb dX12_reachOf_66 rfl (lv_at hl 1 rfl) ?_
    refine lv_iconst (v := 3) hx hb dX12_reachOf_67 (by decide) ?_
    refine lv_idiv hx hb dX12_reachOf_68 (by decide) ?_
    refine lv_goto (tgt := 87) hx hb dX12_reachOf_69 (by decide) ?_
    exact J58 ((fS (19 + h)) / 3) (by unfold rc1; first | (rw [if_pos (by assumption)]; done) | (rw [if_pos (by assumption), if_pos (by assumption)]; done) | (rw [if_pos (by assumption), if_neg (by assumption)]; done) | (rw [if_neg (by assumption), if_pos (by assumption)]; done) | (rw [if_neg (by assumption), if_pos (by assumption), if_pos (by assumption)]; done) | (rw [if_neg (by assumption), if_pos (by assumption), if_neg (by assumption)]; done) | (rw [if_neg (by assumption), if_neg (by assumption)]; done) | (rw [if_neg (by assumption), if_neg (by assumption), if_pos (by assumption)]; done) | (rw [if_neg (by assumption), if_neg (by assumption), if_neg (by assumption), if_pos (by assumption)]; done) | (rw [if_neg (by assumption), if_neg (by assumption), if_neg (by assumption), if_neg (by assumption)]; done) | (rw [if_neg (by assumption)]; done))
  · skip
    refine lv_iload_n hx hb dX12_reachOf_61 rfl (lv_at hl 2 rfl) ?_
    refine lv_iconst (v := 4) hx hb dX12_reachOf_62 (by decide) ?_
    refine lv_icmp_ne (tgt := 72) hx hb dX12_reachOf_63 (by decide) (fun c_21 => ?_) (fun c_21 => ?_)
    · skip
      refine lv_iload_n hx hb dX12_reachOf_72 rfl (lv_at hl 2 rfl) ?_
      refine lv_iconst (v := 2) hx hb dX12_reachOf_73 (by decide) ?_
      refine lv_icmp_eq (tgt := 82) hx hb dX12_reachOf_74 (by decide) (fun c_22 => ?_) (fun c_22 => ?_)
      · skip
        refine lv_iconst (v := (-1)) hx hb dX12_reachOf_82 (by decide) ?_
        refine lv_goto (tgt := 87) hx hb dX12_reachOf_83 (by decide) ?_
        exact J58 (-1) (by unfold rc1; first | (rw [if_pos (by assumption)]; done) | (rw [if_pos (by assumption), if_pos (by assumption)]; done) | (rw [if_pos (by assumption), if_neg (by assumption)]; done) | (rw [if_neg (by assumption), if_pos (by assumption)]; done) | (rw [if_neg (by assumption), if_pos (by assumption), if_pos (by assumption)]; done) | (rw [if_neg (by assumption), if_pos (by assumption), if_neg (by assumption)]; done) | (rw [if_neg (by assumption), if_neg (by assumption)]; done) | (rw [if_neg (by assumption), if_neg (by assumption), if_pos (by assumption)]; done) | (rw [if_neg (by assumption), if_neg (by assumption), if_neg (by assumption), if_pos (by assumption)]; done) | (rw [if_neg (by assumption), if_neg (by assumption), if_neg (by assumption), if_neg (by assumption)]; done) | (rw [if_neg (by assumption)]; done))
      · skip
        refine lv_iload_n hx hb dX12_reachOf_77 rfl (lv_at hl 2 rfl) ?_
        refine lv_iconst (v := 5) hx hb dX12_reachOf_78 (by decide) ?_
        refine lv_icmp_ne (tgt := 86) hx hb dX12_reachOf_79 (by decide) (fun c_23 => ?_) (fun c_23 => ?_)
        · skip
          refine lv_iconst (v := 0) hx hb dX12_reachOf_86 (by decide) ?_
          exact J58 0 (by unfold rc1; first | (rw [if_pos (by assumption)]; done) | (rw [if_pos (by assumption), if_pos (by assumption)]; done) | (rw [if_pos (by assumption), if_neg (by assumption)]; done) | (rw [if_neg (by assumption), if_pos (by assumption)]; done) | (rw [if_neg (by assumption), if_pos (by assumption), if_pos (by assumption)]; done) | (rw [if_neg (by assumption), if_pos (by assumption), if_neg (by assumption)]; done) | (rw [if_neg (by assumption), if_neg (by assumption)]; done) | (rw [if_neg (by assumption), if_neg (by assumption), if_pos (by assumption)]; done) | (rw [if_neg (by assumption), if_neg (by assumption), if_neg (by assumption), if_pos (by assumption)]; done) | (rw [if_neg (by assumption), if_neg (by assumption), if_neg (by assumption), if_neg (by assumption)]; done) | (rw [if_neg (by assumption)]; done))
        · skip
          refine lv_iconst (v := (-1)) hx hb dX12_reachOf_82 (by decide) ?_
          refine lv_goto (tgt := 87) hx hb dX12_reachOf_83 (by decide) ?_
          exact J58 (-1) (by unfold rc1; first | (rw [if_pos (by assumption)]; done) | (rw [if_pos (by assumption), if_pos (by assumption)]; done) | (rw [if_pos (by assumption), if_neg (by assumption)]; done) | (rw [if_neg (by assumption), if_pos (by assumption)]; done) | (rw [if_neg (by assumption), if_pos (by assumption), if_pos (by assumption)]; done) | (rw [if_neg (by assumption), if_pos (by assumption), if_neg (by assumption)]; done) | (rw [if_neg (by assumption), if_neg (by assumption)]; done) | (rw [if_neg (by assumption), if_neg (by assumption), if_pos (by assumption)]; done) | (rw [if_neg (by assumption), if_neg (by assumption), if_neg (by assumption), if_pos (by assumption)]; done) | (rw [if_neg (by assumption), if_neg (by assumption), if_neg (by assumption), if_neg (by assumption)]; done) | (rw [if_neg (by assumption)]; done))
    · skip
      refine lv_iload_n hx hb dX12_reachOf_66 rfl (lv_at hl 1 rfl) ?_
      refine lv_iconst (v := 3) hx hb dX12_reachOf_67 (by decide) ?_
      refine lv_idiv hx hb dX12_reachOf_68 (by decide) ?_
      refine lv_goto (tgt := 87) hx hb dX12_reachOf_69 (by decide) ?_
      exact J58 ((fS (19 + h)) / 3) (by unfold rc1; first | (rw [if_pos (by assumption)]; done) | (rw [if_pos (by assumption), if_pos (by assumption)]; done) | (rw [if_pos (by assumption), if_neg (by assumption)]; done) | (rw [if_neg (by assumption), if_pos (by assumption)]; done) | (rw [if_neg (by assumption), if_pos (by assumption), if_pos (by assumption)]; done) | (rw [if_neg (by assumption), if_pos (by assumption), if_neg (by assumption)]; done) | (rw [if_neg (by assumption), if_neg (by assumption)]; done) | (rw [if_neg (by assumption), if_neg (by assumption), if_pos (by assumption)]; done) | (rw [if_neg (by assumption), if_neg (by assumption), if_neg (by assumption), if_pos (by assumption)]; done) | (rw [if_neg (by assumption), if_neg (by assumption), if_neg (by assumption), if_neg (by assumption)]; done) | (rw [if_neg (by assumption)]; done))

theorem kc_isSeen_0 : ∀ w ∈ wsX120, w ∈ wsX12_isSeen := fun w h => List.mem_cons_of_mem _ (gin_wsX120 w h)
theorem kc_isSeen_1 : (.fieldLink RX12 9 "MistHeapsModel" "s" "[I" : Cond) ∈ wsX12_isSeen := kc_of 1141 rfl rfl rfl
set_option maxHeartbeats 4000000 in
set_option maxRecDepth 100000 in
theorem c_isSeen (l : Launch) (dC : Nat → ClassId) (dI : Nat → Nat → Nat) (m0 aS aI aB aT aG aO aN aD aY : Nat) (th im ac sp en wg op se dn rn kd nu tv : Int32) (bv : Int64) (cS cB cT : ClassId) (fS : Nat → Int32) (fB : Nat → Int32) (fT : Nat → Int32) (h : Nat) (x : Int32) (cz : List pCla) (sz : Nat) (hh : h ≤ 8) (zh : hol fS cz) : Met l yX12_isSeen wsX12_isSeen ({ frames := 2, cells := 0, slots := 0, locals := 55 } : Room) (va_Pc [.ref m0, .int (nI h), .int x] (fun U => U.heap.size = sz ∧ va_P (dC, dI) vwCl [(zo14irriiiiiirriirrrrlriiii m0 th aS aI im ac sp en wg op aB aT se dn aG aO aN aD bv aY rn kd nu tv), (zaI aS cS 901 fS), (zaI aB cB 6 fB), (zaI aT cT 64 fT)] U.heap ∧ va_K (dC, dI) vwCl [(cS, .int), (cB, .int), (cT, .boolean)] U ∧ va_D (fun _ => True) [(zo14irriiiiiirriirrrrlriiii m0 th aS aI im ac sp en wg op aB aT se dn aG aO aN aD bv aY rn kd nu tv), (zaI aS cS 901 fS), (zaI aB cB 6 fB), (zaI aT cT 64 fT)])) (va_Qi (fun (r : Int32) (u : (Nat → Int32) × (Nat → Int32) × (Int32) × (Int32)) => match u with | (fB9, fT9, se9, dn9) => (r = 1 ∧ ¬ RR fS cz h < apR x (fS (28 + h))) ∨ (r = 0 ∧ RR fS cz h < apR x (fS (28 + h)))) (fun (u : (Nat → Int32) × (Nat → Int32) × (Int32) × (Int32)) (t : State) => match u with | (fB9, fT9, se9, dn9) => va_P (dC, dI) vwCl [(zo14irriiiiiirriirrrrlriiii m0 th aS aI im ac sp en wg op aB aT se9 dn9 aG aO aN aD bv aY rn kd nu tv), (zaI aS cS 901 fS), (zaI aB cB 6 fB9), (zaI aT cT 64 fT9)] t.heap ∧ va_K (dC, dI) vwCl [(cS, .int), (cB, .int), (cT, .boolean)] t ∧ va_D (va_A [(zo14irriiiiiirriirrrrlriiii m0 th aS aI im ac sp en wg op aB aT se dn aG aO aN aD bv aY rn kd nu tv), (zaI aS cS 901 fS), (zaI aB cB 6 fB), (zaI aT cT 64 fT)] sz) [(zo14irriiiiiirriirrrrlriiii m0 th aS aI im ac sp en wg op aB aT se9 dn9 aG aO aN aD bv aY rn kd nu tv), (zaI aS cS 901 fS), (zaI aB cB 6 fB9), (zaI aT cT 64 fT9)]) (va_A [(zo14irriiiiiirriirrrrlriiii m0 th aS aI im ac sp en wg op aB aT se dn aG aO aN aD bv aY rn kd nu tv), (zaI aS cS 901 fS), (zaI aB cB 6 fB), (zaI aT cT 64 fT)] sz)) 0 0 (va_A [(zo14irriiiiiirriirrrrlriiii m0 th aS aI im ac sp en wg op aB aT se dn aG aO aN aD bv aY rn kd nu tv), (zaI aS cS 901 fS), (zaI aB cB 6 fB), (zaI aT cT 64 fT)] sz) := by
  refine met_ofQ (cc := cX12_isSeen) (maxL := 3) (ret := (some .boolean)) (by decide) rfl ?_
  intro p e s m args below meth c s₁ Q B hml hv hQ
  obtain ⟨rfl, hsz, hP, hK, hD0⟩ := hv
  have hx := B.exec
  have hb := B.bytes
  have hr := B.returns
  have hts := atoms_spec (ws := wsX12_isSeen) B.pre
  have hown : s.vm.findClass RX12 = some m.cls := findClass_of_methodNamed B.named
  have hlocks := B.notSynchronized
  subst hsz
  have hD := hD0.self (sz := s.heap.size)
  generalize hAe : va_A [(zo14irriiiiiirriirrrrlriiii m0 th aS aI im ac sp en wg op aB aT se dn aG aO aN aD bv aY rn kd nu tv), (zaI aS cS 901 fS), (zaI aB cB 6 fB), (zaI aT cT 64 fT)] s.heap.size = A at hD hQ ⊢
  have hA : ∀ q : Nat, s.heap.size ≤ q → A q := fun q h => by rw [← hAe]; exact Or.inr h
  have hS : va_S A s.heap s.heap [] := va_S.rf
  have hl := lv_entry [.ref m0, .int (nI h), .int x] (n := 3) (Nat.le_of_ble_eq_true rfl)
  rw [lg_entry_eq]
  generalize (lg_sl [.ref m0, .int (nI h), .int x] ++ List.replicate (3 - (lg_sl [.ref m0, .int (nI h), .int x]).length) Slot.unset).toArray = ls at hl ⊢
  generalize hag : ([.ref m0, .int (nI h), .int x] : List Value).toArray = args at hts hQ ⊢
  have hl : lv_has ls 3 [(0, .ref m0), (1, .int (nI h)), (2, .int x)] := hl
  obtain ⟨H, hH⟩ : ∃ H : Heap, H = s.heap := ⟨_, rfl⟩
  rw [← hH] at hP
  rw [← hH]
  have hS : va_S A s.heap H [] := by rw [hH]; exact hS
  obtain ⟨locs, hlo⟩ : ∃ L : List Loc, L = [] := ⟨_, rfl⟩
  rw [← hlo] at hS
  rw [← hlo]
  clear hH hlo
  refine lv_iload_n hx hb dX12_isSeen_0 rfl (lv_at hl 2 rfl) ?_
  refine lv_aload_n hx hb dX12_isSeen_1 rfl (lv_at hl 0 rfl) ?_
  refine va_get (D := (dC, dI)) (ci := 14) (v := .ref aS) (C := RX12) (T := TX12) (N := 23) hx hb hts kc_isSeen_0 hown hK hP 0 rfl rfl 1 (by decide) (hts (.fieldLink RX12 9 "MistHeapsModel" "s" "[I") kc_isSeen_1) (fun _ h9 => h9) rfl dX12_isSeen_2 ?_
  refine lv_bipush (v := 28) hx hb dX12_isSeen_5 (by decide) ?_
  refine lv_iload_n hx hb dX12_isSeen_7 rfl (lv_at hl 1 rfl) ?_
  refine lv_iadd hx hb dX12_isSeen_8 ?_
  refine qi_as (y := nI (28 + h)) (nI_add 28 h) ?_
  refine va_iald hx hb hK hP 1 0 rfl rfl (vp_in_nI (n := 28 + h) (N := 901) (by omega) (by omega)) dX12_isSeen_9 ?_
  refine qi_as (y := fS (28 + h)) (by rw [nI_clamp (by omega)]) ?_
  refine vp_callSi (va_runS (As := [.int x, .int (fS (28 + h))]) (rest := []) ⟨hx, hb, hml, hown, hts⟩ (c_apart l dC dI x (fS (28 + h))) (va_cwS 2 hts gX12_isSeen_X12_apart rfl rfl rfl hd_yX12_apart.2 ⟨Nat.le_of_ble_eq_true rfl, Nat.le_of_ble_eq_true rfl⟩) ⟨fun a U g mk q => ⟨q.1, trivial⟩, fun U hU hW => ⟨rfl, trivial⟩⟩ rfl rfl hl.1 rfl (lv_room (Nat.le_of_ble_eq_true rfl)) dX12_isSeen_10 ⟨Nat.le_of_ble_eq_true rfl, Nat.le_of_ble_eq_true rfl⟩).run (fun r_1 hw_2 => ?_)
  obtain rfl := hw_2
  refine lv_aload_n hx hb dX12_isSeen_13 rfl (lv_at hl 0 rfl) ?_
  refine lv_iload_n hx hb dX12_isSeen_14 rfl (lv_at hl 1 rfl) ?_
  have hPc := hP.sub (ws' := [(zo14irriiiiiirriirrrrlriiii m0 th aS aI im ac sp en wg op aB aT se dn aG aO aN aD bv aY rn kd nu tv), (zaI aS cS 901 fS), (zaI aB cB 6 fB), (zaI aT cT 64 fT)]) [0, 1, 2, 3] rfl
  have hDc := hD.sub (ws' := [(zo14irriiiiiirriirrrrlriiii m0 th aS aI im ac sp en wg op aB aT se dn aG aO aN aD bv aY rn kd nu tv), (zaI aS cS 901 fS), (zaI aB cB 6 fB), (zaI aT cT 64 fT)]) [0, 1, 2, 3] (by decide) rfl
  have hKc := hK.sub (tys' := [(cS, .int), (cB, .int), (cT, .boolean)]) [0, 1, 2] rfl
  have hFc := va_free (wc := [(zo14irriiiiiirriirrrrlriiii m0 th aS aI im ac sp en wg op aB aT se dn aG aO aN aD bv aY rn kd nu tv), (zaI aS cS 901 fS), (zaI aB cB 6 fB), (zaI aT cT 64 fT)]) hD hS hA [0, 1, 2, 3] rfl
  refine va_calli (va_runV (As := [.int (nI h)]) (rest := [.int (apR x (fS (28 + h)))]) ⟨hx, hb, hml, hown, hts⟩ (c_reachOf l dC dI m0 aS aI aB aT aG aO aN aD aY th im ac sp en wg op se dn rn kd nu tv bv cS cB cT fS fB fT h cz H.size (by omega) (zh)) (cwV 1 hts gX12_isSeen_X12_reachOf rfl rfl rfl hd_yX12_reachOf ⟨Nat.le_of_ble_eq_true rfl, Nat.le_of_ble_eq_true rfl⟩) ⟨fun a U g mk q => by obtain ⟨q0, q1, qP, qK, qD⟩ := q; exact ⟨q0, q1, qP, va_K.moved (u := U) (U := U.calling g mk a) (Vm.Alike.refl U.vm) qK, qD⟩, va_recv hK hP (ci := 14) (q := (RX12, TX12, 23)) (q0 := 0) rfl rfl, fun U hU hW => ⟨rfl, by rw [hU], by rw [hU]; exact hPc, va_K.moved hW.alike hKc, hDc.weaken (fun _ _ _ _ => trivial)⟩⟩ rfl rfl hl.1 rfl (lv_room (Nat.le_of_ble_eq_true rfl)) dX12_isSeen_15 ⟨Nat.le_of_ble_eq_true rfl, Nat.le_of_ble_eq_true rfl⟩) hS (fun q _ h => hFc q h) hFc (fun r_3 u tC H1 locs htC hvm hw_4 hB hz1 hk1 hS => ?_)
  obtain ⟨fB9_5, fT9_6, se9_7, dn9_8⟩ := u
  try dsimp only at hw_4 hB
  obtain ⟨hP1, hK1, hD1⟩ := hB
  rw [htC] at hP1
  have hK1 := va_K.moved hvm.symm hK1
  obtain ⟨hP, hD⟩ := va_join (wr := []) (w1 := [(zo14irriiiiiirriirrrrlriiii m0 th aS aI im ac sp en wg op aB aT se9_7 dn9_8 aG aO aN aD bv aY rn kd nu tv), (zaI aS cS 901 fS), (zaI aB cB 6 fB9_5), (zaI aT cT 64 fT9_6)]) hP hD [0, 1, 2, 3] [] rfl rfl (by decide) (by decide) hk1 hFc hP1 hD1
  have hK := (hK.sub (tys' := []) [] rfl).app hK1
  generalize H1 = H at hP hS ⊢
  have hP : va_P (dC, dI) vwCl [(zo14irriiiiiirriirrrrlriiii m0 th aS aI im ac sp en wg op aB aT se9_7 dn9_8 aG aO aN aD bv aY rn kd nu tv), (zaI aS cS 901 fS), (zaI aB cB 6 fB9_5), (zaI aT cT 64 fT9_6)] H := hP
  have hD : va_D A [(zo14irriiiiiirriirrrrlriiii m0 th aS aI im ac sp en wg op aB aT se9_7 dn9_8 aG aO aN aD bv aY rn kd nu tv), (zaI aS cS 901 fS), (zaI aB cB 6 fB9_5), (zaI aT cT 64 fT9_6)] := hD
  have hK : va_K (dC, dI) vwCl [(cS, .int), (cB, .int), (cT, .boolean)] s := hK
  obtain rfl := hw_4
  refine lv_icmp_gt (tgt := 25) hx hb dX12_isSeen_18 (by decide) (fun c_9 => ?_) (fun c_9 => ?_)
  · skip
    refine lv_iconst (v := 0) hx hb dX12_isSeen_25 (by decide) ?_
    rw [hQ]
    have hP9 := hP.sub (ws' := [(zo14irriiiiiirriirrrrlriiii m0 th aS aI im ac sp en wg op aB aT se9_7 dn9_8 aG aO aN aD bv aY rn kd nu tv), (zaI aS cS 901 fS), (zaI aB cB 6 fB9_5), (zaI aT cT 64 fT9_6)]) [0, 1, 2, 3] rfl
    have hD9 := hD.sub (ws' := [(zo14irriiiiiirriirrrrlriiii m0 th aS aI im ac sp en wg op aB aT se9_7 dn9_8 aG aO aN aD bv aY rn kd nu tv), (zaI aS cS 901 fS), (zaI aB cB 6 fB9_5), (zaI aT cT 64 fT9_6)]) [0, 1, 2, 3] (by decide) rfl
    have hK9 := hK.sub (tys' := [(cS, .int), (cB, .int), (cT, .boolean)]) [0, 1, 2] rfl
    exact W.zret (v := 0) hx hb hr rfl (fun tQ htQ hWQ => ⟨⟨0, (fB9_5, fT9_6, se9_7, dn9_8), rfl, by first | exact Or.inl ⟨rfl, by assumption⟩ | exact Or.inr ⟨rfl, by assumption⟩, by rw [htQ]; exact hP9, va_K.moved hWQ.alike hK9, hD9⟩, hS.F htQ⟩) hS.2.2 dX12_isSeen_26
  · skip
    refine lv_iconst (v := 1) hx hb dX12_isSeen_21 (by decide) ?_
    refine lv_goto (tgt := 26) hx hb dX12_isSeen_22 (by decide) ?_
    rw [hQ]
    have hP9 := hP.sub (ws' := [(zo14irriiiiiirriirrrrlriiii m0 th aS aI im ac sp en wg op aB aT se9_7 dn9_8 aG aO aN aD bv aY rn kd nu tv), (zaI aS cS 901 fS), (zaI aB cB 6 fB9_5), (zaI aT cT 64 fT9_6)]) [0, 1, 2, 3] rfl
    have hD9 := hD.sub (ws' := [(zo14irriiiiiirriirrrrlriiii m0 th aS aI im ac sp en wg op aB aT se9_7 dn9_8 aG aO aN aD bv aY rn kd nu tv), (zaI aS cS 901 fS), (zaI aB cB 6 fB9_5), (zaI aT cT 64 fT9_6)]) [0, 1, 2, 3] (by decide) rfl
    have hK9 := hK.sub (tys' := [(cS, .int), (cB, .int), (cT, .boolean)]) [0, 1, 2] rfl
    exact W.zret (v := 1) hx hb hr rfl (fun tQ htQ hWQ => ⟨⟨1, (fB9_5, fT9_6, se9_7, dn9_8), rfl, by first | exact Or.inl ⟨rfl, by assumption⟩ | exact Or.inr ⟨rfl, by assumption⟩, by rw [htQ]; exact hP9, va_K.moved hWQ.alike hK9, hD9⟩, hS.F htQ⟩) hS.2.2 dX12_isSeen_26

theorem kc_seesOf_0 : ∀ w ∈ wsX120, w ∈ wsX12_seesOf := fun w h => List.mem_cons_of_mem _ (gin_wsX120 w h)
theorem kc_seesOf_1 : (.fieldLink RX12 9 "MistHeapsModel" "s" "[I" : Cond) ∈ wsX12_seesOf := kc_of 1141 rfl rfl rfl
set_option maxHeartbeats 4000000 in
set_option maxRecDepth 100000 in
theorem c_seesOf (l : Launch) (dC : Nat → ClassId) (dI : Nat → Nat → Nat) (m0 aS aI aB aT aG aO aN aD aY : Nat) (th im ac sp en wg op se dn rn kd nu tv : Int32) (bv : Int64) (cS cB cT : ClassId) (fS : Nat → Int32) (fB : Nat → Int32) (fT : Nat → Int32) (n : Nat) (x : Int32) (cz : List pCla) (sz : Nat) (zn : fS 0 = nI n) (hn : n ≤ 8) (zh : hol fS cz) : Met l yX12_seesOf wsX12_seesOf ({ frames := 3, cells := 0, slots := 0, locals := 77 } : Room) (va_Pc [.ref m0, .int x] (fun U => U.heap.size = sz ∧ va_P (dC, dI) vwCl [(zo14irriiiiiirriirrrrlriiii m0 th aS aI im ac sp en wg op aB aT se dn aG aO aN aD bv aY rn kd nu tv), (zaI aS cS 901 fS), (zaI aB cB 6 fB), (zaI aT cT 64 fT)] U.heap ∧ va_K (dC, dI) vwCl [(cS, .int), (cB, .int), (cT, .boolean)] U ∧ va_D (fun _ => True) [(zo14irriiiiiirriirrrrlriiii m0 th aS aI im ac sp en wg op aB aT se dn aG aO aN aD bv aY rn kd nu tv), (zaI aS cS 901 fS), (zaI aB cB 6 fB), (zaI aT cT 64 fT)])) (va_Qi (fun (r : Int32) (u : (Nat → Int32) × (Nat → Int32) × (Int32) × (Int32)) => match u with | (fB9, fT9, se9, dn9) => r = sbR (fun i => apR x (fS (28 + i))) (fun i => RR fS cz i) n) (fun (u : (Nat → Int32) × (Nat → Int32) × (Int32) × (Int32)) (t : State) => match u with | (fB9, fT9, se9, dn9) => va_P (dC, dI) vwCl [(zo14irriiiiiirriirrrrlriiii m0 th aS aI im ac sp en wg op aB aT se9 dn9 aG aO aN aD bv aY rn kd nu tv), (zaI aS cS 901 fS), (zaI aB cB 6 fB9), (zaI aT cT 64 fT9)] t.heap ∧ va_K (dC, dI) vwCl [(cS, .int), (cB, .int), (cT, .boolean)] t ∧ va_D (va_A [(zo14irriiiiiirriirrrrlriiii m0 th aS aI im ac sp en wg op aB aT se dn aG aO aN aD bv aY rn kd nu tv), (zaI aS cS 901 fS), (zaI aB cB 6 fB), (zaI aT cT 64 fT)] sz) [(zo14irriiiiiirriirrrrlriiii m0 th aS aI im ac sp en wg op aB aT se9 dn9 aG aO aN aD bv aY rn kd nu tv), (zaI aS cS 901 fS), (zaI aB cB 6 fB9), (zaI aT cT 64 fT9)]) (va_A [(zo14irriiiiiirriirrrrlriiii m0 th aS aI im ac sp en wg op aB aT se dn aG aO aN aD bv aY rn kd nu tv), (zaI aS cS 901 fS), (zaI aB cB 6 fB), (zaI aT cT 64 fT)] sz)) 0 0 (va_A [(zo14irriiiiiirriirrrrlriiii m0 th aS aI im ac sp en wg op aB aT se dn aG aO aN aD bv aY rn kd nu tv), (zaI aS cS 901 fS), (zaI aB cB 6 fB), (zaI aT cT 64 fT)] sz) := by
  refine met_ofQ (cc := cX12_seesOf) (maxL := 4) (ret := (some .int)) (by decide) rfl ?_
  intro p e s m args below meth c s₁ Q B hml hv hQ
  obtain ⟨rfl, hsz, hP, hK, hD0⟩ := hv
  have hx := B.exec
  have hb := B.bytes
  have hr := B.returns
  have hts := atoms_spec (ws := wsX12_seesOf) B.pre
  have hown : s.vm.findClass RX12 = some m.cls := findClass_of_methodNamed B.named
  have hlocks := B.notSynchronized
  subst hsz
  have hD := hD0.self (sz := s.heap.size)
  generalize hAe : va_A [(zo14irriiiiiirriirrrrlriiii m0 th aS aI im ac sp en wg op aB aT se dn aG aO aN aD bv aY rn kd nu tv), (zaI aS cS 901 fS), (zaI aB cB 6 fB), (zaI aT cT 64 fT)] s.heap.size = A at hD hQ ⊢
  have hA : ∀ q : Nat, s.heap.size ≤ q → A q := fun q h => by rw [← hAe]; exact Or.inr h
  have hS : va_S A s.heap s.heap [] := va_S.rf
  have hl := lv_entry [.ref m0, .int x] (n := 4) (Nat.le_of_ble_eq_true rfl)
  rw [lg_entry_eq]
  generalize (lg_sl [.ref m0, .int x] ++ List.replicate (4 - (lg_sl [.ref m0, .int x]).length) Slot.unset).toArray = ls at hl ⊢
  generalize hag : ([.ref m0, .int x] : List Value).toArray = args at hts hQ ⊢
  have hl : lv_has ls 4 [(0, .ref m0), (1, .int x)] := hl
  obtain ⟨H, hH⟩ : ∃ H : Heap, H = s.heap := ⟨_, rfl⟩
  rw [← hH] at hP
  rw [← hH]
  have hS : va_S A s.heap H [] := by rw [hH]; exact hS
  obtain ⟨locs, hlo⟩ : ∃ L : List Loc, L = [] := ⟨_, rfl⟩
  rw [← hlo] at hS
  rw [← hlo]
  clear hH hlo
  refine lv_iconst (v := 0) hx hb dX12_seesOf_0 (by decide) ?_
  refine lv_istore_n (lv' := [(2, .int 0), (0, .ref m0), (1, .int x)]) hx hb dX12_seesOf_1 rfl hl (by decide) rfl (fun ls hl => ?_)
  refine lv_iconst (v := 0) hx hb dX12_seesOf_2 (by decide) ?_
  refine lv_istore_n (lv' := [(3, .int 0), (2, .int 0), (0, .ref m0), (1, .int x)]) hx hb dX12_seesOf_3 rfl hl (by decide) rfl (fun ls hl => ?_)
  have L4 : ∀ (nF : Nat) (i : Nat) (se2 : Int32) (dn2 : Int32) (fB2 : Nat → Int32) (fT2 : Nat → Int32) (q : Int32), n - i < nF → (i ≤ n) → (q = sbR (fun i => apR x (fS (28 + i))) (fun i => RR fS cz i) i) → ∀ (H : Heap) (locs : List Loc), va_K (dC, dI) vwCl [(cS, .int), (cB, .int), (cT, .boolean)] s → va_P (dC, dI) vwCl [(zo14irriiiiiirriirrrrlriiii m0 th aS aI im ac sp en wg op aB aT se2 dn2 aG aO aN aD bv aY rn kd nu tv), (zaI aS cS 901 fS), (zaI aB cB 6 fB2), (zaI aT cT 64 fT2)] H → va_D A [(zo14irriiiiiirriirrrrlriiii m0 th aS aI im ac sp en wg op aB aT se2 dn2 aG aO aN aD bv aY rn kd nu tv), (zaI aS cS 901 fS), (zaI aB cB 6 fB2), (zaI aT cT 64 fT2)] → va_S A s.heap H locs → ∀ (ls : Array Slot), lv_has ls 4 [(0, .ref m0), (1, .int x), (2, .int q), (3, .int (nI i))] → W p l e ({ frames := 3, cells := 0, slots := 0, locals := 77 } : Room) s m args below meth c H locs 0 0 Q (F0 m 4 ls []) := by
    intro nF
    induction nF with
    | zero => intro i se2 dn2 fB2 fT2 q hm; exact absurd hm (Nat.not_lt_zero _)
    | succ nF ih4 =>
      intro i se2 dn2 fB2 fT2 q hm hii hq9 H locs hK hP hD hS ls hl
      refine lv_iload_n hx hb dX12_seesOf_4 rfl (lv_at hl 3 rfl) ?_
      refine lv_aload_n hx hb dX12_seesOf_5 rfl (lv_at hl 0 rfl) ?_
      refine va_get (D := (dC, dI)) (ci := 14) (v := .ref aS) (C := RX12) (T := TX12) (N := 23) hx hb hts kc_seesOf_0 hown hK hP 0 rfl rfl 1 (by decide) (hts (.fieldLink RX12 9 "MistHeapsModel" "s" "[I") kc_seesOf_1) (fun _ h9 => h9) rfl dX12_seesOf_6 ?_
      refine lv_iconst (v := 0) hx hb dX12_seesOf_9 (by decide) ?_
      refine va_iald hx hb hK hP 1 0 rfl rfl (vp_in_nI (n := 0) (N := 901) (by omega) (by omega)) dX12_seesOf_10 ?_
      refine qi_as (y := nI n) ((show fS (0 : Int32).toNatClampNeg = fS 0 from rfl).trans (zn)) ?_
      refine lv_icmp_ge (tgt := 39) hx hb dX12_seesOf_11 (by decide) (fun c_1 => ?_) (fun c_1 => ?_)
      · skip
        have c_1 : n ≤ i := (nI_leI (a := n) (b := i) (by omega) (by omega)).mp c_1
        refine lv_iload_n hx hb dX12_seesOf_39 rfl (lv_at hl 2 rfl) ?_
        rw [hQ]
        have hP9 := hP.sub (ws' := [(zo14irriiiiiirriirrrrlriiii m0 th aS aI im ac sp en wg op aB aT se2 dn2 aG aO aN aD bv aY rn kd nu tv), (zaI aS cS 901 fS), (zaI aB cB 6 fB2), (zaI aT cT 64 fT2)]) [0, 1, 2, 3] rfl
        have hD9 := hD.sub (ws' := [(zo14irriiiiiirriirrrrlriiii m0 th aS aI im ac sp en wg op aB aT se2 dn2 aG aO aN aD bv aY rn kd nu tv), (zaI aS cS 901 fS), (zaI aB cB 6 fB2), (zaI aT cT 64 fT2)]) [0, 1, 2, 3] (by decide) rfl
        have hK9 := hK.sub (tys' := [(cS, .int), (cB, .int), (cT, .boolean)]) [0, 1, 2] rfl
        exact W.iret (v := q) hx hb hr (fun tQ htQ hWQ => ⟨⟨q, (fB2, fT2, se2, dn2), rfl, sb_end hq9 (by omega), by rw [htQ]; exact hP9, va_K.moved hWQ.alike hK9, hD9⟩, hS.F htQ⟩) hS.2.2 dX12_seesOf_40
      · skip
        have c_1 : ¬ n ≤ i := fun q => c_1 ((nI_leI (a := n) (b := i) (by omega) (by omega)).mpr q)
        refine lv_iload_n hx hb dX12_seesOf_14 rfl (lv_at hl 2 rfl) ?_
        refine lv_aload_n hx hb dX12_seesOf_15 rfl (lv_at hl 0 rfl) ?_
        refine lv_iload_n hx hb dX12_seesOf_16 rfl (lv_at hl 3 rfl) ?_
        refine lv_iload_n hx hb dX12_seesOf_17 rfl (lv_at hl 1 rfl) ?_
        have hPc := hP.sub (ws' := [(zo14irriiiiiirriirrrrlriiii m0 th aS aI im ac sp en wg op aB aT se2 dn2 aG aO aN aD bv aY rn kd nu tv), (zaI aS cS 901 fS), (zaI aB cB 6 fB2), (zaI aT cT 64 fT2)]) [0, 1, 2, 3] rfl
        have hDc := hD.sub (ws' := [(zo14irriiiiiirriirrrrlriiii m0 th aS aI im ac sp en wg op aB aT se2 dn2 aG aO aN aD bv aY rn kd nu tv), (zaI aS cS 901 fS), (zaI aB cB 6 fB2), (zaI aT cT 64 fT2)]) [0, 1, 2, 3] (by decide) rfl
        have hKc := hK.sub (tys' := [(cS, .int), (cB, .int), (cT, .boolean)]) [0, 1, 2] rfl
        have hFc := va_free (wc := [(zo14irriiiiiirriirrrrlriiii m0 th aS aI im ac sp en wg op aB aT se2 dn2 aG aO aN aD bv aY rn kd nu tv), (zaI aS cS 901 fS), (zaI aB cB 6 fB2), (zaI aT cT 64 fT2)]) hD hS hA [0, 1, 2, 3] rfl
        refine va_calli (va_runV (As := [.int (nI i), .int x]) (rest := [.int q]) ⟨hx, hb, hml, hown, hts⟩ (c_isSeen l dC dI m0 aS aI aB aT aG aO aN aD aY th im ac sp en wg op se2 dn2 rn kd nu tv bv cS cB cT fS fB2 fT2 i x cz H.size (by omega) (zh)) (cwV 2 hts gX12_seesOf_X12_isSeen rfl rfl rfl hd_yX12_isSeen ⟨Nat.le_of_ble_eq_true rfl, Nat.le_of_ble_eq_true rfl⟩) ⟨fun a U g mk q => by obtain ⟨q0, q1, qP, qK, qD⟩ := q; exact ⟨q0, q1, qP, va_K.moved (u := U) (U := U.calling g mk a) (Vm.Alike.refl U.vm) qK, qD⟩, va_recv hK hP (ci := 14) (q := (RX12, TX12, 23)) (q0 := 0) rfl rfl, fun U hU hW => ⟨rfl, by rw [hU], by rw [hU]; exact hPc, va_K.moved hW.alike hKc, hDc.weaken (fun _ _ _ _ => trivial)⟩⟩ rfl rfl hl.1 rfl (lv_room (Nat.le_of_ble_eq_true rfl)) dX12_seesOf_18 ⟨Nat.le_of_ble_eq_true rfl, Nat.le_of_ble_eq_true rfl⟩) hS (fun q _ h => hFc q h) hFc (fun r_2 u tC H1 locs htC hvm hw_3 hB hz1 hk1 hS => ?_)
        obtain ⟨fB9_4, fT9_5, se9_6, dn9_7⟩ := u
        try dsimp only at hw_3 hB
        obtain ⟨hP1, hK1, hD1⟩ := hB
        rw [htC] at hP1
        have hK1 := va_K.moved hvm.symm hK1
        obtain ⟨hP, hD⟩ := va_join (wr := []) (w1 := [(zo14irriiiiiirriirrrrlriiii m0 th aS aI im ac sp en wg op aB aT se9_6 dn9_7 aG aO aN aD bv aY rn kd nu tv), (zaI aS cS 901 fS), (zaI aB cB 6 fB9_4), (zaI aT cT 64 fT9_5)]) hP hD [0, 1, 2, 3] [] rfl rfl (by decide) (by decide) hk1 hFc hP1 hD1
        have hK := (hK.sub (tys' := []) [] rfl).app hK1
        generalize H1 = H at hP hS ⊢
        have hP : va_P (dC, dI) vwCl [(zo14irriiiiiirriirrrrlriiii m0 th aS aI im ac sp en wg op aB aT se9_6 dn9_7 aG aO aN aD bv aY rn kd nu tv), (zaI aS cS 901 fS), (zaI aB cB 6 fB9_4), (zaI aT cT 64 fT9_5)] H := hP
        have hD : va_D A [(zo14irriiiiiirriirrrrlriiii m0 th aS aI im ac sp en wg op aB aT se9_6 dn9_7 aG aO aN aD bv aY rn kd nu tv), (zaI aS cS 901 fS), (zaI aB cB 6 fB9_4), (zaI aT cT 64 fT9_5)] := hD
        have hK : va_K (dC, dI) vwCl [(cS, .int), (cB, .int), (cT, .boolean)] s := hK
        rcases hw_3 with ⟨rfl, hs_8⟩ | ⟨rfl, hs_8⟩
        · skip
          refine lv_if_eq (tgt := 30) hx hb dX12_seesOf_21 (by decide) (fun c_9 => absurd c_9 (by decide)) (fun _ => ?_)
          refine lv_iconst (v := 1) hx hb dX12_seesOf_24 (by decide) ?_
          refine lv_iload_n hx hb dX12_seesOf_25 rfl (lv_at hl 3 rfl) ?_
          refine lv_ishl hx hb dX12_seesOf_26 ?_
          refine lv_goto (tgt := 31) hx hb dX12_seesOf_27 (by decide) ?_
          refine lv_ior hx hb dX12_seesOf_31 ?_
          refine lv_istore_n (lv' := [(2, .int (q ||| (1 <<< ((nI i) &&& 31)))), (0, .ref m0), (1, .int x), (3, .int (nI i))]) hx hb dX12_seesOf_32 rfl hl (by decide) rfl (fun ls hl => ?_)
          refine lv_iinc (v := nI (i + 1)) (lv' := [(3, .int (nI (i + 1))), (2, .int (q ||| (1 <<< ((nI i) &&& 31)))), (0, .ref m0), (1, .int x)]) hx hb dX12_seesOf_33 hl (k := 3) rfl (nI_add i 1) (by decide) rfl (fun ls hl => ?_)
          refine lv_goto (tgt := 4) hx hb dX12_seesOf_36 (by decide) ?_
          exact ih4 (i + 1) _ _ _ _ (q ||| (1 <<< ((nI i) &&& 31))) (by omega) (by omega) (sb_1 hq9 hs_8) _ _ (hK.sub [0, 1, 2] rfl) (hP.sub [0, 1, 2, 3] rfl) (hD.sub [0, 1, 2, 3] (by decide) rfl) hS ls (lv_sub hl [2, 3, 1, 0] rfl)
        · skip
          refine lv_if_eq (tgt := 30) hx hb dX12_seesOf_21 (by decide) (fun _ => ?_) (fun c_10 => absurd c_10 (by decide))
          refine lv_iconst (v := 0) hx hb dX12_seesOf_30 (by decide) ?_
          refine lv_ior hx hb dX12_seesOf_31 ?_
          refine lv_istore_n (lv' := [(2, .int (q ||| 0)), (0, .ref m0), (1, .int x), (3, .int (nI i))]) hx hb dX12_seesOf_32 rfl hl (by decide) rfl (fun ls hl => ?_)
          refine lv_iinc (v := nI (i + 1)) (lv' := [(3, .int (nI (i + 1))), (2, .int (q ||| 0)), (0, .ref m0), (1, .int x)]) hx hb dX12_seesOf_33 hl (k := 3) rfl (nI_add i 1) (by decide) rfl (fun ls hl => ?_)
          refine lv_goto (tgt := 4) hx hb dX12_seesOf_36 (by decide) ?_
          exact ih4 (i + 1) _ _ _ _ (q ||| 0) (by omega) (by omega) (sb_0 hq9 hs_8) _ _ (hK.sub [0, 1, 2] rfl) (hP.sub [0, 1, 2, 3] rfl) (hD.sub [0, 1, 2, 3] (by decide) rfl) hS ls (lv_sub hl [2, 3, 1, 0] rfl)
  exact L4 _ (0) _ _ _ _ (0) (Nat.lt_succ_self _) (by omega) (rfl) _ _ (hK.sub [0, 1, 2] rfl) (hP.sub [0, 1, 2, 3] rfl) (hD.sub [0, 1, 2, 3] (by decide) rfl) hS ls (lv_sub hl [2, 3, 1, 0] rfl)

set_option maxHeartbeats 4000000 in
set_option maxRecDepth 100000 in
theorem c_mSees (l : Launch) (dC : Nat → ClassId) (dI : Nat → Nat → Nat) (m0 aS aI aB aT aG aO aN aD aY : Nat) (th im ac sp en wg op se dn rn kd nu tv : Int32) (bv : Int64) (cS cB cT : ClassId) (fS : Nat → Int32) (fB : Nat → Int32) (fT : Nat → Int32) (n : Nat) (yk yv yc : Nat → Int32) (mi sn : Int32) (x : Int32) (cz : List pCla) (sz : Nat) (zn : fS 0 = nI n) (hn : n ≤ 8) (zh : hol fS cz) (zkd : ∀ k, k < n → fS (10 + k) = yk k) (zvv : ∀ k, k < n → fS (19 + k) = yv k) (zc : ∀ k, k < n → fS (28 + k) = yc k) (zmi : fS 6 = mi) (zsn : fS 7 = sn) : Met l yX12_sees wsX12_sees ({ frames := 4, cells := 0, slots := 0, locals := 100 } : Room) (va_Pc [.ref m0, .int x] (fun U => U.heap.size = sz ∧ va_P (dC, dI) vwCl [(zo14irriiiiiirriirrrrlriiii m0 th aS aI im ac sp en wg op aB aT se dn aG aO aN aD bv aY rn kd nu tv), (zaI aS cS 901 fS), (zaI aB cB 6 fB), (zaI aT cT 64 fT)] U.heap ∧ va_K (dC, dI) vwCl [(cS, .int), (cB, .int), (cT, .boolean)] U ∧ va_D (fun _ => True) [(zo14irriiiiiirriirrrrlriiii m0 th aS aI im ac sp en wg op aB aT se dn aG aO aN aD bv aY rn kd nu tv), (zaI aS cS 901 fS), (zaI aB cB 6 fB), (zaI aT cT 64 fT)])) (va_Qi (fun (r : Int32) (u : (Nat → Int32) × (Nat → Int32) × (Int32) × (Int32)) => match u with | (fB9, fT9, se9, dn9) => r = seR n yk yv yc cz mi sn x) (fun (u : (Nat → Int32) × (Nat → Int32) × (Int32) × (Int32)) (t : State) => match u with | (fB9, fT9, se9, dn9) => va_P (dC, dI) vwCl [(zo14irriiiiiirriirrrrlriiii m0 th aS aI im ac sp en wg op aB aT se9 dn9 aG aO aN aD bv aY rn kd nu tv), (zaI aS cS 901 fS), (zaI aB cB 6 fB9), (zaI aT cT 64 fT9)] t.heap ∧ va_K (dC, dI) vwCl [(cS, .int), (cB, .int), (cT, .boolean)] t ∧ va_D (va_A [(zo14irriiiiiirriirrrrlriiii m0 th aS aI im ac sp en wg op aB aT se dn aG aO aN aD bv aY rn kd nu tv), (zaI aS cS 901 fS), (zaI aB cB 6 fB), (zaI aT cT 64 fT)] sz) [(zo14irriiiiiirriirrrrlriiii m0 th aS aI im ac sp en wg op aB aT se9 dn9 aG aO aN aD bv aY rn kd nu tv), (zaI aS cS 901 fS), (zaI aB cB 6 fB9), (zaI aT cT 64 fT9)]) (va_A [(zo14irriiiiiirriirrrrlriiii m0 th aS aI im ac sp en wg op aB aT se dn aG aO aN aD bv aY rn kd nu tv), (zaI aS cS 901 fS), (zaI aB cB 6 fB), (zaI aT cT 64 fT)] sz)) 0 0 (va_A [(zo14irriiiiiirriirrrrlriiii m0 th aS aI im ac sp en wg op aB aT se dn aG aO aN aD bv aY rn kd nu tv), (zaI aS cS 901 fS), (zaI aB cB 6 fB), (zaI aT cT 64 fT)] sz) := by
  refine met_ofQ (cc := cX12_sees) (maxL := 2) (ret := (some .int)) (by decide) rfl ?_
  intro p e s m args below meth c s₁ Q B hml hv hQ
  obtain ⟨rfl, hsz, hP, hK, hD0⟩ := hv
  have hx := B.exec
  have hb := B.bytes
  have hr := B.returns
  have hts := atoms_spec (ws := wsX12_sees) B.pre
  have hown : s.vm.findClass RX12 = some m.cls := findClass_of_methodNamed B.named
  have hlocks := B.notSynchronized
  subst hsz
  have hD := hD0.self (sz := s.heap.size)
  generalize hAe : va_A [(zo14irriiiiiirriirrrrlriiii m0 th aS aI im ac sp en wg op aB aT se dn aG aO aN aD bv aY rn kd nu tv), (zaI aS cS 901 fS), (zaI aB cB 6 fB), (zaI aT cT 64 fT)] s.heap.size = A at hD hQ ⊢
  have hA : ∀ q : Nat, s.heap.size ≤ q → A q := fun q h => by rw [← hAe]; exact Or.inr h
  have hS : va_S A s.heap s.heap [] := va_S.rf
  have hl := lv_entry [.ref m0, .int x] (n := 2) (Nat.le_of_ble_eq_true rfl)
  rw [lg_entry_eq]
  generalize (lg_sl [.ref m0, .int x] ++ List.replicate (2 - (lg_sl [.ref m0, .int x]).length) Slot.unset).toArray = ls at hl ⊢
  generalize hag : ([.ref m0, .int x] : List Value).toArray = args at hts hQ ⊢
  have hl : lv_has ls 2 [(0, .ref m0), (1, .int x)] := hl
  obtain ⟨H, hH⟩ : ∃ H : Heap, H = s.heap := ⟨_, rfl⟩
  rw [← hH] at hP
  rw [← hH]
  have hS : va_S A s.heap H [] := by rw [hH]; exact hS
  obtain ⟨locs, hlo⟩ : ∃ L : List Loc, L = [] := ⟨_, rfl⟩
  rw [← hlo] at hS
  rw [← hlo]
  clear hH hlo
  refine lv_iload_n hx hb dX12_sees_0 rfl (lv_at hl 1 rfl) ?_
  refine vp_callSi (va_runS (As := [.int x]) (rest := []) ⟨hx, hb, hml, hown, hts⟩ (c_mCell l dC dI x) (va_cwS 1 hts gX12_sees_X12_isCell rfl rfl rfl hd_yX12_isCell.2 ⟨Nat.le_of_ble_eq_true rfl, Nat.le_of_ble_eq_true rfl⟩) ⟨fun a U g mk q => ⟨q.1, trivial⟩, fun U hU hW => ⟨rfl, trivial⟩⟩ rfl rfl hl.1 rfl (lv_room (Nat.le_of_ble_eq_true rfl)) dX12_sees_1 ⟨Nat.le_of_ble_eq_true rfl, Nat.le_of_ble_eq_true rfl⟩).run (fun r_1 hw_2 => ?_)
  rcases hw_2 with ⟨rfl, h_3, h_4⟩ | ⟨rfl, h_5⟩
  · skip
    refine lv_if_eq (tgt := 15) hx hb dX12_sees_4 (by decide) (fun c_6 => absurd c_6 (by decide)) (fun _ => ?_)
    refine lv_aload_n hx hb dX12_sees_7 rfl (lv_at hl 0 rfl) ?_
    refine lv_iload_n hx hb dX12_sees_8 rfl (lv_at hl 1 rfl) ?_
    have hPc := hP.sub (ws' := [(zo14irriiiiiirriirrrrlriiii m0 th aS aI im ac sp en wg op aB aT se dn aG aO aN aD bv aY rn kd nu tv), (zaI aS cS 901 fS), (zaI aB cB 6 fB), (zaI aT cT 64 fT)]) [0, 1, 2, 3] rfl
    have hDc := hD.sub (ws' := [(zo14irriiiiiirriirrrrlriiii m0 th aS aI im ac sp en wg op aB aT se dn aG aO aN aD bv aY rn kd nu tv), (zaI aS cS 901 fS), (zaI aB cB 6 fB), (zaI aT cT 64 fT)]) [0, 1, 2, 3] (by decide) rfl
    have hKc := hK.sub (tys' := [(cS, .int), (cB, .int), (cT, .boolean)]) [0, 1, 2] rfl
    have hFc := va_free (wc := [(zo14irriiiiiirriirrrrlriiii m0 th aS aI im ac sp en wg op aB aT se dn aG aO aN aD bv aY rn kd nu tv), (zaI aS cS 901 fS), (zaI aB cB 6 fB), (zaI aT cT 64 fT)]) hD hS hA [0, 1, 2, 3] rfl
    refine va_calli (va_runV (As := [.int x]) (rest := []) ⟨hx, hb, hml, hown, hts⟩ (c_seesOf l dC dI m0 aS aI aB aT aG aO aN aD aY th im ac sp en wg op se dn rn kd nu tv bv cS cB cT fS fB fT n x cz H.size (zn) (hn) (zh)) (cwV 1 hts gX12_sees_X12_seesOf rfl rfl rfl hd_yX12_seesOf ⟨Nat.le_of_ble_eq_true rfl, Nat.le_of_ble_eq_true rfl⟩) ⟨fun a U g mk q => by obtain ⟨q0, q1, qP, qK, qD⟩ := q; exact ⟨q0, q1, qP, va_K.moved (u := U) (U := U.calling g mk a) (Vm.Alike.refl U.vm) qK, qD⟩, va_recv hK hP (ci := 14) (q := (RX12, TX12, 23)) (q0 := 0) rfl rfl, fun U hU hW => ⟨rfl, by rw [hU], by rw [hU]; exact hPc, va_K.moved hW.alike hKc, hDc.weaken (fun _ _ _ _ => trivial)⟩⟩ rfl rfl hl.1 rfl (lv_room (Nat.le_of_ble_eq_true rfl)) dX12_sees_9 ⟨Nat.le_of_ble_eq_true rfl, Nat.le_of_ble_eq_true rfl⟩) hS (fun q _ h => hFc q h) hFc (fun r_7 u tC H1 locs htC hvm hw_8 hB hz1 hk1 hS => ?_)
    obtain ⟨fB9_9, fT9_10, se9_11, dn9_12⟩ := u
    try dsimp only at hw_8 hB
    obtain ⟨hP1, hK1, hD1⟩ := hB
    rw [htC] at hP1
    have hK1 := va_K.moved hvm.symm hK1
    obtain ⟨hP, hD⟩ := va_join (wr := []) (w1 := [(zo14irriiiiiirriirrrrlriiii m0 th aS aI im ac sp en wg op aB aT se9_11 dn9_12 aG aO aN aD bv aY rn kd nu tv), (zaI aS cS 901 fS), (zaI aB cB 6 fB9_9), (zaI aT cT 64 fT9_10)]) hP hD [0, 1, 2, 3] [] rfl rfl (by decide) (by decide) hk1 hFc hP1 hD1
    have hK := (hK.sub (tys' := []) [] rfl).app hK1
    generalize H1 = H at hP hS ⊢
    have hP : va_P (dC, dI) vwCl [(zo14irriiiiiirriirrrrlriiii m0 th aS aI im ac sp en wg op aB aT se9_11 dn9_12 aG aO aN aD bv aY rn kd nu tv), (zaI aS cS 901 fS), (zaI aB cB 6 fB9_9), (zaI aT cT 64 fT9_10)] H := hP
    have hD : va_D A [(zo14irriiiiiirriirrrrlriiii m0 th aS aI im ac sp en wg op aB aT se9_11 dn9_12 aG aO aN aD bv aY rn kd nu tv), (zaI aS cS 901 fS), (zaI aB cB 6 fB9_9), (zaI aT cT 64 fT9_10)] := hD
    have hK : va_K (dC, dI) vwCl [(cS, .int), (cB, .int), (cT, .boolean)] s := hK
    obtain rfl := hw_8
    refine lv_goto (tgt := 16) hx hb dX12_sees_12 (by decide) ?_
    rw [hQ]
    have hP9 := hP.sub (ws' := [(zo14irriiiiiirriirrrrlriiii m0 th aS aI im ac sp en wg op aB aT se9_11 dn9_12 aG aO aN aD bv aY rn kd nu tv), (zaI aS cS 901 fS), (zaI aB cB 6 fB9_9), (zaI aT cT 64 fT9_10)]) [0, 1, 2, 3] rfl
    have hD9 := hD.sub (ws' := [(zo14irriiiiiirriirrrrlriiii m0 th aS aI im ac sp en wg op aB aT se9_11 dn9_12 aG aO aN aD bv aY rn kd nu tv), (zaI aS cS 901 fS), (zaI aB cB 6 fB9_9), (zaI aT cT 64 fT9_10)]) [0, 1, 2, 3] (by decide) rfl
    have hK9 := hK.sub (tys' := [(cS, .int), (cB, .int), (cT, .boolean)]) [0, 1, 2] rfl
    exact W.iret (v := sbR (fun i => apR x (fS (28 + i))) (fun i => RR fS cz i) n) hx hb hr (fun tQ htQ hWQ => ⟨⟨(sbR (fun i => apR x (fS (28 + i))) (fun i => RR fS cz i) n), (fB9_9, fT9_10, se9_11, dn9_12), rfl, by first | exact se_no (by assumption) | exact se_m (by assumption) (by assumption) zkd zvv zc zmi zsn, by rw [htQ]; exact hP9, va_K.moved hWQ.alike hK9, hD9⟩, hS.F htQ⟩) hS.2.2 dX12_sees_16
  · skip
    refine lv_if_eq (tgt := 15) hx hb dX12_sees_4 (by decide) (fun _ => ?_) (fun c_13 => absurd c_13 (by decide))
    refine lv_iconst (v := (-1)) hx hb dX12_sees_15 (by decide) ?_
    rw [hQ]
    have hP9 := hP.sub (ws' := [(zo14irriiiiiirriirrrrlriiii m0 th aS aI im ac sp en wg op aB aT se dn aG aO aN aD bv aY rn kd nu tv), (zaI aS cS 901 fS), (zaI aB cB 6 fB), (zaI aT cT 64 fT)]) [0, 1, 2, 3] rfl
    have hD9 := hD.sub (ws' := [(zo14irriiiiiirriirrrrlriiii m0 th aS aI im ac sp en wg op aB aT se dn aG aO aN aD bv aY rn kd nu tv), (zaI aS cS 901 fS), (zaI aB cB 6 fB), (zaI aT cT 64 fT)]) [0, 1, 2, 3] (by decide) rfl
    have hK9 := hK.sub (tys' := [(cS, .int), (cB, .int), (cT, .boolean)]) [0, 1, 2] rfl
    exact W.iret (v := (-1)) hx hb hr (fun tQ htQ hWQ => ⟨⟨(-1), (fB, fT, se, dn), rfl, by first | exact se_no (by assumption) | exact se_m (by assumption) (by assumption) zkd zvv zc zmi zsn, by rw [htQ]; exact hP9, va_K.moved hWQ.alike hK9, hD9⟩, hS.F htQ⟩) hS.2.2 dX12_sees_16

theorem kc_mWhere_0 : (.constantLong RX12 181 (-9223372036854775808) : Cond) ∈ wsX12_where := kc_of 1351 rfl rfl rfl
theorem kc_mWhere_1 : ∀ w ∈ wsX120, w ∈ wsX12_where := fun w h => List.mem_cons_of_mem _ (gin_wsX120 w h)
theorem kc_mWhere_2 : (.fieldLink RX12 9 "MistHeapsModel" "s" "[I" : Cond) ∈ wsX12_where := kc_of 1141 rfl rfl rfl
set_option maxHeartbeats 4000000 in
set_option maxRecDepth 100000 in
theorem c_mWhere (l : Launch) (dC : Nat → ClassId) (dI : Nat → Nat → Nat) (m0 aS aI aB aT aG aO aN aD aY : Nat) (th im ac sp en wg op se dn rn kd nu tv : Int32) (bv : Int64) (cS cB cT : ClassId) (fS : Nat → Int32) (fB : Nat → Int32) (fT : Nat → Int32) (n : Nat) (yk yv yc : Nat → Int32) (mi sn : Int32) (x : Int32) (cz : List pCla) (sz : Nat) (zn : fS 0 = nI n) (hn : n ≤ 8) (zh : hol fS cz) (zkd : ∀ k, k < n → fS (10 + k) = yk k) (zvv : ∀ k, k < n → fS (19 + k) = yv k) (zc : ∀ k, k < n → fS (28 + k) = yc k) (zmi : fS 6 = mi) (zsn : fS 7 = sn) : Met l yX12_where wsX12_where ({ frames := 4, cells := 0, slots := 0, locals := 100 } : Room) (va_Pc [.ref m0, .int x] (fun U => U.heap.size = sz ∧ va_P (dC, dI) vwCl [(zo14irriiiiiirriirrrrlriiii m0 th aS aI im ac sp en wg op aB aT se dn aG aO aN aD bv aY rn kd nu tv), (zaI aS cS 901 fS), (zaI aB cB 6 fB), (zaI aT cT 64 fT)] U.heap ∧ va_K (dC, dI) vwCl [(cS, .int), (cB, .int), (cT, .boolean)] U ∧ va_D (fun _ => True) [(zo14irriiiiiirriirrrrlriiii m0 th aS aI im ac sp en wg op aB aT se dn aG aO aN aD bv aY rn kd nu tv), (zaI aS cS 901 fS), (zaI aB cB 6 fB), (zaI aT cT 64 fT)])) (va_Ql (fun (r : Int64) (u : (Nat → Int32) × (Nat → Int32) × (Int32) × (Int32)) => match u with | (fB9, fT9, se9, dn9) => r = whR n yk yv yc cz mi sn x) (fun (u : (Nat → Int32) × (Nat → Int32) × (Int32) × (Int32)) (t : State) => match u with | (fB9, fT9, se9, dn9) => va_P (dC, dI) vwCl [(zo14irriiiiiirriirrrrlriiii m0 th aS aI im ac sp en wg op aB aT se9 dn9 aG aO aN aD bv aY rn kd nu tv), (zaI aS cS 901 fS), (zaI aB cB 6 fB9), (zaI aT cT 64 fT9)] t.heap ∧ va_K (dC, dI) vwCl [(cS, .int), (cB, .int), (cT, .boolean)] t ∧ va_D (va_A [(zo14irriiiiiirriirrrrlriiii m0 th aS aI im ac sp en wg op aB aT se dn aG aO aN aD bv aY rn kd nu tv), (zaI aS cS 901 fS), (zaI aB cB 6 fB), (zaI aT cT 64 fT)] sz) [(zo14irriiiiiirriirrrrlriiii m0 th aS aI im ac sp en wg op aB aT se9 dn9 aG aO aN aD bv aY rn kd nu tv), (zaI aS cS 901 fS), (zaI aB cB 6 fB9), (zaI aT cT 64 fT9)]) (va_A [(zo14irriiiiiirriirrrrlriiii m0 th aS aI im ac sp en wg op aB aT se dn aG aO aN aD bv aY rn kd nu tv), (zaI aS cS 901 fS), (zaI aB cB 6 fB), (zaI aT cT 64 fT)] sz)) 0 0 (va_A [(zo14irriiiiiirriirrrrlriiii m0 th aS aI im ac sp en wg op aB aT se dn aG aO aN aD bv aY rn kd nu tv), (zaI aS cS 901 fS), (zaI aB cB 6 fB), (zaI aT cT 64 fT)] sz) := by
  refine met_ofQ (cc := cX12_where) (maxL := 5) (ret := (some .long)) (by decide) rfl ?_
  intro p e s m args below meth c s₁ Q B hml hv hQ
  obtain ⟨rfl, hsz, hP, hK, hD0⟩ := hv
  have hx := B.exec
  have hb := B.bytes
  have hr := B.returns
  have hts := atoms_spec (ws := wsX12_where) B.pre
  have hown : s.vm.findClass RX12 = some m.cls := findClass_of_methodNamed B.named
  have hlocks := B.notSynchronized
  subst hsz
  have hD := hD0.self (sz := s.heap.size)
  generalize hAe : va_A [(zo14irriiiiiirriirrrrlriiii m0 th aS aI im ac sp en wg op aB aT se dn aG aO aN aD bv aY rn kd nu tv), (zaI aS cS 901 fS), (zaI aB cB 6 fB), (zaI aT cT 64 fT)] s.heap.size = A at hD hQ ⊢
  have hA : ∀ q : Nat, s.heap.size ≤ q → A q := fun q h => by rw [← hAe]; exact Or.inr h
  have hS : va_S A s.heap s.heap [] := va_S.rf
  have hl := lv_entry [.ref m0, .int x] (n := 5) (Nat.le_of_ble_eq_true rfl)
  rw [lg_entry_eq]
  generalize (lg_sl [.ref m0, .int x] ++ List.replicate (5 - (lg_sl [.ref m0, .int x]).length) Slot.unset).toArray = ls at hl ⊢
  generalize hag : ([.ref m0, .int x] : List Value).toArray = args at hts hQ ⊢
  have hl : lv_has ls 5 [(0, .ref m0), (1, .int x)] := hl
  obtain ⟨H, hH⟩ : ∃ H : Heap, H = s.heap := ⟨_, rfl⟩
  rw [← hH] at hP
  rw [← hH]
  have hS : va_S A s.heap H [] := by rw [hH]; exact hS
  obtain ⟨locs, hlo⟩ : ∃ L : List Loc, L = [] := ⟨_, rfl⟩
  rw [← hlo] at hS
  rw [← hlo]
  clear hH hlo
  refine lv_iload_n hx hb dX12_where_0 rfl (lv_at hl 1 rfl) ?_
  refine lv_if_lt (tgt := 15) hx hb dX12_where_1 (by decide) (fun c_1 => ?_) (fun c_1 => ?_)
  · skip
    refine lv_ldc2 (v := (-9223372036854775808)) hx hb hown (hts (.constantLong RX12 181 (-9223372036854775808)) kc_mWhere_0) dX12_where_15 ?_
    rw [hQ]
    have hP9 := hP.sub (ws' := [(zo14irriiiiiirriirrrrlriiii m0 th aS aI im ac sp en wg op aB aT se dn aG aO aN aD bv aY rn kd nu tv), (zaI aS cS 901 fS), (zaI aB cB 6 fB), (zaI aT cT 64 fT)]) [0, 1, 2, 3] rfl
    have hD9 := hD.sub (ws' := [(zo14irriiiiiirriirrrrlriiii m0 th aS aI im ac sp en wg op aB aT se dn aG aO aN aD bv aY rn kd nu tv), (zaI aS cS 901 fS), (zaI aB cB 6 fB), (zaI aT cT 64 fT)]) [0, 1, 2, 3] (by decide) rfl
    have hK9 := hK.sub (tys' := [(cS, .int), (cB, .int), (cT, .boolean)]) [0, 1, 2] rfl
    exact W.lret (v := (-9223372036854775808)) hx hb hr (fun tQ htQ hWQ => ⟨⟨(-9223372036854775808), (fB, fT, se, dn), rfl, by first | exact wh_a (by assumption) | exact wh_b (by assumption) | exact wh_m (by assumption) (by assumption) zkd zvv zc zmi zsn (wh_end hq9 (by omega)), by rw [htQ]; exact hP9, va_K.moved hWQ.alike hK9, hD9⟩, hS.F htQ⟩) hS.2.2 dX12_where_18
  · skip
    refine lv_iload_n hx hb dX12_where_4 rfl (lv_at hl 1 rfl) ?_
    refine lv_aload_n hx hb dX12_where_5 rfl (lv_at hl 0 rfl) ?_
    refine va_get (D := (dC, dI)) (ci := 14) (v := .ref aS) (C := RX12) (T := TX12) (N := 23) hx hb hts kc_mWhere_1 hown hK hP 0 rfl rfl 1 (by decide) (hts (.fieldLink RX12 9 "MistHeapsModel" "s" "[I") kc_mWhere_2) (fun _ h9 => h9) rfl dX12_where_6 ?_
    refine lv_iconst (v := 0) hx hb dX12_where_9 (by decide) ?_
    refine va_iald hx hb hK hP 1 0 rfl rfl (vp_in_nI (n := 0) (N := 901) (by omega) (by omega)) dX12_where_10 ?_
    refine qi_as (y := nI n) ((show fS (0 : Int32).toNatClampNeg = fS 0 from rfl).trans (zn)) ?_
    refine lv_ishr hx hb dX12_where_11 ?_
    refine lv_if_eq (tgt := 19) hx hb dX12_where_12 (by decide) (fun c_2 => ?_) (fun c_2 => ?_)
    · skip
      refine lv_lconst (v := 0) hx hb dX12_where_19 (by decide) ?_
      refine lv_lstore_n (lv' := [(2, .long 0), (0, .ref m0), (1, .int x)]) hx hb dX12_where_20 rfl hl (by decide) rfl (fun ls hl => ?_)
      refine lv_iconst (v := 0) hx hb dX12_where_21 (by decide) ?_
      refine lv_istore (lv' := [(4, .int 0), (2, .long 0), (0, .ref m0), (1, .int x)]) hx hb dX12_where_22 hl (by decide) rfl (fun ls hl => ?_)
      have L24 : ∀ (nF : Nat) (i : Nat) (se2 : Int32) (dn2 : Int32) (fB2 : Nat → Int32) (fT2 : Nat → Int32) (q : Int64), 36 - i < nF → (i ≤ 36) → (q = whB (fun i => sbR (fun k => apR (nI i) (fS (28 + k))) (fun k => RR fS cz k) n) x i) → ∀ (H : Heap) (locs : List Loc), va_K (dC, dI) vwCl [(cS, .int), (cB, .int), (cT, .boolean)] s → va_P (dC, dI) vwCl [(zo14irriiiiiirriirrrrlriiii m0 th aS aI im ac sp en wg op aB aT se2 dn2 aG aO aN aD bv aY rn kd nu tv), (zaI aS cS 901 fS), (zaI aB cB 6 fB2), (zaI aT cT 64 fT2)] H → va_D A [(zo14irriiiiiirriirrrrlriiii m0 th aS aI im ac sp en wg op aB aT se2 dn2 aG aO aN aD bv aY rn kd nu tv), (zaI aS cS 901 fS), (zaI aB cB 6 fB2), (zaI aT cT 64 fT2)] → va_S A s.heap H locs → ∀ (ls : Array Slot), lv_has ls 5 [(0, .ref m0), (1, .int x), (2, .long q), (4, .int (nI i))] → W p l e ({ frames := 4, cells := 0, slots := 0, locals := 100 } : Room) s m args below meth c H locs 0 0 Q (F0 m 24 ls []) := by
        intro nF
        induction nF with
        | zero => intro i se2 dn2 fB2 fT2 q hm; exact absurd hm (Nat.not_lt_zero _)
        | succ nF ih24 =>
          intro i se2 dn2 fB2 fT2 q hm hii hq9 H locs hK hP hD hS ls hl
          refine lv_iload hx hb dX12_where_24 (lv_at hl 3 rfl) ?_
          refine lv_bipush (v := 36) hx hb dX12_where_26 (by decide) ?_
          refine lv_icmp_ge (tgt := 58) hx hb dX12_where_28 (by decide) (fun c_3 => ?_) (fun c_3 => ?_)
          · skip
            have c_3 : 36 ≤ i := (nI_leI (a := 36) (b := i) (by omega) (by omega)).mp c_3
            refine lv_lload_n hx hb dX12_where_58 rfl (lv_at hl 2 rfl) ?_
            rw [hQ]
            have hP9 := hP.sub (ws' := [(zo14irriiiiiirriirrrrlriiii m0 th aS aI im ac sp en wg op aB aT se2 dn2 aG aO aN aD bv aY rn kd nu tv), (zaI aS cS 901 fS), (zaI aB cB 6 fB2), (zaI aT cT 64 fT2)]) [0, 1, 2, 3] rfl
            have hD9 := hD.sub (ws' := [(zo14irriiiiiirriirrrrlriiii m0 th aS aI im ac sp en wg op aB aT se2 dn2 aG aO aN aD bv aY rn kd nu tv), (zaI aS cS 901 fS), (zaI aB cB 6 fB2), (zaI aT cT 64 fT2)]) [0, 1, 2, 3] (by decide) rfl
            have hK9 := hK.sub (tys' := [(cS, .int), (cB, .int), (cT, .boolean)]) [0, 1, 2] rfl
            exact W.lret (v := q) hx hb hr (fun tQ htQ hWQ => ⟨⟨q, (fB2, fT2, se2, dn2), rfl, by first | exact wh_a (by assumption) | exact wh_b (by assumption) | exact wh_m (by assumption) (by assumption) zkd zvv zc zmi zsn (wh_end hq9 (by omega)), by rw [htQ]; exact hP9, va_K.moved hWQ.alike hK9, hD9⟩, hS.F htQ⟩) hS.2.2 dX12_where_59
          · skip
            have c_3 : ¬ 36 ≤ i := fun q => c_3 ((nI_leI (a := 36) (b := i) (by omega) (by omega)).mpr q)
            refine lv_lload_n hx hb dX12_where_31 rfl (lv_at hl 2 rfl) ?_
            refine lv_aload_n hx hb dX12_where_32 rfl (lv_at hl 0 rfl) ?_
            refine lv_iload hx hb dX12_where_33 (lv_at hl 3 rfl) ?_
            have hPc := hP.sub (ws' := [(zo14irriiiiiirriirrrrlriiii m0 th aS aI im ac sp en wg op aB aT se2 dn2 aG aO aN aD bv aY rn kd nu tv), (zaI aS cS 901 fS), (zaI aB cB 6 fB2), (zaI aT cT 64 fT2)]) [0, 1, 2, 3] rfl
            have hDc := hD.sub (ws' := [(zo14irriiiiiirriirrrrlriiii m0 th aS aI im ac sp en wg op aB aT se2 dn2 aG aO aN aD bv aY rn kd nu tv), (zaI aS cS 901 fS), (zaI aB cB 6 fB2), (zaI aT cT 64 fT2)]) [0, 1, 2, 3] (by decide) rfl
            have hKc := hK.sub (tys' := [(cS, .int), (cB, .int), (cT, .boolean)]) [0, 1, 2] rfl
            have hFc := va_free (wc := [(zo14irriiiiiirriirrrrlriiii m0 th aS aI im ac sp en wg op aB aT se2 dn2 aG aO aN aD bv aY rn kd nu tv), (zaI aS cS 901 fS), (zaI aB cB 6 fB2), (zaI aT cT 64 fT2)]) hD hS hA [0, 1, 2, 3] rfl
            refine va_calli (va_runV (As := [.int (nI i)]) (rest := [.long q]) ⟨hx, hb, hml, hown, hts⟩ (c_seesOf l dC dI m0 aS aI aB aT aG aO aN aD aY th im ac sp en wg op se2 dn2 rn kd nu tv bv cS cB cT fS fB2 fT2 n (nI i) cz H.size (zn) (hn) (zh)) (cwV 1 hts gX12_where_X12_seesOf rfl rfl rfl hd_yX12_seesOf ⟨Nat.le_of_ble_eq_true rfl, Nat.le_of_ble_eq_true rfl⟩) ⟨fun a U g mk q => by obtain ⟨q0, q1, qP, qK, qD⟩ := q; exact ⟨q0, q1, qP, va_K.moved (u := U) (U := U.calling g mk a) (Vm.Alike.refl U.vm) qK, qD⟩, va_recv hK hP (ci := 14) (q := (RX12, TX12, 23)) (q0 := 0) rfl rfl, fun U hU hW => ⟨rfl, by rw [hU], by rw [hU]; exact hPc, va_K.moved hW.alike hKc, hDc.weaken (fun _ _ _ _ => trivial)⟩⟩ rfl rfl hl.1 rfl (lv_room (Nat.le_of_ble_eq_true rfl)) dX12_where_35 ⟨Nat.le_of_ble_eq_true rfl, Nat.le_of_ble_eq_true rfl⟩) hS (fun q _ h => hFc q h) hFc (fun r_4 u tC H1 locs htC hvm hw_5 hB hz1 hk1 hS => ?_)
            obtain ⟨fB9_6, fT9_7, se9_8, dn9_9⟩ := u
            try dsimp only at hw_5 hB
            obtain ⟨hP1, hK1, hD1⟩ := hB
            rw [htC] at hP1
            have hK1 := va_K.moved hvm.symm hK1
            obtain ⟨hP, hD⟩ := va_join (wr := []) (w1 := [(zo14irriiiiiirriirrrrlriiii m0 th aS aI im ac sp en wg op aB aT se9_8 dn9_9 aG aO aN aD bv aY rn kd nu tv), (zaI aS cS 901 fS), (zaI aB cB 6 fB9_6), (zaI aT cT 64 fT9_7)]) hP hD [0, 1, 2, 3] [] rfl rfl (by decide) (by decide) hk1 hFc hP1 hD1
            have hK := (hK.sub (tys' := []) [] rfl).app hK1
            generalize H1 = H at hP hS ⊢
            have hP : va_P (dC, dI) vwCl [(zo14irriiiiiirriirrrrlriiii m0 th aS aI im ac sp en wg op aB aT se9_8 dn9_9 aG aO aN aD bv aY rn kd nu tv), (zaI aS cS 901 fS), (zaI aB cB 6 fB9_6), (zaI aT cT 64 fT9_7)] H := hP
            have hD : va_D A [(zo14irriiiiiirriirrrrlriiii m0 th aS aI im ac sp en wg op aB aT se9_8 dn9_9 aG aO aN aD bv aY rn kd nu tv), (zaI aS cS 901 fS), (zaI aB cB 6 fB9_6), (zaI aT cT 64 fT9_7)] := hD
            have hK : va_K (dC, dI) vwCl [(cS, .int), (cB, .int), (cT, .boolean)] s := hK
            obtain rfl := hw_5
            refine lv_iload_n hx hb dX12_where_38 rfl (lv_at hl 1 rfl) ?_
            refine lv_icmp_ne (tgt := 49) hx hb dX12_where_39 (by decide) (fun c_10 => ?_) (fun c_10 => ?_)
            · skip
              refine lv_lconst (v := 0) hx hb dX12_where_49 (by decide) ?_
              refine lv_lor hx hb dX12_where_50 ?_
              refine lv_lstore_n (lv' := [(2, .long (q ||| 0)), (0, .ref m0), (1, .int x), (4, .int (nI i))]) hx hb dX12_where_51 rfl hl (by decide) rfl (fun ls hl => ?_)
              refine lv_iinc (v := nI (i + 1)) (lv' := [(4, .int (nI (i + 1))), (2, .long (q ||| 0)), (0, .ref m0), (1, .int x)]) hx hb dX12_where_52 hl (k := 3) rfl (nI_add i 1) (by decide) rfl (fun ls hl => ?_)
              refine lv_goto (tgt := 24) hx hb dX12_where_55 (by decide) ?_
              exact ih24 (i + 1) _ _ _ _ (q ||| 0) (by omega) (by omega) (wh_0 hq9 c_10) _ _ (hK.sub [0, 1, 2] rfl) (hP.sub [0, 1, 2, 3] rfl) (hD.sub [0, 1, 2, 3] (by decide) rfl) hS ls (lv_sub hl [2, 3, 1, 0] rfl)
            · skip
              refine lv_lconst (v := 1) hx hb dX12_where_42 (by decide) ?_
              refine lv_iload hx hb dX12_where_43 (lv_at hl 3 rfl) ?_
              refine lv_lshl (v := (1 : Int64) <<< ((nI i).toInt64 &&& 63)) hx hb dX12_where_45 (rfl) ?_
              refine lv_goto (tgt := 50) hx hb dX12_where_46 (by decide) ?_
              refine lv_lor hx hb dX12_where_50 ?_
              refine lv_lstore_n (lv' := [(2, .long (q ||| ((1 : Int64) <<< ((nI i).toInt64 &&& 63)))), (0, .ref m0), (1, .int x), (4, .int (nI i))]) hx hb dX12_where_51 rfl hl (by decide) rfl (fun ls hl => ?_)
              refine lv_iinc (v := nI (i + 1)) (lv' := [(4, .int (nI (i + 1))), (2, .long (q ||| ((1 : Int64) <<< ((nI i).toInt64 &&& 63)))), (0, .ref m0), (1, .int x)]) hx hb dX12_where_52 hl (k := 3) rfl (nI_add i 1) (by decide) rfl (fun ls hl => ?_)
              refine lv_goto (tgt := 24) hx hb dX12_where_55 (by decide) ?_
              exact ih24 (i + 1) _ _ _ _ (q ||| ((1 : Int64) <<< ((nI i).toInt64 &&& 63))) (by omega) (by omega) (wh_1 hq9 c_10) _ _ (hK.sub [0, 1, 2] rfl) (hP.sub [0, 1, 2, 3] rfl) (hD.sub [0, 1, 2, 3] (by decide) rfl) hS ls (lv_sub hl [2, 3, 1, 0] rfl)
      exact L24 _ (0) _ _ _ _ (0) (Nat.lt_succ_self _) (by omega) (rfl) _ _ (hK.sub [0, 1, 2] rfl) (hP.sub [0, 1, 2, 3] rfl) (hD.sub [0, 1, 2, 3] (by decide) rfl) hS ls (lv_sub hl [2, 3, 1, 0] rfl)
    · skip
      refine lv_ldc2 (v := (-9223372036854775808)) hx hb hown (hts (.constantLong RX12 181 (-9223372036854775808)) kc_mWhere_0) dX12_where_15 ?_
      rw [hQ]
      have hP9 := hP.sub (ws' := [(zo14irriiiiiirriirrrrlriiii m0 th aS aI im ac sp en wg op aB aT se dn aG aO aN aD bv aY rn kd nu tv), (zaI aS cS 901 fS), (zaI aB cB 6 fB), (zaI aT cT 64 fT)]) [0, 1, 2, 3] rfl
      have hD9 := hD.sub (ws' := [(zo14irriiiiiirriirrrrlriiii m0 th aS aI im ac sp en wg op aB aT se dn aG aO aN aD bv aY rn kd nu tv), (zaI aS cS 901 fS), (zaI aB cB 6 fB), (zaI aT cT 64 fT)]) [0, 1, 2, 3] (by decide) rfl
      have hK9 := hK.sub (tys' := [(cS, .int), (cB, .int), (cT, .boolean)]) [0, 1, 2] rfl
      exact W.lret (v := (-9223372036854775808)) hx hb hr (fun tQ htQ hWQ => ⟨⟨(-9223372036854775808), (fB, fT, se, dn), rfl, by first | exact wh_a (by assumption) | exact wh_b (by assumption) | exact wh_m (by assumption) (by assumption) zkd zvv zc zmi zsn (wh_end hq9 (by omega)), by rw [htQ]; exact hP9, va_K.moved hWQ.alike hK9, hD9⟩, hS.F htQ⟩) hS.2.2 dX12_where_18
