theorem ggX5_holds_X5_isSo : GoodIn wsX5_holds wsX5_isSo := gga_of 657 rfl rfl rfl
theorem gX5_holds_X5_isSo : GoodIn wsX5_holds (va_wsS RX5 124 yX5_isSo wsX5_isSo) := goodIn_app (ggh_of [655, 656, 65] rfl rfl rfl) ggX5_holds_X5_isSo
theorem ggX5_total_X5_holds : GoodIn wsX5_total wsX5_holds := gga_of 654 rfl rfl rfl
theorem gX5_total_X5_holds : GoodIn wsX5_total (wsV RX5 120 RX5 yX5_holds wsX5_holds) := goodIn_app (ggh_of [651, 653, 11, 65] rfl rfl rfl) ggX5_total_X5_holds
noncomputable def dk14btotal_cX5_isSo_0 : List (Nat × Instr × Nat) := [(0, .aload_n 1, 1), (1, .iload_n 0, 1), (2, .sipush 300, 3), (5, .idiv, 1), (6, .iaload, 1), (7, .istore_n 2, 1), (8, .iload_n 0, 1), (9, .bipush 100, 2), (11, .irem, 1), (12, .istore_n 3, 1), (13, .iload_n 0, 1), (14, .bipush 100, 2), (16, .idiv, 1), (17, .iconst 3, 1), (18, .irem, 1), (19, .lookupswitch 47 #[(0, 25), (1, 36)], 25), (44, .iload_n 2, 1), (45, .iload_n 3, 1), (46, .if_icmp .ge 7, 3), (53, .iconst 0, 1), (54, .ireturn, 1), (49, .iconst 1, 1), (50, .goto 4, 3), (55, .iload_n 2, 1), (56, .iload_n 3, 1), (57, .if_icmp .ne 7, 3), (64, .iconst 0, 1), (65, .ireturn, 1), (60, .iconst 1, 1), (61, .goto 4, 3), (66, .iload_n 2, 1), (67, .iload_n 3, 1), (68, .if_icmp .le 7, 3), (75, .iconst 0, 1), (76, .ireturn, 1), (71, .iconst 1, 1), (72, .goto 4, 3)]
set_option maxRecDepth 100000 in
theorem dk14btotal_cX5_isSo_0_a : dkA cX5_isSo dk14btotal_cX5_isSo_0 = true := by decide +kernel
theorem dX5_isSo_0 : decode cX5_isSo 0 = .ok (.aload_n 1, 1) := dkAt dk14btotal_cX5_isSo_0_a 0 rfl
theorem dX5_isSo_1 : decode cX5_isSo 1 = .ok (.iload_n 0, 1) := dkAt dk14btotal_cX5_isSo_0_a 1 rfl
theorem dX5_isSo_2 : decode cX5_isSo 2 = .ok (.sipush 300, 3) := dkAt dk14btotal_cX5_isSo_0_a 2 rfl
theorem dX5_isSo_5 : decode cX5_isSo 5 = .ok (.idiv, 1) := dkAt dk14btotal_cX5_isSo_0_a 3 rfl
theorem dX5_isSo_6 : decode cX5_isSo 6 = .ok (.iaload, 1) := dkAt dk14btotal_cX5_isSo_0_a 4 rfl
theorem dX5_isSo_7 : decode cX5_isSo 7 = .ok (.istore_n 2, 1) := dkAt dk14btotal_cX5_isSo_0_a 5 rfl
theorem dX5_isSo_8 : decode cX5_isSo 8 = .ok (.iload_n 0, 1) := dkAt dk14btotal_cX5_isSo_0_a 6 rfl
theorem dX5_isSo_9 : decode cX5_isSo 9 = .ok (.bipush 100, 2) := dkAt dk14btotal_cX5_isSo_0_a 7 rfl
theorem dX5_isSo_11 : decode cX5_isSo 11 = .ok (.irem, 1) := dkAt dk14btotal_cX5_isSo_0_a 8 rfl
theorem dX5_isSo_12 : decode cX5_isSo 12 = .ok (.istore_n 3, 1) := dkAt dk14btotal_cX5_isSo_0_a 9 rfl
theorem dX5_isSo_13 : decode cX5_isSo 13 = .ok (.iload_n 0, 1) := dkAt dk14btotal_cX5_isSo_0_a 10 rfl
theorem dX5_isSo_14 : decode cX5_isSo 14 = .ok (.bipush 100, 2) := dkAt dk14btotal_cX5_isSo_0_a 11 rfl
theorem dX5_isSo_16 : decode cX5_isSo 16 = .ok (.idiv, 1) := dkAt dk14btotal_cX5_isSo_0_a 12 rfl
theorem dX5_isSo_17 : decode cX5_isSo 17 = .ok (.iconst 3, 1) := dkAt dk14btotal_cX5_isSo_0_a 13 rfl
theorem dX5_isSo_18 : decode cX5_isSo 18 = .ok (.irem, 1) := dkAt dk14btotal_cX5_isSo_0_a 14 rfl
theorem dX5_isSo_19 : decode cX5_isSo 19 = .ok (.lookupswitch 47 #[(0, 25), (1, 36)], 25) := dkAt dk14btotal_cX5_isSo_0_a 15 rfl
theorem dX5_isSo_44 : decode cX5_isSo 44 = .ok (.iload_n 2, 1) := dkAt dk14btotal_cX5_isSo_0_a 16 rfl
theorem dX5_isSo_45 : decode cX5_isSo 45 = .ok (.iload_n 3, 1) := dkAt dk14btotal_cX5_isSo_0_a 17 rfl
theorem dX5_isSo_46 : decode cX5_isSo 46 = .ok (.if_icmp .ge 7, 3) := dkAt dk14btotal_cX5_isSo_0_a 18 rfl
theorem dX5_isSo_53 : decode cX5_isSo 53 = .ok (.iconst 0, 1) := dkAt dk14btotal_cX5_isSo_0_a 19 rfl
theorem dX5_isSo_54 : decode cX5_isSo 54 = .ok (.ireturn, 1) := dkAt dk14btotal_cX5_isSo_0_a 20 rfl
theorem dX5_isSo_49 : decode cX5_isSo 49 = .ok (.iconst 1, 1) := dkAt dk14btotal_cX5_isSo_0_a 21 rfl
theorem dX5_isSo_50 : decode cX5_isSo 50 = .ok (.goto 4, 3) := dkAt dk14btotal_cX5_isSo_0_a 22 rfl
theorem dX5_isSo_55 : decode cX5_isSo 55 = .ok (.iload_n 2, 1) := dkAt dk14btotal_cX5_isSo_0_a 23 rfl
theorem dX5_isSo_56 : decode cX5_isSo 56 = .ok (.iload_n 3, 1) := dkAt dk14btotal_cX5_isSo_0_a 24 rfl
theorem dX5_isSo_57 : decode cX5_isSo 57 = .ok (.if_icmp .ne 7, 3) := dkAt dk14btotal_cX5_isSo_0_a 25 rfl
theorem dX5_isSo_64 : decode cX5_isSo 64 = .ok (.iconst 0, 1) := dkAt dk14btotal_cX5_isSo_0_a 26 rfl
theorem dX5_isSo_65 : decode cX5_isSo 65 = .ok (.ireturn, 1) := dkAt dk14btotal_cX5_isSo_0_a 27 rfl
theorem dX5_isSo_60 : decode cX5_isSo 60 = .ok (.iconst 1, 1) := dkAt dk14btotal_cX5_isSo_0_a 28 rfl
theorem dX5_isSo_61 : decode cX5_isSo 61 = .ok (.goto 4, 3) := dkAt dk14btotal_cX5_isSo_0_a 29 rfl
theorem dX5_isSo_66 : decode cX5_isSo 66 = .ok (.iload_n 2, 1) := dkAt dk14btotal_cX5_isSo_0_a 30 rfl
theorem dX5_isSo_67 : decode cX5_isSo 67 = .ok (.iload_n 3, 1) := dkAt dk14btotal_cX5_isSo_0_a 31 rfl
theorem dX5_isSo_68 : decode cX5_isSo 68 = .ok (.if_icmp .le 7, 3) := dkAt dk14btotal_cX5_isSo_0_a 32 rfl
theorem dX5_isSo_75 : decode cX5_isSo 75 = .ok (.iconst 0, 1) := dkAt dk14btotal_cX5_isSo_0_a 33 rfl
theorem dX5_isSo_76 : decode cX5_isSo 76 = .ok (.ireturn, 1) := dkAt dk14btotal_cX5_isSo_0_a 34 rfl
theorem dX5_isSo_71 : decode cX5_isSo 71 = .ok (.iconst 1, 1) := dkAt dk14btotal_cX5_isSo_0_a 35 rfl
theorem dX5_isSo_72 : decode cX5_isSo 72 = .ok (.goto 4, 3) := dkAt dk14btotal_cX5_isSo_0_a 36 rfl
noncomputable def dk14btotal_cX5_holds_0 : List (Nat × Instr × Nat) := [(0, .iload_n 1, 1), (16, .istore_n 3, 1), (17, .iconst 0, 1), (18, .istore 4, 2), (20, .iload_n 3, 1), (21, .istore 5, 2), (23, .iload 5, 2), (25, .aload_n 0, 1), (26, .getfield 22, 3), (29, .iload_n 1, 1), (30, .iaload, 1), (31, .if_icmp .ge 97, 3), (128, .iload 4, 2), (130, .iconst 1, 1), (131, .iand, 1), (132, .iconst 1, 1), (133, .if_icmp .ne 7, 3), (140, .iconst 0, 1), (141, .ireturn, 1), (136, .iconst 1, 1), (137, .goto 4, 3), (34, .aload_n 0, 1), (35, .getfield 25, 3), (38, .iload 5, 2), (40, .iaload, 1), (41, .istore 6, 2), (43, .iload 6, 2), (45, .iconst (-1), 1), (46, .if_icmp .ne 12, 3), (58, .iload 6, 2), (60, .bipush (-2), 2), (62, .if_icmp .ne 18, 3), (80, .iload 6, 2), (82, .bipush (-3), 2), (84, .if_icmp .ne 17, 3), (101, .iload 4, 2), (103, .iconst 1, 1), (104, .ishl, 1), (105, .iload 6, 2), (107, .aload_n 2, 1)]
set_option maxRecDepth 100000 in
theorem dk14btotal_cX5_holds_0_a : dkA cX5_holds dk14btotal_cX5_holds_0 = true := by decide +kernel
theorem dX5_holds_0 : decode cX5_holds 0 = .ok (.iload_n 1, 1) := dkAt dk14btotal_cX5_holds_0_a 0 rfl
theorem dX5_holds_16 : decode cX5_holds 16 = .ok (.istore_n 3, 1) := dkAt dk14btotal_cX5_holds_0_a 1 rfl
theorem dX5_holds_17 : decode cX5_holds 17 = .ok (.iconst 0, 1) := dkAt dk14btotal_cX5_holds_0_a 2 rfl
theorem dX5_holds_18 : decode cX5_holds 18 = .ok (.istore 4, 2) := dkAt dk14btotal_cX5_holds_0_a 3 rfl
theorem dX5_holds_20 : decode cX5_holds 20 = .ok (.iload_n 3, 1) := dkAt dk14btotal_cX5_holds_0_a 4 rfl
theorem dX5_holds_21 : decode cX5_holds 21 = .ok (.istore 5, 2) := dkAt dk14btotal_cX5_holds_0_a 5 rfl
theorem dX5_holds_23 : decode cX5_holds 23 = .ok (.iload 5, 2) := dkAt dk14btotal_cX5_holds_0_a 6 rfl
theorem dX5_holds_25 : decode cX5_holds 25 = .ok (.aload_n 0, 1) := dkAt dk14btotal_cX5_holds_0_a 7 rfl
theorem dX5_holds_26 : decode cX5_holds 26 = .ok (.getfield 22, 3) := dkAt dk14btotal_cX5_holds_0_a 8 rfl
theorem dX5_holds_29 : decode cX5_holds 29 = .ok (.iload_n 1, 1) := dkAt dk14btotal_cX5_holds_0_a 9 rfl
theorem dX5_holds_30 : decode cX5_holds 30 = .ok (.iaload, 1) := dkAt dk14btotal_cX5_holds_0_a 10 rfl
theorem dX5_holds_31 : decode cX5_holds 31 = .ok (.if_icmp .ge 97, 3) := dkAt dk14btotal_cX5_holds_0_a 11 rfl
theorem dX5_holds_128 : decode cX5_holds 128 = .ok (.iload 4, 2) := dkAt dk14btotal_cX5_holds_0_a 12 rfl
theorem dX5_holds_130 : decode cX5_holds 130 = .ok (.iconst 1, 1) := dkAt dk14btotal_cX5_holds_0_a 13 rfl
theorem dX5_holds_131 : decode cX5_holds 131 = .ok (.iand, 1) := dkAt dk14btotal_cX5_holds_0_a 14 rfl
theorem dX5_holds_132 : decode cX5_holds 132 = .ok (.iconst 1, 1) := dkAt dk14btotal_cX5_holds_0_a 15 rfl
theorem dX5_holds_133 : decode cX5_holds 133 = .ok (.if_icmp .ne 7, 3) := dkAt dk14btotal_cX5_holds_0_a 16 rfl
theorem dX5_holds_140 : decode cX5_holds 140 = .ok (.iconst 0, 1) := dkAt dk14btotal_cX5_holds_0_a 17 rfl
theorem dX5_holds_141 : decode cX5_holds 141 = .ok (.ireturn, 1) := dkAt dk14btotal_cX5_holds_0_a 18 rfl
theorem dX5_holds_136 : decode cX5_holds 136 = .ok (.iconst 1, 1) := dkAt dk14btotal_cX5_holds_0_a 19 rfl
theorem dX5_holds_137 : decode cX5_holds 137 = .ok (.goto 4, 3) := dkAt dk14btotal_cX5_holds_0_a 20 rfl
theorem dX5_holds_34 : decode cX5_holds 34 = .ok (.aload_n 0, 1) := dkAt dk14btotal_cX5_holds_0_a 21 rfl
theorem dX5_holds_35 : decode cX5_holds 35 = .ok (.getfield 25, 3) := dkAt dk14btotal_cX5_holds_0_a 22 rfl
theorem dX5_holds_38 : decode cX5_holds 38 = .ok (.iload 5, 2) := dkAt dk14btotal_cX5_holds_0_a 23 rfl
theorem dX5_holds_40 : decode cX5_holds 40 = .ok (.iaload, 1) := dkAt dk14btotal_cX5_holds_0_a 24 rfl
theorem dX5_holds_41 : decode cX5_holds 41 = .ok (.istore 6, 2) := dkAt dk14btotal_cX5_holds_0_a 25 rfl
theorem dX5_holds_43 : decode cX5_holds 43 = .ok (.iload 6, 2) := dkAt dk14btotal_cX5_holds_0_a 26 rfl
theorem dX5_holds_45 : decode cX5_holds 45 = .ok (.iconst (-1), 1) := dkAt dk14btotal_cX5_holds_0_a 27 rfl
theorem dX5_holds_46 : decode cX5_holds 46 = .ok (.if_icmp .ne 12, 3) := dkAt dk14btotal_cX5_holds_0_a 28 rfl
theorem dX5_holds_58 : decode cX5_holds 58 = .ok (.iload 6, 2) := dkAt dk14btotal_cX5_holds_0_a 29 rfl
theorem dX5_holds_60 : decode cX5_holds 60 = .ok (.bipush (-2), 2) := dkAt dk14btotal_cX5_holds_0_a 30 rfl
theorem dX5_holds_62 : decode cX5_holds 62 = .ok (.if_icmp .ne 18, 3) := dkAt dk14btotal_cX5_holds_0_a 31 rfl
theorem dX5_holds_80 : decode cX5_holds 80 = .ok (.iload 6, 2) := dkAt dk14btotal_cX5_holds_0_a 32 rfl
theorem dX5_holds_82 : decode cX5_holds 82 = .ok (.bipush (-3), 2) := dkAt dk14btotal_cX5_holds_0_a 33 rfl
theorem dX5_holds_84 : decode cX5_holds 84 = .ok (.if_icmp .ne 17, 3) := dkAt dk14btotal_cX5_holds_0_a 34 rfl
theorem dX5_holds_101 : decode cX5_holds 101 = .ok (.iload 4, 2) := dkAt dk14btotal_cX5_holds_0_a 35 rfl
theorem dX5_holds_103 : decode cX5_holds 103 = .ok (.iconst 1, 1) := dkAt dk14btotal_cX5_holds_0_a 36 rfl
theorem dX5_holds_104 : decode cX5_holds 104 = .ok (.ishl, 1) := dkAt dk14btotal_cX5_holds_0_a 37 rfl
theorem dX5_holds_105 : decode cX5_holds 105 = .ok (.iload 6, 2) := dkAt dk14btotal_cX5_holds_0_a 38 rfl
theorem dX5_holds_107 : decode cX5_holds 107 = .ok (.aload_n 2, 1) := dkAt dk14btotal_cX5_holds_0_a 39 rfl
noncomputable def dk14btotal_cX5_holds_40 : List (Nat × Instr × Nat) := [(108, .invokestatic 124, 3), (111, .ifCond .eq 7, 3), (118, .iconst 0, 1), (119, .ior, 1), (120, .istore 4, 2), (122, .iinc 5 1, 3), (125, .goto (-102), 3), (114, .iconst 1, 1), (115, .goto 4, 3), (49, .iload 4, 2), (51, .iconst 1, 1), (52, .ixor, 1), (53, .istore 4, 2), (55, .goto 67, 3), (65, .iload 4, 2), (67, .iconst 1, 1), (68, .ishr, 1), (69, .iload 4, 2), (71, .bipush (-2), 2), (73, .ior, 1), (74, .iand, 1), (75, .istore 4, 2), (77, .goto 45, 3), (87, .iload 4, 2), (89, .iconst 1, 1), (90, .ishr, 1), (91, .iload 4, 2), (93, .iconst 1, 1), (94, .iand, 1), (95, .ior, 1), (96, .istore 4, 2), (98, .goto 24, 3), (1, .ifCond .ne 7, 3), (8, .aload_n 0, 1), (9, .getfield 22, 3), (12, .iload_n 1, 1), (13, .iconst 1, 1), (14, .isub, 1), (15, .iaload, 1), (4, .iconst 0, 1)]
set_option maxRecDepth 100000 in
theorem dk14btotal_cX5_holds_40_a : dkA cX5_holds dk14btotal_cX5_holds_40 = true := by decide +kernel
theorem dX5_holds_108 : decode cX5_holds 108 = .ok (.invokestatic 124, 3) := dkAt dk14btotal_cX5_holds_40_a 0 rfl
theorem dX5_holds_111 : decode cX5_holds 111 = .ok (.ifCond .eq 7, 3) := dkAt dk14btotal_cX5_holds_40_a 1 rfl
theorem dX5_holds_118 : decode cX5_holds 118 = .ok (.iconst 0, 1) := dkAt dk14btotal_cX5_holds_40_a 2 rfl
theorem dX5_holds_119 : decode cX5_holds 119 = .ok (.ior, 1) := dkAt dk14btotal_cX5_holds_40_a 3 rfl
theorem dX5_holds_120 : decode cX5_holds 120 = .ok (.istore 4, 2) := dkAt dk14btotal_cX5_holds_40_a 4 rfl
theorem dX5_holds_122 : decode cX5_holds 122 = .ok (.iinc 5 1, 3) := dkAt dk14btotal_cX5_holds_40_a 5 rfl
theorem dX5_holds_125 : decode cX5_holds 125 = .ok (.goto (-102), 3) := dkAt dk14btotal_cX5_holds_40_a 6 rfl
theorem dX5_holds_114 : decode cX5_holds 114 = .ok (.iconst 1, 1) := dkAt dk14btotal_cX5_holds_40_a 7 rfl
theorem dX5_holds_115 : decode cX5_holds 115 = .ok (.goto 4, 3) := dkAt dk14btotal_cX5_holds_40_a 8 rfl
theorem dX5_holds_49 : decode cX5_holds 49 = .ok (.iload 4, 2) := dkAt dk14btotal_cX5_holds_40_a 9 rfl
theorem dX5_holds_51 : decode cX5_holds 51 = .ok (.iconst 1, 1) := dkAt dk14btotal_cX5_holds_40_a 10 rfl
theorem dX5_holds_52 : decode cX5_holds 52 = .ok (.ixor, 1) := dkAt dk14btotal_cX5_holds_40_a 11 rfl
theorem dX5_holds_53 : decode cX5_holds 53 = .ok (.istore 4, 2) := dkAt dk14btotal_cX5_holds_40_a 12 rfl
theorem dX5_holds_55 : decode cX5_holds 55 = .ok (.goto 67, 3) := dkAt dk14btotal_cX5_holds_40_a 13 rfl
theorem dX5_holds_65 : decode cX5_holds 65 = .ok (.iload 4, 2) := dkAt dk14btotal_cX5_holds_40_a 14 rfl
theorem dX5_holds_67 : decode cX5_holds 67 = .ok (.iconst 1, 1) := dkAt dk14btotal_cX5_holds_40_a 15 rfl
theorem dX5_holds_68 : decode cX5_holds 68 = .ok (.ishr, 1) := dkAt dk14btotal_cX5_holds_40_a 16 rfl
theorem dX5_holds_69 : decode cX5_holds 69 = .ok (.iload 4, 2) := dkAt dk14btotal_cX5_holds_40_a 17 rfl
theorem dX5_holds_71 : decode cX5_holds 71 = .ok (.bipush (-2), 2) := dkAt dk14btotal_cX5_holds_40_a 18 rfl
theorem dX5_holds_73 : decode cX5_holds 73 = .ok (.ior, 1) := dkAt dk14btotal_cX5_holds_40_a 19 rfl
theorem dX5_holds_74 : decode cX5_holds 74 = .ok (.iand, 1) := dkAt dk14btotal_cX5_holds_40_a 20 rfl
theorem dX5_holds_75 : decode cX5_holds 75 = .ok (.istore 4, 2) := dkAt dk14btotal_cX5_holds_40_a 21 rfl
theorem dX5_holds_77 : decode cX5_holds 77 = .ok (.goto 45, 3) := dkAt dk14btotal_cX5_holds_40_a 22 rfl
theorem dX5_holds_87 : decode cX5_holds 87 = .ok (.iload 4, 2) := dkAt dk14btotal_cX5_holds_40_a 23 rfl
theorem dX5_holds_89 : decode cX5_holds 89 = .ok (.iconst 1, 1) := dkAt dk14btotal_cX5_holds_40_a 24 rfl
theorem dX5_holds_90 : decode cX5_holds 90 = .ok (.ishr, 1) := dkAt dk14btotal_cX5_holds_40_a 25 rfl
theorem dX5_holds_91 : decode cX5_holds 91 = .ok (.iload 4, 2) := dkAt dk14btotal_cX5_holds_40_a 26 rfl
theorem dX5_holds_93 : decode cX5_holds 93 = .ok (.iconst 1, 1) := dkAt dk14btotal_cX5_holds_40_a 27 rfl
theorem dX5_holds_94 : decode cX5_holds 94 = .ok (.iand, 1) := dkAt dk14btotal_cX5_holds_40_a 28 rfl
theorem dX5_holds_95 : decode cX5_holds 95 = .ok (.ior, 1) := dkAt dk14btotal_cX5_holds_40_a 29 rfl
theorem dX5_holds_96 : decode cX5_holds 96 = .ok (.istore 4, 2) := dkAt dk14btotal_cX5_holds_40_a 30 rfl
theorem dX5_holds_98 : decode cX5_holds 98 = .ok (.goto 24, 3) := dkAt dk14btotal_cX5_holds_40_a 31 rfl
theorem dX5_holds_1 : decode cX5_holds 1 = .ok (.ifCond .ne 7, 3) := dkAt dk14btotal_cX5_holds_40_a 32 rfl
theorem dX5_holds_8 : decode cX5_holds 8 = .ok (.aload_n 0, 1) := dkAt dk14btotal_cX5_holds_40_a 33 rfl
theorem dX5_holds_9 : decode cX5_holds 9 = .ok (.getfield 22, 3) := dkAt dk14btotal_cX5_holds_40_a 34 rfl
theorem dX5_holds_12 : decode cX5_holds 12 = .ok (.iload_n 1, 1) := dkAt dk14btotal_cX5_holds_40_a 35 rfl
theorem dX5_holds_13 : decode cX5_holds 13 = .ok (.iconst 1, 1) := dkAt dk14btotal_cX5_holds_40_a 36 rfl
theorem dX5_holds_14 : decode cX5_holds 14 = .ok (.isub, 1) := dkAt dk14btotal_cX5_holds_40_a 37 rfl
theorem dX5_holds_15 : decode cX5_holds 15 = .ok (.iaload, 1) := dkAt dk14btotal_cX5_holds_40_a 38 rfl
theorem dX5_holds_4 : decode cX5_holds 4 = .ok (.iconst 0, 1) := dkAt dk14btotal_cX5_holds_40_a 39 rfl
noncomputable def dk14btotal_cX5_holds_80 : List (Nat × Instr × Nat) := [(5, .goto 11, 3)]
set_option maxRecDepth 100000 in
theorem dk14btotal_cX5_holds_80_a : dkA cX5_holds dk14btotal_cX5_holds_80 = true := by decide +kernel
theorem dX5_holds_5 : decode cX5_holds 5 = .ok (.goto 11, 3) := dkAt dk14btotal_cX5_holds_80_a 0 rfl
noncomputable def dk14btotal_cX5_total_0 : List (Nat × Instr × Nat) := [(0, .iconst 0, 1), (1, .istore_n 3, 1), (2, .iconst 0, 1), (3, .istore 4, 2), (5, .iload 4, 2), (7, .aload_n 0, 1), (8, .getfield 59, 3), (11, .if_icmp .ge 40, 3), (51, .iload_n 3, 1), (52, .ireturn, 1), (14, .aload_n 0, 1), (15, .getfield 15, 3), (18, .iload 4, 2), (20, .iaload, 1), (21, .iload_n 1, 1), (22, .if_icmp .ne 23, 3), (45, .iinc 4 1, 3), (48, .goto (-43), 3), (25, .aload_n 0, 1), (26, .iload 4, 2), (28, .aload_n 2, 1), (29, .invokevirtual 120, 3), (32, .ifCond .eq 13, 3), (35, .iload_n 3, 1), (36, .aload_n 0, 1), (37, .getfield 19, 3), (40, .iload 4, 2), (42, .iaload, 1), (43, .iadd, 1), (44, .istore_n 3, 1)]
set_option maxRecDepth 100000 in
theorem dk14btotal_cX5_total_0_a : dkA cX5_total dk14btotal_cX5_total_0 = true := by decide +kernel
theorem dX5_total_0 : decode cX5_total 0 = .ok (.iconst 0, 1) := dkAt dk14btotal_cX5_total_0_a 0 rfl
theorem dX5_total_1 : decode cX5_total 1 = .ok (.istore_n 3, 1) := dkAt dk14btotal_cX5_total_0_a 1 rfl
theorem dX5_total_2 : decode cX5_total 2 = .ok (.iconst 0, 1) := dkAt dk14btotal_cX5_total_0_a 2 rfl
theorem dX5_total_3 : decode cX5_total 3 = .ok (.istore 4, 2) := dkAt dk14btotal_cX5_total_0_a 3 rfl
theorem dX5_total_5 : decode cX5_total 5 = .ok (.iload 4, 2) := dkAt dk14btotal_cX5_total_0_a 4 rfl
theorem dX5_total_7 : decode cX5_total 7 = .ok (.aload_n 0, 1) := dkAt dk14btotal_cX5_total_0_a 5 rfl
theorem dX5_total_8 : decode cX5_total 8 = .ok (.getfield 59, 3) := dkAt dk14btotal_cX5_total_0_a 6 rfl
theorem dX5_total_11 : decode cX5_total 11 = .ok (.if_icmp .ge 40, 3) := dkAt dk14btotal_cX5_total_0_a 7 rfl
theorem dX5_total_51 : decode cX5_total 51 = .ok (.iload_n 3, 1) := dkAt dk14btotal_cX5_total_0_a 8 rfl
theorem dX5_total_52 : decode cX5_total 52 = .ok (.ireturn, 1) := dkAt dk14btotal_cX5_total_0_a 9 rfl
theorem dX5_total_14 : decode cX5_total 14 = .ok (.aload_n 0, 1) := dkAt dk14btotal_cX5_total_0_a 10 rfl
theorem dX5_total_15 : decode cX5_total 15 = .ok (.getfield 15, 3) := dkAt dk14btotal_cX5_total_0_a 11 rfl
theorem dX5_total_18 : decode cX5_total 18 = .ok (.iload 4, 2) := dkAt dk14btotal_cX5_total_0_a 12 rfl
theorem dX5_total_20 : decode cX5_total 20 = .ok (.iaload, 1) := dkAt dk14btotal_cX5_total_0_a 13 rfl
theorem dX5_total_21 : decode cX5_total 21 = .ok (.iload_n 1, 1) := dkAt dk14btotal_cX5_total_0_a 14 rfl
theorem dX5_total_22 : decode cX5_total 22 = .ok (.if_icmp .ne 23, 3) := dkAt dk14btotal_cX5_total_0_a 15 rfl
theorem dX5_total_45 : decode cX5_total 45 = .ok (.iinc 4 1, 3) := dkAt dk14btotal_cX5_total_0_a 16 rfl
theorem dX5_total_48 : decode cX5_total 48 = .ok (.goto (-43), 3) := dkAt dk14btotal_cX5_total_0_a 17 rfl
theorem dX5_total_25 : decode cX5_total 25 = .ok (.aload_n 0, 1) := dkAt dk14btotal_cX5_total_0_a 18 rfl
theorem dX5_total_26 : decode cX5_total 26 = .ok (.iload 4, 2) := dkAt dk14btotal_cX5_total_0_a 19 rfl
theorem dX5_total_28 : decode cX5_total 28 = .ok (.aload_n 2, 1) := dkAt dk14btotal_cX5_total_0_a 20 rfl
theorem dX5_total_29 : decode cX5_total 29 = .ok (.invokevirtual 120, 3) := dkAt dk14btotal_cX5_total_0_a 21 rfl
theorem dX5_total_32 : decode cX5_total 32 = .ok (.ifCond .eq 13, 3) := dkAt dk14btotal_cX5_total_0_a 22 rfl
theorem dX5_total_35 : decode cX5_total 35 = .ok (.iload_n 3, 1) := dkAt dk14btotal_cX5_total_0_a 23 rfl
theorem dX5_total_36 : decode cX5_total 36 = .ok (.aload_n 0, 1) := dkAt dk14btotal_cX5_total_0_a 24 rfl
theorem dX5_total_37 : decode cX5_total 37 = .ok (.getfield 19, 3) := dkAt dk14btotal_cX5_total_0_a 25 rfl
theorem dX5_total_40 : decode cX5_total 40 = .ok (.iload 4, 2) := dkAt dk14btotal_cX5_total_0_a 26 rfl
theorem dX5_total_42 : decode cX5_total 42 = .ok (.iaload, 1) := dkAt dk14btotal_cX5_total_0_a 27 rfl
theorem dX5_total_43 : decode cX5_total 43 = .ok (.iadd, 1) := dkAt dk14btotal_cX5_total_0_a 28 rfl
theorem dX5_total_44 : decode cX5_total 44 = .ok (.istore_n 3, 1) := dkAt dk14btotal_cX5_total_0_a 29 rfl
/-- the codes of a hill: what a test's number may be -/
noncomputable def okC (x : Int32) : Prop := x = -1 ∨ x = -2 ∨ x = -3 ∨ ∃ k : Nat, k < 1800 ∧ x = nI k

theorem so_out {x : Int32} (h1 : ¬ x = 0) (h2 : ¬ x = 1) : Op.lookupswitch.offset [(0, 25), (1, 36)] 47 x.toInt = 47 := by
  have e : ∀ y : Int32, ¬ x = y → ¬ y.toInt = x.toInt := fun y h q => h (Int32.toInt_inj.mp q.symm)
  rw [Op.lookupswitch.offset_cons, if_neg (show ¬ (0 : Int) = x.toInt from e 0 h1), Op.lookupswitch.offset_cons, if_neg (show ¬ (1 : Int) = x.toInt from e 1 h2)]
  rfl

set_option maxHeartbeats 4000000 in
set_option maxRecDepth 100000 in
theorem c_isSo (l : Launch) (dC : Nat → ClassId) (dI : Nat → Nat → Nat) (aFc : Nat) (k : Nat) (cFc : ClassId) (fFc : Nat → Int32) (hk18 : k < 1800) : Met l yX5_isSo wsX5_isSo ({ frames := 0, cells := 0, slots := 0, locals := 0 } : Room) (va_Pc [.int (nI k), .ref aFc] (fun U => va_P (dC, dI) vwCl [(zaI aFc cFc 6 fFc)] U.heap ∧ va_K (dC, dI) vwCl [(cFc, .int)] U)) (vp_Si (fun r => r = bI (tsB fFc k))) 0 0 (fun _ => False) := by
  refine met_ofQ (cc := cX5_isSo) (maxL := 4) (ret := (some .boolean)) (by decide) rfl ?_
  intro p e s m args below meth c s₁ Q B hml hv hQ
  obtain ⟨rfl, hP, hK⟩ := hv
  have hx := B.exec
  have hb := B.bytes
  have hr := B.returns
  have hts := atoms_spec (ws := wsX5_isSo) B.pre
  have hown : s.vm.findClass RX5 = some m.cls := findClass_of_methodNamed B.named
  have hlocks := B.notSynchronized
  obtain ⟨A, hAe⟩ : ∃ A : Nat → Prop, A = fun _ => False := ⟨_, rfl⟩
  rw [← hAe] at hQ
  have hS : va_S A s.heap s.heap [] := va_S.rf
  have hl := lv_entry [.int (nI k), .ref aFc] (n := 4) (Nat.le_of_ble_eq_true rfl)
  rw [lg_entry_eq]
  generalize (lg_sl [.int (nI k), .ref aFc] ++ List.replicate (4 - (lg_sl [.int (nI k), .ref aFc]).length) Slot.unset).toArray = ls at hl ⊢
  generalize hag : ([.int (nI k), .ref aFc] : List Value).toArray = args at hts hQ ⊢
  have hl : lv_has ls 4 [(0, .int (nI k)), (1, .ref aFc)] := hl
  refine lv_aload_n hx hb dX5_isSo_0 rfl (lv_at hl 1 rfl) ?_
  refine lv_iload_n hx hb dX5_isSo_1 rfl (lv_at hl 0 rfl) ?_
  refine lv_sipush (v := 300) hx hb dX5_isSo_2 (by decide) ?_
  refine lv_idiv hx hb dX5_isSo_5 (by decide) ?_
  refine qi_as (y := nI (k / 300)) (pk_div (a := k) (d := 300) (by omega) (by omega) (by omega)) ?_
  refine va_iald hx hb hK hP 0 0 rfl rfl (vp_in_nI (n := k / 300) (N := 6) (by omega) (by omega)) dX5_isSo_6 ?_
  refine qi_as (y := fFc (k / 300)) (by rw [nI_clamp (by omega)]) ?_
  refine lv_istore_n (lv' := [(2, .int (fFc (k / 300))), (0, .int (nI k)), (1, .ref aFc)]) hx hb dX5_isSo_7 rfl hl (by decide) rfl (fun ls hl => ?_)
  refine lv_iload_n hx hb dX5_isSo_8 rfl (lv_at hl 1 rfl) ?_
  refine lv_bipush (v := 100) hx hb dX5_isSo_9 (by decide) ?_
  refine lv_irem hx hb dX5_isSo_11 (by decide) ?_
  refine qi_as (y := nI (k % 100)) (pk_rem (a := k) (d := 100) (by omega) (by omega) (by omega)) ?_
  refine lv_istore_n (lv' := [(3, .int (nI (k % 100))), (2, .int (fFc (k / 300))), (0, .int (nI k)), (1, .ref aFc)]) hx hb dX5_isSo_12 rfl hl (by decide) rfl (fun ls hl => ?_)
  refine lv_iload_n hx hb dX5_isSo_13 rfl (lv_at hl 2 rfl) ?_
  refine lv_bipush (v := 100) hx hb dX5_isSo_14 (by decide) ?_
  refine lv_idiv hx hb dX5_isSo_16 (by decide) ?_
  refine qi_as (y := nI (k / 100)) (pk_div (a := k) (d := 100) (by omega) (by omega) (by omega)) ?_
  refine lv_iconst (v := 3) hx hb dX5_isSo_17 (by decide) ?_
  refine lv_irem hx hb dX5_isSo_18 (by decide) ?_
  refine qi_as (y := nI ((k / 100) % 3)) (pk_rem (a := k / 100) (d := 3) (by omega) (by omega) (by omega)) ?_
  by_cases c_1_0 : nI ((k / 100) % 3) = 0
  · skip
    refine lv_lookup (tgt := 44) hx hb dX5_isSo_19 (by decide) (by rw [c_1_0]; first | done | rfl) (by decide) ?_
    refine lv_iload_n hx hb dX5_isSo_44 rfl (lv_at hl 1 rfl) ?_
    refine lv_iload_n hx hb dX5_isSo_45 rfl (lv_at hl 0 rfl) ?_
    refine lv_icmp_ge (tgt := 53) hx hb dX5_isSo_46 (by decide) (fun c_2 => ?_) (fun c_2 => ?_)
    · skip
      refine lv_iconst (v := 0) hx hb dX5_isSo_53 (by decide) ?_
      rw [hQ]
      exact W.zret (v := 0) hx hb hr rfl (fun tQ htQ hWQ => ⟨0, rfl, by first | exact ts_a1 (sw3_0 (by assumption)) (by assumption) | exact ts_a0 (sw3_0 (by assumption)) (by assumption) | exact ts_b1 (sw3_m (by assumption)) (sw3_1 (by assumption)) (by assumption) | exact ts_b0 (sw3_m (by assumption)) (sw3_1 (by assumption)) (by assumption) | exact ts_c1 (sw3_m (by assumption)) (sw3_n (by assumption)) (by assumption) | exact ts_c0 (sw3_m (by assumption)) (sw3_n (by assumption)) (by assumption), by rw [htQ]⟩) (fun q hq => absurd hq List.not_mem_nil) dX5_isSo_54
    · skip
      refine lv_iconst (v := 1) hx hb dX5_isSo_49 (by decide) ?_
      refine lv_goto (tgt := 54) hx hb dX5_isSo_50 (by decide) ?_
      rw [hQ]
      exact W.zret (v := 1) hx hb hr rfl (fun tQ htQ hWQ => ⟨1, rfl, by first | exact ts_a1 (sw3_0 (by assumption)) (by assumption) | exact ts_a0 (sw3_0 (by assumption)) (by assumption) | exact ts_b1 (sw3_m (by assumption)) (sw3_1 (by assumption)) (by assumption) | exact ts_b0 (sw3_m (by assumption)) (sw3_1 (by assumption)) (by assumption) | exact ts_c1 (sw3_m (by assumption)) (sw3_n (by assumption)) (by assumption) | exact ts_c0 (sw3_m (by assumption)) (sw3_n (by assumption)) (by assumption), by rw [htQ]⟩) (fun q hq => absurd hq List.not_mem_nil) dX5_isSo_54
  by_cases c_1_1 : nI ((k / 100) % 3) = 1
  · skip
    refine lv_lookup (tgt := 55) hx hb dX5_isSo_19 (by decide) (by rw [c_1_1]; first | done | rfl) (by decide) ?_
    refine lv_iload_n hx hb dX5_isSo_55 rfl (lv_at hl 1 rfl) ?_
    refine lv_iload_n hx hb dX5_isSo_56 rfl (lv_at hl 0 rfl) ?_
    refine lv_icmp_ne (tgt := 64) hx hb dX5_isSo_57 (by decide) (fun c_3 => ?_) (fun c_3 => ?_)
    · skip
      refine lv_iconst (v := 0) hx hb dX5_isSo_64 (by decide) ?_
      rw [hQ]
      exact W.zret (v := 0) hx hb hr rfl (fun tQ htQ hWQ => ⟨0, rfl, by first | exact ts_a1 (sw3_0 (by assumption)) (by assumption) | exact ts_a0 (sw3_0 (by assumption)) (by assumption) | exact ts_b1 (sw3_m (by assumption)) (sw3_1 (by assumption)) (by assumption) | exact ts_b0 (sw3_m (by assumption)) (sw3_1 (by assumption)) (by assumption) | exact ts_c1 (sw3_m (by assumption)) (sw3_n (by assumption)) (by assumption) | exact ts_c0 (sw3_m (by assumption)) (sw3_n (by assumption)) (by assumption), by rw [htQ]⟩) (fun q hq => absurd hq List.not_mem_nil) dX5_isSo_65
    · skip
      refine lv_iconst (v := 1) hx hb dX5_isSo_60 (by decide) ?_
      refine lv_goto (tgt := 65) hx hb dX5_isSo_61 (by decide) ?_
      rw [hQ]
      exact W.zret (v := 1) hx hb hr rfl (fun tQ htQ hWQ => ⟨1, rfl, by first | exact ts_a1 (sw3_0 (by assumption)) (by assumption) | exact ts_a0 (sw3_0 (by assumption)) (by assumption) | exact ts_b1 (sw3_m (by assumption)) (sw3_1 (by assumption)) (by assumption) | exact ts_b0 (sw3_m (by assumption)) (sw3_1 (by assumption)) (by assumption) | exact ts_c1 (sw3_m (by assumption)) (sw3_n (by assumption)) (by assumption) | exact ts_c0 (sw3_m (by assumption)) (sw3_n (by assumption)) (by assumption), by rw [htQ]⟩) (fun q hq => absurd hq List.not_mem_nil) dX5_isSo_65
  refine lv_lookup (tgt := 66) hx hb dX5_isSo_19 (by decide) (so_out c_1_0 c_1_1) (by decide) ?_
  refine lv_iload_n hx hb dX5_isSo_66 rfl (lv_at hl 1 rfl) ?_
  refine lv_iload_n hx hb dX5_isSo_67 rfl (lv_at hl 0 rfl) ?_
  refine lv_icmp_le (tgt := 75) hx hb dX5_isSo_68 (by decide) (fun c_4 => ?_) (fun c_4 => ?_)
  · skip
    refine lv_iconst (v := 0) hx hb dX5_isSo_75 (by decide) ?_
    rw [hQ]
    exact W.zret (v := 0) hx hb hr rfl (fun tQ htQ hWQ => ⟨0, rfl, by first | exact ts_a1 (sw3_0 (by assumption)) (by assumption) | exact ts_a0 (sw3_0 (by assumption)) (by assumption) | exact ts_b1 (sw3_m (by assumption)) (sw3_1 (by assumption)) (by assumption) | exact ts_b0 (sw3_m (by assumption)) (sw3_1 (by assumption)) (by assumption) | exact ts_c1 (sw3_m (by assumption)) (sw3_n (by assumption)) (by assumption) | exact ts_c0 (sw3_m (by assumption)) (sw3_n (by assumption)) (by assumption), by rw [htQ]⟩) (fun q hq => absurd hq List.not_mem_nil) dX5_isSo_76
  · skip
    refine lv_iconst (v := 1) hx hb dX5_isSo_71 (by decide) ?_
    refine lv_goto (tgt := 76) hx hb dX5_isSo_72 (by decide) ?_
    rw [hQ]
    exact W.zret (v := 1) hx hb hr rfl (fun tQ htQ hWQ => ⟨1, rfl, by first | exact ts_a1 (sw3_0 (by assumption)) (by assumption) | exact ts_a0 (sw3_0 (by assumption)) (by assumption) | exact ts_b1 (sw3_m (by assumption)) (sw3_1 (by assumption)) (by assumption) | exact ts_b0 (sw3_m (by assumption)) (sw3_1 (by assumption)) (by assumption) | exact ts_c1 (sw3_m (by assumption)) (sw3_n (by assumption)) (by assumption) | exact ts_c0 (sw3_m (by assumption)) (sw3_n (by assumption)) (by assumption), by rw [htQ]⟩) (fun q hq => absurd hq List.not_mem_nil) dX5_isSo_76

theorem kc_holds_0 : (.fieldLink RX5 22 "MistHeaps$Hill" "ends" "[I" : Cond) ∈ wsX5_holds := kc_of 119 rfl rfl rfl
theorem kc_holds_1 : ∀ w ∈ wsX50, w ∈ wsX5_holds := fun w h => List.mem_cons_of_mem _ (gin_wsX50 w h)
theorem kc_holds_2 : (.fieldLink RX5 25 "MistHeaps$Hill" "codes" "[I" : Cond) ∈ wsX5_holds := kc_of 120 rfl rfl rfl
set_option maxHeartbeats 4000000 in
set_option maxRecDepth 100000 in
theorem c_holds (l : Launch) (dC : Nat → ClassId) (dI : Nat → Nat → Nat)  (aHl : Nat) (aFc : Nat) (bW : Nat) (bA : Nat) (bE : Nat) (bC : Nat) (cl : Nat) (j : Nat) (sg : Int32) (cdd : Int32) (szz : Int32) (att : Int32) (nmb : Int32) (cFc : ClassId) (cbW : ClassId) (cbA : ClassId) (cbE : ClassId) (cbC : ClassId) (fFc : Nat → Int32) (fbW : Nat → Int32) (fbA : Nat → Int32) (fbE : Nat → Int32) (fbC : Nat → Int32) (tpv : Value) (cz : List pCla) (hj : j < 10) (hjc : j < cl) (hj2 : ¬ (cz.getD j dfC).1 = 2) (zcl : cl ≤ 10) (zE : ∀ k0, k0 < 10 → ∃ e0 : Nat, e0 ≤ 100 ∧ fbE k0 = nI e0) (zC : ∀ k0, k0 < 100 → okC (fbC k0)) (zHC : HC cl sg fbW fbA fbE fbC cz ∧ WfC cz) : Met l yX5_holds wsX5_holds ({ frames := 1, cells := 0, slots := 0, locals := 23 } : Room) (va_Pc [.ref aHl, .int (nI j), .ref aFc] (fun U => va_P (dC, dI) vwCl [(zaI aFc cFc 6 fFc)] U.heap ∧ va_K (dC, dI) vwCl [(cFc, .int)] U ∧ Fz dC dI [(zo7iirrrriviii aHl sg (nI cl) bW bA bE bC cdd tpv szz att nmb), (zaI bW cbW 10 fbW), (zaI bA cbA 10 fbA), (zaI bE cbE 10 fbE), (zaI bC cbC 100 fbC)] [(cbW, .int), (cbA, .int), (cbE, .int), (cbC, .int)] (fun _ => False) U)) (vp_Si (fun r => r = bI (hld fFc (cz.getD j dfC).2.2))) 0 0 (fun _ => False) := by
  refine met_ofQ (cc := cX5_holds) (maxL := 7) (ret := (some .boolean)) (by decide) rfl ?_
  intro p e s m args below meth c s₁ Q B hml hv hQ
  obtain ⟨rfl, hP, hK, hZ⟩ := hv
  have hx := B.exec
  have hb := B.bytes
  have hr := B.returns
  have hts := atoms_spec (ws := wsX5_holds) B.pre
  have hown : s.vm.findClass RX5 = some m.cls := findClass_of_methodNamed B.named
  have hlocks := B.notSynchronized
  obtain ⟨A, hAe⟩ : ∃ A : Nat → Prop, A = fun _ => False := ⟨_, rfl⟩
  rw [← hAe] at hQ hZ
  have hS : va_S A s.heap s.heap [] := va_S.rf
  have hl := lv_entry [.ref aHl, .int (nI j), .ref aFc] (n := 7) (Nat.le_of_ble_eq_true rfl)
  rw [lg_entry_eq]
  generalize (lg_sl [.ref aHl, .int (nI j), .ref aFc] ++ List.replicate (7 - (lg_sl [.ref aHl, .int (nI j), .ref aFc]).length) Slot.unset).toArray = ls at hl ⊢
  generalize hag : ([.ref aHl, .int (nI j), .ref aFc] : List Value).toArray = args at hts hQ ⊢
  have hl : lv_has ls 7 [(0, .ref aHl), (1, .int (nI j)), (2, .ref aFc)] := hl
  obtain ⟨a9, g0, g1, g2, g3, g4, hGd⟩ := hd_pre zHC hjc hj2 fFc
  refine lv_iload_n hx hb dX5_holds_0 rfl (lv_at hl 1 rfl) ?_
  have J1 : ∀ v_1 : Int32, (v_1 = nI a9) → W p l e ({ frames := 1, cells := 0, slots := 0, locals := 23 } : Room) s m args below meth c s.heap [] 0 0 Q (F0 m 16 ls [.int v_1]) := by
    intro v_1 hv_2
    subst hv_2
    refine lv_istore_n (lv' := [(3, .int (nI a9)), (0, .ref aHl), (1, .int (nI j)), (2, .ref aFc)]) hx hb dX5_holds_16 rfl hl (by decide) rfl (fun ls hl => ?_)
    refine lv_iconst (v := 0) hx hb dX5_holds_17 (by decide) ?_
    refine lv_istore (lv' := [(4, .int 0), (3, .int (nI a9)), (0, .ref aHl), (1, .int (nI j)), (2, .ref aFc)]) hx hb dX5_holds_18 hl (by decide) rfl (fun ls hl => ?_)
    refine lv_iload_n hx hb dX5_holds_20 rfl (lv_at hl 1 rfl) ?_
    refine lv_istore (lv' := [(5, .int (nI a9)), (4, .int 0), (3, .int (nI a9)), (0, .ref aHl), (1, .int (nI j)), (2, .ref aFc)]) hx hb dX5_holds_21 hl (by decide) rfl (fun ls hl => ?_)
    have L23 : ∀ (nF : Nat) (t : Nat) (q : Int32), (cz.getD j dfC).2.2.length - t < nF → (t ≤ (cz.getD j dfC).2.2.length) → (q = prn fFc 0 ((cz.getD j dfC).2.2.take t)) → ∀ (ls : Array Slot), lv_has ls 7 [(0, .ref aHl), (1, .int (nI j)), (2, .ref aFc), (4, .int q), (5, .int (nI (a9 + t)))] → W p l e ({ frames := 1, cells := 0, slots := 0, locals := 23 } : Room) s m args below meth c s.heap [] 0 0 Q (F0 m 23 ls []) := by
      intro nF
      induction nF with
      | zero => intro t q hm; exact absurd hm (Nat.not_lt_zero _)
      | succ nF ih23 =>
        intro t q hm ht hq9 ls hl
        refine lv_iload hx hb dX5_holds_23 (lv_at hl 4 rfl) ?_
        refine lv_aload_n hx hb dX5_holds_25 rfl (lv_at hl 0 rfl) ?_
        refine va_get (D := (dC, dI)) (ci := 7) (v := .ref bE) (C := RX5) (T := TX5) (N := 11) hx hb hts kc_holds_1 hown hZ.2.1 (hZ.P hS) 0 rfl rfl 4 (by decide) (hts (.fieldLink RX5 22 "MistHeaps$Hill" "ends" "[I") kc_holds_0) (fun _ h9 => h9) rfl dX5_holds_26 ?_
        refine lv_iload_n hx hb dX5_holds_29 rfl (lv_at hl 1 rfl) ?_
        refine va_iald hx hb hZ.2.1 (hZ.P hS) 3 2 rfl rfl (vp_in_nI (n := j) (N := 10) (by omega) (by omega)) dX5_holds_30 ?_
        refine qi_as (y := nI (a9 + (cz.getD j dfC).2.2.length)) ((show fbE (nI j : Int32).toNatClampNeg = fbE j from by rw [nI_clamp (by omega)]).trans (g2)) ?_
        refine lv_icmp_ge (tgt := 128) hx hb dX5_holds_31 (by decide) (fun c_3 => ?_) (fun c_3 => ?_)
        · skip
          have c_3 : (a9 + (cz.getD j dfC).2.2.length) ≤ (a9 + t) := (nI_leI (a := (a9 + (cz.getD j dfC).2.2.length)) (b := (a9 + t)) (by omega) (by omega)).mp c_3
          refine lv_iload hx hb dX5_holds_128 (lv_at hl 3 rfl) ?_
          refine lv_iconst (v := 1) hx hb dX5_holds_130 (by decide) ?_
          refine lv_iand hx hb dX5_holds_131 ?_
          refine lv_iconst (v := 1) hx hb dX5_holds_132 (by decide) ?_
          refine lv_icmp_ne (tgt := 140) hx hb dX5_holds_133 (by decide) (fun c_4 => ?_) (fun c_4 => ?_)
          · skip
            refine lv_iconst (v := 0) hx hb dX5_holds_140 (by decide) ?_
            rw [hQ]
            exact W.zret (v := 0) hx hb hr rfl (fun tQ htQ hWQ => ⟨0, rfl, by first | exact hd_1 hGd hq9 (by omega) (by assumption) | exact hd_0 hGd hq9 (by omega) (by assumption), by rw [htQ]⟩) (fun q hq => absurd hq List.not_mem_nil) dX5_holds_141
          · skip
            refine lv_iconst (v := 1) hx hb dX5_holds_136 (by decide) ?_
            refine lv_goto (tgt := 141) hx hb dX5_holds_137 (by decide) ?_
            rw [hQ]
            exact W.zret (v := 1) hx hb hr rfl (fun tQ htQ hWQ => ⟨1, rfl, by first | exact hd_1 hGd hq9 (by omega) (by assumption) | exact hd_0 hGd hq9 (by omega) (by assumption), by rw [htQ]⟩) (fun q hq => absurd hq List.not_mem_nil) dX5_holds_141
        · skip
          have c_3 : ¬ (a9 + (cz.getD j dfC).2.2.length) ≤ (a9 + t) := fun q => c_3 ((nI_leI (a := (a9 + (cz.getD j dfC).2.2.length)) (b := (a9 + t)) (by omega) (by omega)).mpr q)
          refine lv_aload_n hx hb dX5_holds_34 rfl (lv_at hl 0 rfl) ?_
          refine va_get (D := (dC, dI)) (ci := 7) (v := .ref bC) (C := RX5) (T := TX5) (N := 11) hx hb hts kc_holds_1 hown hZ.2.1 (hZ.P hS) 0 rfl rfl 5 (by decide) (hts (.fieldLink RX5 25 "MistHeaps$Hill" "codes" "[I") kc_holds_2) (fun _ h9 => h9) rfl dX5_holds_35 ?_
          refine lv_iload hx hb dX5_holds_38 (lv_at hl 4 rfl) ?_
          refine va_iald hx hb hZ.2.1 (hZ.P hS) 4 3 rfl rfl (vp_in_nI (n := a9 + t) (N := 100) (by omega) (by omega)) dX5_holds_40 ?_
          obtain ⟨x0, ex⟩ : ∃ q : Int32, q = fbC (a9 + t) := ⟨_, rfl⟩
          obtain ⟨tk, etk⟩ : ∃ q : Nat, q = (cz.getD j dfC).2.2.getD t 0 := ⟨_, rfl⟩
          have ext : x0 = ccd tk := by rw [ex, etk]; exact g3 t (by omega)
          have htk : tOk tk := by rw [etk]; obtain ⟨b9, g9⟩ := hGd; exact g9.1 _ (gd_mem (by omega))
          refine qi_as (y := x0) ((show fbC (nI (a9 + t) : Int32).toNatClampNeg = fbC (a9 + t) from by rw [nI_clamp (by omega)]).trans (ex.symm)) ?_
          refine lv_istore (lv' := [(6, .int x0), (0, .ref aHl), (1, .int (nI j)), (2, .ref aFc), (4, .int q), (5, .int (nI (a9 + t)))]) hx hb dX5_holds_41 hl (by decide) rfl (fun ls hl => ?_)
          rcases htk with htk | rfl | rfl | rfl
          · skip
            obtain rfl : x0 = nI tk := ext.trans (if_pos htk)
            refine lv_iload hx hb dX5_holds_43 (lv_at hl 0 rfl) ?_
            refine lv_iconst (v := (-1)) hx hb dX5_holds_45 (by decide) ?_
            refine lv_icmp_ne (tgt := 58) hx hb dX5_holds_46 (by decide) (fun c_5 => ?_) (fun c_5 => absurd c_5 (nI_ngv (by omega) (by decide)))
            refine lv_iload hx hb dX5_holds_58 (lv_at hl 0 rfl) ?_
            refine lv_bipush (v := (-2)) hx hb dX5_holds_60 (by decide) ?_
            refine lv_icmp_ne (tgt := 80) hx hb dX5_holds_62 (by decide) (fun c_6 => ?_) (fun c_6 => absurd c_6 (nI_ngv (by omega) (by decide)))
            refine lv_iload hx hb dX5_holds_80 (lv_at hl 0 rfl) ?_
            refine lv_bipush (v := (-3)) hx hb dX5_holds_82 (by decide) ?_
            refine lv_icmp_ne (tgt := 101) hx hb dX5_holds_84 (by decide) (fun c_7 => ?_) (fun c_7 => absurd c_7 (nI_ngv (by omega) (by decide)))
            refine lv_iload hx hb dX5_holds_101 (lv_at hl 4 rfl) ?_
            refine lv_iconst (v := 1) hx hb dX5_holds_103 (by decide) ?_
            refine lv_ishl hx hb dX5_holds_104 ?_
            refine lv_iload hx hb dX5_holds_105 (lv_at hl 0 rfl) ?_
            refine lv_aload_n hx hb dX5_holds_107 rfl (lv_at hl 3 rfl) ?_
            have hPc := hP.sub (ws' := [(zaI aFc cFc 6 fFc)]) [0] rfl
            have hKc := hK.sub (tys' := [(cFc, .int)]) [0] rfl
            refine vp_callSi (va_runS (As := [.int (nI tk), .ref aFc]) (rest := [.int (q <<< (1 &&& 31))]) ⟨hx, hb, hml, hown, hts⟩ (c_isSo l dC dI aFc tk cFc fFc (htk)) (va_cwS 2 hts gX5_holds_X5_isSo rfl rfl rfl hd_yX5_isSo.2 ⟨Nat.le_of_ble_eq_true rfl, Nat.le_of_ble_eq_true rfl⟩) ⟨fun a U g mk q => by obtain ⟨q0, qP, qK⟩ := q; exact ⟨q0, qP, va_K.moved (u := U) (U := U.calling g mk a) (Vm.Alike.refl U.vm) qK⟩, fun U hU hW => ⟨rfl, by rw [hU]; exact hPc, va_K.moved hW.alike hKc⟩⟩ rfl rfl hl.1 rfl (lv_room (Nat.le_of_ble_eq_true rfl)) dX5_holds_108 ⟨Nat.le_of_ble_eq_true rfl, Nat.le_of_ble_eq_true rfl⟩).run (fun r_8 hw_9 => ?_)
            rcases hb_10 : tsB fFc tk with _ | _
            · skip
              obtain rfl : r_8 = 0 := by rw [hw_9, hb_10]; rfl
              refine lv_if_eq (tgt := 118) hx hb dX5_holds_111 (by decide) (fun _ => ?_) (fun c_11 => absurd c_11 (by decide))
              refine lv_iconst (v := 0) hx hb dX5_holds_118 (by decide) ?_
              refine lv_ior hx hb dX5_holds_119 ?_
              refine lv_istore (lv' := [(4, .int ((q <<< (1 &&& 31)) ||| 0)), (6, .int (nI tk)), (0, .ref aHl), (1, .int (nI j)), (2, .ref aFc), (5, .int (nI (a9 + t)))]) hx hb dX5_holds_120 hl (by decide) rfl (fun ls hl => ?_)
              refine lv_iinc (v := nI (a9 + t + 1)) (lv' := [(5, .int (nI (a9 + t + 1))), (4, .int ((q <<< (1 &&& 31)) ||| 0)), (6, .int (nI tk)), (0, .ref aHl), (1, .int (nI j)), (2, .ref aFc)]) hx hb dX5_holds_122 hl (k := 5) rfl (nI_add (a9 + t) 1) (by decide) rfl (fun ls hl => ?_)
              refine lv_goto (tgt := 23) hx hb dX5_holds_125 (by decide) ?_
              exact ih23 (t + 1) ((q <<< (1 &&& 31)) ||| 0) (by omega) (by omega) (pr_st hq9 (by omega) etk (ps_0 htk hb_10)) ls (lv_sub hl [3, 4, 5, 1, 0] rfl)
            · skip
              obtain rfl : r_8 = 1 := by rw [hw_9, hb_10]; rfl
              refine lv_if_eq (tgt := 118) hx hb dX5_holds_111 (by decide) (fun c_12 => absurd c_12 (by decide)) (fun _ => ?_)
              refine lv_iconst (v := 1) hx hb dX5_holds_114 (by decide) ?_
              refine lv_goto (tgt := 119) hx hb dX5_holds_115 (by decide) ?_
              refine lv_ior hx hb dX5_holds_119 ?_
              refine lv_istore (lv' := [(4, .int ((q <<< (1 &&& 31)) ||| 1)), (6, .int (nI tk)), (0, .ref aHl), (1, .int (nI j)), (2, .ref aFc), (5, .int (nI (a9 + t)))]) hx hb dX5_holds_120 hl (by decide) rfl (fun ls hl => ?_)
              refine lv_iinc (v := nI (a9 + t + 1)) (lv' := [(5, .int (nI (a9 + t + 1))), (4, .int ((q <<< (1 &&& 31)) ||| 1)), (6, .int (nI tk)), (0, .ref aHl), (1, .int (nI j)), (2, .ref aFc)]) hx hb dX5_holds_122 hl (k := 5) rfl (nI_add (a9 + t) 1) (by decide) rfl (fun ls hl => ?_)
              refine lv_goto (tgt := 23) hx hb dX5_holds_125 (by decide) ?_
              exact ih23 (t + 1) ((q <<< (1 &&& 31)) ||| 1) (by omega) (by omega) (pr_st hq9 (by omega) etk (ps_1 htk hb_10)) ls (lv_sub hl [3, 4, 5, 1, 0] rfl)
          · skip
            have e8 : x0 = (-1) := ext.trans (by decide)
            subst e8
            refine lv_iload hx hb dX5_holds_43 (lv_at hl 0 rfl) ?_
            refine lv_iconst (v := (-1)) hx hb dX5_holds_45 (by decide) ?_
            refine lv_icmp_ne (tgt := 58) hx hb dX5_holds_46 (by decide) (fun c_13 => absurd c_13 (by decide)) (fun _ => ?_)
            refine lv_iload hx hb dX5_holds_49 (lv_at hl 4 rfl) ?_
            refine lv_iconst (v := 1) hx hb dX5_holds_51 (by decide) ?_
            refine lv_ixor hx hb dX5_holds_52 ?_
            refine lv_istore (lv' := [(4, .int (q ^^^ 1)), (6, .int (-1)), (0, .ref aHl), (1, .int (nI j)), (2, .ref aFc), (5, .int (nI (a9 + t)))]) hx hb dX5_holds_53 hl (by decide) rfl (fun ls hl => ?_)
            refine lv_goto (tgt := 122) hx hb dX5_holds_55 (by decide) ?_
            refine lv_iinc (v := nI (a9 + t + 1)) (lv' := [(5, .int (nI (a9 + t + 1))), (4, .int (q ^^^ 1)), (6, .int (-1)), (0, .ref aHl), (1, .int (nI j)), (2, .ref aFc)]) hx hb dX5_holds_122 hl (k := 5) rfl (nI_add (a9 + t) 1) (by decide) rfl (fun ls hl => ?_)
            refine lv_goto (tgt := 23) hx hb dX5_holds_125 (by decide) ?_
            exact ih23 (t + 1) (q ^^^ 1) (by omega) (by omega) (pr_st hq9 (by omega) etk (ps_n)) ls (lv_sub hl [3, 4, 5, 1, 0] rfl)
          · skip
            have e8 : x0 = (-2) := ext.trans (by decide)
            subst e8
            refine lv_iload hx hb dX5_holds_43 (lv_at hl 0 rfl) ?_
            refine lv_iconst (v := (-1)) hx hb dX5_holds_45 (by decide) ?_
            refine lv_icmp_ne (tgt := 58) hx hb dX5_holds_46 (by decide) (fun _ => ?_) (fun c_14 => absurd c_14 (by decide))
            refine lv_iload hx hb dX5_holds_58 (lv_at hl 0 rfl) ?_
            refine lv_bipush (v := (-2)) hx hb dX5_holds_60 (by decide) ?_
            refine lv_icmp_ne (tgt := 80) hx hb dX5_holds_62 (by decide) (fun c_15 => absurd c_15 (by decide)) (fun _ => ?_)
            refine lv_iload hx hb dX5_holds_65 (lv_at hl 4 rfl) ?_
            refine lv_iconst (v := 1) hx hb dX5_holds_67 (by decide) ?_
            refine lv_ishr hx hb dX5_holds_68 ?_
            refine lv_iload hx hb dX5_holds_69 (lv_at hl 4 rfl) ?_
            refine lv_bipush (v := (-2)) hx hb dX5_holds_71 (by decide) ?_
            refine lv_ior hx hb dX5_holds_73 ?_
            refine lv_iand hx hb dX5_holds_74 ?_
            refine lv_istore (lv' := [(4, .int ((q >>> (1 &&& 31)) &&& (q ||| (-2)))), (6, .int (-2)), (0, .ref aHl), (1, .int (nI j)), (2, .ref aFc), (5, .int (nI (a9 + t)))]) hx hb dX5_holds_75 hl (by decide) rfl (fun ls hl => ?_)
            refine lv_goto (tgt := 122) hx hb dX5_holds_77 (by decide) ?_
            refine lv_iinc (v := nI (a9 + t + 1)) (lv' := [(5, .int (nI (a9 + t + 1))), (4, .int ((q >>> (1 &&& 31)) &&& (q ||| (-2)))), (6, .int (-2)), (0, .ref aHl), (1, .int (nI j)), (2, .ref aFc)]) hx hb dX5_holds_122 hl (k := 5) rfl (nI_add (a9 + t) 1) (by decide) rfl (fun ls hl => ?_)
            refine lv_goto (tgt := 23) hx hb dX5_holds_125 (by decide) ?_
            exact ih23 (t + 1) ((q >>> (1 &&& 31)) &&& (q ||| (-2))) (by omega) (by omega) (pr_st hq9 (by omega) etk (ps_a)) ls (lv_sub hl [3, 4, 5, 1, 0] rfl)
          · skip
            have e8 : x0 = (-3) := ext.trans (by decide)
            subst e8
            refine lv_iload hx hb dX5_holds_43 (lv_at hl 0 rfl) ?_
            refine lv_iconst (v := (-1)) hx hb dX5_holds_45 (by decide) ?_
            refine lv_icmp_ne (tgt := 58) hx hb dX5_holds_46 (by decide) (fun _ => ?_) (fun c_16 => absurd c_16 (by decide))
            refine lv_iload hx hb dX5_holds_58 (lv_at hl 0 rfl) ?_
            refine lv_bipush (v := (-2)) hx hb dX5_holds_60 (by decide) ?_
            refine lv_icmp_ne (tgt := 80) hx hb dX5_holds_62 (by decide) (fun _ => ?_) (fun c_17 => absurd c_17 (by decide))
            refine lv_iload hx hb dX5_holds_80 (lv_at hl 0 rfl) ?_
            refine lv_bipush (v := (-3)) hx hb dX5_holds_82 (by decide) ?_
            refine lv_icmp_ne (tgt := 101) hx hb dX5_holds_84 (by decide) (fun c_18 => absurd c_18 (by decide)) (fun _ => ?_)
            refine lv_iload hx hb dX5_holds_87 (lv_at hl 4 rfl) ?_
            refine lv_iconst (v := 1) hx hb dX5_holds_89 (by decide) ?_
            refine lv_ishr hx hb dX5_holds_90 ?_
            refine lv_iload hx hb dX5_holds_91 (lv_at hl 4 rfl) ?_
            refine lv_iconst (v := 1) hx hb dX5_holds_93 (by decide) ?_
            refine lv_iand hx hb dX5_holds_94 ?_
            refine lv_ior hx hb dX5_holds_95 ?_
            refine lv_istore (lv' := [(4, .int ((q >>> (1 &&& 31)) ||| (q &&& 1))), (6, .int (-3)), (0, .ref aHl), (1, .int (nI j)), (2, .ref aFc), (5, .int (nI (a9 + t)))]) hx hb dX5_holds_96 hl (by decide) rfl (fun ls hl => ?_)
            refine lv_goto (tgt := 122) hx hb dX5_holds_98 (by decide) ?_
            refine lv_iinc (v := nI (a9 + t + 1)) (lv' := [(5, .int (nI (a9 + t + 1))), (4, .int ((q >>> (1 &&& 31)) ||| (q &&& 1))), (6, .int (-3)), (0, .ref aHl), (1, .int (nI j)), (2, .ref aFc)]) hx hb dX5_holds_122 hl (k := 5) rfl (nI_add (a9 + t) 1) (by decide) rfl (fun ls hl => ?_)
            refine lv_goto (tgt := 23) hx hb dX5_holds_125 (by decide) ?_
            exact ih23 (t + 1) ((q >>> (1 &&& 31)) ||| (q &&& 1)) (by omega) (by omega) (pr_st hq9 (by omega) etk (ps_o)) ls (lv_sub hl [3, 4, 5, 1, 0] rfl)
    exact L23 _ (0) (0) (Nat.lt_succ_self _) (by omega) (rfl) ls (lv_sub hl [3, 4, 5, 1, 0] rfl)
  refine lv_if_ne (tgt := 8) hx hb dX5_holds_1 (by decide) (fun c_19 => ?_) (fun c_19 => ?_)
  · skip
    have c_19 : ¬ j = 0 := fun q => c_19 ((nI_eq (a := j) (b := 0) (by omega) (by omega)).mpr q)
    refine lv_aload_n hx hb dX5_holds_8 rfl (lv_at hl 0 rfl) ?_
    refine va_get (D := (dC, dI)) (ci := 7) (v := .ref bE) (C := RX5) (T := TX5) (N := 11) hx hb hts kc_holds_1 hown hZ.2.1 (hZ.P hS) 0 rfl rfl 4 (by decide) (hts (.fieldLink RX5 22 "MistHeaps$Hill" "ends" "[I") kc_holds_0) (fun _ h9 => h9) rfl dX5_holds_9 ?_
    refine lv_iload_n hx hb dX5_holds_12 rfl (lv_at hl 1 rfl) ?_
    refine lv_iconst (v := 1) hx hb dX5_holds_13 (by decide) ?_
    refine lv_isub hx hb dX5_holds_14 ?_
    refine qi_as (y := nI (j - 1)) (pk_sub (a := j) (b := 1) (by omega)) ?_
    refine va_iald hx hb hZ.2.1 (hZ.P hS) 3 2 rfl rfl (vp_in_nI (n := j - 1) (N := 10) (by omega) (by omega)) dX5_holds_15 ?_
    refine qi_as (y := nI a9) ((show fbE (nI (j - 1) : Int32).toNatClampNeg = fbE (j - 1) from by rw [nI_clamp (by omega)]).trans (g1 (by omega))) ?_
    exact J1 (nI a9) (rfl)
  · skip
    have c_19 : j = 0 := (nI_eq (a := j) (b := 0) (by omega) (by omega)).mp c_19
    refine lv_iconst (v := 0) hx hb dX5_holds_4 (by decide) ?_
    refine lv_goto (tgt := 16) hx hb dX5_holds_5 (by decide) ?_
    exact J1 0 (by rw [g0 (by omega)]; rfl)

theorem kc_total_0 : (.fieldLink RX5 59 "MistHeaps$Hill" "clauses" "I" : Cond) ∈ wsX5_total := kc_of 116 rfl rfl rfl
theorem kc_total_1 : ∀ w ∈ wsX50, w ∈ wsX5_total := fun w h => List.mem_cons_of_mem _ (gin_wsX50 w h)
theorem kc_total_2 : (.fieldLink RX5 15 "MistHeaps$Hill" "words" "[I" : Cond) ∈ wsX5_total := kc_of 117 rfl rfl rfl
theorem kc_total_3 : (.fieldLink RX5 19 "MistHeaps$Hill" "amounts" "[I" : Cond) ∈ wsX5_total := kc_of 118 rfl rfl rfl
set_option maxHeartbeats 4000000 in
set_option maxRecDepth 100000 in
theorem c_total (l : Launch) (dC : Nat → ClassId) (dI : Nat → Nat → Nat)  (aHl : Nat) (aFc : Nat) (bW : Nat) (bA : Nat) (bE : Nat) (bC : Nat) (cl : Nat) (sg : Int32) (cdd : Int32) (szz : Int32) (att : Int32) (nmb : Int32) (cFc : ClassId) (cbW : ClassId) (cbA : ClassId) (cbE : ClassId) (cbC : ClassId) (fFc : Nat → Int32) (fbW : Nat → Int32) (fbA : Nat → Int32) (fbE : Nat → Int32) (fbC : Nat → Int32) (tpv : Value) (cz : List pCla) (w0 : Nat) (hw0 : w0 < 4 ∧ ¬ w0 = 2) (zcl : cl ≤ 10) (zE : ∀ k0, k0 < 10 → ∃ e0 : Nat, e0 ≤ 100 ∧ fbE k0 = nI e0) (zC : ∀ k0, k0 < 100 → okC (fbC k0)) (zHC : HC cl sg fbW fbA fbE fbC cz ∧ WfC cz) : Met l yX5_total wsX5_total ({ frames := 2, cells := 0, slots := 0, locals := 49 } : Room) (va_Pc [.ref aHl, .int (nI w0), .ref aFc] (fun U => va_P (dC, dI) vwCl [(zaI aFc cFc 6 fFc)] U.heap ∧ va_K (dC, dI) vwCl [(cFc, .int)] U ∧ Fz dC dI [(zo7iirrrriviii aHl sg (nI cl) bW bA bE bC cdd tpv szz att nmb), (zaI bW cbW 10 fbW), (zaI bA cbA 10 fbA), (zaI bE cbE 10 fbE), (zaI bC cbC 100 fbC)] [(cbW, .int), (cbA, .int), (cbE, .int), (cbC, .int)] (fun _ => False) U)) (vp_Si (fun r => r = tot fFc w0 cz)) 0 0 (fun _ => False) := by
  refine met_ofQ (cc := cX5_total) (maxL := 5) (ret := (some .int)) (by decide) rfl ?_
  intro p e s m args below meth c s₁ Q B hml hv hQ
  obtain ⟨rfl, hP, hK, hZ⟩ := hv
  have hx := B.exec
  have hb := B.bytes
  have hr := B.returns
  have hts := atoms_spec (ws := wsX5_total) B.pre
  have hown : s.vm.findClass RX5 = some m.cls := findClass_of_methodNamed B.named
  have hlocks := B.notSynchronized
  obtain ⟨A, hAe⟩ : ∃ A : Nat → Prop, A = fun _ => False := ⟨_, rfl⟩
  rw [← hAe] at hQ hZ
  have hS : va_S A s.heap s.heap [] := va_S.rf
  have hl := lv_entry [.ref aHl, .int (nI w0), .ref aFc] (n := 5) (Nat.le_of_ble_eq_true rfl)
  rw [lg_entry_eq]
  generalize (lg_sl [.ref aHl, .int (nI w0), .ref aFc] ++ List.replicate (5 - (lg_sl [.ref aHl, .int (nI w0), .ref aFc]).length) Slot.unset).toArray = ls at hl ⊢
  generalize hag : ([.ref aHl, .int (nI w0), .ref aFc] : List Value).toArray = args at hts hQ ⊢
  have hl : lv_has ls 5 [(0, .ref aHl), (1, .int (nI w0)), (2, .ref aFc)] := hl
  refine lv_iconst (v := 0) hx hb dX5_total_0 (by decide) ?_
  refine lv_istore_n (lv' := [(3, .int 0), (0, .ref aHl), (1, .int (nI w0)), (2, .ref aFc)]) hx hb dX5_total_1 rfl hl (by decide) rfl (fun ls hl => ?_)
  refine lv_iconst (v := 0) hx hb dX5_total_2 (by decide) ?_
  refine lv_istore (lv' := [(4, .int 0), (3, .int 0), (0, .ref aHl), (1, .int (nI w0)), (2, .ref aFc)]) hx hb dX5_total_3 hl (by decide) rfl (fun ls hl => ?_)
  have L5 : ∀ (nF : Nat) (i : Nat) (q : Int32), cl - i < nF → (i ≤ cl) → (q + tot fFc w0 (cz.drop i) = tot fFc w0 cz) → ∀ (ls : Array Slot), lv_has ls 5 [(0, .ref aHl), (1, .int (nI w0)), (2, .ref aFc), (3, .int q), (4, .int (nI i))] → W p l e ({ frames := 2, cells := 0, slots := 0, locals := 49 } : Room) s m args below meth c s.heap [] 0 0 Q (F0 m 5 ls []) := by
    intro nF
    induction nF with
    | zero => intro i q hm; exact absurd hm (Nat.not_lt_zero _)
    | succ nF ih5 =>
      intro i q hm hi hq9 ls hl
      refine lv_iload hx hb dX5_total_5 (lv_at hl 4 rfl) ?_
      refine lv_aload_n hx hb dX5_total_7 rfl (lv_at hl 0 rfl) ?_
      refine va_get (D := (dC, dI)) (ci := 7) (v := .int (nI cl)) (C := RX5) (T := TX5) (N := 11) hx hb hts kc_total_1 hown hZ.2.1 (hZ.P hS) 0 rfl rfl 1 (by decide) (hts (.fieldLink RX5 59 "MistHeaps$Hill" "clauses" "I") kc_total_0) (fun _ h9 => h9) rfl dX5_total_8 ?_
      refine lv_icmp_ge (tgt := 51) hx hb dX5_total_11 (by decide) (fun c_1 => ?_) (fun c_1 => ?_)
      · skip
        have c_1 : cl ≤ i := (nI_leI (a := cl) (b := i) (by omega) (by omega)).mp c_1
        refine lv_iload_n hx hb dX5_total_51 rfl (lv_at hl 3 rfl) ?_
        rw [hQ]
        exact W.iret (v := q) hx hb hr (fun tQ htQ hWQ => ⟨q, rfl, tt_e hq9 (by have := zHC.1.1; omega), by rw [htQ]⟩) (fun q hq => absurd hq List.not_mem_nil) dX5_total_52
      · skip
        have c_1 : ¬ cl ≤ i := fun q => c_1 ((nI_leI (a := cl) (b := i) (by omega) (by omega)).mpr q)
        refine lv_aload_n hx hb dX5_total_14 rfl (lv_at hl 0 rfl) ?_
        refine va_get (D := (dC, dI)) (ci := 7) (v := .ref bW) (C := RX5) (T := TX5) (N := 11) hx hb hts kc_total_1 hown hZ.2.1 (hZ.P hS) 0 rfl rfl 2 (by decide) (hts (.fieldLink RX5 15 "MistHeaps$Hill" "words" "[I") kc_total_2) (fun _ h9 => h9) rfl dX5_total_15 ?_
        refine lv_iload hx hb dX5_total_18 (lv_at hl 4 rfl) ?_
        refine va_iald hx hb hZ.2.1 (hZ.P hS) 1 0 rfl rfl (vp_in_nI (n := i) (N := 10) (by omega) (by omega)) dX5_total_20 ?_
        have hlc : cz.length = cl := zHC.1.1
        have hw4 := (zHC.2 _ (gC_mem (show i < cz.length by omega))).1
        refine qi_as (y := nI ((cz.getD i dfC).1)) ((show fbW (nI i : Int32).toNatClampNeg = fbW i from by rw [nI_clamp (by omega)]).trans ((zHC.1.2.2.1 i (by omega)).1)) ?_
        refine lv_iload_n hx hb dX5_total_21 rfl (lv_at hl 1 rfl) ?_
        refine lv_icmp_ne (tgt := 45) hx hb dX5_total_22 (by decide) (fun c_2 => ?_) (fun c_2 => ?_)
        · skip
          have c_2 : ¬ ((cz.getD i dfC).1) = w0 := fun q => c_2 ((nI_eq (a := ((cz.getD i dfC).1)) (b := w0) (by omega) (by omega)).mpr q)
          refine lv_iinc (v := nI (i + 1)) (lv' := [(4, .int (nI (i + 1))), (0, .ref aHl), (1, .int (nI w0)), (2, .ref aFc), (3, .int q)]) hx hb dX5_total_45 hl (k := 4) rfl (nI_add i 1) (by decide) rfl (fun ls hl => ?_)
          refine lv_goto (tgt := 5) hx hb dX5_total_48 (by decide) ?_
          exact ih5 (i + 1) (q) (by omega) (by omega) (tt_n hq9 (by omega) c_2) ls (lv_sub hl [1, 2, 3, 4, 0] rfl)
        · skip
          have c_2 : ((cz.getD i dfC).1) = w0 := (nI_eq (a := ((cz.getD i dfC).1)) (b := w0) (by omega) (by omega)).mp c_2
          refine lv_aload_n hx hb dX5_total_25 rfl (lv_at hl 0 rfl) ?_
          refine lv_iload hx hb dX5_total_26 (lv_at hl 4 rfl) ?_
          refine lv_aload_n hx hb dX5_total_28 rfl (lv_at hl 2 rfl) ?_
          have hPc := hP.sub (ws' := [(zaI aFc cFc 6 fFc)]) [0] rfl
          have hKc := hK.sub (tys' := [(cFc, .int)]) [0] rfl
          refine vp_callSi (va_runV (As := [.int (nI i), .ref aFc]) (rest := []) ⟨hx, hb, hml, hown, hts⟩ (c_holds l dC dI  aHl aFc bW bA bE bC cl i sg cdd szz att nmb cFc cbW cbA cbE cbC fFc fbW fbA fbE fbC tpv cz (by omega) (by omega) (by omega) (zcl) (zE) (zC) (zHC)) (cwV 2 hts gX5_total_X5_holds rfl rfl rfl hd_yX5_holds ⟨Nat.le_of_ble_eq_true rfl, Nat.le_of_ble_eq_true rfl⟩) ⟨fun a U g mk q => by obtain ⟨q0, qP, qK, qhZ⟩ := q; exact ⟨q0, qP, va_K.moved (u := U) (U := U.calling g mk a) (Vm.Alike.refl U.vm) qK, qhZ.same rfl rfl⟩, va_recv hZ.2.1 (hZ.P hS) (ci := 7) (q := (RX5, TX5, 11)) (q0 := 0) rfl rfl, fun U hU hW => ⟨rfl, by rw [hU]; exact hPc, va_K.moved hW.alike hKc, (hZ.sub [0, 1, 2, 3, 4] [0, 1, 2, 3] rfl rfl).callF hS hU hW⟩⟩ rfl rfl hl.1 rfl (lv_room (Nat.le_of_ble_eq_true rfl)) dX5_total_29 ⟨Nat.le_of_ble_eq_true rfl, Nat.le_of_ble_eq_true rfl⟩).run (fun r_3 hw_4 => ?_)
          rcases hb_5 : hld fFc (cz.getD i dfC).2.2 with _ | _
          · skip
            obtain rfl : r_3 = 0 := by rw [hw_4, hb_5]; rfl
            refine lv_if_eq (tgt := 45) hx hb dX5_total_32 (by decide) (fun _ => ?_) (fun c_6 => absurd c_6 (by decide))
            refine lv_iinc (v := nI (i + 1)) (lv' := [(4, .int (nI (i + 1))), (0, .ref aHl), (1, .int (nI w0)), (2, .ref aFc), (3, .int q)]) hx hb dX5_total_45 hl (k := 4) rfl (nI_add i 1) (by decide) rfl (fun ls hl => ?_)
            refine lv_goto (tgt := 5) hx hb dX5_total_48 (by decide) ?_
            exact ih5 (i + 1) (q) (by omega) (by omega) (tt_0 hq9 (by omega) hb_5) ls (lv_sub hl [1, 2, 3, 4, 0] rfl)
          · skip
            obtain rfl : r_3 = 1 := by rw [hw_4, hb_5]; rfl
            refine lv_if_eq (tgt := 45) hx hb dX5_total_32 (by decide) (fun c_7 => absurd c_7 (by decide)) (fun _ => ?_)
            refine lv_iload_n hx hb dX5_total_35 rfl (lv_at hl 3 rfl) ?_
            refine lv_aload_n hx hb dX5_total_36 rfl (lv_at hl 0 rfl) ?_
            refine va_get (D := (dC, dI)) (ci := 7) (v := .ref bA) (C := RX5) (T := TX5) (N := 11) hx hb hts kc_total_1 hown hZ.2.1 (hZ.P hS) 0 rfl rfl 3 (by decide) (hts (.fieldLink RX5 19 "MistHeaps$Hill" "amounts" "[I") kc_total_3) (fun _ h9 => h9) rfl dX5_total_37 ?_
            refine lv_iload hx hb dX5_total_40 (lv_at hl 4 rfl) ?_
            refine va_iald hx hb hZ.2.1 (hZ.P hS) 2 1 rfl rfl (vp_in_nI (n := i) (N := 10) (by omega) (by omega)) dX5_total_42 ?_
            refine qi_as (y := nI ((cz.getD i dfC).2.1)) ((show fbA (nI i : Int32).toNatClampNeg = fbA i from by rw [nI_clamp (by omega)]).trans ((zHC.1.2.2.1 i (by omega)).2.1)) ?_
            refine lv_iadd hx hb dX5_total_43 ?_
            refine lv_istore_n (lv' := [(3, .int (q + (nI ((cz.getD i dfC).2.1)))), (0, .ref aHl), (1, .int (nI w0)), (2, .ref aFc), (4, .int (nI i))]) hx hb dX5_total_44 rfl hl (by decide) rfl (fun ls hl => ?_)
            refine lv_iinc (v := nI (i + 1)) (lv' := [(4, .int (nI (i + 1))), (3, .int (q + (nI ((cz.getD i dfC).2.1)))), (0, .ref aHl), (1, .int (nI w0)), (2, .ref aFc)]) hx hb dX5_total_45 hl (k := 4) rfl (nI_add i 1) (by decide) rfl (fun ls hl => ?_)
            refine lv_goto (tgt := 5) hx hb dX5_total_48 (by decide) ?_
            exact ih5 (i + 1) (q + (nI ((cz.getD i dfC).2.1))) (by omega) (by omega) (tt_1 hq9 (by omega) c_2 hb_5) ls (lv_sub hl [2, 3, 4, 1, 0] rfl)
  exact L5 _ (0) (0) (Nat.lt_succ_self _) (by omega) (Int32.zero_add _) ls (lv_sub hl [2, 3, 4, 1, 0] rfl)
